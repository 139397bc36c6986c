/-! ===== a step: the reference holds, undoes, and sees ===== -/
section T5
variable {n m t : Nat} {σ τ ρ ς : sm_M} {M R v x : Int32}
theorem e_hold (hm : m ≤ 40) (e3 : τ.1 20 0 14 = Int32.ofNat m) : ∃ τ', f_X6_holdAll τ = some τ' ∧ (∀ φ, φ ≠ 55 → φ ≠ 56 → φ ≠ 57 → τ'.1 φ = τ.1 φ) ∧ ∀ c, c < m → τ'.1 55 0 c = τ.1 38 0 c ∧ τ'.1 56 0 c = τ.1 39 0 c ∧ τ'.1 57 0 c = τ.1 40 0 c := by
  obtain ⟨s', h1, h2⟩ := loopE (F := fun f x (s : sm_M) => f_X6_holdAll_2 f x s) (X := some) (N := m) (by omega) (fun i s => (∀ φ, φ ≠ 55 → φ ≠ 56 → φ ≠ 57 → s.1 φ = τ.1 φ) ∧ ∀ c, c < i → s.1 55 0 c = τ.1 38 0 c ∧ s.1 56 0 c = τ.1 39 0 c ∧ s.1 57 0 c = τ.1 40 0 c)
    (fun f i s hi hp => by
      obtain ⟨p1, p2⟩ := hp
      have ai : ∀ (φ : Nat) (s : sm_M), fL φ = 40 → aI φ s 0 (Int32.ofNat i) = some (s.1 φ 0 i) := fun φ s hφ => aI_n (by rw [hφ]; omega) (by omega)
      have ui : ∀ (φ : Nat) (s : sm_M) (x : Int32), fL φ = 40 → uI φ s 0 (Int32.ofNat i) x = some (wI s φ 0 i x) := fun φ s x hφ => uI_n (by rw [hφ]; omega) (by omega)
      refine ⟨wI (wI (wI s 55 0 i (s.1 38 0 i)) 56 0 i (s.1 39 0 i)) 57 0 i (s.1 40 0 i), ⟨fun φ a b c => by rw [w_ne c, w_ne b, w_ne a]; exact p1 φ a b c, fun c hc => ?_⟩, ?_⟩
      · rw [w_ne (show (55 : Nat) ≠ 57 by decide), w_ne (show (55 : Nat) ≠ 56 by decide), w_ne (show (56 : Nat) ≠ 57 by decide), w_at, w_at, w_at, w_ne (show (56 : Nat) ≠ 55 by decide), w_ne (show (57 : Nat) ≠ 56 by decide), w_ne (show (57 : Nat) ≠ 55 by decide)]
        by_cases e : c = i
        · subst e
          rw [if_pos rfl, if_pos rfl, if_pos rfl, p1 38 (by decide) (by decide) (by decide), p1 39 (by decide) (by decide) (by decide), p1 40 (by decide) (by decide) (by decide)]
          exact ⟨rfl, rfl, rfl⟩
        · rw [if_neg e, if_neg e, if_neg e]; exact p2 c (by omega)
      · show f_X6_holdAll_2 (f + 1) (Int32.ofNat i) s = f_X6_holdAll_2 f (Int32.ofNat (i + 1)) _
        rw [f_X6_holdAll_2, p1 20 (by decide) (by decide) (by decide), e3, if_neg (by rw [n_le (by omega) (by omega)]; omega), ai 38 _ rfl, Option.bind_some, ui 55 _ _ rfl, Option.bind_some, ai 39 _ rfl, Option.bind_some, ui 56 _ _ rfl, Option.bind_some, ai 40 _ rfl, Option.bind_some, ui 57 _ _ rfl, Option.bind_some, n_inc, w_ne (show (39 : Nat) ≠ 55 by decide), w_ne (show (40 : Nat) ≠ 56 by decide), w_ne (show (40 : Nat) ≠ 55 by decide)])
    (fun f s hp => by
      show f_X6_holdAll_2 (f + 1) (Int32.ofNat m) s = _
      rw [f_X6_holdAll_2, hp.1 20 (by decide) (by decide) (by decide), e3, if_pos (by rw [n_le (by omega) (by omega)]; omega)]) τ ⟨fun _ _ _ _ => rfl, fun c hc => absurd hc (Nat.not_lt_zero c)⟩
  exact ⟨s', by rw [f_X6_holdAll]; exact h2, h1⟩
theorem e_undo (hm : m ≤ 40) (e3 : τ.1 20 0 14 = Int32.ofNat m) : ∃ τ', f_X6_undoAll τ = some τ' ∧ (∀ φ, φ ≠ 38 → φ ≠ 39 → φ ≠ 40 → τ'.1 φ = τ.1 φ) ∧ ∀ c, c < m → τ'.1 38 0 c = τ.1 55 0 c ∧ τ'.1 39 0 c = τ.1 56 0 c ∧ τ'.1 40 0 c = τ.1 57 0 c := by
  obtain ⟨s', h1, h2⟩ := loopE (F := fun f x (s : sm_M) => f_X6_undoAll_2 f x s) (X := some) (N := m) (by omega) (fun i s => (∀ φ, φ ≠ 38 → φ ≠ 39 → φ ≠ 40 → s.1 φ = τ.1 φ) ∧ ∀ c, c < i → s.1 38 0 c = τ.1 55 0 c ∧ s.1 39 0 c = τ.1 56 0 c ∧ s.1 40 0 c = τ.1 57 0 c)
    (fun f i s hi hp => by
      obtain ⟨p1, p2⟩ := hp
      have ai : ∀ (φ : Nat) (s : sm_M), fL φ = 40 → aI φ s 0 (Int32.ofNat i) = some (s.1 φ 0 i) := fun φ s hφ => aI_n (by rw [hφ]; omega) (by omega)
      have ui : ∀ (φ : Nat) (s : sm_M) (x : Int32), fL φ = 40 → uI φ s 0 (Int32.ofNat i) x = some (wI s φ 0 i x) := fun φ s x hφ => uI_n (by rw [hφ]; omega) (by omega)
      refine ⟨wI (wI (wI s 38 0 i (s.1 55 0 i)) 39 0 i (s.1 56 0 i)) 40 0 i (s.1 57 0 i), ⟨fun φ a b c => by rw [w_ne c, w_ne b, w_ne a]; exact p1 φ a b c, fun c hc => ?_⟩, ?_⟩
      · rw [w_ne (show (38 : Nat) ≠ 40 by decide), w_ne (show (38 : Nat) ≠ 39 by decide), w_ne (show (39 : Nat) ≠ 40 by decide), w_at, w_at, w_at, w_ne (show (39 : Nat) ≠ 38 by decide), w_ne (show (40 : Nat) ≠ 39 by decide), w_ne (show (40 : Nat) ≠ 38 by decide)]
        by_cases e : c = i
        · subst e
          rw [if_pos rfl, if_pos rfl, if_pos rfl, p1 55 (by decide) (by decide) (by decide), p1 56 (by decide) (by decide) (by decide), p1 57 (by decide) (by decide) (by decide)]
          exact ⟨rfl, rfl, rfl⟩
        · rw [if_neg e, if_neg e, if_neg e]; exact p2 c (by omega)
      · show f_X6_undoAll_2 (f + 1) (Int32.ofNat i) s = f_X6_undoAll_2 f (Int32.ofNat (i + 1)) _
        rw [f_X6_undoAll_2, p1 20 (by decide) (by decide) (by decide), e3, if_neg (by rw [n_le (by omega) (by omega)]; omega), ai 55 _ rfl, Option.bind_some, ui 38 _ _ rfl, Option.bind_some, ai 56 _ rfl, Option.bind_some, ui 39 _ _ rfl, Option.bind_some, ai 57 _ rfl, Option.bind_some, ui 40 _ _ rfl, Option.bind_some, n_inc, w_ne (show (56 : Nat) ≠ 38 by decide), w_ne (show (57 : Nat) ≠ 39 by decide), w_ne (show (57 : Nat) ≠ 38 by decide)])
    (fun f s hp => by
      show f_X6_undoAll_2 (f + 1) (Int32.ofNat m) s = _
      rw [f_X6_undoAll_2, hp.1 20 (by decide) (by decide) (by decide), e3, if_pos (by rw [n_le (by omega) (by omega)]; omega)]) τ ⟨fun _ _ _ _ => rfl, fun c hc => absurd hc (Nat.not_lt_zero c)⟩
  exact ⟨s', by rw [f_X6_undoAll]; exact h2, h1⟩
theorem e_seen (hm : m ≤ 40) (e3 : τ.1 20 0 14 = Int32.ofNat m) : ∃ τ', f_X6_step_60 1000 v 0 τ = some (v, τ') ∧ (∀ φ, φ ≠ 41 → τ'.1 φ = τ.1 φ) ∧ ∀ c, c < m → τ'.1 41 0 c = if (τ.1 57 0 c).toInt < (τ.1 40 0 c).toInt ∧ (τ.1 41 0 c).toInt < (τ.1 40 0 c).toInt then τ.1 40 0 c else τ.1 41 0 c := by
  obtain ⟨s', h1, h2⟩ := loopE (F := fun f x (s : sm_M) => f_X6_step_60 f v x s) (X := fun s => f_X6_step_125 v s) (N := m) (by omega) (fun i s => (∀ φ, φ ≠ 41 → s.1 φ = τ.1 φ) ∧ (∀ c, c < i → s.1 41 0 c = if (τ.1 57 0 c).toInt < (τ.1 40 0 c).toInt ∧ (τ.1 41 0 c).toInt < (τ.1 40 0 c).toInt then τ.1 40 0 c else τ.1 41 0 c) ∧ ∀ c, i ≤ c → s.1 41 0 c = τ.1 41 0 c)
    (fun f i s hi hp => by
      obtain ⟨p1, p2, p3⟩ := hp
      have ai : ∀ (φ : Nat) (s : sm_M), fL φ = 40 → aI φ s 0 (Int32.ofNat i) = some (s.1 φ 0 i) := fun φ s hφ => aI_n (by rw [hφ]; omega) (by omega)
      have ui : ∀ (φ : Nat) (s : sm_M) (x : Int32), fL φ = 40 → uI φ s 0 (Int32.ofNat i) x = some (wI s φ 0 i x) := fun φ s x hφ => uI_n (by rw [hφ]; omega) (by omega)
      have e40 := p1 40 (by decide)
      have e57 := p1 57 (by decide)
      have e41 := p3 i (Nat.le_refl i)
      refine ⟨wI s 41 0 i (if (τ.1 57 0 i).toInt < (τ.1 40 0 i).toInt ∧ (τ.1 41 0 i).toInt < (τ.1 40 0 i).toInt then τ.1 40 0 i else τ.1 41 0 i), ⟨fun φ a => by rw [w_ne a]; exact p1 φ a, fun c hc => ?_, fun c hc => ?_⟩, ?_⟩
      · rw [w_at]
        by_cases e : c = i
        · subst e; rw [if_pos rfl]
        · rw [if_neg e]; exact p2 c (by omega)
      · rw [w_at, if_neg (by omega)]; exact p3 c (by omega)
      · show f_X6_step_60 (f + 1) v (Int32.ofNat i) s = f_X6_step_60 f v (Int32.ofNat (i + 1)) _
        rw [f_X6_step_60, p1 20 (by decide), e3, if_neg (by rw [n_le (by omega) (by omega)]; omega), ai 40 _ rfl, Option.bind_some, ai 57 _ rfl, Option.bind_some, Option.bind_some, ai 41 _ rfl, Option.bind_some, Option.bind_some, f_X6_step_112, ai 41 _ rfl, Option.bind_some, f_X6_step_118, f_X6_step_118, ui 41 _ _ rfl, Option.bind_some, ui 41 _ _ rfl, Option.bind_some, n_inc, e40, e57, e41]
        by_cases g : τ.1 40 0 i ≤ τ.1 57 0 i
        · rw [if_pos g]
          rw [i_le] at g
          rw [if_neg (fun q => by omega)]
        · rw [if_neg g]
          rw [i_le] at g
          by_cases g2 : τ.1 40 0 i ≤ τ.1 41 0 i
          · rw [if_pos g2]
            rw [i_le] at g2
            rw [if_neg (fun q => by omega)]
          · rw [if_neg g2]
            rw [i_le] at g2
            rw [if_pos ⟨by omega, by omega⟩])
    (fun f s hp => by
      show f_X6_step_60 (f + 1) v (Int32.ofNat m) s = _
      rw [f_X6_step_60, hp.1 20 (by decide), e3, if_pos (by rw [n_le (by omega) (by omega)]; omega)]) τ ⟨fun _ _ => rfl, fun c hc => absurd hc (Nat.not_lt_zero c), fun _ _ => rfl⟩
  exact ⟨s', h2, h1.1, h1.2.1⟩
set_option maxHeartbeats 1000000 in
theorem Rl.undo {τ0 τ' : sm_M} (h0 : Rl n m 0 σ τ0) (h : Rl n m 0 ς τ) (f : Fr m t σ ς) (ht : t < n) (c24 : ∀ u, τ'.1 24 0 u = if u = t then σ.1 4 t 11 else τ.1 24 0 u) (c25 : ∀ u, τ'.1 25 0 u = if u = t then σ.1 4 t 12 else τ.1 25 0 u) (c26 : ∀ u, τ'.1 26 0 u = if u = t then σ.1 4 t 13 else τ.1 26 0 u) (c34 : τ'.1 20 0 34 = τ0.1 20 0 34) (c20 : ∀ k, k ≠ 34 → τ'.1 20 0 k = τ.1 20 0 k)
    (b : ∀ φ, φ ≠ 20 → φ ≠ 24 → φ ≠ 25 → φ ≠ 26 → φ ≠ 38 → φ ≠ 39 → φ ≠ 40 → τ'.1 φ = τ.1 φ) (c38 : ∀ c, c < m → τ'.1 38 0 c = σ.1 5 c 4 ∧ τ'.1 39 0 c = σ.1 5 c 5 ∧ τ'.1 40 0 c = σ.1 5 c 6) : Rl n m 0 σ τ' := by
  obtain ⟨f1, f2, f3, f4, f5, f6, -, -⟩ := f
  have r0 : ς.1 0 = σ.1 0 := f1 0 (by decide) (by decide) (by decide) (by decide)
  have r3 : ς.1 3 = σ.1 3 := f1 3 (by decide) (by decide) (by decide) (by decide)
  have bb : ∀ φ, φ ≠ 20 → (φ < 24 ∨ 26 < φ) → (φ < 38 ∨ 40 < φ) → τ'.1 φ = τ.1 φ := fun φ a c d => b φ a (by omega) (by omega) (by omega) (by omega) (by omega) (by omega)
  refine ⟨?_, ?_, ?_, fun u hu => ⟨?_, (h0.T hu).2⟩, fun c hc => ⟨?_, (h0.C hc).2⟩, ⟨fun u j hu hj => ?_, fun u j hu hj => ?_, fun c j hc hj => ?_⟩, fun k hk => ?_, fun j hj => ?_, h0.E, h0.H⟩
  · obtain ⟨a1, a2, a3, a4, -, -⟩ := h0.1
    obtain ⟨-, -, -, -, a5, a6⟩ := h.1
    exact ⟨a1, a2, a3, a4, by rw [c20 0 (by decide)]; exact a5, by rw [c20 14 (by decide)]; exact a6⟩
  · obtain ⟨g1, g2, g3, g4, g5, g6, g7, g8, g9, -⟩ := h.2.1
    rw [r0] at g1 g2 g3 g4 g5 g6 g8 g9
    rw [r3] at g7
    refine ⟨?_, ?_, ?_, ?_, ?_, ?_, ?_, ?_, ?_, by rw [c34]; exact h0.2.1.2.2.2.2.2.2.2.2.2⟩
    · rw [c20 32 (by decide)]; exact g1
    · rw [c20 33 (by decide)]; exact g2
    · rw [c20 35 (by decide)]; exact g3
    · rw [c20 36 (by decide)]; exact g4
    · rw [c20 37 (by decide)]; exact g5
    · rw [c20 38 (by decide)]; exact g6
    · rw [c20 39 (by decide)]; exact g7
    · rw [c20 43 (by decide)]; exact g8
    · rw [c20 44 (by decide)]; exact g9
  · have := h0.2.2.1
    unfold bB at this ⊢
    rw [c34]; exact this
  · have hT := (h.T hu).1
    by_cases e : u = t
    · subst e
      obtain ⟨a1, a2, a3, a4, a5, a6, a7, a8, a9, a10, a11, a12, a13, a14⟩ := hT
      have k : ∀ j, j ≠ 11 → j ≠ 12 → j ≠ 13 → ς.1 4 u j = σ.1 4 u j := f3
      have cc : ∀ φ, φ ≠ 20 → (φ < 24 ∨ 26 < φ) → (φ < 38 ∨ 40 < φ) → colK τ' u φ = colK τ u φ := fun φ a c d => by unfold colK; rw [bb φ a c d]
      refine ⟨?_, ?_, ?_, ?_, ?_, ?_, ?_, ?_, ?_, ?_, ?_, ?_, ?_, ?_⟩
      · rw [cc 21 (by decide) (by omega) (by omega), a1, k 2 (by decide) (by decide) (by decide)]
      · rw [cc 22 (by decide) (by omega) (by omega), a2, k 3 (by decide) (by decide) (by decide)]
      · rw [cc 23 (by decide) (by omega) (by omega), a3, k 4 (by decide) (by decide) (by decide)]
      · show τ'.1 24 0 u = _; rw [c24, if_pos rfl]
      · show τ'.1 25 0 u = _; rw [c25, if_pos rfl]
      · show τ'.1 26 0 u = _; rw [c26, if_pos rfl]
      · rw [cc 28 (by decide) (by omega) (by omega), a7, k 6 (by decide) (by decide) (by decide)]
      · rw [cc 29 (by decide) (by omega) (by omega), a8, k 7 (by decide) (by decide) (by decide)]
      · rw [cc 30 (by decide) (by omega) (by omega), a9, k 8 (by decide) (by decide) (by decide)]
      · rw [cc 31 (by decide) (by omega) (by omega), a10, k 9 (by decide) (by decide) (by decide)]
      · rw [cc 32 (by decide) (by omega) (by omega), a11, k 10 (by decide) (by decide) (by decide)]
      · rw [cc 44 (by decide) (by omega) (by omega), a12, k 14 (by decide) (by decide) (by decide)]
      · rw [cc 45 (by decide) (by omega) (by omega), a13, k 15 (by decide) (by decide) (by decide)]
      · rw [cc 46 (by decide) (by omega) (by omega), a14, k 16 (by decide) (by decide) (by decide)]
    · rw [(f2 u e).1] at hT
      refine relT_congr (fun φ hφ => ?_) hT
      unfold colK
      by_cases e4 : φ = 24
      · subst e4; rw [c24, if_neg e]
      · by_cases e5 : φ = 25
        · subst e5; rw [c25, if_neg e]
        · by_cases e6 : φ = 26
          · subst e6; rw [c26, if_neg e]
          · rw [b φ (by rintro rfl; cases hφ) e4 e5 e6 (by rintro rfl; cases hφ) (by rintro rfl; cases hφ) (by rintro rfl; cases hφ)]
  · obtain ⟨a1, a2, a3, a4, a5, a6, a7, a8, a9, a10, a11⟩ := (h.C hc).1
    have k : ∀ j, j ≠ 4 → j ≠ 5 → j ≠ 6 → ς.1 5 c j = σ.1 5 c j := f4 c
    have cc : ∀ φ, φ ≠ 20 → (φ < 24 ∨ 26 < φ) → (φ < 38 ∨ 40 < φ) → colK τ' c φ = colK τ c φ := fun φ a c d => by unfold colK; rw [bb φ a c d]
    refine ⟨?_, ?_, ?_, (c38 c hc).1, (c38 c hc).2.1, (c38 c hc).2.2, ?_, ?_, ?_, ?_, ?_⟩
    · rw [cc 34 (by decide) (by omega) (by omega), a1, k 1 (by decide) (by decide) (by decide)]
    · rw [cc 35 (by decide) (by omega) (by omega), a2, k 2 (by decide) (by decide) (by decide)]
    · rw [cc 36 (by decide) (by omega) (by omega), a3, k 3 (by decide) (by decide) (by decide)]
    · rw [cc 41 (by decide) (by omega) (by omega), a7, k 7 (by decide) (by decide) (by decide)]
    · rw [cc 47 (by decide) (by omega) (by omega), a8, k 9 (by decide) (by decide) (by decide)]
    · rw [cc 48 (by decide) (by omega) (by omega), a9, k 10 (by decide) (by decide) (by decide)]
    · rw [cc 49 (by decide) (by omega) (by omega), a10, k 11 (by decide) (by decide) (by decide)]
    · unfold relL at a11 ⊢
      rw [cc 42 (by decide) (by omega) (by omega), cc 43 (by decide) (by omega) (by omega), ← k 8 (by decide) (by decide) (by decide), ← k 9 (by decide) (by decide) (by decide)]
      exact a11
  · rw [bb 27 (by decide) (by omega) (by omega)]
    by_cases e : u = t
    · subst e
      rw [h.V.1 u j hu (by have := f6.1; omega), f6.2 j hj]
    · have k := (f2 u e).1
      rw [h.V.1 u j hu (by rw [k]; exact hj), (f2 u e).2]
  · have k10 : ς.1 4 u 10 = σ.1 4 u 10 := by
      by_cases e : u = t
      · subst e; exact f3 10 (by decide) (by decide) (by decide)
      · rw [(f2 u e).1]
    rw [bb 33 (by decide) (by omega) (by omega), h.V.2.1 u j hu (by rw [k10]; exact hj), f1 15 (by decide) (by decide) (by decide) (by decide)]
  · rw [bb 37 (by decide) (by omega) (by omega), h.V.2.2 c j hc (by have := (f5 c hc).1; omega), (f5 c hc).2 j hj]
  · have := h.O k hk
    rw [f1 6 (by decide) (by decide) (by decide) (by decide)] at this
    rw [bb 50 (by decide) (by omega) (by omega)]; exact this
  · have := h.S j (by rw [r3]; exact hj)
    rw [f1 11 (by decide) (by decide) (by decide) (by decide), f1 12 (by decide) (by decide) (by decide) (by decide), f1 13 (by decide) (by decide) (by decide) (by decide)] at this
    rw [bb 51 (by decide) (by omega) (by omega), bb 52 (by decide) (by omega) (by omega), bb 53 (by decide) (by omega) (by omega)]; exact this
end T5
