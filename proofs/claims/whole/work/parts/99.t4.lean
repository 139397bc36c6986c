/-! ===== a step: carrying out, whole ===== -/
section T4
variable {n m t : Nat} {σ τ ρ ς : sm_M} {M R v x : Int32} {q : Nat → Nat → Nat → Int32}
theorem sq_o {c : Option Nat} {a b d : Nat} (h : ¬ (a = 5 ∧ d = 7)) : sq c ς q a b d = q a b d := by
  cases c with
  | none => rfl
  | some k => exact if_neg (fun g => h ⟨g.1, g.2.2⟩)
theorem sq_7 {k : Nat} : sq (some k) ς q 5 k 7 = if q 5 k 7 < ς.1 5 k 6 + 1 then ς.1 5 k 6 + 1 else q 5 k 7 := if_pos ⟨rfl, rfl, rfl⟩
theorem sq_n {c : Option Nat} {k : Nat} (h : ¬ c = some k) : sq c ς q 5 k 7 = q 5 k 7 := by
  cases c with
  | none => rfl
  | some j => exact if_neg (fun g => h (by rw [g.2.1]))
theorem e_car (ht : t < n) {N : Nat} (hN : N ≤ 8) : ∀ (l : List (Option Nat × Int32)) (j f : Nat) (ς τ : sm_M) (q : Nat → Nat → Nat → Int32), Rl n m 0 ς τ → Run m t M false j l ς → j + l.length = N → l.length + 1 ≤ f → q 2 0 2 = Int32.ofNat N → (∀ i y, l[i]? = some y → q 9 0 (j + i) = y.2 ∧ q 10 0 (j + i) = cc y.1) →
    ∃ q', f_X5_carryOut_12 f (Int32.ofNat t) t (Int32.ofNat j) (mix plP ς q) = some (mix plP (exL m t l ς) q') ∧ (∀ a b d, ¬ (a = 5 ∧ d = 7) → q' a b d = q a b d) ∧ ∀ c, (ς.1 5 c 6).toInt ≤ ((exL m t l ς).1 5 c 6).toInt ∧ q' 5 c 7 = (if (ς.1 5 c 6).toInt < ((exL m t l ς).1 5 c 6).toInt ∧ (q 5 c 7).toInt < ((exL m t l ς).1 5 c 6).toInt then (exL m t l ς).1 5 c 6 else q 5 c 7) := by
  intro l
  induction l with
  | nil =>
    intro j f ς τ q h hR hj hf h2 hq
    obtain ⟨f, rfl⟩ : ∃ g, f = g + 1 := ⟨f - 1, by simp at hf; omega⟩
    simp only [List.length_nil, Nat.add_zero] at hj
    have m2 : (mix plP ς q).1 2 0 2 = Int32.ofNat N := by rw [mx_s (by rfl)]; exact h2
    refine ⟨q, ?_, fun _ _ _ _ => rfl, fun c => ⟨Int.le_refl _, ?_⟩⟩
    · rw [f_X5_carryOut_12, m2, if_pos (by rw [n_le (by omega) (by omega)]; omega)]; rfl
    · rw [if_neg (fun g => Int.lt_irrefl _ g.1)]
  | cons y l ih =>
    intro j f ς τ q h hR hj hf h2 hq
    obtain ⟨c, v⟩ := y
    have hn := h.n16
    have hm := h.m40
    simp only [List.length_cons] at hj hf
    obtain ⟨f, rfl⟩ : ∃ g, f = g + 1 := ⟨f - 1, by omega⟩
    obtain ⟨⟨h1, hL, h3, h4⟩, hR⟩ := hR
    dsimp only at h1 h4 hR
    obtain ⟨τ2, -, b2, -⟩ := e_item h ht h1 h3 (fun _ _ _ _ _ _ _ _ => none) 0 0 0 0
    have q0 := hq 0 (c, v) rfl
    rw [Nat.add_zero] at q0
    have o10 := (h.T ht).2.2.2.2.2.2.2.2.1
    have E := e_row (q := q) (f := f) (v := v) (show t < 16 by omega) hm (show j < N by omega) hN h2 q0.1 q0.2 (Av_lt h1) h.1.2.2.2.1 h3 o10
    obtain ⟨q', a1, a2, a3⟩ := ih (j + 1) f (ex m t c v ς) τ2 (sq c ς q) b2 hR (by omega) (by omega) (by rw [sq_o (by omega)]; exact h2) (fun i y hy => by
      have := hq (i + 1) y hy
      rw [sq_o (by omega), sq_o (by omega), show j + 1 + i = j + (i + 1) by omega]
      exact this)
    refine ⟨q', by rw [E]; exact a1, fun a b d g => by rw [a2 a b d g, sq_o g], fun c0 => ?_⟩
    have p := a3 c0
    show (ς.1 5 c0 6).toInt ≤ ((exL m t l (ex m t c v ς)).1 5 c0 6).toInt ∧ q' 5 c0 7 = (if (ς.1 5 c0 6).toInt < ((exL m t l (ex m t c v ς)).1 5 c0 6).toInt ∧ (q 5 c0 7).toInt < ((exL m t l (ex m t c v ς)).1 5 c0 6).toInt then (exL m t l (ex m t c v ς)).1 5 c0 6 else q 5 c0 7)
    rw [ex_6] at p
    generalize (exL m t l (ex m t c v ς)).1 5 c0 6 = E6 at p ⊢
    by_cases e : c = some c0
    · subst e
      have hk := h1.2.1.1
      have h6 := h1.2.2.1
      have o := (h.C hk).2
      have e6 := c_inc (x := ς.1 5 c0 6) o.2.2.2.1.1 (by have := o.2.2.1.2.2; omega)
      rw [if_pos rfl, sq_7, e6] at p
      obtain ⟨p1, p2⟩ := p
      refine ⟨by omega, ?_⟩
      rw [p2]
      by_cases g : q 5 c0 7 < ς.1 5 c0 6 + 1
      · rw [if_pos g, e6]
        rw [i_lt, e6] at g
        by_cases g2 : (ς.1 5 c0 6).toInt + 1 < E6.toInt
        · rw [if_pos ⟨g2, g2⟩, if_pos ⟨by omega, by omega⟩]
        · rw [if_neg (fun q => g2 q.1), if_pos ⟨by omega, by omega⟩, i_eq, e6]; omega
      · rw [if_neg g]
        rw [i_lt, e6] at g
        by_cases g2 : (q 5 c0 7).toInt < E6.toInt
        · rw [if_pos ⟨by omega, g2⟩, if_pos ⟨by omega, g2⟩]
        · rw [if_neg (fun q => g2 q.2), if_neg (fun q => g2 q.2)]
    · rw [if_neg e, sq_n e] at p
      exact p
theorem Rl.carry (h : Rl n m 0 ς τ) {τ' : sm_M} (q0 : ∀ k, k ≠ 9 → q 0 0 k = ς.1 0 0 k) (q9 : q 0 0 9 = ς.1 0 0 9 + 1) (b20 : ∀ k, k ≠ 36 → τ'.1 20 0 k = τ.1 20 0 k) (b36 : τ'.1 20 0 36 = τ.1 20 0 36 + 1) (b : ∀ φ, φ ≠ 20 → φ ≠ 41 → τ'.1 φ = τ.1 φ) (b41 : ∀ c, c < m → τ'.1 41 0 c = q 5 c 7) (o7 : ∀ c, c < m → 0 ≤ (q 5 c 7).toInt ∧ (q 5 c 7).toInt ≤ 64) : Rl n m 0 (mix plP ς q) τ' := by
  have s0 : ∀ k, (mix plP ς q).1 0 0 k = q 0 0 k := fun k => mx_s rfl
  have s3 : (mix plP ς q).1 3 = ς.1 3 := mix_fam (by decide) (by decide) (by decide) (by decide) (by decide)
  have s4 : (mix plP ς q).1 4 = ς.1 4 := mix_fam (by decide) (by decide) (by decide) (by decide) (by decide)
  have s5 : ∀ c k, k ≠ 7 → (mix plP ς q).1 5 c k = ς.1 5 c k := fun c k hk => mx_r (pl_5 hk)
  have s7 : ∀ c, (mix plP ς q).1 5 c 7 = q 5 c 7 := fun c => mx_s rfl
  refine h.upd (fun φ a0 a2 _ a5 a9 a10 => mix_fam a0 a2 a9 a10 a5) ⟨b 27 (by decide) (by decide), b 33 (by decide) (by decide), b 37 (by decide) (by decide), b 50 (by decide) (by decide), b 51 (by decide) (by decide), b 52 (by decide) (by decide), b 53 (by decide) (by decide)⟩ ⟨b20 0 (by decide), b20 14 (by decide)⟩ ?_ ?_ (fun u hu => ?_) (fun c hc => ?_) (fun u hu => by rw [s4]; exact ⟨Int.le_refl _, Int.le_refl _, rfl, rfl⟩) (fun c hc => by rw [s5 c 4 (by decide), s5 c 1 (by decide), s5 c 2 (by decide)]; exact ⟨Int.le_refl _, rfl, rfl⟩)
  · obtain ⟨g1, g2, g3, g4, g5, g6, g7, g8, g9, g10⟩ := h.2.1
    unfold bG
    rw [s0, s0, s0, s0, s0, s0, s0, s0, s3, mx_2, b20 32 (by decide), b20 33 (by decide), b20 35 (by decide), b36, b20 37 (by decide), b20 38 (by decide), b20 39 (by decide), b20 43 (by decide), b20 44 (by decide), b20 34 (by decide), q0 4 (by decide), q0 5 (by decide), q0 6 (by decide), q9, q0 11 (by decide), q0 8 (by decide), q0 12 (by decide), q0 10 (by decide)]
    exact ⟨g1, g2, g3, by rw [g4], g5, g6, g7, g8, g9, g10⟩
  · unfold bB
    rw [s0, s0, s0, s0, s0, s3, b20 34 (by decide), q0 4 (by decide), q0 5 (by decide), q0 6 (by decide), q0 11 (by decide), q0 12 (by decide)]
    exact h.2.2.1
  · rw [s4]
    refine ⟨relT_congr (fun φ hφ => ?_) (h.T hu).1, (h.T hu).2⟩
    unfold colK; rw [b φ (by rintro rfl; cases hφ) (by rintro rfl; cases hφ)]
  · have qo : ∀ φ, φ ≠ 20 → φ ≠ 41 → colK τ' c φ = colK τ c φ := fun φ a d => by unfold colK; rw [b φ a d]
    have q41 : colK τ' c 41 = q 5 c 7 := b41 c hc
    constructor
    · obtain ⟨a1, a2, a3, a4, a5, a6, a7, a8, a9, a10, a11⟩ := (h.C hc).1
      unfold relC relL
      rw [qo 34 (by decide) (by decide), qo 35 (by decide) (by decide), qo 36 (by decide) (by decide), qo 38 (by decide) (by decide), qo 39 (by decide) (by decide), qo 40 (by decide) (by decide), q41, qo 42 (by decide) (by decide), qo 43 (by decide) (by decide), qo 47 (by decide) (by decide), qo 48 (by decide) (by decide), qo 49 (by decide) (by decide), s5 c 1 (by decide), s5 c 2 (by decide), s5 c 3 (by decide), s5 c 4 (by decide), s5 c 5 (by decide), s5 c 6 (by decide), s7, s5 c 8 (by decide), s5 c 9 (by decide), s5 c 10 (by decide), s5 c 11 (by decide)]
      exact ⟨a1, a2, a3, a4, a5, a6, rfl, a8, a9, a10, a11⟩
    · obtain ⟨o1, o2, o3, o4, o5, o6, o7', o8, o9⟩ := (h.C hc).2
      unfold okC
      rw [s5 c 1 (by decide), s5 c 2 (by decide), s5 c 3 (by decide), s5 c 4 (by decide), s5 c 5 (by decide), s5 c 6 (by decide), s7, s5 c 8 (by decide), s5 c 9 (by decide), s5 c 10 (by decide), s5 c 11 (by decide)]
      exact ⟨o1, o2, o3, o4, o7 c hc, o6, o7', o8, o9⟩
end T4
