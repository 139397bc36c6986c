/-! ===== causes ===== -/
def blc (t : Nat) (kind : Int32) (σ : sm_M) : sm_M := wI (if (64 : Int32) ≤ σ.1 3 0 3 then σ else wI (wI (wI (wI σ 11 0 (σ.1 3 0 3).toInt.toNat (Int32.ofNat t)) 12 0 (σ.1 3 0 3).toInt.toNat (σ.1 0 0 6)) 13 0 (σ.1 3 0 3).toInt.toNat kind) 3 0 3 (σ.1 3 0 3 + 1)) 4 t 8 (σ.1 4 t 8 + 1)
def blm (t : Nat) (kind : Int32) (τ : sm_M) : sm_M := if (64 : Int32) ≤ τ.1 20 0 39 then wI τ 30 0 t (τ.1 30 0 t + 1) else wI (wI (wI (wI (wI τ 30 0 t (τ.1 30 0 t + 1)) 51 0 (τ.1 20 0 39).toInt.toNat (Int32.ofNat t)) 52 0 (τ.1 20 0 39).toInt.toNat (τ.1 20 0 35)) 53 0 (τ.1 20 0 39).toInt.toNat kind) 20 0 39 (τ.1 20 0 39 + 1)
section BL
variable {n m : Nat} {σ τ : sm_M} {t : Nat} {kind : Int32}
theorem blc_f {e0 : Int32} (h : Rl n m e0 σ τ) (ht : t < n) : ∃ σa, f_X0_putDown (Int32.ofNat t) (σ.1 0 0 6) kind σ = some σa ∧ wI σa 4 t 8 (σa.1 4 t 8 + 1) = blc t kind σ := by
  have o := h.2.2.1.2.2.2.2.2.1
  unfold blc
  by_cases g : (64 : Int32) ≤ σ.1 3 0 3
  · exact ⟨σ, by rw [f_X0_putDown, if_pos g], by rw [if_pos g]⟩
  · have g' := g
    rw [i_le] at g'
    simp at g'
    obtain ⟨k, hk, hk2⟩ := i_get o.1
    have hk3 : (σ.1 3 0 3).toInt.toNat = k := by omega
    have u1 : ∀ (φ : Nat) (ρ : sm_M) (x : Int32), fL φ = 64 → ρ.1 3 = σ.1 3 → uI φ ρ 0 (ρ.1 3 0 3) x = some (wI ρ φ 0 k x) := fun φ ρ x hφ hρ => by rw [hρ, hk]; exact uI_n (by rw [hφ]; omega) (by omega)
    refine ⟨wI (wI (wI (wI σ 11 0 k (Int32.ofNat t)) 12 0 k (σ.1 0 0 6)) 13 0 k kind) 3 0 3 (σ.1 3 0 3 + 1), ?_, ?_⟩
    · rw [f_X0_putDown, if_neg g, u1 11 _ _ rfl rfl, Option.bind_some, u1 12 _ _ rfl (by rw [w_ne (by decide)]), Option.bind_some, u1 13 _ _ rfl (by rw [w_ne (by decide), w_ne (by decide)]), Option.bind_some, sI_s, Option.bind_some, w_ne (ψ := 3) (by decide), w_ne (ψ := 3) (by decide), w_ne (ψ := 3) (by decide)]
    · rw [if_neg g, hk3]
      simp only [w_ne (show (4 : Nat) ≠ 3 by decide), w_ne (show (4 : Nat) ≠ 13 by decide), w_ne (show (4 : Nat) ≠ 12 by decide), w_ne (show (4 : Nat) ≠ 11 by decide), w_ne (show (3 : Nat) ≠ 13 by decide), w_ne (show (3 : Nat) ≠ 12 by decide), w_ne (show (3 : Nat) ≠ 11 by decide)]
theorem blm_f {e0 : Int32} (h : Rl n m e0 σ τ) (ht : t < n) : f_X6_blame (Int32.ofNat t) kind τ = some (blm t kind τ) := by
  have hn := h.n16
  have o := h.2.2.1.2.2.2.2.2.1
  have e39 : τ.1 20 0 39 = σ.1 3 0 3 := h.2.1.2.2.2.2.2.2.1
  unfold blm
  rw [f_X6_blame, aI_n (by show t < 16; omega) (by omega), Option.bind_some, uI_n (by show t < 16; omega) (by omega), Option.bind_some, w_ne (by decide)]
  by_cases g : (64 : Int32) ≤ τ.1 20 0 39
  · rw [if_pos g, if_pos g]
  · have g' := g
    rw [e39, i_le] at g'
    simp at g'
    obtain ⟨k, hk, hk2⟩ := i_get o.1
    have hk3 : (τ.1 20 0 39).toInt.toNat = k := by rw [e39]; omega
    have u1 : ∀ (φ : Nat) (ρ : sm_M) (x : Int32), fL φ = 64 → uI φ ρ 0 (τ.1 20 0 39) x = some (wI ρ φ 0 k x) := fun φ ρ x hφ => by rw [e39, hk]; exact uI_n (by rw [hφ]; omega) (by omega)
    rw [if_neg g, if_neg g, hk3, u1 51 _ _ rfl, Option.bind_some]
    simp only [w_ne (show (20 : Nat) ≠ 51 by decide), w_ne (show (20 : Nat) ≠ 52 by decide), w_ne (show (20 : Nat) ≠ 53 by decide), w_ne (show (20 : Nat) ≠ 30 by decide)]
    rw [u1 52 _ _ rfl, Option.bind_some]
    simp only [w_ne (show (20 : Nat) ≠ 51 by decide), w_ne (show (20 : Nat) ≠ 52 by decide), w_ne (show (20 : Nat) ≠ 53 by decide), w_ne (show (20 : Nat) ≠ 30 by decide)]
    rw [u1 53 _ _ rfl, Option.bind_some]
    simp only [w_ne (show (20 : Nat) ≠ 51 by decide), w_ne (show (20 : Nat) ≠ 52 by decide), w_ne (show (20 : Nat) ≠ 53 by decide), w_ne (show (20 : Nat) ≠ 30 by decide)]
    rw [sI_s, Option.bind_some]
theorem blc_ne {φ : Nat} (h1 : φ ≠ 3) (h2 : φ ≠ 4) (h3 : φ ≠ 11) (h4 : φ ≠ 12) (h5 : φ ≠ 13) : (blc t kind σ).1 φ = σ.1 φ := by
  unfold blc
  rw [w_ne h2]
  by_cases g : (64 : Int32) ≤ σ.1 3 0 3
  · rw [if_pos g]
  · rw [if_neg g, w_ne h1, w_ne h5, w_ne h4, w_ne h3]
theorem blc_4 : (blc t kind σ).1 4 t = ur (σ.1 4 t) 8 (σ.1 4 t 8 + 1) := by
  unfold blc
  rw [w_row]
  by_cases g : (64 : Int32) ≤ σ.1 3 0 3
  · rw [if_pos g]
  · rw [if_neg g, w_ne (by decide), w_ne (by decide), w_ne (by decide), w_ne (by decide)]
theorem blc_4i {j : Nat} (hj : j ≠ t) : (blc t kind σ).1 4 j = σ.1 4 j := by
  unfold blc
  rw [w_i hj]
  by_cases g : (64 : Int32) ≤ σ.1 3 0 3
  · rw [if_pos g]
  · rw [if_neg g, w_ne (by decide), w_ne (by decide), w_ne (by decide), w_ne (by decide)]
theorem blc_2 : (blc t kind σ).2 = σ.2 := by
  unfold blc
  rw [w_2]
  by_cases g : (64 : Int32) ≤ σ.1 3 0 3
  · rw [if_pos g]
  · rw [if_neg g]; rfl
theorem blm_ne {φ : Nat} (h1 : φ ≠ 20) (h2 : φ ≠ 30) (h3 : φ ≠ 51) (h4 : φ ≠ 52) (h5 : φ ≠ 53) : (blm t kind τ).1 φ = τ.1 φ := by
  unfold blm
  by_cases g : (64 : Int32) ≤ τ.1 20 0 39
  · rw [if_pos g, w_ne h2]
  · rw [if_neg g, w_ne h1, w_ne h5, w_ne h4, w_ne h3, w_ne h2]
theorem blm_30 : (blm t kind τ).1 30 = (wI τ 30 0 t (τ.1 30 0 t + 1)).1 30 := by
  unfold blm
  by_cases g : (64 : Int32) ≤ τ.1 20 0 39
  · rw [if_pos g]
  · rw [if_neg g, w_ne (by decide), w_ne (by decide), w_ne (by decide), w_ne (by decide)]
theorem blm_20 {k : Nat} (hk : k ≠ 39) : (blm t kind τ).1 20 0 k = τ.1 20 0 k := by
  unfold blm
  by_cases g : (64 : Int32) ≤ τ.1 20 0 39
  · rw [if_pos g, w_ne (by decide)]
  · rw [if_neg g, w_k hk, w_ne (by decide), w_ne (by decide), w_ne (by decide), w_ne (by decide)]
theorem okT_f {e : Int32} {r : Nat → Int32} (h : okT e r) (h9 : (r 8).toInt ≤ 9) : okT 1 (ur r 8 (r 8 + 1)) := by
  obtain ⟨a1, a2, a3, a4, a5, a6, a7, a8, a9⟩ := h
  have e8 : (r 8 + 1).toInt = (r 8).toInt + 1 := i_add (by show _ ≤ _ + (1 : Int); omega) (by show _ + (1 : Int) < _; omega)
  refine ⟨by simpa [ur] using a1, fun g => by simpa [ur] using a2 (by simpa [ur] using g), fun g => by simpa [ur] using a3 (by simpa [ur] using g), by simpa [ur] using a4, by simpa [ur] using a5, ⟨?_, ?_, fun q => by cases q⟩, by simpa [ur] using a7, by simpa [ur] using a8, by simpa [ur] using a9⟩
  · show 0 ≤ (ur r 8 (r 8 + 1) 8).toInt
    have : ur r 8 (r 8 + 1) 8 = r 8 + 1 := by simp [ur]
    rw [this, e8]; omega
  · have : ur r 8 (r 8 + 1) 8 = r 8 + 1 := by simp [ur]
    rw [this, e8]; omega
set_option maxHeartbeats 4000000 in
theorem bl1 {e0 : Int32} (h : Rl n m e0 σ τ) (ht : t < n) (h9 : (σ.1 4 t 8).toInt ≤ 9) : Rl n m 1 (blc t kind σ) (blm t kind τ) := by
  have hn := h.n16
  obtain ⟨hN, hG, hB, hT, hC, hV, hO, hS, hE, hH⟩ := h
  have o := hB.2.2.2.2.2.1
  have e39 : τ.1 20 0 39 = σ.1 3 0 3 := hG.2.2.2.2.2.2.1
  have e35 : τ.1 20 0 35 = σ.1 0 0 6 := hG.2.2.1
  have c0 := blc_ne (t := t) (kind := kind) (σ := σ) (φ := 0) (by decide) (by decide) (by decide) (by decide) (by decide)
  have c1 := blc_ne (t := t) (kind := kind) (σ := σ) (φ := 1) (by decide) (by decide) (by decide) (by decide) (by decide)
  have c5 := blc_ne (t := t) (kind := kind) (σ := σ) (φ := 5) (by decide) (by decide) (by decide) (by decide) (by decide)
  have c6 := blc_ne (t := t) (kind := kind) (σ := σ) (φ := 6) (by decide) (by decide) (by decide) (by decide) (by decide)
  have kcnt : (blm t kind τ).1 20 0 39 = (blc t kind σ).1 3 0 3 ∧ (0 ≤ ((blc t kind σ).1 3 0 3).toInt ∧ ((blc t kind σ).1 3 0 3).toInt ≤ 64) ∧ bS (blc t kind σ) (blm t kind τ) := by
    by_cases g : (64 : Int32) ≤ σ.1 3 0 3
    · have g2 : (64 : Int32) ≤ τ.1 20 0 39 := by rw [e39]; exact g
      unfold blc blm
      rw [if_pos g, if_pos g2, w_ne (ψ := 3) (by decide), w_ne (ψ := 20) (by decide)]
      refine ⟨e39, o, fun j hj => ?_⟩
      rw [w_ne (by decide)] at hj
      simp only [w_ne (show (51 : Nat) ≠ 30 by decide), w_ne (show (52 : Nat) ≠ 30 by decide), w_ne (show (53 : Nat) ≠ 30 by decide), w_ne (show (11 : Nat) ≠ 4 by decide), w_ne (show (12 : Nat) ≠ 4 by decide), w_ne (show (13 : Nat) ≠ 4 by decide)]
      exact hS j hj
    · have g2 : ¬ (64 : Int32) ≤ τ.1 20 0 39 := by rw [e39]; exact g
      have g' := g
      rw [i_le] at g'
      simp at g'
      have e3 : (σ.1 3 0 3 + 1).toInt = (σ.1 3 0 3).toInt + 1 := i_add (by show _ ≤ _ + (1 : Int); omega) (by show _ + (1 : Int) < _; omega)
      unfold blc blm
      rw [if_neg g, if_neg g2, w_ne (ψ := 3) (by decide), w_eq, w_eq, e39, e35]
      refine ⟨rfl, by rw [e3]; omega, fun j hj => ?_⟩
      rw [w_ne (by decide), w_eq, e3] at hj
      simp only [w_ne (show (11 : Nat) ≠ 4 by decide), w_ne (show (12 : Nat) ≠ 4 by decide), w_ne (show (13 : Nat) ≠ 4 by decide), w_ne (show (11 : Nat) ≠ 3 by decide), w_ne (show (12 : Nat) ≠ 3 by decide), w_ne (show (13 : Nat) ≠ 3 by decide), w_ne (show (11 : Nat) ≠ 13 by decide), w_ne (show (12 : Nat) ≠ 13 by decide), w_ne (show (11 : Nat) ≠ 12 by decide), w_ne (show (13 : Nat) ≠ 12 by decide), w_ne (show (12 : Nat) ≠ 11 by decide), w_ne (show (13 : Nat) ≠ 11 by decide), w_ne (show (51 : Nat) ≠ 20 by decide), w_ne (show (52 : Nat) ≠ 20 by decide), w_ne (show (53 : Nat) ≠ 20 by decide), w_ne (show (51 : Nat) ≠ 53 by decide), w_ne (show (52 : Nat) ≠ 53 by decide), w_ne (show (51 : Nat) ≠ 52 by decide), w_ne (show (53 : Nat) ≠ 52 by decide), w_ne (show (52 : Nat) ≠ 51 by decide), w_ne (show (53 : Nat) ≠ 51 by decide), w_ne (show (51 : Nat) ≠ 30 by decide), w_ne (show (52 : Nat) ≠ 30 by decide), w_ne (show (53 : Nat) ≠ 30 by decide), w_at]
      by_cases e : j = (σ.1 3 0 3).toInt.toNat
      · simp [e]
      · rw [if_neg e, if_neg e, if_neg e, if_neg e, if_neg e, if_neg e]
        exact hS j (by omega)
  refine ⟨?_, ?_, ?_, fun u hu => ?_, fun c hc => ?_, ⟨fun u j hu hj => ?_, fun u j hu hj => ?_, fun c j hc hj => ?_⟩, fun k hk => ?_, kcnt.2.2, fun c f g hc e1 e2 hf hg => ?_, fun u f hu hf => ?_⟩
  · unfold bN; rw [c1, blm_20 (by decide), blm_20 (by decide)]; exact hN
  · unfold bG
    rw [c0, blc_2, kcnt.1]
    simp only [blm_20 (show (32 : Nat) ≠ 39 by decide), blm_20 (show (33 : Nat) ≠ 39 by decide), blm_20 (show (34 : Nat) ≠ 39 by decide), blm_20 (show (35 : Nat) ≠ 39 by decide), blm_20 (show (36 : Nat) ≠ 39 by decide), blm_20 (show (37 : Nat) ≠ 39 by decide), blm_20 (show (38 : Nat) ≠ 39 by decide), blm_20 (show (43 : Nat) ≠ 39 by decide), blm_20 (show (44 : Nat) ≠ 39 by decide)]
    exact ⟨hG.1, hG.2.1, hG.2.2.1, hG.2.2.2.1, hG.2.2.2.2.1, hG.2.2.2.2.2.1, trivial, hG.2.2.2.2.2.2.2⟩
  · unfold bB
    rw [c0, blm_20 (by decide)]
    exact ⟨hB.1, hB.2.1, hB.2.2.1, hB.2.2.2.1, hB.2.2.2.2.1, kcnt.2.1, hB.2.2.2.2.2.2⟩
  · have hTu := hT u hu
    have cols : ∀ φ, isT φ = true → colK (blm t kind τ) u φ = if φ = 30 ∧ u = t then τ.1 30 0 t + 1 else colK τ u φ := fun φ hφ => by
      unfold colK
      by_cases e : φ = 30
      · subst e
        rw [blm_30, w_at]
        by_cases e2 : u = t
        · simp [e2]
        · simp [e2]
      · rw [blm_ne (by rintro rfl; cases hφ) e (by rintro rfl; cases hφ) (by rintro rfl; cases hφ) (by rintro rfl; cases hφ)]
        simp [e]
    by_cases e : u = t
    · subst e
      rw [blc_4]
      obtain ⟨a1, a2, a3, a4, a5, a6, a7, a8, a9, a10, a11, a12, a13, a14⟩ := hTu.1
      refine ⟨relT_congr (q := ur (colK τ u) 30 (σ.1 4 u 8 + 1)) (fun φ hφ => ?_) (by simp [relT, ur, a1, a2, a3, a4, a5, a6, a7, a8, a10, a11, a12, a13, a14]), okT_f hTu.2 h9⟩
      rw [cols φ hφ]
      have a9' : τ.1 30 0 u = σ.1 4 u 8 := a9
      by_cases e2 : φ = 30
      · simp [e2, ur, a9']
      · simp [e2, ur]
    · rw [blc_4i e]
      exact ⟨relT_congr (fun φ hφ => by rw [cols φ hφ, if_neg (fun q => e q.2)]) hTu.1, hTu.2.end (Or.inr rfl)⟩
  · rw [c5]
    refine ⟨relC_congr (fun φ hφ => ?_) (hC c hc).1, (hC c hc).2.end (Or.inr rfl)⟩
    unfold colK
    rw [blm_ne (by rintro rfl; cases hφ) (by rintro rfl; cases hφ) (by rintro rfl; cases hφ) (by rintro rfl; cases hφ) (by rintro rfl; cases hφ)]
  · rw [blm_ne (by decide) (by decide) (by decide) (by decide) (by decide), blc_ne (by decide) (by decide) (by decide) (by decide) (by decide)]
    refine hV.1 u j hu ?_
    by_cases e : u = t
    · subst e; rw [blc_4] at hj; simpa [ur] using hj
    · rw [blc_4i e] at hj; exact hj
  · rw [blm_ne (by decide) (by decide) (by decide) (by decide) (by decide), blc_ne (by decide) (by decide) (by decide) (by decide) (by decide)]
    refine hV.2.1 u j hu ?_
    by_cases e : u = t
    · subst e; rw [blc_4] at hj; simpa [ur] using hj
    · rw [blc_4i e] at hj; exact hj
  · rw [blm_ne (by decide) (by decide) (by decide) (by decide) (by decide), blc_ne (by decide) (by decide) (by decide) (by decide) (by decide)]
    rw [c5] at hj
    exact hV.2.2 c j hc hj
  · rw [c6, blm_ne (by decide) (by decide) (by decide) (by decide) (by decide)]; exact hO k hk
  · rw [c5] at e1 e2
    have : ∀ u k, k ≠ 8 → (blc t kind σ).1 4 u k = σ.1 4 u k := fun u k hk => by
      by_cases e : u = t
      · subst e; rw [blc_4]; simp [ur, hk]
      · rw [blc_4i e]
    rw [this f 2 (by decide), this g 2 (by decide)]
    exact hE c f g hc e1 e2 hf hg
  · have : (blc t kind σ).1 4 u 5 = σ.1 4 u 5 := by
      by_cases e : u = t
      · subst e; rw [blc_4]; simp [ur]
      · rw [blc_4i e]
    rw [this, c5]; exact hH u f hu hf
end BL
