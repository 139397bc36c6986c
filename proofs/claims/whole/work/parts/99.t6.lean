/-! ===== a step that throws: narrower, or set aside ===== -/
def narX (v1 : Int32) (τ : sm_M) : Option (Int32 × sm_M) :=
  (aI 29 τ 0 v1).bind fun x5 =>
  if x5 ≤ (1 : Int32) then
    if (τ.1 20 0 33) = 0 then
      f_X6_step_212 v1 τ
    else
      (aI 32 τ 0 v1).bind fun x6 =>
      if (8 : Int32) ≤ x6 then
        f_X6_step_212 v1 τ
      else
        (aI 32 τ 0 v1).bind fun x7 =>
        (aI 24 τ 0 v1).bind fun x8 =>
        (uI 33 τ 0 (((8 : Int32) * v1) + x7) x8).bind fun σ9 =>
        (aI 32 σ9 0 v1).bind fun x10 =>
        (uI 32 σ9 0 v1 (x10 + (1 : Int32))).bind fun σ11 =>
        (uI 29 σ11 0 v1 (8 : Int32)).bind fun σ12 =>
        f_X6_step_212 v1 σ12
  else
    (aI 29 τ 0 v1).bind fun x13 =>
    if (2 : Int32) = 0 then none else
    (uI 29 τ 0 v1 (x13 / (2 : Int32))).bind fun σ14 =>
    f_X6_step_212 v1 σ14
section T6
variable {n m t : Nat} {σ τ ρ ς : sm_M} {e0 v x : Int32}
theorem Rl.width (h : Rl n m e0 σ τ) (ht : t < n) (hx : 1 ≤ x.toInt ∧ x.toInt ≤ 8) : Rl n m e0 (wI σ 4 t 7 x) (wI τ 29 0 t x) := by
  have un : ∀ k, k ≠ 7 → ur (σ.1 4 t) 7 x k = σ.1 4 t k := fun k hk => by simp [ur, hk]
  have u7 : ur (σ.1 4 t) 7 x 7 = x := by simp [ur]
  refine h.task ht (fun φ q => by rw [w_ne q]) rfl (fun j q => by rw [w_i q]) (fun φ q => by rw [w_ne (by rintro rfl; cases q)]) (fun j q φ _ => ?_) ?_ ?_ ?_ ?_ ?_ ?_ (Or.inl rfl)
  · exact congrFun (w_col2 (τ := τ) (φ := 29) (v := x) q) φ
  · rw [w_row, w_col]
    obtain ⟨a1, a2, a3, a4, a5, a6, a7, a8, a9, a10, a11, a12, a13, a14⟩ := (h.T ht).1
    simp [relT, ur, a1, a2, a3, a4, a5, a6, a7, a9, a10, a11, a12, a13, a14]
  · rw [w_row]
    have o := (h.T ht).2
    unfold okT at o ⊢
    rw [u7, un 2 (by decide), un 3 (by decide), un 4 (by decide), un 8 (by decide), un 9 (by decide), un 10 (by decide), un 11 (by decide), un 13 (by decide), un 14 (by decide), un 16 (by decide)]
    exact ⟨o.1, o.2.1, o.2.2.1, o.2.2.2.1, hx, o.2.2.2.2.2⟩
  · rw [w_row, un 13 (by decide)]; exact Int.le_refl _
  · rw [w_row, un 10 (by decide)]; exact Int.le_refl _
  · rw [w_row, un 2 (by decide)]
  · rw [w_row, un 5 (by decide)]
set_option maxHeartbeats 1000000 in
theorem Rl.asideOne (h : Rl n m e0 σ τ) (ht : t < n) (h1 : (σ.1 4 t 10).toInt < 8) : Rl n m e0 (wI (wI σ 15 t (σ.1 4 t 10).toInt.toNat x) 4 t 10 (σ.1 4 t 10 + 1)) (wI (wI τ 33 0 (8 * t + (σ.1 4 t 10).toInt.toNat) x) 32 0 t (σ.1 4 t 10 + 1)) := by
  have hn := h.n16
  obtain ⟨o1, o2, o3, o4, o5, o6, o7, o8, o9⟩ := (h.T ht).2
  have e10 := c_inc (x := σ.1 4 t 10) (by omega) (by omega)
  obtain ⟨S, hS⟩ : ∃ S, S = wI (wI σ 15 t (σ.1 4 t 10).toInt.toNat x) 4 t 10 (σ.1 4 t 10 + 1) := ⟨_, rfl⟩
  obtain ⟨Q, hQ⟩ : ∃ Q, Q = wI (wI τ 33 0 (8 * t + (σ.1 4 t 10).toInt.toNat) x) 32 0 t (σ.1 4 t 10 + 1) := ⟨_, rfl⟩
  rw [← hS, ← hQ]
  have a : ∀ φ, φ ≠ 4 → φ ≠ 15 → S.1 φ = σ.1 φ := fun φ q r => by rw [hS, w_ne q, w_ne r]
  have a4 : S.1 4 t = ur (σ.1 4 t) 10 (σ.1 4 t 10 + 1) := by rw [hS, w_row, w_ne (by decide)]
  have a4i : ∀ u, u ≠ t → S.1 4 u = σ.1 4 u := fun u q => by rw [hS, w_i q, w_ne (by decide)]
  have a15 : ∀ u j, S.1 15 u j = if u = t ∧ j = (σ.1 4 t 10).toInt.toNat then x else σ.1 15 u j := fun u j => by
    rw [hS, w_ne (by decide)]
    by_cases q : u = t
    · subst q; rw [w_at]
      by_cases q2 : j = (σ.1 4 u 10).toInt.toNat
      · rw [if_pos q2, if_pos ⟨rfl, q2⟩]
      · rw [if_neg q2, if_neg (fun x => q2 x.2)]
    · rw [w_i q, if_neg (fun x => q x.1)]
  have s2 : S.2 = σ.2 := by rw [hS]; rfl
  have un : ∀ k, k ≠ 10 → ur (σ.1 4 t) 10 (σ.1 4 t 10 + 1) k = σ.1 4 t k := fun k hk => by simp [ur, hk]
  have u10 : ur (σ.1 4 t) 10 (σ.1 4 t 10 + 1) 10 = σ.1 4 t 10 + 1 := by simp [ur]
  have b : ∀ φ, φ ≠ 32 → φ ≠ 33 → Q.1 φ = τ.1 φ := fun φ q r => by rw [hQ, w_ne q, w_ne r]
  have b32 : Q.1 32 = (wI τ 32 0 t (σ.1 4 t 10 + 1)).1 32 := by
    rw [hQ]
    funext i j
    simp [wI, sm_up]
  have b33 : ∀ j, Q.1 33 0 j = if j = 8 * t + (σ.1 4 t 10).toInt.toNat then x else τ.1 33 0 j := fun j => by rw [hQ, w_ne (by decide), w_at]
  refine h.upV (fun φ _ _ q _ _ _ _ r _ => a φ q r) ⟨b 50 (by decide) (by decide), b 51 (by decide) (by decide), b 52 (by decide) (by decide), b 53 (by decide) (by decide)⟩ ⟨by rw [b 20 (by decide) (by decide)], by rw [b 20 (by decide) (by decide)]⟩ ?_ ?_ (fun u hu => ?_) (fun j hj => ?_) ⟨fun u j hu hj => ?_, fun u j hu hj => ?_, fun d j hd hj => ?_⟩ (fun u hu => ?_) (fun j hj => by rw [a 5 (by decide) (by decide)]; exact ⟨rfl, rfl⟩)
  · unfold bG; rw [a 0 (by decide) (by decide), a 3 (by decide) (by decide), b 20 (by decide) (by decide), s2]; exact h.2.1
  · unfold bB; rw [a 0 (by decide) (by decide), a 3 (by decide) (by decide), b 20 (by decide) (by decide)]; exact h.2.2.1
  · by_cases e : u = t
    · subst e
      rw [a4]
      constructor
      · obtain ⟨a1, a2, a3, a4, a5, a6, a7, a8, a9, a10, a11, a12, a13, a14⟩ := (h.T ht).1
        refine relT_congr (q := ur (colK τ u) 32 (σ.1 4 u 10 + 1)) (fun φ hφ => ?_) (by simp [relT, ur, a1, a2, a3, a4, a5, a6, a7, a8, a9, a10, a12, a13, a14])
        unfold colK
        by_cases e2 : φ = 32
        · subst e2; rw [b32, w_eq]; simp [ur]
        · rw [b φ e2 (by rintro rfl; cases hφ)]; simp [ur, e2]
      · unfold okT
        rw [u10, un 2 (by decide), un 3 (by decide), un 4 (by decide), un 7 (by decide), un 8 (by decide), un 9 (by decide), un 11 (by decide), un 13 (by decide), un 14 (by decide), un 16 (by decide), e10]
        exact ⟨o1, o2, o3, o4, o5, o6, o7, by omega, o9⟩
    · rw [a4i u e]
      refine ⟨relT_congr (fun φ hφ => ?_) (h.T hu).1, (h.T hu).2⟩
      unfold colK
      by_cases e2 : φ = 32
      · subst e2; rw [b32, w_k e]
      · rw [b φ e2 (by rintro rfl; cases hφ)]
  · rw [a 5 (by decide) (by decide)]
    refine ⟨relC_congr (fun φ hφ => ?_) (h.C hj).1, (h.C hj).2⟩
    unfold colK; rw [b φ (by rintro rfl; cases hφ) (by rintro rfl; cases hφ)]
  · rw [b 27 (by decide) (by decide), a 14 (by decide) (by decide)]
    refine h.V.1 u j hu ?_
    by_cases e : u = t
    · subst e; rw [a4, un 13 (by decide)] at hj; exact hj
    · rw [a4i u e] at hj; exact hj
  · rw [a15, b33]
    by_cases e : u = t
    · subst e
      rw [a4, u10, e10] at hj
      by_cases q2 : j = (σ.1 4 u 10).toInt.toNat
      · rw [if_pos (by omega), if_pos ⟨rfl, q2⟩]
      · rw [if_neg (by omega), if_neg (fun x => q2 x.2)]
        exact h.V.2.1 u j hu (by omega)
    · rw [a4i u e] at hj
      have ou := (h.T hu).2.2.2.2.2.2.2.2.1
      rw [if_neg (by omega), if_neg (fun x => e x.1)]
      exact h.V.2.1 u j hu hj
  · rw [b 37 (by decide) (by decide), a 16 (by decide) (by decide)]
    rw [a 5 (by decide) (by decide)] at hj
    exact h.V.2.2 d j hd hj
  · by_cases e : u = t
    · subst e; rw [a4, un 2 (by decide), un 5 (by decide)]; exact ⟨rfl, rfl⟩
    · rw [a4i u e]; exact ⟨rfl, rfl⟩
theorem e_nar (h : Rl n m e0 σ τ) (ht : t < n) : ∃ σ' τ', f_X4_narrowAfterThrow t (σ.1 0 0 5) σ = some σ' ∧ narX (Int32.ofNat t) τ = f_X6_step_212 (Int32.ofNat t) τ' ∧ Rl n m e0 σ' τ' ∧ σ'.1 0 = σ.1 0 := by
  have hn := h.n16
  have ai : ∀ (φ : Nat) (s : sm_M), fL φ = 16 → aI φ s 0 (Int32.ofNat t) = some (s.1 φ 0 t) := fun φ s hφ => aI_n (by rw [hφ]; omega) (by omega)
  have ui : ∀ (φ : Nat) (s : sm_M) (x : Int32), fL φ = 16 → uI φ s 0 (Int32.ofNat t) x = some (wI s φ 0 t x) := fun φ s x hφ => uI_n (by rw [hφ]; omega) (by omega)
  have c29 : τ.1 29 0 t = σ.1 4 t 7 := (h.T ht).1.2.2.2.2.2.2.2.1
  have c32 : τ.1 32 0 t = σ.1 4 t 10 := (h.T ht).1.2.2.2.2.2.2.2.2.2.2.1
  have c24 : τ.1 24 0 t = σ.1 4 t 11 := (h.T ht).1.2.2.2.1
  have c33 : τ.1 20 0 33 = σ.1 0 0 5 := h.2.1.2.1
  have o7 := (h.T ht).2.2.2.2.2.1
  have o10 := (h.T ht).2.2.2.2.2.2.2.2.1
  rw [f_X4_narrowAfterThrow, narX, ai 29 _ rfl, Option.bind_some, Option.bind_some, c29, c33]
  by_cases g : σ.1 4 t 7 ≤ 1
  · rw [if_pos g, if_pos g]
    by_cases g2 : σ.1 0 0 5 = 0
    · rw [if_pos g2, if_pos g2]
      exact ⟨σ, τ, rfl, rfl, h, rfl⟩
    · rw [if_neg g2, if_neg g2, ai 32 _ rfl, Option.bind_some, Option.bind_some, c32]
      by_cases g3 : (8 : Int32) ≤ σ.1 4 t 10
      · rw [if_pos g3, if_pos g3]
        exact ⟨σ, τ, rfl, rfl, h, rfl⟩
      · rw [if_neg g3, if_neg g3]
        rw [i_le] at g3
        have g3' : (σ.1 4 t 10).toInt < 8 := by have : (8 : Int32).toInt = 8 := rfl; omega
        obtain ⟨K, hK, hK2⟩ := i_get o10.1
        have hK3 : (σ.1 4 t 10).toInt.toNat = K := by omega
        have u1 : uI 15 σ t (σ.1 4 t 10) (σ.1 4 t 11) = some (wI σ 15 t (σ.1 4 t 10).toInt.toNat (σ.1 4 t 11)) := by
          rw [hK3]
          conv => lhs; rw [hK]
          exact uI_n (by show K < 8; omega) (by omega)
        have ix : (8 : Int32) * Int32.ofNat t + σ.1 4 t 10 = Int32.ofNat (8 * t + (σ.1 4 t 10).toInt.toNat) := by
          rw [hK3, hK, show (8 : Int32) = Int32.ofNat 8 from rfl, n_mul, n_add]
        have r := (h.asideOne (x := σ.1 4 t 11) ht g3').width (x := 8) ht (by decide)
        refine ⟨_, _, ?_, ?_, r, by rw [w_ne (by decide), w_ne (by decide), w_ne (by decide)]⟩
        · rw [u1, Option.bind_some, sI_s, Option.bind_some, sI_s, Option.bind_some, w_ne (show (4 : Nat) ≠ 15 by decide)]
        · rw [ai 24 _ rfl, Option.bind_some, c24, ix, uI_n (by show _ < 128; omega) (by omega), Option.bind_some, ai 32 _ rfl, Option.bind_some, ui 32 _ _ rfl, Option.bind_some, ui 29 _ _ rfl, Option.bind_some, w_ne (show (32 : Nat) ≠ 33 by decide), c32]
  · rw [if_neg g, if_neg g, if_neg (by decide), if_neg (by decide), sI_s, Option.bind_some, ui 29 _ _ rfl, Option.bind_some]
    rw [i_le] at g
    have g' : 1 < (σ.1 4 t 7).toInt := by have : (1 : Int32).toInt = 1 := rfl; omega
    refine ⟨_, _, rfl, rfl, h.width ht ?_, w_ne (by decide)⟩
    rw [i_div (by omega) (by decide), show (2 : Int32).toInt = 2 from rfl]
    omega
end T6
