section S7
variable {n m t : Nat} {σ τ σ' τ' ς : sm_M} {e0 : Int32} {v x M : Int32}
theorem gvi_k {i c k : Nat} (h4 : k ≠ 4) (h5 : k ≠ 5) : (gvi t v σ i).1 5 c k = σ.1 5 c k := by
  induction i with
  | zero => rfl
  | succ i ih =>
    rw [gvi]
    by_cases g : σ.1 5 i 1 = Int32.ofNat t
    · rw [if_pos g]
      by_cases e : c = i
      · subst e; rw [pu_k h4 h5, ih]
      · rw [(pu_i e).1, ih]
    · rw [if_neg g, ih]
theorem wk_4 {k : Nat} (h1 : k ≠ 12) (h2 : k ≠ 13) : (wk m t v σ).1 4 t k = σ.1 4 t k := by
  unfold wk po
  repeat' split
  all_goals first
    | rfl
    | (rw [gvi_ne (by decide) (by decide)])
    | (rw [w_k h2, w_ne (by decide)])
  all_goals first
    | rfl
    | (rw [w_k h1])
theorem wk_5 {c k : Nat} (h1 : k ≠ 4) (h2 : k ≠ 5) : (wk m t v σ).1 5 c k = σ.1 5 c k := by
  unfold wk po
  repeat' split
  all_goals first
    | rfl
    | (rw [gvi_k h1 h2])
    | (rw [w_ne (by decide), w_ne (by decide)])
  all_goals first
    | rfl
    | (rw [w_ne (by decide)])
theorem exA_4 {k : Nat} (h1 : k ≠ 12) (h2 : k ≠ 13) : (exA m t v σ).1 4 t k = σ.1 4 t k := by
  unfold exA
  by_cases g : asb t (σ.1 4 t 11) σ = true
  · rw [if_pos g]
  · rw [if_neg g, wk_4 h1 h2]
theorem exA_5 {c k : Nat} (h1 : k ≠ 4) (h2 : k ≠ 5) : (exA m t v σ).1 5 c k = σ.1 5 c k := by
  unfold exA
  by_cases g : asb t (σ.1 4 t 11) σ = true
  · rw [if_pos g]
  · rw [if_neg g, wk_5 h1 h2]
theorem ex_11 {c : Option Nat} : (ex m t c v σ).1 4 t 11 = σ.1 4 t 11 + 1 := by
  have : (exP m t v σ).1 4 t 11 = σ.1 4 t 11 + 1 := by unfold exP; rw [w_eq, exA_4 (by decide) (by decide)]
  cases c with
  | none => exact this
  | some k => show (wI _ 5 k 6 _).1 4 t 11 = _; rw [w_ne (by decide), this]
theorem Rl.place (h : Rl n m e0 σ τ) (ht : t < n) (h0 : σ.1 4 t 2 = 0 → (σ.1 4 t 11).toInt < (σ.1 4 t 3).toInt) : Rl n m e0 (wI σ 4 t 11 (σ.1 4 t 11 + 1)) (wI τ 24 0 t (σ.1 4 t 11 + 1)) := by
  have un : ∀ k, k ≠ 11 → ur (σ.1 4 t) 11 (σ.1 4 t 11 + 1) k = σ.1 4 t k := fun k hk => by simp [ur, hk]
  have u11 : ur (σ.1 4 t) 11 (σ.1 4 t 11 + 1) 11 = σ.1 4 t 11 + 1 := by simp [ur]
  refine h.task ht (fun φ q => by rw [w_ne q]) rfl (fun j q => by rw [w_i q]) (fun φ q => by rw [w_ne (by rintro rfl; cases q)]) (fun j q φ _ => ?_) ?_ ?_ ?_ ?_ ?_ ?_ (Or.inl rfl)
  · exact congrFun (w_col2 (τ := τ) (φ := 24) (v := σ.1 4 t 11 + 1) q) φ
  · rw [w_row, w_col]
    obtain ⟨a1, a2, a3, a4, a5, a6, a7, a8, a9, a10, a11, a12, a13, a14⟩ := (h.T ht).1
    simp [relT, ur, a1, a2, a3, a5, a6, a7, a8, a9, a10, a11, a12, a13, a14]
  · rw [w_row]
    have o := (h.T ht).2
    unfold okT at o ⊢
    rw [u11, un 2 (by decide), un 3 (by decide), un 4 (by decide), un 7 (by decide), un 8 (by decide), un 9 (by decide), un 10 (by decide), un 13 (by decide), un 14 (by decide), un 16 (by decide)]
    refine ⟨o.1, fun q => ?_, o.2.2⟩
    have o2 := o.2.1 q
    have h00 := h0 q
    rw [c_inc o2.2.2.1 (by omega)]
    omega
  · rw [w_row, un 13 (by decide)]; exact Int.le_refl _
  · rw [w_row, un 10 (by decide)]; exact Int.le_refl _
  · rw [w_row, un 2 (by decide)]
  · rw [w_row, un 5 (by decide)]
theorem Rl.take (h : Rl n m e0 σ τ) {k : Nat} (hk : k < m) (h6 : (σ.1 5 k 6).toInt < (σ.1 5 k 4).toInt) : Rl n m e0 (wI σ 5 k 6 (σ.1 5 k 6 + 1)) (wI τ 40 0 k (σ.1 5 k 6 + 1)) := by
  have un : ∀ j, j ≠ 6 → ur (σ.1 5 k) 6 (σ.1 5 k 6 + 1) j = σ.1 5 k j := fun j hj => by simp [ur, hj]
  have u6 : ur (σ.1 5 k) 6 (σ.1 5 k 6 + 1) 6 = σ.1 5 k 6 + 1 := by simp [ur]
  obtain ⟨o1, o2, o3, o4, o5, o6, o7, o8, o9⟩ := (h.C hk).2
  have e6 := c_inc (x := σ.1 5 k 6) o4.1 (by omega)
  refine h.chan hk (fun φ q => by rw [w_ne q]) rfl (fun j q => by rw [w_i q]) (fun φ q => by rw [w_ne (by rintro rfl; cases q)]) (fun j q φ _ => ?_) ?_ ?_ ?_ ?_ ?_ (Or.inl rfl)
  · exact congrFun (w_col2 (τ := τ) (φ := 40) (v := σ.1 5 k 6 + 1) q) φ
  · rw [w_row, w_col]
    obtain ⟨a1, a2, a3, a4, a5, a6, a7, a8, a9, a10, a11⟩ := (h.C hk).1
    unfold relL at a11
    simp [relC, relL, ur, a1, a2, a3, a4, a5, a7, a8, a9, a10, a11]
  · rw [w_row]
    unfold okC
    rw [u6, un 1 (by decide), un 2 (by decide), un 3 (by decide), un 4 (by decide), un 5 (by decide), un 7 (by decide), un 8 (by decide), un 9 (by decide), un 10 (by decide), un 11 (by decide), e6]
    exact ⟨o1, o2, o3, by omega, o5, o6, o7, o8, fun q q2 => by have := o9 q q2; omega⟩
  · rw [w_row, un 4 (by decide)]; exact Int.le_refl _
  · rw [w_row, un 1 (by decide)]
  · rw [w_row, un 2 (by decide)]
theorem Fz.trans {τ1 τ2 τ3 : sm_M} (h : Fz τ1 τ2) (k : Fz τ2 τ3) : Fz τ1 τ3 := ⟨k.1.trans h.1, k.2.1.trans h.2.1, k.2.2.trans h.2.2⟩
theorem Av_uniq {c c' : Option Nat} {v v' : Int32} (h1 : Av m t M σ c v) (h2 : Av m t M σ c' v') : c = c' ∧ v = v' := by
  cases c with
  | none =>
    cases c' with
    | none => exact ⟨rfl, h1.2.2.trans h2.2.2.symm⟩
    | some k => exact absurd h1.1 h2.1
  | some k =>
    cases c' with
    | none => exact absurd h2.1 h1.1
    | some j =>
      have := Nx_uniq h1.2.1 h2.2.1
      subst this
      exact ⟨rfl, h1.2.2.2.trans h2.2.2.2.symm⟩
theorem Av_to {c : Option Nat} (h : Av m t M σ c v) : ∀ k, c = some k → σ.1 5 k 2 = Int32.ofNat t := fun k q => by
  subst q; exact h.2.1.2.1
theorem e_item (h : Rl n m 0 σ τ) (ht : t < n) {c : Option Nat} (ha : Av m t M σ c v) (hr : Rm m t σ) (k46 : Int32 → Int32 → Int32 → Int32 → Int32 → Int32 → Int32 → sm_M → Option (Int32 × sm_M)) (v2 v3 v4 v5 : Int32) : ∃ τ', f_X6_takeRows_134 k46 (Int32.ofNat t) v2 v3 v4 v5 (ec c) v (if asb t (σ.1 4 t 11) σ = true then 1 else 0) 0 τ = f_X6_takeRows_179 k46 (Int32.ofNat t) v2 v3 v4 v5 0 τ' ∧ Rl n m 0 (ex m t c v σ) τ' ∧ Fz τ τ' := by
  have hn := h.n16
  have hm := h.m40
  obtain ⟨τA, eA, rA, zA⟩ : ∃ τA, f_X6_takeRows_134 k46 (Int32.ofNat t) v2 v3 v4 v5 (ec c) v (if asb t (σ.1 4 t 11) σ = true then 1 else 0) 0 τ = f_X6_takeRows_153 k46 (Int32.ofNat t) v2 v3 v4 v5 (ec c) 0 τA ∧ Rl n m 0 (exA m t v σ) τA ∧ Fz τ τA := by
    unfold exA
    by_cases g : asb t (σ.1 4 t 11) σ = true
    · rw [if_pos g, if_pos g]
      exact ⟨τ, by rw [f_X6_takeRows_134, if_pos rfl, if_neg (by decide)], h, rfl, rfl, rfl⟩
    · rw [if_neg g, if_neg g]
      obtain ⟨τ1, w1, w2, w3⟩ := e_work' (v := v) h ht hr
      exact ⟨τ1, by rw [f_X6_takeRows_134, if_pos rfl, if_pos rfl, w1, Option.bind_some], w2, w3⟩
  have fA := Fr_exA (v := v) hr
  have c24 : τA.1 24 0 t = (exA m t v σ).1 4 t 11 := (rA.T ht).1.2.2.2.1
  have rP := rA.place ht (by
    rw [exA_4 (by decide) (by decide), exA_4 (by decide) (by decide), exA_4 (by decide) (by decide)]
    intro q
    cases c with
    | none => exact ha.2.1
    | some k => exact absurd q ha.1)
  rw [eA, f_X6_takeRows_153, aI_n (φ := 24) (by show t < 16; omega) (by omega), Option.bind_some, uI_n (by show t < 16; omega) (by omega), Option.bind_some, c24]
  have zP : Fz τA (wI τA 24 0 t ((exA m t v σ).1 4 t 11 + 1)) := ⟨w_ne (by decide), w_ne (by decide), w_ne (by decide)⟩
  cases c with
  | none =>
    exact ⟨_, by rw [ec, if_pos (by decide)], rP, zA.trans zP⟩
  | some k =>
    have hk := ha.2.1.1
    have c40 : (wI τA 24 0 t ((exA m t v σ).1 4 t 11 + 1)).1 40 0 k = (exP m t v σ).1 5 k 6 := (rP.C hk).1.2.2.2.2.2.1
    have rT := rP.take hk (by
      have o6 := ha.2.2.1
      have e6 : (wI (exA m t v σ) 4 t 11 ((exA m t v σ).1 4 t 11 + 1)).1 5 k 6 = σ.1 5 k 6 := by rw [w_ne (by decide), exA_5 (by decide) (by decide)]
      have e4 := (fA.2.2.2.2.1 k hk).1
      rw [e6, w_ne (by decide)]
      omega)
    refine ⟨_, ?_, rT, (zA.trans zP).trans ⟨w_ne (by decide), w_ne (by decide), w_ne (by decide)⟩⟩
    rw [ec, if_neg (n_pos (by omega)), aI_n (φ := 40) (by show k < 40; omega) (by omega), Option.bind_some, uI_n (by show k < 40; omega) (by omega), Option.bind_some, c40]
    rfl
theorem ec_9 {c : Option Nat} (h : ∀ k, c = some k → k < 40) : ¬ ec c = -9 := by
  cases c with
  | none => decide
  | some k => rw [ec, i_eq, i_of (by have := h k rfl; omega)]; show ¬ _ = (-9 : Int); omega
theorem Av_lt {c : Option Nat} (h : Av m t M σ c v) : ∀ k, c = some k → k < m := fun k q => by subst q; exact h.2.1.1
end S7
