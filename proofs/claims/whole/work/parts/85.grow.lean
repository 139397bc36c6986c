/-! ===== the region: the reference ===== -/
def gS (τ : sm_M) (R U : Nat → Bool) (s : sm_M) : Prop := (∀ φ, φ ≠ 58 → φ ≠ 59 → s.1 φ = τ.1 φ) ∧ s.2 = τ.2 ∧ (∀ t, t < 16 → s.1 58 0 t = if R t = true then 1 else 0) ∧ (∀ t, t < 16 → s.1 59 0 t = if U t = true then 1 else 0)
def sT (p : Nat → Bool) (i : Nat) : Nat → Bool := fun j => decide (j = i) || p j
/-- task t is unsteady, by those of U -/
def un (m : Nat) (σ : sm_M) (U : Nat → Bool) (t : Nat) : Prop := σ.1 4 t 2 = 4 ∨ ∃ c f : Nat, c < m ∧ f < 16 ∧ σ.1 5 c 1 = Int32.ofNat f ∧ σ.1 5 c 2 = Int32.ofNat t ∧ U f = true
def Gd (n m : Nat) (σ : sm_M) (F : Nat → Prop) (R U : Nat → Bool) : Prop := (∀ t, t < n → F t → R t = true) ∧ (∀ t, t < n → U t = true → R t = true ∧ un m σ U t) ∧ (∀ t, n ≤ t → R t = false ∧ U t = false) ∧ ∀ R' U' : Nat → Prop, (∀ t, t < n → F t → R' t) → UnS n m σ R' U' → ClS m σ R' U' → (∀ t, t < n → R t = true → R' t) ∧ ∀ t, t < n → U t = true → U' t
def ms (R U : Nat → Bool) : Nat := cN R 16 + cN U 16
theorem sT_lt {p : Nat → Bool} {i : Nat} (hi : i < 16) (h : p i = false) : cN p 16 < cN (sT p i) 16 := cN_lt (fun j _ a => by simp [sT, a]) hi h (by simp [sT])
theorem un_mono {m : Nat} {σ : sm_M} {U U' : Nat → Bool} {t : Nat} (h : ∀ j, U j = true → U' j = true) (hu : un m σ U t) : un m σ U' t := by
  rcases hu with a | ⟨c, f, a1, a2, a3, a4, a5⟩
  · exact Or.inl a
  · exact Or.inr ⟨c, f, a1, a2, a3, a4, h f a5⟩
section GROW
variable {n m : Nat} {σ τ s : sm_M} {F : Nat → Prop} {R U : Nat → Bool}
theorem gS_R (h : gS τ R U s) {i : Nat} : gS τ (sT R i) U (wI s 58 0 i 1) := by
  refine ⟨fun φ a b => by rw [w_ne a]; exact h.1 φ a b, h.2.1, fun t ht => ?_, fun t ht => by rw [w_ne (by decide)]; exact h.2.2.2 t ht⟩
  rw [w_at]
  by_cases e : t = i
  · subst e; simp [sT]
  · rw [if_neg e, h.2.2.1 t ht]; simp [sT, e]
theorem gS_U (h : gS τ R U s) {i : Nat} : gS τ R (sT U i) (wI s 59 0 i 1) := by
  refine ⟨fun φ a b => by rw [w_ne b]; exact h.1 φ a b, h.2.1, fun t ht => by rw [w_ne (by decide)]; exact h.2.2.1 t ht, fun t ht => ?_⟩
  rw [w_at]
  by_cases e : t = i
  · subst e; simp [sT]
  · rw [if_neg e, h.2.2.2 t ht]; simp [sT, e]
theorem e_unst {e0 : Int32} (h : Rl n m e0 σ τ) (hs : gS τ R U s) {t : Nat} (ht : t < n) : ∃ b : Bool, (b = true ↔ un m σ U t) ∧ f_X6_isUnsteady (Int32.ofNat t) s = some (if b = true then 1 else 0, s) := by
  have hn := h.n16
  have hm := h.m40
  have e3 : s.1 20 0 14 = Int32.ofNat m := by rw [hs.1 20 (by decide) (by decide)]; exact h.1.2.2.2.2.2
  have q21 : s.1 21 0 t = σ.1 4 t 2 := by rw [hs.1 21 (by decide) (by decide)]; exact (h.T ht).1.1
  have key : ∀ b0 : Bool, (b0 = true ↔ σ.1 4 t 2 = 4) → ∃ b : Bool, (b = true ↔ un m σ U t) ∧ f_X6_isUnsteady_18 1000 (Int32.ofNat t) (if b0 = true then 1 else 0) 0 s = some (if b = true then 1 else 0, s) := fun b0 hb0 => by
    obtain ⟨x, ⟨b, hx, hb⟩, e4⟩ := loopE (F := fun f v (x : Int32) => f_X6_isUnsteady_18 f (Int32.ofNat t) x v s) (X := fun x => f_X6_isUnsteady_66 x s) (N := m) (by omega) (fun i x => ∃ b : Bool, x = (if b = true then 1 else 0) ∧ (b = true ↔ (σ.1 4 t 2 = 4 ∨ ∃ c f : Nat, c < i ∧ f < 16 ∧ σ.1 5 c 1 = Int32.ofNat f ∧ σ.1 5 c 2 = Int32.ofNat t ∧ U f = true)))
      (fun k i x hi hp => by
        obtain ⟨b, rfl, hb⟩ := hp
        obtain ⟨f, g, e1, e2, h1, h2⟩ := h.ft hi
        have hCc := (h.C hi).1
        have q34 : s.1 34 0 i = Int32.ofNat f := by rw [hs.1 34 (by decide) (by decide), ← e1]; exact hCc.1
        have q35 : s.1 35 0 i = Int32.ofNat g := by rw [hs.1 35 (by decide) (by decide), ← e2]; exact hCc.2.1
        have a1 : ∀ (φ : Nat), fL φ = 40 → aI φ s 0 (Int32.ofNat i) = some (s.1 φ 0 i) := fun φ hφ => aI_n (by rw [hφ]; omega) (by omega)
        have fin : ∀ b' : Bool, (b' = true ↔ (b = true ∨ (g = t ∧ U f = true))) → (b' = true ↔ (σ.1 4 t 2 = 4 ∨ ∃ c f : Nat, c < i + 1 ∧ f < 16 ∧ σ.1 5 c 1 = Int32.ofNat f ∧ σ.1 5 c 2 = Int32.ofNat t ∧ U f = true)) := fun b' hb' => by
          rw [hb', hb]
          constructor
          · rintro ((q | ⟨c, f', a1, a2, a3, a4, a5⟩) | ⟨rfl, q⟩)
            · exact Or.inl q
            · exact Or.inr ⟨c, f', by omega, a2, a3, a4, a5⟩
            · exact Or.inr ⟨i, f, by omega, by omega, e1, e2, q⟩
          · rintro (q | ⟨c, f', a1, a2, a3, a4, a5⟩)
            · exact Or.inl (Or.inl q)
            · by_cases e : c = i
              · subst e
                rw [e1, n_eq (by omega) (by omega)] at a3
                rw [e2, n_eq (by omega) (by omega)] at a4
                subst a3
                exact Or.inr ⟨a4, a5⟩
              · exact Or.inl (Or.inr ⟨c, f', by omega, a2, a3, a4, a5⟩)
        show ∃ x', _ ∧ f_X6_isUnsteady_18 (k + 1) (Int32.ofNat t) _ (Int32.ofNat i) s = f_X6_isUnsteady_18 k (Int32.ofNat t) x' (Int32.ofNat (i + 1)) s
        rw [f_X6_isUnsteady_18, e3, if_neg (by rw [n_le (by omega) (by omega)]; omega)]
        cases b
        · rw [show (if (false = true) then (1 : Int32) else 0) = 0 from rfl, if_pos rfl, a1 35 rfl, Option.bind_some, q35]
          by_cases q : g = t
          · rw [if_pos (by rw [q]), a1 34 rfl, Option.bind_some, q34, aI_n (φ := 59) (by show f < 16; omega) (by omega), Option.bind_some, hs.2.2.2 f (by omega)]
            by_cases q1 : U f = true
            · rw [if_pos q1, if_neg (by decide), f_X6_isUnsteady_54, f_X6_isUnsteady_59, n_inc]
              exact ⟨1, ⟨true, rfl, fin true (by simp [q, q1])⟩, rfl⟩
            · rw [if_neg q1, if_pos rfl, f_X6_isUnsteady_58, f_X6_isUnsteady_59, n_inc]
              exact ⟨0, ⟨false, rfl, fin false (by simp [q1])⟩, rfl⟩
          · rw [if_neg (by rw [n_eq (by omega) (by omega)]; exact q), f_X6_isUnsteady_58, f_X6_isUnsteady_59, n_inc]
            exact ⟨0, ⟨false, rfl, fin false (by simp [q])⟩, rfl⟩
        · rw [show (if (true = true) then (1 : Int32) else 0) = 1 from rfl, if_neg (by decide), f_X6_isUnsteady_54, f_X6_isUnsteady_59, n_inc]
          exact ⟨1, ⟨true, rfl, fin true (by simp)⟩, rfl⟩)
      (fun k x hp => by
        show f_X6_isUnsteady_18 (k + 1) (Int32.ofNat t) x (Int32.ofNat m) s = _
        rw [f_X6_isUnsteady_18, e3, if_pos (by rw [n_le (by omega) (by omega)]; omega)])
      (if b0 = true then 1 else 0) ⟨b0, rfl, by rw [hb0]; exact ⟨fun q => Or.inl q, fun q => q.elim id (fun ⟨c, f, hc, _⟩ => absurd hc (Nat.not_lt_zero c))⟩⟩
    refine ⟨b, hb, e4.trans ?_⟩
    show f_X6_isUnsteady_66 x s = _
    rw [hx, f_X6_isUnsteady_66, if_pos (bool01 _)]
  rw [f_X6_isUnsteady, aI_n (φ := 21) (by show t < 16; omega) (by omega), Option.bind_some, q21]
  by_cases g : σ.1 4 t 2 = 4
  · rw [if_pos g, f_X6_isUnsteady_15]
    exact key true (by simp [g])
  · rw [if_neg g, f_X6_isUnsteady_15]
    exact key false (by simp [g])
theorem Gd_U (h : Gd n m σ F R U) {t : Nat} (ht : t < n) (hR : R t = true) (hu : un m σ U t) : Gd n m σ F R (sT U t) := by
  obtain ⟨a1, a2, a3, a4⟩ := h
  have mono : ∀ j, U j = true → sT U t j = true := fun j hj => by simp [sT, hj]
  refine ⟨a1, fun j hj q => ?_, fun j hj => ⟨(a3 j hj).1, ?_⟩, fun R' U' b1 b2 b3 => ⟨(a4 R' U' b1 b2 b3).1, fun j hj q => ?_⟩⟩
  · by_cases e : j = t
    · subst e; exact ⟨hR, un_mono mono hu⟩
    · have q' : U j = true := by simpa [sT, e] using q
      exact ⟨(a2 j hj q').1, un_mono mono (a2 j hj q').2⟩
  · have : ¬ j = t := by omega
    simp [sT, this, (a3 j hj).2]
  · obtain ⟨c1, c2⟩ := a4 R' U' b1 b2 b3
    by_cases e : j = t
    · subst e
      refine (b2 j ht).mpr ⟨c1 j ht hR, ?_⟩
      rcases hu with d | ⟨c, f, d1, d2, d3, d4, d5⟩
      · exact Or.inl d
      · refine Or.inr ⟨c, f, d1, d2, d3, d4, ?_⟩
        by_cases hf : f < n
        · exact c2 f hf d5
        · rw [(a3 f (by omega)).2] at d5; cases d5
    · exact c2 j hj (by simpa [sT, e] using q)
theorem Gd_R (h : Gd n m σ F R U) {t : Nat} (ht : t < n) (hm : ∀ R' U' : Nat → Prop, (∀ t, t < n → F t → R' t) → UnS n m σ R' U' → ClS m σ R' U' → R' t) : Gd n m σ F (sT R t) U := by
  obtain ⟨a1, a2, a3, a4⟩ := h
  refine ⟨fun j hj q => by simp [sT, a1 j hj q], fun j hj q => ⟨by simp [sT, (a2 j hj q).1], (a2 j hj q).2⟩, fun j hj => ⟨?_, (a3 j hj).2⟩, fun R' U' b1 b2 b3 => ⟨fun j hj q => ?_, (a4 R' U' b1 b2 b3).2⟩⟩
  · have : ¬ j = t := by omega
    simp [sT, this, (a3 j hj).1]
  · by_cases e : j = t
    · subst e; exact hm R' U' b1 b2 b3
    · exact (a4 R' U' b1 b2 b3).1 j hj (by simpa [sT, e] using q)
end GROW
