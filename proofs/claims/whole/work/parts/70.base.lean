/-! ===== numbers ===== -/
theorem i_lt {x y : Int32} : x < y ↔ x.toInt < y.toInt := Int32.lt_iff_toInt_lt
theorem i_le {x y : Int32} : x ≤ y ↔ x.toInt ≤ y.toInt := Int32.le_iff_toInt_le
theorem i_eq {x y : Int32} : x = y ↔ x.toInt = y.toInt := Int32.toInt_inj.symm
theorem i_nat (x : Int32) : x.toNatClampNeg = x.toInt.toNat := rfl
theorem i_of {n : Nat} (h : n < 2147483648) : (Int32.ofNat n).toInt = n := Int32.toInt_ofNat_of_lt (by omega)
theorem i_clamp {n : Nat} (h : n < 2147483648) : (Int32.ofNat n).toNatClampNeg = n := Int32.toNatClampNeg_ofNat_of_lt (by omega)
theorem i_rng (x : Int32) : -2147483648 ≤ x.toInt ∧ x.toInt < 2147483648 := ⟨x.le_toInt, x.toInt_lt⟩
theorem i_bm {z : Int} (h1 : -2147483648 ≤ z) (h2 : z < 2147483648) : z.bmod 4294967296 = z := Int.bmod_eq_of_le (by omega) (by omega)
theorem i_add {x y : Int32} (h1 : -2147483648 ≤ x.toInt + y.toInt) (h2 : x.toInt + y.toInt < 2147483648) : (x + y).toInt = x.toInt + y.toInt := by
  rw [Int32.toInt_add]; exact i_bm h1 h2
theorem i_sub {x y : Int32} (h1 : -2147483648 ≤ x.toInt - y.toInt) (h2 : x.toInt - y.toInt < 2147483648) : (x - y).toInt = x.toInt - y.toInt := by
  rw [Int32.toInt_sub]; exact i_bm h1 h2
theorem i_mul {x y : Int32} (h1 : -2147483648 ≤ x.toInt * y.toInt) (h2 : x.toInt * y.toInt < 2147483648) : (x * y).toInt = x.toInt * y.toInt := by
  rw [Int32.toInt_mul]; exact i_bm h1 h2
theorem n_lt {a b : Nat} (ha : a < 2147483648) (hb : b < 2147483648) : Int32.ofNat a < Int32.ofNat b ↔ a < b := by rw [i_lt, i_of ha, i_of hb]; omega
theorem n_le {a b : Nat} (ha : a < 2147483648) (hb : b < 2147483648) : Int32.ofNat a ≤ Int32.ofNat b ↔ a ≤ b := by rw [i_le, i_of ha, i_of hb]; omega
theorem n_eq {a b : Nat} (ha : a < 2147483648) (hb : b < 2147483648) : Int32.ofNat a = Int32.ofNat b ↔ a = b := by rw [i_eq, i_of ha, i_of hb]; omega
theorem n_inc (a : Nat) : Int32.ofNat a + 1 = Int32.ofNat (a + 1) := i32_inc a
theorem n_add (a b : Nat) : Int32.ofNat a + Int32.ofNat b = Int32.ofNat (a + b) := (Int32.ofNat_add a b).symm
theorem n_mul (a b : Nat) : Int32.ofNat a * Int32.ofNat b = Int32.ofNat (a * b) := (Int32.ofNat_mul a b).symm
theorem n_sub {a b : Nat} (h : b ≤ a) : Int32.ofNat a - Int32.ofNat b = Int32.ofNat (a - b) := by
  have : a = (a - b) + b := by omega
  rw [show Int32.ofNat a = Int32.ofNat (a - b) + Int32.ofNat b by rw [n_add, ← this]]
  exact Int32.add_sub_cancel _ _
theorem n_get {v : Int32} {n : Nat} (hn : n < 2147483648) (h0 : ¬ v < 0) (h1 : ¬ Int32.ofNat n ≤ v) : ∃ j : Nat, j < n ∧ v = Int32.ofNat j := by
  rw [i_lt] at h0
  rw [i_le, i_of hn] at h1
  simp at h0
  refine ⟨v.toInt.toNat, by omega, ?_⟩
  rw [i_eq, i_of (by omega)]; omega
theorem n_get2 {v : Int32} (h0 : 0 ≤ v.toInt) : v = Int32.ofNat v.toInt.toNat := by
  have := i_rng v
  rw [i_eq, i_of (by omega)]; omega
/-! ===== the memory ===== -/
theorem w_ne {σ : sm_M} {φ i k ψ : Nat} {v : Int32} (h : ψ ≠ φ) : (wI σ φ i k v).1 ψ = σ.1 ψ := by
  funext j n; simp [wI, sm_up, h]
theorem w_eq {σ : sm_M} {φ i k : Nat} {v : Int32} : (wI σ φ i k v).1 φ i k = v := by simp [wI, sm_up]
theorem w_k {σ : sm_M} {φ i k j n : Nat} {v : Int32} (h : n ≠ k) : (wI σ φ i k v).1 φ j n = σ.1 φ j n := by simp [wI, sm_up, h]
theorem w_i {σ : sm_M} {φ i k j : Nat} {v : Int32} (h : j ≠ i) : (wI σ φ i k v).1 φ j = σ.1 φ j := by funext n; simp [wI, sm_up, h]
theorem w_2 {σ : sm_M} {φ i k : Nat} {v : Int32} : (wI σ φ i k v).2 = σ.2 := rfl
theorem w_at {σ : sm_M} {φ i k n : Nat} {v : Int32} : (wI σ φ i k v).1 φ i n = if n = k then v else σ.1 φ i n := by simp [wI, sm_up]
theorem aI_n {φ i j : Nat} {σ : sm_M} (h : j < fL φ) (h2 : j < 2147483648) : aI φ σ i (Int32.ofNat j) = some (σ.1 φ i j) := by
  unfold aI
  rw [i_clamp h2, if_pos ⟨by rw [i_lt, i_of h2]; simp, h⟩]
theorem aP_n {φ j : Nat} (h : j < fL φ) (h2 : j < 2147483648) : aP φ (Int32.ofNat j) = some j := by
  unfold aP
  rw [i_clamp h2, if_pos ⟨by rw [i_lt, i_of h2]; simp, h⟩]
theorem uI_n {φ i j : Nat} {σ : sm_M} {v : Int32} (h : j < fL φ) (h2 : j < 2147483648) : uI φ σ i (Int32.ofNat j) v = some (wI σ φ i j v) := by
  unfold uI
  rw [i_clamp h2, if_pos ⟨by rw [i_lt, i_of h2]; simp, h⟩]
theorem uZ_n {φ i j : Nat} {σ : sm_M} {v : Int32} (h : j < fL φ) (h2 : j < 2147483648) (hv : v = 0 ∨ v = 1) : uZ φ σ i (Int32.ofNat j) v = some (wI σ φ i j v) := by
  unfold uZ
  rw [i_clamp h2, if_pos ⟨by rw [i_lt, i_of h2]; simp, h⟩]
  rcases hv with rfl | rfl <;> rfl
theorem sI_s {φ k i : Nat} {σ : sm_M} {v : Int32} : sI φ k σ i v = some (wI σ φ i k v) := rfl
theorem sJ_s {φ k i : Nat} {σ : sm_M} {v : Int64} : sJ φ k σ i v = some (wJ σ φ i k v) := rfl
theorem sZ_s {φ k i : Nat} {σ : sm_M} {v : Int32} (hv : v = 0 ∨ v = 1) : sZ φ k σ i v = some (wI σ φ i k v) := if_pos hv
theorem j_1 {σ : sm_M} {φ i k : Nat} {v : Int64} : (wJ σ φ i k v).1 = σ.1 := rfl
theorem j_2 {σ : sm_M} {φ i k : Nat} {v : Int64} : (wJ σ φ i k v).2 φ i k = v := by simp [wJ, sm_up]
theorem z0 : (0 : Int32) = 0 ∨ (0 : Int32) = 1 := Or.inl rfl
theorem z1 : (1 : Int32) = 0 ∨ (1 : Int32) = 1 := Or.inr rfl
/-! a loop that counts up: S: all that the loop carries but its counter -/
theorem loopE {S R : Type} {F : Nat → Int32 → S → Option R} {X : S → Option R} {N : Nat} (hN : N < 1000) (P : Nat → S → Prop)
    (h0 : ∀ (f i : Nat) (s : S), i < N → P i s → ∃ s', P (i + 1) s' ∧ F (f + 1) (Int32.ofNat i) s = F f (Int32.ofNat (i + 1)) s')
    (h1 : ∀ (f : Nat) (s : S), P N s → F (f + 1) (Int32.ofNat N) s = X s) (s : S) (hs : P 0 s) : ∃ s', P N s' ∧ F 1000 0 s = X s' := by
  have key : ∀ (d i f : Nat) (s : S), i + d = N → d < f → P i s → ∃ s', P N s' ∧ F f (Int32.ofNat i) s = X s' := by
    intro d
    induction d with
    | zero =>
      intro i f s e hf hp
      obtain rfl : i = N := by omega
      obtain ⟨f, rfl⟩ : ∃ g, f = g + 1 := ⟨f - 1, by omega⟩
      exact ⟨s, hp, h1 f s hp⟩
    | succ d ih =>
      intro i f s e hf hp
      obtain ⟨f, rfl⟩ : ∃ g, f = g + 1 := ⟨f - 1, by omega⟩
      obtain ⟨s1, p1, e1⟩ := h0 f i s (by omega) hp
      obtain ⟨s2, p2, e2⟩ := ih (i + 1) f s1 (by omega) (by omega) p1
      exact ⟨s2, p2, by rw [e1, e2]⟩
  exact key N 0 1000 s (by omega) hN hs
/-- the same, with an end inside -/
theorem loopX {S R : Type} {F : Nat → Int32 → S → Option R} {X : S → Option R} {N : Nat} (hN : N < 1000) (P : Nat → S → Prop) (Z : Option R → Prop)
    (h0 : ∀ (f i : Nat) (s : S), i < N → P i s → Z (F (f + 1) (Int32.ofNat i) s) ∨ ∃ s', P (i + 1) s' ∧ F (f + 1) (Int32.ofNat i) s = F f (Int32.ofNat (i + 1)) s')
    (h1 : ∀ (f : Nat) (s : S), P N s → Z (F (f + 1) (Int32.ofNat N) s)) (s : S) (hs : P 0 s) : Z (F 1000 0 s) := by
  have key : ∀ (d i f : Nat) (s : S), i + d = N → d < f → P i s → Z (F f (Int32.ofNat i) s) := by
    intro d
    induction d with
    | zero =>
      intro i f s e hf hp
      obtain rfl : i = N := by omega
      obtain ⟨f, rfl⟩ : ∃ g, f = g + 1 := ⟨f - 1, by omega⟩
      exact h1 f s hp
    | succ d ih =>
      intro i f s e hf hp
      obtain ⟨f, rfl⟩ : ∃ g, f = g + 1 := ⟨f - 1, by omega⟩
      rcases h0 f i s (by omega) hp with h | ⟨s1, p1, e1⟩
      · exact h
      · rw [e1]; exact ih (i + 1) f s1 (by omega) (by omega) p1
  exact key N 0 1000 s (by omega) hN hs
