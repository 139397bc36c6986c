def bt (x : Int32) (i : Nat) : Bool := x.toBitVec.getLsbD i
theorem b_ext {x y : Int32} (h : ∀ i, i < 32 → bt x i = bt y i) : x = y := Int32.toBitVec_inj.mp (BitVec.eq_of_getLsbD_eq (fun i hi => h i hi))
theorem b_or (x y : Int32) (i : Nat) : bt (x ||| y) i = (bt x i || bt y i) := by unfold bt; rw [Int32.toBitVec_or, BitVec.getLsbD_or]
theorem b_and (x y : Int32) (i : Nat) : bt (x &&& y) i = (bt x i && bt y i) := by unfold bt; rw [Int32.toBitVec_and, BitVec.getLsbD_and]
theorem b_xor (x y : Int32) (i : Nat) : bt (x ^^^ y) i = (bt x i ^^ bt y i) := by unfold bt; rw [Int32.toBitVec_xor, BitVec.getLsbD_xor]
theorem b_big {x : Int32} {i : Nat} (h : 32 ≤ i) : bt x i = false := BitVec.getLsbD_of_ge _ _ h
theorem b_255 (i : Nat) : bt 255 i = decide (i < 8) := by
  rcases Nat.lt_or_ge i 32 with h | h
  · exact (by decide +kernel : ∀ i, i < 32 → bt 255 i = decide (i < 8)) i h
  · rw [b_big h, decide_eq_false (by omega)]
theorem b_65535 (i : Nat) : bt 65535 i = decide (i < 16) := by
  rcases Nat.lt_or_ge i 32 with h | h
  · exact (by decide +kernel : ∀ i, i < 32 → bt 65535 i = decide (i < 16)) i h
  · rw [b_big h, decide_eq_false (by omega)]
theorem b_m1 : ∀ i, i < 32 → bt (-1) i = true := by decide +kernel
theorem b_0 (i : Nat) : bt 0 i = false := BitVec.getLsbD_zero
theorem s_l : ∀ n, n < 32 → ((nI n &&& 31).toBitVec.smod 32).toNat = n := by decide +kernel
theorem s_u : ∀ n, n < 32 → (((nI n).toUInt32 &&& Int32.toUInt32 31).toBitVec % 32).toNat = n := by decide +kernel
theorem b_shl (n : Nat) (hn : n < 32) (x : Int32) {i : Nat} (hi : i < 32) : bt (x <<< (nI n &&& 31)) i = (decide (n ≤ i) && bt x (i - n)) := by
  unfold bt
  rw [Int32.toBitVec_shiftLeft]
  show (x.toBitVec <<< ((nI n &&& 31).toBitVec.smod 32).toNat).getLsbD i = _
  rw [s_l n hn, BitVec.getLsbD_shiftLeft]
  rcases Nat.lt_or_ge i n with h | h
  · simp [h, Nat.not_le.mpr h]
  · simp [hi, h, Nat.not_lt.mpr h]
theorem b_ushr (n : Nat) (hn : n < 32) (x : Int32) (i : Nat) : bt ((x.toUInt32 >>> ((nI n).toUInt32 &&& Int32.toUInt32 31)).toInt32) i = bt x (n + i) := by
  show (x.toUInt32 >>> ((nI n).toUInt32 &&& Int32.toUInt32 31)).toBitVec.getLsbD i = x.toUInt32.toBitVec.getLsbD (n + i)
  rw [UInt32.toBitVec_shiftRight]
  show (x.toUInt32.toBitVec >>> (((nI n).toUInt32 &&& Int32.toUInt32 31).toBitVec % 32).toNat).getLsbD i = _
  rw [s_u n hn, BitVec.getLsbD_ushiftRight]
theorem b_sshr (n : Nat) (hn : n < 32) (x : Int32) {i : Nat} (hi : i < 32) : bt (x >>> (nI n &&& 31)) i = if n + i < 32 then bt x (n + i) else bt x 31 := by
  unfold bt
  rw [Int32.toBitVec_shiftRight]
  show (x.toBitVec.sshiftRight ((nI n &&& 31).toBitVec.smod 32).toNat).getLsbD i = _
  rw [s_l n hn, BitVec.getLsbD_sshiftRight, BitVec.msb_eq_getLsbD_last]
  simp [hi]
theorem b_one {i t : Nat} (hi : i < 32) (ht : t < 32) : bt ((1 : Int32) <<< (Int32.ofNat i &&& 31)) t = decide (t = i) := by
  have h := b_shl i hi 1 ht
  rw [show (Int32.ofNat i) = nI i from rfl, h]
  have h1 : ∀ k, k < 32 → bt 1 k = decide (k = 0) := by decide +kernel
  rw [h1 _ (by omega)]
  by_cases e : t = i
  · subst e; simp
  · by_cases e2 : i ≤ t
    · have : ¬ t - i = 0 := by omega
      simp [e, this]
    · simp [e, e2]
theorem b_isIn {m : Int32} {t : Nat} (ht : t < 31) : (((m >>> (Int32.ofNat t &&& 31)) &&& 1) = 1) ↔ bt m t = true := by
  have h1 : ∀ k, k < 32 → bt 1 k = decide (k = 0) := by decide +kernel
  have h0 := b_sshr t (by omega) m (i := 0) (by omega)
  rw [if_pos (by omega)] at h0
  constructor
  · intro h
    have h2 : bt ((m >>> (Int32.ofNat t &&& 31)) &&& 1) 0 = bt 1 0 := by rw [h]
    rw [b_and, h1 0 (by omega)] at h2
    have h3 : bt (m >>> (Int32.ofNat t &&& 31)) 0 = bt m (t + 0) := h0
    rw [h3] at h2
    simpa using h2
  · intro h
    apply b_ext
    intro i hi
    rw [b_and, h1 i hi]
    by_cases e : i = 0
    · subst e
      have h3 : bt (m >>> (Int32.ofNat t &&& 31)) 0 = bt m (t + 0) := h0
      rw [h3]; simp [h]
    · simp [e]
theorem e_isIn {m : Int32} {t : Nat} {σ : sm_M} (ht : t < 31) : f_X5_isIn m (Int32.ofNat t) σ = some (if bt m t = true then 1 else 0, σ) := by
  unfold f_X5_isIn f_X5_isIn_14
  by_cases h : bt m t = true
  · rw [if_pos ((b_isIn ht).mpr h), if_pos h]; rfl
  · rw [if_neg (fun q => h ((b_isIn ht).mp q)), if_neg h]; rfl
/-! ===== rows of fields ===== -/
def ur (r : Nat → Int32) (k : Nat) (v : Int32) : Nat → Int32 := fun j => if j = k then v else r j
def setR (σ : sm_M) (φ i : Nat) (r : Nat → Int32) : sm_M := (fun ψ j k => if ψ = φ ∧ j = i then r k else σ.1 ψ j k, σ.2)
theorem wI_R {σ : sm_M} {φ i k : Nat} {v : Int32} : wI σ φ i k v = setR σ φ i (ur (σ.1 φ i) k v) := by
  unfold wI setR
  refine Prod.ext ?_ rfl
  funext ψ j n
  by_cases h : ψ = φ ∧ j = i
  · obtain ⟨rfl, rfl⟩ := h
    by_cases h2 : n = k
    · subst h2; simp [sm_up, ur]
    · simp [sm_up, ur, h2]
  · have h3 : ¬ (ψ = φ ∧ j = i ∧ n = k) := fun q => h ⟨q.1, q.2.1⟩
    simp [sm_up, h, h3]
theorem R_at {σ : sm_M} {φ i : Nat} {r : Nat → Int32} : (setR σ φ i r).1 φ i = r := by funext k; simp [setR]
theorem R_i {σ : sm_M} {φ i j : Nat} {r : Nat → Int32} (h : j ≠ i) : (setR σ φ i r).1 φ j = σ.1 φ j := by funext k; simp [setR, h]
theorem R_ne {σ : sm_M} {φ i ψ : Nat} {r : Nat → Int32} (h : ψ ≠ φ) : (setR σ φ i r).1 ψ = σ.1 ψ := by funext j k; simp [setR, h]
theorem R_2 {σ : sm_M} {φ i : Nat} {r : Nat → Int32} : (setR σ φ i r).2 = σ.2 := rfl
theorem R_R {σ : sm_M} {φ i : Nat} {r r' : Nat → Int32} : setR (setR σ φ i r) φ i r' = setR σ φ i r' := by
  unfold setR
  refine Prod.ext ?_ rfl
  funext ψ j k
  by_cases h : ψ = φ ∧ j = i <;> simp [h]
theorem R_id {σ : sm_M} {φ i : Nat} : setR σ φ i (σ.1 φ i) = σ := by
  unfold setR
  refine Prod.ext ?_ rfl
  funext ψ j k
  by_cases h : ψ = φ ∧ j = i
  · obtain ⟨rfl, rfl⟩ := h; simp
  · simp [h]
/-- the rows below i of a family, changed by g -/
def mapR (σ : sm_M) (φ i : Nat) (g : Nat → Nat → Int32) : sm_M := (fun ψ j k => if ψ = φ ∧ j < i then g j k else σ.1 ψ j k, σ.2)
theorem mapR_0 {σ : sm_M} {φ : Nat} {g : Nat → Nat → Int32} : mapR σ φ 0 g = σ := by
  unfold mapR; refine Prod.ext ?_ rfl; funext ψ j k; simp
theorem mapR_s {σ : sm_M} {φ i : Nat} {g : Nat → Nat → Int32} : setR (mapR σ φ i g) φ i (g i) = mapR σ φ (i + 1) g := by
  unfold mapR setR; refine Prod.ext ?_ rfl
  funext ψ j k
  by_cases h : ψ = φ
  · subst h
    by_cases h2 : j = i
    · subst h2; simp
    · by_cases h3 : j < i
      · have : j < i + 1 := by omega
        simp [h2, h3, this]
      · have : ¬ j < i + 1 := by omega
        simp [h2, h3, this]
  · simp [h]
theorem mapR_at {σ : sm_M} {φ i j : Nat} {g : Nat → Nat → Int32} (h : j < i) : (mapR σ φ i g).1 φ j = g j := by funext k; simp [mapR, h]
theorem mapR_ge {σ : sm_M} {φ i j : Nat} {g : Nat → Nat → Int32} (h : ¬ j < i) : (mapR σ φ i g).1 φ j = σ.1 φ j := by funext k; simp [mapR, h]
theorem mapR_ne {σ : sm_M} {φ i ψ : Nat} {g : Nat → Nat → Int32} (h : ψ ≠ φ) : (mapR σ φ i g).1 ψ = σ.1 ψ := by funext j k; simp [mapR, h]
