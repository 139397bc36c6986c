theorem nx_and (a b : Nat) : nI a &&& nI b = nI (a &&& b) := by
  apply Int32.toBitVec_inj.1
  show BitVec.ofNat 32 a &&& BitVec.ofNat 32 b = BitVec.ofNat 32 (a &&& b)
  apply BitVec.eq_of_getLsbD_eq
  intro i hi
  simp [hi]
theorem nx_xor (a b : Nat) : nI a ^^^ nI b = nI (a ^^^ b) := by
  apply Int32.toBitVec_inj.1
  show BitVec.ofNat 32 a ^^^ BitVec.ofNat 32 b = BitVec.ofNat 32 (a ^^^ b)
  apply BitVec.eq_of_getLsbD_eq
  intro i hi
  simp [hi]
theorem nx_cnt : ∀ j : Fin 32, (UInt32.ofNat j.val &&& Int32.toUInt32 31).toNat % 32 = j.val := by decide +kernel
theorem nx_ush {k j : Nat} (hk : k < 65536) (hj : j < 32) : ((nI k).toUInt32 >>> ((nI j).toUInt32 &&& Int32.toUInt32 31)).toInt32 = nI (k >>> j) := by
  have hs : k >>> j ≤ k := by
    rw [Nat.shiftRight_eq_div_pow]
    exact Nat.div_le_self _ _
  have e2 : UInt32.ofNat k >>> (UInt32.ofNat j &&& Int32.toUInt32 31) = UInt32.ofNat (k >>> j) := by
    apply UInt32.toNat_inj.1
    have h1 : (UInt32.ofNat k).toNat = k := Nat.mod_eq_of_lt (by omega)
    have h2 : (UInt32.ofNat (k >>> j)).toNat = k >>> j := Nat.mod_eq_of_lt (by omega)
    rw [UInt32.toNat_shiftRight, nx_cnt ⟨j, hj⟩, h1, h2]
  show (UInt32.ofNat k >>> (UInt32.ofNat j &&& Int32.toUInt32 31)).toInt32 = _
  rw [e2]
  rfl
theorem nx_bit {k j : Nat} (hk : k < 65536) (hj : j < 16) : (((nI k).toUInt32 >>> ((nI j).toUInt32 &&& Int32.toUInt32 31)).toInt32 &&& 1) = 0 ↔ k.testBit j = false := by
  rw [nx_ush hk (by omega)]
  show nI (k >>> j) &&& nI 1 = 0 ↔ _
  rw [nx_and, Nat.and_one_is_mod, ← nI_0, nI_eq (by omega) (by omega), Nat.testBit_eq_decide_div_mod_eq, Nat.shiftRight_eq_div_pow, decide_eq_false_iff_not]
  generalize k / 2 ^ j = z
  omega
/-! ===== the count of bits ===== -/
def bc1 (k : Nat) : Nat := k - ((k >>> 1) &&& 1431655765)
def bc2 (k : Nat) : Nat := (k &&& 858993459) + ((k >>> 2) &&& 858993459)
def bc3 (k : Nat) : Nat := (k + (k >>> 4)) &&& 252645135
def bc4 (k : Nat) : Nat := k + (k >>> 8)
def bc5 (k : Nat) : Nat := k + (k >>> 16)
def pc16 (k : Nat) : Nat := cN (fun i => k.testBit i) 16
def pc8 (k : Nat) : Nat := cN (fun i => k.testBit i) 8
theorem land_split {a b c d : Nat} (hb : b < 256) (hd : d < 256) : (256 * a + b) &&& (256 * c + d) = 256 * (a &&& c) + (b &&& d) := by
  apply Nat.eq_of_testBit_eq
  intro i
  have h1 := Nat.testBit_two_pow_mul_add a (i := 8) (b := b) hb i
  have h2 := Nat.testBit_two_pow_mul_add c (i := 8) (b := d) hd i
  have h3 := Nat.testBit_two_pow_mul_add (a &&& c) (i := 8) (b := b &&& d) (Nat.lt_of_le_of_lt Nat.and_le_left hb) i
  rw [show (2 : Nat) ^ 8 = 256 from rfl] at h1 h2 h3
  rw [Nat.testBit_and, h1, h2, h3]
  by_cases g : i < 8 <;> simp [g, Nat.testBit_and]
theorem m1_lo : ∀ e, e < 2 → ∀ b, b < 256 → (128 * e + b / 2) &&& 85 = (b / 2) &&& 1431655765 := by decide +kernel
theorem m1_hi : ∀ a, a < 256 → (a / 2) &&& 5592405 = (a / 2) &&& 1431655765 ∧ ((a / 2) &&& 1431655765) ≤ a := by decide +kernel
theorem m2_lo : ∀ e, e < 4 → ∀ b, b < 256 → (64 * e + b / 4) &&& 51 = (b / 4) &&& 858993459 := by decide +kernel
theorem m2_hi : ∀ a, a < 256 → (a / 4) &&& 3355443 = (a / 4) &&& 858993459 ∧ a &&& 3355443 = a &&& 858993459 ∧ a &&& 51 = a &&& 858993459 := by decide +kernel
theorem m_b : ∀ a, a < 256 → bc1 a < 256 ∧ bc2 (bc1 a) < 256 ∧ ∃ p, p < 5 ∧ ∃ q, q < 5 ∧ bc2 (bc1 a) = p + 16 * q ∧ pc8 a = p + q := by decide +kernel
theorem m_f : ∀ p, p < 5 → ∀ q, q < 5 → ∀ r, r < 5 → ∀ s, s < 5 → bc3 (256 * (p + 16 * q) + (r + 16 * s)) < 65536 ∧ bc4 (bc3 (256 * (p + 16 * q) + (r + 16 * s))) < 65536 ∧ bc5 (bc4 (bc3 (256 * (p + 16 * q) + (r + 16 * s)))) &&& 63 = (p + q) + (r + s) := by decide +kernel
theorem bc1_split {a b : Nat} (ha : a < 256) (hb : b < 256) : bc1 (256 * a + b) = 256 * bc1 a + bc1 b ∧ ((256 * a + b) >>> 1) &&& 1431655765 ≤ 256 * a + b := by
  have h1 : (256 * a + b) >>> 1 = 256 * (a / 2) + (128 * (a % 2) + b / 2) := by rw [Nat.shiftRight_eq_div_pow]; omega
  have h2 := land_split (a := a / 2) (b := 128 * (a % 2) + b / 2) (c := 5592405) (d := 85) (by omega) (by omega)
  rw [show 256 * 5592405 + 85 = 1431655765 from rfl] at h2
  have h3 := m1_lo (a % 2) (by omega) b hb
  have h4 := m1_hi a ha
  have h5 := m1_hi b hb
  unfold bc1
  rw [h1, h2, h3, h4.1, Nat.shiftRight_eq_div_pow, Nat.shiftRight_eq_div_pow]
  show _ = 256 * (a - ((a / 2) &&& 1431655765)) + (b - ((b / 2) &&& 1431655765)) ∧ _
  omega
theorem bc2_split {a b : Nat} (ha : a < 256) (hb : b < 256) : bc2 (256 * a + b) = 256 * bc2 a + bc2 b := by
  have h1 : (256 * a + b) >>> 2 = 256 * (a / 4) + (64 * (a % 4) + b / 4) := by rw [Nat.shiftRight_eq_div_pow]; omega
  have h2 := land_split (a := a / 4) (b := 64 * (a % 4) + b / 4) (c := 3355443) (d := 51) (by omega) (by omega)
  have h2' := land_split (a := a) (b := b) (c := 3355443) (d := 51) hb (by omega)
  rw [show 256 * 3355443 + 51 = 858993459 from rfl] at h2 h2'
  have h3 := m2_lo (a % 4) (by omega) b hb
  have h4 := m2_hi a ha
  have h5 := m2_hi b hb
  unfold bc2
  rw [h1, h2, h2', h3, h4.1, h4.2.1, h5.2.2, Nat.shiftRight_eq_div_pow, Nat.shiftRight_eq_div_pow]
  show _ = 256 * ((a &&& 858993459) + ((a / 4) &&& 858993459)) + ((b &&& 858993459) + ((b / 4) &&& 858993459))
  omega
theorem cN_add (p : Nat → Bool) (i j : Nat) : cN p (i + j) = cN p i + cN (fun k => p (i + k)) j := by
  induction j with
  | zero => rfl
  | succ j ih =>
    rw [← Nat.add_assoc, cN, cN, ih]
    by_cases h : p (i + j) = true <;> simp [h] <;> omega
theorem pc_split {a b : Nat} (hb : b < 256) : pc16 (256 * a + b) = pc8 a + pc8 b := by
  unfold pc16 pc8
  rw [show 16 = 8 + 8 from rfl, cN_add]
  have t := fun i => Nat.testBit_two_pow_mul_add a (i := 8) (b := b) hb i
  rw [show (2 : Nat) ^ 8 = 256 from rfl] at t
  rw [cN_congr (p := fun i => (256 * a + b).testBit i) (q := fun i => b.testBit i) (fun j hj => by rw [t]; simp [hj]), cN_congr (p := fun k => (256 * a + b).testBit (8 + k)) (q := fun i => a.testBit i) (fun j hj => by rw [t, if_neg (by omega), show 8 + j - 8 = j by omega])]
  omega
theorem bc_all {k : Nat} (hk : k < 65536) : ((k >>> 1) &&& 1431655765 ≤ k) ∧ bc1 k < 65536 ∧ bc2 (bc1 k) < 65536 ∧ bc3 (bc2 (bc1 k)) < 65536 ∧ bc4 (bc3 (bc2 (bc1 k))) < 65536 ∧ bc5 (bc4 (bc3 (bc2 (bc1 k)))) &&& 63 = pc16 k := by
  obtain ⟨a, b, ha, hb, rfl⟩ : ∃ a b, a < 256 ∧ b < 256 ∧ k = 256 * a + b := ⟨k / 256, k % 256, by omega, by omega, by omega⟩
  obtain ⟨e1, e2⟩ := bc1_split ha hb
  obtain ⟨a1, a2, p, hp, q, hq, a3, a4⟩ := m_b a ha
  obtain ⟨b1, b2, r, hr, s, hs, b3, b4⟩ := m_b b hb
  have e3 := bc2_split a1 b1
  obtain ⟨f1, f2, f3⟩ := m_f p hp q hq r hr s hs
  rw [pc_split hb, a4, b4]
  rw [e1, e3]
  refine ⟨e2, by omega, by omega, ?_⟩
  rw [a3, b3]
  exact ⟨f1, f2, f3⟩
theorem e_bc {k : Nat} (hk : k < 65536) (σ : sm_M) : f_J6_bitCount_0f7a4 (nI k) σ = some (nI (pc16 k), σ) := by
  obtain ⟨h1, h2, h3, h4, h5, h6⟩ := bc_all hk
  have a1 : ((nI k).toUInt32 >>> ((1 : Int32).toUInt32 &&& Int32.toUInt32 31)).toInt32 = nI (k >>> 1) := nx_ush (j := 1) hk (by decide)
  have b1 : nI k - (nI (k >>> 1) &&& (1431655765 : Int32)) = nI (bc1 k) := by
    rw [show (1431655765 : Int32) = nI 1431655765 from rfl, nx_and]; exact n_sub h1
  have a2 : ((nI (bc1 k)).toUInt32 >>> ((2 : Int32).toUInt32 &&& Int32.toUInt32 31)).toInt32 = nI (bc1 k >>> 2) := nx_ush (j := 2) h2 (by decide)
  have b2 : (nI (bc1 k) &&& (858993459 : Int32)) + (nI (bc1 k >>> 2) &&& (858993459 : Int32)) = nI (bc2 (bc1 k)) := by
    rw [show (858993459 : Int32) = nI 858993459 from rfl, nx_and, nx_and]; exact n_add _ _
  have a3 : ((nI (bc2 (bc1 k))).toUInt32 >>> ((4 : Int32).toUInt32 &&& Int32.toUInt32 31)).toInt32 = nI (bc2 (bc1 k) >>> 4) := nx_ush (j := 4) h3 (by decide)
  have b3 : (nI (bc2 (bc1 k)) + nI (bc2 (bc1 k) >>> 4)) &&& (252645135 : Int32) = nI (bc3 (bc2 (bc1 k))) := by
    rw [show nI (bc2 (bc1 k)) + nI (bc2 (bc1 k) >>> 4) = nI (bc2 (bc1 k) + bc2 (bc1 k) >>> 4) from n_add _ _, show (252645135 : Int32) = nI 252645135 from rfl, nx_and]; rfl
  have a4 : ((nI (bc3 (bc2 (bc1 k)))).toUInt32 >>> ((8 : Int32).toUInt32 &&& Int32.toUInt32 31)).toInt32 = nI (bc3 (bc2 (bc1 k)) >>> 8) := nx_ush (j := 8) h4 (by decide)
  have b4 : nI (bc3 (bc2 (bc1 k))) + nI (bc3 (bc2 (bc1 k)) >>> 8) = nI (bc4 (bc3 (bc2 (bc1 k)))) := n_add _ _
  have a5 : ((nI (bc4 (bc3 (bc2 (bc1 k))))).toUInt32 >>> ((16 : Int32).toUInt32 &&& Int32.toUInt32 31)).toInt32 = nI (bc4 (bc3 (bc2 (bc1 k))) >>> 16) := nx_ush (j := 16) h5 (by decide)
  have b5 : nI (bc4 (bc3 (bc2 (bc1 k)))) + nI (bc4 (bc3 (bc2 (bc1 k))) >>> 16) = nI (bc5 (bc4 (bc3 (bc2 (bc1 k))))) := n_add _ _
  unfold f_J6_bitCount_0f7a4
  rw [a1, b1, a2, b2, a3, b3, a4, b4, a5, b5, show (63 : Int32) = nI 63 from rfl, nx_and, h6]
theorem bt_nI (k i : Nat) (hi : i < 32) : bt (nI k) i = k.testBit i := by
  unfold bt nI
  show (BitVec.ofNat 32 k).getLsbD i = _
  rw [BitVec.getLsbD_ofNat]; simp [hi]
theorem mask_of {M : Int32} (h : ∀ t, 16 ≤ t → bt M t = false) : ∃ k, k < 65536 ∧ M = nI k := by
  refine ⟨M.toBitVec.toNat, ?_, Int32.toBitVec_inj.mp (by show _ = BitVec.ofNat 32 _; simp)⟩
  refine Nat.lt_pow_two_of_testBit (n := 16) _ (fun i hi => ?_)
  exact h i hi
theorem e_bits {M : Int32} {n : Nat} (hn : n ≤ 16) (h : ∀ t, n ≤ t → bt M t = false) (σ : sm_M) : f_J6_bitCount_0f7a4 M σ = some (Int32.ofNat (cN (fun t => bt M t) n), σ) := by
  obtain ⟨k, hk, rfl⟩ := mask_of (fun t ht => h t (by omega))
  rw [e_bc hk]
  congr 2
  show nI _ = nI _
  congr 1
  unfold pc16
  have hz : ∀ i, n ≤ i → i ≤ 16 → cN (fun i => k.testBit i) i = cN (fun t => bt (nI k) t) n := by
    intro i
    induction i with
    | zero => intro h1 _; obtain rfl : n = 0 := by omega
              rfl
    | succ i ih =>
      intro h1 h2
      by_cases e : n = i + 1
      · rw [← e]
        exact cN_congr (fun j hj => (bt_nI k j (by omega)).symm)
      · rw [cN]
        have : k.testBit i = false := by rw [← bt_nI k i (by omega)]; exact h i (by omega)
        rw [this]
        exact ih (by omega) (by omega)
  exact hz 16 hn (Nat.le_refl _)
