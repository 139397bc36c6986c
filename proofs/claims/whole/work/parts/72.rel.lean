/-! ===== the model's columns ===== -/
def colK (τ : sm_M) (i : Nat) : Nat → Int32 := fun φ => τ.1 φ 0 i
def setK (τ : sm_M) (P : Nat → Bool) (i : Nat) (q : Nat → Int32) : sm_M := (fun ψ j k => if P ψ = true ∧ j = 0 ∧ k = i then q ψ else τ.1 ψ j k, τ.2)
def mapK (τ : sm_M) (P : Nat → Bool) (i : Nat) (g : Nat → Nat → Int32) : sm_M := (fun ψ j k => if P ψ = true ∧ j = 0 ∧ k < i then g k ψ else τ.1 ψ j k, τ.2)
def isT (φ : Nat) : Bool := (21 ≤ φ && φ ≤ 26) || (28 ≤ φ && φ ≤ 32) || (44 ≤ φ && φ ≤ 46) || φ == 54 || φ == 58 || φ == 59
def isC (φ : Nat) : Bool := (34 ≤ φ && φ ≤ 36) || (38 ≤ φ && φ ≤ 43) || (47 ≤ φ && φ ≤ 49) || (55 ≤ φ && φ ≤ 57)
theorem wI_K {τ : sm_M} {P : Nat → Bool} {φ i : Nat} {v : Int32} (h : P φ = true) : wI τ φ 0 i v = setK τ P i (ur (colK τ i) φ v) := by
  unfold wI setK
  refine Prod.ext ?_ rfl
  funext ψ j k
  by_cases h1 : ψ = φ
  · subst h1
    by_cases h2 : j = 0 ∧ k = i
    · obtain ⟨rfl, rfl⟩ := h2; simp [sm_up, ur, h]
    · have : ¬ (j = 0 ∧ k = i) := h2
      simp [sm_up, h]; simp [this]
  · by_cases h2 : P ψ = true ∧ j = 0 ∧ k = i
    · obtain ⟨h3, rfl, rfl⟩ := h2; simp [sm_up, ur, h1, h3, colK]
    · simp [sm_up, h1, h2]
theorem K_w {τ : sm_M} {P : Nat → Bool} {φ i : Nat} {v : Int32} {q : Nat → Int32} (h : P φ = true) : wI (setK τ P i q) φ 0 i v = setK τ P i (ur q φ v) := by
  unfold wI setK
  refine Prod.ext ?_ rfl
  funext ψ j k
  by_cases h1 : ψ = φ
  · subst h1
    by_cases h2 : j = 0 ∧ k = i
    · obtain ⟨rfl, rfl⟩ := h2; simp [sm_up, ur, h]
    · have : ¬ (j = 0 ∧ k = i) := h2
      simp [sm_up, h]; simp [this]
  · by_cases h2 : P ψ = true ∧ j = 0 ∧ k = i
    · obtain ⟨h3, rfl, rfl⟩ := h2; simp [sm_up, ur, h1, h3]
    · simp [sm_up, h1, h2]
theorem R_w {σ : sm_M} {φ i k : Nat} {v : Int32} {r : Nat → Int32} : wI (setR σ φ i r) φ i k v = setR σ φ i (ur r k v) := by rw [wI_R, R_at, R_R]
theorem K_at {τ : sm_M} {P : Nat → Bool} {φ i : Nat} {q : Nat → Int32} (h : P φ = true) : (setK τ P i q).1 φ 0 i = q φ := by simp [setK, h]
theorem K_i {τ : sm_M} {P : Nat → Bool} {φ i j : Nat} {q : Nat → Int32} (h : j ≠ i) : (setK τ P i q).1 φ 0 j = τ.1 φ 0 j := by simp [setK, h]
theorem K_ne {τ : sm_M} {P : Nat → Bool} {φ i : Nat} {q : Nat → Int32} (h : P φ = false) : (setK τ P i q).1 φ = τ.1 φ := by funext j k; simp [setK, h]
theorem mapK_0 {τ : sm_M} {P : Nat → Bool} {g : Nat → Nat → Int32} : mapK τ P 0 g = τ := by
  unfold mapK; refine Prod.ext ?_ rfl; funext ψ j k; simp
theorem mapK_s {τ : sm_M} {P : Nat → Bool} {i : Nat} {g : Nat → Nat → Int32} : setK (mapK τ P i g) P i (g i) = mapK τ P (i + 1) g := by
  unfold mapK setK; refine Prod.ext ?_ rfl
  funext ψ j k
  by_cases h : P ψ = true ∧ j = 0
  · obtain ⟨h1, rfl⟩ := h
    by_cases h2 : k = i
    · subst h2; simp [h1]
    · by_cases h3 : k < i
      · have : k < i + 1 := by omega
        simp [h1, h2, h3, this]
      · have : ¬ k < i + 1 := by omega
        simp [h1, h2, h3, this]
  · have h4 : ¬ (P ψ = true ∧ j = 0 ∧ k = i) := fun q => h ⟨q.1, q.2.1⟩
    have h5 : ¬ (P ψ = true ∧ j = 0 ∧ k < i) := fun q => h ⟨q.1, q.2.1⟩
    have h6 : ¬ (P ψ = true ∧ j = 0 ∧ k < i + 1) := fun q => h ⟨q.1, q.2.1⟩
    dsimp only; rw [if_neg h4, if_neg h5, if_neg h6]
theorem mapK_at {τ : sm_M} {P : Nat → Bool} {φ i k : Nat} {g : Nat → Nat → Int32} (h : P φ = true) (hk : k < i) : (mapK τ P i g).1 φ 0 k = g k φ := by simp [mapK, h, hk]
theorem mapK_ge {τ : sm_M} {P : Nat → Bool} {φ i k : Nat} {g : Nat → Nat → Int32} (hk : ¬ k < i) : (mapK τ P i g).1 φ 0 k = τ.1 φ 0 k := by simp [mapK, hk]
theorem mapK_ne {τ : sm_M} {P : Nat → Bool} {φ i : Nat} {g : Nat → Nat → Int32} (h : P φ = false) : (mapK τ P i g).1 φ = τ.1 φ := by funext j k; simp [mapK, h]
/-! ===== what ties the class to the reference ===== -/
def relT (r q : Nat → Int32) : Prop := q 21 = r 2 ∧ q 22 = r 3 ∧ q 23 = r 4 ∧ q 24 = r 11 ∧ q 25 = r 12 ∧ q 26 = r 13 ∧ q 28 = r 6 ∧ q 29 = r 7 ∧ q 30 = r 8 ∧ q 31 = r 9 ∧ q 32 = r 10 ∧ q 44 = r 14 ∧ q 45 = r 15 ∧ q 46 = r 16
def relL (r q : Nat → Int32) : Prop := (q 42 = 0 ∧ r 8 = 0) ∨ (q 42 = 1 ∧ q 43 = r 9 + r 8 ∧ 0 < (r 8).toInt)
def relC (r q : Nat → Int32) : Prop := q 34 = r 1 ∧ q 35 = r 2 ∧ q 36 = r 3 ∧ q 38 = r 4 ∧ q 39 = r 5 ∧ q 40 = r 6 ∧ q 41 = r 7 ∧ q 47 = r 9 ∧ q 48 = r 10 ∧ q 49 = r 11 ∧ relL r q
def okT (e : Int32) (r : Nat → Int32) : Prop := (0 ≤ (r 2).toInt ∧ (r 2).toInt ≤ 5) ∧ (r 2 = 0 → 0 ≤ (r 3).toInt ∧ (r 3).toInt ≤ 20 ∧ 0 ≤ (r 11).toInt ∧ (r 11).toInt ≤ (r 3).toInt ∧ 0 ≤ (r 14).toInt ∧ (r 14).toInt ≤ (r 3).toInt) ∧ (r 2 = 2 → 1 ≤ (r 3).toInt ∧ (r 3).toInt ≤ 5) ∧ (0 ≤ (r 4).toInt ∧ (r 4).toInt ≤ 3) ∧ (1 ≤ (r 7).toInt ∧ (r 7).toInt ≤ 8) ∧ (0 ≤ (r 8).toInt ∧ (r 8).toInt ≤ 10 ∧ (e = 0 → (r 8).toInt ≤ 9)) ∧ (0 ≤ (r 9).toInt ∧ (r 9).toInt ≤ 1000016) ∧ (0 ≤ (r 10).toInt ∧ (r 10).toInt ≤ 8) ∧ (0 ≤ (r 16).toInt ∧ (r 16).toInt ≤ (r 13).toInt ∧ (r 13).toInt ≤ 200)
def okC (n : Nat) (e : Int32) (r : Nat → Int32) : Prop := (0 ≤ (r 1).toInt ∧ (r 1).toInt < (r 2).toInt ∧ (r 2).toInt < n) ∧ (r 3 = 0 ∨ r 3 = 1) ∧ (0 ≤ (r 5).toInt ∧ (r 5).toInt ≤ (r 4).toInt ∧ (r 4).toInt ≤ 64) ∧ (0 ≤ (r 6).toInt ∧ (r 6).toInt ≤ 64) ∧ (0 ≤ (r 7).toInt ∧ (r 7).toInt ≤ 64) ∧ (0 ≤ (r 10).toInt ∧ (r 10).toInt ≤ (r 9).toInt ∧ (r 9).toInt ≤ (r 4).toInt) ∧ (0 ≤ (r 11).toInt ∧ (r 11).toInt ≤ 64) ∧ (0 ≤ (r 8).toInt ∧ (r 9).toInt + (r 8).toInt ≤ (r 4).toInt) ∧ (e = 0 → 0 < (r 8).toInt → (r 9).toInt + (r 8).toInt ≤ (r 6).toInt)
def bN (n m : Nat) (σ τ : sm_M) : Prop := n ≤ 16 ∧ m ≤ 40 ∧ σ.1 1 0 2 = Int32.ofNat n ∧ σ.1 1 0 3 = Int32.ofNat m ∧ τ.1 20 0 0 = Int32.ofNat n ∧ τ.1 20 0 14 = Int32.ofNat m
def bG (σ τ : sm_M) : Prop := τ.1 20 0 32 = σ.1 0 0 4 ∧ τ.1 20 0 33 = σ.1 0 0 5 ∧ τ.1 20 0 35 = σ.1 0 0 6 ∧ τ.1 20 0 36 = σ.1 0 0 9 ∧ τ.1 20 0 37 = σ.1 0 0 11 ∧ τ.1 20 0 38 = σ.1 0 0 8 ∧ τ.1 20 0 39 = σ.1 3 0 3 ∧ τ.1 20 0 43 = σ.1 0 0 12 ∧ τ.1 20 0 44 = σ.1 0 0 10 ∧ (τ.1 20 0 34).toInt64 = σ.2 0 0 7
def bB (σ τ : sm_M) : Prop := (1 ≤ (σ.1 0 0 4).toInt ∧ (σ.1 0 0 4).toInt ≤ 9) ∧ (σ.1 0 0 5 = 0 ∨ σ.1 0 0 5 = 1) ∧ (σ.1 0 0 11 = 0 ∨ σ.1 0 0 11 = 1) ∧ (σ.1 0 0 12 = 0 ∨ σ.1 0 0 12 = 1) ∧ (0 ≤ (σ.1 0 0 6).toInt ∧ (σ.1 0 0 6).toInt ≤ 1000000) ∧ (0 ≤ (σ.1 3 0 3).toInt ∧ (σ.1 3 0 3).toInt ≤ 64) ∧ (0 ≤ (τ.1 20 0 34).toInt ∧ (τ.1 20 0 34).toInt < 2147483647)
def bT (n : Nat) (e : Int32) (σ τ : sm_M) : Prop := ∀ t, t < n → relT (σ.1 4 t) (colK τ t) ∧ okT e (σ.1 4 t)
def bC (n m : Nat) (e : Int32) (σ τ : sm_M) : Prop := ∀ c, c < m → relC (σ.1 5 c) (colK τ c) ∧ okC n e (σ.1 5 c)
def bV (n m : Nat) (σ τ : sm_M) : Prop := (∀ t j : Nat, t < n → (j : Int) < (σ.1 4 t 13).toInt → τ.1 27 0 (200 * t + j) = σ.1 14 t j) ∧ (∀ t j : Nat, t < n → (j : Int) < (σ.1 4 t 10).toInt → τ.1 33 0 (8 * t + j) = σ.1 15 t j) ∧ (∀ c j : Nat, c < m → (j : Int) < (σ.1 5 c 4).toInt → τ.1 37 0 (64 * c + j) = σ.1 16 c j)
def bO (σ τ : sm_M) : Prop := ∀ k, k < 4 → (σ.1 6 0 k = 1 ∧ τ.1 50 0 k = 0) ∨ (σ.1 6 0 k = 0 ∧ τ.1 50 0 k = 1)
def bS (σ τ : sm_M) : Prop := ∀ j : Nat, (j : Int) < (σ.1 3 0 3).toInt → τ.1 51 0 j = σ.1 11 0 j ∧ τ.1 52 0 j = σ.1 12 0 j ∧ τ.1 53 0 j = σ.1 13 0 j
def bE (m : Nat) (σ : sm_M) : Prop := ∀ c f g : Nat, c < m → σ.1 5 c 1 = Int32.ofNat f → σ.1 5 c 2 = Int32.ofNat g → f < 16 → g < 16 → σ.1 4 f 2 ≠ 5 ∧ σ.1 4 g 2 ≠ 0
def bH (n m : Nat) (σ : sm_M) : Prop := ∀ t f : Nat, t < n → f < 32 → (bt (σ.1 4 t 5) f = true ↔ ∃ c, c < m ∧ σ.1 5 c 1 = Int32.ofNat f ∧ σ.1 5 c 2 = Int32.ofNat t)
/-- e: as if the job had ended (1), or not -/
def Rl (n m : Nat) (e : Int32) (σ τ : sm_M) : Prop := bN n m σ τ ∧ bG σ τ ∧ bB σ τ ∧ bT n e σ τ ∧ bC n m e σ τ ∧ bV n m σ τ ∧ bO σ τ ∧ bS σ τ ∧ bE m σ ∧ bH n m σ
/-- a call answers alike, and keeps what ties -/
def Ok2 (fc fm : sm_M → Option (Int32 × sm_M)) : Prop := ∀ (n m : Nat) (σ τ : sm_M), Rl n m (σ.1 0 0 12) σ τ → ∃ (r : Int32) (n' m' : Nat) (σ' τ' : sm_M), fc σ = some (r, σ') ∧ fm τ = some (r, τ') ∧ Rl n' m' (σ'.1 0 0 12) σ' τ'
theorem Ok2.same {fc fm : sm_M → Option (Int32 × sm_M)} {n m : Nat} {σ τ : sm_M} {r : Int32} (h : Rl n m (σ.1 0 0 12) σ τ) (h1 : fc σ = some (r, σ)) (h2 : fm τ = some (r, τ)) : ∃ (r : Int32) (n' m' : Nat) (σ' τ' : sm_M), fc σ = some (r, σ') ∧ fm τ = some (r, τ') ∧ Rl n' m' (σ'.1 0 0 12) σ' τ' := ⟨r, n, m, σ, τ, h1, h2, h⟩
theorem v_cases (v : Int32) {n : Nat} (hn : n < 2147483648) : (v < 0 ∨ Int32.ofNat n ≤ v) ∨ ∃ j, j < n ∧ v = Int32.ofNat j := by
  by_cases h0 : v < 0
  · exact Or.inl (Or.inl h0)
  · by_cases h1 : Int32.ofNat n ≤ v
    · exact Or.inl (Or.inr h1)
    · exact Or.inr (n_get hn h0 h1)
theorem n_pos {j : Nat} (hj : j < 2147483648) : ¬ Int32.ofNat j < 0 := by rw [i_lt, i_of hj]; simp
theorem e_in (v a b : Int32) (τ : sm_M) : f_X6_in v a b τ = some (if v < a ∨ b < v then 0 else 1, τ) := by
  unfold f_X6_in f_X6_in_14 f_X6_in_15
  by_cases h1 : v < a
  · simp [h1]
  · by_cases h2 : b < v <;> simp [h1, h2]
section HAS
variable {n m : Nat} {σ τ : sm_M} {v : Int32}
theorem hasT_no {e0 : Int32} (h : Rl n m e0 σ τ) (hv : v < 0 ∨ Int32.ofNat n ≤ v) : f_X2_hasTask v σ = some (0, σ) := by
  obtain ⟨⟨h1, h2, h3, h4, h5, h6⟩, -⟩ := h
  unfold f_X2_hasTask f_X2_hasTask_16 f_X2_hasTask_17
  rw [h3]
  by_cases g : v < 0
  · simp [g]
  · simp [g, hv.resolve_left g]
theorem hasT_yes {j : Nat} {e0 : Int32} (h : Rl n m e0 σ τ) (hj : j < n) : f_X2_hasTask (Int32.ofNat j) σ = some (1, σ) := by
  obtain ⟨⟨h1, h2, h3, h4, h5, h6⟩, -⟩ := h
  unfold f_X2_hasTask f_X2_hasTask_16 f_X2_hasTask_17
  rw [h3, if_neg (n_pos (by omega)), if_neg (by rw [n_le (by omega) (by omega)]; omega)]
  simp
theorem hasC_no {e0 : Int32} (h : Rl n m e0 σ τ) (hv : v < 0 ∨ Int32.ofNat m ≤ v) : f_X2_hasChannel v σ = some (0, σ) := by
  obtain ⟨⟨h1, h2, h3, h4, h5, h6⟩, -⟩ := h
  unfold f_X2_hasChannel f_X2_hasChannel_16 f_X2_hasChannel_17
  rw [h4]
  by_cases g : v < 0
  · simp [g]
  · simp [g, hv.resolve_left g]
theorem hasC_yes {j : Nat} {e0 : Int32} (h : Rl n m e0 σ τ) (hj : j < m) : f_X2_hasChannel (Int32.ofNat j) σ = some (1, σ) := by
  obtain ⟨⟨h1, h2, h3, h4, h5, h6⟩, -⟩ := h
  unfold f_X2_hasChannel f_X2_hasChannel_16 f_X2_hasChannel_17
  rw [h4, if_neg (n_pos (by omega)), if_neg (by rw [n_le (by omega) (by omega)]; omega)]
  simp
theorem top_1 {k : Nat} (hk : k ≤ 64) : (Int32.ofNat k - 1).toInt = (k : Int) - 1 := by
  rw [i_sub] <;> rw [i_of (by omega)] <;> simp <;> omega
theorem noT_yes {e0 : Int32} (h : Rl n m e0 σ τ) (hv : v < 0 ∨ Int32.ofNat n ≤ v) : f_X6_noTask v τ = some (1, τ) := by
  obtain ⟨⟨h1, h2, h3, h4, h5, h6⟩, -⟩ := h
  unfold f_X6_noTask f_X6_noTask_19
  rw [h5, e_in, if_pos]
  · simp
  · rcases hv with g | g
    · exact Or.inl g
    · refine Or.inr ?_
      rw [i_le, i_of (by omega)] at g
      rw [i_lt, top_1 (by omega)]; omega
theorem noT_no {j : Nat} {e0 : Int32} (h : Rl n m e0 σ τ) (hj : j < n) : f_X6_noTask (Int32.ofNat j) τ = some (0, τ) := by
  obtain ⟨⟨h1, h2, h3, h4, h5, h6⟩, -⟩ := h
  unfold f_X6_noTask f_X6_noTask_19
  rw [h5, e_in, if_neg]
  · simp
  · rintro (g | g)
    · exact n_pos (by omega) g
    · rw [i_lt, top_1 (by omega), i_of (by omega)] at g; omega
theorem noC_yes {e0 : Int32} (h : Rl n m e0 σ τ) (hv : v < 0 ∨ Int32.ofNat m ≤ v) : f_X6_noChannel v τ = some (1, τ) := by
  obtain ⟨⟨h1, h2, h3, h4, h5, h6⟩, -⟩ := h
  unfold f_X6_noChannel f_X6_noChannel_19
  rw [h6, e_in, if_pos]
  · simp
  · rcases hv with g | g
    · exact Or.inl g
    · refine Or.inr ?_
      rw [i_le, i_of (by omega)] at g
      rw [i_lt, top_1 (by omega)]; omega
theorem noC_no {j : Nat} {e0 : Int32} (h : Rl n m e0 σ τ) (hj : j < m) : f_X6_noChannel (Int32.ofNat j) τ = some (0, τ) := by
  obtain ⟨⟨h1, h2, h3, h4, h5, h6⟩, -⟩ := h
  unfold f_X6_noChannel f_X6_noChannel_19
  rw [h6, e_in, if_neg]
  · simp
  · rintro (g | g)
    · exact n_pos (by omega) g
    · rw [i_lt, top_1 (by omega), i_of (by omega)] at g; omega
theorem Rl.n16 {e0 : Int32} (h : Rl n m e0 σ τ) : n ≤ 16 := h.1.1
theorem Rl.m40 {e0 : Int32} (h : Rl n m e0 σ τ) : m ≤ 40 := h.1.2.1
theorem Rl.T {e0 : Int32} (h : Rl n m e0 σ τ) {t : Nat} (ht : t < n) : relT (σ.1 4 t) (colK τ t) ∧ okT e0 (σ.1 4 t) := h.2.2.2.1 t ht
theorem Rl.C {e0 : Int32} (h : Rl n m e0 σ τ) {c : Nat} (hc : c < m) : relC (σ.1 5 c) (colK τ c) ∧ okC n e0 (σ.1 5 c) := h.2.2.2.2.1 c hc
theorem Rl.V {e0 : Int32} (h : Rl n m e0 σ τ) : bV n m σ τ := h.2.2.2.2.2.1
theorem Rl.O {e0 : Int32} (h : Rl n m e0 σ τ) : bO σ τ := h.2.2.2.2.2.2.1
theorem Rl.S {e0 : Int32} (h : Rl n m e0 σ τ) : bS σ τ := h.2.2.2.2.2.2.2.1
theorem Rl.E {e0 : Int32} (h : Rl n m e0 σ τ) : bE m σ := h.2.2.2.2.2.2.2.2.1
theorem Rl.H {e0 : Int32} (h : Rl n m e0 σ τ) : bH n m σ := h.2.2.2.2.2.2.2.2.2
end HAS
