/-! ===== counting ===== -/
def cN (p : Nat → Bool) : Nat → Nat
  | 0 => 0
  | i + 1 => if p i then cN p i + 1 else cN p i
theorem cN_le (p : Nat → Bool) (i : Nat) : cN p i ≤ i := by
  induction i with
  | zero => exact Nat.le_refl 0
  | succ i ih => rw [cN]; by_cases h : p i = true <;> simp [h] <;> omega
theorem cN_congr {p q : Nat → Bool} {i : Nat} (h : ∀ j, j < i → p j = q j) : cN p i = cN q i := by
  induction i with
  | zero => rfl
  | succ i ih => rw [cN, cN, ih (fun j hj => h j (by omega)), h i (by omega)]
theorem e_cW {n m : Nat} {σ τ : sm_M} {e0 : Int32} (h : Rl n m e0 σ τ) : f_X2_countWaiting (σ.1 0 0 6) σ = some (Int32.ofNat (cN (fun t => decide ((σ.1 0 0 6).toInt < (σ.1 4 t 9).toInt)) n), σ) := by
  have hn := h.n16
  have e1 := h.1.2.2.1
  have o := h.2.2.1.2.2.2.2.1
  obtain ⟨s', h1, h2⟩ := loopE (F := fun f v (s : Int32) => f_X2_countWaiting_4 f (σ.1 0 0 6) s v σ) (X := fun s => some (s, σ)) (N := n) (by omega) (fun i s => s = Int32.ofNat (cN (fun t => decide ((σ.1 0 0 6).toInt < (σ.1 4 t 9).toInt)) i))
    (fun f i s hi hp => by
      subst hp
      have o2 := (h.T hi).2.2.2.2.2.2.2.1
      refine ⟨_, rfl, ?_⟩
      show f_X2_countWaiting_4 (f + 1) (σ.1 0 0 6) _ (Int32.ofNat i) σ = _
      rw [f_X2_countWaiting_4, e1, if_neg (by rw [n_le (by omega) (by omega)]; omega), aP_n (by show i < 16; omega) (by omega), Option.bind_some, f_X4_waitsStill, Option.bind_some]
      dsimp only
      have e2 : (σ.1 4 i 9 - σ.1 0 0 6).toInt = (σ.1 4 i 9).toInt - (σ.1 0 0 6).toInt := i_sub (by omega) (by omega)
      by_cases g : (σ.1 0 0 6).toInt < (σ.1 4 i 9).toInt
      · have g1 : (0 : Int32) < σ.1 4 i 9 - σ.1 0 0 6 := by rw [i_lt, e2]; show (0 : Int) < _; omega
        have g2 : ¬ σ.1 4 i 9 - σ.1 0 0 6 ≤ 0 := by rw [i_le, e2]; show ¬ _ ≤ (0 : Int); omega
        rw [if_pos g1, if_neg g2, f_X2_countWaiting_28, n_inc, n_inc, cN]
        simp [g]
      · have g1 : ¬ (0 : Int32) < σ.1 4 i 9 - σ.1 0 0 6 := by rw [i_lt, e2]; show ¬ (0 : Int) < _; omega
        rw [if_neg g1, if_pos (by decide), f_X2_countWaiting_28, n_inc, cN]
        simp [g])
    (fun f s hp => by
      show f_X2_countWaiting_4 (f + 1) (σ.1 0 0 6) s (Int32.ofNat n) σ = _
      rw [f_X2_countWaiting_4, e1, if_pos (by rw [n_le (by omega) (by omega)]; omega), f_X2_countWaiting_34]) 0 rfl
  rw [h1] at h2
  exact h2
theorem e_cW' {n m : Nat} {σ τ : sm_M} {e0 : Int32} (h : Rl n m e0 σ τ) : f_X6_waiting τ = some (Int32.ofNat (cN (fun t => decide ((σ.1 0 0 6).toInt < (σ.1 4 t 9).toInt)) n), τ) := by
  have hn := h.n16
  have e1 := h.1.2.2.2.2.1
  have e0 : τ.1 20 0 35 = σ.1 0 0 6 := h.2.1.2.2.1
  obtain ⟨s', h1, h2⟩ := loopE (F := fun f v (s : Int32) => f_X6_waiting_4 f s v τ) (X := fun s => some (s, τ)) (N := n) (by omega) (fun i s => s = Int32.ofNat (cN (fun t => decide ((σ.1 0 0 6).toInt < (σ.1 4 t 9).toInt)) i))
    (fun f i s hi hp => by
      subst hp
      have e2 : τ.1 31 0 i = σ.1 4 i 9 := (h.T hi).1.2.2.2.2.2.2.2.2.2.1
      refine ⟨_, rfl, ?_⟩
      show f_X6_waiting_4 (f + 1) _ (Int32.ofNat i) τ = _
      rw [f_X6_waiting_4, e1, if_neg (by rw [n_le (by omega) (by omega)]; omega), aI_n (by show i < 16; omega) (by omega), Option.bind_some, e0, e2]
      by_cases g : (σ.1 0 0 6).toInt < (σ.1 4 i 9).toInt
      · rw [if_neg (by rw [i_le]; omega), f_X6_waiting_31, n_inc, n_inc, cN]
        simp [g]
      · rw [if_pos (by rw [i_le]; omega), f_X6_waiting_31, n_inc, cN]
        simp [g])
    (fun f s hp => by
      show f_X6_waiting_4 (f + 1) s (Int32.ofNat n) τ = _
      rw [f_X6_waiting_4, e1, if_pos (by rw [n_le (by omega) (by omega)]; omega), f_X6_waiting_39]) 0 rfl
  rw [h1] at h2
  exact h2
theorem e_nT {n m : Nat} {σ τ : sm_M} {e0 : Int32} (h : Rl n m e0 σ τ) : f_X5_nodesThere σ = some (Int32.ofNat (cN (fun k => decide (σ.1 6 0 k = 1)) 4), σ) ∧ f_X6_nodesThere τ = some (Int32.ofNat (cN (fun k => decide (σ.1 6 0 k = 1)) 4), τ) := by
  constructor
  · obtain ⟨s', h1, h2⟩ := loopE (F := fun f v (s : Int32) => f_X5_nodesThere_4 f s v σ) (X := fun s => some (s, σ)) (N := 4) (by omega) (fun i s => s = Int32.ofNat (cN (fun k => decide (σ.1 6 0 k = 1)) i))
      (fun f i s hi hp => by
        subst hp
        refine ⟨_, rfl, ?_⟩
        show f_X5_nodesThere_4 (f + 1) _ (Int32.ofNat i) σ = _
        rw [f_X5_nodesThere_4, if_neg (by rw [show (4 : Int32) = Int32.ofNat 4 from rfl, n_le (by omega) (by omega)]; omega), aI_n (by show i < 4; omega) (by omega), Option.bind_some]
        rcases h.O i hi with ⟨g, -⟩ | ⟨g, -⟩
        · rw [g, if_neg (by decide), f_X5_nodesThere_21, n_inc, n_inc, cN]; simp [g]
        · rw [g, if_pos rfl, f_X5_nodesThere_21, n_inc, cN]; simp [g])
      (fun f s hp => by
        show f_X5_nodesThere_4 (f + 1) s (Int32.ofNat 4) σ = _
        rw [f_X5_nodesThere_4, if_pos (by decide), f_X5_nodesThere_27]) 0 rfl
    rw [h1] at h2
    exact h2
  · obtain ⟨s', h1, h2⟩ := loopE (F := fun f v (s : Int32) => f_X6_nodesThere_4 f s v τ) (X := fun s => some (s, τ)) (N := 4) (by omega) (fun i s => s = Int32.ofNat (cN (fun k => decide (σ.1 6 0 k = 1)) i))
      (fun f i s hi hp => by
        subst hp
        refine ⟨_, rfl, ?_⟩
        show f_X6_nodesThere_4 (f + 1) _ (Int32.ofNat i) τ = _
        rw [f_X6_nodesThere_4, if_neg (by rw [show (4 : Int32) = Int32.ofNat 4 from rfl, n_le (by omega) (by omega)]; omega), aI_n (by show i < 4; omega) (by omega), Option.bind_some]
        rcases h.O i hi with ⟨g, g2⟩ | ⟨g, g2⟩
        · rw [g2, if_pos rfl, f_X6_nodesThere_24, n_inc, n_inc, cN]; simp [g]
        · rw [g2, if_neg (by decide), f_X6_nodesThere_24, n_inc, cN]; simp [g])
      (fun f s hp => by
        show f_X6_nodesThere_4 (f + 1) s (Int32.ofNat 4) τ = _
        rw [f_X6_nodesThere_4, if_pos (by decide), f_X6_nodesThere_32]) 0 rfl
    rw [h1] at h2
    exact h2
/-! ===== what may change, and the tie stays ===== -/
theorem relT_congr {r q q' : Nat → Int32} (h : ∀ φ, isT φ = true → q' φ = q φ) (h1 : relT r q) : relT r q' := by
  unfold relT at h1 ⊢
  rw [h 21 rfl, h 22 rfl, h 23 rfl, h 24 rfl, h 25 rfl, h 26 rfl, h 28 rfl, h 29 rfl, h 30 rfl, h 31 rfl, h 32 rfl, h 44 rfl, h 45 rfl, h 46 rfl]
  exact h1
theorem relC_congr {r q q' : Nat → Int32} (h : ∀ φ, isC φ = true → q' φ = q φ) (h1 : relC r q) : relC r q' := by
  unfold relC relL at h1 ⊢
  rw [h 34 rfl, h 35 rfl, h 36 rfl, h 38 rfl, h 39 rfl, h 40 rfl, h 41 rfl, h 42 rfl, h 43 rfl, h 47 rfl, h 48 rfl, h 49 rfl]
  exact h1
theorem Rl.upd {n m : Nat} {e0 e1 : Int32} {σ τ σ' τ' : sm_M} (h : Rl n m e0 σ τ) (a : ∀ φ, φ ≠ 0 → φ ≠ 2 → φ ≠ 4 → φ ≠ 5 → φ ≠ 9 → φ ≠ 10 → σ'.1 φ = σ.1 φ) (b : τ'.1 27 = τ.1 27 ∧ τ'.1 33 = τ.1 33 ∧ τ'.1 37 = τ.1 37 ∧ τ'.1 50 = τ.1 50 ∧ τ'.1 51 = τ.1 51 ∧ τ'.1 52 = τ.1 52 ∧ τ'.1 53 = τ.1 53) (b2 : τ'.1 20 0 0 = τ.1 20 0 0 ∧ τ'.1 20 0 14 = τ.1 20 0 14) (hG : bG σ' τ') (hB : bB σ' τ') (hT : bT n e1 σ' τ') (hC : bC n m e1 σ' τ')
    (c1 : ∀ t, t < n → (σ'.1 4 t 13).toInt ≤ (σ.1 4 t 13).toInt ∧ (σ'.1 4 t 10).toInt ≤ (σ.1 4 t 10).toInt ∧ σ'.1 4 t 2 = σ.1 4 t 2 ∧ σ'.1 4 t 5 = σ.1 4 t 5) (c2 : ∀ c, c < m → (σ'.1 5 c 4).toInt ≤ (σ.1 5 c 4).toInt ∧ σ'.1 5 c 1 = σ.1 5 c 1 ∧ σ'.1 5 c 2 = σ.1 5 c 2) : Rl n m e1 σ' τ' := by
  obtain ⟨hN, -, -, hT0, hC0, hV, hO, hS, hE, hH⟩ := h
  have s1 := a 1 (by decide) (by decide) (by decide) (by decide) (by decide) (by decide)
  have s3 := a 3 (by decide) (by decide) (by decide) (by decide) (by decide) (by decide)
  have s6 := a 6 (by decide) (by decide) (by decide) (by decide) (by decide) (by decide)
  refine ⟨?_, hG, hB, hT, hC, ⟨fun t j ht hj => ?_, fun t j ht hj => ?_, fun c j hc hj => ?_⟩, fun k hk => ?_, fun j hj => ?_, fun c f g hc e1 e2 hf hg => ?_, fun t f ht hf => ?_⟩
  · unfold bN; rw [s1, b2.1, b2.2]; exact hN
  · rw [b.1, a 14 (by decide) (by decide) (by decide) (by decide) (by decide) (by decide)]; exact hV.1 t j ht (by have := (c1 t ht).1; omega)
  · rw [b.2.1, a 15 (by decide) (by decide) (by decide) (by decide) (by decide) (by decide)]; exact hV.2.1 t j ht (by have := (c1 t ht).2.1; omega)
  · rw [b.2.2.1, a 16 (by decide) (by decide) (by decide) (by decide) (by decide) (by decide)]; exact hV.2.2 c j hc (by have := (c2 c hc).1; omega)
  · rw [s6, b.2.2.2.1]; exact hO k hk
  · rw [s3] at hj
    rw [b.2.2.2.2.1, b.2.2.2.2.2.1, b.2.2.2.2.2.2, a 11 (by decide) (by decide) (by decide) (by decide) (by decide) (by decide), a 12 (by decide) (by decide) (by decide) (by decide) (by decide) (by decide), a 13 (by decide) (by decide) (by decide) (by decide) (by decide) (by decide)]
    exact hS j hj
  · rw [(c2 c hc).2.1] at e1
    rw [(c2 c hc).2.2] at e2
    have o := (hC0 c hc).2.1
    rw [e1, e2, i_of (by omega), i_of (by omega)] at o
    rw [(c1 f (by omega)).2.2.1, (c1 g (by omega)).2.2.1]
    exact hE c f g hc e1 e2 hf hg
  · rw [(c1 t ht).2.2.2, hH t f ht hf]
    constructor
    · rintro ⟨c, hc, q1, q2⟩
      exact ⟨c, hc, by rw [(c2 c hc).2.1]; exact q1, by rw [(c2 c hc).2.2]; exact q2⟩
    · rintro ⟨c, hc, q1, q2⟩
      rw [(c2 c hc).2.1] at q1
      rw [(c2 c hc).2.2] at q2
      exact ⟨c, hc, q1, q2⟩
/-! ===== mark ===== -/
def mkT (r : Nat → Int32) : Nat → Int32 := ur (ur (ur r 14 (r 11)) 15 (r 12)) 16 (r 13)
def mkC (r : Nat → Int32) : Nat → Int32 := ur (ur (ur (ur r 9 (r 4)) 10 (r 5)) 11 (r 6)) 8 0
def mkT' (q : Nat → Int32) : Nat → Int32 := ur (ur (ur q 44 (q 24)) 45 (q 25)) 46 (q 26)
def mkC' (q : Nat → Int32) : Nat → Int32 := ur (ur (ur (ur q 47 (q 38)) 48 (q 39)) 49 (q 40)) 42 0
theorem e_mkT {i : Nat} {σ : sm_M} : f_X4_keepAsMark i σ = some (setR σ 4 i (mkT (σ.1 4 i))) := by
  simp only [f_X4_keepAsMark, sI_s, Option.bind_some, wI_R, R_at, R_R]
  simp [mkT, ur]
theorem e_mkC {i : Nat} {σ : sm_M} : f_X1_keepAsMark i σ = some (setR σ 5 i (mkC (σ.1 5 i))) := by
  simp only [f_X1_keepAsMark, sI_s, Option.bind_some, wI_R, R_at, R_R]
  simp [mkC, ur]
theorem e_keep {n m : Nat} {σ : sm_M} (hn : n ≤ 16) (hm : m ≤ 40) (e1 : σ.1 1 0 2 = Int32.ofNat n) (e2 : σ.1 1 0 3 = Int32.ofNat m) : f_X2_keepAsMark σ = some (mapR (mapR σ 4 n (fun j => mkT (σ.1 4 j))) 5 m (fun j => mkC (σ.1 5 j))) := by
  obtain ⟨s', h1, h2⟩ := loopE (F := fun f v (s : sm_M) => f_X2_keepAsMark_2 f v s) (X := f_X2_keepAsMark_25) (N := n) (by omega) (fun i s => s = mapR σ 4 i (fun j => mkT (σ.1 4 j)))
    (fun f i s hi hp => by
      subst hp
      refine ⟨_, rfl, ?_⟩
      show f_X2_keepAsMark_2 (f + 1) (Int32.ofNat i) _ = _
      rw [f_X2_keepAsMark_2, mapR_ne (by decide), e1, if_neg (by rw [n_le (by omega) (by omega)]; omega), aP_n (by show i < 16; omega) (by omega), Option.bind_some, e_mkT, Option.bind_some, n_inc, mapR_ge (Nat.lt_irrefl i), mapR_s])
    (fun f s hp => by
      subst hp
      show f_X2_keepAsMark_2 (f + 1) (Int32.ofNat n) _ = _
      rw [f_X2_keepAsMark_2, mapR_ne (by decide), e1, if_pos (by rw [n_le (by omega) (by omega)]; omega)]) σ mapR_0.symm
  subst h1
  obtain ⟨s', h3, h4⟩ := loopE (F := fun f v (s : sm_M) => f_X2_keepAsMark_27 f v s) (X := some) (N := m) (by omega) (fun i s => s = mapR (mapR σ 4 n (fun j => mkT (σ.1 4 j))) 5 i (fun j => mkC (σ.1 5 j)))
    (fun f i s hi hp => by
      subst hp
      refine ⟨_, rfl, ?_⟩
      show f_X2_keepAsMark_27 (f + 1) (Int32.ofNat i) _ = _
      rw [f_X2_keepAsMark_27, mapR_ne (by decide), mapR_ne (by decide), e2, if_neg (by rw [n_le (by omega) (by omega)]; omega), aP_n (by show i < 40; omega) (by omega), Option.bind_some, e_mkC, Option.bind_some, n_inc, mapR_ge (Nat.lt_irrefl i), mapR_ne (φ := 4) (by decide), mapR_s])
    (fun f s hp => by
      subst hp
      show f_X2_keepAsMark_27 (f + 1) (Int32.ofNat m) _ = _
      rw [f_X2_keepAsMark_27, mapR_ne (by decide), mapR_ne (by decide), e2, if_pos (by rw [n_le (by omega) (by omega)]; omega)]) _ mapR_0.symm
  subst h3
  exact h2.trans h4
