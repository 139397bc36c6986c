/-! ===== blame of many; a task fails alone ===== -/
def itc (F kind : Int32) (σ : sm_M) : Nat → sm_M
  | 0 => σ
  | i + 1 => if bt F i = true then blc i kind (itc F kind σ i) else itc F kind σ i
def mxf (F : Int32) (σ : sm_M) : Nat → Int32
  | 0 => 0
  | i + 1 => if bt F i = true then (if mxf F σ i < σ.1 4 i 8 + 1 then σ.1 4 i 8 + 1 else mxf F σ i) else mxf F σ i
section FAIL
variable {n m : Nat} {σ τ : sm_M} {F kind : Int32}
theorem it_ne {φ i : Nat} (h1 : φ ≠ 3) (h2 : φ ≠ 4) (h3 : φ ≠ 11) (h4 : φ ≠ 12) (h5 : φ ≠ 13) : (itc F kind σ i).1 φ = σ.1 φ := by
  induction i with
  | zero => rfl
  | succ i ih =>
    rw [itc]
    by_cases g : bt F i = true
    · rw [if_pos g, blc_ne h1 h2 h3 h4 h5, ih]
    · rw [if_neg g, ih]
theorem it_4 {i t : Nat} : (itc F kind σ i).1 4 t = if t < i ∧ bt F t = true then ur (σ.1 4 t) 8 (σ.1 4 t 8 + 1) else σ.1 4 t := by
  induction i with
  | zero => rw [if_neg (fun q => Nat.not_lt_zero t q.1)]; rfl
  | succ i ih =>
    rw [itc]
    by_cases g : bt F i = true
    · rw [if_pos g]
      by_cases e : t = i
      · subst e
        rw [blc_4, ih, if_neg (fun q => Nat.lt_irrefl t q.1), if_pos ⟨Nat.lt_succ_self t, g⟩]
      · rw [blc_4i e, ih]
        by_cases q : t < i ∧ bt F t = true
        · rw [if_pos q, if_pos ⟨by omega, q.2⟩]
        · rw [if_neg q, if_neg (fun q2 => q ⟨by omega, q2.2⟩)]
    · rw [if_neg g, ih]
      by_cases q : t < i ∧ bt F t = true
      · rw [if_pos q, if_pos ⟨by omega, q.2⟩]
      · rw [if_neg q, if_neg]
        rintro ⟨q1, q2⟩
        by_cases e : t = i
        · subst e; exact g q2
        · exact q ⟨by omega, q2⟩
theorem Rl.one {e0 : Int32} (h : Rl n m e0 σ τ) : Rl n m 1 σ τ := h.glob (fun _ _ _ _ _ => rfl) (fun _ _ _ => rfl) ⟨rfl, rfl⟩ h.2.1 h.2.2.1 (Or.inr rfl)
theorem it_rl {e0 : Int32} (h : Rl n m e0 σ τ) (h9 : ∀ t, t < n → (σ.1 4 t 8).toInt ≤ 9) {i : Nat} (hi : i ≤ n) : ∃ τ', Rl n m 1 (itc F kind σ i) τ' := by
  induction i with
  | zero => exact ⟨τ, h.one⟩
  | succ i ih =>
    obtain ⟨τ1, h1⟩ := ih (by omega)
    rw [itc]
    by_cases g : bt F i = true
    · rw [if_pos g]
      exact ⟨_, bl1 h1 (by omega) (by rw [it_4, if_neg (fun q => Nat.lt_irrefl i q.1)]; exact h9 i (by omega))⟩
    · rw [if_neg g]; exact ⟨τ1, h1⟩
theorem f_inc {x : Int32} (h0 : 0 ≤ x.toInt) (h9 : x.toInt ≤ 9) : (x + 1).toInt = x.toInt + 1 := i_add (by show _ ≤ _ + (1 : Int); omega) (by show _ + (1 : Int) < _; omega)
theorem mx_b {e0 : Int32} (h : Rl n m e0 σ τ) (h9 : ∀ t, t < n → (σ.1 4 t 8).toInt ≤ 9) {i : Nat} (hi : i ≤ n) : (0 ≤ (mxf F σ i).toInt ∧ (mxf F σ i).toInt ≤ 10) ∧ ∀ t, t < i → bt F t = true → (σ.1 4 t 8).toInt + 1 ≤ (mxf F σ i).toInt := by
  induction i with
  | zero => exact ⟨by rw [mxf]; decide, fun t ht => absurd ht (Nat.not_lt_zero t)⟩
  | succ i ih =>
    obtain ⟨a1, a2⟩ := ih (by omega)
    have o := (h.T (show i < n by omega)).2.2.2.2.2.2.1
    have e8 := f_inc o.1 (h9 i (by omega))
    rw [mxf]
    by_cases g : bt F i = true
    · rw [if_pos g]
      by_cases g2 : mxf F σ i < σ.1 4 i 8 + 1
      · rw [if_pos g2, e8]
        rw [i_lt, e8] at g2
        refine ⟨by have := h9 i (by omega); omega, fun t ht q => ?_⟩
        by_cases e : t = i
        · subst e; omega
        · have := a2 t (by omega) q; omega
      · rw [if_neg g2]
        rw [i_lt, e8] at g2
        refine ⟨a1, fun t ht q => ?_⟩
        by_cases e : t = i
        · subst e; omega
        · exact a2 t (by omega) q
    · rw [if_neg g]
      refine ⟨a1, fun t ht q => ?_⟩
      by_cases e : t = i
      · subst e; exact absurd q g
      · exact a2 t (by omega) q
theorem e_bla {e0 : Int32} (h : Rl n m e0 σ τ) (h9 : ∀ t, t < n → (σ.1 4 t 8).toInt ≤ 9) : f_X5_blameAll F kind σ = some (mxf F σ n, if mxf F σ n ≤ σ.1 0 0 4 then itc F kind σ n else wI (itc F kind σ n) 0 0 12 1) := by
  have hn := h.n16
  have e1 := h.1.2.2.1
  obtain ⟨s', h1, h2⟩ := loopE (F := fun f v (s : Int32 × sm_M) => f_X5_blameAll_5 f F kind s.1 v s.2) (X := fun s => f_X5_blameAll_83 s.1 s.2) (N := n) (by omega) (fun i s => s = (mxf F σ i, itc F kind σ i))
    (fun f i s hi hp => by
      subst hp
      refine ⟨_, rfl, ?_⟩
      show f_X5_blameAll_5 (f + 1) F kind (mxf F σ i) (Int32.ofNat i) (itc F kind σ i) = f_X5_blameAll_5 f F kind (mxf F σ (i + 1)) (Int32.ofNat (i + 1)) (itc F kind σ (i + 1))
      rw [f_X5_blameAll_5, it_ne (φ := 1) (by decide) (by decide) (by decide) (by decide) (by decide), e1, if_neg (by rw [n_le (by omega) (by omega)]; omega), e_isIn (by omega), Option.bind_some]
      dsimp only
      rw [itc, mxf]
      by_cases g : bt F i = true
      · obtain ⟨τ1, r1⟩ := it_rl (F := F) (kind := kind) h h9 (show i ≤ n by omega)
        obtain ⟨σa, ea, eb⟩ := blc_f (kind := kind) r1 hi
        have : (blc i kind (itc F kind σ i)).1 4 i 8 = σ.1 4 i 8 + 1 := by
          rw [blc_4, it_4, if_neg (fun q => Nat.lt_irrefl i q.1)]; simp [ur]
        rw [if_pos g, if_neg (by decide), ea, Option.bind_some, aP_n (by show i < 16; omega) (by omega), Option.bind_some, sI_s, Option.bind_some, Option.bind_some, eb, f_X5_blameAll_77, n_inc, if_pos g, if_pos g, this]
      · rw [if_neg g, if_pos rfl, f_X5_blameAll_77, n_inc, if_neg g, if_neg g])
    (fun f s hp => by
      subst hp
      show f_X5_blameAll_5 (f + 1) F kind (mxf F σ n) (Int32.ofNat n) (itc F kind σ n) = _
      rw [f_X5_blameAll_5, it_ne (φ := 1) (by decide) (by decide) (by decide) (by decide) (by decide), e1, if_pos (by rw [n_le (by omega) (by omega)]; omega)]) (0, σ) rfl
  subst h1
  rw [f_X5_blameAll]
  refine h2.trans ?_
  show f_X5_blameAll_83 (mxf F σ n) (itc F kind σ n) = _
  rw [f_X5_blameAll_83, it_ne (φ := 0) (by decide) (by decide) (by decide) (by decide) (by decide)]
  by_cases g : mxf F σ n ≤ σ.1 0 0 4
  · rw [if_pos g, if_pos g, f_X5_blameAll_96]
  · rw [if_neg g, if_neg g, sZ_s z1, Option.bind_some, f_X5_blameAll_96]
theorem it_one {t i : Nat} (ht : t < 16) : itc ((1 : Int32) <<< (Int32.ofNat t &&& 31)) kind σ i = if t < i then blc t kind σ else σ := by
  induction i with
  | zero => rw [if_neg (Nat.not_lt_zero t)]; rfl
  | succ i ih =>
    rw [itc, ih]
    by_cases e : i = t
    · rw [if_pos ((b_pow ht).mpr e), if_neg (by omega), if_pos (by omega), e]
    · rw [if_neg (fun q => e ((b_pow ht).mp q))]
      by_cases q : t < i
      · rw [if_pos q, if_pos (by omega)]
      · rw [if_neg q, if_neg (by omega)]
theorem mx_one {t i : Nat} (ht : t < 16) (h0 : 0 ≤ (σ.1 4 t 8).toInt) (h9 : (σ.1 4 t 8).toInt ≤ 9) : mxf ((1 : Int32) <<< (Int32.ofNat t &&& 31)) σ i = if t < i then σ.1 4 t 8 + 1 else 0 := by
  induction i with
  | zero => rw [if_neg (Nat.not_lt_zero t)]; rfl
  | succ i ih =>
    rw [mxf, ih]
    by_cases e : i = t
    · subst e
      rw [if_pos ((b_pow ht).mpr rfl), if_neg (Nat.lt_irrefl i), if_pos (Nat.lt_succ_self i), if_pos (by rw [i_lt, f_inc h0 h9]; show (0 : Int) < _; omega)]
    · rw [if_neg (fun q => e ((b_pow ht).mp q))]
      by_cases q : t < i
      · rw [if_pos q, if_pos (by omega)]
      · rw [if_neg q, if_neg (by omega)]
/-- the job ends -/
theorem Rl.stop {e0 : Int32} (h : Rl n m e0 σ τ) : Rl n m 1 (wI σ 0 0 12 1) (wI τ 20 0 43 1) := by
  refine h.glob (fun φ a _ _ _ => by rw [w_ne a]) (fun φ a b => by rw [w_ne (by omega)]) ⟨by rw [w_k (by decide)], by rw [w_k (by decide)]⟩ ?_ ?_ (Or.inr rfl)
  · have hG := h.2.1
    simp [bG, wI, sm_up] at hG ⊢
    exact ⟨hG.1, hG.2.1, hG.2.2.1, hG.2.2.2.1, hG.2.2.2.2.1, hG.2.2.2.2.2.1, hG.2.2.2.2.2.2.1, hG.2.2.2.2.2.2.2.2⟩
  · have hB := h.2.2.1
    simp [bB, wI, sm_up] at hB ⊢
    exact ⟨hB.1, hB.2.1, hB.2.2.1, hB.2.2.2.2⟩
theorem fa_ok {e0 : Int32} {t : Nat} (h : Rl n m e0 σ τ) (he : σ.1 0 0 12 = 0) (ht : t < n) (h9 : ∀ t, t < n → (σ.1 4 t 8).toInt ≤ 9) (hl : ∀ c, c < m → 0 < (σ.1 5 c 8).toInt → (σ.1 5 c 9).toInt + (σ.1 5 c 8).toInt ≤ (σ.1 5 c 6).toInt ∨ fr (σ.1 5 c) = t) : ∃ (r : Int32) (σ' τ' : sm_M), f_X5_failAlone (Int32.ofNat t) kind σ = some (r, σ') ∧ f_X6_failOne (Int32.ofNat t) kind τ = some (r, τ') ∧ Rl n m (σ'.1 0 0 12) σ' τ' := by
  have hn := h.n16
  have o := (h.T ht).2.2.2.2.2.2.1
  have e8 := f_inc o.1 (h9 t ht)
  have eb := e_bla (F := (1 : Int32) <<< (Int32.ofNat t &&& 31)) (kind := kind) h h9
  rw [it_one (by omega), mx_one (by omega) o.1 (h9 t ht), if_pos ht, if_pos ht] at eb
  have hb := bl1 (kind := kind) h ht (h9 t ht)
  have em := blm_f (kind := kind) h ht
  have b30 : (blm t kind τ).1 30 0 t = σ.1 4 t 8 + 1 := by
    have : τ.1 30 0 t = σ.1 4 t 8 := (h.T ht).1.2.2.2.2.2.2.2.2.1
    rw [blm_30, w_eq, this]
  have b32 : (blm t kind τ).1 20 0 32 = σ.1 0 0 4 := by rw [blm_20 (by decide)]; exact h.2.1.1
  have c0 := blc_ne (t := t) (kind := kind) (σ := σ) (φ := 0) (by decide) (by decide) (by decide) (by decide) (by decide)
  have c5 := blc_ne (t := t) (kind := kind) (σ := σ) (φ := 5) (by decide) (by decide) (by decide) (by decide) (by decide)
  have hB := h.2.2.1.1
  by_cases g : σ.1 4 t 8 + 1 ≤ σ.1 0 0 4
  · rw [if_pos g] at eb
    have g' := g
    rw [i_le, e8] at g'
    obtain ⟨s0, es0, hs0⟩ := e_noR (blm t kind τ)
    obtain ⟨s1, R1, U1, es1, hs1, hz1, hg1⟩ := e_grow hb (gS_R hs0 (i := t)) (Gd_one ht)
    obtain ⟨r, σ', τ', f1, f2, f3, f4⟩ := ok_again (F := (1 : Int32) <<< (Int32.ofNat t &&& 31)) (mf := σ.1 4 t 8 + 1) hb (by rw [c0]; exact he) (fun j hj => b_pow_hi (by omega) (by omega)) hs1 (Reg_congr (fun j _ => (b_pow (j := j) (by omega)).symm) hg1) (by omega) (by omega)
      (fun u hu => by
        by_cases e : u = t
        · subst e
          rw [blc_4]
          have : ur (σ.1 4 u) 8 (σ.1 4 u 8 + 1) 8 = σ.1 4 u 8 + 1 := by simp [ur]
          rw [this]; omega
        · rw [blc_4i e]; exact h9 u hu)
      (fun c hc q => by
        rw [c5] at q ⊢
        rcases hl c hc q with x | x
        · exact Or.inl x
        · exact Or.inr ((b_pow (by omega)).mpr x))
    refine ⟨r, σ', τ', ?_, ?_, by rw [f4]; exact f3⟩
    · rw [f_X5_failAlone, eb, Option.bind_some]
      dsimp only
      rw [c0, if_pos he, f1, Option.bind_some, f_X5_failAlone_28]
    · have e58 : (wI s0 58 0 t 1).1 30 = s0.1 30 := w_ne (by decide)
      rw [f_X6_failOne, em, Option.bind_some, aI_n (φ := 30) (by show t < 16; omega) (by omega), Option.bind_some, b30, b32, if_pos g, es0, Option.bind_some, uZ_n (by show t < 16; omega) (by omega) z1, Option.bind_some, es1, Option.bind_some, aI_n (φ := 30) (by show t < 16; omega) (by omega), Option.bind_some, hs1.1 30 (by decide) (by decide), b30, f2, Option.bind_some]
  · rw [if_neg g] at eb
    refine ⟨0, wI (blc t kind σ) 0 0 12 1, wI (blm t kind τ) 20 0 43 1, ?_, ?_, by rw [w_eq]; exact hb.stop⟩
    · rw [f_X5_failAlone, eb, Option.bind_some]
      dsimp only
      rw [w_eq, if_neg (by decide), f_X5_failAlone_28]
    · rw [f_X6_failOne, em, Option.bind_some, aI_n (φ := 30) (by show t < 16; omega) (by omega), Option.bind_some, b30, b32, if_neg g, sZ_s z1, Option.bind_some]
theorem Rl.nine {e0 : Int32} (h : Rl n m e0 σ τ) (he : e0 = 0) : ∀ t, t < n → (σ.1 4 t 8).toInt ≤ 9 := fun _ ht => (h.T ht).2.2.2.2.2.2.1.2.2 he
theorem Rl.lostOk {e0 : Int32} (h : Rl n m e0 σ τ) (he : e0 = 0) : ∀ c, c < m → 0 < (σ.1 5 c 8).toInt → (σ.1 5 c 9).toInt + (σ.1 5 c 8).toInt ≤ (σ.1 5 c 6).toInt := fun _ hc q => (h.C hc).2.2.2.2.2.2.2.2.2 he q
end FAIL
theorem ok_fail (v1 : Int32) : Ok2 (f_X5_fail v1) (f_X6_fail v1) := by
  intro n m σ τ h
  have hn := h.n16
  have e43 : τ.1 20 0 43 = σ.1 0 0 12 := h.2.1.2.2.2.2.2.2.2.1
  rcases v_cases v1 (n := n) (by omega) with hv | ⟨t, ht, rfl⟩
  · exact Ok2.same (r := -1) h (by simp [f_X5_fail, hasT_no h hv]) (by simp [f_X6_fail, noT_yes h hv])
  · by_cases he : σ.1 0 0 12 = 0
    · obtain ⟨r, σ', τ', f1, f2, f3⟩ := fa_ok (kind := 1) h he ht (h.nine he) (fun c hc q => Or.inl (h.lostOk he c hc q))
      refine ⟨r, n, m, σ', τ', ?_, ?_, f3⟩
      · rw [f_X5_fail, hasT_yes h ht, Option.bind_some]
        dsimp only
        rw [if_neg (by decide), if_pos he, f1, Option.bind_some]
      · rw [f_X6_fail, noT_no h ht, Option.bind_some]
        dsimp only
        rw [if_pos rfl, e43, if_pos he, f2, Option.bind_some, f_X6_fail_28]
    · refine Ok2.same (r := -3) h ?_ ?_
      · rw [f_X5_fail, hasT_yes h ht, Option.bind_some]
        dsimp only
        rw [if_neg (by decide), if_neg he]
      · rw [f_X6_fail, noT_no h ht, Option.bind_some]
        dsimp only
        rw [if_pos rfl, e43, if_neg he, f_X6_fail_28]
