def mvc (n : Nat) (M : Int32) (σ : sm_M) : Nat → sm_M
  | 0 => σ
  | i + 1 => if bt M i = true then wI (mvc n M σ i) 4 i 4 (emF n (mvc n M σ i) 4).1 else mvc n M σ i
def lsc (M : Int32) (σ : sm_M) : Nat → sm_M
  | 0 => σ
  | c + 1 => if ¬ σ.1 5 c 3 = 0 ∧ bt M (fr (σ.1 5 c)) = true then wI (lsc M σ c) 5 c 8 (σ.1 5 c 4 - σ.1 5 c 9) else lsc M σ c
theorem gS_self {s : sm_M} {R U : Nat → Bool} (h : gS s R U s) {φ i k : Nat} {v : Int32} (h1 : φ ≠ 58) (h2 : φ ≠ 59) : gS (wI s φ i k v) R U (wI s φ i k v) :=
  ⟨fun _ _ _ => rfl, rfl, fun t ht => by rw [w_ne (fun q => h1 q.symm)]; exact h.2.2.1 t ht, fun t ht => by rw [w_ne (fun q => h2 q.symm)]; exact h.2.2.2 t ht⟩
section GONE2
variable {n m : Nat} {σ τ s : sm_M} {e0 : Int32} {M : Int32}
theorem mv_ne {φ i : Nat} (h1 : φ ≠ 4) : (mvc n M σ i).1 φ = σ.1 φ := by
  induction i with
  | zero => rfl
  | succ i ih =>
    rw [mvc]
    by_cases g : bt M i = true
    · rw [if_pos g, w_ne h1, ih]
    · rw [if_neg g, ih]
theorem mv_4 {i t k : Nat} (hk : k ≠ 4) : (mvc n M σ i).1 4 t k = σ.1 4 t k := by
  induction i with
  | zero => rfl
  | succ i ih =>
    rw [mvc]
    by_cases g : bt M i = true
    · rw [if_pos g, w_k hk, ih]
    · rw [if_neg g, ih]
theorem mv1 (h : Rl n m 1 σ s) (hx : ∃ j, j < 4 ∧ σ.1 6 0 j = 1) {i : Nat} (hi : i < n) : Rl n m 1 (wI σ 4 i 4 (emF n σ 4).1) (wI s 23 0 i (emF n σ 4).1) := by
  have hb : 0 ≤ (emF n σ 4).1.toInt ∧ (emF n σ 4).1.toInt ≤ 3 := by
    rcases em_1 (σ := σ) (Nat.le_refl 4) h.n16 with ⟨q, -⟩ | ⟨-, q⟩
    · obtain ⟨j, hj, q2⟩ := hx
      exact absurd q2 (q j hj)
    · exact q
  generalize (emF n σ 4).1 = x at hb
  have un : ∀ k, k ≠ 4 → ur (σ.1 4 i) 4 x k = σ.1 4 i k := fun k hk => by simp [ur, hk]
  have u4 : ur (σ.1 4 i) 4 x 4 = x := by simp [ur]
  refine h.task hi (fun φ q => by rw [w_ne q]) rfl (fun j q => by rw [w_i q]) (fun φ q => by rw [w_ne (by rintro rfl; cases q)]) (fun j q φ _ => ?_) ?_ ?_ ?_ ?_ ?_ ?_ (Or.inl rfl)
  · exact congrFun (w_col2 (τ := s) (φ := 23) (v := x) q) φ
  · rw [w_row, w_col]
    obtain ⟨a1, a2, a3, a4, a5, a6, a7, a8, a9, a10, a11, a12, a13, a14⟩ := (h.T hi).1
    simp [relT, ur, a1, a2, a4, a5, a6, a7, a8, a9, a10, a11, a12, a13, a14]
  · rw [w_row]
    have o := (h.T hi).2
    unfold okT at o ⊢
    rw [u4, un 2 (by decide), un 3 (by decide), un 7 (by decide), un 8 (by decide), un 9 (by decide), un 10 (by decide), un 11 (by decide), un 13 (by decide), un 14 (by decide), un 16 (by decide)]
    exact ⟨o.1, o.2.1, o.2.2.1, hb, o.2.2.2.2⟩
  · rw [w_row, un 13 (by decide)]; exact Int.le_refl _
  · rw [w_row, un 10 (by decide)]; exact Int.le_refl _
  · rw [w_row, un 2 (by decide)]
  · rw [w_row, un 5 (by decide)]
theorem mv_rl (h : Rl n m 1 σ s) (hx : ∃ j, j < 4 ∧ σ.1 6 0 j = 1) {i : Nat} (hi : i ≤ n) : ∃ τ', Rl n m 1 (mvc n M σ i) τ' := by
  induction i with
  | zero => exact ⟨s, h⟩
  | succ i ih =>
    obtain ⟨τ1, h1⟩ := ih (by omega)
    rw [mvc]
    by_cases g : bt M i = true
    · rw [if_pos g]
      exact ⟨_, mv1 h1 (by rw [mv_ne (by decide)]; exact hx) (by omega)⟩
    · rw [if_neg g]; exact ⟨τ1, h1⟩
theorem e_mv (h : Rl n m 1 σ s) (hx : ∃ j, j < 4 ∧ σ.1 6 0 j = 1) : f_X5_moveAway M σ = some (mvc n M σ n) := by
  have hn := h.n16
  have e1 := h.1.2.2.1
  obtain ⟨s', h1, h2⟩ := loopE (F := fun f v (s : sm_M) => f_X5_moveAway_2 f M v s) (X := some) (N := n) (by omega) (fun i s => s = mvc n M σ i)
    (fun f i s hi hp => by
      subst hp
      refine ⟨_, rfl, ?_⟩
      show f_X5_moveAway_2 (f + 1) M (Int32.ofNat i) _ = f_X5_moveAway_2 f M (Int32.ofNat (i + 1)) (mvc n M σ (i + 1))
      rw [f_X5_moveAway_2, mv_ne (by decide), e1, if_neg (by rw [n_le (by omega) (by omega)]; omega), e_isIn (by omega), Option.bind_some, mvc]
      dsimp only
      by_cases g : bt M i = true
      · obtain ⟨τ1, r1⟩ := mv_rl (M := M) h hx (show i ≤ n by omega)
        rw [if_pos g, if_neg (show ¬ (1 : Int32) = 0 by decide), aP_n (by show i < 16; omega) (by omega), Option.bind_some, Option.bind_some, e_emp r1 _ (by rw [mv_ne (by decide)]; exact hx), Option.bind_some, sI_s, Option.bind_some, f_X5_moveAway_49, n_inc, if_pos g]
      · rw [if_neg g, if_pos rfl, f_X5_moveAway_49, n_inc, if_neg g])
    (fun f s hp => by
      subst hp
      show f_X5_moveAway_2 (f + 1) M (Int32.ofNat n) _ = _
      rw [f_X5_moveAway_2, mv_ne (by decide), e1, if_pos (by rw [n_le (by omega) (by omega)]; omega)]) σ rfl
  rw [f_X5_moveAway]
  refine h2.trans ?_
  rw [h1]
theorem e_mv' {v2 : Int32} (h : Rl n m 1 σ s) (hx : ∃ j, j < 4 ∧ σ.1 6 0 j = 1) (hs : gS s (fun t => bt M t) (fun _ => false) s) : ∃ s', f_X6_gone_133 1000 v2 0 s = f_X6_gone_175 v2 s' ∧ Rl n m 1 (mvc n M σ n) s' ∧ gS s' (fun t => bt M t) (fun _ => false) s' := by
  have hn := h.n16
  obtain ⟨s', h1, h2⟩ := loopE (F := fun f v (s : sm_M) => f_X6_gone_133 f v2 v s) (X := fun s => f_X6_gone_175 v2 s) (N := n) (by omega) (fun i s => Rl n m 1 (mvc n M σ i) s ∧ gS s (fun t => bt M t) (fun _ => false) s)
    (fun f i s hi hp => by
      obtain ⟨p1, p2⟩ := hp
      have e1 := p1.1.2.2.2.2.1
      show ∃ s' : sm_M, _ ∧ f_X6_gone_133 (f + 1) v2 (Int32.ofNat i) s = f_X6_gone_133 f v2 (Int32.ofNat (i + 1)) s'
      rw [f_X6_gone_133, e1, if_neg (by rw [n_le (by omega) (by omega)]; omega), aI_n (φ := 58) (by show i < 16; omega) (by omega), Option.bind_some, p2.2.2.1 i (by omega)]
      dsimp only
      by_cases g : bt M i = true
      · have eM : mvc n M σ (i + 1) = wI (mvc n M σ i) 4 i 4 (emF n (mvc n M σ i) 4).1 := by rw [mvc, if_pos g]
        rw [eM, if_pos g, if_neg (show ¬ (1 : Int32) = 0 by decide), e_emp' p1, Option.bind_some, f_X6_gone_168, uI_n (by show i < 16; omega) (by omega), Option.bind_some, n_inc]
        exact ⟨_, ⟨mv1 p1 (by rw [mv_ne (by decide)]; exact hx) hi, gS_self p2 (by decide) (by decide)⟩, rfl⟩
      · have eM : mvc n M σ (i + 1) = mvc n M σ i := by rw [mvc, if_neg g]
        rw [eM, if_neg g, if_pos rfl, aI_n (φ := 23) (by show i < 16; omega) (by omega), Option.bind_some, f_X6_gone_168, uI_n (by show i < 16; omega) (by omega), Option.bind_some, n_inc, w_id]
        exact ⟨s, ⟨p1, p2⟩, rfl⟩)
    (fun f s hp => by
      have e1 := hp.1.1.2.2.2.2.1
      show f_X6_gone_133 (f + 1) v2 (Int32.ofNat n) s = _
      rw [f_X6_gone_133, e1, if_pos (by rw [n_le (by omega) (by omega)]; omega)]) s ⟨h, hs⟩
  exact ⟨s', h2, h1⟩
theorem ls_ne {φ i : Nat} (h1 : φ ≠ 5) : (lsc M σ i).1 φ = σ.1 φ := by
  induction i with
  | zero => rfl
  | succ i ih =>
    rw [lsc]
    by_cases g : ¬ σ.1 5 i 3 = 0 ∧ bt M (fr (σ.1 5 i)) = true
    · rw [if_pos g, w_ne h1, ih]
    · rw [if_neg g, ih]
theorem ls_5 {i c : Nat} : (lsc M σ i).1 5 c = if c < i ∧ ¬ σ.1 5 c 3 = 0 ∧ bt M (fr (σ.1 5 c)) = true then ur (σ.1 5 c) 8 (σ.1 5 c 4 - σ.1 5 c 9) else σ.1 5 c := by
  induction i with
  | zero => rw [if_neg (fun q => Nat.not_lt_zero c q.1)]; rfl
  | succ i ih =>
    rw [lsc]
    by_cases g : ¬ σ.1 5 i 3 = 0 ∧ bt M (fr (σ.1 5 i)) = true
    · rw [if_pos g]
      by_cases e : c = i
      · subst e
        rw [w_row, ih, if_neg (fun q => Nat.lt_irrefl c q.1), if_pos ⟨Nat.lt_succ_self c, g⟩]
      · rw [w_i e, ih]
        by_cases q : c < i ∧ ¬ σ.1 5 c 3 = 0 ∧ bt M (fr (σ.1 5 c)) = true
        · rw [if_pos q, if_pos ⟨by omega, q.2⟩]
        · rw [if_neg q, if_neg (fun q2 => q ⟨by omega, q2.2⟩)]
    · rw [if_neg g, ih]
      by_cases q : c < i ∧ ¬ σ.1 5 c 3 = 0 ∧ bt M (fr (σ.1 5 c)) = true
      · rw [if_pos q, if_pos ⟨by omega, q.2⟩]
      · rw [if_neg q, if_neg]
        rintro ⟨q1, q2⟩
        by_cases e : c = i
        · subst e; exact g q2
        · exact q ⟨by omega, q2⟩
theorem ls_at {i : Nat} : (lsc M σ i).1 5 i = σ.1 5 i := by rw [ls_5, if_neg (fun q => Nat.lt_irrefl i q.1)]
theorem Rl.frN (h : Rl n m e0 σ s) {c : Nat} (hc : c < m) : σ.1 5 c 1 = Int32.ofNat (fr (σ.1 5 c)) ∧ fr (σ.1 5 c) < n := by
  have hn := h.n16
  obtain ⟨f0, g0, a1, a2, a3, a4⟩ := h.ft hc
  have hfr : fr (σ.1 5 c) = f0 := by unfold fr; rw [a1, i_of (by omega)]; omega
  rw [hfr]; exact ⟨a1, by omega⟩
theorem e_ls (h : Rl n m e0 σ s) : f_X2_loseAllFrom M σ = some (lsc M σ m) := by
  have hn := h.n16
  have hm := h.m40
  have e1 := h.1.2.2.2.1
  obtain ⟨s', h1, h2⟩ := loopE (F := fun f v (s : sm_M) => f_X2_loseAllFrom_2 f M v s) (X := some) (N := m) (by omega) (fun i s => s = lsc M σ i)
    (fun f i s hi hp => by
      subst hp
      refine ⟨_, rfl, ?_⟩
      show f_X2_loseAllFrom_2 (f + 1) M (Int32.ofNat i) _ = f_X2_loseAllFrom_2 f M (Int32.ofNat (i + 1)) (lsc M σ (i + 1))
      obtain ⟨a1, a2⟩ := h.frN hi
      rw [f_X2_loseAllFrom_2, ls_ne (by decide), e1, if_neg (by rw [n_le (by omega) (by omega)]; omega), aP_n (by show i < 40; omega) (by omega), Option.bind_some, Option.bind_some, ls_at, lsc]
      by_cases g : σ.1 5 i 3 = 0
      · rw [if_pos g, f_X2_loseAllFrom_47, n_inc, if_neg (fun q => q.1 g)]
      · rw [if_neg g]
        conv => lhs; rw [a1]
        rw [e_isIn (by omega), Option.bind_some]
        dsimp only
        by_cases g2 : bt M (fr (σ.1 5 i)) = true
        · rw [if_pos g2, if_neg (show ¬ (1 : Int32) = 0 by decide), Option.bind_some, f_X1_loseBehindMark, sI_s, Option.bind_some, Option.bind_some, f_X2_loseAllFrom_47, n_inc, if_pos ⟨g, g2⟩, ls_at]
        · rw [if_neg g2, if_pos rfl, f_X2_loseAllFrom_47, n_inc, if_neg (fun q => g2 q.2)])
    (fun f s hp => by
      subst hp
      show f_X2_loseAllFrom_2 (f + 1) M (Int32.ofNat m) _ = _
      rw [f_X2_loseAllFrom_2, ls_ne (by decide), e1, if_pos (by rw [n_le (by omega) (by omega)]; omega)]) σ rfl
  rw [f_X2_loseAllFrom]
  refine h2.trans ?_
  rw [h1]
theorem e_ls' {v2 : Int32} (h : Rl n m 1 σ s) (hs : gS s (fun t => bt M t) (fun _ => false) s) : ∃ s', f_X6_gone_175 v2 s = f_X6_gone_248 v2 s' ∧ Rl n m 1 (lsc M σ m) s' ∧ gS s' (fun t => bt M t) (fun _ => false) s' := by
  have hn := h.n16
  have hm := h.m40
  obtain ⟨s', h1, h2⟩ := loopE (F := fun f v (s : sm_M) => f_X6_gone_177 f v2 v s) (X := fun s => f_X6_gone_248 v2 s) (N := m) (by omega) (fun i s => Rl n m 1 (lsc M σ i) s ∧ gS s (fun t => bt M t) (fun _ => false) s)
    (fun f i s hi hp => by
      obtain ⟨p1, p2⟩ := hp
      have e1 := p1.1.2.2.2.2.2
      have ai : ∀ (φ : Nat) (s : sm_M), fL φ = 40 → aI φ s 0 (Int32.ofNat i) = some (s.1 φ 0 i) := fun φ s hφ => aI_n (by rw [hφ]; omega) (by omega)
      have c36 : s.1 36 0 i = σ.1 5 i 3 := by have := (p1.C hi).1.2.2.1; rw [ls_at] at this; exact this
      have c38 : s.1 38 0 i = σ.1 5 i 4 := by have := (p1.C hi).1.2.2.2.1; rw [ls_at] at this; exact this
      have c47 : s.1 47 0 i = σ.1 5 i 9 := by have := (p1.C hi).1.2.2.2.2.2.2.2.1; rw [ls_at] at this; exact this
      obtain ⟨a1, a2⟩ := h.frN hi
      have c34 : s.1 34 0 i = Int32.ofNat (fr (σ.1 5 i)) := by have := (p1.C hi).1.1; rw [ls_at] at this; rw [← a1]; exact this
      show ∃ s' : sm_M, _ ∧ f_X6_gone_177 (f + 1) v2 (Int32.ofNat i) s = f_X6_gone_177 f v2 (Int32.ofNat (i + 1)) s'
      rw [f_X6_gone_177, e1, if_neg (by rw [n_le (by omega) (by omega)]; omega), ai 36 _ rfl, Option.bind_some, ai 34 _ rfl, Option.bind_some, c36, c34, aI_n (φ := 58) (by show _ < 16; omega) (by omega), Option.bind_some, p2.2.2.1 _ (by omega), ai 38 _ rfl, Option.bind_some, ai 47 _ rfl, Option.bind_some, c38, c47, lsc]
      by_cases g : σ.1 5 i 3 = 0
      · rw [if_pos g, f_X6_gone_242, n_inc, if_neg (fun q => q.1 g)]
        exact ⟨s, ⟨p1, p2⟩, rfl⟩
      · rw [if_neg g]
        by_cases g2 : bt M (fr (σ.1 5 i)) = true
        · rw [if_pos g2, if_neg (show ¬ (1 : Int32) = 0 by decide), if_pos ⟨g, g2⟩]
          by_cases g3 : (σ.1 5 i 4).toInt ≤ (σ.1 5 i 9).toInt
          · rw [if_pos (by rw [i_le]; exact g3), f_X6_gone_242, n_inc]
            obtain ⟨o1, o2, o3, o4, o5, o6, o7, o8, o9⟩ := (h.C hi).2
            have e8 : σ.1 5 i 4 - σ.1 5 i 9 = (lsc M σ i).1 5 i 8 := by
              rw [ls_at, i_eq, i_sub (by omega) (by omega)]; omega
            rw [e8, w_id]
            exact ⟨s, ⟨p1, p2⟩, rfl⟩
          · rw [if_neg (by rw [i_le]; exact g3), uZ_n (by show i < 40; omega) (by omega) z1, Option.bind_some, ai 38 _ rfl, Option.bind_some, uI_n (by show i < 40; omega) (by omega), Option.bind_some, f_X6_gone_242, n_inc, w_ne (show (38 : Nat) ≠ 42 by decide), c38]
            have r := (p1.lose (e1 := 1) hi (by rw [ls_at]; omega) (Or.inl rfl) (Or.inl rfl)).1
            rw [ls_at] at r
            exact ⟨_, ⟨r, gS_self (gS_self p2 (by decide) (by decide)) (by decide) (by decide)⟩, rfl⟩
        · rw [if_neg g2, if_pos rfl, f_X6_gone_242, n_inc, if_neg (fun q => g2 q.2)]
          exact ⟨s, ⟨p1, p2⟩, rfl⟩)
    (fun f s hp => by
      have e1 := hp.1.1.2.2.2.2.2
      show f_X6_gone_177 (f + 1) v2 (Int32.ofNat m) s = _
      rw [f_X6_gone_177, e1, if_pos (by rw [n_le (by omega) (by omega)]; omega)]) s ⟨h, hs⟩
  exact ⟨s', by rw [f_X6_gone_175]; exact h2, h1⟩
end GONE2
