section S3
variable {n m t : Nat} {σ τ σ' τ' : sm_M} {e0 e1 : Int32} {v : Int32}
/-- as upd, with the rows -/
theorem Rl.upV (h : Rl n m e0 σ τ) (a : ∀ φ, φ ≠ 0 → φ ≠ 2 → φ ≠ 4 → φ ≠ 5 → φ ≠ 9 → φ ≠ 10 → φ ≠ 14 → φ ≠ 15 → φ ≠ 16 → σ'.1 φ = σ.1 φ) (b : τ'.1 50 = τ.1 50 ∧ τ'.1 51 = τ.1 51 ∧ τ'.1 52 = τ.1 52 ∧ τ'.1 53 = τ.1 53) (b2 : τ'.1 20 0 0 = τ.1 20 0 0 ∧ τ'.1 20 0 14 = τ.1 20 0 14) (hG : bG σ' τ') (hB : bB σ' τ') (hT : bT n e1 σ' τ') (hC : bC n m e1 σ' τ') (hV : bV n m σ' τ')
    (c1 : ∀ t, t < n → σ'.1 4 t 2 = σ.1 4 t 2 ∧ σ'.1 4 t 5 = σ.1 4 t 5) (c2 : ∀ c, c < m → σ'.1 5 c 1 = σ.1 5 c 1 ∧ σ'.1 5 c 2 = σ.1 5 c 2) : Rl n m e1 σ' τ' := by
  obtain ⟨hN, -, -, hT0, hC0, -, hO, hS, hE, hH⟩ := h
  have s1 := a 1 (by decide) (by decide) (by decide) (by decide) (by decide) (by decide) (by decide) (by decide) (by decide)
  have s3 := a 3 (by decide) (by decide) (by decide) (by decide) (by decide) (by decide) (by decide) (by decide) (by decide)
  have s6 := a 6 (by decide) (by decide) (by decide) (by decide) (by decide) (by decide) (by decide) (by decide) (by decide)
  have s11 := a 11 (by decide) (by decide) (by decide) (by decide) (by decide) (by decide) (by decide) (by decide) (by decide)
  have s12 := a 12 (by decide) (by decide) (by decide) (by decide) (by decide) (by decide) (by decide) (by decide) (by decide)
  have s13 := a 13 (by decide) (by decide) (by decide) (by decide) (by decide) (by decide) (by decide) (by decide) (by decide)
  refine ⟨?_, hG, hB, hT, hC, hV, fun k hk => ?_, fun j hj => ?_, fun c f g hc e1 e2 hf hg => ?_, fun t f ht hf => ?_⟩
  · unfold bN; rw [s1, b2.1, b2.2]; exact hN
  · rw [s6, b.1]; exact hO k hk
  · rw [s3] at hj
    rw [b.2.1, b.2.2.1, b.2.2.2, s11, s12, s13]
    exact hS j hj
  · rw [(c2 c hc).1] at e1
    rw [(c2 c hc).2] at e2
    have o := (hC0 c hc).2.1
    rw [e1, e2, i_of (by omega), i_of (by omega)] at o
    rw [(c1 f (by omega)).1, (c1 g (by omega)).1]
    exact hE c f g hc e1 e2 hf hg
  · rw [(c1 t ht).2, hH t f ht hf]
    constructor
    · rintro ⟨c, hc, q1, q2⟩
      exact ⟨c, hc, by rw [(c2 c hc).1]; exact q1, by rw [(c2 c hc).2]; exact q2⟩
    · rintro ⟨c, hc, q1, q2⟩
      rw [(c2 c hc).1] at q1
      rw [(c2 c hc).2] at q2
      exact ⟨c, hc, q1, q2⟩
def pum (c : Nat) (v : Int32) (τ : sm_M) : sm_M := if τ.1 39 0 c < τ.1 38 0 c then wI τ 39 0 c (τ.1 39 0 c + 1) else wI (wI (wI τ 37 0 (64 * c + (τ.1 38 0 c).toInt.toNat) v) 38 0 c (τ.1 38 0 c + 1)) 39 0 c (τ.1 39 0 c + 1)
theorem pum_ne {c φ : Nat} (h1 : φ ≠ 37) (h2 : φ ≠ 38) (h3 : φ ≠ 39) : (pum c v τ).1 φ = τ.1 φ := by
  unfold pum
  by_cases g : τ.1 39 0 c < τ.1 38 0 c
  · rw [if_pos g, w_ne h3]
  · rw [if_neg g, w_ne h3, w_ne h2, w_ne h1]
set_option maxHeartbeats 4000000 in
theorem Rl.put (h : Rl n m e0 σ τ) {c : Nat} (hc : c < m) (hg : (σ.1 5 c 5).toInt < 64) : Rl n m e0 (pu c v σ) (pum c v τ) := by
  have hm := h.m40
  have c38 : τ.1 38 0 c = σ.1 5 c 4 := (h.C hc).1.2.2.2.1
  have c39 : τ.1 39 0 c = σ.1 5 c 5 := (h.C hc).1.2.2.2.2.1
  obtain ⟨o1, o2, o3, o4, o5, o6, o7, o8, o9⟩ := (h.C hc).2
  have e5 := c_inc (x := σ.1 5 c 5) o3.1 (by omega)
  have gg : (τ.1 39 0 c < τ.1 38 0 c) ↔ ¬ σ.1 5 c 5 = σ.1 5 c 4 := by
    rw [c38, c39, i_lt, i_eq]; omega
  have s0 := pu_ne (c := c) (v := v) (σ := σ) (φ := 0) (by decide) (by decide)
  have s3 := pu_ne (c := c) (v := v) (σ := σ) (φ := 3) (by decide) (by decide)
  have s4 := pu_ne (c := c) (v := v) (σ := σ) (φ := 4) (by decide) (by decide)
  have t20 := pum_ne (c := c) (v := v) (τ := τ) (φ := 20) (by decide) (by decide) (by decide)
  refine h.upV (fun φ _ _ _ a _ _ _ _ b => pu_ne a b) ⟨pum_ne (by decide) (by decide) (by decide), pum_ne (by decide) (by decide) (by decide), pum_ne (by decide) (by decide) (by decide), pum_ne (by decide) (by decide) (by decide)⟩ ⟨by rw [t20], by rw [t20]⟩ ?_ ?_ (fun t ht => ?_) (fun j hj => ?_) ⟨fun u j hu hj => ?_, fun u j hu hj => ?_, fun d j hd hj => ?_⟩ (fun t ht => by rw [s4]; exact ⟨rfl, rfl⟩) (fun j hj => ?_)
  · unfold bG; rw [s0, s3, pu_2, t20]; exact h.2.1
  · unfold bB; rw [s0, s3, t20]; exact h.2.2.1
  · rw [s4]
    refine ⟨relT_congr (fun φ hφ => ?_) (h.T ht).1, (h.T ht).2⟩
    unfold colK; rw [pum_ne (by rintro rfl; cases hφ) (by rintro rfl; cases hφ) (by rintro rfl; cases hφ)]
  · by_cases e : j = c
    · subst e
      have q38 : (pum j v τ).1 38 0 j = (pu j v σ).1 5 j 4 := by
        rw [pu_4]; unfold pum
        by_cases g : σ.1 5 j 5 = σ.1 5 j 4
        · rw [if_neg (fun q => gg.mp q g), if_pos g, w_ne (by decide), w_eq, c38]
        · rw [if_pos (gg.mpr g), if_neg g, w_ne (by decide), c38]
      have q39 : (pum j v τ).1 39 0 j = (pu j v σ).1 5 j 5 := by
        rw [pu_5]; unfold pum
        by_cases g : τ.1 39 0 j < τ.1 38 0 j
        · rw [if_pos g, w_eq, c39]
        · rw [if_neg g, w_eq, c39]
      have qo : ∀ φ, φ ≠ 37 → φ ≠ 38 → φ ≠ 39 → colK (pum j v τ) j φ = colK τ j φ := fun φ a b d => by unfold colK; rw [pum_ne a b d]
      have pk : ∀ k, k ≠ 4 → k ≠ 5 → (pu j v σ).1 5 j k = σ.1 5 j k := fun k a b => pu_k a b
      have h4 : (σ.1 5 j 4).toInt ≤ ((pu j v σ).1 5 j 4).toInt ∧ ((pu j v σ).1 5 j 4).toInt ≤ 64 ∧ (σ.1 5 j 5).toInt + 1 ≤ ((pu j v σ).1 5 j 4).toInt := by
        rw [pu_4]
        by_cases g : σ.1 5 j 5 = σ.1 5 j 4
        · rw [if_pos g, ← g, e5]; omega
        · rw [if_neg g]; rw [i_eq] at g; omega
      constructor
      · obtain ⟨a1, a2, a3, a4, a5, a6, a7, a8, a9, a10, a11⟩ := (h.C hc).1
        unfold relC relL
        rw [qo 34 (by decide) (by decide) (by decide), qo 35 (by decide) (by decide) (by decide), qo 36 (by decide) (by decide) (by decide), qo 40 (by decide) (by decide) (by decide), qo 41 (by decide) (by decide) (by decide), qo 42 (by decide) (by decide) (by decide), qo 43 (by decide) (by decide) (by decide), qo 47 (by decide) (by decide) (by decide), qo 48 (by decide) (by decide) (by decide), qo 49 (by decide) (by decide) (by decide), pk 1 (by decide) (by decide), pk 2 (by decide) (by decide), pk 3 (by decide) (by decide), pk 6 (by decide) (by decide), pk 7 (by decide) (by decide), pk 8 (by decide) (by decide), pk 9 (by decide) (by decide), pk 10 (by decide) (by decide), pk 11 (by decide) (by decide)]
        exact ⟨a1, a2, a3, q38, q39, a6, a7, a8, a9, a10, a11⟩
      · unfold okC
        rw [pk 1 (by decide) (by decide), pk 2 (by decide) (by decide), pk 3 (by decide) (by decide), pk 6 (by decide) (by decide), pk 7 (by decide) (by decide), pk 8 (by decide) (by decide), pk 9 (by decide) (by decide), pk 10 (by decide) (by decide), pk 11 (by decide) (by decide), pu_5, e5]
        exact ⟨o1, o2, by omega, o4, o5, by omega, o7, by omega, o9⟩
    · rw [(pu_i e).1]
      refine ⟨relC_congr (fun φ hφ => ?_) (h.C hj).1, (h.C hj).2⟩
      unfold colK pum
      by_cases g : τ.1 39 0 c < τ.1 38 0 c
      · rw [if_pos g]
        by_cases e9 : φ = 39
        · subst e9; rw [w_k e]
        · rw [w_ne e9]
      · rw [if_neg g]
        by_cases e9 : φ = 39
        · subst e9; rw [w_k e, w_ne (by decide), w_ne (by decide)]
        · rw [w_ne e9]
          by_cases e8 : φ = 38
          · subst e8; rw [w_k e, w_ne (by decide)]
          · rw [w_ne e8, w_ne (by rintro rfl; cases hφ)]
  · rw [s4] at hj
    rw [pum_ne (by decide) (by decide) (by decide), pu_ne (by decide) (by decide)]; exact h.V.1 u j hu hj
  · rw [s4] at hj
    rw [pum_ne (by decide) (by decide) (by decide), pu_ne (by decide) (by decide)]; exact h.V.2.1 u j hu hj
  · by_cases e : d = c
    · subst e
      rw [pu_16]
      rw [pu_4] at hj
      unfold pum
      by_cases g : σ.1 5 d 5 = σ.1 5 d 4
      · rw [if_neg (fun q => gg.mp q g), w_ne (by decide), w_ne (by decide), w_at, c38]
        rw [if_pos g, ← g, e5, g] at hj
        by_cases e2 : j = (σ.1 5 d 4).toInt.toNat
        · rw [if_pos (by omega), if_pos ⟨g, e2⟩]
        · rw [if_neg (by omega), if_neg (fun q => e2 q.2)]
          exact h.V.2.2 d j hd (by omega)
      · rw [if_pos (gg.mpr g), w_ne (by decide), if_neg (fun q => g q.1)]
        rw [if_neg g] at hj
        exact h.V.2.2 d j hd hj
    · rw [(pu_i e).2]
      rw [(pu_i e).1] at hj
      have od := (h.C hd).2.2.2.1
      unfold pum
      by_cases g : τ.1 39 0 c < τ.1 38 0 c
      · rw [if_pos g, w_ne (by decide)]; exact h.V.2.2 d j hd hj
      · rw [if_neg g, w_ne (by decide), w_ne (by decide), w_k]
        · exact h.V.2.2 d j hd hj
        · rw [c38]
          have := (not_congr gg).mp g
          have g2 : σ.1 5 c 5 = σ.1 5 c 4 := Classical.byContradiction this
          rw [g2] at hg
          omega
  · by_cases e : j = c
    · subst e; exact ⟨pu_k (by decide) (by decide), pu_k (by decide) (by decide)⟩
    · rw [(pu_i e).1]; exact ⟨rfl, rfl⟩
def Fz (τ τ' : sm_M) : Prop := τ'.1 55 = τ.1 55 ∧ τ'.1 56 = τ.1 56 ∧ τ'.1 57 = τ.1 57
theorem e_give' (h : Rl n m e0 σ τ) (hg : ∀ c, c < m → σ.1 5 c 1 = Int32.ofNat t → (σ.1 5 c 5).toInt < 64) (ht : t < 16) : ∃ τ', f_X6_give (Int32.ofNat t) v τ = some τ' ∧ Rl n m e0 (gvi t v σ m) τ' ∧ Fz τ τ' := by
  have hm := h.m40
  obtain ⟨s', h1, h2⟩ := loopE (F := fun f x (s : sm_M) => f_X6_give_2 f (Int32.ofNat t) v x s) (X := some) (N := m) (by omega) (fun i s => Rl n m e0 (gvi t v σ i) s ∧ Fz τ s)
    (fun f i s hi hp => by
      obtain ⟨p1, p2⟩ := hp
      have e3 := p1.1.2.2.2.2.2
      have ai : ∀ (φ : Nat) (s : sm_M), fL φ = 40 → aI φ s 0 (Int32.ofNat i) = some (s.1 φ 0 i) := fun φ s hφ => aI_n (by rw [hφ]; omega) (by omega)
      have ui : ∀ (φ : Nat) (s : sm_M) (x : Int32), fL φ = 40 → uI φ s 0 (Int32.ofNat i) x = some (wI s φ 0 i x) := fun φ s x hφ => uI_n (by rw [hφ]; omega) (by omega)
      have c34 : s.1 34 0 i = σ.1 5 i 1 := by have := (p1.C hi).1.1; rw [gvi_at (Nat.le_refl i)] at this; exact this
      have c38 : s.1 38 0 i = σ.1 5 i 4 := by have := (p1.C hi).1.2.2.2.1; rw [gvi_at (Nat.le_refl i)] at this; exact this
      have c39 : s.1 39 0 i = σ.1 5 i 5 := by have := (p1.C hi).1.2.2.2.2.1; rw [gvi_at (Nat.le_refl i)] at this; exact this
      show ∃ s' : sm_M, _ ∧ f_X6_give_2 (f + 1) (Int32.ofNat t) v (Int32.ofNat i) s = f_X6_give_2 f (Int32.ofNat t) v (Int32.ofNat (i + 1)) s'
      rw [f_X6_give_2, e3, if_neg (by rw [n_le (by omega) (by omega)]; omega), ai 34 _ rfl, Option.bind_some, c34]
      by_cases g : σ.1 5 i 1 = Int32.ofNat t
      · have eG : gvi t v σ (i + 1) = pu i v (gvi t v σ i) := by rw [gvi, if_pos g]
        have r := p1.put (v := v) hi (by rw [gvi_at (Nat.le_refl i)]; exact hg i hi g)
        refine ⟨pum i v s, ⟨by rw [eG]; exact r, ?_⟩, ?_⟩
        · obtain ⟨z1, z2, z3⟩ := p2
          refine ⟨?_, ?_, ?_⟩ <;> rw [pum_ne (by decide) (by decide) (by decide)] <;> assumption
        · rw [if_pos g, ai 39 _ rfl, Option.bind_some, ai 38 _ rfl, Option.bind_some, pum]
          by_cases g2 : s.1 39 0 i < s.1 38 0 i
          · rw [if_pos g2, f_X6_give_62, ai 39 _ rfl, Option.bind_some, ui 39 _ _ rfl, Option.bind_some, f_X6_give_72, n_inc, if_pos g2]
          · have o := (h.C hi).2
            have hgi := hg i hi g
            obtain ⟨k, hk, hk2⟩ := i_get (x := s.1 38 0 i) (by rw [c38]; exact Int.le_trans o.2.2.1.1 o.2.2.1.2.1)
            have hk3 : k < 64 := by
              rw [c38] at hk2
              rw [c38, c39, i_lt] at g2
              have := o.2.2.1
              omega
            have ix : (64 : Int32) * Int32.ofNat i + s.1 38 0 i = Int32.ofNat (64 * i + (s.1 38 0 i).toInt.toNat) := by
              have : (s.1 38 0 i).toInt.toNat = k := by omega
              rw [this, hk, show (64 : Int32) = Int32.ofNat 64 from rfl, n_mul, n_add]
            rw [if_neg g2, Option.bind_some, ix, uI_n (by show _ < 2560; omega) (by omega), Option.bind_some, ai 38 _ rfl, Option.bind_some, ui 38 _ _ rfl, Option.bind_some, f_X6_give_62, ai 39 _ rfl, Option.bind_some, ui 39 _ _ rfl, Option.bind_some, f_X6_give_72, n_inc, if_neg g2, w_ne (show (38 : Nat) ≠ 37 by decide), w_ne (show (39 : Nat) ≠ 38 by decide), w_ne (show (39 : Nat) ≠ 37 by decide)]
      · have eG : gvi t v σ (i + 1) = gvi t v σ i := by rw [gvi, if_neg g]
        rw [if_neg g, f_X6_give_72, n_inc]
        exact ⟨s, ⟨by rw [eG]; exact p1, p2⟩, rfl⟩)
    (fun f s hp => by
      have e3 := hp.1.1.2.2.2.2.2
      show f_X6_give_2 (f + 1) (Int32.ofNat t) v (Int32.ofNat m) s = _
      rw [f_X6_give_2, e3, if_pos (by rw [n_le (by omega) (by omega)]; omega)]) τ ⟨h, rfl, rfl, rfl⟩
  exact ⟨s', by rw [f_X6_give]; exact h2, h1⟩
end S3
