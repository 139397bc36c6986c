theorem dis1 : ∀ φ, isT φ = true → isC φ = false := fun φ hφ => by
  unfold isT at hφ; unfold isC
  simp only [Bool.or_eq_true, Bool.and_eq_true, decide_eq_true_eq, beq_iff_eq] at hφ
  simp only [Bool.or_eq_false_iff, Bool.and_eq_false_iff, decide_eq_false_iff_not]
  omega
theorem dis2 : ∀ φ, isC φ = true → isT φ = false := fun φ hφ => by
  unfold isC at hφ; unfold isT
  simp only [Bool.or_eq_true, Bool.and_eq_true, decide_eq_true_eq] at hφ
  simp only [Bool.or_eq_false_iff, Bool.and_eq_false_iff, decide_eq_false_iff_not, beq_eq_false_iff_ne, ne_eq]
  omega
set_option maxHeartbeats 4000000 in
theorem ok_again {n m : Nat} {e0 : Int32} {σ τ s : sm_M} {F : Int32} {R' U' : Nat → Bool} {mf : Int32} (h : Rl n m e0 σ τ) (he : σ.1 0 0 12 = 0) (hF : ∀ t, n ≤ t → bt F t = false) (hs : gS τ R' U' s) (hreg : Reg n m σ (fun t => bt F t = true) (fun t => R' t = true) (fun t => U' t = true)) (h1 : 1 ≤ mf.toInt) (h2 : mf.toInt ≤ 10) (h9 : ∀ t, t < n → (σ.1 4 t 8).toInt ≤ 9) (hl : ∀ c, c < m → 0 < (σ.1 5 c 8).toInt → (σ.1 5 c 9).toInt + (σ.1 5 c 8).toInt ≤ (σ.1 5 c 6).toInt ∨ bt F (fr (σ.1 5 c)) = true) : ∃ (r : Int32) (σ' τ' : sm_M), f_X5_beginAgain F mf σ = some (r, σ') ∧ f_X6_beginAgain mf s = some (r, τ') ∧ Rl n m 0 σ' τ' ∧ σ'.1 0 0 12 = 0 := by
  have hn := h.n16
  have hm := h.m40
  obtain ⟨R, U, eR, hR1, hR2⟩ := e_reg h hF
  have hu := Reg_uniq h hR2 hreg
  obtain ⟨w, ew, hw, em⟩ := wait_eq h1 h2 σ
  obtain ⟨U2, hU2, eRw⟩ := e_rew h (R := R) (till := σ.1 0 0 6 + w)
  have hUU : ∀ t, t < n → (bt U2 t = true ↔ U' t = true) := fun t ht => by
    have a := UnS_mono h (fun j hj q => (hu.1 j hj).mp q) hU2 hreg.2.1 t ht
    have b := UnS_mono h (fun j hj q => (hu.1 j hj).mpr q) hreg.2.1 hU2 t ht
    exact ⟨a, b⟩
  have hRb : ∀ t, t < n → bt R t = R' t := fun t ht => by
    have := hu.1 t ht
    by_cases q : bt R t = true
    · rw [q]; exact (this.mp q).symm
    · by_cases q2 : R' t = true
      · exact absurd (this.mpr q2) q
      · have q' : bt R t = false := by simpa using q
        have q2' : R' t = false := by simpa using q2
        rw [q', q2']
  have hUb : ∀ t, t < n → bt U2 t = U' t := fun t ht => by
    have := hUU t ht
    by_cases q : bt U2 t = true
    · rw [q]; exact (this.mp q).symm
    · by_cases q2 : U' t = true
      · exact absurd (this.mpr q2) q
      · have q' : bt U2 t = false := by simpa using q
        have q2' : U' t = false := by simpa using q2
        rw [q', q2']
  -- the reference
  have e20 : s.1 20 = τ.1 20 := hs.1 20 (by decide) (by decide)
  have t35 : s.1 20 0 35 = σ.1 0 0 6 := by rw [e20]; exact h.2.1.2.2.1
  have kT := e_baT (R := R') (s0 := s) (wait := w) hn (by rw [e20]; exact h.1.2.2.2.2.1) (fun t ht => hs.2.2.1 t (by omega))
  rw [t35] at kT
  generalize hs1 : mapK s isT n (fun j => if R' j = true then rwT' (σ.1 0 0 6 + w) (colK s j) else colK s j) = s1 at kT
  have s1ne : ∀ φ, isT φ = false → s1.1 φ = s.1 φ := fun φ hφ => by rw [← hs1, mapK_ne hφ]
  have s1at : ∀ t, t < n → ∀ φ, isT φ = true → s1.1 φ 0 t = (if R' t = true then rwT' (σ.1 0 0 6 + w) (colK s t) else colK s t) φ := fun t ht φ hφ => by rw [← hs1, mapK_at hφ ht]
  have kC := e_baC (R := R') (U := U') (s1 := s1) (v3 := Int32.ofNat (cN R' n)) h (by rw [s1ne 20 rfl, e20]; exact h.1.2.2.2.2.2) (fun c hc => by rw [s1ne 34 rfl, hs.1 34 (by decide) (by decide)]; exact (h.C hc).1.1) (fun c hc => by rw [s1ne 35 rfl, hs.1 35 (by decide) (by decide)]; exact (h.C hc).1.2.1)
    (fun t ht => by
      rw [s1at t ht 58 rfl]
      by_cases q : R' t = true
      · rw [if_pos q]
        have : rwT' (σ.1 0 0 6 + w) (colK s t) 58 = s.1 58 0 t := by simp [rwT', ur, colK]
        rw [this, hs.2.2.1 t (by omega)]
      · rw [if_neg q]; exact hs.2.2.1 t (by omega))
    (fun t ht => by
      rw [s1at t ht 59 rfl]
      by_cases q : R' t = true
      · rw [if_pos q]
        have : rwT' (σ.1 0 0 6 + w) (colK s t) 59 = s.1 59 0 t := by simp [rwT', ur, colK]
        rw [this, hs.2.2.2 t (by omega)]
      · rw [if_neg q]; exact hs.2.2.2 t (by omega))
  generalize hs2 : mapK s1 isC m (fun j => rwC' R' U' (fr (σ.1 5 j)) (tr (σ.1 5 j)) (colK s1 j)) = s2 at kC
  have s2ne : ∀ φ, isC φ = false → s2.1 φ = s1.1 φ := fun φ hφ => by rw [← hs2, mapK_ne hφ]
  have s2at : ∀ c, c < m → ∀ φ, isC φ = true → s2.1 φ 0 c = rwC' R' U' (fr (σ.1 5 c)) (tr (σ.1 5 c)) (colK s1 c) φ := fun c hc φ hφ => by rw [← hs2, mapK_at hφ hc]
  -- the class
  generalize hσ1 : mapR (mapR σ 4 n (fun j => if bt R j = true then rwT (σ.1 0 0 6 + w) (σ.1 4 j) else σ.1 4 j)) 5 m (fun j => rwC (fun t => bt R t) (fun t => bt U2 t) (σ.1 5 j)) = σ1 at eRw
  have σne : ∀ φ, φ ≠ 4 → φ ≠ 5 → σ1.1 φ = σ.1 φ := fun φ a b => by rw [← hσ1, mapR_ne b, mapR_ne a]
  have σ4 : ∀ t, t < n → σ1.1 4 t = if R' t = true then rwT (σ.1 0 0 6 + w) (σ.1 4 t) else σ.1 4 t := fun t ht => by rw [← hσ1, mapR_ne (by decide), mapR_at ht, hRb t ht]
  have rwCeq : ∀ c, c < m → rwC (fun t => bt R t) (fun t => bt U2 t) (σ.1 5 c) = rwC R' U' (σ.1 5 c) := fun c hc => by
    obtain ⟨f0, g0, a1, a2, a3, a4⟩ := h.ft hc
    have hfr : fr (σ.1 5 c) = f0 := by unfold fr; rw [a1, i_of (by omega)]; omega
    have htr : tr (σ.1 5 c) = g0 := by unfold tr; rw [a2, i_of (by omega)]; omega
    unfold rwC rwC0
    dsimp only
    simp only [hfr, htr, hRb f0 (by omega), hRb g0 (by omega), hUb f0 (by omega)]
  have σ5 : ∀ c, c < m → σ1.1 5 c = rwC R' U' (σ.1 5 c) := fun c hc => by rw [← hσ1, mapR_at hc, rwCeq c hc]
  have σ2 : σ1.2 = σ.2 := by rw [← hσ1]; rfl
  have cnt : cN (fun t => bt R t) n = cN R' n := cN_congr hRb
  have eb := e_bits hn hR1 σ1
  rw [cnt] at eb
  generalize cN R' n = cc at kT kC eb
  have e44 : s2.1 20 0 44 = σ.1 0 0 10 := by rw [s2ne 20 rfl, s1ne 20 rfl, e20]; exact h.2.1.2.2.2.2.2.2.2.2.1
  have e10 : σ1.1 0 0 10 = σ.1 0 0 10 := by rw [σne 0 (by decide) (by decide)]
  refine ⟨Int32.ofNat cc, wI σ1 0 0 10 (σ.1 0 0 10 + Int32.ofNat cc), wI s2 20 0 44 (σ.1 0 0 10 + Int32.ofNat cc), ?_, ?_, ?_, ?_⟩
  · rw [f_X5_beginAgain, eR, Option.bind_some]
    dsimp only
    rw [ew, Option.bind_some]
    dsimp only
    rw [eRw, Option.bind_some, eb, Option.bind_some]
    dsimp only
    rw [sI_s, Option.bind_some, e10]
  · rw [em, f_X6_beginAgain_15, kT, kC, f_X6_beginAgain_345, sI_s, Option.bind_some, e44]
  · have s20 : s2.1 20 = τ.1 20 := by rw [s2ne 20 rfl, s1ne 20 rfl, e20]
    have oth : ∀ φ, isT φ = false → isC φ = false → φ ≠ 58 → φ ≠ 59 → s2.1 φ = τ.1 φ := fun φ a b d f => by rw [s2ne φ b, s1ne φ a, hs.1 φ d f]
    have tt := h.2.2.1.2.2.2.2.1
    have till : (σ.1 0 0 6 + w).toInt = (σ.1 0 0 6).toInt + w.toInt := i_add (by omega) (by omega)
    have okCs : ∀ c, c < m → okC n 0 (rwC R' U' (σ.1 5 c)) ∧ (rwC R' U' (σ.1 5 c) 4).toInt ≤ (σ.1 5 c 4).toInt ∧ rwC R' U' (σ.1 5 c) 1 = σ.1 5 c 1 ∧ rwC R' U' (σ.1 5 c) 2 = σ.1 5 c 2 := fun c hc => by
      obtain ⟨f0, g0, a1, a2, a3, a4⟩ := h.ft hc
      have hfr : fr (σ.1 5 c) = f0 := by unfold fr; rw [a1, i_of (by omega)]; omega
      have htr : tr (σ.1 5 c) = g0 := by unfold tr; rw [a2, i_of (by omega)]; omega
      refine okC_rw (h.C hc).2 (fun q => ?_) (fun q q2 => ?_)
      · rcases hl c hc q with x | x
        · exact Or.inl x
        · refine Or.inr ?_
          rw [hfr] at x ⊢
          exact hreg.1 f0 (by omega) x
      · rw [htr] at q
        rw [hfr]
        exact (hreg.2.2.1 c f0 g0 hc (by omega) (by omega) a1 a2).2 ⟨q, Or.inr q2⟩
    refine h.upd (fun φ a _ b d _ _ => by rw [w_ne a, σne φ b d]) ⟨?_, ?_, ?_, ?_, ?_, ?_, ?_⟩ ⟨?_, ?_⟩ ?_ ?_ (fun t ht => ?_) (fun c hc => ?_) (fun t ht => ?_) (fun c hc => ?_)
    · rw [w_ne (by decide), oth 27 rfl rfl (by decide) (by decide)]
    · rw [w_ne (by decide), oth 33 rfl rfl (by decide) (by decide)]
    · rw [w_ne (by decide), oth 37 rfl rfl (by decide) (by decide)]
    · rw [w_ne (by decide), oth 50 rfl rfl (by decide) (by decide)]
    · rw [w_ne (by decide), oth 51 rfl rfl (by decide) (by decide)]
    · rw [w_ne (by decide), oth 52 rfl rfl (by decide) (by decide)]
    · rw [w_ne (by decide), oth 53 rfl rfl (by decide) (by decide)]
    · rw [w_k (by decide), s20]
    · rw [w_k (by decide), s20]
    · have hG := h.2.1
      have q0 := σne 0 (by decide) (by decide)
      have q3 := σne 3 (by decide) (by decide)
      simp [bG, wI, sm_up, q0, q3, s20, σ2] at hG ⊢
      exact ⟨hG.1, hG.2.1, hG.2.2.1, hG.2.2.2.1, hG.2.2.2.2.1, hG.2.2.2.2.2.1, hG.2.2.2.2.2.2.1, hG.2.2.2.2.2.2.2.1, hG.2.2.2.2.2.2.2.2.2⟩
    · have hB := h.2.2.1
      have q0 := σne 0 (by decide) (by decide)
      have q3 := σne 3 (by decide) (by decide)
      simpa [bB, wI, sm_up, q0, q3, s20] using hB
    · rw [w_ne (ψ := 4) (by decide), σ4 t ht]
      have hcol : ∀ φ, isT φ = true → colK (wI s2 20 0 44 (σ.1 0 0 10 + Int32.ofNat cc)) t φ = (if R' t = true then rwT' (σ.1 0 0 6 + w) (colK s t) else colK s t) φ := fun φ hφ => by
        show (wI s2 20 0 44 _).1 φ 0 t = _
        rw [w_ne (by rintro rfl; cases hφ), s2ne φ (dis1 φ hφ), s1at t ht φ hφ]
      have hst : relT (σ.1 4 t) (colK s t) := by
        have := (h.T ht).1
        unfold relT at this ⊢
        have hq : ∀ φ, φ ≠ 58 → φ ≠ 59 → colK s t φ = colK τ t φ := fun φ a b => by unfold colK; rw [hs.1 φ a b]
        simp only [hq _ (show (21 : Nat) ≠ 58 by decide) (by decide), hq 22 (by decide) (by decide), hq 23 (by decide) (by decide), hq 24 (by decide) (by decide), hq 25 (by decide) (by decide), hq 26 (by decide) (by decide), hq 28 (by decide) (by decide), hq 29 (by decide) (by decide), hq 30 (by decide) (by decide), hq 31 (by decide) (by decide), hq 32 (by decide) (by decide), hq 44 (by decide) (by decide), hq 45 (by decide) (by decide), hq 46 (by decide) (by decide)]
        exact this
      by_cases q : R' t = true
      · rw [if_pos q]
        refine ⟨relT_congr (fun φ hφ => by rw [hcol φ hφ, if_pos q]) (relT_rw hst), okT_rw (h.T ht).2 (h9 t ht) (by rw [till]; omega)⟩
      · rw [if_neg q]
        exact ⟨relT_congr (fun φ hφ => by rw [hcol φ hφ, if_neg q]) hst, okT_0 (h.T ht).2 (h9 t ht)⟩
    · rw [w_ne (ψ := 5) (by decide), σ5 c hc]
      refine ⟨?_, (okCs c hc).1⟩
      have hcol : ∀ φ, isC φ = true → colK (wI s2 20 0 44 (σ.1 0 0 10 + Int32.ofNat cc)) c φ = rwC' R' U' (fr (σ.1 5 c)) (tr (σ.1 5 c)) (colK s1 c) φ := fun φ hφ => by
        show (wI s2 20 0 44 _).1 φ 0 c = _
        rw [w_ne (by rintro rfl; cases hφ), s2at c hc φ hφ]
      refine relC_congr hcol ?_
      have hst : relC (σ.1 5 c) (colK s1 c) := by
        refine relC_congr (fun φ hφ => ?_) (h.C hc).1
        unfold colK
        rw [s1ne φ (dis2 φ hφ), hs.1 φ (by rintro rfl; cases hφ) (by rintro rfl; cases hφ)]
      have h0 : relC (rwC0 R' (σ.1 5 c)) (rwC0' R' (tr (σ.1 5 c)) (colK s1 c)) := by
        unfold rwC0 rwC0'
        by_cases q : R' (tr (σ.1 5 c)) = true
        · rw [if_pos q, if_pos q]; exact relC_tk hst
        · rw [if_neg q, if_neg q]; exact hst
      unfold rwC rwC'
      by_cases q : R' (fr (σ.1 5 c)) = true
      · rw [if_pos q, if_pos q]; exact relC_g h0
      · rw [if_neg q, if_neg q]; exact h0
    · rw [w_ne (ψ := 4) (by decide), σ4 t ht]
      have o := (h.T ht).2.2.2.2.2.2.2.2.2
      by_cases q : R' t = true
      · rw [if_pos q]; simp [rwT, ur]; omega
      · rw [if_neg q]; exact ⟨Int.le_refl _, Int.le_refl _, rfl, rfl⟩
    · rw [w_ne (ψ := 5) (by decide), σ5 c hc]
      exact (okCs c hc).2
  · rw [w_k (by decide), σne 0 (by decide) (by decide)]; exact he
