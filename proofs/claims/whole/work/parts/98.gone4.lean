theorem ok_gone (v1 : Int32) : Ok2 (f_X5_gone v1) (f_X6_gone v1) := by
  intro n m σ τ h
  have hn := h.n16
  have hm := h.m40
  have e43 : τ.1 20 0 43 = σ.1 0 0 12 := h.2.1.2.2.2.2.2.2.2.1
  rcases v_cases v1 (n := 4) (by omega) with hv | ⟨k, hk, rfl⟩
  · exact Ok2.same (r := -1) h (by simp [f_X5_gone, isNode_no hv]) (by simp [f_X6_gone, noNode_yes hv])
  · rcases h.O k hk with ⟨g, g'⟩ | ⟨g, g'⟩
    · have one : 1 ≤ cN (fun k => decide (σ.1 6 0 k = 1)) 4 := cN_one hk (by simp [g])
      have le4 := cN_le (fun k => decide (σ.1 6 0 k = 1)) 4
      obtain ⟨t1, t2⟩ := e_nT h
      have two := fun q => cN_two (p := fun k => decide (σ.1 6 0 k = 1)) hk q
      generalize cN (fun k => decide (σ.1 6 0 k = 1)) 4 = N at one le4 t1 t2 two
      have L : f_X5_gone (Int32.ofNat k) σ = if Int32.ofNat N ≤ 1 then f_X5_gone_33 σ else if σ.1 0 0 12 = 0 then (f_X2_tasksOn (Int32.ofNat k) (wI σ 6 0 k 0)).bind fun q5 => (f_X5_blameAll q5.1 (2 : Int32) q5.2).bind fun q6 => if (q6.2.1 0 0 12) = 0 then (f_X5_moveAway q5.1 q6.2).bind fun q7 => (f_X2_loseAllFrom q5.1 q7).bind fun q8 => (f_X5_beginAgain q5.1 q6.1 q8).bind fun q9 => some (q9.1, q9.2) else some ((0 : Int32), q6.2) else f_X5_gone_33 σ := by
        rw [f_X5_gone, isNode_yes hk, Option.bind_some]
        dsimp only
        rw [if_neg (show ¬ (1 : Int32) = 0 by decide), aI_n (by show k < 4; omega) (by omega), Option.bind_some, g, if_neg (show ¬ (1 : Int32) = 0 by decide), t1, Option.bind_some]
        dsimp only
        rw [uZ_n (by show k < 4; omega) (by omega) z0, Option.bind_some]
      have Mo : f_X6_gone (Int32.ofNat k) τ = if Int32.ofNat N = 1 then f_X6_gone_34 τ else if σ.1 0 0 12 = 0 then (f_X6_noRegion (wI τ 50 0 k 1)).bind fun q5 => f_X6_gone_52 1000 (Int32.ofNat k) 0 0 q5 else f_X6_gone_34 τ := by
        rw [f_X6_gone, noNode_no hk, Option.bind_some]
        dsimp only
        rw [if_pos rfl, aI_n (by show k < 4; omega) (by omega), Option.bind_some, g', if_pos rfl, t2, Option.bind_some]
        dsimp only
        rw [uZ_n (by show k < 4; omega) (by omega) z1, Option.bind_some, e43]
      by_cases gN : N = 1
      · subst gN
        rw [if_pos (by decide)] at L
        rw [if_pos (by decide)] at Mo
        exact Ok2.same (r := -3) h (by rw [L, f_X5_gone_33]) (by rw [Mo, f_X6_gone_34])
      · rw [if_neg (by rw [i_le, i_of (by omega)]; show ¬ _ ≤ (1 : Int); omega)] at L
        rw [if_neg (by rw [i_eq, i_of (by omega)]; show ¬ _ = (1 : Int); omega)] at Mo
        by_cases he : σ.1 0 0 12 = 0
        · rw [if_pos he] at L Mo
          have h0 := h.node (k := k)
          generalize hσ0 : wI σ 6 0 k 0 = σ0 at h0 L
          generalize hτ0 : wI τ 50 0 k 1 = τ0 at h0 Mo
          have z12 : σ0.1 0 = σ.1 0 := by rw [← hσ0, w_ne (by decide)]
          have z4 : σ0.1 4 = σ.1 4 := by rw [← hσ0, w_ne (by decide)]
          have z5 : σ0.1 5 = σ.1 5 := by rw [← hσ0, w_ne (by decide)]
          have hx : ∃ j, j < 4 ∧ σ0.1 6 0 j = 1 := by
            obtain ⟨j, j1, j2, j3⟩ := two (by omega)
            exact ⟨j, j1, by rw [← hσ0, w_k j2]; simpa using j3⟩
          have h9 : ∀ t, t < n → (σ0.1 4 t 8).toInt ≤ 9 := by rw [z4]; exact h.nine he
          have hl0 : ∀ c, c < m → 0 < (σ0.1 5 c 8).toInt → (σ0.1 5 c 9).toInt + (σ0.1 5 c 8).toInt ≤ (σ0.1 5 c 6).toInt := by rw [z5]; exact h.lostOk he
          have he0 : σ0.1 0 0 12 = 0 := by rw [z12]; exact he
          clear hσ0 hτ0 z12 z4 z5
          obtain ⟨M, eM, hM1, hM2⟩ := e_tOn h0 (Int32.ofNat k)
          obtain ⟨s0, es0, hs0⟩ := e_noR τ0
          obtain ⟨s1, es1, r1, hs1⟩ := e_bl' (s := s0) (M := M) (h0.scr (fun φ hφ => hs0.1 φ (by omega) (by omega))) h9 hM1 hM2 ⟨fun _ _ _ => rfl, rfl, hs0.2.2.1, hs0.2.2.2⟩
          have eb := e_bla (F := M) (kind := 2) h0 h9
          obtain ⟨mb1, mb2⟩ := mx_b (F := M) h0 h9 (Nat.le_refl n)
          have i0 : (itc M 2 σ0 n).1 0 = σ0.1 0 := it_ne (by decide) (by decide) (by decide) (by decide) (by decide)
          have i5 : (itc M 2 σ0 n).1 5 = σ0.1 5 := it_ne (by decide) (by decide) (by decide) (by decide) (by decide)
          have i6 : (itc M 2 σ0 n).1 6 = σ0.1 6 := it_ne (by decide) (by decide) (by decide) (by decide) (by decide)
          have b32 : s1.1 20 0 32 = σ0.1 0 0 4 := by have := r1.2.1.1; rw [i0] at this; exact this
          have hB := h0.2.2.1.1
          rw [eM, Option.bind_some] at L
          dsimp only at L
          rw [eb, Option.bind_some] at L
          dsimp only at L
          rw [es0, Option.bind_some, es1, f_X6_gone_110, b32] at Mo
          generalize hmf : mxf M σ0 n = mf at L Mo mb1 mb2
          by_cases g0 : mf = 0
          · subst g0
            have hN : ∀ t, bt M t = false := fun t => by
              by_cases ht : t < n
              · by_cases q : bt M t = true
                · have := mb2 t ht q
                  have o := (h0.T ht).2.2.2.2.2.2.1.1
                  have : (0 : Int32).toInt = 0 := rfl
                  omega
                · simpa using q
              · exact hM2 t (by omega)
            rw [if_pos rfl] at Mo
            rw [it_none hN] at L r1
            have le0 : (0 : Int32) ≤ σ0.1 0 0 4 := by rw [i_le]; show (0 : Int) ≤ _; omega
            rw [if_pos le0, if_pos he0, e_mv r1 hx, Option.bind_some, mv_none hN, e_ls r1, Option.bind_some, ls_none hN, again_none r1 hN, Option.bind_some] at L
            refine ⟨0, n, m, σ0, s1, L, Mo, ?_⟩
            rw [he0]
            exact r1.zero h9 hl0
          · rw [if_neg g0] at Mo
            by_cases gb : mf ≤ σ0.1 0 0 4
            · rw [if_pos gb] at L Mo
              have hx1 : ∃ j, j < 4 ∧ (itc M 2 σ0 n).1 6 0 j = 1 := by rw [i6]; exact hx
              rw [i0, if_pos he0, e_mv r1 hx1, Option.bind_some] at L
              obtain ⟨s2, es2, r2, hs2⟩ := e_mv' (v2 := mf) r1 hx1 hs1
              rw [e_ls r2, Option.bind_some] at L
              obtain ⟨s3, es3, r3, hs3⟩ := e_ls' (v2 := mf) r2 hs2
              rw [es2, es3, f_X6_gone_248] at Mo
              obtain ⟨s4, R4, U4, es4, hs4, hz4, hg4⟩ := e_grow r3 hs3 (Gd_mask hM2)
              rw [es4, Option.bind_some] at Mo
              have m5 : (mvc n M (itc M 2 σ0 n) n).1 5 = σ0.1 5 := by rw [mv_ne (by decide), i5]
              have gb' := gb
              rw [i_le] at gb'
              have g0' : 1 ≤ mf.toInt := by
                have : mf.toInt ≠ 0 := fun q => g0 (by rw [i_eq]; exact q)
                omega
              obtain ⟨r, σ', τ', f1, f2, f3, f4⟩ := ok_again (F := M) (mf := mf) r3 (by rw [ls_ne (by decide), mv_ne (by decide), i0]; exact he0) hM2 hs4 hg4 g0' (by omega)
                (fun t ht => by
                  rw [ls_ne (by decide), mv_4 (by decide), it_4]
                  by_cases q : t < n ∧ bt M t = true
                  · rw [if_pos q]
                    have := mb2 t ht q.2
                    have o := (h0.T ht).2.2.2.2.2.2.1.1
                    have e8 : ur (σ0.1 4 t) 8 (σ0.1 4 t 8 + 1) 8 = σ0.1 4 t 8 + 1 := by simp [ur]
                    rw [e8, f_inc o (h9 t ht)]; omega
                  · rw [if_neg q]; exact h9 t ht)
                (fun c hc q => by
                  rw [ls_5, m5] at q ⊢
                  by_cases q2 : c < m ∧ ¬ σ0.1 5 c 3 = 0 ∧ bt M (fr (σ0.1 5 c)) = true
                  · rw [if_pos q2]
                    refine Or.inr ?_
                    have : fr (ur (σ0.1 5 c) 8 (σ0.1 5 c 4 - σ0.1 5 c 9)) = fr (σ0.1 5 c) := by simp [fr, ur]
                    rw [this]; exact q2.2.2
                  · rw [if_neg q2] at q ⊢
                    exact Or.inl (hl0 c hc q))
              rw [f1, Option.bind_some] at L
              rw [f2, Option.bind_some] at Mo
              exact ⟨r, n, m, σ', τ', L, Mo, by rw [f4]; exact f3⟩
            · rw [if_neg gb] at L Mo
              rw [w_eq, if_neg (show ¬ (1 : Int32) = 0 by decide)] at L
              rw [sZ_s z1, Option.bind_some] at Mo
              exact ⟨0, n, m, _, _, L, Mo, by rw [w_eq]; exact r1.stop⟩
        · rw [if_neg he] at L Mo
          exact Ok2.same (r := -3) h (by rw [L, f_X5_gone_33]) (by rw [Mo, f_X6_gone_34])
    · refine Ok2.same (r := -3) h ?_ ?_
      · rw [f_X5_gone, isNode_yes hk, Option.bind_some]
        dsimp only
        rw [if_neg (show ¬ (1 : Int32) = 0 by decide), aI_n (by show k < 4; omega) (by omega), Option.bind_some, g, if_pos rfl, f_X5_gone_33]
      · rw [f_X6_gone, noNode_no hk, Option.bind_some]
        dsimp only
        rw [if_pos rfl, aI_n (by show k < 4; omega) (by omega), Option.bind_some, g', if_neg (show ¬ (1 : Int32) = 0 by decide), f_X6_gone_34]
