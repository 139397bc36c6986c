/-! ===== calls that only read ===== -/
theorem i_get {x : Int32} (h : 0 ≤ x.toInt) : ∃ k : Nat, x = Int32.ofNat k ∧ x.toInt = k := ⟨x.toInt.toNat, n_get2 h, by omega⟩
theorem ok_row (v1 v2 : Int32) : Ok2 (f_X5_row v1 v2) (f_X6_row v1 v2) := by
  intro n m σ τ h
  have hm := h.m40
  rcases v_cases v1 (n := m) (by omega) with hv | ⟨c, hc, rfl⟩
  · refine Ok2.same (r := -1) h ?_ ?_
    · simp [f_X5_row, hasC_no h hv]
    · simp [f_X6_row, noC_yes h hv]
  · obtain ⟨⟨c1, c2, c3, c4, -⟩, o1, o2, o3, -⟩ := h.C hc
    have hV := h.V.2.2
    by_cases g0 : v2 < 0
    · refine Ok2.same (r := -9) h ?_ ?_
      · simp [f_X5_row, hasC_yes h hc, aP_n (φ := 8) (j := c) (by show c < 40; omega) (by omega), g0, f_X5_row_44, f_X5_row_46]
      · have e1 : τ.1 38 0 c = σ.1 5 c 4 := c4
        simp [f_X6_row, noC_no h hc, aI_n (φ := 38) (j := c) (by show c < 40; omega) (by omega), e_in, g0, f_X6_row_42]
    · have e1 : τ.1 38 0 c = σ.1 5 c 4 := c4
      by_cases g1 : σ.1 5 c 4 ≤ v2
      · refine Ok2.same (r := -9) h ?_ ?_
        · simp [f_X5_row, hasC_yes h hc, aP_n (φ := 8) (j := c) (by show c < 40; omega) (by omega), g0, g1, f_X5_row_44, f_X5_row_46]
        · have g2 : σ.1 5 c 4 - 1 < v2 := by
            rw [i_le] at g1
            rw [i_lt, i_sub] <;> simp <;> omega
          simp [f_X6_row, noC_no h hc, aI_n (φ := 38) (j := c) (by show c < 40; omega) (by omega), e_in, e1, g2, f_X6_row_42]
      · have g2 : ¬ σ.1 5 c 4 - 1 < v2 := by
          rw [i_le] at g1
          rw [i_lt, i_sub] <;> simp <;> omega
        rw [i_lt] at g0
        simp at g0
        obtain ⟨k, rfl, hk⟩ := i_get g0
        rw [i_le, hk] at g1
        have hk2 : k < 64 := by omega
        refine Ok2.same (r := σ.1 16 c k) h ?_ ?_
        · have g3 : ¬ σ.1 5 c 4 ≤ Int32.ofNat k := by rw [i_le, hk]; exact g1
          simp [f_X5_row, hasC_yes h hc, aP_n (φ := 8) (j := c) (by show c < 40; omega) (by omega), n_pos (j := k) (by omega), g3, aI_n (φ := 16) (j := k) (by show k < 64; omega) (by omega), f_X5_row_46]
        · have e2 : aI 37 τ 0 ((64 : Int32) * Int32.ofNat c + Int32.ofNat k) = some (τ.1 37 0 (64 * c + k)) := by rw [show (64 : Int32) = Int32.ofNat 64 from rfl, n_mul, n_add]; exact aI_n (by show _ < 2560; omega) (by omega)
          simp [f_X6_row, noC_no h hc, aI_n (φ := 38) (j := c) (by show c < 40; omega) (by omega), e_in, e1, g2, n_pos (j := k) (by omega), e2, f_X6_row_42, hV c k hc (by omega)]
theorem ok_out (v1 v2 : Int32) : Ok2 (f_X5_out v1 v2) (f_X6_out v1 v2) := by
  intro n m σ τ h
  have hm := h.n16
  rcases v_cases v1 (n := n) (by omega) with hv | ⟨c, hc, rfl⟩
  · refine Ok2.same (r := -1) h ?_ ?_
    · simp [f_X5_out, hasT_no h hv]
    · simp [f_X6_out, noT_yes h hv]
  · obtain ⟨⟨-, -, -, -, -, c4, -⟩, o⟩ := h.T hc
    have o3 := o.2.2.2.2.2.2.2.2
    have hV := h.V.1
    have e1 : τ.1 26 0 c = σ.1 4 c 13 := c4
    by_cases g0 : v2 < 0
    · refine Ok2.same (r := -9) h ?_ ?_
      · simp [f_X5_out, hasT_yes h hc, aP_n (φ := 7) (j := c) (by show c < 16; omega) (by omega), g0, f_X5_out_44, f_X5_out_46]
      · simp [f_X6_out, noT_no h hc, aI_n (φ := 26) (j := c) (by show c < 16; omega) (by omega), e_in, g0, f_X6_out_43]
    · by_cases g1 : σ.1 4 c 13 ≤ v2
      · refine Ok2.same (r := -9) h ?_ ?_
        · simp [f_X5_out, hasT_yes h hc, aP_n (φ := 7) (j := c) (by show c < 16; omega) (by omega), g0, g1, f_X5_out_44, f_X5_out_46]
        · have g2 : σ.1 4 c 13 - 1 < v2 := by
            rw [i_le] at g1
            rw [i_lt, i_sub] <;> simp <;> omega
          simp [f_X6_out, noT_no h hc, aI_n (φ := 26) (j := c) (by show c < 16; omega) (by omega), e_in, e1, g2, f_X6_out_43]
      · have g2 : ¬ σ.1 4 c 13 - 1 < v2 := by
          rw [i_le] at g1
          rw [i_lt, i_sub] <;> simp <;> omega
        rw [i_lt] at g0
        simp at g0
        obtain ⟨k, rfl, hk⟩ := i_get g0
        rw [i_le, hk] at g1
        have hk2 : k < 200 := by omega
        refine Ok2.same (r := σ.1 14 c k) h ?_ ?_
        · have g3 : ¬ σ.1 4 c 13 ≤ Int32.ofNat k := by rw [i_le, hk]; exact g1
          simp [f_X5_out, hasT_yes h hc, aP_n (φ := 7) (j := c) (by show c < 16; omega) (by omega), n_pos (j := k) (by omega), g3, aI_n (φ := 14) (j := k) (by show k < 200; omega) (by omega), f_X5_out_46]
        · have e2 : aI 27 τ 0 ((200 : Int32) * Int32.ofNat c + Int32.ofNat k) = some (τ.1 27 0 (200 * c + k)) := by rw [show (200 : Int32) = Int32.ofNat 200 from rfl, n_mul, n_add]; exact aI_n (by show _ < 3200; omega) (by omega)
          simp [f_X6_out, noT_no h hc, aI_n (φ := 26) (j := c) (by show c < 16; omega) (by omega), e_in, e1, g2, n_pos (j := k) (by omega), e2, f_X6_out_43, hV c k hc (by omega)]
theorem ok_aside (v1 v2 : Int32) : Ok2 (f_X5_aside v1 v2) (f_X6_aside v1 v2) := by
  intro n m σ τ h
  have hm := h.n16
  rcases v_cases v1 (n := n) (by omega) with hv | ⟨c, hc, rfl⟩
  · refine Ok2.same (r := -1) h ?_ ?_
    · simp [f_X5_aside, hasT_no h hv]
    · simp [f_X6_aside, noT_yes h hv]
  · obtain ⟨⟨-, -, -, -, -, -, -, -, -, -, c4, -⟩, o⟩ := h.T hc
    have o3 := o.2.2.2.2.2.2.2.1
    have hV := h.V.2.1
    have e1 : τ.1 32 0 c = σ.1 4 c 10 := c4
    by_cases g0 : v2 < 0
    · refine Ok2.same (r := -9) h ?_ ?_
      · simp [f_X5_aside, hasT_yes h hc, aP_n (φ := 7) (j := c) (by show c < 16; omega) (by omega), g0, f_X5_aside_44, f_X5_aside_46]
      · simp [f_X6_aside, noT_no h hc, aI_n (φ := 32) (j := c) (by show c < 16; omega) (by omega), e_in, g0, f_X6_aside_42]
    · by_cases g1 : σ.1 4 c 10 ≤ v2
      · refine Ok2.same (r := -9) h ?_ ?_
        · simp [f_X5_aside, hasT_yes h hc, aP_n (φ := 7) (j := c) (by show c < 16; omega) (by omega), g0, g1, f_X5_aside_44, f_X5_aside_46]
        · have g2 : σ.1 4 c 10 - 1 < v2 := by
            rw [i_le] at g1
            rw [i_lt, i_sub] <;> simp <;> omega
          simp [f_X6_aside, noT_no h hc, aI_n (φ := 32) (j := c) (by show c < 16; omega) (by omega), e_in, e1, g2, f_X6_aside_42]
      · have g2 : ¬ σ.1 4 c 10 - 1 < v2 := by
          rw [i_le] at g1
          rw [i_lt, i_sub] <;> simp <;> omega
        rw [i_lt] at g0
        simp at g0
        obtain ⟨k, rfl, hk⟩ := i_get g0
        rw [i_le, hk] at g1
        have hk2 : k < 8 := by omega
        refine Ok2.same (r := σ.1 15 c k) h ?_ ?_
        · have g3 : ¬ σ.1 4 c 10 ≤ Int32.ofNat k := by rw [i_le, hk]; exact g1
          simp [f_X5_aside, hasT_yes h hc, aP_n (φ := 7) (j := c) (by show c < 16; omega) (by omega), n_pos (j := k) (by omega), g3, aI_n (φ := 15) (j := k) (by show k < 8; omega) (by omega), f_X5_aside_46]
        · have e2 : aI 33 τ 0 ((8 : Int32) * Int32.ofNat c + Int32.ofNat k) = some (τ.1 33 0 (8 * c + k)) := by rw [show (8 : Int32) = Int32.ofNat 8 from rfl, n_mul, n_add]; exact aI_n (by show _ < 128; omega) (by omega)
          simp [f_X6_aside, noT_no h hc, aI_n (φ := 32) (j := c) (by show c < 16; omega) (by omega), e_in, e1, g2, n_pos (j := k) (by omega), e2, f_X6_aside_42, hV c k hc (by omega)]
theorem ok_cause (v1 v2 : Int32) : Ok2 (f_X5_cause v1 v2) (f_X6_cause v1 v2) := by
  intro n m σ τ h
  have e1 : τ.1 20 0 39 = σ.1 3 0 3 := h.2.1.2.2.2.2.2.2.1
  have o1 := h.2.2.1.2.2.2.2.2.1
  have hS := h.S
  by_cases g0 : v2 < 0
  · exact Ok2.same (r := -2) h (by simp [f_X5_cause, f_X5_cause_9, g0]) (by simp [f_X6_cause, e_in, g0])
  · by_cases g1 : v2 ≤ 2
    · have g2 : ¬ 2 < v2 := by rw [i_le] at g1; rw [i_lt]; omega
      by_cases g3 : v1 < 0
      · exact Ok2.same (r := -9) h (by simp [f_X5_cause, f_X5_cause_27, g0, g1, g3]) (by simp [f_X6_cause, e_in, g0, g2, g3])
      · by_cases g4 : v1 < σ.1 3 0 3
        · have g5 : ¬ σ.1 3 0 3 - 1 < v1 := by
            rw [i_lt] at g4
            rw [i_lt, i_sub] <;> simp <;> omega
          rw [i_lt] at g3
          simp at g3
          obtain ⟨k, rfl, hk⟩ := i_get g3
          have hk2 : (k : Int) < (σ.1 3 0 3).toInt := by rw [i_lt, hk] at g4; exact g4
          obtain ⟨s1, s2, s3⟩ := hS k hk2
          have p1 : ∀ (φ : Nat) (ρ : sm_M), fL φ = 64 → aI φ ρ 0 (Int32.ofNat k) = some (ρ.1 φ 0 k) := fun φ ρ hφ => aI_n (by rw [hφ]; omega) (by omega)
          have p2 := n_pos (j := k) (by omega)
          by_cases a0 : v2 = 0
          · subst a0
            exact Ok2.same (r := σ.1 11 0 k) h (by simp [f_X5_cause, g4, p1, p2, fL]) (by simp [f_X6_cause, f_X6_cause_62, e_in, e1, g5, p1, p2, fL, s1])
          · by_cases a1 : v2 = 1
            · subst a1
              exact Ok2.same (r := σ.1 12 0 k) h (by simp [f_X5_cause, g0, g1, g4, p1, p2, fL]) (by simp [f_X6_cause, f_X6_cause_62, e_in, e1, g0, g2, g5, p1, p2, fL, s2])
            · exact Ok2.same (r := σ.1 13 0 k) h (by simp [f_X5_cause, g0, g1, a0, a1, g4, p1, p2, fL]) (by simp [f_X6_cause, f_X6_cause_62, e_in, e1, g0, g2, a0, a1, g5, p1, p2, fL, s3])
        · have g5 : σ.1 3 0 3 - 1 < v1 := by
            rw [i_lt] at g4
            rw [i_lt, i_sub] <;> simp <;> omega
          exact Ok2.same (r := -9) h (by simp [f_X5_cause, f_X5_cause_27, g0, g1, g3, g4]) (by simp [f_X6_cause, e_in, e1, g0, g2, g5])
    · have g2 : 2 < v2 := by rw [i_le] at g1; rw [i_lt]; omega
      exact Ok2.same (r := -2) h (by simp [f_X5_cause, f_X5_cause_9, g0, g1]) (by simp [f_X6_cause, e_in, g2])
/-! ===== calls that set a number ===== -/
/-- only numbers of the whole, and what is for the moment, have changed -/
theorem okT.end {e e' : Int32} {r : Nat → Int32} (h : okT e r) (he : e' = e ∨ e' = 1) : okT e' r := by
  rcases he with rfl | rfl
  · exact h
  · obtain ⟨a1, a2, a3, a4, a5, a6, a7⟩ := h
    exact ⟨a1, a2, a3, a4, a5, ⟨a6.1, a6.2.1, fun h => by cases h⟩, a7⟩
theorem okC.end {n : Nat} {e e' : Int32} {r : Nat → Int32} (h : okC n e r) (he : e' = e ∨ e' = 1) : okC n e' r := by
  rcases he with rfl | rfl
  · exact h
  · obtain ⟨a1, a2, a3, a4, a5, a6, a7, a8, a9⟩ := h
    exact ⟨a1, a2, a3, a4, a5, a6, a7, a8, fun h => by cases h⟩
theorem Rl.glob {n m : Nat} {e0 e1 : Int32} {σ τ σ' τ' : sm_M} (h : Rl n m e0 σ τ) (h1 : ∀ φ, φ ≠ 0 → φ ≠ 2 → φ ≠ 9 → φ ≠ 10 → σ'.1 φ = σ.1 φ) (h2 : ∀ φ, 21 ≤ φ → φ ≤ 53 → τ'.1 φ = τ.1 φ) (h3 : τ'.1 20 0 0 = τ.1 20 0 0 ∧ τ'.1 20 0 14 = τ.1 20 0 14) (hG : bG σ' τ') (hB : bB σ' τ') (he : e1 = e0 ∨ e1 = 1) : Rl n m e1 σ' τ' := by
  obtain ⟨hN, -, -, hT, hC, hV, hO, hS, hE, hH⟩ := h
  have s1 := h1 1 (by decide) (by decide) (by decide) (by decide)
  have s3 := h1 3 (by decide) (by decide) (by decide) (by decide)
  have s4 := h1 4 (by decide) (by decide) (by decide) (by decide)
  have s5 := h1 5 (by decide) (by decide) (by decide) (by decide)
  have s6 := h1 6 (by decide) (by decide) (by decide) (by decide)
  have hcol : ∀ (φ i : Nat), 21 ≤ φ → φ ≤ 53 → colK τ' i φ = colK τ i φ := fun φ i a b => by unfold colK; rw [h2 φ a b]
  refine ⟨?_, hG, hB, fun t ht => ?_, fun c hc => ?_, ⟨fun t j ht hj => ?_, fun t j ht hj => ?_, fun t j ht hj => ?_⟩, fun k hk => ?_, fun j hj => ?_, ?_, ?_⟩
  · unfold bN; rw [s1, h3.1, h3.2]; exact hN
  · rw [s4]
    refine ⟨?_, (hT t ht).2.end he⟩
    have := (hT t ht).1
    unfold relT at this ⊢
    simp only [hcol _ _ (by decide : 21 ≤ 21) (by decide), hcol 22 t (by decide) (by decide), hcol 23 t (by decide) (by decide), hcol 24 t (by decide) (by decide), hcol 25 t (by decide) (by decide), hcol 26 t (by decide) (by decide), hcol 28 t (by decide) (by decide), hcol 29 t (by decide) (by decide), hcol 30 t (by decide) (by decide), hcol 31 t (by decide) (by decide), hcol 32 t (by decide) (by decide), hcol 44 t (by decide) (by decide), hcol 45 t (by decide) (by decide), hcol 46 t (by decide) (by decide)]
    exact this
  · rw [s5]
    refine ⟨?_, (hC c hc).2.end he⟩
    have := (hC c hc).1
    unfold relC relL at this ⊢
    simp only [hcol 34 c (by decide) (by decide), hcol 35 c (by decide) (by decide), hcol 36 c (by decide) (by decide), hcol 38 c (by decide) (by decide), hcol 39 c (by decide) (by decide), hcol 40 c (by decide) (by decide), hcol 41 c (by decide) (by decide), hcol 42 c (by decide) (by decide), hcol 43 c (by decide) (by decide), hcol 47 c (by decide) (by decide), hcol 48 c (by decide) (by decide), hcol 49 c (by decide) (by decide)]
    exact this
  · rw [h2 27 (by decide) (by decide), h1 14 (by decide) (by decide) (by decide) (by decide)]; rw [s4] at hj; exact hV.1 t j ht hj
  · rw [h2 33 (by decide) (by decide), h1 15 (by decide) (by decide) (by decide) (by decide)]; rw [s4] at hj; exact hV.2.1 t j ht hj
  · rw [h2 37 (by decide) (by decide), h1 16 (by decide) (by decide) (by decide) (by decide)]; rw [s5] at hj; exact hV.2.2 t j ht hj
  · rw [s6, h2 50 (by decide) (by decide)]; exact hO k hk
  · rw [s3] at hj
    rw [h2 51 (by decide) (by decide), h2 52 (by decide) (by decide), h2 53 (by decide) (by decide), h1 11 (by decide) (by decide) (by decide) (by decide), h1 12 (by decide) (by decide) (by decide) (by decide), h1 13 (by decide) (by decide) (by decide) (by decide)]
    exact hS j hj
  · unfold bE; rw [s4, s5]; exact hE
  · unfold bH; rw [s4, s5]; exact hH
theorem ok_rule (v1 v2 : Int32) (hv : v2 = 0 ∨ v2 = 1) : Ok2 (f_X5_rule v1 v2) (f_X6_rule v1 v2) := by
  intro n m σ τ h
  by_cases g0 : v1 < 1
  · exact Ok2.same (r := -2) h (by simp [f_X5_rule, f_X5_rule_11, g0]) (by simp [f_X6_rule, e_in, g0])
  · by_cases g1 : v1 ≤ 9
    · have g2 : ¬ 9 < v1 := by rw [i_le] at g1; rw [i_lt]; omega
      refine ⟨σ.1 0 0 4, n, m, wI (wI σ 0 0 4 v1) 0 0 5 v2, wI (wI τ 20 0 32 v1) 20 0 33 v2, ?_, ?_, ?_⟩
      · simp [f_X5_rule, g0, g1, sI_s, sZ_s hv]
      · have e1 : τ.1 20 0 32 = σ.1 0 0 4 := h.2.1.1
        simp [f_X6_rule, e_in, g0, g2, sI_s, sZ_s hv, e1]
      · have hb : 1 ≤ v1.toInt ∧ v1.toInt ≤ 9 := by
          rw [i_lt] at g0; rw [i_le] at g1; simp at g0 g1; omega
        exact h.glob (fun φ a _ _ _ => by rw [w_ne a, w_ne a]) (fun φ a b => by rw [w_ne (by omega), w_ne (by omega)]) (by simp [wI, sm_up]) (by simpa [bG, wI, sm_up] using h.2.1.2.2) (by simpa [bB, wI, sm_up] using ⟨hb, hv, h.2.2.1.2.2⟩) (Or.inl (by simp [wI, sm_up]))
    · have g2 : 9 < v1 := by rw [i_le] at g1; rw [i_lt]; omega
      exact Ok2.same (r := -2) h (by simp [f_X5_rule, f_X5_rule_11, g0, g1]) (by simp [f_X6_rule, e_in, g2])
theorem ok_tick (v1 : Int32) : Ok2 (f_X5_tick v1) (f_X6_tick v1) := by
  intro n m σ τ h
  by_cases g0 : v1 < 1
  · exact Ok2.same (r := -2) h (by simp [f_X5_tick, f_X5_tick_11, g0]) (by simp [f_X6_tick, e_in, g0])
  · by_cases g1 : v1 ≤ 100
    · have g2 : ¬ 100 < v1 := by rw [i_le] at g1; rw [i_lt]; omega
      have e1 : τ.1 20 0 35 = σ.1 0 0 6 := h.2.1.2.2.1
      have o1 := h.2.2.1.2.2.2.2.1
      have hb : 1 ≤ v1.toInt ∧ v1.toInt ≤ 100 := by
        rw [i_lt] at g0; rw [i_le] at g1; simp at g0 g1; omega
      have e2 : (σ.1 0 0 6 + v1).toInt = (σ.1 0 0 6).toInt + v1.toInt := i_add (by omega) (by omega)
      have hx : (if σ.1 0 0 6 + v1 < 1000000 then σ.1 0 0 6 + v1 else 1000000) = (if σ.1 0 0 6 + v1 ≤ 1000000 then σ.1 0 0 6 + v1 else 1000000) := by
        by_cases a : σ.1 0 0 6 + v1 < 1000000
        · have b : σ.1 0 0 6 + v1 ≤ 1000000 := by rw [i_lt] at a; rw [i_le]; omega
          rw [if_pos a, if_pos b]
        · rw [if_neg a]
          by_cases b : σ.1 0 0 6 + v1 ≤ 1000000
          · rw [if_pos b, i_eq]; rw [i_lt] at a; rw [i_le] at b; omega
          · rw [if_neg b]
      obtain ⟨x, hx1, hx2⟩ : ∃ x : Int32, x = (if σ.1 0 0 6 + v1 < 1000000 then σ.1 0 0 6 + v1 else 1000000) ∧ (0 ≤ x.toInt ∧ x.toInt ≤ 1000000) := by
        refine ⟨_, rfl, ?_⟩
        by_cases a : σ.1 0 0 6 + v1 < 1000000
        · rw [if_pos a]; rw [i_lt, e2] at a; simp at a; omega
        · rw [if_neg a]; decide
      refine ⟨x, n, m, wI σ 0 0 6 x, wI τ 20 0 35 x, ?_, ?_, ?_⟩
      · simp only [f_X5_tick, if_neg g0, if_pos g1, sI_s, ← hx1, Option.bind_some, w_eq]
      · rw [hx] at hx1
        by_cases b : σ.1 0 0 6 + v1 ≤ 1000000
        · rw [if_pos b] at hx1
          subst hx1
          simp [f_X6_tick, f_X6_tick_36, e_in, g0, g2, e1, b, sI_s, w_eq]
        · rw [if_neg b] at hx1
          subst hx1
          simp [f_X6_tick, f_X6_tick_36, e_in, g0, g2, e1, b, sI_s, w_eq]
      · refine h.glob (fun φ a _ _ _ => by rw [w_ne a]) (fun φ a b => by rw [w_ne (by omega)]) (by simp [wI, sm_up]) ?_ ?_ (Or.inl (by simp [wI, sm_up]))
        · have := h.2.1
          simp [bG, wI, sm_up] at this ⊢
          exact ⟨this.1, this.2.1, this.2.2.2⟩
        · have := h.2.2.1
          simp [bB, wI, sm_up] at this ⊢
          exact ⟨this.1, this.2.1, this.2.2.1, this.2.2.2.1, hx2, this.2.2.2.2.2⟩
    · have g2 : 100 < v1 := by rw [i_le] at g1; rw [i_lt]; omega
      exact Ok2.same (r := -2) h (by simp [f_X5_tick, f_X5_tick_11, g0, g1]) (by simp [f_X6_tick, e_in, g2])
