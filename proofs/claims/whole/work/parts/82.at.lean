/-! ===== taskAt, channelAt, told ===== -/
theorem asN {x : Int32} {σ : sm_M} (h : x = 0 ∨ x = 1) : f_X5_asNumber x σ = some (x, σ) := by
  rcases h with rfl | rfl <;> rfl
theorem bool01 (p : Prop) [Decidable p] : (if p then (1 : Int32) else 0) = 0 ∨ (if p then (1 : Int32) else 0) = 1 := by
  by_cases h : p <;> simp [h]
set_option maxHeartbeats 4000000 in
theorem ok_taskAt (v1 v2 : Int32) : Ok2 (f_X5_taskAt v1 v2) (f_X6_taskAt v1 v2) := by
  intro n m σ τ h
  have hn := h.n16
  rcases v_cases v1 (n := n) (by omega) with hv | ⟨t, ht, rfl⟩
  · exact Ok2.same (r := -1) h (by simp [f_X5_taskAt, hasT_no h hv]) (by simp [f_X6_taskAt, noT_yes h hv])
  · have p7 := aP_n (φ := 7) (j := t) (by show t < 16; omega) (by omega)
    have a1 : ∀ (φ : Nat), fL φ = 16 → aI φ τ 0 (Int32.ofNat t) = some (τ.1 φ 0 t) := fun φ hφ => aI_n (by rw [hφ]; omega) (by omega)
    obtain ⟨⟨r1, r2, r3, r4, r5, r6, r7, r8, r9, r10, r11, -⟩, o⟩ := h.T ht
    simp only [colK] at r1 r2 r3 r4 r5 r6 r7 r8 r9 r10 r11
    have c0 : f_X5_taskAt (Int32.ofNat t) v2 σ = f_X5_taskAt (Int32.ofNat t) v2 σ := rfl
    conv at c0 => rhs; rw [f_X5_taskAt, hasT_yes h ht, Option.bind_some]
    have m0 : f_X6_taskAt (Int32.ofNat t) v2 τ = f_X6_taskAt (Int32.ofNat t) v2 τ := rfl
    conv at m0 => rhs; rw [f_X6_taskAt, noT_no h ht, Option.bind_some]
    dsimp only at c0 m0
    rw [if_neg (by decide), p7, Option.bind_some] at c0
    rw [if_pos rfl] at m0
    by_cases g0 : v2 = 0
    · exact Ok2.same (r := σ.1 4 t 2) h (by rw [c0, if_pos g0]) (by rw [m0, if_pos g0, a1 21 rfl, Option.bind_some, r1])
    rw [if_neg g0] at c0 m0
    by_cases g1 : v2 = 1
    · exact Ok2.same (r := σ.1 4 t 4) h (by rw [c0, if_pos g1]) (by rw [m0, if_pos g1, a1 23 rfl, Option.bind_some, r3])
    rw [if_neg g1] at c0 m0
    by_cases g2 : v2 = 2
    · exact Ok2.same (r := σ.1 4 t 11) h (by rw [c0, if_pos g2]) (by rw [m0, if_pos g2, a1 24 rfl, Option.bind_some, r4])
    rw [if_neg g2] at c0 m0
    by_cases g3 : v2 = 3
    · exact Ok2.same (r := σ.1 4 t 12) h (by rw [c0, if_pos g3]) (by rw [m0, if_pos g3, a1 25 rfl, Option.bind_some, r5])
    rw [if_neg g3] at c0 m0
    by_cases g4 : v2 = 4
    · exact Ok2.same (r := σ.1 4 t 7) h (by rw [c0, if_pos g4]) (by rw [m0, if_pos g4, a1 29 rfl, Option.bind_some, r8])
    rw [if_neg g4] at c0 m0
    by_cases g5 : v2 = 5
    · exact Ok2.same (r := σ.1 4 t 8) h (by rw [c0, if_pos g5]) (by rw [m0, if_pos g5, a1 30 rfl, Option.bind_some, r9])
    rw [if_neg g5] at c0 m0
    by_cases g6 : v2 = 6
    · rw [if_pos g6] at c0 m0
      have e35 : τ.1 20 0 35 = σ.1 0 0 6 := h.2.1.2.2.1
      have ot := h.2.2.1.2.2.2.2.1
      have o9 := o.2.2.2.2.2.2.1
      have e2 : (σ.1 4 t 9 - σ.1 0 0 6).toInt = (σ.1 4 t 9).toInt - (σ.1 0 0 6).toInt := i_sub (by omega) (by omega)
      refine Ok2.same (r := if (0 : Int32) < σ.1 4 t 9 - σ.1 0 0 6 then σ.1 4 t 9 - σ.1 0 0 6 else 0) h (by rw [c0, f_X4_waitsStill, Option.bind_some]) ?_
      rw [m0, a1 31 rfl, Option.bind_some, r10, e35]
      by_cases g : (σ.1 4 t 9).toInt ≤ (σ.1 0 0 6).toInt
      · rw [if_pos (by rw [i_le]; exact g), if_neg (by rw [i_lt, e2]; show ¬ (0 : Int) < _; omega)]; rfl
      · rw [if_neg (by rw [i_le]; exact g), if_pos (by rw [i_lt, e2]; show (0 : Int) < _; omega), Option.bind_some]; rfl
    rw [if_neg g6] at c0 m0
    by_cases g7 : v2 = 7
    · rw [if_pos g7] at c0 m0
      obtain ⟨M, hM, eM⟩ := e_done h
      obtain ⟨τ', f1, f2, f3, f4⟩ := e_fd h hM
      refine ⟨if bt M t = true then 1 else 0, n, m, σ, τ', ?_, ?_, h.scr (fun φ hφ => f2 φ (by omega))⟩
      · rw [c0, eM, Option.bind_some]
        dsimp only
        rw [e_isIn (by omega), Option.bind_some]
        dsimp only
        rw [asN (bool01 _), Option.bind_some]
      · rw [m0, f1, Option.bind_some, aI_n (φ := 54) (by show t < 16; omega) (by omega), Option.bind_some, f4 t ht]
        by_cases g : bt M t = true
        · rw [if_pos g, if_neg (by decide)]; rfl
        · rw [if_neg g, if_pos rfl]; rfl
    rw [if_neg g7] at c0 m0
    by_cases g8 : v2 = 8
    · exact Ok2.same (r := σ.1 4 t 13) h (by rw [c0, if_pos g8]) (by rw [m0, if_pos g8, a1 26 rfl, Option.bind_some, r6])
    rw [if_neg g8] at c0 m0
    by_cases g9 : v2 = 9
    · exact Ok2.same (r := σ.1 4 t 10) h (by rw [c0, if_pos g9]) (by rw [m0, if_pos g9, a1 32 rfl, Option.bind_some, r11])
    rw [if_neg g9] at c0 m0
    exact Ok2.same (r := -2) h c0 m0
set_option maxHeartbeats 4000000 in
theorem ok_channelAt (v1 v2 : Int32) : Ok2 (f_X5_channelAt v1 v2) (f_X6_channelAt v1 v2) := by
  intro n m σ τ h
  have hn := h.n16
  have hm := h.m40
  rcases v_cases v1 (n := m) (by omega) with hv | ⟨c, hc, rfl⟩
  · exact Ok2.same (r := -1) h (by simp [f_X5_channelAt, hasC_no h hv]) (by simp [f_X6_channelAt, noC_yes h hv])
  · have p7 := aP_n (φ := 8) (j := c) (by show c < 40; omega) (by omega)
    have a1 : ∀ (φ : Nat), fL φ = 40 → aI φ τ 0 (Int32.ofNat c) = some (τ.1 φ 0 c) := fun φ hφ => aI_n (by rw [hφ]; omega) (by omega)
    obtain ⟨⟨r1, r2, r3, r4, r5, r6, r7, r9, r10, r11, rL⟩, o⟩ := h.C hc
    simp only [relL, colK] at r1 r2 r3 r4 r5 r6 r7 r9 r10 r11 rL
    have c0 : f_X5_channelAt (Int32.ofNat c) v2 σ = f_X5_channelAt (Int32.ofNat c) v2 σ := rfl
    conv at c0 => rhs; rw [f_X5_channelAt, hasC_yes h hc, Option.bind_some]
    have m0 : f_X6_channelAt (Int32.ofNat c) v2 τ = f_X6_channelAt (Int32.ofNat c) v2 τ := rfl
    conv at m0 => rhs; rw [f_X6_channelAt, noC_no h hc, Option.bind_some]
    dsimp only at c0 m0
    rw [if_neg (by decide), p7, Option.bind_some] at c0
    rw [if_pos rfl] at m0
    by_cases g0 : v2 = 0
    · exact Ok2.same (r := σ.1 5 c 1) h (by rw [c0, if_pos g0]) (by rw [m0, if_pos g0, a1 34 rfl, Option.bind_some, r1])
    rw [if_neg g0] at c0 m0
    by_cases g1 : v2 = 1
    · exact Ok2.same (r := σ.1 5 c 2) h (by rw [c0, if_pos g1]) (by rw [m0, if_pos g1, a1 35 rfl, Option.bind_some, r2])
    rw [if_neg g1] at c0 m0
    by_cases g2 : v2 = 2
    · refine Ok2.same (r := σ.1 5 c 3) h (by rw [c0, if_pos g2, asN o.2.1, Option.bind_some]) ?_
      rw [m0, if_pos g2, a1 36 rfl, Option.bind_some, r3]
      rcases o.2.1 with q | q
      · rw [q, if_pos rfl]; rfl
      · rw [q, if_neg (by decide)]; rfl
    rw [if_neg g2] at c0 m0
    by_cases g3 : v2 = 3
    · exact Ok2.same (r := σ.1 5 c 4) h (by rw [c0, if_pos g3]) (by rw [m0, if_pos g3, a1 38 rfl, Option.bind_some, r4])
    rw [if_neg g3] at c0 m0
    by_cases g4 : v2 = 4
    · exact Ok2.same (r := σ.1 5 c 5) h (by rw [c0, if_pos g4]) (by rw [m0, if_pos g4, a1 39 rfl, Option.bind_some, r5])
    rw [if_neg g4] at c0 m0
    by_cases g5 : v2 = 5
    · exact Ok2.same (r := σ.1 5 c 6) h (by rw [c0, if_pos g5]) (by rw [m0, if_pos g5, a1 40 rfl, Option.bind_some, r6])
    rw [if_neg g5] at c0 m0
    by_cases g6 : v2 = 6
    · refine Ok2.same (r := σ.1 5 c 8) h (by rw [c0, if_pos g6]) ?_
      rw [m0, if_pos g6, a1 42 rfl, Option.bind_some]
      rcases rL with ⟨q1, q2⟩ | ⟨q1, q2, q3⟩
      · rw [q1, q2, if_pos rfl]; rfl
      · rw [q1, if_neg (by decide), a1 43 rfl, Option.bind_some, a1 47 rfl, Option.bind_some, q2, r9, f_X6_channelAt_136]
        congr 2
        rw [Int32.add_comm]; exact Int32.add_sub_cancel _ _
    rw [if_neg g6] at c0 m0
    by_cases g7 : v2 = 7
    · rw [if_pos g7] at c0 m0
      obtain ⟨M, hM, eM⟩ := e_done h
      obtain ⟨τ', f1, f2, f3, f4⟩ := e_fd h hM
      obtain ⟨f, g, e1, e2, h1, h2⟩ := h.ft hc
      refine ⟨if bt M f = true ∧ (σ.1 5 c 5).toInt ≤ (σ.1 5 c 6).toInt then 1 else 0, n, m, σ, τ', ?_, ?_, h.scr (fun φ hφ => f2 φ (by omega))⟩
      · rw [c0, eM, Option.bind_some]
        dsimp only
        rw [e_over (by omega) e1, Option.bind_some]
        dsimp only
        rw [asN (bool01 _), Option.bind_some]
      · have a2 : ∀ (φ : Nat), fL φ = 40 → aI φ τ' 0 (Int32.ofNat c) = some (τ'.1 φ 0 c) := fun φ hφ => aI_n (by rw [hφ]; omega) (by omega)
        have ov : f_X6_isOver (Int32.ofNat c) τ' = some (if bt M f = true ∧ (σ.1 5 c 5).toInt ≤ (σ.1 5 c 6).toInt then 1 else 0, τ') := by
          rw [f_X6_isOver, a2 34 rfl, Option.bind_some, f2 34 (by decide), r1, e1, aI_n (φ := 54) (by show f < 16; omega) (by omega), Option.bind_some, f4 f (by omega)]
          by_cases q : bt M f = true
          · rw [if_pos q, if_neg (by decide), a2 40 rfl, Option.bind_some, a2 39 rfl, Option.bind_some, f2 40 (by decide), f2 39 (by decide), r5, r6]
            by_cases q2 : (σ.1 5 c 5).toInt ≤ (σ.1 5 c 6).toInt
            · rw [if_neg (by rw [i_lt]; omega), if_pos ⟨q, q2⟩]; rfl
            · rw [if_pos (by rw [i_lt]; omega), if_neg (fun x => q2 x.2)]; rfl
          · rw [if_neg q, if_pos rfl, if_neg (fun x => q x.1)]; rfl
        rw [m0, f1, Option.bind_some, ov, Option.bind_some]
        dsimp only
        by_cases q : bt M f = true ∧ (σ.1 5 c 5).toInt ≤ (σ.1 5 c 6).toInt
        · rw [if_pos q, if_neg (by decide)]; rfl
        · rw [if_neg q, if_pos rfl]; rfl
    rw [if_neg g7] at c0 m0
    by_cases g8 : v2 = 8
    · exact Ok2.same (r := σ.1 5 c 7) h (by rw [c0, if_pos g8]) (by rw [m0, if_pos g8, a1 41 rfl, Option.bind_some, r7])
    rw [if_neg g8] at c0 m0
    exact Ok2.same (r := -2) h c0 m0
theorem e_dM {n m : Nat} {σ τ : sm_M} {e0 : Int32} (h : Rl n m e0 σ τ) {M : Int32} (hM : PD n m σ M) : ∃ τ', f_X6_doneMany τ = some (Int32.ofNat (cN (fun t => bt M t) n), τ') ∧ ∀ φ, φ ≤ 53 → τ'.1 φ = τ.1 φ := by
  have hn := h.n16
  obtain ⟨τ', f1, f2, f3, f4⟩ := e_fd h hM
  have e1 : τ'.1 20 0 0 = Int32.ofNat n := by rw [f2 20 (by decide)]; exact h.1.2.2.2.2.1
  refine ⟨τ', ?_, fun φ hφ => f2 φ (by omega)⟩
  obtain ⟨s', h1, h2⟩ := loopE (F := fun f v (s : Int32) => f_X6_doneMany_8 f s v τ') (X := fun s => some (s, τ')) (N := n) (by omega) (fun i s => s = Int32.ofNat (cN (fun t => bt M t) i))
    (fun f i s hi hp => by
      subst hp
      refine ⟨_, rfl, ?_⟩
      show f_X6_doneMany_8 (f + 1) _ (Int32.ofNat i) τ' = _
      rw [f_X6_doneMany_8, e1, if_neg (by rw [n_le (by omega) (by omega)]; omega), aI_n (by show i < 16; omega) (by omega), Option.bind_some, f4 i hi]
      by_cases g : bt M i = true
      · rw [if_pos g, if_neg (by decide), f_X6_doneMany_31, n_inc, n_inc, cN]; simp [g]
      · rw [if_neg g, if_pos rfl, f_X6_doneMany_31, n_inc, cN]; simp [g])
    (fun f s hp => by
      show f_X6_doneMany_8 (f + 1) s (Int32.ofNat n) τ' = _
      rw [f_X6_doneMany_8, e1, if_pos (by rw [n_le (by omega) (by omega)]; omega), f_X6_doneMany_39]) 0 rfl
  rw [h1] at h2
  rw [f_X6_doneMany, f1, Option.bind_some]
  exact h2
set_option maxHeartbeats 4000000 in
theorem ok_told (v1 : Int32) : Ok2 (f_X5_told v1) (f_X6_told v1) := by
  intro n m σ τ h
  have hn := h.n16
  obtain ⟨G1, G2, G3, G4, G5, G6, G7, G8, G9, G10⟩ := h.2.1
  have c0 : f_X5_told v1 σ = f_X5_told v1 σ := rfl
  conv at c0 => rhs; rw [f_X5_told]
  have m0 : f_X6_told v1 τ = f_X6_told v1 τ := rfl
  conv at m0 => rhs; rw [f_X6_told]
  by_cases g0 : v1 = 0
  · exact Ok2.same (r := Int32.ofNat n) h (by rw [c0, if_pos g0, h.1.2.2.1]) (by rw [m0, if_pos g0, h.1.2.2.2.2.1])
  rw [if_neg g0] at c0 m0
  by_cases g1 : v1 = 1
  · exact Ok2.same (r := Int32.ofNat m) h (by rw [c0, if_pos g1, h.1.2.2.2.1]) (by rw [m0, if_pos g1, h.1.2.2.2.2.2])
  rw [if_neg g1] at c0 m0
  by_cases g2 : v1 = 2
  · exact Ok2.same (r := σ.1 0 0 9) h (by rw [c0, if_pos g2]) (by rw [m0, if_pos g2, G4])
  rw [if_neg g2] at c0 m0
  by_cases g3 : v1 = 3
  · exact Ok2.same (r := σ.1 0 0 6) h (by rw [c0, if_pos g3]) (by rw [m0, if_pos g3, G3])
  rw [if_neg g3] at c0 m0
  by_cases g4 : v1 = 4
  · exact Ok2.same (r := σ.1 0 0 8) h (by rw [c0, if_pos g4]) (by rw [m0, if_pos g4, G6])
  rw [if_neg g4] at c0 m0
  by_cases g5 : v1 = 5
  · exact Ok2.same (r := σ.1 3 0 3) h (by rw [c0, if_pos g5]) (by rw [m0, if_pos g5, G7])
  rw [if_neg g5] at c0 m0
  by_cases g6 : v1 = 6
  · have o := h.2.2.1.2.2.2.1
    refine Ok2.same (r := σ.1 0 0 12) h (by rw [c0, if_pos g6, asN o, Option.bind_some]) ?_
    rw [m0, if_pos g6, G8]
    rcases o with q | q
    · rw [q, if_pos rfl]; rfl
    · rw [q, if_neg (by decide)]; rfl
  rw [if_neg g6] at c0 m0
  by_cases g7 : v1 = 7
  · exact Ok2.same h (by rw [c0, if_pos g7, e_cW h, Option.bind_some]) (by rw [m0, if_pos g7, e_cW' h, Option.bind_some])
  rw [if_neg g7] at c0 m0
  by_cases g8 : v1 = 8
  · obtain ⟨M, hM, eM⟩ := e_done h
    obtain ⟨τ', d1, d2⟩ := e_dM h hM
    exact ⟨_, n, m, σ, τ', by rw [c0, if_pos g8, eM, Option.bind_some]; dsimp only; rw [e_bits hn hM.2, Option.bind_some], by rw [m0, if_pos g8, d1, Option.bind_some], h.scr d2⟩
  rw [if_neg g8] at c0 m0
  by_cases g9 : v1 = 9
  · exact Ok2.same h (by rw [c0, if_pos g9, (e_nT h).1, Option.bind_some]) (by rw [m0, if_pos g9, (e_nT h).2, Option.bind_some])
  rw [if_neg g9] at c0 m0
  by_cases g10 : v1 = 10
  · exact Ok2.same (r := σ.1 0 0 10) h (by rw [c0, if_pos g10]) (by rw [m0, if_pos g10, G9])
  rw [if_neg g10] at c0 m0
  exact Ok2.same (r := -2) h c0 m0
