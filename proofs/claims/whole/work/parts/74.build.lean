/-! ===== a new start; calls that build ===== -/
theorem stA {σ : sm_M} : ∃ σ', f_X5_startAnew_26 1000 0 σ = f_X5_startAnew_44 σ' ∧ (∀ φ, φ ≠ 6 → σ'.1 φ = σ.1 φ) ∧ (∀ k, k < 4 → σ'.1 6 0 k = 1) ∧ σ'.2 = σ.2 := by
  obtain ⟨σ', ⟨h1, h2, h3⟩, h4⟩ := loopE (F := fun f v s => f_X5_startAnew_26 f v s) (X := f_X5_startAnew_44) (N := 4) (by decide) (fun i s => (∀ φ, φ ≠ 6 → s.1 φ = σ.1 φ) ∧ (∀ k, k < i → s.1 6 0 k = 1) ∧ s.2 = σ.2)
    (fun f i s hi hp => by
      refine ⟨wI s 6 0 i 1, ⟨fun φ hφ => by rw [w_ne hφ]; exact hp.1 φ hφ, fun k hk => ?_, hp.2.2⟩, ?_⟩
      · rw [w_at]
        by_cases e : k = i
        · rw [if_pos e]
        · rw [if_neg e]; exact hp.2.1 k (by omega)
      · show f_X5_startAnew_26 (f + 1) (Int32.ofNat i) s = _
        rw [f_X5_startAnew_26, if_neg (by rw [show (4 : Int32) = Int32.ofNat 4 from rfl, n_le (by omega) (by omega)]; omega), uZ_n (by show i < 4; omega) (by omega) z1, Option.bind_some, n_inc])
    (fun f s _ => by
      show f_X5_startAnew_26 (f + 1) (Int32.ofNat 4) s = _
      rw [f_X5_startAnew_26, if_pos (by decide)]) σ ⟨fun _ _ => rfl, fun k hk => absurd hk (Nat.not_lt_zero k), rfl⟩
  exact ⟨σ', h4, h1, h2, h3⟩
theorem stB {τ : sm_M} : ∃ τ', f_X6_begin_12 1000 0 τ = f_X6_begin_30 τ' ∧ (∀ φ, φ ≠ 50 → τ'.1 φ = τ.1 φ) ∧ (∀ k, k < 4 → τ'.1 50 0 k = 0) ∧ τ'.2 = τ.2 := by
  obtain ⟨τ', ⟨h1, h2, h3⟩, h4⟩ := loopE (F := fun f v s => f_X6_begin_12 f v s) (X := f_X6_begin_30) (N := 4) (by decide) (fun i s => (∀ φ, φ ≠ 50 → s.1 φ = τ.1 φ) ∧ (∀ k, k < i → s.1 50 0 k = 0) ∧ s.2 = τ.2)
    (fun f i s hi hp => by
      refine ⟨wI s 50 0 i 0, ⟨fun φ hφ => by rw [w_ne hφ]; exact hp.1 φ hφ, fun k hk => ?_, hp.2.2⟩, ?_⟩
      · rw [w_at]
        by_cases e : k = i
        · rw [if_pos e]
        · rw [if_neg e]; exact hp.2.1 k (by omega)
      · show f_X6_begin_12 (f + 1) (Int32.ofNat i) s = _
        rw [f_X6_begin_12, if_neg (by rw [show (4 : Int32) = Int32.ofNat 4 from rfl, n_le (by omega) (by omega)]; omega), uZ_n (by show i < 4; omega) (by omega) z0, Option.bind_some, n_inc])
    (fun f s _ => by
      show f_X6_begin_12 (f + 1) (Int32.ofNat 4) s = _
      rw [f_X6_begin_12, if_pos (by decide)]) τ ⟨fun _ _ => rfl, fun k hk => absurd hk (Nat.not_lt_zero k), rfl⟩
  exact ⟨τ', h4, h1, h2, h3⟩
theorem st44 (σ : sm_M) : f_X5_startAnew_44 σ = some (wI (wI (wI (wI (wI (wJ (wI (wI (wI σ 0 0 4 3) 0 0 5 0) 0 0 6 0) 0 0 7 1) 0 0 8 0) 0 0 9 0) 0 0 10 0) 0 0 11 0) 0 0 12 0) := by
  unfold f_X5_startAnew_44
  rw [sI_s, Option.bind_some, sZ_s z0, Option.bind_some, sI_s, Option.bind_some, sJ_s, Option.bind_some, sI_s, Option.bind_some, sI_s, Option.bind_some, sI_s, Option.bind_some, sZ_s z0, Option.bind_some, sZ_s z0, Option.bind_some]
theorem st30 (τ : sm_M) : f_X6_begin_30 τ = some (wI (wI (wI (wI (wI (wI (wI (wI (wI (wI τ 20 0 32 3) 20 0 33 0) 20 0 34 1) 20 0 35 0) 20 0 36 0) 20 0 37 0) 20 0 38 0) 20 0 39 0) 20 0 43 0) 20 0 44 0) := by
  unfold f_X6_begin_30
  rw [sI_s, Option.bind_some, sZ_s z0, Option.bind_some, sI_s, Option.bind_some, sI_s, Option.bind_some, sI_s, Option.bind_some, sZ_s z0, Option.bind_some, sI_s, Option.bind_some, sI_s, Option.bind_some, sZ_s z0, Option.bind_some, sI_s, Option.bind_some]
/-- both begin, from any memories -/
theorem ok_begin (σ τ : sm_M) : ∃ σ' τ', f_X5_startAnew σ = some σ' ∧ f_X6_begin τ = some τ' ∧ Rl 0 0 (σ'.1 0 0 12) σ' τ' := by
  obtain ⟨s1, a1, a2, a3, a4⟩ := stA (σ := wI (wI (wI σ 1 0 2 0) 1 0 3 0) 3 0 3 0)
  obtain ⟨t1, b1, b2, b3, b4⟩ := stB (τ := wI (wI τ 20 0 0 0) 20 0 14 0)
  have h1 : f_X5_startAnew σ = f_X5_startAnew_44 s1 := by
    unfold f_X5_startAnew
    rw [sI_s, Option.bind_some, sI_s, Option.bind_some, sI_s, Option.bind_some]; exact a1
  have h2 : f_X6_begin τ = f_X6_begin_30 t1 := by
    unfold f_X6_begin
    rw [sI_s, Option.bind_some, sI_s, Option.bind_some]; exact b1
  refine ⟨_, _, h1.trans (st44 s1), h2.trans (st30 t1), ?_⟩
  have c1 := a2 1 (by decide)
  have c3 := a2 3 (by decide)
  have d1 := b2 20 (by decide)
  clear a1 b1 h1 h2
  refine ⟨?_, ?_, ?_, fun t ht => absurd ht (Nat.not_lt_zero t), fun t ht => absurd ht (Nat.not_lt_zero t), ⟨fun t _ ht => absurd ht (Nat.not_lt_zero t), fun t _ ht => absurd ht (Nat.not_lt_zero t), fun t _ ht => absurd ht (Nat.not_lt_zero t)⟩, fun k hk => ?_, fun j hj => ?_, fun t _ _ ht => absurd ht (Nat.not_lt_zero t), fun t _ ht => absurd ht (Nat.not_lt_zero t)⟩
  · simp [bN, wI, wJ, sm_up, c1, d1]
  · simp [bG, wI, wJ, sm_up, c3]
  · simp [bB, wI, wJ, sm_up, c3]
  · left
    simp [wI, wJ, sm_up, a3 k hk, b3 k hk]
  · simp [wI, wJ, sm_up, c3] at hj
    omega
theorem ok_clear : Ok2 f_X5_clear f_X6_clear := by
  intro n m σ τ h
  obtain ⟨σ', τ', h1, h2, h3⟩ := ok_begin σ τ
  have e1 := h.1.2.2.1
  have e2 := h.1.2.2.2.2.1
  exact ⟨Int32.ofNat n, 0, 0, σ', τ', by simp [f_X5_clear, h1, e1], by simp [f_X6_clear, h2, e2], h3⟩
theorem w_row {σ : sm_M} {φ i k : Nat} {v : Int32} : (wI σ φ i k v).1 φ i = ur (σ.1 φ i) k v := by rw [wI_R, R_at]
theorem w_col {τ : sm_M} {φ i : Nat} {v : Int32} : colK (wI τ φ 0 i v) i = ur (colK τ i) φ v := by
  funext ψ
  by_cases h : ψ = φ
  · subst h; simp [colK, wI, sm_up, ur]
  · simp [colK, wI, sm_up, ur, h]
theorem w_col2 {τ : sm_M} {φ i j : Nat} {v : Int32} (h : j ≠ i) : colK (wI τ φ 0 i v) j = colK τ j := by
  funext ψ
  simp [colK, wI, sm_up, h]
theorem ok_poison (v1 v2 : Int32) : Ok2 (f_X5_poison v1 v2) (f_X6_poison v1 v2) := by
  intro n m σ τ h
  have hn := h.n16
  rcases v_cases v1 (n := n) (by omega) with hv | ⟨t, ht, rfl⟩
  · exact Ok2.same (r := -1) h (by simp [f_X5_poison, hasT_no h hv]) (by simp [f_X6_poison, noT_yes h hv])
  · by_cases g0 : v2 < -1000
    · exact Ok2.same (r := -2) h (by simp [f_X5_poison, hasT_yes h ht, g0, f_X5_poison_27]) (by simp [f_X6_poison, noT_no h ht, e_in, g0])
    · by_cases g1 : v2 ≤ 1000
      · have g2 : ¬ 1000 < v2 := by rw [i_le] at g1; rw [i_lt]; omega
        have e1 : τ.1 20 0 37 = σ.1 0 0 11 := h.2.1.2.2.2.2.1
        by_cases g3 : σ.1 0 0 11 = 0
        · have e2 : τ.1 28 0 t = σ.1 4 t 6 := (h.T ht).1.2.2.2.2.2.2.1
          refine ⟨σ.1 4 t 6, n, m, wI σ 4 t 6 v2, wI τ 28 0 t v2, ?_, ?_, ?_⟩
          · simp [f_X5_poison, hasT_yes h ht, g0, g1, g3, aP_n (φ := 7) (j := t) (by show t < 16; omega) (by omega), sI_s]
          · simp [f_X6_poison, noT_no h ht, e_in, g0, g2, e1, g3, aI_n (φ := 28) (j := t) (by show t < 16; omega) (by omega), uI_n (φ := 28) (j := t) (by show t < 16; omega) (by omega), e2]
          · obtain ⟨hN, hG, hB, hT, hC, hV, hO, hS, hE, hH⟩ := h
            refine ⟨?_, ?_, ?_, fun u hu => ?_, ?_, ?_, ?_, ?_, ?_, ?_⟩
            · simpa [bN, wI, sm_up] using hN
            · simpa [bG, wI, sm_up] using hG
            · simpa [bB, wI, sm_up] using hB
            · have hTu := hT u hu
              rw [w_ne (ψ := 0) (by decide)]
              by_cases e : u = t
              · subst e
                rw [w_row, w_col]
                obtain ⟨⟨a1, a2, a3, a4, a5, a6, a7, a8, a9, a10, a11, a12, a13, a14⟩, o⟩ := hTu
                exact ⟨by simp [relT, ur, a1, a2, a3, a4, a5, a6, a8, a9, a10, a11, a12, a13, a14], by simpa [okT, ur] using o⟩
              · rw [w_i e, w_col2 e]; exact hTu
            · intro c hc
              have := hC c hc
              rw [w_ne (by decide)]
              simp only [relC, relL, colK] at this ⊢
              simpa [wI, sm_up] using this
            · simpa [bV, wI, sm_up] using hV
            · simpa [bO, wI, sm_up] using hO
            · simpa [bS, wI, sm_up] using hS
            · simpa [bE, wI, sm_up] using hE
            · simpa [bH, wI, sm_up] using hH
        · exact Ok2.same (r := -3) h (by simp [f_X5_poison, hasT_yes h ht, g0, g1, g3]) (by simp [f_X6_poison, noT_no h ht, e_in, g0, g2, e1, g3])
      · have g2 : 1000 < v2 := by rw [i_le] at g1; rw [i_lt]; omega
        exact Ok2.same (r := -2) h (by simp [f_X5_poison, hasT_yes h ht, g0, g1, f_X5_poison_27]) (by simp [f_X6_poison, noT_no h ht, e_in, g2])
