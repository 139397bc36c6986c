theorem colK_map {τ : sm_M} {P : Nat → Bool} {i : Nat} {g : Nat → Nat → Int32} : colK (mapK τ P i g) i = colK τ i := by
  funext φ; unfold colK; rw [mapK_ge (Nat.lt_irrefl i)]
theorem e_mark1 {n : Nat} {τ : sm_M} (hn : n ≤ 16) (e1 : τ.1 20 0 0 = Int32.ofNat n) : f_X6_mark_19 1000 0 τ = f_X6_mark_69 (mapK τ isT n (fun j => mkT' (colK τ j))) := by
  obtain ⟨s', h1, h2⟩ := loopE (F := fun f v (s : sm_M) => f_X6_mark_19 f v s) (X := f_X6_mark_69) (N := n) (by omega) (fun i s => s = mapK τ isT i (fun j => mkT' (colK τ j)))
    (fun f i s hi hp => by
      subst hp
      refine ⟨_, rfl, ?_⟩
      show f_X6_mark_19 (f + 1) (Int32.ofNat i) _ = _
      have a1 : ∀ (φ : Nat) (ρ : sm_M), fL φ = 16 → aI φ ρ 0 (Int32.ofNat i) = some (ρ.1 φ 0 i) := fun φ ρ hφ => aI_n (by rw [hφ]; omega) (by omega)
      have u1 : ∀ (φ : Nat) (ρ : sm_M) (x : Int32), fL φ = 16 → uI φ ρ 0 (Int32.ofNat i) x = some (wI ρ φ 0 i x) := fun φ ρ x hφ => uI_n (by rw [hφ]; omega) (by omega)
      rw [f_X6_mark_19, mapK_ne rfl, e1, if_neg (by rw [n_le (by omega) (by omega)]; omega), a1 24 _ rfl, Option.bind_some, u1 44 _ _ rfl, Option.bind_some, a1 25 _ rfl, Option.bind_some, u1 45 _ _ rfl, Option.bind_some, a1 26 _ rfl, Option.bind_some, u1 46 _ _ rfl, Option.bind_some, n_inc, wI_K (P := isT) (φ := 44) rfl, K_at rfl, K_w rfl, K_at rfl, K_w rfl, ← mapK_s]
      congr 2
      rw [colK_map]
      simp [mkT', ur, colK, mapK_ge])
    (fun f s hp => by
      subst hp
      show f_X6_mark_19 (f + 1) (Int32.ofNat n) _ = _
      rw [f_X6_mark_19, mapK_ne rfl, e1, if_pos (by rw [n_le (by omega) (by omega)]; omega)]) τ mapK_0.symm
  rw [h1] at h2; exact h2
theorem e_mark2 {m : Nat} {τ : sm_M} (hm : m ≤ 40) (e1 : τ.1 20 0 14 = Int32.ofNat m) : f_X6_mark_69 τ = f_X6_mark_128 (mapK τ isC m (fun j => mkC' (colK τ j))) := by
  obtain ⟨s', h1, h2⟩ := loopE (F := fun f v (s : sm_M) => f_X6_mark_71 f v s) (X := f_X6_mark_128) (N := m) (by omega) (fun i s => s = mapK τ isC i (fun j => mkC' (colK τ j)))
    (fun f i s hi hp => by
      subst hp
      refine ⟨_, rfl, ?_⟩
      show f_X6_mark_71 (f + 1) (Int32.ofNat i) _ = _
      have a1 : ∀ (φ : Nat) (ρ : sm_M), fL φ = 40 → aI φ ρ 0 (Int32.ofNat i) = some (ρ.1 φ 0 i) := fun φ ρ hφ => aI_n (by rw [hφ]; omega) (by omega)
      have u1 : ∀ (φ : Nat) (ρ : sm_M) (x : Int32), fL φ = 40 → uI φ ρ 0 (Int32.ofNat i) x = some (wI ρ φ 0 i x) := fun φ ρ x hφ => uI_n (by rw [hφ]; omega) (by omega)
      have u2 : ∀ (φ : Nat) (ρ : sm_M) (x : Int32), fL φ = 40 → (x = 0 ∨ x = 1) → uZ φ ρ 0 (Int32.ofNat i) x = some (wI ρ φ 0 i x) := fun φ ρ x hφ hx => uZ_n (by rw [hφ]; omega) (by omega) hx
      rw [f_X6_mark_71, mapK_ne rfl, e1, if_neg (by rw [n_le (by omega) (by omega)]; omega), a1 38 _ rfl, Option.bind_some, u1 47 _ _ rfl, Option.bind_some, a1 39 _ rfl, Option.bind_some, u1 48 _ _ rfl, Option.bind_some, a1 40 _ rfl, Option.bind_some, u1 49 _ _ rfl, Option.bind_some, u2 42 _ _ rfl z0, Option.bind_some, n_inc, wI_K (P := isC) (φ := 47) rfl, K_at rfl, K_w rfl, K_at rfl, K_w rfl, K_w rfl, ← mapK_s]
      congr 2
      rw [colK_map]
      simp [mkC', ur, colK, mapK_ge])
    (fun f s hp => by
      subst hp
      show f_X6_mark_71 (f + 1) (Int32.ofNat m) _ = _
      rw [f_X6_mark_71, mapK_ne rfl, e1, if_pos (by rw [n_le (by omega) (by omega)]; omega)]) τ mapK_0.symm
  rw [h1] at h2; exact h2
theorem relT_mk {r q : Nat → Int32} (h : relT r q) : relT (mkT r) (mkT' q) := by
  obtain ⟨a1, a2, a3, a4, a5, a6, a7, a8, a9, a10, a11, a12, a13, a14⟩ := h
  simp [relT, mkT, mkT', ur, a1, a2, a3, a4, a5, a6, a7, a8, a9, a10, a11]
theorem relC_mk {r q : Nat → Int32} (h : relC r q) : relC (mkC r) (mkC' q) := by
  obtain ⟨a1, a2, a3, a4, a5, a6, a7, a8, a9, a10, a11⟩ := h
  simp [relC, relL, mkC, mkC', ur, a1, a2, a3, a4, a5, a6, a7]
theorem okT_mk {e : Int32} {r : Nat → Int32} (h : okT e r) : okT e (mkT r) := by
  obtain ⟨a1, a2, a3, a4, a5, a6, a7, a8, a9⟩ := h
  refine ⟨a1, fun h => ?_, a3, a4, a5, a6, a7, a8, ?_⟩
  · have := a2 h
    simp [mkT, ur]; omega
  · simp [mkT, ur]; omega
theorem okC_mk {n : Nat} {e : Int32} {r : Nat → Int32} (h : okC n e r) : okC n e (mkC r) := by
  obtain ⟨a1, a2, a3, a4, a5, a6, a7, a8, a9⟩ := h
  refine ⟨a1, a2, a3, a4, a5, ?_, ?_, ?_, ?_⟩
  · simp [mkC, ur]; omega
  · simp [mkC, ur]; omega
  · simp [mkC, ur]
  · simp [mkC, ur]
theorem ok_mark : Ok2 f_X5_mark f_X6_mark := by
  intro n m σ τ h
  have hn := h.n16
  have hm := h.m40
  have e1 : τ.1 20 0 43 = σ.1 0 0 12 := h.2.1.2.2.2.2.2.2.2.1
  have w1 := e_cW h
  have w2 := e_cW' h
  generalize hw : cN (fun t => decide ((σ.1 0 0 6).toInt < (σ.1 4 t 9).toInt)) n = w at w1 w2
  have hwn : w ≤ n := by rw [← hw]; exact cN_le _ _
  by_cases g : σ.1 0 0 12 = 0
  · by_cases g2 : w = 0
    · have y1 : Int32.ofNat w ≤ 0 := by rw [g2]; decide
      have y2 : ¬ 0 < Int32.ofNat w := by rw [g2]; decide
      have k1 := e_keep hn hm h.1.2.2.1 h.1.2.2.2.1
      have k2 := e_mark1 hn h.1.2.2.2.2.1
      generalize hσ : mapR (mapR σ 4 n (fun j => mkT (σ.1 4 j))) 5 m (fun j => mkC (σ.1 5 j)) = σ2 at k1
      have k3 := e_mark2 (τ := mapK τ isT n (fun j => mkT' (colK τ j))) hm (by rw [mapK_ne rfl]; exact h.1.2.2.2.2.2)
      have hcol : ∀ j, (fun j => mkC' (colK (mapK τ isT n (fun j => mkT' (colK τ j))) j)) j = mkC' (colK (mapK τ isT n (fun j => mkT' (colK τ j))) j) := fun _ => rfl
      generalize hτ : mapK (mapK τ isT n (fun j => mkT' (colK τ j))) isC m (fun j => mkC' (colK (mapK τ isT n (fun j => mkT' (colK τ j))) j)) = τ2 at k3
      have s0 : ∀ φ, φ ≠ 4 → φ ≠ 5 → σ2.1 φ = σ.1 φ := fun φ a b => by rw [← hσ, mapR_ne b, mapR_ne a]
      have t0 : ∀ φ, isT φ = false → isC φ = false → τ2.1 φ = τ.1 φ := fun φ a b => by rw [← hτ, mapK_ne b, mapK_ne a]
      have s4 : ∀ t, t < n → σ2.1 4 t = mkT (σ.1 4 t) := fun t ht => by rw [← hσ, mapR_ne (by decide), mapR_at ht]
      have s5 : ∀ t, t < m → σ2.1 5 t = mkC (σ.1 5 t) := fun t ht => by rw [← hσ, mapR_at ht]
      have t4 : ∀ t, t < n → ∀ φ, isT φ = true → isC φ = false → τ2.1 φ 0 t = mkT' (colK τ t) φ := fun t ht φ a b => by rw [← hτ, mapK_ne b, mapK_at a ht]
      have t5 : ∀ t, t < m → ∀ φ, isC φ = true → isT φ = false → τ2.1 φ 0 t = mkC' (colK τ t) φ := fun t ht φ a b => by
        rw [← hτ, mapK_at a ht]
        have hc : ∀ φ, isT φ = false → colK (mapK τ isT n (fun j => mkT' (colK τ j))) t φ = colK τ t φ := fun φ h => by unfold colK; rw [mapK_ne h]
        have : ∀ φ, isC φ = true → isT φ = false → mkC' (colK (mapK τ isT n (fun j => mkT' (colK τ j))) t) φ = mkC' (colK τ t) φ := fun φ _ hf => by
          unfold mkC' ur
          rw [hc 38 rfl, hc 39 rfl, hc 40 rfl, hc φ hf]
        exact this φ a b
      have dis1 : ∀ φ, isT φ = true → isC φ = false := fun φ hφ => by
        unfold isT at hφ; unfold isC
        simp only [Bool.or_eq_true, Bool.and_eq_true, decide_eq_true_eq, beq_iff_eq] at hφ
        simp only [Bool.or_eq_false_iff, Bool.and_eq_false_iff, decide_eq_false_iff_not]
        omega
      have dis2 : ∀ φ, isC φ = true → isT φ = false := fun φ hφ => by
        unfold isC at hφ; unfold isT
        simp only [Bool.or_eq_true, Bool.and_eq_true, decide_eq_true_eq] at hφ
        simp only [Bool.or_eq_false_iff, Bool.and_eq_false_iff, decide_eq_false_iff_not, beq_eq_false_iff_ne, ne_eq]
        omega
      have e38 : τ.1 20 0 38 = σ.1 0 0 8 := h.2.1.2.2.2.2.2.1
      refine ⟨σ.1 0 0 8 + 1, n, m, wI σ2 0 0 8 (σ.1 0 0 8 + 1), wI τ2 20 0 38 (σ.1 0 0 8 + 1), ?_, ?_, ?_⟩
      · simp only [f_X5_mark, if_pos g, w1, Option.bind_some, if_pos y1, k1, sI_s, s0 0 (by decide) (by decide), w_eq]
      · simp only [f_X6_mark, w2, Option.bind_some, if_neg y2, e1, if_pos g, k2, k3, f_X6_mark_128, sI_s, w_eq, t0 20 rfl rfl, e38]
      · refine h.upd (fun φ a _ b d _ _ => by rw [w_ne a, s0 φ b d]) ⟨?_, ?_, ?_, ?_, ?_, ?_, ?_⟩ ⟨?_, ?_⟩ ?_ ?_ (fun t ht => ?_) (fun c hc => ?_) (fun t ht => ?_) (fun c hc => ?_)
        · rw [w_ne (by decide), t0 27 rfl rfl]
        · rw [w_ne (by decide), t0 33 rfl rfl]
        · rw [w_ne (by decide), t0 37 rfl rfl]
        · rw [w_ne (by decide), t0 50 rfl rfl]
        · rw [w_ne (by decide), t0 51 rfl rfl]
        · rw [w_ne (by decide), t0 52 rfl rfl]
        · rw [w_ne (by decide), t0 53 rfl rfl]
        · rw [w_k (by decide), t0 20 rfl rfl]
        · rw [w_k (by decide), t0 20 rfl rfl]
        · have hG := h.2.1
          have q0 := s0 0 (by decide) (by decide)
          have q3 := s0 3 (by decide) (by decide)
          have q20 := t0 20 rfl rfl
          have q2 : σ2.2 = σ.2 := by rw [← hσ]; rfl
          simp [bG, wI, sm_up, q0, q3, q20, q2] at hG ⊢
          exact ⟨hG.1, hG.2.1, hG.2.2.1, hG.2.2.2.1, hG.2.2.2.2.1, hG.2.2.2.2.2.2⟩
        · have hB := h.2.2.1
          have q0 := s0 0 (by decide) (by decide)
          have q3 := s0 3 (by decide) (by decide)
          have q20 := t0 20 rfl rfl
          simpa [bB, wI, sm_up, q0, q3, q20] using hB
        · rw [w_ne (ψ := 4) (by decide), s4 t ht, w_k (by decide), s0 0 (by decide) (by decide)]
          refine ⟨relT_congr (fun φ hφ => ?_) (relT_mk (h.T ht).1), okT_mk (h.T ht).2⟩
          show (wI τ2 20 0 38 _).1 φ 0 t = _
          rw [w_ne (by rintro rfl; cases hφ), t4 t ht φ hφ (dis1 φ hφ)]
        · rw [w_ne (ψ := 5) (by decide), s5 c hc, w_k (by decide), s0 0 (by decide) (by decide)]
          refine ⟨relC_congr (fun φ hφ => ?_) (relC_mk (h.C hc).1), okC_mk (h.C hc).2⟩
          show (wI τ2 20 0 38 _).1 φ 0 c = _
          rw [w_ne (by rintro rfl; cases hφ), t5 c hc φ hφ (dis2 φ hφ)]
        · rw [w_ne (ψ := 4) (by decide), s4 t ht]; simp [mkT, ur]
        · rw [w_ne (ψ := 5) (by decide), s5 c hc]; simp [mkC, ur]
    · have y1 : ¬ Int32.ofNat w ≤ 0 := by rw [show (0 : Int32) = Int32.ofNat 0 from rfl, n_le (by omega) (by omega)]; omega
      have y2 : 0 < Int32.ofNat w := by rw [show (0 : Int32) = Int32.ofNat 0 from rfl, n_lt (by omega) (by omega)]; omega
      exact Ok2.same (r := -3) h (by simp [f_X5_mark, g, w1, y1, f_X5_mark_21]) (by simp [f_X6_mark, w2, y2, f_X6_mark_14])
  · refine Ok2.same (r := -3) h (by simp [f_X5_mark, g, f_X5_mark_21]) ?_
    by_cases y : 0 < Int32.ofNat w
    · simp [f_X6_mark, w2, y, f_X6_mark_14]
    · simp [f_X6_mark, w2, y, e1, g, f_X6_mark_14]
