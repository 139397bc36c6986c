/-! ===== task, channel ===== -/
def gd (v1 v2 : Int32) : Prop := (v1 = 0 ∧ 0 ≤ v2.toInt ∧ v2.toInt ≤ 20) ∨ (v1 = 1 ∧ -20 ≤ v2.toInt ∧ v2.toInt ≤ 20) ∨ (v1 = 2 ∧ 1 ≤ v2.toInt ∧ v2.toInt ≤ 5) ∨ (3 ≤ v1.toInt ∧ v1.toInt ≤ 5)
theorem mayBe_yes {v1 v2 : Int32} {σ : sm_M} (h : gd v1 v2) : f_X5_mayBe v1 v2 σ = some (1, σ) := by
  rcases h with ⟨rfl, h1, h2⟩ | ⟨rfl, h1, h2⟩ | ⟨rfl, h1, h2⟩ | ⟨h1, h2⟩
  · have a : ¬ v2 < 0 := by rw [i_lt]; simp; omega
    have b : ¬ 20 < v2 := by rw [i_lt]; simp; omega
    simp [f_X5_mayBe, a, b, f_X5_mayBe_43]
  · have a : ¬ v2 < -20 := by rw [i_lt]; simp; omega
    have b : ¬ 20 < v2 := by rw [i_lt]; simp; omega
    simp [f_X5_mayBe, a, b, f_X5_mayBe_61]
  · have a : ¬ v2 < 1 := by rw [i_lt]; simp; omega
    have b : ¬ 5 < v2 := by rw [i_lt]; simp; omega
    simp [f_X5_mayBe, a, b, f_X5_mayBe_77]
  · have a0 : ¬ v1 = 0 := by rintro rfl; simp at h1
    have a1 : ¬ v1 = 1 := by rintro rfl; simp at h1
    have a2 : ¬ v1 = 2 := by rintro rfl; simp at h1
    have a : ¬ v1 < 3 := by rw [i_lt]; simp; omega
    have b : ¬ 5 < v1 := by rw [i_lt]; simp; omega
    simp [f_X5_mayBe, a0, a1, a2, a, b, f_X5_mayBe_93]
theorem mayBe_no {v1 v2 : Int32} {σ : sm_M} (h : ¬ gd v1 v2) : f_X5_mayBe v1 v2 σ = some (0, σ) := by
  unfold gd at h
  simp only [not_or, not_and] at h
  obtain ⟨h0, h1, h2, h3⟩ := h
  by_cases a0 : v1 = 0
  · subst a0
    have := h0 rfl
    by_cases a : v2 < 0
    · simp [f_X5_mayBe, a, f_X5_mayBe_42, f_X5_mayBe_43]
    · have b : 20 < v2 := by rw [i_lt] at a ⊢; simp at a ⊢; omega
      simp [f_X5_mayBe, a, b, f_X5_mayBe_42, f_X5_mayBe_43]
  · by_cases a1 : v1 = 1
    · subst a1
      have := h1 rfl
      by_cases a : v2 < -20
      · simp [f_X5_mayBe, a, f_X5_mayBe_60, f_X5_mayBe_61]
      · have b : 20 < v2 := by rw [i_lt] at a ⊢; simp at a ⊢; omega
        simp [f_X5_mayBe, a, b, f_X5_mayBe_60, f_X5_mayBe_61]
    · by_cases a2 : v1 = 2
      · subst a2
        have := h2 rfl
        by_cases a : v2 < 1
        · simp [f_X5_mayBe, a, f_X5_mayBe_76, f_X5_mayBe_77]
        · have b : 5 < v2 := by rw [i_lt] at a ⊢; simp at a ⊢; omega
          simp [f_X5_mayBe, a, b, f_X5_mayBe_76, f_X5_mayBe_77]
      · by_cases a : v1 < 3
        · simp [f_X5_mayBe, a0, a1, a2, a, f_X5_mayBe_92, f_X5_mayBe_93]
        · have b : 5 < v1 := by
            rw [i_lt] at a ⊢; simp at a ⊢; omega
          simp [f_X5_mayBe, a0, a1, a2, a, b, f_X5_mayBe_92, f_X5_mayBe_93]
theorem mod_yes {v1 v2 v3 : Int32} {τ : sm_M} (h : gd v1 v2) (h1 : f_X6_noNode v3 τ = some (0, τ)) (h2 : aI 50 τ 0 v3 = some 0) : f_X6_task v1 v2 v3 τ = f_X6_task_81 v1 v2 v3 1 τ := by
  rcases h with ⟨rfl, h3, h4⟩ | ⟨rfl, h3, h4⟩ | ⟨rfl, h3, h4⟩ | ⟨h3, h4⟩
  · have a : ¬ v2 < 0 := by rw [i_lt]; simp; omega
    have b : ¬ 20 < v2 := by rw [i_lt]; simp; omega
    simp [f_X6_task, h1, h2, e_in, a, b, f_X6_task_46, f_X6_task_62, f_X6_task_76]
  · have a : ¬ v2 < -20 := by rw [i_lt]; simp; omega
    have b : ¬ 20 < v2 := by rw [i_lt]; simp; omega
    simp [f_X6_task, h1, h2, e_in, a, b, f_X6_task_46, f_X6_task_62, f_X6_task_76]
  · have a : ¬ v2 < 1 := by rw [i_lt]; simp; omega
    have b : ¬ 5 < v2 := by rw [i_lt]; simp; omega
    simp [f_X6_task, h1, h2, e_in, a, b, f_X6_task_46, f_X6_task_62, f_X6_task_76]
  · have a0 : ¬ v1 = 0 := by rintro rfl; simp at h3
    have a1 : ¬ v1 = 1 := by rintro rfl; simp at h3
    have a2 : ¬ v1 = 2 := by rintro rfl; simp at h3
    have a : ¬ v1 < 0 := by rw [i_lt]; simp; omega
    have b : ¬ 5 < v1 := by rw [i_lt]; simp; omega
    simp [f_X6_task, h1, h2, e_in, a, b, a0, a1, a2, f_X6_task_46, f_X6_task_62, f_X6_task_76]
theorem mod_no {v1 v2 v3 : Int32} {τ : sm_M} (h : ¬ gd v1 v2) (h1 : f_X6_noNode v3 τ = some (0, τ)) (h2 : aI 50 τ 0 v3 = some 0) : f_X6_task v1 v2 v3 τ = f_X6_task_81 v1 v2 v3 0 τ := by
  unfold gd at h
  simp only [not_or, not_and] at h
  obtain ⟨h0, h3, h4, h5⟩ := h
  by_cases a : v1 < 0
  · simp [f_X6_task, h1, h2, e_in, a, f_X6_task_80]
  · by_cases b : 5 < v1
    · simp [f_X6_task, h1, h2, e_in, b, f_X6_task_80]
    · by_cases a0 : v1 = 0
      · subst a0
        have := h0 rfl
        by_cases c : v2 < 0
        · simp [f_X6_task, h1, h2, e_in, c, f_X6_task_80]
        · have d : 20 < v2 := by rw [i_lt] at c ⊢; simp at c ⊢; omega
          simp [f_X6_task, h1, h2, e_in, c, d, f_X6_task_80]
      · by_cases a1 : v1 = 1
        · subst a1
          have := h3 rfl
          by_cases c : v2 < -20
          · simp [f_X6_task, h1, h2, e_in, c, f_X6_task_46, f_X6_task_80]
          · have d : 20 < v2 := by rw [i_lt] at c ⊢; simp at c ⊢; omega
            simp [f_X6_task, h1, h2, e_in, c, d, f_X6_task_46, f_X6_task_80]
        · by_cases a2 : v1 = 2
          · subst a2
            have := h4 rfl
            by_cases c : v2 < 1
            · simp [f_X6_task, h1, h2, e_in, c, f_X6_task_46, f_X6_task_62, f_X6_task_80]
            · have d : 5 < v2 := by rw [i_lt] at c ⊢; simp at c ⊢; omega
              simp [f_X6_task, h1, h2, e_in, c, d, f_X6_task_46, f_X6_task_62, f_X6_task_80]
          · exfalso
            rw [i_eq] at a0 a1 a2
            rw [i_lt] at a b
            simp at a0 a1 a2 a b
            omega
theorem noNode_yes {v : Int32} {τ : sm_M} (hv : v < 0 ∨ Int32.ofNat 4 ≤ v) : f_X6_noNode v τ = some (1, τ) := by
  have : v < 0 ∨ 3 < v := by
    rcases hv with h | h
    · exact Or.inl h
    · exact Or.inr (by rw [i_le] at h; rw [i_lt]; simp at h ⊢; omega)
  simp [f_X6_noNode, e_in, this, f_X6_noNode_14]
theorem noNode_no {j : Nat} {τ : sm_M} (hj : j < 4) : f_X6_noNode (Int32.ofNat j) τ = some (0, τ) := by
  have a : ¬ 3 < Int32.ofNat j := by rw [i_lt, i_of (by omega)]; simp; omega
  simp [f_X6_noNode, e_in, n_pos (j := j) (by omega), a, f_X6_noNode_14]
theorem isNode_no {v : Int32} {σ : sm_M} (hv : v < 0 ∨ Int32.ofNat 4 ≤ v) : f_X5_isNode v σ = some (0, σ) := by
  by_cases h : v < 0
  · simp [f_X5_isNode, h, f_X5_isNode_13, f_X5_isNode_14]
  · have h2 : (4 : Int32) ≤ v := hv.resolve_left h
    simp [f_X5_isNode, h, h2, f_X5_isNode_13, f_X5_isNode_14]
theorem isNode_yes {j : Nat} {σ : sm_M} (hj : j < 4) : f_X5_isNode (Int32.ofNat j) σ = some (1, σ) := by
  have a : ¬ 4 ≤ Int32.ofNat j := by rw [i_le, i_of (by omega)]; simp; omega
  simp [f_X5_isNode, n_pos (j := j) (by omega), a, f_X5_isNode_14]
/-- a new task's fields -/
def nT (r : Nat → Int32) (v1 v2 v3 : Int32) : Nat → Int32 := ur (ur (ur (ur (ur (ur (ur (ur (ur (ur (ur (ur (ur (ur (ur r 2 v1) 3 v2) 4 v3) 5 0) 6 1001) 7 8) 8 0) 9 0) 10 0) 11 0) 12 0) 13 0) 14 0) 15 0) 16 0
theorem e_set {i : Nat} {v1 v2 v3 : Int32} {σ : sm_M} : f_X4_set i v1 v2 v3 σ = some (setR σ 4 i (nT (σ.1 4 i) v1 v2 v3)) := by
  simp only [f_X4_set, f_X4_keepAsMark, sI_s, Option.bind_some, wI_R, R_at, R_R]
  simp [nT, ur]
theorem okC.more {n n' : Nat} {e : Int32} {r : Nat → Int32} (h : okC n e r) (hn : n ≤ n') : okC n' e r := by
  obtain ⟨a1, a⟩ := h
  exact ⟨⟨a1.1, a1.2.1, by omega⟩, a⟩
theorem ok_task (v1 v2 v3 : Int32) : Ok2 (f_X5_task v1 v2 v3) (f_X6_task v1 v2 v3) := by
  intro n m σ τ h
  have hn := h.n16
  have hm := h.m40
  rcases v_cases v3 (n := 4) (by omega) with hv | ⟨j, hj, rfl⟩
  · exact Ok2.same (r := -1) h (by simp [f_X5_task, isNode_no hv]) (by simp [f_X6_task, noNode_yes hv])
  · rcases h.O j hj with ⟨o1, o2⟩ | ⟨o1, o2⟩
    · have x1 : aI 6 σ 0 (Int32.ofNat j) = some 1 := by rw [aI_n (by show j < 4; omega) (by omega), o1]
      have x2 : aI 50 τ 0 (Int32.ofNat j) = some 0 := by rw [aI_n (by show j < 4; omega) (by omega), o2]
      by_cases hg : gd v1 v2
      · have e1 : τ.1 20 0 37 = σ.1 0 0 11 := h.2.1.2.2.2.2.1
        have e2 := h.1.2.2.1
        have e3 := h.1.2.2.2.2.1
        by_cases g3 : σ.1 0 0 11 = 0
        · by_cases g4 : n = 16
          · have y1 : ¬ σ.1 1 0 2 < 16 := by rw [e2, g4]; decide
            have y2 : τ.1 20 0 0 = 16 := by rw [e3, g4]; rfl
            exact Ok2.same (r := -4) h (by simp [f_X5_task, isNode_yes hj, x1, mayBe_yes hg, g3, y1]) (by rw [mod_yes hg (noNode_no hj) x2]; simp [f_X6_task_81, e1, g3, y2])
          · have y1 : σ.1 1 0 2 < 16 := by rw [e2, show (16 : Int32) = Int32.ofNat 16 from rfl, n_lt (by omega) (by omega)]; omega
            have y2 : ¬ τ.1 20 0 0 = 16 := by rw [e3, show (16 : Int32) = Int32.ofNat 16 from rfl, n_eq (by omega) (by omega)]; exact g4
            have u1 : ∀ (φ : Nat) (ρ : sm_M) (x : Int32), fL φ = 16 → uI φ ρ 0 (τ.1 20 0 0) x = some (wI ρ φ 0 n x) := fun φ ρ x hφ => by rw [e3]; exact uI_n (by rw [hφ]; omega) (by omega)
            refine ⟨Int32.ofNat n, n + 1, m, wI (setR σ 4 n (nT (σ.1 4 n) v1 v2 (Int32.ofNat j))) 1 0 2 (Int32.ofNat (n + 1)), wI (wI (wI (wI (wI (wI (wI (wI (wI (wI (wI (wI (wI (wI (wI τ 21 0 n v1) 22 0 n v2) 23 0 n (Int32.ofNat j)) 24 0 n 0) 25 0 n 0) 26 0 n 0) 28 0 n 1001) 29 0 n 8) 30 0 n 0) 31 0 n 0) 32 0 n 0) 44 0 n 0) 45 0 n 0) 46 0 n 0) 20 0 0 (Int32.ofNat (n + 1)), ?_, ?_, ?_⟩
            · have z1 : (setR σ 4 n (nT (σ.1 4 n) v1 v2 (Int32.ofNat j))).1 1 0 2 = Int32.ofNat n := by rw [R_ne (by decide)]; exact e2
              have z2 : Int32.ofNat (n + 1) - 1 = Int32.ofNat n := by rw [← n_inc]; exact Int32.add_sub_cancel _ _
              have z3 : f_X2_addTask v1 v2 (Int32.ofNat j) σ = some (Int32.ofNat n, wI (setR σ 4 n (nT (σ.1 4 n) v1 v2 (Int32.ofNat j))) 1 0 2 (Int32.ofNat (n + 1))) := by
                simp only [f_X2_addTask, e2, aP_n (φ := 7) (j := n) (by show n < 16; omega) (by omega), Option.bind_some, e_set, sI_s, z1, n_inc, w_eq, z2]
              simp [f_X5_task, isNode_yes hj, x1, mayBe_yes hg, g3, y1, z3]
            · rw [mod_yes hg (noNode_no hj) x2]
              simp only [f_X6_task_81, e1, if_pos g3, if_neg y2, u1 21 _ _ rfl, u1 22 _ _ rfl, u1 23 _ _ rfl, u1 24 _ _ rfl, u1 25 _ _ rfl, u1 26 _ _ rfl, u1 28 _ _ rfl, u1 29 _ _ rfl, u1 30 _ _ rfl, u1 31 _ _ rfl, u1 32 _ _ rfl, u1 44 _ _ rfl, u1 45 _ _ rfl, u1 46 _ _ rfl, Option.bind_some, sI_s]
              simp [wI, sm_up, e3]
            · obtain ⟨hN, hG, hB, hT, hC, hV, hO, hS, hE, hH⟩ := h
              have hcn : ∀ c, c < m → ∀ g : Nat, σ.1 5 c 2 = Int32.ofNat g → g < 2147483648 → g < n := fun c hc g hg2 hb => by
                have := (hC c hc).2.1.2.2
                rw [hg2, i_of hb] at this; omega
              have hcf : ∀ c, c < m → ∀ g : Nat, σ.1 5 c 1 = Int32.ofNat g → g < 2147483648 → g < n := fun c hc g hg2 hb => by
                have := (hC c hc).2.1
                rw [hg2, i_of hb] at this; omega
              have s4 : ∀ t, t ≠ n → (wI (setR σ 4 n (nT (σ.1 4 n) v1 v2 (Int32.ofNat j))) 1 0 2 (Int32.ofNat (n + 1))).1 4 t = σ.1 4 t := fun t ht => by rw [w_ne (by decide), R_i ht]
              have s4n : (wI (setR σ 4 n (nT (σ.1 4 n) v1 v2 (Int32.ofNat j))) 1 0 2 (Int32.ofNat (n + 1))).1 4 n = nT (σ.1 4 n) v1 v2 (Int32.ofNat j) := by rw [w_ne (by decide), R_at]
              have s5 : ∀ φ, φ ≠ 4 → φ ≠ 1 → (wI (setR σ 4 n (nT (σ.1 4 n) v1 v2 (Int32.ofNat j))) 1 0 2 (Int32.ofNat (n + 1))).1 φ = σ.1 φ := fun φ a b => by rw [w_ne b, R_ne a]
              generalize hσ : wI (setR σ 4 n (nT (σ.1 4 n) v1 v2 (Int32.ofNat j))) 1 0 2 (Int32.ofNat (n + 1)) = σ' at s4 s4n s5 ⊢
              refine ⟨?_, ?_, ?_, fun u hu => ?_, fun c hc => ?_, ⟨fun t k ht hk => ?_, fun t k ht hk => ?_, fun c k hc hk => ?_⟩, fun k hk => ?_, fun k hk => ?_, fun c f g hc e1 e2 hf hg2 => ?_, fun t f ht hf => ?_⟩
              · rw [← hσ]
                exact ⟨by omega, hm, by simp [wI, sm_up], by simp [wI, sm_up, setR, hN.2.2.2.1], by simp [wI, sm_up], by simp [wI, sm_up, hN.2.2.2.2.2]⟩
              · have : bG σ τ := hG
                rw [← hσ]
                simpa [bG, wI, sm_up, setR] using this
              · have : bB σ τ := hB
                rw [← hσ]
                simpa [bB, wI, sm_up, setR] using this
              · by_cases e : u = n
                · subst e
                  rw [s4n, s5 0 (by decide) (by decide)]
                  refine ⟨by simp [relT, nT, ur, colK, wI, sm_up], ?_⟩
                  have hj3 : (Int32.ofNat j).toInt = j := i_of (by omega)
                  simp only [okT, nT, ur]
                  rcases hg with ⟨rfl, g1, g2⟩ | ⟨rfl, g1, g2⟩ | ⟨rfl, g1, g2⟩ | ⟨g1, g2⟩
                  · simp [hj3]; omega
                  · simp [hj3]; omega
                  · simp [hj3]; omega
                  · have a0 : ¬ v1 = 0 := by rintro rfl; simp at g1
                    have a2 : ¬ v1 = 2 := by rintro rfl; simp at g1
                    simp [hj3, a0, a2]; omega
                · rw [s4 u e, s5 0 (by decide) (by decide)]
                  have hTu := hT u (by omega)
                  refine ⟨?_, hTu.2⟩
                  have := hTu.1
                  simp only [relT, colK] at this ⊢
                  simpa [wI, sm_up, e] using this
              · rw [s5 5 (by decide) (by decide), s5 0 (by decide) (by decide)]
                have hCc := hC c hc
                refine ⟨?_, hCc.2.more (by omega)⟩
                have := hCc.1
                simp only [relC, relL, colK] at this ⊢
                simpa [wI, sm_up] using this
              · rw [s5 14 (by decide) (by decide)]
                by_cases e : t = n
                · subst e; rw [s4n] at hk; simp [nT, ur] at hk; omega
                · rw [s4 t e] at hk
                  simp [wI, sm_up]; exact hV.1 t k (by omega) hk
              · rw [s5 15 (by decide) (by decide)]
                by_cases e : t = n
                · subst e; rw [s4n] at hk; simp [nT, ur] at hk; omega
                · rw [s4 t e] at hk
                  simp [wI, sm_up]; exact hV.2.1 t k (by omega) hk
              · rw [s5 16 (by decide) (by decide)]
                rw [s5 5 (by decide) (by decide)] at hk
                simp [wI, sm_up]; exact hV.2.2 c k hc hk
              · rw [s5 6 (by decide) (by decide)]
                simp [wI, sm_up]; exact hO k hk
              · rw [s5 3 (by decide) (by decide)] at hk
                rw [s5 11 (by decide) (by decide), s5 12 (by decide) (by decide), s5 13 (by decide) (by decide)]
                simp [wI, sm_up]; exact hS k hk
              · rw [s5 5 (by decide) (by decide)] at e1 e2
                rw [s4 f (by have := hcf c hc f e1 (by omega); omega), s4 g (by have := hcn c hc g e2 (by omega); omega)]
                exact hE c f g hc e1 e2 hf hg2
              · rw [s5 5 (by decide) (by decide)]
                by_cases e : t = n
                · subst e
                  rw [s4n]
                  have : nT (σ.1 4 t) v1 v2 (Int32.ofNat j) 5 = 0 := by simp [nT, ur]
                  rw [this, b_0]
                  constructor
                  · intro q; cases q
                  · rintro ⟨c, hc, -, q2⟩
                    exact absurd (hcn c hc t q2 (by omega)) (by omega)
                · rw [s4 t e]; exact hH t f (by omega) hf
        · exact Ok2.same (r := -3) h (by simp [f_X5_task, isNode_yes hj, x1, mayBe_yes hg, g3]) (by rw [mod_yes hg (noNode_no hj) x2]; simp [f_X6_task_81, e1, g3])
      · exact Ok2.same (r := -2) h (by simp [f_X5_task, isNode_yes hj, x1, mayBe_no hg]) (by rw [mod_no hg (noNode_no hj) x2]; simp [f_X6_task_81])
    · have x1 : aI 6 σ 0 (Int32.ofNat j) = some 0 := by rw [aI_n (by show j < 4; omega) (by omega), o1]
      have x2 : aI 50 τ 0 (Int32.ofNat j) = some 1 := by rw [aI_n (by show j < 4; omega) (by omega), o2]
      exact Ok2.same (r := -1) h (by simp [f_X5_task, isNode_yes hj, x1]) (by simp [f_X6_task, noNode_no hj, x2])
