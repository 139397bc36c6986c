/-- a new channel's fields -/
def nC (r : Nat → Int32) (v1 v2 v3 : Int32) : Nat → Int32 := ur (ur (ur (ur (ur (ur (ur (ur (ur (ur (ur r 1 v1) 2 v2) 3 v3) 4 0) 5 0) 6 0) 7 0) 9 0) 10 0) 11 0) 8 0
theorem e_cset {i : Nat} {v1 v2 v3 : Int32} {σ : sm_M} (hv : v3 = 0 ∨ v3 = 1) : f_X1_set i v1 v2 v3 σ = some (setR σ 5 i (nC (σ.1 5 i) v1 v2 v3)) := by
  simp only [f_X1_set, f_X1_keepAsMark, sI_s, sZ_s hv, Option.bind_some, wI_R, R_at, R_R]
  simp [nC, ur]
set_option maxHeartbeats 4000000 in
theorem ok_channel (v1 v2 v3 : Int32) (hv3 : v3 = 0 ∨ v3 = 1) : Ok2 (f_X5_channel v1 v2 v3) (f_X6_channel v1 v2 v3) := by
  intro n m σ τ h
  have hn := h.n16
  have hm := h.m40
  rcases v_cases v1 (n := n) (by omega) with hv | ⟨f0, hf0, rfl⟩
  · exact Ok2.same (r := -1) h (by simp [f_X5_channel, hasT_no h hv]) (by simp [f_X6_channel, noT_yes h hv])
  · rcases v_cases v2 (n := n) (by omega) with hv | ⟨g0, hg0, rfl⟩
    · exact Ok2.same (r := -1) h (by simp [f_X5_channel, hasT_yes h hf0, hasT_no h hv]) (by simp [f_X6_channel, noT_no h hf0, noT_yes h hv])
    · have e1 : τ.1 20 0 37 = σ.1 0 0 11 := h.2.1.2.2.2.2.1
      have e2 := h.1.2.2.2.1
      have e3 := h.1.2.2.2.2.2
      have t1 : τ.1 21 0 f0 = σ.1 4 f0 2 := (h.T hf0).1.1
      have t2 : τ.1 21 0 g0 = σ.1 4 g0 2 := (h.T hg0).1.1
      have p1 := aP_n (φ := 7) (j := f0) (by show f0 < 16; omega) (by omega)
      have p2 := aP_n (φ := 7) (j := g0) (by show g0 < 16; omega) (by omega)
      have q1 : aI 21 τ 0 (Int32.ofNat f0) = some (σ.1 4 f0 2) := by rw [aI_n (by show f0 < 16; omega) (by omega), t1]
      have q2 : aI 21 τ 0 (Int32.ofNat g0) = some (σ.1 4 g0 2) := by rw [aI_n (by show g0 < 16; omega) (by omega), t2]
      by_cases g1 : g0 ≤ f0
      · have y : Int32.ofNat g0 ≤ Int32.ofNat f0 := by rw [n_le (by omega) (by omega)]; exact g1
        exact Ok2.same (r := -2) h (by simp [f_X5_channel, hasT_yes h hf0, hasT_yes h hg0, y, f_X5_channel_60]) (by simp [f_X6_channel, noT_no h hf0, noT_no h hg0, y, f_X6_channel_42])
      · have y : ¬ Int32.ofNat g0 ≤ Int32.ofNat f0 := by rw [n_le (by omega) (by omega)]; exact g1
        by_cases g2 : σ.1 4 f0 2 = 5
        · exact Ok2.same (r := -2) h (by simp [f_X5_channel, hasT_yes h hf0, hasT_yes h hg0, y, f_X5_channel_60, p1, g2]) (by simp [f_X6_channel, noT_no h hf0, noT_no h hg0, y, f_X6_channel_42, q1, g2])
        · by_cases g3 : σ.1 4 g0 2 = 0
          · exact Ok2.same (r := -2) h (by simp [f_X5_channel, hasT_yes h hf0, hasT_yes h hg0, y, f_X5_channel_60, p1, p2, g2, g3]) (by simp [f_X6_channel, noT_no h hf0, noT_no h hg0, y, f_X6_channel_42, q1, q2, g2, g3])
          · by_cases g4 : σ.1 0 0 11 = 0
            · by_cases g5 : m = 40
              · have y1 : ¬ σ.1 1 0 3 < 40 := by rw [e2, g5]; decide
                have y2 : τ.1 20 0 14 = 40 := by rw [e3, g5]; rfl
                exact Ok2.same (r := -4) h (by simp [f_X5_channel, hasT_yes h hf0, hasT_yes h hg0, y, p1, p2, g2, g3, g4, y1]) (by simp [f_X6_channel, noT_no h hf0, noT_no h hg0, y, q1, q2, g2, g3, e1, g4, y2])
              · have y1 : σ.1 1 0 3 < 40 := by rw [e2, show (40 : Int32) = Int32.ofNat 40 from rfl, n_lt (by omega) (by omega)]; omega
                have y2 : ¬ τ.1 20 0 14 = 40 := by rw [e3, show (40 : Int32) = Int32.ofNat 40 from rfl, n_eq (by omega) (by omega)]; exact g5
                have u1 : ∀ (φ : Nat) (ρ : sm_M) (x : Int32), fL φ = 40 → uI φ ρ 0 (τ.1 20 0 14) x = some (wI ρ φ 0 m x) := fun φ ρ x hφ => by rw [e3]; exact uI_n (by rw [hφ]; omega) (by omega)
                have u2 : ∀ (φ : Nat) (ρ : sm_M) (x : Int32), fL φ = 40 → (x = 0 ∨ x = 1) → uZ φ ρ 0 (τ.1 20 0 14) x = some (wI ρ φ 0 m x) := fun φ ρ x hφ hx => by rw [e3]; exact uZ_n (by rw [hφ]; omega) (by omega) hx
                generalize hrow : nC (σ.1 5 m) (Int32.ofNat f0) (Int32.ofNat g0) v3 = rw5
                generalize hgv : σ.1 4 g0 5 ||| ((1 : Int32) <<< (Int32.ofNat f0 &&& 31)) = gv
                refine ⟨Int32.ofNat m, n, m + 1, wI (wI (setR σ 5 m rw5) 4 g0 5 gv) 1 0 3 (Int32.ofNat (m + 1)), wI (wI (wI (wI (wI (wI (wI (wI (wI (wI (wI (wI τ 34 0 m (Int32.ofNat f0)) 35 0 m (Int32.ofNat g0)) 36 0 m v3) 38 0 m 0) 39 0 m 0) 40 0 m 0) 41 0 m 0) 42 0 m 0) 47 0 m 0) 48 0 m 0) 49 0 m 0) 20 0 14 (Int32.ofNat (m + 1)), ?_, ?_, ?_⟩
                · have z1 : (wI (setR σ 5 m rw5) 4 g0 5 gv).1 1 0 3 = Int32.ofNat m := by rw [w_ne (by decide), R_ne (by decide)]; exact e2
                  have z4 : (setR σ 5 m rw5).1 4 g0 5 = σ.1 4 g0 5 := by rw [R_ne (by decide)]
                  have z2 : Int32.ofNat (m + 1) - 1 = Int32.ofNat m := by rw [← n_inc]; exact Int32.add_sub_cancel _ _
                  have z3 : f_X2_addChannel (Int32.ofNat f0) (Int32.ofNat g0) v3 σ = some (Int32.ofNat m, wI (wI (setR σ 5 m rw5) 4 g0 5 gv) 1 0 3 (Int32.ofNat (m + 1))) := by
                    simp only [f_X2_addChannel, e2, aP_n (φ := 8) (j := m) (by show m < 40; omega) (by omega), Option.bind_some, e_cset hv3, hrow, p2, sI_s, z4, hgv, z1, n_inc, w_eq, z2]
                  simp [f_X5_channel, hasT_yes h hf0, hasT_yes h hg0, y, p1, p2, g2, g3, g4, y1, z3]
                · rw [f_X6_channel, noT_no h hf0, Option.bind_some]
                  dsimp only
                  rw [if_pos rfl, noT_no h hg0, Option.bind_some]
                  dsimp only
                  rw [if_pos rfl, if_neg y, q1, Option.bind_some, if_neg g2, q2, Option.bind_some, if_neg g3, e1, if_pos g4, if_neg y2]
                  rw [u1 34 _ _ rfl, Option.bind_some, u1 35 _ _ rfl, Option.bind_some, u2 36 _ _ rfl hv3, Option.bind_some, u1 38 _ _ rfl, Option.bind_some, u1 39 _ _ rfl, Option.bind_some, u1 40 _ _ rfl, Option.bind_some, u1 41 _ _ rfl, Option.bind_some, u2 42 _ _ rfl z0, Option.bind_some, u1 47 _ _ rfl, Option.bind_some, u1 48 _ _ rfl, Option.bind_some, u1 49 _ _ rfl, Option.bind_some, sI_s, Option.bind_some]
                  simp only [w_ne (show (20 : Nat) ≠ 34 by decide), w_ne (show (20 : Nat) ≠ 35 by decide), w_ne (show (20 : Nat) ≠ 36 by decide), w_ne (show (20 : Nat) ≠ 38 by decide), w_ne (show (20 : Nat) ≠ 39 by decide), w_ne (show (20 : Nat) ≠ 40 by decide), w_ne (show (20 : Nat) ≠ 41 by decide), w_ne (show (20 : Nat) ≠ 42 by decide), w_ne (show (20 : Nat) ≠ 47 by decide), w_ne (show (20 : Nat) ≠ 48 by decide), w_ne (show (20 : Nat) ≠ 49 by decide), e3, n_inc]
                · obtain ⟨hN, hG, hB, hT, hC, hV, hO, hS, hE, hH⟩ := h
                  have s5 : ∀ c, c ≠ m → (wI (wI (setR σ 5 m rw5) 4 g0 5 gv) 1 0 3 (Int32.ofNat (m + 1))).1 5 c = σ.1 5 c := fun c hc => by rw [w_ne (by decide), w_ne (by decide), R_i hc]
                  have s5m : (wI (wI (setR σ 5 m rw5) 4 g0 5 gv) 1 0 3 (Int32.ofNat (m + 1))).1 5 m = rw5 := by rw [w_ne (by decide), w_ne (by decide), R_at]
                  have s4 : ∀ t, t ≠ g0 → (wI (wI (setR σ 5 m rw5) 4 g0 5 gv) 1 0 3 (Int32.ofNat (m + 1))).1 4 t = σ.1 4 t := fun t ht => by rw [w_ne (by decide), w_i ht, R_ne (by decide)]
                  have s4g : (wI (wI (setR σ 5 m rw5) 4 g0 5 gv) 1 0 3 (Int32.ofNat (m + 1))).1 4 g0 = ur (σ.1 4 g0) 5 gv := by rw [w_ne (by decide), w_row, R_ne (by decide)]
                  have s4k : ∀ t k, k ≠ 5 → (wI (wI (setR σ 5 m rw5) 4 g0 5 gv) 1 0 3 (Int32.ofNat (m + 1))).1 4 t k = σ.1 4 t k := fun t k hk => by
                    by_cases e : t = g0
                    · subst e; rw [s4g]; simp [ur, hk]
                    · rw [s4 t e]
                  have s0 : ∀ φ, φ ≠ 5 → φ ≠ 4 → φ ≠ 1 → (wI (wI (setR σ 5 m rw5) 4 g0 5 gv) 1 0 3 (Int32.ofNat (m + 1))).1 φ = σ.1 φ := fun φ a b d => by rw [w_ne d, w_ne b, R_ne a]
                  generalize hσ : wI (wI (setR σ 5 m rw5) 4 g0 5 gv) 1 0 3 (Int32.ofNat (m + 1)) = σ' at s5 s5m s4 s4g s4k s0 ⊢
                  have r1 : rw5 1 = Int32.ofNat f0 := by rw [← hrow]; simp [nC, ur]
                  have r2 : rw5 2 = Int32.ofNat g0 := by rw [← hrow]; simp [nC, ur]
                  refine ⟨?_, ?_, ?_, fun u hu => ?_, fun c hc => ?_, ⟨fun t k ht hk => ?_, fun t k ht hk => ?_, fun c k hc hk => ?_⟩, fun k hk => ?_, fun k hk => ?_, fun c f g hc w1 w2 hf hg2 => ?_, fun t f ht hf => ?_⟩
                  · rw [← hσ]
                    exact ⟨hn, by omega, by simp [wI, sm_up, setR, hN.2.2.1], by simp [wI, sm_up], by simp [wI, sm_up, hN.2.2.2.2.1], by simp [wI, sm_up]⟩
                  · have : bG σ τ := hG
                    rw [← hσ]
                    simpa [bG, wI, sm_up, setR] using this
                  · have : bB σ τ := hB
                    rw [← hσ]
                    simpa [bB, wI, sm_up, setR] using this
                  · rw [s0 0 (by decide) (by decide) (by decide)]
                    have hTu := hT u hu
                    simp only [relT, okT, colK, s4k u 2 (by decide), s4k u 3 (by decide), s4k u 4 (by decide), s4k u 6 (by decide), s4k u 7 (by decide), s4k u 8 (by decide), s4k u 9 (by decide), s4k u 10 (by decide), s4k u 11 (by decide), s4k u 12 (by decide), s4k u 13 (by decide), s4k u 14 (by decide), s4k u 15 (by decide), s4k u 16 (by decide)] at hTu ⊢
                    simpa [wI, sm_up] using hTu
                  · rw [s0 0 (by decide) (by decide) (by decide)]
                    by_cases e : c = m
                    · subst e
                      rw [s5m, ← hrow]
                      refine ⟨by simp [relC, relL, nC, ur, colK, wI, sm_up], ?_⟩
                      have a1 : (Int32.ofNat f0).toInt = f0 := i_of (by omega)
                      have a2 : (Int32.ofNat g0).toInt = g0 := i_of (by omega)
                      simp only [okC, nC, ur]
                      simp [a1, a2, hv3]
                      omega
                    · rw [s5 c e]
                      have hCc := hC c (by omega)
                      refine ⟨?_, hCc.2⟩
                      have := hCc.1
                      simp only [relC, relL, colK] at this ⊢
                      simpa [wI, sm_up, e] using this
                  · rw [s0 14 (by decide) (by decide) (by decide)]
                    rw [s4k t 13 (by decide)] at hk
                    simp [wI, sm_up]; exact hV.1 t k ht hk
                  · rw [s0 15 (by decide) (by decide) (by decide)]
                    rw [s4k t 10 (by decide)] at hk
                    simp [wI, sm_up]; exact hV.2.1 t k ht hk
                  · rw [s0 16 (by decide) (by decide) (by decide)]
                    by_cases e : c = m
                    · subst e; rw [s5m, ← hrow] at hk; simp [nC, ur] at hk; omega
                    · rw [s5 c e] at hk
                      simp [wI, sm_up]; exact hV.2.2 c k (by omega) hk
                  · rw [s0 6 (by decide) (by decide) (by decide)]
                    simp [wI, sm_up]; exact hO k hk
                  · rw [s0 3 (by decide) (by decide) (by decide)] at hk
                    rw [s0 11 (by decide) (by decide) (by decide), s0 12 (by decide) (by decide) (by decide), s0 13 (by decide) (by decide) (by decide)]
                    simp [wI, sm_up]; exact hS k hk
                  · rw [s4k f 2 (by decide), s4k g 2 (by decide)]
                    by_cases e : c = m
                    · subst e
                      rw [s5m, r1, n_eq (by omega) (by omega)] at w1
                      rw [s5m, r2, n_eq (by omega) (by omega)] at w2
                      subst w1; subst w2
                      exact ⟨g2, g3⟩
                    · rw [s5 c e] at w1 w2
                      exact hE c f g (by omega) w1 w2 hf hg2
                  · have hHt := hH t f ht hf
                    have key : (∃ c, c < m + 1 ∧ σ'.1 5 c 1 = Int32.ofNat f ∧ σ'.1 5 c 2 = Int32.ofNat t) ↔ ((∃ c, c < m ∧ σ.1 5 c 1 = Int32.ofNat f ∧ σ.1 5 c 2 = Int32.ofNat t) ∨ (f = f0 ∧ t = g0)) := by
                      constructor
                      · rintro ⟨c, hc, a1, a2⟩
                        by_cases e : c = m
                        · subst e
                          rw [s5m, r1, n_eq (by omega) (by omega)] at a1
                          rw [s5m, r2, n_eq (by omega) (by omega)] at a2
                          exact Or.inr ⟨a1.symm, a2.symm⟩
                        · rw [s5 c e] at a1 a2
                          exact Or.inl ⟨c, by omega, a1, a2⟩
                      · rintro (⟨c, hc, a1, a2⟩ | ⟨rfl, rfl⟩)
                        · exact ⟨c, by omega, by rw [s5 c (by omega)]; exact a1, by rw [s5 c (by omega)]; exact a2⟩
                        · exact ⟨m, by omega, by rw [s5m, r1], by rw [s5m, r2]⟩
                    rw [key, ← hHt]
                    by_cases e : t = g0
                    · subst e
                      rw [s4g]
                      have : ur (σ.1 4 t) 5 gv 5 = gv := by simp [ur]
                      rw [this, ← hgv, b_or, b_one (by omega) hf]
                      simp
                    · rw [s4 t e]; simp [e]
            · exact Ok2.same (r := -3) h (by simp [f_X5_channel, hasT_yes h hf0, hasT_yes h hg0, y, p1, p2, g2, g3, g4]) (by simp [f_X6_channel, noT_no h hf0, noT_no h hg0, y, q1, q2, g2, g3, e1, g4])
