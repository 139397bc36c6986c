/-! ===== a step, alike ===== -/
section T7
variable {n m t : Nat} {σ τ ρ ς : sm_M} {e0 v x : Int32}
theorem Rl.begun (h : Rl n m e0 σ τ) : Rl n m e0 (wI σ 0 0 11 1) (wI τ 20 0 37 1) := by
  have t20 : ∀ k, k ≠ 37 → (wI τ 20 0 37 1).1 20 0 k = τ.1 20 0 k := fun k hk => w_k hk
  have s0 : ∀ k, k ≠ 11 → (wI σ 0 0 11 1).1 0 0 k = σ.1 0 0 k := fun k hk => w_k hk
  have s3 : (wI σ 0 0 11 1).1 3 = σ.1 3 := w_ne (by decide)
  refine h.glob (fun φ a _ _ _ => by rw [w_ne a]) (fun φ a _ => by rw [w_ne (by omega)]) ⟨t20 0 (by decide), t20 14 (by decide)⟩ ?_ ?_ (Or.inl rfl)
  · obtain ⟨g1, g2, g3, g4, g5, g6, g7, g8, g9, g10⟩ := h.2.1
    refine ⟨?_, ?_, ?_, ?_, ?_, ?_, ?_, ?_, ?_, ?_⟩
    · rw [t20 32 (by decide), s0 4 (by decide)]; exact g1
    · rw [t20 33 (by decide), s0 5 (by decide)]; exact g2
    · rw [t20 35 (by decide), s0 6 (by decide)]; exact g3
    · rw [t20 36 (by decide), s0 9 (by decide)]; exact g4
    · rw [w_eq, w_eq]
    · rw [t20 38 (by decide), s0 8 (by decide)]; exact g6
    · rw [t20 39 (by decide), s3]; exact g7
    · rw [t20 43 (by decide), s0 12 (by decide)]; exact g8
    · rw [t20 44 (by decide), s0 10 (by decide)]; exact g9
    · rw [t20 34 (by decide)]; exact g10
  · obtain ⟨g1, g2, g3, g4, g5, g6, g7⟩ := h.2.2.1
    refine ⟨?_, ?_, ?_, ?_, ?_, ?_, ?_⟩
    · rw [s0 4 (by decide)]; exact g1
    · rw [s0 5 (by decide)]; exact g2
    · rw [w_eq]; exact z1
    · rw [s0 12 (by decide)]; exact g4
    · rw [s0 6 (by decide)]; exact g5
    · rw [s3]; exact g6
    · rw [t20 34 (by decide)]; exact g7
theorem e_wst (h : Rl n m e0 σ τ) (ht : t < n) : ∃ w : Int32, f_X4_waitsStill t (σ.1 0 0 6) σ = some (w, σ) ∧ (w ≤ 0 ↔ (σ.1 4 t 9).toInt ≤ (σ.1 0 0 6).toInt) := by
  have o9 := (h.T ht).2.2.2.2.2.2.2.1
  have oT := h.2.2.1.2.2.2.2.1
  have e : (σ.1 4 t 9 - σ.1 0 0 6).toInt = (σ.1 4 t 9).toInt - (σ.1 0 0 6).toInt := i_sub (by omega) (by omega)
  have z : (0 : Int32).toInt = 0 := rfl
  refine ⟨_, rfl, ?_⟩
  by_cases g : (0 : Int32) < σ.1 4 t 9 - σ.1 0 0 6
  · rw [if_pos g, i_le, e, z]
    rw [i_lt, e, z] at g
    omega
  · rw [if_neg g, i_le, z]
    rw [i_lt, e, z] at g
    omega
theorem Enc.mix {l : List (Option Nat × Int32)} {th : Bool} {R : Int32} (hE : Enc σ ρ l th R) : wI ρ 0 0 9 x = mix plP σ (wI ρ 0 0 9 x).1 := by
  refine Prod.ext ?_ hE.2.1
  funext φ i k
  by_cases g : plP φ i k = true
  · exact (mx_s (ς := σ) (s := (wI ρ 0 0 9 x).1) g).symm
  · have g' : plP φ i k = false := by simpa using g
    have g2 : ¬ (φ = 0 ∨ φ = 2 ∨ φ = 9 ∨ φ = 10 ∨ (φ = 5 ∧ k = 7)) := of_decide_eq_false g'
    rw [mx_r g', w_ne (by omega), hE.1 φ (by omega) (by omega) (by omega)]
end T7
set_option maxHeartbeats 1000000 in
theorem ok_step (v1 : Int32) : Ok2 (f_X5_step v1) (f_X6_step v1) := by
  intro n m σ τ h
  have hn := h.n16
  have hm := h.m40
  have e43 : τ.1 20 0 43 = σ.1 0 0 12 := h.2.1.2.2.2.2.2.2.2.1
  have e35 : τ.1 20 0 35 = σ.1 0 0 6 := h.2.1.2.2.1
  rcases v_cases v1 (n := n) (by omega) with hv | ⟨t, ht, rfl⟩
  · exact Ok2.same (r := -1) h (by simp [f_X5_step, hasT_no h hv]) (by simp [f_X6_step, noT_yes h hv])
  · have c31 : τ.1 31 0 t = σ.1 4 t 9 := (h.T ht).1.2.2.2.2.2.2.2.2.2.1
    obtain ⟨w, eW, hw⟩ := e_wst h ht
    have a16 : aP 7 (Int32.ofNat t) = some t := aP_n (by show t < 16; omega) (by omega)
    by_cases he : σ.1 0 0 12 = 0
    · have eC : f_X5_step (Int32.ofNat t) σ = if w ≤ 0 then ((f_X3_fill (Int32.ofNat t) (wI σ 0 0 11 1)).bind fun q5 => if (q5.1 2 0 3) = 0 then (f_X5_carryOut (Int32.ofNat t) (wI q5 0 0 9 (q5.1 0 0 9 + 1))).bind fun q7 => some ((q7.1 2 0 2), q7) else (f_X4_narrowAfterThrow t (q5.1 0 0 5) q5).bind fun q9 => (f_X5_failAlone (Int32.ofNat t) (0 : Int32) q9).bind fun q10 => some ((-5 : Int32), q10.2)) else some (-3, σ) := by
        rw [f_X5_step, hasT_yes h ht, Option.bind_some]
        dsimp only
        rw [if_neg (by decide), if_pos he, a16, Option.bind_some, eW, Option.bind_some, f_X5_step_39]
        dsimp only
        rw [sZ_s z1, Option.bind_some]
        rfl
      have eM : f_X6_step (Int32.ofNat t) τ = if σ.1 4 t 9 ≤ σ.1 0 0 6 then ((f_X6_takeRows (Int32.ofNat t) (wI τ 20 0 37 1)).bind fun q4 => if q4.1 < 0 then narX (Int32.ofNat t) q4.2 else f_X6_step_60 1000 q4.1 (0 : Int32) (wI q4.2 20 0 36 (q4.2.1 20 0 36 + 1))) else some (-3, τ) := by
        rw [f_X6_step, noT_no h ht, Option.bind_some]
        dsimp only
        rw [if_pos rfl, e43, if_pos he, aI_n (φ := 31) (by show t < 16; omega) (by omega), Option.bind_some, c31, e35, sZ_s z1, Option.bind_some, f_X6_step_30]
        rfl
      by_cases hw2 : (σ.1 4 t 9).toInt ≤ (σ.1 0 0 6).toInt
      · rw [if_pos (hw.mpr hw2)] at eC
        rw [if_pos (by rw [i_le]; exact hw2)] at eM
        have h0 : Rl n m 0 σ τ := by rw [he] at h; exact h
        have h4 := h0.begun
        obtain ⟨σ4, hσ4⟩ : ∃ s, s = wI σ 0 0 11 1 := ⟨_, rfl⟩
        obtain ⟨τ3, hτ3⟩ : ∃ s, s = wI τ 20 0 37 1 := ⟨_, rfl⟩
        have e12 : σ4.1 0 0 12 = 0 := by rw [hσ4, w_k (by decide)]; exact he
        rw [← hσ4] at eC h4
        rw [← hτ3] at eM h4
        obtain ⟨M, ρ, l, th, R, hp, eF, hE, hR, hl⟩ := e_fill h4 ht
        obtain ⟨τh, e1, b1, b2⟩ := e_hold (τ := τ3) hm h4.1.2.2.2.2.2
        have hh : Rl n m 0 σ4 τh := h4.scr (fun φ hφ => b1 φ (by omega) (by omega) (by omega))
        obtain ⟨v6, τ1, n1, n2, n3, n4, n5⟩ := e_next hh ht hp
        obtain ⟨τ2, k1, k2, k3, k4, k5⟩ := e_loop ht (σ4.1 4 t 11) (σ4.1 4 t 12) (σ4.1 4 t 13) (τ3.1 20 0 34) l 0 1000 σ4 τ1 v6 n4 hp hR n3 (Int32.add_zero _).symm (by omega) (by omega)
        have ai : ∀ (φ : Nat) (s : sm_M), fL φ = 16 → aI φ s 0 (Int32.ofNat t) = some (s.1 φ 0 t) := fun φ s hφ => aI_n (by rw [hφ]; omega) (by omega)
        have ui : ∀ (φ : Nat) (s : sm_M) (x : Int32), fL φ = 16 → uI φ s 0 (Int32.ofNat t) x = some (wI s φ 0 t x) := fun φ s x hφ => uI_n (by rw [hφ]; omega) (by omega)
        have d24 : τ3.1 24 0 t = σ4.1 4 t 11 := (h4.T ht).1.2.2.2.1
        have d25 : τ3.1 25 0 t = σ4.1 4 t 12 := (h4.T ht).1.2.2.2.2.1
        have d26 : τ3.1 26 0 t = σ4.1 4 t 13 := (h4.T ht).1.2.2.2.2.2.1
        have c24 : τ2.1 24 0 t = σ4.1 4 t 11 + Int32.ofNat l.length := by
          rw [Nat.zero_add] at k4
          rw [← k4]; exact (k2.T ht).1.2.2.2.1
        have ej : σ4.1 4 t 11 + Int32.ofNat l.length - σ4.1 4 t 11 = Int32.ofNat l.length := by rw [Int32.add_comm]; exact Int32.add_sub_cancel _ _
        have eT : f_X6_takeRows (Int32.ofNat t) τ3 = f_X6_takeRows_193 (Int32.ofNat t) (σ4.1 4 t 11) (σ4.1 4 t 12) (σ4.1 4 t 13) (τ3.1 20 0 34) (if th = true then 1 else 0) τ2 := by
          rw [f_X6_takeRows, ai 24 _ rfl, Option.bind_some, ai 25 _ rfl, Option.bind_some, ai 26 _ rfl, Option.bind_some, e1, Option.bind_some, n1, Option.bind_some, n2, Option.bind_some, d24, d25, d26]
          exact k1
        have z : Fz τh τ2 := n5.trans k3
        cases th with
        | false =>
          have eT' : f_X6_takeRows (Int32.ofNat t) τ3 = some (Int32.ofNat l.length, τ2) := by
            rw [eT, if_neg (by decide), f_X6_takeRows_193, ai 24 _ rfl, Option.bind_some, if_pos rfl, f_X6_takeRows_240, if_pos rfl, f_X6_takeRows_254, c24, ej]
          obtain ⟨q', a1, a2, a3⟩ := e_car ht hl l 0 1000 σ4 τ1 (wI ρ 0 0 9 (ρ.1 0 0 9 + 1)).1 n4 hR (Nat.zero_add _) (by omega) (by rw [w_ne (by decide)]; exact hE.2.2.1) (fun i y hy => by rw [Nat.zero_add, w_ne (by decide), w_ne (by decide)]; exact hE.2.2.2.2.2 i y hy)
          have a1' : f_X5_carryOut (Int32.ofNat t) (wI ρ 0 0 9 (ρ.1 0 0 9 + 1)) = some (mix plP (exL m t l σ4) q') := by
            rw [f_X5_carryOut, a16, Option.bind_some, hE.mix]; exact a1
          obtain ⟨τF, s1, s2, s3⟩ := e_seen (v := Int32.ofNat l.length) (τ := wI τ2 20 0 36 (τ2.1 20 0 36 + 1)) hm (by rw [w_k (by decide)]; exact k2.1.2.2.2.2.2)
          have x0 : (exL m t l σ4).1 0 = σ4.1 0 := k5.1 0 (by decide) (by decide) (by decide) (by decide)
          have ρ0 : ρ.1 0 = σ4.1 0 := hE.1 0 (by decide) (by decide) (by decide)
          have q0 : ∀ k, k ≠ 9 → q' 0 0 k = σ4.1 0 0 k := fun k hk => by rw [a2 0 0 k (by omega), w_k hk, ρ0]
          have q7 : ∀ c, c < m → τF.1 41 0 c = q' 5 c 7 := fun c hc => by
            have t57 : τ2.1 57 0 c = σ4.1 5 c 6 := by rw [z.2.2, (b2 c hc).2.2]; exact (h4.C hc).1.2.2.2.2.2.1
            have t40 : τ2.1 40 0 c = (exL m t l σ4).1 5 c 6 := (k2.C hc).1.2.2.2.2.2.1
            have t41 : τ2.1 41 0 c = σ4.1 5 c 7 := by rw [← k5.2.2.2.1 c 7 (by decide) (by decide) (by decide)]; exact (k2.C hc).1.2.2.2.2.2.2.1
            have w5 : (wI ρ 0 0 9 (ρ.1 0 0 9 + 1)).1 5 = σ4.1 5 := by rw [w_ne (by decide)]; exact hE.1 5 (by decide) (by decide) (by decide)
            rw [s3 c hc, (a3 c).2, w_ne (show (57 : Nat) ≠ 20 by decide), w_ne (show (40 : Nat) ≠ 20 by decide), w_ne (show (41 : Nat) ≠ 20 by decide), t57, t40, t41, w5]
          have RF : Rl n m 0 (mix plP (exL m t l σ4) q') τF := by
            refine k2.carry (fun k hk => by rw [q0 k hk, x0]) ?_ (fun k hk => by rw [s2 20 (by decide), w_k hk]) (by rw [s2 20 (by decide), w_eq]) (fun φ p1 p2 => by rw [s2 φ p2, w_ne p1]) q7 (fun c hc => ?_)
            · rw [a2 0 0 9 (by omega), w_eq, ρ0, x0]
            · rw [(a3 c).2]
              have o6 := (k2.C hc).2.2.2.2.1
              have o7 := (h4.C hc).2.2.2.2.2.1
              have w5 : (wI ρ 0 0 9 (ρ.1 0 0 9 + 1)).1 5 = σ4.1 5 := by rw [w_ne (by decide)]; exact hE.1 5 (by decide) (by decide) (by decide)
              rw [w5]
              split
              · exact o6
              · exact o7
          refine ⟨Int32.ofNat l.length, n, m, mix plP (exL m t l σ4) q', τF, ?_, ?_, ?_⟩
          · rw [eC, eF, Option.bind_some, hE.2.2.2.1, if_pos (by rfl), a1', Option.bind_some, mx_s (by rfl), a2 2 0 2 (by omega), w_ne (by decide), hE.2.2.1]
          · rw [eM, eT', Option.bind_some]
            dsimp only
            rw [if_neg (n_pos (by omega))]
            exact s1
          · have : (mix plP (exL m t l σ4) q').1 0 0 12 = 0 := by rw [mx_s (by rfl), q0 12 (by decide)]; exact e12
            rw [this]; exact RF
        | true =>
          obtain ⟨τ5, hτ5⟩ : ∃ s, s = wI (wI (wI (wI τ2 24 0 t (σ4.1 4 t 11)) 25 0 t (σ4.1 4 t 12)) 26 0 t (σ4.1 4 t 13)) 20 0 34 (τ3.1 20 0 34) := ⟨_, rfl⟩
          have b5 : ∀ φ, φ ≠ 20 → φ ≠ 24 → φ ≠ 25 → φ ≠ 26 → τ5.1 φ = τ2.1 φ := fun φ x1 x2 x3 x4 => by rw [hτ5, w_ne x1, w_ne x4, w_ne x3, w_ne x2]
          have b20 : ∀ k, k ≠ 34 → τ5.1 20 0 k = τ2.1 20 0 k := fun k hk => by rw [hτ5, w_k hk, w_ne (by decide), w_ne (by decide), w_ne (by decide)]
          obtain ⟨τu, u1, u2, u3⟩ := e_undo (τ := τ5) hm (by rw [b20 14 (by decide)]; exact k2.1.2.2.2.2.2)
          have eT' : f_X6_takeRows (Int32.ofNat t) τ3 = some (-1 - Int32.ofNat l.length, τu) := by
            rw [eT, if_pos rfl, f_X6_takeRows_193, ai 24 _ rfl, Option.bind_some, if_neg (by decide), ui 24 _ _ rfl, Option.bind_some, ui 25 _ _ rfl, Option.bind_some, ui 26 _ _ rfl, Option.bind_some, sI_s, Option.bind_some, ← hτ5, u1, Option.bind_some, f_X6_takeRows_240, if_neg (by decide), f_X6_takeRows_254, c24, ej]
          have hu : Rl n m 0 σ4 τu := by
            refine Rl.undo h4 k2 k5 ht (fun u => ?_) (fun u => ?_) (fun u => ?_) ?_ (fun k hk => ?_) (fun φ y1 y2 y3 y4 y5 y6 y7 => by rw [u2 φ y5 y6 y7, b5 φ y1 y2 y3 y4]) (fun c hc => ?_)
            · rw [u2 24 (by decide) (by decide) (by decide), hτ5, w_ne (by decide), w_ne (by decide), w_ne (by decide), w_at]
            · rw [u2 25 (by decide) (by decide) (by decide), hτ5, w_ne (by decide), w_ne (by decide), w_at, w_ne (by decide)]
            · rw [u2 26 (by decide) (by decide) (by decide), hτ5, w_ne (by decide), w_at, w_ne (by decide), w_ne (by decide)]
            · rw [u2 20 (by decide) (by decide) (by decide), hτ5, w_eq]
            · rw [u2 20 (by decide) (by decide) (by decide), b20 k hk]
            · obtain ⟨y1, y2, y3⟩ := u3 c hc
              obtain ⟨x1, x2, x3⟩ := b2 c hc
              rw [y1, y2, y3, b5 55 (by decide) (by decide) (by decide) (by decide), b5 56 (by decide) (by decide) (by decide) (by decide), b5 57 (by decide) (by decide) (by decide) (by decide), z.1, z.2.1, z.2.2, x1, x2, x3]
              exact ⟨(h4.C hc).1.2.2.2.1, (h4.C hc).1.2.2.2.2.1, (h4.C hc).1.2.2.2.2.2.1⟩
          obtain ⟨σ9, τ9, w1, w2, w3, w4⟩ := e_nar (hu.pl hE.1 hE.2.1) ht
          have e9 : σ9.1 0 0 12 = 0 := by rw [w4, hE.1 0 (by decide) (by decide) (by decide)]; exact e12
          obtain ⟨r, σ', τ', f1, f2, f3⟩ := fa_ok (kind := 0) w3 e9 ht (w3.nine rfl) (fun c hc q => Or.inl (w3.lostOk rfl c hc q))
          refine ⟨-5, n, m, σ', τ', ?_, ?_, f3⟩
          · rw [eC, eF, Option.bind_some, hE.2.2.2.1, if_neg (by decide), w1, Option.bind_some, f1, Option.bind_some]
          · rw [eM, eT', Option.bind_some]
            dsimp only
            have lt : (-1 - Int32.ofNat l.length : Int32) < 0 := by
              have e2 : (-1 - Int32.ofNat l.length : Int32).toInt = -1 - (l.length : Int) := by
                rw [i_sub] <;> rw [i_of (by omega), show (-1 : Int32).toInt = -1 from rfl] <;> omega
              rw [i_lt, e2]
              show _ < (0 : Int)
              omega
            rw [if_pos lt, w2, f_X6_step_212, f2, Option.bind_some]
      · rw [if_neg (fun q => hw2 (hw.mp q))] at eC
        rw [if_neg (by rw [i_le]; exact hw2)] at eM
        exact Ok2.same (r := -3) h eC eM
    · refine Ok2.same (r := -3) h ?_ ?_
      · rw [f_X5_step, hasT_yes h ht, Option.bind_some]
        dsimp only
        rw [if_neg (by decide), if_neg he, f_X5_step_39]
      · rw [f_X6_step, noT_no h ht, Option.bind_some]
        dsimp only
        rw [if_pos rfl, e43, if_neg he, f_X6_step_30]
