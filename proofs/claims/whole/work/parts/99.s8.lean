section S8
variable {n m t : Nat} {M : Int32}
theorem e_loop {th : Bool} (ht : t < n) (v2 v3 v4 v5 : Int32) : ∀ (l : List (Option Nat × Int32)) (j f : Nat) (σ τ : sm_M) (v6 : Int32), Rl n m 0 σ τ → PDl m t M σ → Run m t M th j l σ → ((∃ c v, Av m t M σ c v ∧ v6 = ec c) ∨ (v6 = -9 ∧ ∀ c v, ¬ Av m t M σ c v)) → σ.1 4 t 11 = v2 + Int32.ofNat j → l.length + 2 ≤ f → j + l.length ≤ 100 → ∃ τ', f_X6_takeRows_46 f (Int32.ofNat t) v2 v3 v4 v5 v6 0 τ = f_X6_takeRows_193 (Int32.ofNat t) v2 v3 v4 v5 (if th = true then 1 else 0) τ' ∧ Rl n m 0 (exL m t l σ) τ' ∧ Fz τ τ' ∧ (exL m t l σ).1 4 t 11 = v2 + Int32.ofNat (j + l.length) ∧ Fr m t σ (exL m t l σ) := by
  intro l
  induction l with
  | nil =>
    intro j f σ τ v6 h hp hR h6 hj hf hjl
    have hn := h.n16
    have hm := h.m40
    obtain ⟨f, rfl⟩ : ∃ g, f = g + 1 := ⟨f - 1, by simp at hf; omega⟩
    refine ⟨τ, ?_, h, ⟨rfl, rfl, rfl⟩, hj, Fr.refl⟩
    have c24 : τ.1 24 0 t = v2 + Int32.ofNat j := by rw [← hj]; exact (h.T ht).1.2.2.2.1
    have c29 : τ.1 29 0 t = σ.1 4 t 7 := (h.T ht).1.2.2.2.2.2.2.2.1
    have c28 : τ.1 28 0 t = σ.1 4 t 6 := (h.T ht).1.2.2.2.2.2.2.1
    have ej : v2 + Int32.ofNat j - v2 = Int32.ofNat j := by rw [Int32.add_comm]; exact Int32.add_sub_cancel _ _
    obtain ⟨b, hb, eb⟩ := e_cg h ht
    have ai : ∀ (φ : Nat) (s : sm_M), fL φ = 16 → aI φ s 0 (Int32.ofNat t) = some (s.1 φ 0 t) := fun φ s hφ => aI_n (by rw [hφ]; omega) (by omega)
    have hjj : j < 2147483648 := by simp at hjl; omega
    have go : ∀ (k : Nat) (v7 : Int32), f_X6_takeRows_46 (k + 1) (Int32.ofNat t) v2 v3 v4 v5 v6 v7 τ = if v6 = -9 then f_X6_takeRows_193 (Int32.ofNat t) v2 v3 v4 v5 v7 τ else if σ.1 4 t 7 ≤ Int32.ofNat j then f_X6_takeRows_193 (Int32.ofNat t) v2 v3 v4 v5 v7 τ else if (if b = true then (1 : Int32) else 0) = 0 then f_X6_takeRows_193 (Int32.ofNat t) v2 v3 v4 v5 v7 τ else if v7 = 0 then (f_X6_valueOf (Int32.ofNat t) v6 τ).bind fun q4 => (aI 24 q4.2 0 (Int32.ofNat t)).bind fun x5 => (f_X6_isAside (Int32.ofNat t) x5 q4.2).bind fun q6 => (aI 28 q6.2 0 (Int32.ofNat t)).bind fun x7 => if q4.1 = x7 then if q4.1 = (1001 : Int32) then f_X6_takeRows_133 (f_X6_takeRows_46 k) (Int32.ofNat t) v2 v3 v4 v5 v6 q4.1 q6.1 q6.2 else if q6.1 = 0 then f_X6_takeRows_134 (f_X6_takeRows_46 k) (Int32.ofNat t) v2 v3 v4 v5 v6 q4.1 q6.1 (1 : Int32) q6.2 else f_X6_takeRows_133 (f_X6_takeRows_46 k) (Int32.ofNat t) v2 v3 v4 v5 v6 q4.1 q6.1 q6.2 else f_X6_takeRows_133 (f_X6_takeRows_46 k) (Int32.ofNat t) v2 v3 v4 v5 v6 q4.1 q6.1 q6.2 else f_X6_takeRows_193 (Int32.ofNat t) v2 v3 v4 v5 v7 τ := fun k v7 => by
      rw [f_X6_takeRows_46, ai 24 _ rfl, Option.bind_some, ai 29 _ rfl, Option.bind_some, c24, c29, ej, eb, Option.bind_some]
    rw [go]
    rcases hR with ⟨rfl, hR⟩ | ⟨rfl, c, v, h1, h2, h3, h4⟩
    · show _ = f_X6_takeRows_193 (Int32.ofNat t) v2 v3 v4 v5 0 τ
      rcases h6 with ⟨c, v, ha, rfl⟩ | ⟨rfl, -⟩
      · rw [if_neg (ec_9 (fun k q => by have := Av_lt ha k q; omega))]
        by_cases g : σ.1 4 t 7 ≤ Int32.ofNat j
        · rw [if_pos g]
        · rw [if_neg g]
          have lm : Lm t σ j := by unfold Lm; rw [i_le, i_of hjj] at g; omega
          by_cases g2 : b = true
          · exfalso
            rcases hR with q | q | q
            · exact q c v ha
            · exact q lm
            · exact q (hb.mp g2)
          · rw [if_neg g2, if_pos rfl]
      · rw [if_pos rfl]
    · show _ = f_X6_takeRows_193 (Int32.ofNat t) v2 v3 v4 v5 1 τ
      rcases h6 with ⟨c', v', ha, rfl⟩ | ⟨-, q⟩
      · obtain ⟨rfl, rfl⟩ := Av_uniq h1 ha
        have n9 : ¬ ec c = -9 := ec_9 (fun k q => by have := Av_lt ha k q; omega)
        have nl : ¬ σ.1 4 t 7 ≤ Int32.ofNat j := by unfold Lm at h2; rw [i_le, i_of hjj]; omega
        have nb : ¬ (if b = true then (1 : Int32) else 0) = 0 := by rw [if_pos (hb.mpr h3)]; decide
        rw [if_neg n9, if_neg nl, if_neg nb, if_pos rfl, e_val h ht ha, Option.bind_some]
        dsimp only
        rw [ai 24 _ rfl, Option.bind_some, show τ.1 24 0 t = σ.1 4 t 11 by rw [c24, hj], e_as' h ht, Option.bind_some]
        dsimp only
        rw [ai 28 _ rfl, Option.bind_some, c28, if_pos h4.2.1, if_neg (by rw [h4.2.1]; exact h4.1), h4.2.2, if_pos (by decide), f_X6_takeRows_134, if_neg (by decide), f_X6_takeRows_190]
        obtain ⟨f, rfl⟩ : ∃ g, f = g + 1 := ⟨f - 1, by simp at hf; omega⟩
        rw [go, if_neg n9, if_neg nl, if_neg nb, if_neg (by decide)]
      · exact absurd h1 (q c v)
  | cons y l ih =>
    intro j f σ τ v6 h hp hR h6 hj hf hjl
    obtain ⟨c, v⟩ := y
    have hn := h.n16
    have hm := h.m40
    simp only [List.length_cons] at hf hjl
    obtain ⟨f, rfl⟩ : ∃ g, f = g + 1 := ⟨f - 1, by omega⟩
    obtain ⟨⟨h1, h2, h3, h4⟩, hR⟩ := hR
    dsimp only at h1 h4 hR
    have c24 : τ.1 24 0 t = v2 + Int32.ofNat j := by rw [← hj]; exact (h.T ht).1.2.2.2.1
    have c29 : τ.1 29 0 t = σ.1 4 t 7 := (h.T ht).1.2.2.2.2.2.2.2.1
    have c28 : τ.1 28 0 t = σ.1 4 t 6 := (h.T ht).1.2.2.2.2.2.2.1
    have ej : v2 + Int32.ofNat j - v2 = Int32.ofNat j := by rw [Int32.add_comm]; exact Int32.add_sub_cancel _ _
    obtain ⟨b, hb, eb⟩ := e_cg h ht
    have ai : ∀ (φ : Nat) (s : sm_M), fL φ = 16 → aI φ s 0 (Int32.ofNat t) = some (s.1 φ 0 t) := fun φ s hφ => aI_n (by rw [hφ]; omega) (by omega)
    rcases h6 with ⟨c', v', ha, rfl⟩ | ⟨-, q⟩
    · obtain ⟨rfl, rfl⟩ := Av_uniq h1 ha
      have n9 : ¬ ec c = -9 := ec_9 (fun k q => by have := Av_lt ha k q; omega)
      have nl : ¬ σ.1 4 t 7 ≤ Int32.ofNat j := by unfold Lm at h2; rw [i_le, i_of (by omega)]; omega
      have nb : ¬ (if b = true then (1 : Int32) else 0) = 0 := by rw [if_pos (hb.mpr h3)]; decide
      obtain ⟨τ1, i1, i2, i3⟩ := e_item h ht ha h3 (f_X6_takeRows_46 f) v2 v3 v4 v5
      have fe := Fr_ex (v := v) h3 (Av_to ha)
      have hp' := PDl_Fr h ht fe hp
      obtain ⟨w6, τ2, n1, n2, n3, n4, n5⟩ := e_next i2 ht hp'
      have hj' : (ex m t c v σ).1 4 t 11 = v2 + Int32.ofNat (j + 1) := by rw [ex_11, hj, Int32.add_assoc, n_inc]
      obtain ⟨τ3, k1, k2, k3, k4, k5⟩ := ih (j + 1) f (ex m t c v σ) τ2 w6 n4 hp' hR n3 hj' (by omega) (by omega)
      refine ⟨τ3, ?_, k2, (i3.trans n5).trans k3, ?_, fe.trans k5⟩
      · rw [f_X6_takeRows_46, if_neg n9, ai 24 _ rfl, Option.bind_some, ai 29 _ rfl, Option.bind_some, c24, c29, ej, if_neg nl, eb, Option.bind_some]
        dsimp only
        rw [if_neg nb, if_pos rfl, e_val h ht ha, Option.bind_some]
        dsimp only
        rw [ai 24 _ rfl, Option.bind_some, show τ.1 24 0 t = σ.1 4 t 11 by rw [c24, hj], e_as' h ht, Option.bind_some]
        dsimp only
        rw [ai 28 _ rfl, Option.bind_some, c28]
        have fin : f_X6_takeRows_133 (f_X6_takeRows_46 f) (Int32.ofNat t) v2 v3 v4 v5 (ec c) v (if asb t (σ.1 4 t 11) σ = true then 1 else 0) τ = f_X6_takeRows_193 (Int32.ofNat t) v2 v3 v4 v5 (if th = true then 1 else 0) τ3 := by
          rw [f_X6_takeRows_133, i1, f_X6_takeRows_179, n1, Option.bind_some, n2, Option.bind_some, f_X6_takeRows_190, k1]
        by_cases g1 : v = σ.1 4 t 6
        · rw [if_pos g1]
          by_cases g2 : v = 1001
          · rw [if_pos g2]; exact fin
          · rw [if_neg g2]
            by_cases g3 : asb t (σ.1 4 t 11) σ = true
            · rw [if_neg (by rw [if_pos g3]; decide)]; exact fin
            · exact absurd ⟨by rw [← g1]; exact g2, g1, by simpa using g3⟩ h4
        · rw [if_neg g1]; exact fin
      · show (exL m t l (ex m t c v σ)).1 4 t 11 = _
        rw [k4]
        congr 2
        simp only [List.length_cons]
        omega
    · exact absurd h1 (q c v)
end S8
