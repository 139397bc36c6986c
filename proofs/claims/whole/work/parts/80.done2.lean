section DONE2
variable {n m : Nat} {σ τ : sm_M}
/-- one task in the reference: s is as τ but for what is done -/
theorem e_fd1 {e0 : Int32} (h : Rl n m e0 σ τ) {M : Int32} (hM : PD n m σ M) {s : sm_M} {t : Nat} (ht : t < n) (hs : ∀ φ, φ ≠ 54 → s.1 φ = τ.1 φ) (hd : ∀ f, f < t → s.1 54 0 f = if bt M f = true then 1 else 0) (k : Int32 → sm_M → Option sm_M) (b0 : Bool) (hb0 : b0 = true ↔ (σ.1 4 t 2 = 0 → (σ.1 4 t 3).toInt ≤ (σ.1 4 t 11).toInt)) :
    f_X6_findDone_42 k 1000 (Int32.ofNat t) (if b0 = true then 1 else 0) 0 s = k (Int32.ofNat (t + 1)) (wI s 54 0 t (if bt M t = true then 1 else 0)) := by
  have hn := h.n16
  have hm := h.m40
  have e3 : s.1 20 0 14 = Int32.ofNat m := by rw [hs 20 (by decide)]; exact h.1.2.2.2.2.2
  obtain ⟨v', ⟨b, hv, hb⟩, e4⟩ := loopE (F := fun f v (x : Int32) => f_X6_findDone_42 k f (Int32.ofNat t) x v s) (X := fun x => f_X6_findDone_105 k (Int32.ofNat t) x s) (N := m) (by omega) (fun i x => ∃ b : Bool, x = (if b = true then 1 else 0) ∧ (b = true ↔ (b0 = true ∧ ∀ c f : Nat, c < i → σ.1 5 c 2 = Int32.ofNat t → σ.1 5 c 1 = Int32.ofNat f → f < 16 → bt M f = true ∧ (σ.1 5 c 5).toInt ≤ (σ.1 5 c 6).toInt)))
    (fun k2 i x hi hp => by
      obtain ⟨b, rfl, hb⟩ := hp
      obtain ⟨f, g', e1, e2, h1, h2⟩ := h.ft hi
      have hCc := (h.C hi).1
      have q34 : s.1 34 0 i = Int32.ofNat f := by rw [hs 34 (by decide), ← e1]; exact hCc.1
      have q35 : s.1 35 0 i = Int32.ofNat g' := by rw [hs 35 (by decide), ← e2]; exact hCc.2.1
      have q39 : s.1 39 0 i = σ.1 5 i 5 := by rw [hs 39 (by decide)]; exact hCc.2.2.2.2.1
      have q40 : s.1 40 0 i = σ.1 5 i 6 := by rw [hs 40 (by decide)]; exact hCc.2.2.2.2.2.1
      have a1 : ∀ (φ : Nat), fL φ = 40 → aI φ s 0 (Int32.ofNat i) = some (s.1 φ 0 i) := fun φ hφ => aI_n (by rw [hφ]; omega) (by omega)
      show ∃ x', _ ∧ f_X6_findDone_42 k (k2 + 1) (Int32.ofNat t) _ (Int32.ofNat i) s = f_X6_findDone_42 k k2 (Int32.ofNat t) x' (Int32.ofNat (i + 1)) s
      rw [f_X6_findDone_42, e3, if_neg (by rw [n_le (by omega) (by omega)]; omega)]
      cases b
      · rw [show (if (false = true) then (1 : Int32) else 0) = 0 from rfl, if_pos rfl, f_X6_findDone_97, f_X6_findDone_98, n_inc]
        refine ⟨0, ⟨false, rfl, ?_⟩, rfl⟩
        constructor
        · intro q; cases q
        · rintro ⟨q1, q2⟩
          exact hb.mpr ⟨q1, fun c f hc => q2 c f (by omega)⟩
      · rw [show (if (true = true) then (1 : Int32) else 0) = 1 from rfl, if_neg (by decide), a1 35 rfl, Option.bind_some, q35]
        have hb' := hb.mp rfl
        by_cases q : g' = t
        · subst q
          rw [if_pos rfl, a1 34 rfl, Option.bind_some, q34, aI_n (φ := 54) (by show f < 16; omega) (by omega), Option.bind_some, hd f h1]
          by_cases q1 : bt M f = true
          · rw [if_pos q1, if_neg (by decide), a1 40 rfl, Option.bind_some, a1 39 rfl, Option.bind_some, q39, q40]
            by_cases q2 : (σ.1 5 i 5).toInt ≤ (σ.1 5 i 6).toInt
            · rw [if_neg (by rw [i_lt]; omega), f_X6_findDone_93, f_X6_findDone_98, n_inc]
              refine ⟨1, ⟨true, rfl, ⟨fun _ => ⟨hb'.1, fun c f' hc e4 e5 hf' => ?_⟩, fun _ => rfl⟩⟩, rfl⟩
              by_cases q3 : c = i
              · subst q3
                rw [e1, n_eq (by omega) (by omega)] at e5
                subst e5; exact ⟨q1, q2⟩
              · exact hb'.2 c f' (by omega) e4 e5 hf'
            · rw [if_pos (by rw [i_lt]; omega), f_X6_findDone_97, f_X6_findDone_98, n_inc]
              refine ⟨0, ⟨false, rfl, ?_⟩, rfl⟩
              constructor
              · intro q; cases q
              · rintro ⟨-, q3⟩; exact absurd (q3 i f (by omega) e2 e1 (by omega)).2 q2
          · rw [if_neg q1, if_pos rfl, f_X6_findDone_97, f_X6_findDone_98, n_inc]
            refine ⟨0, ⟨false, rfl, ?_⟩, rfl⟩
            constructor
            · intro q; cases q
            · rintro ⟨-, q3⟩; exact absurd (q3 i f (by omega) e2 e1 (by omega)).1 q1
        · rw [if_neg (by rw [n_eq (by omega) (by omega)]; exact q), f_X6_findDone_93, f_X6_findDone_98, n_inc]
          refine ⟨1, ⟨true, rfl, ⟨fun _ => ⟨hb'.1, fun c f' hc e4 e5 hf' => ?_⟩, fun _ => rfl⟩⟩, rfl⟩
          by_cases q3 : c = i
          · subst q3
            rw [e2, n_eq (by omega) (by omega)] at e4
            exact absurd e4 q
          · exact hb'.2 c f' (by omega) e4 e5 hf')
    (fun k2 x hp => by
      show f_X6_findDone_42 k (k2 + 1) (Int32.ofNat t) x (Int32.ofNat m) s = _
      rw [f_X6_findDone_42, e3, if_pos (by rw [n_le (by omega) (by omega)]; omega)])
    (if b0 = true then 1 else 0) ⟨b0, rfl, ⟨fun q => ⟨q, fun c f hc => absurd hc (Nat.not_lt_zero c)⟩, fun q => q.1⟩⟩
  have hbM : b = true ↔ bt M t = true := by
    rw [hb, hM.1 t ht, hb0]
    unfold Dn
    constructor
    · rintro ⟨q1, q2⟩; exact ⟨q1, fun _ => q2⟩
    · rintro ⟨q1, q2⟩
      refine ⟨q1, fun c f hc e2 e1 hf => ?_⟩
      by_cases g : σ.1 4 t 2 = 0
      · exact absurd g (h.E c f t hc e1 e2 hf (by omega)).2
      · exact q2 g c f hc e2 e1 hf
  have hval : v' = (if bt M t = true then 1 else 0) := by
    rw [hv]
    by_cases q : bt M t = true
    · rw [if_pos (hbM.mpr q), if_pos q]
    · rw [if_neg (fun g => q (hbM.mp g)), if_neg q]
  refine e4.trans ?_
  show f_X6_findDone_105 k (Int32.ofNat t) v' s = _
  rw [hval, f_X6_findDone_105, uZ_n (by show t < 16; omega) (by omega) (by by_cases q : bt M t = true <;> simp [q]), Option.bind_some, n_inc]
theorem e_fd {e0 : Int32} (h : Rl n m e0 σ τ) {M : Int32} (hM : PD n m σ M) : ∃ τ' : sm_M, f_X6_findDone τ = some τ' ∧ (∀ φ, φ ≠ 54 → τ'.1 φ = τ.1 φ) ∧ τ'.2 = τ.2 ∧ ∀ f, f < n → τ'.1 54 0 f = if bt M f = true then 1 else 0 := by
  have hn := h.n16
  obtain ⟨τ', ⟨h1, h2, h3⟩, h4⟩ := loopE (F := fun f v (s : sm_M) => f_X6_findDone_2 f v s) (X := some) (N := n) (by omega) (fun i s => (∀ φ, φ ≠ 54 → s.1 φ = τ.1 φ) ∧ s.2 = τ.2 ∧ ∀ f, f < i → s.1 54 0 f = if bt M f = true then 1 else 0)
    (fun k t s ht hp => by
      obtain ⟨p1, p2, p3⟩ := hp
      have e1 : s.1 20 0 0 = Int32.ofNat n := by rw [p1 20 (by decide)]; exact h.1.2.2.2.2.1
      have hTt := (h.T ht).1
      have okt := (h.T ht).2
      have q21 : s.1 21 0 t = σ.1 4 t 2 := by rw [p1 21 (by decide)]; exact hTt.1
      have q22 : s.1 22 0 t = σ.1 4 t 3 := by rw [p1 22 (by decide)]; exact hTt.2.1
      have q24 : s.1 24 0 t = σ.1 4 t 11 := by rw [p1 24 (by decide)]; exact hTt.2.2.2.1
      have a1 : ∀ (φ : Nat), fL φ = 16 → aI φ s 0 (Int32.ofNat t) = some (s.1 φ 0 t) := fun φ hφ => aI_n (by rw [hφ]; omega) (by omega)
      refine ⟨wI s 54 0 t (if bt M t = true then 1 else 0), ⟨fun φ hφ => by rw [w_ne hφ]; exact p1 φ hφ, p2, fun f hf => ?_⟩, ?_⟩
      · rw [w_at]
        by_cases e : f = t
        · subst e; rw [if_pos rfl]
        · rw [if_neg e]; exact p3 f (by omega)
      · show f_X6_findDone_2 (k + 1) (Int32.ofNat t) s = _
        rw [f_X6_findDone_2, e1, if_neg (by rw [n_le (by omega) (by omega)]; omega), a1 21 rfl, Option.bind_some, q21]
        by_cases g : σ.1 4 t 2 = 0
        · have o := okt.2.1 g
          rw [if_pos g, a1 24 rfl, Option.bind_some, a1 22 rfl, Option.bind_some, q22, q24]
          by_cases g2 : σ.1 4 t 11 = σ.1 4 t 3
          · rw [if_pos g2, f_X6_findDone_34, f_X6_findDone_39]
            exact e_fd1 h hM ht p1 p3 _ true (by simp [g2])
          · rw [if_neg g2, f_X6_findDone_39]
            refine e_fd1 h hM ht p1 p3 _ false ?_
            rw [i_eq] at g2
            constructor
            · intro q; cases q
            · intro q; have := q g; omega
        · rw [if_neg g, f_X6_findDone_34, f_X6_findDone_39]
          exact e_fd1 h hM ht p1 p3 _ true (by simp [g]))
    (fun k s hp => by
      have e1 : s.1 20 0 0 = Int32.ofNat n := by rw [hp.1 20 (by decide)]; exact h.1.2.2.2.2.1
      show f_X6_findDone_2 (k + 1) (Int32.ofNat n) s = _
      rw [f_X6_findDone_2, e1, if_pos (by rw [n_le (by omega) (by omega)]; omega)]) τ ⟨fun _ _ => rfl, rfl, fun f hf => absurd hf (Nat.not_lt_zero f)⟩
  exact ⟨τ', h4, h1, h2, h3⟩
/-- what is for the moment in the reference may change -/
theorem Rl.scr {e0 : Int32} (h : Rl n m e0 σ τ) {τ' : sm_M} (h1 : ∀ φ, φ ≤ 53 → τ'.1 φ = τ.1 φ) : Rl n m e0 σ τ' :=
  h.glob (fun _ _ _ _ _ => rfl) (fun φ _ b => h1 φ b) ⟨by rw [h1 20 (by decide)], by rw [h1 20 (by decide)]⟩ (by unfold bG; rw [h1 20 (by decide)]; exact h.2.1) (by unfold bB; rw [h1 20 (by decide)]; exact h.2.2.1) (Or.inl rfl)
end DONE2
