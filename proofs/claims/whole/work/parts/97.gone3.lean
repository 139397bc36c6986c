section GONE3
variable {n m : Nat} {σ τ s : sm_M} {e0 : Int32} {M : Int32}
theorem it_none {kind : Int32} (h : ∀ t, bt M t = false) {i : Nat} : itc M kind σ i = σ := by
  induction i with
  | zero => rfl
  | succ i ih => rw [itc, ih, if_neg (by rw [h i]; decide)]
theorem mv_none (h : ∀ t, bt M t = false) {i : Nat} : mvc n M σ i = σ := by
  induction i with
  | zero => rfl
  | succ i ih => rw [mvc, ih, if_neg (by rw [h i]; decide)]
theorem ls_none (h : ∀ t, bt M t = false) {i : Nat} : lsc M σ i = σ := by
  induction i with
  | zero => rfl
  | succ i ih => rw [lsc, ih, if_neg (fun q => by rw [h _] at q; cases q.2)]
theorem cN_none {p : Nat → Bool} {i : Nat} (h : ∀ j, j < i → p j = false) : cN p i = 0 := by
  induction i with
  | zero => rfl
  | succ i ih => rw [cN, h i (by omega), ih (fun j hj => h j (by omega))]; rfl
theorem again_none (h : Rl n m e0 σ τ) (hM : ∀ t, bt M t = false) : f_X5_beginAgain M 0 σ = some (0, σ) := by
  have hn := h.n16
  obtain ⟨R, U, eR, hR1, hR2⟩ := e_reg h (F := M) (fun t _ => hM t)
  have hR : ∀ t, bt R t = false := fun t => by
    by_cases ht : t < n
    · by_cases q : bt R t = true
      · exact absurd (hR2.2.2.2 (fun _ => False) (fun _ => False) (fun j _ q => by dsimp only at q; rw [hM j] at q; cases q) (fun j hj => ⟨fun q => q.elim, fun q => q.1.elim⟩) (fun c f g _ _ _ _ _ => ⟨fun q => q.1.elim, fun q => q.1.elim⟩) t ht q) id
      · simpa using q
    · exact hR1 t (by omega)
  obtain ⟨U2, -, eW⟩ := e_rew h (R := R) (till := σ.1 0 0 6 + 16)
  have i1 : mapR σ 4 n (fun j => if bt R j = true then rwT (σ.1 0 0 6 + 16) (σ.1 4 j) else σ.1 4 j) = σ := mapR_id (fun j _ => by rw [hR j]; rfl)
  have i2 : mapR σ 5 m (fun j => rwC (fun t => bt R t) (fun t => bt U2 t) (σ.1 5 j)) = σ := mapR_id (fun j _ => by
    unfold rwC rwC0
    dsimp only
    rw [if_neg (by rw [hR]; decide), if_neg (by rw [hR]; decide)])
  rw [i1, i2] at eW
  have eb := e_bits hn hR1 σ
  rw [cN_none (fun j _ => hR j)] at eb
  rw [f_X5_beginAgain, eR, Option.bind_some]
  dsimp only
  rw [show f_X5_waitAfter 0 σ = some (16, σ) from rfl, Option.bind_some]
  dsimp only
  rw [eW, Option.bind_some, eb, Option.bind_some]
  dsimp only
  rw [sI_s, Option.bind_some, show σ.1 0 0 10 + Int32.ofNat 0 = σ.1 0 0 10 from Int32.add_zero _, w_id]
  rfl
theorem Rl.zero (h : Rl n m e0 σ τ) (h9 : ∀ t, t < n → (σ.1 4 t 8).toInt ≤ 9) (hl : ∀ c, c < m → 0 < (σ.1 5 c 8).toInt → (σ.1 5 c 9).toInt + (σ.1 5 c 8).toInt ≤ (σ.1 5 c 6).toInt) : Rl n m 0 σ τ :=
  h.upd (fun _ _ _ _ _ _ _ => rfl) ⟨rfl, rfl, rfl, rfl, rfl, rfl, rfl⟩ ⟨rfl, rfl⟩ h.2.1 h.2.2.1 (fun t ht => ⟨(h.T ht).1, okT_0 (h.T ht).2 (h9 t ht)⟩) (fun c hc => ⟨(h.C hc).1, by
    obtain ⟨o1, o2, o3, o4, o5, o6, o7, o8, o9⟩ := (h.C hc).2
    exact ⟨o1, o2, o3, o4, o5, o6, o7, o8, fun _ q => hl c hc q⟩⟩) (fun _ _ => ⟨Int.le_refl _, Int.le_refl _, rfl, rfl⟩) (fun _ _ => ⟨Int.le_refl _, rfl, rfl⟩)
theorem Rl.node (h : Rl n m e0 σ τ) {k : Nat} : Rl n m e0 (wI σ 6 0 k 0) (wI τ 50 0 k 1) := by
  obtain ⟨hN, hG, hB, hT, hC, hV, hO, hS, hE, hH⟩ := h
  have a : ∀ φ, φ ≠ 6 → (wI σ 6 0 k 0).1 φ = σ.1 φ := fun φ q => w_ne q
  have b : ∀ φ, φ ≠ 50 → (wI τ 50 0 k 1).1 φ = τ.1 φ := fun φ q => w_ne q
  refine ⟨?_, ?_, ?_, fun t ht => ?_, fun c hc => ?_, ?_, fun j hj => ?_, ?_, ?_, ?_⟩
  · unfold bN; rw [a 1 (by decide), b 20 (by decide)]; exact hN
  · unfold bG; rw [a 0 (by decide), a 3 (by decide), b 20 (by decide)]; exact hG
  · unfold bB; rw [a 0 (by decide), a 3 (by decide), b 20 (by decide)]; exact hB
  · rw [a 4 (by decide)]
    refine ⟨relT_congr (fun φ hφ => ?_) (hT t ht).1, (hT t ht).2⟩
    unfold colK; rw [b φ (by rintro rfl; cases hφ)]
  · rw [a 5 (by decide)]
    refine ⟨relC_congr (fun φ hφ => ?_) (hC c hc).1, (hC c hc).2⟩
    unfold colK; rw [b φ (by rintro rfl; cases hφ)]
  · unfold bV; rw [a 4 (by decide), a 5 (by decide), a 14 (by decide), a 15 (by decide), a 16 (by decide), b 27 (by decide), b 33 (by decide), b 37 (by decide)]; exact hV
  · by_cases e : j = k
    · subst e; rw [w_eq, w_eq]; exact Or.inr ⟨rfl, rfl⟩
    · rw [w_k e, w_k e]; exact hO j hj
  · unfold bS; rw [a 3 (by decide), a 11 (by decide), a 12 (by decide), a 13 (by decide), b 51 (by decide), b 52 (by decide), b 53 (by decide)]; exact hS
  · unfold bE; rw [a 4 (by decide), a 5 (by decide)]; exact hE
  · unfold bH; rw [a 4 (by decide), a 5 (by decide)]; exact hH
theorem e_bl' (h : Rl n m e0 σ s) (h9 : ∀ t, t < n → (σ.1 4 t 8).toInt ≤ 9) {v1 : Int32} (hM : ∀ t, t < n → (bt M t = true ↔ σ.1 4 t 4 = v1)) (hM2 : ∀ t, n ≤ t → bt M t = false) (hs : gS s (fun _ => false) (fun _ => false) s) : ∃ s', f_X6_gone_52 1000 v1 0 0 s = f_X6_gone_110 (mxf M σ n) s' ∧ Rl n m 1 (itc M 2 σ n) s' ∧ gS s' (fun t => bt M t) (fun _ => false) s' := by
  have hn := h.n16
  obtain ⟨x, ⟨h1, h2, h3⟩, h4⟩ := loopE (F := fun f v (x : Int32 × sm_M) => f_X6_gone_52 f v1 x.1 v x.2) (X := fun x => f_X6_gone_110 x.1 x.2) (N := n) (by omega) (fun i x => x.1 = mxf M σ i ∧ Rl n m 1 (itc M 2 σ i) x.2 ∧ gS x.2 (fun t => decide (t < i) && bt M t) (fun _ => false) x.2)
    (fun f i x hi hp => by
      obtain ⟨v2, s⟩ := x
      obtain ⟨p1, p2, p3⟩ := hp
      dsimp only at p1 p2 p3
      subst p1
      have e1 := p2.1.2.2.2.2.1
      have r4 : (itc M 2 σ i).1 4 i = σ.1 4 i := by rw [it_4, if_neg (fun q => Nat.lt_irrefl i q.1)]
      have t23 : s.1 23 0 i = σ.1 4 i 4 := by have := (p2.T hi).1.2.2.1; rw [r4] at this; exact this
      have t30 : s.1 30 0 i = σ.1 4 i 8 := by have := (p2.T hi).1.2.2.2.2.2.2.2.2.1; rw [r4] at this; exact this
      show ∃ x' : Int32 × sm_M, _ ∧ f_X6_gone_52 (f + 1) v1 (mxf M σ i) (Int32.ofNat i) s = f_X6_gone_52 f v1 x'.1 (Int32.ofNat (i + 1)) x'.2
      rw [f_X6_gone_52, e1, if_neg (by rw [n_le (by omega) (by omega)]; omega), aI_n (φ := 23) (by show i < 16; omega) (by omega), Option.bind_some, t23]
      by_cases g : σ.1 4 i 4 = v1
      · have gM := (hM i hi).mpr g
        have eI : itc M 2 σ (i + 1) = blc i 2 (itc M 2 σ i) := by rw [itc, if_pos gM]
        have b30 : (blm i 2 s).1 30 0 i = σ.1 4 i 8 + 1 := by rw [blm_30, w_eq, t30]
        have fin : Rl n m 1 (itc M 2 σ (i + 1)) (wI (blm i 2 s) 58 0 i 1) ∧ gS (wI (blm i 2 s) 58 0 i 1) (fun t => decide (t < i + 1) && bt M t) (fun _ => false) (wI (blm i 2 s) 58 0 i 1) := by
          refine ⟨?_, fun _ _ _ => rfl, rfl, fun t ht => ?_, fun t ht => ?_⟩
          · rw [eI]
            exact (bl1 p2 hi (by rw [r4]; exact h9 i hi)).scr (fun φ hφ => by rw [w_ne (by omega)])
          · rw [w_at, blm_ne (by decide) (by decide) (by decide) (by decide) (by decide)]
            by_cases e : t = i
            · subst e; rw [if_pos rfl]; simp [gM]
            · rw [if_neg e, p3.2.2.1 t ht]
              have : decide (t < i + 1) = decide (t < i) := by
                by_cases q : t < i
                · simp [q, show t < i + 1 by omega]
                · simp [q, show ¬ t < i + 1 by omega]
              simp only [this]
          · rw [w_ne (by decide), blm_ne (by decide) (by decide) (by decide) (by decide) (by decide)]
            exact p3.2.2.2 t ht
        rw [if_pos g, blm_f p2 hi, Option.bind_some, aI_n (φ := 30) (by show i < 16; omega) (by omega), Option.bind_some, b30, Option.bind_some]
        by_cases g2 : mxf M σ i < σ.1 4 i 8 + 1
        · have eX : mxf M σ (i + 1) = σ.1 4 i 8 + 1 := by rw [mxf, if_pos gM, if_pos g2]
          rw [if_neg (by rw [i_le]; rw [i_lt] at g2; omega), f_X6_gone_96, uZ_n (by show i < 16; omega) (by omega) z1, Option.bind_some, f_X6_gone_104, n_inc, eX]
          exact ⟨(_, _), ⟨rfl, fin⟩, rfl⟩
        · have eX : mxf M σ (i + 1) = mxf M σ i := by rw [mxf, if_pos gM, if_neg g2]
          rw [if_pos (by rw [i_le]; rw [i_lt] at g2; omega), f_X6_gone_96, uZ_n (by show i < 16; omega) (by omega) z1, Option.bind_some, f_X6_gone_104, n_inc, eX]
          exact ⟨(_, _), ⟨rfl, fin⟩, rfl⟩
      · have gM : ¬ bt M i = true := fun q => g ((hM i hi).mp q)
        have eI : itc M 2 σ (i + 1) = itc M 2 σ i := by rw [itc, if_neg gM]
        have eX : mxf M σ (i + 1) = mxf M σ i := by rw [mxf, if_neg gM]
        rw [if_neg g, f_X6_gone_104, n_inc, eI, eX]
        refine ⟨(_, s), ⟨rfl, p2, fun _ _ _ => rfl, rfl, fun t ht => ?_, p3.2.2.2⟩, rfl⟩
        have : (decide (t < i + 1) && bt M t) = (decide (t < i) && bt M t) := by
          by_cases e : t = i
          · subst e
            have : bt M t = false := by simpa using gM
            rw [this]; simp
          · by_cases q : t < i
            · simp [q, show t < i + 1 by omega]
            · simp [q, show ¬ t < i + 1 by omega]
        simp only [this]
        exact p3.2.2.1 t ht)
    (fun f x hp => by
      have e1 := hp.2.1.1.2.2.2.2.1
      show f_X6_gone_52 (f + 1) v1 x.1 (Int32.ofNat n) x.2 = _
      rw [f_X6_gone_52, e1, if_pos (by rw [n_le (by omega) (by omega)]; omega)]) (0, s) ⟨rfl, h.one, fun _ _ _ => rfl, rfl, fun t ht => by rw [hs.2.2.1 t ht]; simp, hs.2.2.2⟩
  refine ⟨x.2, ?_, h2, fun _ _ _ => rfl, rfl, fun t ht => ?_, h3.2.2.2⟩
  · rw [← h1]; exact h4
  · rw [h3.2.2.1 t ht]
    by_cases q : t < n
    · simp [q]
    · have := hM2 t (by omega)
      simp [this]
theorem Gd_mask (hM2 : ∀ t, n ≤ t → bt M t = false) : Gd n m σ (fun t => bt M t = true) (fun t => bt M t) (fun _ => false) :=
  ⟨fun _ _ q => q, fun _ _ q => (by cases q), fun t ht => ⟨hM2 t ht, rfl⟩, fun _ _ b1 _ _ => ⟨fun t ht q => b1 t ht q, fun _ _ q => (by cases q)⟩⟩
theorem cN_two {p : Nat → Bool} {k : Nat} (hk : k < 4) (h : 2 ≤ cN p 4) : ∃ j, j < 4 ∧ j ≠ k ∧ p j = true := by
  by_cases q : ∃ j, j < 4 ∧ j ≠ k ∧ p j = true
  · exact q
  · exfalso
    have h1 : ∀ j, j < 4 → j ≠ k → p j = false := fun j hj hne => by
      by_cases q2 : p j = true
      · exact absurd ⟨j, hj, hne, q2⟩ q
      · simpa using q2
    have : cN p 4 ≤ cN (fun j => decide (j = k)) 4 := cN_mono (fun j hj q2 => by
      by_cases e : j = k
      · simp [e]
      · rw [h1 j hj e] at q2; cases q2)
    have h2 : cN (fun j => decide (j = k)) 4 = 1 := by
      have : k = 0 ∨ k = 1 ∨ k = 2 ∨ k = 3 := by omega
      rcases this with rfl | rfl | rfl | rfl <;> rfl
    omega
theorem cN_one {p : Nat → Bool} {k i : Nat} (hk : k < i) (h : p k = true) : 1 ≤ cN p i := by
  have := cN_lt (p := fun _ => false) (q := p) (k := i) (i := k) (fun _ _ q => by cases q) hk rfl h
  omega
end GONE3
