section GROW2
variable {n m : Nat} {σ τ s : sm_M} {F : Nat → Prop} {R U : Nat → Bool}
theorem e_g10 {e0 : Int32} (h : Rl n m e0 σ τ) (hs : gS τ R U s) (hg : Gd n m σ F R U) (k2 : Int32 → sm_M → Option sm_M) : ∃ (v : Int32) (s' : sm_M) (U' : Nat → Bool), f_X6_grow_10 k2 1000 0 0 s = f_X6_grow_59 k2 v s' ∧ gS τ R U' s' ∧ Gd n m σ F R U' ∧ ((v = 0 ∧ U' = U ∧ ∀ t, t < n → R t = true → un m σ U t → U t = true) ∨ (v = 1 ∧ ms R U < ms R U')) := by
  have hn := h.n16
  obtain ⟨⟨v, s'⟩, ⟨U', p1, p2, p3⟩, e⟩ := loopE (F := fun f i (x : Int32 × sm_M) => f_X6_grow_10 k2 f x.1 i x.2) (X := fun x => f_X6_grow_59 k2 x.1 x.2) (N := n) (by omega) (fun i x => ∃ U' : Nat → Bool, gS τ R U' x.2 ∧ Gd n m σ F R U' ∧ ((x.1 = 0 ∧ U' = U ∧ ∀ t, t < i → R t = true → un m σ U t → U t = true) ∨ (x.1 = 1 ∧ ms R U < ms R U')))
    (fun k i x hi hp => by
      obtain ⟨v, s1⟩ := x
      obtain ⟨U1, p1, p2, p3⟩ := hp
      dsimp only at p1 p2 p3
      have e1 : s1.1 20 0 0 = Int32.ofNat n := by rw [p1.1 20 (by decide) (by decide)]; exact h.1.2.2.2.2.1
      show ∃ x' : Int32 × sm_M, _ ∧ f_X6_grow_10 k2 (k + 1) v (Int32.ofNat i) s1 = f_X6_grow_10 k2 k x'.1 (Int32.ofNat (i + 1)) x'.2
      rw [f_X6_grow_10, e1, if_neg (by rw [n_le (by omega) (by omega)]; omega), aI_n (φ := 58) (by show i < 16; omega) (by omega), Option.bind_some, p1.2.2.1 i (by omega)]
      have stay : (R i = true → un m σ U1 i → U1 i = true) → ∃ U' : Nat → Bool, gS τ R U' (v, s1).2 ∧ Gd n m σ F R U' ∧ (((v, s1).1 = 0 ∧ U' = U ∧ ∀ t, t < i + 1 → R t = true → un m σ U t → U t = true) ∨ ((v, s1).1 = 1 ∧ ms R U < ms R U')) := fun hc => by
        refine ⟨U1, p1, p2, ?_⟩
        rcases p3 with ⟨a1, a2, a3⟩ | a
        · refine Or.inl ⟨a1, a2, fun t ht q1 q2 => ?_⟩
          by_cases e : t = i
          · subst e; subst a2; exact hc q1 q2
          · exact a3 t (by omega) q1 q2
        · exact Or.inr a
      by_cases g : R i = true
      · rw [if_pos g, if_neg (by decide), aI_n (φ := 59) (by show i < 16; omega) (by omega), Option.bind_some, p1.2.2.2 i (by omega)]
        by_cases g2 : U1 i = true
        · rw [if_pos g2, if_neg (by decide), f_X6_grow_53, n_inc]
          exact ⟨(v, s1), stay (fun _ _ => g2), rfl⟩
        · rw [if_neg g2, if_pos rfl]
          obtain ⟨b, hb, eu⟩ := e_unst h p1 hi
          rw [eu, Option.bind_some]
          dsimp only
          cases b
          · rw [show (if (false = true) then (1 : Int32) else 0) = 0 from rfl, if_pos rfl, f_X6_grow_53, n_inc]
            exact ⟨(v, s1), stay (fun _ q => absurd (hb.mpr q) (by decide)), rfl⟩
          · rw [show (if (true = true) then (1 : Int32) else 0) = 1 from rfl, if_neg (by decide), uZ_n (by show i < 16; omega) (by omega) z1, Option.bind_some, f_X6_grow_53, n_inc]
            refine ⟨(1, wI s1 59 0 i 1), ⟨sT U1 i, gS_U p1, Gd_U p2 hi g (hb.mp rfl), Or.inr ⟨rfl, ?_⟩⟩, rfl⟩
            have : cN U1 16 < cN (sT U1 i) 16 := sT_lt (by omega) (by simpa using g2)
            unfold ms
            rcases p3 with ⟨a1, a2, a3⟩ | ⟨a1, a2⟩
            · rw [← a2]; omega
            · unfold ms at a2; omega
      · rw [if_neg g, if_pos rfl, f_X6_grow_53, n_inc]
        exact ⟨(v, s1), stay (fun q => absurd q g), rfl⟩)
    (fun k x hp => by
      obtain ⟨v, s1⟩ := x
      obtain ⟨U1, p1, p2, p3⟩ := hp
      have e1 : s1.1 20 0 0 = Int32.ofNat n := by rw [p1.1 20 (by decide) (by decide)]; exact h.1.2.2.2.2.1
      show f_X6_grow_10 k2 (k + 1) v (Int32.ofNat n) s1 = f_X6_grow_59 k2 v s1
      rw [f_X6_grow_10, e1, if_pos (by rw [n_le (by omega) (by omega)]; omega)]) (0, s) ⟨U, hs, hg, Or.inl ⟨rfl, rfl, fun t ht => absurd ht (Nat.not_lt_zero t)⟩⟩
  exact ⟨v, s', U', e, p1, p2, p3⟩
/-- what channel i asks, at R and U -/
theorem e_gC {e0 : Int32} (h : Rl n m e0 σ τ) (hs : gS τ R U s) {i k : Nat} {v : Int32} (k2 : Int32 → sm_M → Option sm_M) (hi : i < m) : ∃ (f g : Nat) (b1 b2 : Bool), σ.1 5 i 1 = Int32.ofNat f ∧ σ.1 5 i 2 = Int32.ofNat g ∧ f < g ∧ g < n ∧ s.1 34 0 i = Int32.ofNat f ∧ s.1 35 0 i = Int32.ofNat g ∧ (b1 = true ↔ (R f = true ∧ (σ.1 5 i 3 = 0 ∨ (U f = true ∧ (σ.1 5 i 9).toInt < (σ.1 5 i 7).toInt ∧ (σ.1 5 i 11).toInt < (σ.1 5 i 7).toInt)))) ∧ (b2 = true ↔ (R g = true ∧ (σ.1 5 i 3 = 0 ∨ 0 < (σ.1 5 i 8).toInt))) ∧
    f_X6_grow_61 k2 (k + 1) v (Int32.ofNat i) s = f_X6_grow_188 k2 (f_X6_grow_61 k2 k) v (Int32.ofNat i) (if b2 = true then 1 else 0) (if b1 = true then 1 else 0) s := by
  have hn := h.n16
  have hm := h.m40
  have e3 : s.1 20 0 14 = Int32.ofNat m := by rw [hs.1 20 (by decide) (by decide)]; exact h.1.2.2.2.2.2
  obtain ⟨f, g, e1, e2, h1, h2⟩ := h.ft hi
  obtain ⟨r1, r2, r3, r4, r5, r6, r7, r9, r10, r11, rL⟩ := (h.C hi).1
  have q34 : s.1 34 0 i = Int32.ofNat f := by rw [hs.1 34 (by decide) (by decide), ← e1]; exact r1
  have q35 : s.1 35 0 i = Int32.ofNat g := by rw [hs.1 35 (by decide) (by decide), ← e2]; exact r2
  have q36 : s.1 36 0 i = σ.1 5 i 3 := by rw [hs.1 36 (by decide) (by decide)]; exact r3
  have q41 : s.1 41 0 i = σ.1 5 i 7 := by rw [hs.1 41 (by decide) (by decide)]; exact r7
  have q42 : s.1 42 0 i = 0 ↔ ¬ 0 < (σ.1 5 i 8).toInt := by
    rw [hs.1 42 (by decide) (by decide)]
    rcases rL with ⟨a, b⟩ | ⟨a, b, c⟩
    · have a' : τ.1 42 0 i = 0 := a
      rw [a', b]; simp
    · have a' : τ.1 42 0 i = 1 := a
      rw [a']; simp [c]
  have q47 : s.1 47 0 i = σ.1 5 i 9 := by rw [hs.1 47 (by decide) (by decide)]; exact r9
  have q49 : s.1 49 0 i = σ.1 5 i 11 := by rw [hs.1 49 (by decide) (by decide)]; exact r11
  have a1 : ∀ (φ : Nat), fL φ = 40 → aI φ s 0 (Int32.ofNat i) = some (s.1 φ 0 i) := fun φ hφ => aI_n (by rw [hφ]; omega) (by omega)
  have bf58 : aI 58 s 0 (Int32.ofNat f) = some (if R f = true then 1 else 0) := by rw [aI_n (by show f < 16; omega) (by omega), hs.2.2.1 f (by omega)]
  have bg58 : aI 58 s 0 (Int32.ofNat g) = some (if R g = true then 1 else 0) := by rw [aI_n (by show g < 16; omega) (by omega), hs.2.2.1 g (by omega)]
  have bf59 : aI 59 s 0 (Int32.ofNat f) = some (if U f = true then 1 else 0) := by rw [aI_n (by show f < 16; omega) (by omega), hs.2.2.2 f (by omega)]
  obtain ⟨b1, hb1⟩ := em_b (R f = true ∧ (σ.1 5 i 3 = 0 ∨ (U f = true ∧ (σ.1 5 i 9).toInt < (σ.1 5 i 7).toInt ∧ (σ.1 5 i 11).toInt < (σ.1 5 i 7).toInt)))
  obtain ⟨b2, hb2⟩ := em_b (R g = true ∧ (σ.1 5 i 3 = 0 ∨ 0 < (σ.1 5 i 8).toInt))
  refine ⟨f, g, b1, b2, e1, e2, h1, h2, q34, q35, hb1, hb2, ?_⟩
  have A106 : ∀ x : Int32, f_X6_grow_106 k2 (f_X6_grow_61 k2 k) v (Int32.ofNat i) x s = f_X6_grow_188 k2 (f_X6_grow_61 k2 k) v (Int32.ofNat i) x (if b1 = true then 1 else 0) s := fun x => by
    rw [f_X6_grow_106, a1 34 rfl, Option.bind_some, q34, bf58, Option.bind_some]
    by_cases p1 : R f = true
    · rw [if_pos p1, if_neg (by decide), a1 36 rfl, Option.bind_some, q36]
      by_cases p2 : σ.1 5 i 3 = 0
      · rw [if_pos p2, f_X6_grow_183, if_pos (hb1.mpr ⟨p1, Or.inl p2⟩)]
      · rw [if_neg p2, Option.bind_some, bf59, Option.bind_some]
        by_cases p3 : U f = true
        · rw [if_pos p3, if_neg (by decide), a1 41 rfl, Option.bind_some, a1 47 rfl, Option.bind_some, a1 49 rfl, Option.bind_some, q41, q47, q49]
          by_cases p4 : σ.1 5 i 9 ≤ σ.1 5 i 11
          · rw [if_pos p4, Option.bind_some, f_X6_grow_180]
            rw [i_le] at p4
            by_cases p5 : (σ.1 5 i 7).toInt ≤ (σ.1 5 i 11).toInt
            · rw [if_pos (by rw [i_le]; exact p5), f_X6_grow_187, if_neg]
              intro q
              rcases (hb1.mp q).2 with q | q
              · exact p2 q
              · omega
            · rw [if_neg (by rw [i_le]; exact p5), f_X6_grow_183, if_pos (hb1.mpr ⟨p1, Or.inr ⟨p3, by omega, by omega⟩⟩)]
          · rw [if_neg p4, Option.bind_some, f_X6_grow_180]
            rw [i_le] at p4
            by_cases p5 : (σ.1 5 i 7).toInt ≤ (σ.1 5 i 9).toInt
            · rw [if_pos (by rw [i_le]; exact p5), f_X6_grow_187, if_neg]
              intro q
              rcases (hb1.mp q).2 with q | q
              · exact p2 q
              · omega
            · rw [if_neg (by rw [i_le]; exact p5), f_X6_grow_183, if_pos (hb1.mpr ⟨p1, Or.inr ⟨p3, by omega, by omega⟩⟩)]
        · rw [if_neg p3, if_pos rfl, f_X6_grow_187, if_neg]
          intro q
          rcases (hb1.mp q).2 with q | q
          · exact p2 q
          · exact p3 q.1
    · rw [if_neg p1, if_pos rfl, f_X6_grow_187, if_neg (fun q => p1 (hb1.mp q).1)]
  rw [f_X6_grow_61, e3, if_neg (by rw [n_le (by omega) (by omega)]; omega), a1 35 rfl, Option.bind_some, q35, bg58, Option.bind_some]
  by_cases p1 : R g = true
  · rw [if_pos p1, if_neg (by decide), a1 36 rfl, Option.bind_some, q36]
    by_cases p2 : σ.1 5 i 3 = 0
    · rw [if_pos p2, f_X6_grow_101, A106, if_pos (hb2.mpr ⟨p1, Or.inl p2⟩)]
    · rw [if_neg p2, a1 42 rfl, Option.bind_some]
      by_cases p3 : 0 < (σ.1 5 i 8).toInt
      · rw [if_neg (fun q => (q42.mp q) p3), f_X6_grow_101, A106, if_pos (hb2.mpr ⟨p1, Or.inr p3⟩)]
      · have nb : ¬ b2 = true := fun q => by
          rcases (hb2.mp q).2 with q | q
          · exact p2 q
          · exact p3 q
        rw [if_pos (q42.mpr p3), f_X6_grow_105, A106, if_neg nb]
  · rw [if_neg p1, if_pos rfl, f_X6_grow_105, A106, if_neg (fun q => p1 (hb2.mp q).1)]
theorem e_g61 {e0 : Int32} (h : Rl n m e0 σ τ) (hs : gS τ R U s) (hg : Gd n m σ F R U) (k2 : Int32 → sm_M → Option sm_M) (v0 : Int32) : ∃ (v : Int32) (s' : sm_M) (R' : Nat → Bool), f_X6_grow_59 k2 v0 s = k2 v s' ∧ gS τ R' U s' ∧ Gd n m σ F R' U ∧ ((v = v0 ∧ R' = R ∧ ClS m σ (fun t => R t = true) (fun t => U t = true)) ∨ (v = 1 ∧ ms R U < ms R' U)) := by
  have hn := h.n16
  have hm := h.m40
  obtain ⟨⟨v, s'⟩, ⟨R', p1, p2, p3⟩, e⟩ := loopE (F := fun f i (x : Int32 × sm_M) => f_X6_grow_61 k2 f x.1 i x.2) (X := fun x => k2 x.1 x.2) (N := m) (by omega) (fun i x => ∃ R' : Nat → Bool, gS τ R' U x.2 ∧ Gd n m σ F R' U ∧ ((x.1 = v0 ∧ R' = R ∧ ∀ c f g : Nat, c < i → f < 16 → g < 16 → σ.1 5 c 1 = Int32.ofNat f → σ.1 5 c 2 = Int32.ofNat g → ClC σ (fun t => R t = true) (fun t => U t = true) c f g) ∨ (x.1 = 1 ∧ ms R U < ms R' U)))
    (fun k i x hi hp => by
      obtain ⟨v, s1⟩ := x
      obtain ⟨R1, p1, p2, p3⟩ := hp
      dsimp only at p1 p2 p3
      obtain ⟨f, g, b1, b2, e1, e2, h1, h2, q34, q35, hb1, hb2, st⟩ := e_gC h p1 (v := v) (k := k) k2 hi
      show ∃ x' : Int32 × sm_M, _ ∧ f_X6_grow_61 k2 (k + 1) v (Int32.ofNat i) s1 = f_X6_grow_61 k2 k x'.1 (Int32.ofNat (i + 1)) x'.2
      rw [st]
      have a1 : ∀ (φ : Nat) (ρ : sm_M), fL φ = 40 → aI φ ρ 0 (Int32.ofNat i) = some (ρ.1 φ 0 i) := fun φ ρ hφ => aI_n (by rw [hφ]; omega) (by omega)
      -- the two steps
      have A222 : ∀ (v' : Int32) (s2 : sm_M) (R2 : Nat → Bool), gS τ R2 U s2 → Gd n m σ F R2 U → s2.1 35 0 i = Int32.ofNat g → (∀ j, R1 j = true → R2 j = true) → ∃ (v3 : Int32) (s3 : sm_M) (R3 : Nat → Bool), f_X6_grow_222 k2 (f_X6_grow_61 k2 k) v' (Int32.ofNat i) (if b1 = true then 1 else 0) s2 = f_X6_grow_61 k2 k v3 (Int32.ofNat (i + 1)) s3 ∧ gS τ R3 U s3 ∧ Gd n m σ F R3 U ∧ ((v3 = v' ∧ R3 = R2 ∧ (b1 = true → R2 g = true)) ∨ (v3 = 1 ∧ ms R2 U < ms R3 U)) := fun v' s2 R2 c1 c2 c3 c4 => by
        rw [f_X6_grow_222]
        cases b1
        · rw [show (if (false = true) then (1 : Int32) else 0) = 0 from rfl, if_pos rfl, f_X6_grow_255, n_inc]
          exact ⟨v', s2, R2, rfl, c1, c2, Or.inl ⟨rfl, rfl, fun q => (by cases q)⟩⟩
        · rw [show (if (true = true) then (1 : Int32) else 0) = 1 from rfl, if_neg (by decide), a1 35 _ rfl, Option.bind_some, c3, aI_n (φ := 58) (by show g < 16; omega) (by omega), Option.bind_some, c1.2.2.1 g (by omega)]
          by_cases d : R2 g = true
          · rw [if_pos d, if_neg (by decide), f_X6_grow_255, n_inc]
            exact ⟨v', s2, R2, rfl, c1, c2, Or.inl ⟨rfl, rfl, fun _ => d⟩⟩
          · rw [if_neg d, if_pos rfl, Option.bind_some, uZ_n (by show g < 16; omega) (by omega) z1, Option.bind_some, f_X6_grow_255, n_inc]
            refine ⟨1, wI s2 58 0 g 1, sT R2 g, rfl, gS_R c1, Gd_R c2 h2 (fun R' U' x1 x2 x3 => ?_), Or.inr ⟨rfl, ?_⟩⟩
            · have y := c2.2.2.2 R' U' x1 x2 x3
              have hb := hb1.mp rfl
              refine (x3 i f g hi (by omega) (by omega) e1 e2).1 ⟨y.1 f (by omega) (c4 f hb.1), ?_⟩
              rcases hb.2 with z | ⟨z, z2⟩
              · exact Or.inl z
              · exact Or.inr ⟨y.2 f (by omega) z, z2⟩
            · have := sT_lt (p := R2) (i := g) (by omega) (by simpa using d)
              unfold ms; omega
      have A188 : ∃ (v2 : Int32) (s2 : sm_M) (R2 : Nat → Bool), f_X6_grow_188 k2 (f_X6_grow_61 k2 k) v (Int32.ofNat i) (if b2 = true then 1 else 0) (if b1 = true then 1 else 0) s1 = f_X6_grow_222 k2 (f_X6_grow_61 k2 k) v2 (Int32.ofNat i) (if b1 = true then 1 else 0) s2 ∧ gS τ R2 U s2 ∧ Gd n m σ F R2 U ∧ s2.1 35 0 i = Int32.ofNat g ∧ (∀ j, R1 j = true → R2 j = true) ∧ ((v2 = v ∧ R2 = R1 ∧ (b2 = true → R1 f = true)) ∨ (v2 = 1 ∧ ms R1 U < ms R2 U)) := by
        rw [f_X6_grow_188]
        cases b2
        · rw [show (if (false = true) then (1 : Int32) else 0) = 0 from rfl, if_pos rfl]
          exact ⟨v, s1, R1, rfl, p1, p2, q35, fun _ q => q, Or.inl ⟨rfl, rfl, fun q => (by cases q)⟩⟩
        · rw [show (if (true = true) then (1 : Int32) else 0) = 1 from rfl, if_neg (by decide), a1 34 _ rfl, Option.bind_some, q34, aI_n (φ := 58) (by show f < 16; omega) (by omega), Option.bind_some, p1.2.2.1 f (by omega)]
          by_cases d : R1 f = true
          · rw [if_pos d, if_neg (by decide)]
            exact ⟨v, s1, R1, rfl, p1, p2, q35, fun _ q => q, Or.inl ⟨rfl, rfl, fun _ => d⟩⟩
          · rw [if_neg d, if_pos rfl, Option.bind_some, uZ_n (by show f < 16; omega) (by omega) z1, Option.bind_some]
            refine ⟨1, wI s1 58 0 f 1, sT R1 f, rfl, gS_R p1, Gd_R p2 (by omega) (fun R' U' x1 x2 x3 => ?_), by rw [w_ne (by decide)]; exact q35, fun j q => by simp [sT, q], Or.inr ⟨rfl, ?_⟩⟩
            · have y := p2.2.2.2 R' U' x1 x2 x3
              have hb := hb2.mp rfl
              exact (x3 i f g hi (by omega) (by omega) e1 e2).2 ⟨y.1 g (by omega) hb.1, hb.2⟩
            · have := sT_lt (p := R1) (i := f) (by omega) (by simpa using d)
              unfold ms; omega
      obtain ⟨v2, s2, R2, st2, c1, c2, c3, c4, c5⟩ := A188
      obtain ⟨v3, s3, R3, st3, d1, d2, d3⟩ := A222 v2 s2 R2 c1 c2 c3 c4
      refine ⟨(v3, s3), ⟨R3, d1, d2, ?_⟩, st2.trans st3⟩
      have m12 : ms R1 U ≤ ms R2 U := by
        rcases c5 with ⟨-, c6, -⟩ | ⟨-, c6⟩
        · rw [c6]; exact Nat.le_refl _
        · omega
      rcases d3 with ⟨d4, d5, d6⟩ | ⟨d4, d5⟩
      · rcases c5 with ⟨c6, c7, c8⟩ | ⟨c6, c7⟩
        · rcases p3 with ⟨p4, p5, p6⟩ | ⟨p4, p5⟩
          · refine Or.inl ⟨by show v3 = v0; rw [d4, c6, p4], by rw [d5, c7, p5], fun c f' g' hc hf' hg' x1 x2 => ?_⟩
            by_cases e : c = i
            · subst e
              rw [e1, n_eq (by omega) (by omega)] at x1
              rw [e2, n_eq (by omega) (by omega)] at x2
              subst x1; subst x2
              subst p5; subst c7
              exact ⟨fun q => d6 (hb1.mpr q), fun q => c8 (hb2.mpr q)⟩
            · exact p6 c f' g' (by omega) hf' hg' x1 x2
          · refine Or.inr ⟨by show v3 = 1; rw [d4, c6, p4], ?_⟩
            rw [d5, c7]; exact p5
        · refine Or.inr ⟨by show v3 = 1; rw [d4, c6], ?_⟩
          rw [d5]
          rcases p3 with ⟨-, p5, -⟩ | ⟨-, p5⟩
          · rw [← p5]; exact c7
          · omega
      · refine Or.inr ⟨d4, ?_⟩
        rcases p3 with ⟨-, p5, -⟩ | ⟨-, p5⟩
        · rw [← p5]; omega
        · omega)
    (fun k x hp => by
      obtain ⟨v, s1⟩ := x
      obtain ⟨R1, p1, p2, p3⟩ := hp
      have e3 : s1.1 20 0 14 = Int32.ofNat m := by rw [p1.1 20 (by decide) (by decide)]; exact h.1.2.2.2.2.2
      show f_X6_grow_61 k2 (k + 1) v (Int32.ofNat m) s1 = k2 v s1
      rw [f_X6_grow_61, e3, if_pos (by rw [n_le (by omega) (by omega)]; omega), f_X6_grow_261]) (v0, s) ⟨R, hs, hg, Or.inl ⟨rfl, rfl, fun c f g hc => absurd hc (Nat.not_lt_zero c)⟩⟩
  refine ⟨v, s', R', e, p1, p2, ?_⟩
  rcases p3 with ⟨a1, a2, a3⟩ | a
  · exact Or.inl ⟨a1, a2, a3⟩
  · exact Or.inr a
theorem e_grow {e0 : Int32} (h : Rl n m e0 σ τ) (hs : gS τ R U s) (hg : Gd n m σ F R U) : ∃ (s' : sm_M) (R' U' : Nat → Bool), f_X6_grow s = some s' ∧ gS τ R' U' s' ∧ (∀ t, n ≤ t → R' t = false) ∧ Reg n m σ F (fun t => R' t = true) (fun t => U' t = true) := by
  have main : ∀ (d f : Nat) (R U : Nat → Bool) (s : sm_M), gS τ R U s → Gd n m σ F R U → 32 - ms R U ≤ d → d + 2 ≤ f → ∃ (s' : sm_M) (R' U' : Nat → Bool), f_X6_grow_2 f 1 s = some s' ∧ gS τ R' U' s' ∧ (∀ t, n ≤ t → R' t = false) ∧ Reg n m σ F (fun t => R' t = true) (fun t => U' t = true) := by
    intro d
    induction d with
    | zero =>
      intro f R U s hs hg hd hf
      obtain ⟨f, rfl⟩ : ∃ g, f = g + 2 := ⟨f - 2, by omega⟩
      obtain ⟨v, s1, U1, st1, p1, p2, p3⟩ := e_g10 h hs hg (f_X6_grow_2 (f + 1))
      obtain ⟨v', s2, R2, st2, q1, q2, q3⟩ := e_g61 h p1 p2 (f_X6_grow_2 (f + 1)) v
      have hms : ms R U ≤ 32 := by unfold ms; have := cN_le R 16; have := cN_le U 16; omega
      have hms1 : ms R U1 ≤ 32 := by unfold ms; have := cN_le R 16; have := cN_le U1 16; omega
      have hms2 : ms R2 U1 ≤ 32 := by unfold ms; have := cN_le R2 16; have := cN_le U1 16; omega
      rcases p3 with ⟨a1, a2, a3⟩ | ⟨a1, a2⟩
      · rcases q3 with ⟨b1, b2, b3⟩ | ⟨b1, b2⟩
        · rw [f_X6_grow_2, if_neg (by decide), st1, st2]
          subst a2; subst b2
          refine ⟨s2, R2, U1, by rw [b1, a1, f_X6_grow_2, if_pos rfl], q1, fun t ht => (q2.2.2.1 t ht).1, q2.1, fun t ht => ⟨fun x => q2.2.1 t ht x, fun x => a3 t ht x.1 x.2⟩, b3, fun R' U' x1 x2 x3 => (q2.2.2.2 R' U' x1 x2 x3).1⟩
        · subst a2; omega
      · omega
    | succ d ih =>
      intro f R U s hs hg hd hf
      obtain ⟨f, rfl⟩ : ∃ g, f = g + 2 := ⟨f - 2, by omega⟩
      obtain ⟨v, s1, U1, st1, p1, p2, p3⟩ := e_g10 h hs hg (f_X6_grow_2 (f + 1))
      obtain ⟨v', s2, R2, st2, q1, q2, q3⟩ := e_g61 h p1 p2 (f_X6_grow_2 (f + 1)) v
      have le1 : ms R U ≤ ms R U1 := by
        rcases p3 with ⟨a1, a2, a3⟩ | ⟨a1, a2⟩
        · rw [a2]; exact Nat.le_refl _
        · omega
      have le2 : ms R U1 ≤ ms R2 U1 := by
        rcases q3 with ⟨a1, a2, a3⟩ | ⟨a1, a2⟩
        · rw [a2]; exact Nat.le_refl _
        · omega
      rw [f_X6_grow_2, if_neg (by decide), st1, st2]
      rcases q3 with ⟨b1, b2, b3⟩ | ⟨b1, b2⟩
      · rcases p3 with ⟨a1, a2, a3⟩ | ⟨a1, a2⟩
        · subst a2; subst b2
          exact ⟨s2, R2, U1, by rw [b1, a1, f_X6_grow_2, if_pos rfl], q1, fun t ht => (q2.2.2.1 t ht).1, q2.1, fun t ht => ⟨fun x => q2.2.1 t ht x, fun x => a3 t ht x.1 x.2⟩, b3, fun R' U' x1 x2 x3 => (q2.2.2.2 R' U' x1 x2 x3).1⟩
        · rw [b1, a1]
          exact ih (f + 1) R2 U1 s2 q1 q2 (by omega) (by omega)
      · rw [b1]
        exact ih (f + 1) R2 U1 s2 q1 q2 (by omega) (by omega)
  exact main 32 1000 R U s hs hg (by omega) (by omega)
end GROW2
