section T1
variable {n m t : Nat} {σ τ ρ ς : sm_M} {M R v : Int32} {l : List (Option Nat × Int32)}
theorem Lm_Fr (h : Fr m t σ ς) {j : Nat} : Lm t ς j ↔ Lm t σ j := by unfold Lm; rw [h.2.2.1 7 (by decide) (by decide) (by decide)]
theorem Con_nil {th : Bool} (hE : Enc σ ρ l th R) (hl : l.length ≤ 8) (hR : Run m t M th l.length [] (exL m t l σ)) : Con m t M σ l (some ρ) := ⟨ρ, [], th, R, rfl, by simpa using hE, hR, by simpa using hl⟩
theorem tm_0 (hE : Enc σ ρ l true R) (o7 : 1 ≤ (σ.1 4 t 7).toInt ∧ (σ.1 4 t 7).toInt ≤ 8) (hl : l.length ≤ 8) : f_X3_takesMore t ρ = some (0, ρ) := by
  obtain ⟨b, hb, eb⟩ := e_tm hE o7 hl
  cases b with
  | false => exact eb
  | true => cases (hb.mp rfl).1
theorem e_src (h : Rl n m 0 σ τ) (ht : t < n) (k0 : σ.1 4 t 2 = 0) : ∀ (d f : Nat) (l : List (Option Nat × Int32)) (ρ : sm_M) (R v3 : Int32), d + l.length = 8 → d + 2 ≤ f → Inv n m t M σ 0 l ρ R → v3 = (exL m t l σ).1 4 t 11 → Con m t M σ l (f_X3_fillFromSource_5 f t (Int32.ofNat t) v3 ρ) := by
  have o := (h.T ht).2
  have o7 := o.2.2.2.2.1
  have o10 := o.2.2.2.2.2.2.2.1
  intro d
  induction d with
  | zero =>
    intro f l ρ R v3 hd hf hI hv
    obtain ⟨f, rfl⟩ : ∃ g, f = g + 1 := ⟨f - 1, by omega⟩
    obtain ⟨a1, ⟨τ1, a2⟩, a3, a4, a5, a6, a7⟩ := id hI
    have e4 : ρ.1 4 = σ.1 4 := a1.1 4 (by decide) (by decide) (by decide)
    have k2 : (exL m t l σ).1 4 t 2 = 0 := by rw [a3.2.2.1 2 (by decide) (by decide) (by decide)]; exact k0
    have k3 : (exL m t l σ).1 4 t 3 = σ.1 4 t 3 := a3.2.2.1 3 (by decide) (by decide) (by decide)
    have nL : ¬ Lm t (exL m t l σ) l.length := by rw [Lm_Fr a3]; unfold Lm; omega
    have fin : Run m t M false l.length [] (exL m t l σ) := Or.inl ⟨rfl, Or.inr (Or.inl nL)⟩
    rw [f_X3_fillFromSource_5]
    by_cases g : ρ.1 4 t 3 ≤ v3
    · rw [if_pos g]; exact Con_nil a1 a5 fin
    · obtain ⟨b, hb, eb⟩ := e_tm (t := t) a1 o7 a5
      rw [if_neg g, eb, Option.bind_some]
      cases b with
      | false => exact Con_nil a1 a5 fin
      | true => exact absurd ((Lm_Fr a3).mpr (hb.mp rfl).2.1) nL
  | succ d ih =>
    intro f l ρ R v3 hd hf hI hv
    obtain ⟨f, rfl⟩ : ∃ g, f = g + 1 := ⟨f - 1, by omega⟩
    obtain ⟨a1, ⟨τ1, a2⟩, a3, a4, a5, a6, a7⟩ := id hI
    have e4 : ρ.1 4 = σ.1 4 := a1.1 4 (by decide) (by decide) (by decide)
    have k2 : (exL m t l σ).1 4 t 2 = 0 := by rw [a3.2.2.1 2 (by decide) (by decide) (by decide)]; exact k0
    have k3 : (exL m t l σ).1 4 t 3 = σ.1 4 t 3 := a3.2.2.1 3 (by decide) (by decide) (by decide)
    rw [f_X3_fillFromSource_5, e4, ← k3, hv]
    by_cases g : (exL m t l σ).1 4 t 3 ≤ (exL m t l σ).1 4 t 11
    · rw [if_pos g]
      rw [i_le] at g
      refine Con_nil a1 a5 (Or.inl ⟨rfl, Or.inl (fun c v q => ?_)⟩)
      cases c with
      | none => have := q.2.1; omega
      | some k => exact q.1 k2
    · obtain ⟨b, hb, eb⟩ := e_tm (t := t) a1 o7 a5
      rw [if_neg g, eb, Option.bind_some]
      dsimp only
      rw [i_le] at g
      have hA : Av m t M (exL m t l σ) none (srcV t ((exL m t l σ).1 4 t 11)) := ⟨k2, by omega, rfl⟩
      by_cases gb : b = true
      · obtain ⟨-, b2, b3⟩ := hb.mp gb
        have hL := (Lm_Fr a3).mpr b2
        have hR := (Rr_pos a2 ht a5 a4).mp b3
        obtain ⟨ρ', p1, p2⟩ := e_add (t := t) (m := m) (v := srcV t ((exL m t l σ).1 4 t 11)) (c := none) a1 o10 (by omega) a3 a6
        rw [if_pos gb, if_neg (show ¬ (1 : Int32) = 0 by decide), if_neg (by decide)]
        have e1 : f_X3_add t (-9 : Int32) ((((5 : Int32) * Int32.ofNat t) + ((3 : Int32) * ((exL m t l σ).1 4 t 11))) - (((5 : Int32) * Int32.ofNat t) + ((3 : Int32) * ((exL m t l σ).1 4 t 11))) / (20 : Int32) * (20 : Int32)) ρ = some ρ' := p1
        rw [e1, Option.bind_some]
        rcases p2 with ⟨q1, q2⟩ | ⟨q1, q2⟩
        · have fin : Con m t M σ l (some ρ') := Con_nil q2 a5 (Or.inr ⟨rfl, none, _, hA, hL, hR, q1⟩)
          obtain ⟨f, rfl⟩ : ∃ g, f = g + 1 := ⟨f - 1, by omega⟩
          rw [f_X3_fillFromSource_5]
          by_cases g2 : ρ'.1 4 t 3 ≤ (exL m t l σ).1 4 t 11 + 1
          · rw [if_pos g2]; exact fin
          · rw [if_neg g2, tm_0 q2 o7 a5, Option.bind_some, if_pos rfl]; exact fin
        · refine Con_app (y := (none, srcV t ((exL m t l σ).1 4 t 11))) (ih f _ ρ' _ _ (by simp; omega) (by omega) (Inv_step hI ht hA hL hR q2 o7.2 (fun k q => by cases q)) ?_) ⟨hA, hL, hR, q1⟩
          rw [exL_app, ex_11]
      · rw [if_neg gb, if_pos rfl]
        refine Con_nil a1 a5 (Or.inl ⟨rfl, Or.inr ?_⟩)
        by_cases gL : Lm t (exL m t l σ) l.length
        · refine Or.inr (fun q => gb (hb.mpr ⟨rfl, (Lm_Fr a3).mp gL, (Rr_pos a2 ht a5 a4).mpr q⟩))
        · exact Or.inl gL
theorem e_50 {i f0 f2 : Nat} {v7 : Int32} (hf : f0 < 16) (e1 : ρ.1 5 i 1 = Int32.ofNat f0) (k16 : Int32 → Nat → Int32 → Int32 → sm_M → Option sm_M) : f_X3_fillFromChannels_50 k16 (f2 + 1) (Int32.ofNat t) t M (Int32.ofNat i) i v7 ρ =
    if ¬ (ρ.1 5 i 4).toInt ≤ v7.toInt ∧ ¬ (bt M f0 = true ∧ (ρ.1 5 i 5).toInt ≤ v7.toInt) then
      (f_X3_takesMore t ρ).bind fun q2 => if q2.1 = 0 then f_X3_fillFromChannels_101 k16 (Int32.ofNat t) t M (Int32.ofNat i) i v7 q2.2 else
        (aI 16 q2.2 i v7).bind fun x3 => (f_X3_add t (Int32.ofNat i) x3 q2.2).bind fun q4 => f_X3_fillFromChannels_50 k16 f2 (Int32.ofNat t) t M (Int32.ofNat i) i (v7 + 1) q4
    else f_X3_fillFromChannels_101 k16 (Int32.ofNat t) t M (Int32.ofNat i) i v7 ρ := by
  rw [f_X3_fillFromChannels_50]
  by_cases g : ρ.1 5 i 4 ≤ v7
  · rw [if_pos g, if_neg (fun q => q.1 (by rw [i_le] at g; exact g))]
  · rw [if_neg g, e_over hf e1, Option.bind_some]
    dsimp only
    rw [i_le] at g
    by_cases g2 : bt M f0 = true ∧ (ρ.1 5 i 5).toInt ≤ v7.toInt
    · rw [if_pos g2, if_neg (show ¬ (1 : Int32) = 0 by decide), if_neg (fun q => q.2 g2)]
    · rw [if_neg g2, if_pos rfl, if_pos ⟨g, g2⟩]
theorem e_91 {i f0 : Nat} {v7 : Int32} (hf : f0 < 16) (e1 : ρ.1 5 i 1 = Int32.ofNat f0) (k16 : Int32 → Nat → Int32 → Int32 → sm_M → Option sm_M) : f_X3_fillFromChannels_101 k16 (Int32.ofNat t) t M (Int32.ofNat i) i v7 ρ = if bt M f0 = true ∧ (ρ.1 5 i 5).toInt ≤ v7.toInt then k16 (Int32.ofNat t) t M (Int32.ofNat (i + 1)) ρ else some ρ := by
  rw [f_X3_fillFromChannels_101, e_over hf e1, Option.bind_some]
  dsimp only
  by_cases g2 : bt M f0 = true ∧ (ρ.1 5 i 5).toInt ≤ v7.toInt
  · rw [if_pos g2, if_neg (show ¬ (1 : Int32) = 0 by decide), if_pos g2, f_X3_fillFromChannels_114, n_inc]
  · rw [if_neg g2, if_pos rfl, if_neg g2]
theorem e_st50 {i f0 f2 : Nat} {v7 : Int32} (hf : f0 < 16) (e1 : ρ.1 5 i 1 = Int32.ofNat f0) (k16 : Int32 → Nat → Int32 → Int32 → sm_M → Option sm_M) (hD : k16 (Int32.ofNat t) t M (Int32.ofNat (i + 1)) ρ = some ρ) (h0 : f_X3_takesMore t ρ = some (0, ρ)) : f_X3_fillFromChannels_50 k16 (f2 + 1) (Int32.ofNat t) t M (Int32.ofNat i) i v7 ρ = some ρ := by
  have e91 : f_X3_fillFromChannels_101 k16 (Int32.ofNat t) t M (Int32.ofNat i) i v7 ρ = some ρ := by
    rw [e_91 hf e1, hD]
    by_cases g2 : bt M f0 = true ∧ (ρ.1 5 i 5).toInt ≤ v7.toInt
    · rw [if_pos g2]
    · rw [if_neg g2]
  rw [e_50 hf e1, e91, h0, Option.bind_some, if_pos rfl]
  dsimp only
  rw [e91]
  split <;> rfl
theorem e_stk (h : Rl n m 0 σ τ) {th : Bool} (hE : Enc σ ρ l th R) (h0 : f_X3_takesMore t ρ = some (0, ρ)) : ∀ (k i f : Nat), i + k = m → k < f → f_X3_fillFromChannels_16 f (Int32.ofNat t) t M (Int32.ofNat i) ρ = some ρ := by
  have hn := h.n16
  have hm := h.m40
  have e3 : ρ.1 1 0 3 = Int32.ofNat m := by rw [hE.1 1 (by decide) (by decide) (by decide)]; exact h.1.2.2.2.1
  have e5 : ρ.1 5 = σ.1 5 := hE.1 5 (by decide) (by decide) (by decide)
  intro k
  induction k with
  | zero =>
    intro i f hi hf
    obtain ⟨f, rfl⟩ : ∃ g, f = g + 1 := ⟨f - 1, by omega⟩
    rw [f_X3_fillFromChannels_16, e3, if_pos (by rw [n_le (by omega) (by omega)]; omega)]
  | succ k ih =>
    intro i f hi hf
    obtain ⟨f, rfl⟩ : ∃ g, f = g + 1 := ⟨f - 1, by omega⟩
    obtain ⟨f0, g0, b1, b2, b3, b4⟩ := h.ft (show i < m by omega)
    rw [f_X3_fillFromChannels_16, e3, if_neg (by rw [n_le (by omega) (by omega)]; omega), aP_n (by show i < 40; omega) (by omega), Option.bind_some]
    have d := ih (i + 1) f (by omega) (by omega)
    rw [e_st50 (show f0 < 16 by omega) (by rw [e5]; exact b1) _ d h0, f_X3_fillFromChannels_114, n_inc, d]
    split <;> rfl
theorem e_inn (h : Rl n m 0 σ τ) (ht : t < n) (k0 : σ.1 4 t 2 ≠ 0) {i : Nat} (hi : i < m) (hti : σ.1 5 i 2 = Int32.ofNat t) (k16 : Int32 → Nat → Int32 → Int32 → sm_M → Option sm_M)
    (HK : ∀ l ρ R, Inv n m t M σ (i + 1) l ρ R → (∀ c, i + 1 ≤ c → (exL m t l σ).1 5 c 6 = σ.1 5 c 6) → Con m t M σ l (k16 (Int32.ofNat t) t M (Int32.ofNat (i + 1)) ρ))
    (HD : ∀ ρ l th R, Enc σ ρ l th R → f_X3_takesMore t ρ = some (0, ρ) → k16 (Int32.ofNat t) t M (Int32.ofNat (i + 1)) ρ = some ρ) :
    ∀ (d f : Nat) (l : List (Option Nat × Int32)) (ρ : sm_M) (R : Int32), d + l.length = 8 → d + 2 ≤ f → Inv n m t M σ i l ρ R → (∀ c, i + 1 ≤ c → (exL m t l σ).1 5 c 6 = σ.1 5 c 6) → Con m t M σ l (f_X3_fillFromChannels_50 k16 f (Int32.ofNat t) t M (Int32.ofNat i) i ((exL m t l σ).1 5 i 6) ρ) := by
  have hn := h.n16
  have hm := h.m40
  have o := (h.T ht).2
  have o7 := o.2.2.2.2.1
  have o10 := o.2.2.2.2.2.2.2.1
  obtain ⟨f0, g0, b1, b2, b3, b4⟩ := h.ft hi
  have hg0 : g0 = t := by
    have := hti
    rw [b2, n_eq (by omega) (by omega)] at this
    exact this
  intro d
  induction d with
  | zero =>
    intro f l ρ R hd hf hI hU
    obtain ⟨f, rfl⟩ : ∃ g, f = g + 1 := ⟨f - 1, by omega⟩
    obtain ⟨a1, ⟨τ1, a2⟩, a3, a4, a5, a6, a7⟩ := id hI
    have nL : ¬ Lm t (exL m t l σ) l.length := by rw [Lm_Fr a3]; unfold Lm; omega
    have e5 : ρ.1 5 = σ.1 5 := a1.1 5 (by decide) (by decide) (by decide)
    obtain ⟨b, hb, eb⟩ := e_tm (t := t) a1 o7 a5
    have tm : f_X3_takesMore t ρ = some (0, ρ) := by
      cases b with
      | false => exact eb
      | true => exact absurd ((Lm_Fr a3).mpr (hb.mp rfl).2.1) nL
    rw [e_st50 (show f0 < 16 by omega) (by rw [e5]; exact b1) k16 (HD ρ l false R a1 tm) tm]
    exact Con_nil a1 a5 (Or.inl ⟨rfl, Or.inr (Or.inl nL)⟩)
  | succ d ih =>
    intro f l ρ R hd hf hI hU
    obtain ⟨f, rfl⟩ : ∃ g, f = g + 1 := ⟨f - 1, by omega⟩
    obtain ⟨a1, ⟨τ1, a2⟩, a3, a4, a5, a6, a7⟩ := id hI
    have e5 : ρ.1 5 = σ.1 5 := a1.1 5 (by decide) (by decide) (by decide)
    have e16 : ρ.1 16 = σ.1 16 := a1.1 16 (by decide) (by decide) (by decide)
    have nt : σ.1 5 i 1 ≠ Int32.ofNat t := by rw [b1, Ne, n_eq (by omega) (by omega)]; omega
    obtain ⟨s4, s5, s16⟩ := a3.2.2.2.2.2.2.1 i nt
    have s1 : (exL m t l σ).1 5 i 1 = Int32.ofNat f0 := by rw [a3.2.2.2.1 i 1 (by decide) (by decide) (by decide)]; exact b1
    have s2 : (exL m t l σ).1 5 i 2 = Int32.ofNat t := by rw [a3.2.2.2.1 i 2 (by decide) (by decide) (by decide)]; exact hti
    have k2 : (exL m t l σ).1 4 t 2 ≠ 0 := by rw [a3.2.2.1 2 (by decide) (by decide) (by decide)]; exact k0
    have sfr : fr ((exL m t l σ).1 5 i) = f0 := by unfold fr; rw [s1, i_of (by omega)]; omega
    have oC := (a2.C hi).2
    have ov : Ovr M (exL m t l σ) i ↔ (bt M f0 = true ∧ (ρ.1 5 i 5).toInt ≤ ((exL m t l σ).1 5 i 6).toInt) := by unfold Ovr; rw [sfr, e5, s5]
    have e91 := e_91 (t := t) (M := M) (v7 := (exL m t l σ).1 5 i 6) (show f0 < 16 by omega) (show ρ.1 5 i 1 = Int32.ofNat f0 by rw [e5]; exact b1) k16
    rw [e_50 (show f0 < 16 by omega) (show ρ.1 5 i 1 = Int32.ofNat f0 by rw [e5]; exact b1)]
    have nx : ¬ Ovr M (exL m t l σ) i → Nx m t M (exL m t l σ) i := fun q => ⟨hi, s2, q, fun j hj q2 => a7 j hj (by rw [← a3.2.2.2.1 j 2 (by decide) (by decide) (by decide)]; exact q2)⟩
    by_cases go : Ovr M (exL m t l σ) i
    · rw [if_neg (fun q => q.2 (ov.mp go)), e91, if_pos (ov.mp go)]
      refine HK l ρ R ⟨a1, ⟨τ1, a2⟩, a3, a4, a5, a6, fun c hc q => ?_⟩ hU
      by_cases e : c = i
      · subst e; exact go
      · exact a7 c (by omega) q
    · by_cases gh : (ρ.1 5 i 4).toInt ≤ ((exL m t l σ).1 5 i 6).toInt
      · rw [if_neg (fun q => q.1 gh), e91, if_neg (fun q => go (ov.mpr q))]
        refine Con_nil a1 a5 (Or.inl ⟨rfl, Or.inl (fun c v q => ?_)⟩)
        cases c with
        | none => exact k2 q.1
        | some k =>
          have := Nx_uniq (nx go) q.2.1
          subst this
          have q3 := q.2.2.1
          rw [e5, ← s4] at gh
          omega
      · rw [if_pos ⟨gh, fun q => go (ov.mpr q)⟩]
        obtain ⟨b, hb, eb⟩ := e_tm (t := t) a1 o7 a5
        rw [eb, Option.bind_some]
        dsimp only
        rw [e5, ← s4] at gh
        obtain ⟨j, hj, hj2⟩ := i_get oC.2.2.2.1.1
        have hjn : ((exL m t l σ).1 5 i 6).toInt.toNat = j := by omega
        have hA : Av m t M (exL m t l σ) (some i) ((exL m t l σ).1 16 i j) := ⟨k2, nx go, by omega, by rw [hjn]⟩
        by_cases gb : b = true
        · obtain ⟨-, c2, c3⟩ := hb.mp gb
          have hL := (Lm_Fr a3).mpr c2
          have hR := (Rr_pos a2 ht a5 a4).mp c3
          obtain ⟨ρ', p1, p2⟩ := e_add (t := t) (m := m) (v := (exL m t l σ).1 16 i j) (c := some i) a1 o10 (by omega) a3 a6
          have e2 : aI 16 ρ i ((exL m t l σ).1 5 i 6) = some ((exL m t l σ).1 16 i j) := by
            have o4 := oC.2.2.1.2.2
            rw [hj, aI_n (by show j < 64; omega) (by omega), e16, s16]
          have e1 : f_X3_add t (Int32.ofNat i) ((exL m t l σ).1 16 i j) ρ = some ρ' := p1
          rw [if_pos gb, if_neg (show ¬ (1 : Int32) = 0 by decide), e2, Option.bind_some, e1, Option.bind_some]
          rcases p2 with ⟨q1, q2⟩ | ⟨q1, q2⟩
          · obtain ⟨f, rfl⟩ : ∃ g, f = g + 1 := ⟨f - 1, by omega⟩
            have t0 := tm_0 q2 o7 a5
            rw [e_st50 (show f0 < 16 by omega) (by rw [q2.1 5 (by decide) (by decide) (by decide)]; exact b1) k16 (HD ρ' l true R q2 t0) t0]
            exact Con_nil q2 a5 (Or.inr ⟨rfl, some i, _, hA, hL, hR, q1⟩)
          · have := ih f (l ++ [(some i, (exL m t l σ).1 16 i j)]) ρ' _ (by simp; omega) (by omega) (Inv_step hI ht hA hL hR q2 o7.2 (fun k q => by cases q; exact Nat.le_refl i)) (fun c hc => by
              rw [exL_app]
              show (ex m t (some i) _ (exL m t l σ)).1 5 c 6 = _
              rw [ex_6, if_neg (by simp; omega)]; exact hU c hc)
            rw [exL_app] at this
            have e6 : (ex m t (some i) ((exL m t l σ).1 16 i j) (exL m t l σ)).1 5 i 6 = (exL m t l σ).1 5 i 6 + 1 := by rw [ex_6, if_pos rfl]
            dsimp only at this
            rw [e6] at this
            exact Con_app this ⟨hA, hL, hR, q1⟩
        · rw [if_neg gb, if_pos rfl, e91, if_neg (fun q => go (ov.mpr q))]
          refine Con_nil a1 a5 (Or.inl ⟨rfl, Or.inr ?_⟩)
          by_cases gL : Lm t (exL m t l σ) l.length
          · refine Or.inr (fun q => gb (hb.mpr ⟨rfl, (Lm_Fr a3).mp gL, (Rr_pos a2 ht a5 a4).mpr q⟩))
          · exact Or.inl gL
theorem e_chn (h : Rl n m 0 σ τ) (ht : t < n) (k0 : σ.1 4 t 2 ≠ 0) : ∀ (k i f : Nat) (l : List (Option Nat × Int32)) (ρ : sm_M) (R : Int32), i + k = m → k < f → Inv n m t M σ i l ρ R → (∀ c, i ≤ c → (exL m t l σ).1 5 c 6 = σ.1 5 c 6) → Con m t M σ l (f_X3_fillFromChannels_16 f (Int32.ofNat t) t M (Int32.ofNat i) ρ) := by
  have hn := h.n16
  have hm := h.m40
  intro k
  induction k with
  | zero =>
    intro i f l ρ R hi hf hI hU
    obtain ⟨f, rfl⟩ : ∃ g, f = g + 1 := ⟨f - 1, by omega⟩
    obtain ⟨a1, ⟨τ1, a2⟩, a3, a4, a5, a6, a7⟩ := id hI
    have e3 : ρ.1 1 0 3 = Int32.ofNat m := by rw [a1.1 1 (by decide) (by decide) (by decide)]; exact h.1.2.2.2.1
    have k2 : (exL m t l σ).1 4 t 2 ≠ 0 := by rw [a3.2.2.1 2 (by decide) (by decide) (by decide)]; exact k0
    rw [f_X3_fillFromChannels_16, e3, if_pos (by rw [n_le (by omega) (by omega)]; omega)]
    refine Con_nil a1 a5 (Or.inl ⟨rfl, Or.inl (fun c v q => ?_)⟩)
    cases c with
    | none => exact k2 q.1
    | some j => exact q.2.1.2.2.1 (a7 j (by have := q.2.1.1; omega) (by rw [← a3.2.2.2.1 j 2 (by decide) (by decide) (by decide)]; exact q.2.1.2.1))
  | succ k ih =>
    intro i f l ρ R hi hf hI hU
    obtain ⟨f, rfl⟩ : ∃ g, f = g + 1 := ⟨f - 1, by omega⟩
    obtain ⟨a1, ⟨τ1, a2⟩, a3, a4, a5, a6, a7⟩ := id hI
    have e3 : ρ.1 1 0 3 = Int32.ofNat m := by rw [a1.1 1 (by decide) (by decide) (by decide)]; exact h.1.2.2.2.1
    have e5 : ρ.1 5 = σ.1 5 := a1.1 5 (by decide) (by decide) (by decide)
    rw [f_X3_fillFromChannels_16, e3, if_neg (by rw [n_le (by omega) (by omega)]; omega), aP_n (by show i < 40; omega) (by omega), Option.bind_some, e5]
    by_cases g : σ.1 5 i 2 = Int32.ofNat t
    · rw [if_pos g, ← hU i (Nat.le_refl i)]
      exact e_inn h ht k0 (by omega) g (f_X3_fillFromChannels_16 f) (fun l ρ R hI hU => ih (i + 1) f l ρ R (by omega) (by omega) hI hU) (fun ρ l th R hE h0 => e_stk h hE h0 k (i + 1) f (by omega) (by omega)) (8 - l.length) 1000 l ρ R (by omega) (by omega) hI (fun c hc => hU c (by omega))
    · rw [if_neg g, f_X3_fillFromChannels_114, n_inc]
      refine ih (i + 1) f l ρ R (by omega) (by omega) ⟨a1, ⟨τ1, a2⟩, a3, a4, a5, a6, fun c hc q => ?_⟩ (fun c hc => hU c (by omega))
      by_cases e : c = i
      · subst e; exact absurd q g
      · exact a7 c (by omega) q
end T1
