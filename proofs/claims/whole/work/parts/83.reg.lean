/-! ===== the region: the class ===== -/
/-- U: the unsteady tasks of R -/
def UnS (n m : Nat) (σ : sm_M) (R U : Nat → Prop) : Prop := ∀ t, t < n → (U t ↔ (R t ∧ (σ.1 4 t 2 = 4 ∨ ∃ c f : Nat, c < m ∧ f < 16 ∧ σ.1 5 c 1 = Int32.ofNat f ∧ σ.1 5 c 2 = Int32.ofNat t ∧ U f)))
/-- what channel c asks of R and U, from f to g -/
def ClC (σ : sm_M) (R U : Nat → Prop) (c f g : Nat) : Prop := ((R f ∧ (σ.1 5 c 3 = 0 ∨ (U f ∧ (σ.1 5 c 9).toInt < (σ.1 5 c 7).toInt ∧ (σ.1 5 c 11).toInt < (σ.1 5 c 7).toInt))) → R g) ∧ ((R g ∧ (σ.1 5 c 3 = 0 ∨ 0 < (σ.1 5 c 8).toInt)) → R f)
def ClS (m : Nat) (σ : sm_M) (R U : Nat → Prop) : Prop := ∀ c f g : Nat, c < m → f < 16 → g < 16 → σ.1 5 c 1 = Int32.ofNat f → σ.1 5 c 2 = Int32.ofNat g → ClC σ R U c f g
theorem em_b (p : Prop) : ∃ b : Bool, (b = true ↔ p) := by
  rcases Classical.em p with q | q
  · exact ⟨true, ⟨fun _ => q, fun _ => rfl⟩⟩
  · exact ⟨false, ⟨fun x => (by cases x), fun x => absurd x q⟩⟩
section REG
variable {n m : Nat} {σ τ : sm_M}
theorem UnS_mono {e0 : Int32} (h : Rl n m e0 σ τ) {R R' U U' : Nat → Prop} (hR : ∀ t, t < n → R t → R' t) (h1 : UnS n m σ R U) (h2 : UnS n m σ R' U') : ∀ t, t < n → U t → U' t := by
  intro t
  induction t using Nat.strongRecOn with
  | _ t ih =>
    intro ht hu
    have a := (h1 t ht).mp hu
    refine (h2 t ht).mpr ⟨hR t ht a.1, ?_⟩
    rcases a.2 with b | ⟨c, f, hc, hf, e1, e2, hu2⟩
    · exact Or.inl b
    · refine Or.inr ⟨c, f, hc, hf, e1, e2, ?_⟩
      obtain ⟨f', g', e3, e4, q1, q2⟩ := h.ft hc
      have hn := h.n16
      rw [e1, n_eq (by omega) (by omega)] at e3
      rw [e2, n_eq (by omega) (by omega)] at e4
      exact ih f (by omega) (by omega) hu2
theorem e_uns {e0 : Int32} (h : Rl n m e0 σ τ) {R : Int32} : ∃ U : Int32, UnS n m σ (fun t => bt R t = true) (fun t => bt U t = true) ∧ (∀ t, n ≤ t → bt U t = false) ∧ f_X2_unsteadyIn R σ = some (U, σ) := by
  have hn := h.n16
  have e1 := h.1.2.2.1
  obtain ⟨U, ⟨h1, h2⟩, h3⟩ := loopE (F := fun f v (s : Int32) => f_X2_unsteadyIn_4 f R s v σ) (X := fun s => some (s, σ)) (N := n) (by omega) (fun i s => (∀ t, t < i → (bt s t = true ↔ (bt R t = true ∧ (σ.1 4 t 2 = 4 ∨ ∃ c f : Nat, c < m ∧ f < 16 ∧ σ.1 5 c 1 = Int32.ofNat f ∧ σ.1 5 c 2 = Int32.ofNat t ∧ bt s f = true)))) ∧ ∀ t, i ≤ t → bt s t = false)
    (fun k i s hi hp => by
      obtain ⟨p1, p2⟩ := hp
      have step : ∀ b : Bool, (b = true ↔ (bt R i = true ∧ (σ.1 4 i 2 = 4 ∨ ∃ c f : Nat, c < m ∧ f < 16 ∧ σ.1 5 c 1 = Int32.ofNat f ∧ σ.1 5 c 2 = Int32.ofNat i ∧ bt s f = true))) → f_X2_unsteadyIn_4 (k + 1) R s (Int32.ofNat i) σ = f_X2_unsteadyIn_4 k R (if b = true then s ||| ((1 : Int32) <<< (Int32.ofNat i &&& 31)) else s) (Int32.ofNat (i + 1)) σ := fun b hb => by
        rw [f_X2_unsteadyIn_4, e1, if_neg (by rw [n_le (by omega) (by omega)]; omega), e_isIn (by omega), Option.bind_some]
        dsimp only
        by_cases g : bt R i = true
        · rw [if_pos g, if_neg (by decide), aP_n (by show i < 16; omega) (by omega), Option.bind_some]
          by_cases g2 : σ.1 4 i 2 = 4
          · rw [if_pos g2, f_X2_unsteadyIn_47, f_X2_unsteadyIn_53, n_inc, if_pos (hb.mpr ⟨g, Or.inl g2⟩)]
          · rw [if_neg g2, Option.bind_some]
            have key : (σ.1 4 i 5 &&& s = 0) ↔ ¬ ∃ c f : Nat, c < m ∧ f < 16 ∧ σ.1 5 c 1 = Int32.ofNat f ∧ σ.1 5 c 2 = Int32.ofNat i ∧ bt s f = true := by
              constructor
              · rintro q ⟨c, f, hc, hf, e4, e5, q2⟩
                have : bt (σ.1 4 i 5 &&& s) f = false := by rw [q]; exact b_0 f
                rw [b_and, q2, (h.H i f hi (by omega)).mpr ⟨c, hc, e4, e5⟩] at this
                cases this
              · intro q
                apply b_ext
                intro f hf
                rw [b_and, b_0]
                by_cases q2 : bt (σ.1 4 i 5) f = true
                · obtain ⟨c, hc, e4, e5⟩ := (h.H i f hi hf).mp q2
                  obtain ⟨f', g', e6, e7, q3, q4⟩ := h.ft hc
                  rw [e4, n_eq (by omega) (by omega)] at e6
                  have : ¬ bt s f = true := fun q5 => q ⟨c, f, hc, by omega, e4, e5, q5⟩
                  simp [this]
                · simp [q2]
            by_cases g3 : σ.1 4 i 5 &&& s = 0
            · rw [if_pos g3, f_X2_unsteadyIn_53, n_inc, if_neg]
              intro q
              rcases (hb.mp q).2 with q | q
              · exact g2 q
              · exact (key.mp g3) q
            · rw [if_neg g3, f_X2_unsteadyIn_47, f_X2_unsteadyIn_53, n_inc, if_pos]
              refine hb.mpr ⟨g, Or.inr ?_⟩
              exact Classical.byContradiction (fun q => g3 (key.mpr q))
        · rw [if_neg g, if_pos rfl, f_X2_unsteadyIn_53, n_inc, if_neg (fun q => g (hb.mp q).1)]
      have dec : ∃ b : Bool, (b = true ↔ (bt R i = true ∧ (σ.1 4 i 2 = 4 ∨ ∃ c f : Nat, c < m ∧ f < 16 ∧ σ.1 5 c 1 = Int32.ofNat f ∧ σ.1 5 c 2 = Int32.ofNat i ∧ bt s f = true))) := by
        exact em_b _
      obtain ⟨b, hb⟩ := dec
      refine ⟨_, ?_, step b hb⟩
      have low : ∀ t, t < i + 1 → ∀ c f : Nat, c < m → f < 16 → σ.1 5 c 1 = Int32.ofNat f → σ.1 5 c 2 = Int32.ofNat t → f < i := fun t ht c f hc hf e4 e5 => by
        obtain ⟨f', g', e6, e7, q3, q4⟩ := h.ft hc
        rw [e4, n_eq (by omega) (by omega)] at e6
        rw [e5, n_eq (by omega) (by omega)] at e7
        omega
      have bs : ∀ t, t < 32 → bt (if b = true then s ||| ((1 : Int32) <<< (Int32.ofNat i &&& 31)) else s) t = (bt s t || (b && decide (t = i))) := fun t ht => by
        cases b
        · simp
        · rw [if_pos rfl, b_set (by omega) ht]; simp
      have same : ∀ f, f < i → bt (if b = true then s ||| ((1 : Int32) <<< (Int32.ofNat i &&& 31)) else s) f = bt s f := fun f hf => by
        rw [bs f (by omega)]
        have : ¬ f = i := by omega
        simp [this]
      refine ⟨fun t ht => ?_, fun t ht => ?_⟩
      · have ex : (∃ c f : Nat, c < m ∧ f < 16 ∧ σ.1 5 c 1 = Int32.ofNat f ∧ σ.1 5 c 2 = Int32.ofNat t ∧ bt (if b = true then s ||| ((1 : Int32) <<< (Int32.ofNat i &&& 31)) else s) f = true) ↔ (∃ c f : Nat, c < m ∧ f < 16 ∧ σ.1 5 c 1 = Int32.ofNat f ∧ σ.1 5 c 2 = Int32.ofNat t ∧ bt s f = true) := by
          constructor
          · rintro ⟨c, f, hc, hf, e4, e5, q⟩
            exact ⟨c, f, hc, hf, e4, e5, by rw [← same f (low t ht c f hc hf e4 e5)]; exact q⟩
          · rintro ⟨c, f, hc, hf, e4, e5, q⟩
            exact ⟨c, f, hc, hf, e4, e5, by rw [same f (low t ht c f hc hf e4 e5)]; exact q⟩
        rw [ex]
        by_cases e : t = i
        · subst e
          rw [bs t (by omega), p2 t (Nat.le_refl t), ← hb]; simp
        · rw [same t (by omega)]; exact p1 t (by omega)
      · by_cases e32 : t < 32
        · rw [bs t e32, p2 t (by omega)]
          have : ¬ t = i := by omega
          simp [this]
        · exact b_big (by omega))
    (fun k s hp => by
      show f_X2_unsteadyIn_4 (k + 1) R s (Int32.ofNat n) σ = _
      rw [f_X2_unsteadyIn_4, e1, if_pos (by rw [n_le (by omega) (by omega)]; omega), f_X2_unsteadyIn_59]) 0 ⟨fun t ht => absurd ht (Nat.not_lt_zero t), fun t _ => b_0 t⟩
  exact ⟨U, h1, h2, h3⟩
/-- what a channel adds -/
def addC (σ : sm_M) (R U : Int32) (c t : Nat) : Prop := (∃ f : Nat, f < 16 ∧ σ.1 5 c 1 = Int32.ofNat f ∧ σ.1 5 c 2 = Int32.ofNat t ∧ bt R f = true ∧ (σ.1 5 c 3 = 0 ∨ (bt U f = true ∧ (σ.1 5 c 9).toInt < (σ.1 5 c 7).toInt ∧ (σ.1 5 c 11).toInt < (σ.1 5 c 7).toInt))) ∨ (∃ g : Nat, g < 16 ∧ σ.1 5 c 2 = Int32.ofNat g ∧ σ.1 5 c 1 = Int32.ofNat t ∧ bt R g = true ∧ (σ.1 5 c 3 = 0 ∨ 0 < (σ.1 5 c 8).toInt))
theorem e_widC {e0 : Int32} (h : Rl n m e0 σ τ) {R U W : Int32} {i k : Nat} (hi : i < m) : ∃ (f g : Nat) (b1 b2 : Bool), σ.1 5 i 1 = Int32.ofNat f ∧ σ.1 5 i 2 = Int32.ofNat g ∧ f < g ∧ g < n ∧ (b1 = true ↔ (bt R f = true ∧ (σ.1 5 i 3 = 0 ∨ (bt U f = true ∧ (σ.1 5 i 9).toInt < (σ.1 5 i 7).toInt ∧ (σ.1 5 i 11).toInt < (σ.1 5 i 7).toInt)))) ∧ (b2 = true ↔ (bt R g = true ∧ (σ.1 5 i 3 = 0 ∨ 0 < (σ.1 5 i 8).toInt))) ∧
    f_X2_widened_11 (k + 1) R U W (Int32.ofNat i) σ = f_X2_widened_11 k R U (if b2 = true then (if b1 = true then W ||| ((1 : Int32) <<< (Int32.ofNat g &&& 31)) else W) ||| ((1 : Int32) <<< (Int32.ofNat f &&& 31)) else (if b1 = true then W ||| ((1 : Int32) <<< (Int32.ofNat g &&& 31)) else W)) (Int32.ofNat (i + 1)) σ := by
  have hn := h.n16
  have hm := h.m40
  have e3 := h.1.2.2.2.1
  obtain ⟨f, g, e1, e2, h1, h2⟩ := h.ft hi
  obtain ⟨b1, hb1⟩ := em_b (bt R f = true ∧ (σ.1 5 i 3 = 0 ∨ (bt U f = true ∧ (σ.1 5 i 9).toInt < (σ.1 5 i 7).toInt ∧ (σ.1 5 i 11).toInt < (σ.1 5 i 7).toInt)))
  obtain ⟨b2, hb2⟩ := em_b (bt R g = true ∧ (σ.1 5 i 3 = 0 ∨ 0 < (σ.1 5 i 8).toInt))
  refine ⟨f, g, b1, b2, e1, e2, h1, h2, hb1, hb2, ?_⟩
  have A96 : ∀ X : Int32, f_X2_widened_96 (f_X2_widened_11 k) R U X (Int32.ofNat i) i σ = f_X2_widened_11 k R U (if b2 = true then X ||| ((1 : Int32) <<< (Int32.ofNat f &&& 31)) else X) (Int32.ofNat (i + 1)) σ := fun X => by
    rw [f_X2_widened_96, e2, e_isIn (by omega), Option.bind_some]
    dsimp only
    by_cases q1 : bt R g = true
    · rw [if_pos q1, if_neg (by decide)]
      by_cases q2 : σ.1 5 i 3 = 0
      · rw [if_pos q2, f_X2_widened_124, f_X2_widened_134, e1, n_inc, if_pos (hb2.mpr ⟨q1, Or.inl q2⟩)]
      · rw [if_neg q2]
        by_cases q3 : 0 < (σ.1 5 i 8).toInt
        · rw [if_neg (by rw [i_le]; show ¬ _ ≤ (0 : Int); omega), f_X2_widened_124, f_X2_widened_134, e1, n_inc, if_pos (hb2.mpr ⟨q1, Or.inr q3⟩)]
        · rw [if_pos (by rw [i_le]; show _ ≤ (0 : Int); omega), f_X2_widened_134, n_inc, if_neg]
          intro q
          rcases (hb2.mp q).2 with q | q
          · exact q2 q
          · exact q3 q
    · rw [if_neg q1, if_pos rfl, f_X2_widened_134, n_inc, if_neg (fun q => q1 (hb2.mp q).1)]
  have A59 : ∀ s0 : Int32, ((s0 = 0 ∨ s0 = 1) ∧ (s0 = 1 ↔ (bt U f = true ∧ (σ.1 5 i 9).toInt < (σ.1 5 i 7).toInt ∧ (σ.1 5 i 11).toInt < (σ.1 5 i 7).toInt))) → f_X2_widened_59 (f_X2_widened_11 k) R U W (Int32.ofNat i) i s0 σ = f_X2_widened_96 (f_X2_widened_11 k) R U (if b1 = true then W ||| ((1 : Int32) <<< (Int32.ofNat g &&& 31)) else W) (Int32.ofNat i) i σ := fun s0 hs => by
    rw [f_X2_widened_59, e1, e_isIn (by omega), Option.bind_some]
    dsimp only
    by_cases q1 : bt R f = true
    · rw [if_pos q1, if_neg (by decide)]
      by_cases q2 : σ.1 5 i 3 = 0
      · rw [if_pos q2, f_X2_widened_86, e2, if_pos (hb1.mpr ⟨q1, Or.inl q2⟩)]
      · rw [if_neg q2]
        rcases hs.1 with q3 | q3
        · rw [if_pos q3, if_neg]
          intro q
          rcases (hb1.mp q).2 with q | q
          · exact q2 q
          · rw [hs.2.mpr q] at q3; cases q3
        · rw [q3, if_neg (by decide), f_X2_widened_86, e2, if_pos (hb1.mpr ⟨q1, Or.inr (hs.2.mp q3)⟩)]
    · rw [if_neg q1, if_pos rfl, if_neg (fun q => q1 (hb1.mp q).1)]
  rw [f_X2_widened_11, e3, if_neg (by rw [n_le (by omega) (by omega)]; omega), aP_n (by show i < 40; omega) (by omega), Option.bind_some, e1, e_isIn (by omega), Option.bind_some]
  dsimp only
  by_cases q1 : bt U f = true
  · rw [if_pos q1, if_neg (by decide), f_X1_settled, Option.bind_some]
    dsimp only
    have key : (σ.1 5 i 7 ≤ (if σ.1 5 i 9 < σ.1 5 i 11 then σ.1 5 i 11 else σ.1 5 i 9)) ↔ ¬ ((σ.1 5 i 9).toInt < (σ.1 5 i 7).toInt ∧ (σ.1 5 i 11).toInt < (σ.1 5 i 7).toInt) := by
      by_cases q : σ.1 5 i 9 < σ.1 5 i 11
      · rw [if_pos q, i_le]; rw [i_lt] at q; omega
      · rw [if_neg q, i_le]; rw [i_lt] at q; omega
    by_cases q2 : (σ.1 5 i 9).toInt < (σ.1 5 i 7).toInt ∧ (σ.1 5 i 11).toInt < (σ.1 5 i 7).toInt
    · rw [if_neg (fun q => (key.mp q) q2), A59 1 ⟨z1, ⟨fun _ => ⟨q1, q2⟩, fun _ => rfl⟩⟩, A96]
    · rw [if_pos (key.mpr q2), f_X2_widened_58, A59 0 ⟨z0, ⟨fun q => (by cases q), fun q => absurd q.2 q2⟩⟩, A96]
  · rw [if_neg q1, if_pos rfl, f_X2_widened_58, A59 0 ⟨z0, ⟨fun q => (by cases q), fun q => absurd q.1 q1⟩⟩, A96]
theorem e_wid {e0 : Int32} (h : Rl n m e0 σ τ) {R : Int32} (hR : ∀ t, n ≤ t → bt R t = false) : ∃ U W : Int32, UnS n m σ (fun t => bt R t = true) (fun t => bt U t = true) ∧ f_X2_widened R σ = some (W, σ) ∧ (∀ t, n ≤ t → bt W t = false) ∧ ∀ t, t < n → (bt W t = true ↔ (bt R t = true ∨ ∃ c, c < m ∧ addC σ R U c t)) := by
  have hn := h.n16
  have hm := h.m40
  have e3 := h.1.2.2.2.1
  obtain ⟨U, hU1, hU2, hU3⟩ := e_uns h (R := R)
  obtain ⟨W, ⟨w1, w2⟩, w3⟩ := loopE (F := fun f v (s : Int32) => f_X2_widened_11 f R U s v σ) (X := fun s => some (s, σ)) (N := m) (by omega) (fun i s => (∀ t, n ≤ t → bt s t = false) ∧ ∀ t, t < n → (bt s t = true ↔ (bt R t = true ∨ ∃ c, c < i ∧ addC σ R U c t)))
    (fun k i s hi hp => by
      obtain ⟨f, g, b1, b2, e1, e2, h1, h2, hb1, hb2, st⟩ := e_widC h (R := R) (U := U) (W := s) (k := k) hi
      refine ⟨_, ?_, st⟩
      have bs : ∀ t, t < 32 → bt (if b2 = true then (if b1 = true then s ||| ((1 : Int32) <<< (Int32.ofNat g &&& 31)) else s) ||| ((1 : Int32) <<< (Int32.ofNat f &&& 31)) else (if b1 = true then s ||| ((1 : Int32) <<< (Int32.ofNat g &&& 31)) else s)) t = (bt s t || (b1 && decide (t = g)) || (b2 && decide (t = f))) := fun t ht => by
        cases b1 <;> cases b2 <;> simp [b_set (show f < 31 by omega) ht, b_set (show g < 31 by omega) ht]
      refine ⟨fun t ht => ?_, fun t ht => ?_⟩
      · by_cases e32 : t < 32
        · rw [bs t e32, hp.1 t ht]
          have a1 : ¬ t = g := by omega
          have a2 : ¬ t = f := by omega
          simp [a1, a2]
        · exact b_big (by omega)
      · rw [bs t (by omega)]
        simp only [Bool.or_eq_true, Bool.and_eq_true, decide_eq_true_eq]
        rw [hp.2 t ht, hb1, hb2]
        have hadd : addC σ R U i t ↔ (((bt R f = true ∧ (σ.1 5 i 3 = 0 ∨ (bt U f = true ∧ (σ.1 5 i 9).toInt < (σ.1 5 i 7).toInt ∧ (σ.1 5 i 11).toInt < (σ.1 5 i 7).toInt))) ∧ t = g) ∨ ((bt R g = true ∧ (σ.1 5 i 3 = 0 ∨ 0 < (σ.1 5 i 8).toInt)) ∧ t = f)) := by
          unfold addC
          constructor
          · rintro (⟨f', hf', a1, a2, a3, a4⟩ | ⟨g', hg', a1, a2, a3, a4⟩)
            · rw [e1, n_eq (by omega) (by omega)] at a1
              rw [e2, n_eq (by omega) (by omega)] at a2
              subst a1; subst a2
              exact Or.inl ⟨⟨a3, a4⟩, rfl⟩
            · rw [e2, n_eq (by omega) (by omega)] at a1
              rw [e1, n_eq (by omega) (by omega)] at a2
              subst a1; subst a2
              exact Or.inr ⟨⟨a3, a4⟩, rfl⟩
          · rintro (⟨⟨a3, a4⟩, rfl⟩ | ⟨⟨a3, a4⟩, rfl⟩)
            · exact Or.inl ⟨f, by omega, e1, e2, a3, a4⟩
            · exact Or.inr ⟨g, by omega, e2, e1, a3, a4⟩
        constructor
        · rintro (((q | ⟨c, hc, q⟩) | q) | q)
          · exact Or.inl q
          · exact Or.inr ⟨c, by omega, q⟩
          · exact Or.inr ⟨i, by omega, hadd.mpr (Or.inl q)⟩
          · exact Or.inr ⟨i, by omega, hadd.mpr (Or.inr q)⟩
        · rintro (q | ⟨c, hc, q⟩)
          · exact Or.inl (Or.inl (Or.inl q))
          · by_cases e : c = i
            · subst e
              rcases hadd.mp q with q | q
              · exact Or.inl (Or.inr q)
              · exact Or.inr q
            · exact Or.inl (Or.inl (Or.inr ⟨c, by omega, q⟩)))
    (fun k s hp => by
      show f_X2_widened_11 (k + 1) R U s (Int32.ofNat m) σ = _
      rw [f_X2_widened_11, e3, if_pos (by rw [n_le (by omega) (by omega)]; omega), f_X2_widened_140]) R ⟨hR, fun t ht => ⟨fun q => Or.inl q, fun q => q.elim id (fun ⟨c, hc, _⟩ => absurd hc (Nat.not_lt_zero c))⟩⟩
  refine ⟨U, W, hU1, ?_, w1, w2⟩
  rw [f_X2_widened, hU3, Option.bind_some]
  exact w3
end REG
