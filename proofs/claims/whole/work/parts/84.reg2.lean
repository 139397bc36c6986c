theorem cN_mono {p q : Nat → Bool} {k : Nat} (h : ∀ j, j < k → p j = true → q j = true) : cN p k ≤ cN q k := by
  induction k with
  | zero => exact Nat.le_refl 0
  | succ k ih =>
    rw [cN, cN]
    have := ih (fun j hj => h j (by omega))
    by_cases a : p k = true
    · have b := h k (by omega) a
      simp [a, b]; omega
    · by_cases b : q k = true <;> simp [a, b] <;> omega
theorem cN_lt {p q : Nat → Bool} {k i : Nat} (h : ∀ j, j < k → p j = true → q j = true) (hi : i < k) (h1 : p i = false) (h2 : q i = true) : cN p k < cN q k := by
  induction k with
  | zero => omega
  | succ k ih =>
    rw [cN, cN]
    by_cases e : i = k
    · subst e
      have := cN_mono (k := i) (fun j hj => h j (by omega))
      simp [h1, h2]; omega
    · have := ih (fun j hj => h j (by omega)) (by omega)
      by_cases a : p k = true
      · have b := h k (by omega) a
        simp [a, b]; omega
      · by_cases b : q k = true <;> simp [a, b] <;> omega
theorem cN_full {p : Nat → Bool} {k : Nat} (h : k ≤ cN p k) : ∀ j, j < k → p j = true := by
  induction k with
  | zero => intro j hj; omega
  | succ k ih =>
    rw [cN] at h
    have := cN_le p k
    by_cases a : p k = true
    · simp [a] at h
      intro j hj
      by_cases e : j = k
      · subst e; exact a
      · exact ih (by omega) j (by omega)
    · simp [a] at h; omega
section REG2
variable {n m : Nat} {σ τ : sm_M}
/-- R is the region of F, U its unsteady tasks -/
def Reg (n m : Nat) (σ : sm_M) (F R U : Nat → Prop) : Prop := (∀ t, t < n → F t → R t) ∧ UnS n m σ R U ∧ ClS m σ R U ∧ ∀ R' U' : Nat → Prop, (∀ t, t < n → F t → R' t) → UnS n m σ R' U' → ClS m σ R' U' → ∀ t, t < n → R t → R' t
theorem ClS_of {e0 : Int32} (h : Rl n m e0 σ τ) {R U : Int32} (hc : ∀ c t, c < m → t < n → addC σ R U c t → bt R t = true) : ClS m σ (fun t => bt R t = true) (fun t => bt U t = true) := by
  intro c f g hcm hf hg e1 e2
  have hn := h.n16
  obtain ⟨f', g', e3, e4, q1, q2⟩ := h.ft hcm
  rw [e1, n_eq (by omega) (by omega)] at e3
  rw [e2, n_eq (by omega) (by omega)] at e4
  subst e3; subst e4
  exact ⟨fun q => hc c g hcm q2 (Or.inl ⟨f, hf, e1, e2, q⟩), fun q => hc c f hcm (by omega) (Or.inr ⟨g, hg, e2, e1, q⟩)⟩
theorem e_reg {e0 : Int32} (h : Rl n m e0 σ τ) {F : Int32} (hF : ∀ t, n ≤ t → bt F t = false) : ∃ R U : Int32, f_X2_regionOf F σ = some (R, σ) ∧ (∀ t, n ≤ t → bt R t = false) ∧ Reg n m σ (fun t => bt F t = true) (fun t => bt R t = true) (fun t => bt U t = true) := by
  have hn := h.n16
  refine loopX (X := fun _ => none) (F := fun f v (s : Int32) => f_X2_regionOf_4 f s v σ) (N := 16) (by omega) (fun i s => (∀ t, n ≤ t → bt s t = false) ∧ (∀ t, t < n → bt F t = true → bt s t = true) ∧ (∀ R' U' : Nat → Prop, (∀ t, t < n → bt F t = true → R' t) → UnS n m σ R' U' → ClS m σ R' U' → ∀ t, t < n → bt s t = true → R' t) ∧ i ≤ cN (fun t => bt s t) n)
    (fun r => ∃ R U : Int32, r = some (R, σ) ∧ (∀ t, n ≤ t → bt R t = false) ∧ Reg n m σ (fun t => bt F t = true) (fun t => bt R t = true) (fun t => bt U t = true)) (fun k i s hi hp => ?_) (fun k s hp => ?_) F ⟨hF, fun _ _ q => q, fun R' U' q _ _ => q, Nat.zero_le _⟩
  · obtain ⟨p1, p2, p3, p4⟩ := hp
    obtain ⟨U, W, hU, eW, w1, w2⟩ := e_wid h p1
    show _ ∨ _
    rw [f_X2_regionOf_4, if_neg (by rw [show (16 : Int32) = Int32.ofNat 16 from rfl, n_le (by omega) (by omega)]; omega), eW, Option.bind_some]
    dsimp only
    by_cases q : W = s
    · rw [if_pos q, f_X2_regionOf_23]
      refine Or.inl ⟨s, U, rfl, p1, p2, hU, ClS_of h (fun c t hc ht ha => ?_), p3⟩
      rw [← q]; exact (w2 t ht).mpr (Or.inr ⟨c, hc, ha⟩)
    · rw [if_neg q, n_inc]
      refine Or.inr ⟨W, ⟨w1, fun t ht a => (w2 t ht).mpr (Or.inl (p2 t ht a)), fun R' U' a1 a2 a3 t ht a4 => ?_, ?_⟩, rfl⟩
      · have hs := p3 R' U' a1 a2 a3
        have hUU := UnS_mono h hs hU a2
        rcases (w2 t ht).mp a4 with b | ⟨c, hc, b⟩
        · exact hs t ht b
        · obtain ⟨f', g', e3, e4, q1, q2⟩ := h.ft hc
          rcases b with ⟨f, hf, e1, e2, b1, b2⟩ | ⟨g, hg, e2, e1, b1, b2⟩
          · rw [e1, n_eq (by omega) (by omega)] at e3
            rw [e2, n_eq (by omega) (by omega)] at e4
            refine (a3 c f t hc hf (by omega) e1 e2).1 ⟨hs f (by omega) b1, ?_⟩
            rcases b2 with b2 | ⟨b2, b3⟩
            · exact Or.inl b2
            · exact Or.inr ⟨hUU f (by omega) b2, b3⟩
          · rw [e1, n_eq (by omega) (by omega)] at e3
            rw [e2, n_eq (by omega) (by omega)] at e4
            exact (a3 c t g hc (by omega) hg e1 e2).2 ⟨hs g (by omega) b1, b2⟩
      · have hsub : ∀ j, j < n → bt s j = true → bt W j = true := fun j hj a => (w2 j hj).mpr (Or.inl a)
        have hex : ∃ j, j < n ∧ bt s j = false ∧ bt W j = true := by
          refine Classical.byContradiction (fun hno => q ?_)
          apply b_ext
          intro j hj
          by_cases hjn : j < n
          · by_cases a : bt s j = true
            · rw [a]; exact hsub j hjn a
            · have a' : bt s j = false := by simpa using a
              rw [a']
              by_cases b : bt W j = true
              · exact absurd ⟨j, hjn, a', b⟩ hno
              · simpa using b
          · rw [p1 j (by omega), w1 j (by omega)]
        obtain ⟨j, hj, a1, a2⟩ := hex
        have := cN_lt (p := fun t => bt s t) (q := fun t => bt W t) hsub hj a1 a2
        omega
  · obtain ⟨p1, p2, p3, p4⟩ := hp
    obtain ⟨U, hU, -, -⟩ := e_uns h (R := s)
    have hle := cN_le (fun t => bt s t) n
    have hn16 : n = 16 := by omega
    have hall := cN_full (p := fun t => bt s t) (k := n) (by omega)
    rw [f_X2_regionOf_4, if_pos (by decide), f_X2_regionOf_34]
    exact ⟨s, U, rfl, p1, p2, hU, ClS_of h (fun c t hc ht _ => hall t ht), p3⟩
/-- the region is one alone -/
theorem Reg_uniq {e0 : Int32} (h : Rl n m e0 σ τ) {F R U R' U' : Nat → Prop} (h1 : Reg n m σ F R U) (h2 : Reg n m σ F R' U') : (∀ t, t < n → (R t ↔ R' t)) ∧ ∀ t, t < n → (U t ↔ U' t) := by
  have a : ∀ t, t < n → R t → R' t := h1.2.2.2 R' U' h2.1 h2.2.1 h2.2.2.1
  have b : ∀ t, t < n → R' t → R t := h2.2.2.2 R U h1.1 h1.2.1 h1.2.2.1
  exact ⟨fun t ht => ⟨a t ht, b t ht⟩, fun t ht => ⟨UnS_mono h a h1.2.1 h2.2.1 t ht, UnS_mono h b h2.2.1 h1.2.1 t ht⟩⟩
end REG2
