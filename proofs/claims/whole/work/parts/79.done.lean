/-! ===== which tasks are done ===== -/
/-- a task is done, when p says which of those below it are -/
def Dn (m : Nat) (σ : sm_M) (p : Nat → Prop) (t : Nat) : Prop := (σ.1 4 t 2 = 0 → (σ.1 4 t 3).toInt ≤ (σ.1 4 t 11).toInt) ∧ (σ.1 4 t 2 ≠ 0 → ∀ c f : Nat, c < m → σ.1 5 c 2 = Int32.ofNat t → σ.1 5 c 1 = Int32.ofNat f → f < 16 → p f ∧ (σ.1 5 c 5).toInt ≤ (σ.1 5 c 6).toInt)
/-- M is the set of the tasks below n that are done -/
def PD (n m : Nat) (σ : sm_M) (M : Int32) : Prop := (∀ t, t < n → (bt M t = true ↔ Dn m σ (fun f => bt M f = true) t)) ∧ ∀ t, n ≤ t → bt M t = false
section DONE
variable {n m : Nat} {σ τ : sm_M}
theorem Rl.ft {e0 : Int32} (h : Rl n m e0 σ τ) {c : Nat} (hc : c < m) : ∃ f g : Nat, σ.1 5 c 1 = Int32.ofNat f ∧ σ.1 5 c 2 = Int32.ofNat g ∧ f < g ∧ g < n := by
  have o := (h.C hc).2.1
  refine ⟨(σ.1 5 c 1).toInt.toNat, (σ.1 5 c 2).toInt.toNat, n_get2 o.1, n_get2 (by omega), by omega, by omega⟩
theorem Dn_congr {e0 : Int32} (h : Rl n m e0 σ τ) {p q : Nat → Prop} {t : Nat} (ht : t < n) (hpq : ∀ f, f < t → (p f ↔ q f)) : Dn m σ p t ↔ Dn m σ q t := by
  have hn := h.n16
  unfold Dn
  have : ∀ c f : Nat, c < m → σ.1 5 c 2 = Int32.ofNat t → σ.1 5 c 1 = Int32.ofNat f → f < 16 → (p f ↔ q f) := fun c f hc e2 e1 hf => by
    obtain ⟨f', g', e3, e4, h1, h2⟩ := h.ft hc
    rw [e1, n_eq (by omega) (by omega)] at e3
    rw [e2, n_eq (by omega) (by omega)] at e4
    exact hpq f (by omega)
  constructor
  · rintro ⟨a, b⟩
    exact ⟨a, fun g c f hc e2 e1 hf => ⟨(this c f hc e2 e1 hf).mp (b g c f hc e2 e1 hf).1, (b g c f hc e2 e1 hf).2⟩⟩
  · rintro ⟨a, b⟩
    exact ⟨a, fun g c f hc e2 e1 hf => ⟨(this c f hc e2 e1 hf).mpr (b g c f hc e2 e1 hf).1, (b g c f hc e2 e1 hf).2⟩⟩
theorem e_over {c f : Nat} {x M : Int32} (hf : f < 16) (e1 : σ.1 5 c 1 = Int32.ofNat f) : f_X1_isOverAt c x M σ = some (if bt M f = true ∧ (σ.1 5 c 5).toInt ≤ x.toInt then 1 else 0, σ) := by
  unfold f_X1_isOverAt
  rw [e1, e_isIn (by omega), Option.bind_some]
  dsimp only
  by_cases g : bt M f = true
  · rw [if_pos g, if_neg (by decide)]
    by_cases g2 : (σ.1 5 c 5).toInt ≤ x.toInt
    · rw [if_neg (by rw [i_lt]; omega), if_pos ⟨g, g2⟩]; rfl
    · rw [if_pos (by rw [i_lt]; omega), if_neg (fun q => g2 q.2)]; rfl
  · rw [if_neg g, if_pos rfl, if_neg (fun q => g q.1)]; rfl
theorem e_isDone {e0 : Int32} (h : Rl n m e0 σ τ) {t : Nat} {M : Int32} (ht : t < n) : ∃ b : Bool, (b = true ↔ Dn m σ (fun f => bt M f = true) t) ∧ f_X2_isDone (Int32.ofNat t) M σ = some (if b = true then 1 else 0, σ) := by
  have hn := h.n16
  have hm := h.m40
  have p7 := aP_n (φ := 7) (j := t) (by show t < 16; omega) (by omega)
  unfold f_X2_isDone
  rw [p7, Option.bind_some]
  by_cases g : σ.1 4 t 2 = 0
  · rw [if_pos g, Option.bind_some, Option.bind_some]
    by_cases g2 : (σ.1 4 t 3).toInt ≤ (σ.1 4 t 11).toInt
    · have g3 : ¬ σ.1 4 t 11 < σ.1 4 t 3 := by rw [i_lt]; omega
      exact ⟨true, by simp [Dn, g, g2], by rw [if_neg g3]; rfl⟩
    · have g3 : σ.1 4 t 11 < σ.1 4 t 3 := by rw [i_lt]; omega
      exact ⟨false, by simp [Dn, g, g2], by rw [if_pos g3]; rfl⟩
  · rw [if_neg g]
    have e3 := h.1.2.2.2.1
    refine loopX (X := fun _ => none) (F := fun f v (s : Unit) => f_X2_isDone_41 f (Int32.ofNat t) M v σ) (N := m) (by omega) (fun i _ => ∀ c f : Nat, c < i → σ.1 5 c 2 = Int32.ofNat t → σ.1 5 c 1 = Int32.ofNat f → f < 16 → bt M f = true ∧ (σ.1 5 c 5).toInt ≤ (σ.1 5 c 6).toInt) (fun r => ∃ b : Bool, (b = true ↔ Dn m σ (fun f => bt M f = true) t) ∧ r = some (if b = true then 1 else 0, σ))
      (fun k i s hi hp => ?_) (fun k s hp => ?_) () (fun c f hc => absurd hc (Nat.not_lt_zero c))
    · show _ ∨ _
      obtain ⟨f, g', e1, e2, h1, h2⟩ := h.ft hi
      rw [f_X2_isDone_41, e3, if_neg (by rw [n_le (by omega) (by omega)]; omega), aP_n (by show i < 40; omega) (by omega), Option.bind_some]
      by_cases q : g' = t
      · subst q
        rw [if_pos e2, e_over (by omega) e1, Option.bind_some]
        dsimp only
        by_cases q2 : bt M f = true ∧ (σ.1 5 i 5).toInt ≤ (σ.1 5 i 6).toInt
        · rw [if_pos q2, if_neg (by decide), f_X2_isDone_82, n_inc]
          refine Or.inr ⟨(), fun c f' hc e4 e5 hf' => ?_, rfl⟩
          by_cases q3 : c = i
          · subst q3
            rw [e1, n_eq (by omega) (by omega)] at e5
            subst e5; exact q2
          · exact hp c f' (by omega) e4 e5 hf'
        · rw [if_neg q2, if_pos rfl]
          refine Or.inl ⟨false, ?_, rfl⟩
          constructor
          · intro q; cases q
          · rintro ⟨-, q3⟩
            exact absurd (q3 g i f hi e2 e1 (by omega)) q2
      · rw [if_neg (by rw [e2, n_eq (by omega) (by omega)]; exact q), f_X2_isDone_82, n_inc]
        refine Or.inr ⟨(), fun c f' hc e4 e5 hf' => ?_, rfl⟩
        by_cases q3 : c = i
        · subst q3
          rw [e2, n_eq (by omega) (by omega)] at e4
          exact absurd e4 q
        · exact hp c f' (by omega) e4 e5 hf'
    · rw [f_X2_isDone_41, e3, if_pos (by rw [n_le (by omega) (by omega)]; omega)]
      exact ⟨true, ⟨fun _ => ⟨fun q => absurd q g, fun _ => hp⟩, fun _ => rfl⟩, rfl⟩
theorem b_set {M : Int32} {i t : Nat} (hi : i < 31) (ht : t < 32) : bt (M ||| ((1 : Int32) <<< (Int32.ofNat i &&& 31))) t = (bt M t || decide (t = i)) := by
  rw [b_or, b_one (by omega) ht]
theorem b_set_big {M : Int32} {i t : Nat} (ht : 32 ≤ t) : bt M t = false := b_big ht
theorem e_done {e0 : Int32} (h : Rl n m e0 σ τ) : ∃ M : Int32, PD n m σ M ∧ f_X2_doneTasks σ = some (M, σ) := by
  have hn := h.n16
  have e1 := h.1.2.2.1
  obtain ⟨M, h1, h2⟩ := loopE (F := fun f v (s : Int32) => f_X2_doneTasks_4 f s v σ) (X := fun s => some (s, σ)) (N := n) (by omega) (fun i s => (∀ t, t < i → (bt s t = true ↔ Dn m σ (fun f => bt s f = true) t)) ∧ ∀ t, i ≤ t → bt s t = false)
    (fun f i s hi hp => by
      obtain ⟨b, hb, e2⟩ := e_isDone h (M := s) hi
      have step : f_X2_doneTasks_4 (f + 1) s (Int32.ofNat i) σ = f_X2_doneTasks_4 f (if b = true then s ||| ((1 : Int32) <<< (Int32.ofNat i &&& 31)) else s) (Int32.ofNat (i + 1)) σ := by
        rw [f_X2_doneTasks_4, e1, if_neg (by rw [n_le (by omega) (by omega)]; omega), e2, Option.bind_some]
        dsimp only
        cases b
        · rw [show (if (false = true) then (1 : Int32) else 0) = 0 from rfl, if_pos rfl, f_X2_doneTasks_27, n_inc]; rfl
        · rw [show (if (true = true) then (1 : Int32) else 0) = 1 from rfl, if_neg (by decide), f_X2_doneTasks_27, n_inc]; rfl
      refine ⟨_, ?_, step⟩
      cases b
      · rw [if_neg (by decide)]
        refine ⟨fun t ht => ?_, fun t ht => hp.2 t (by omega)⟩
        by_cases e : t = i
        · subst e
          rw [hp.2 t (Nat.le_refl t)]
          exact hb
        · exact hp.1 t (by omega)
      · rw [if_pos rfl]
        have bs : ∀ t, t < 32 → bt (s ||| ((1 : Int32) <<< (Int32.ofNat i &&& 31))) t = (bt s t || decide (t = i)) := fun t ht => b_set (by omega) ht
        have low : ∀ t, t < i → ∀ f, f < t → ((bt (s ||| ((1 : Int32) <<< (Int32.ofNat i &&& 31))) f = true) ↔ bt s f = true) := fun t ht f hf => by
          rw [bs f (by omega)]
          have : ¬ f = i := by omega
          simp [this]
        refine ⟨fun t ht => ?_, fun t ht => ?_⟩
        · by_cases e : t = i
          · subst e
            rw [bs t (by omega)]
            have := Dn_congr h (t := t) (p := fun f => bt (s ||| ((1 : Int32) <<< (Int32.ofNat t &&& 31))) f = true) (q := fun f => bt s f = true) hi (fun f hf => by
              rw [bs f (by omega)]
              have : ¬ f = t := by omega
              simp [this])
            rw [this, ← hb]
            simp
          · have := Dn_congr h (t := t) (p := fun f => bt (s ||| ((1 : Int32) <<< (Int32.ofNat i &&& 31))) f = true) (q := fun f => bt s f = true) (by omega) (fun f hf => low t (by omega) f hf)
            rw [this, bs t (by omega), ← hp.1 t (by omega)]
            simp [e]
        · by_cases e32 : t < 32
          · rw [bs t e32, hp.2 t (by omega)]
            have : ¬ t = i := by omega
            simp [this]
          · exact b_big (by omega))
    (fun f s hp => by
      show f_X2_doneTasks_4 (f + 1) s (Int32.ofNat n) σ = _
      rw [f_X2_doneTasks_4, e1, if_pos (by rw [n_le (by omega) (by omega)]; omega), f_X2_doneTasks_33]) 0 ⟨fun t ht => absurd ht (Nat.not_lt_zero t), fun t _ => b_0 t⟩
  exact ⟨M, h1, h2⟩
end DONE
