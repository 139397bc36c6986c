section S6
variable {n m t : Nat} {σ τ σ' τ' ς : sm_M} {e0 : Int32} {v x M : Int32}
theorem e_rdy (h : Rl n m 0 σ τ) {k : Nat} (hk : k < m) : f_X6_ready (Int32.ofNat k) τ = some (σ.1 5 k 4, τ) := by
  have hm := h.m40
  have ai : ∀ (φ : Nat) (s : sm_M), fL φ = 40 → aI φ s 0 (Int32.ofNat k) = some (s.1 φ 0 k) := fun φ s hφ => aI_n (by rw [hφ]; omega) (by omega)
  have c38 : τ.1 38 0 k = σ.1 5 k 4 := (h.C hk).1.2.2.2.1
  have c40 : τ.1 40 0 k = σ.1 5 k 6 := (h.C hk).1.2.2.2.2.2.1
  have l : relL (σ.1 5 k) (colK τ k) := (h.C hk).1.2.2.2.2.2.2.2.2.2.2
  obtain ⟨o1, o2, o3, o4, o5, o6, o7, o8, o9⟩ := (h.C hk).2
  rw [f_X6_ready, ai 42 _ rfl, Option.bind_some, f_X6_ready_33, ai 38 _ rfl, Option.bind_some, f_X6_ready_39, c38]
  rcases l with ⟨q, -⟩ | ⟨q1, q2, q3⟩
  · have q' : τ.1 42 0 k = 0 := q
    rw [if_pos q']
  · have q1' : τ.1 42 0 k = 1 := q1
    have q2' : τ.1 43 0 k = σ.1 5 k 9 + σ.1 5 k 8 := q2
    have := o9 rfl q3
    rw [if_neg (by rw [q1']; decide), ai 40 _ rfl, Option.bind_some, ai 43 _ rfl, Option.bind_some, c40, q2', if_pos (by rw [i_le, i_add (by omega) (by omega)]; omega)]
theorem Nx_uniq {k j : Nat} (h1 : Nx m t M σ k) (h2 : Nx m t M σ j) : k = j := by
  by_cases a : k < j
  · exact absurd (h2.2.2.2 k a h1.2.1) h1.2.2.1
  · by_cases b : j < k
    · exact absurd (h1.2.2.2 j b h2.2.1) h2.2.2.1
    · omega
theorem PD_low (h : Rl n m e0 σ τ) {M' : Int32} (ht : t < n) (h1 : PD n m σ M') (h2 : PDl m t M σ) : ∀ f, f < t → (bt M' f = true ↔ bt M f = true) := by
  intro f
  induction f using Nat.strongRecOn with
  | _ f ih =>
    intro hf
    rw [h1.1 f (by omega), h2 f hf]
    exact Dn_congr h (by omega) (fun g hg => ih g hg (by omega))
theorem m_1 (i : Nat) : Int32.ofNat i + (-1) = Int32.ofNat i - 1 := (Int32.sub_eq_add_neg _ _).symm
theorem e_next (h : Rl n m 0 σ τ) (ht : t < n) (hp : PDl m t M σ) : ∃ v6 τ1, f_X6_findDone τ = some τ1 ∧ f_X6_nextOf (Int32.ofNat t) τ1 = some (v6, τ1) ∧ ((∃ c v, Av m t M σ c v ∧ v6 = ec c) ∨ (v6 = -9 ∧ ∀ c v, ¬ Av m t M σ c v)) ∧ Rl n m 0 σ τ1 ∧ Fz τ τ1 := by
  have hn := h.n16
  have hm := h.m40
  obtain ⟨M', hM', -⟩ := e_done h
  have low := PD_low h ht hM' hp
  obtain ⟨τ1, e1, f1, f2, f3⟩ := e_fd h hM'
  have h' : Rl n m 0 σ τ1 := h.scr (fun φ hφ => f1 φ (by omega))
  have fz : Fz τ τ1 := ⟨f1 55 (by decide), f1 56 (by decide), f1 57 (by decide)⟩
  have c21 : τ1.1 21 0 t = σ.1 4 t 2 := (h'.T ht).1.1
  have c22 : τ1.1 22 0 t = σ.1 4 t 3 := (h'.T ht).1.2.1
  have c24 : τ1.1 24 0 t = σ.1 4 t 11 := (h'.T ht).1.2.2.2.1
  have at' : ∀ (φ : Nat) (s : sm_M), fL φ = 16 → aI φ s 0 (Int32.ofNat t) = some (s.1 φ 0 t) := fun φ s hφ => aI_n (by rw [hφ]; omega) (by omega)
  by_cases k0 : σ.1 4 t 2 = 0
  · by_cases g : (σ.1 4 t 11).toInt < (σ.1 4 t 3).toInt
    · refine ⟨-1, τ1, e1, ?_, Or.inl ⟨none, _, ⟨k0, g, rfl⟩, rfl⟩, h', fz⟩
      rw [f_X6_nextOf, at' 21 _ rfl, Option.bind_some, c21, if_pos k0, at' 24 _ rfl, Option.bind_some, at' 22 _ rfl, Option.bind_some, c22, c24, if_neg (by rw [i_le]; omega), f_X6_nextOf_30]
    · refine ⟨-9, τ1, e1, ?_, Or.inr ⟨rfl, fun c v q => ?_⟩, h', fz⟩
      · rw [f_X6_nextOf, at' 21 _ rfl, Option.bind_some, c21, if_pos k0, at' 24 _ rfl, Option.bind_some, at' 22 _ rfl, Option.bind_some, c22, c24, if_pos (by rw [i_le]; omega), f_X6_nextOf_30]
      · cases c with
        | none => exact g q.2.1
        | some k => exact q.1 k0
  · -- among channels
    have isO : ∀ i, i < m → σ.1 5 i 2 = Int32.ofNat t → ∃ b : Bool, (b = true ↔ Ovr M σ i) ∧ f_X6_isOver (Int32.ofNat i) τ1 = some (if b = true then 1 else 0, τ1) := fun i hi q => by
      obtain ⟨f, g, a1, a2, a3, a4⟩ := h.ft hi
      rw [a2, n_eq (by omega) (by omega)] at q
      subst q
      have hfr : fr (σ.1 5 i) = f := by unfold fr; rw [a1, i_of (by omega)]; omega
      have c34 : τ1.1 34 0 i = Int32.ofNat f := by rw [← a1]; exact (h'.C hi).1.1
      have c39 : τ1.1 39 0 i = σ.1 5 i 5 := (h'.C hi).1.2.2.2.2.1
      have c40 : τ1.1 40 0 i = σ.1 5 i 6 := (h'.C hi).1.2.2.2.2.2.1
      have ai : ∀ (φ : Nat) (s : sm_M), fL φ = 40 → aI φ s 0 (Int32.ofNat i) = some (s.1 φ 0 i) := fun φ s hφ => aI_n (by rw [hφ]; omega) (by omega)
      rw [f_X6_isOver, ai 34 _ rfl, Option.bind_some, c34, aI_n (φ := 54) (by show f < 16; omega) (by omega), Option.bind_some, f3 f (by omega), ai 40 _ rfl, Option.bind_some, ai 39 _ rfl, Option.bind_some, c39, c40]
      unfold Ovr
      rw [hfr]
      by_cases q : bt M' f = true
      · rw [if_pos q, if_neg (show ¬ (1 : Int32) = 0 by decide)]
        have q' := (low f a3).mp q
        by_cases q2 : (σ.1 5 i 5).toInt ≤ (σ.1 5 i 6).toInt
        · exact ⟨true, ⟨fun _ => ⟨q', q2⟩, fun _ => rfl⟩, by rw [if_neg (by rw [i_lt]; omega)]; rfl⟩
        · exact ⟨false, ⟨fun r => (by cases r), fun r => absurd r.2 q2⟩, by rw [if_pos (by rw [i_lt]; omega)]; rfl⟩
      · rw [if_neg q, if_pos rfl]
        exact ⟨false, ⟨fun r => (by cases r), fun r => absurd ((low f a3).mpr r.1) q⟩, rfl⟩
    have key : ∀ i f v2, i ≤ m → i < f → ((v2 = -9 ∧ ∀ c, i ≤ c → c < m → σ.1 5 c 2 = Int32.ofNat t → Ovr M σ c) ∨ (∃ k, v2 = Int32.ofNat k ∧ i ≤ k ∧ k < m ∧ σ.1 5 k 2 = Int32.ofNat t ∧ ¬ Ovr M σ k ∧ ∀ c, i ≤ c → c < k → σ.1 5 c 2 = Int32.ofNat t → Ovr M σ c)) → ∃ w, f_X6_nextOf_41 f (Int32.ofNat t) v2 (Int32.ofNat i - 1) τ1 = f_X6_nextOf_75 w τ1 ∧ ((w = -9 ∧ ∀ c, c < m → σ.1 5 c 2 = Int32.ofNat t → Ovr M σ c) ∨ (∃ k, w = Int32.ofNat k ∧ Nx m t M σ k)) := by
      intro i
      induction i with
      | zero =>
        intro f v2 _ hf hq
        obtain ⟨f, rfl⟩ : ∃ g, f = g + 1 := ⟨f - 1, by omega⟩
        refine ⟨v2, by rw [f_X6_nextOf_41, if_pos (by decide)], ?_⟩
        rcases hq with ⟨q1, q2⟩ | ⟨k, q1, -, q2, q3, q4, q5⟩
        · exact Or.inl ⟨q1, fun c => q2 c (Nat.zero_le c)⟩
        · exact Or.inr ⟨k, q1, q2, q3, q4, fun c => q5 c (Nat.zero_le c)⟩
      | succ i ih =>
        intro f v2 hi hf hq
        obtain ⟨f, rfl⟩ : ∃ g, f = g + 1 := ⟨f - 1, by omega⟩
        have e3 : Int32.ofNat (i + 1) - 1 = Int32.ofNat i := by rw [show (1 : Int32) = Int32.ofNat 1 from rfl, n_sub (by omega)]; rfl
        have c35 : τ1.1 35 0 i = σ.1 5 i 2 := (h'.C (show i < m by omega)).1.2.1
        rw [e3, f_X6_nextOf_41, if_neg (n_pos (by omega)), aI_n (φ := 35) (by show i < 40; omega) (by omega), Option.bind_some, c35]
        by_cases g : σ.1 5 i 2 = Int32.ofNat t
        · obtain ⟨b, hb, eb⟩ := isO i (by omega) g
          rw [if_pos g, eb, Option.bind_some]
          dsimp only
          by_cases g2 : b = true
          · rw [if_pos g2, if_neg (show ¬ (1 : Int32) = 0 by decide), f_X6_nextOf_67, f_X6_nextOf_68, m_1]
            refine ih f v2 (by omega) (by omega) ?_
            rcases hq with ⟨q1, q2⟩ | ⟨k, q1, q0, q2, q3, q4, q5⟩
            · refine Or.inl ⟨q1, fun c h1 h2 h3 => ?_⟩
              by_cases e : c = i
              · subst e; exact hb.mp g2
              · exact q2 c (by omega) h2 h3
            · refine Or.inr ⟨k, q1, by omega, q2, q3, q4, fun c h1 h2 h3 => ?_⟩
              by_cases e : c = i
              · subst e; exact hb.mp g2
              · exact q5 c (by omega) h2 h3
          · rw [if_neg g2, if_pos rfl, f_X6_nextOf_68, m_1]
            refine ih f _ (by omega) (by omega) (Or.inr ⟨i, rfl, Nat.le_refl i, by omega, g, fun q => g2 (hb.mpr q), fun c h1 h2 => by omega⟩)
        · rw [if_neg g, f_X6_nextOf_67, f_X6_nextOf_68, m_1]
          refine ih f v2 (by omega) (by omega) ?_
          rcases hq with ⟨q1, q2⟩ | ⟨k, q1, q0, q2, q3, q4, q5⟩
          · refine Or.inl ⟨q1, fun c h1 h2 h3 => ?_⟩
            by_cases e : c = i
            · subst e; exact absurd h3 g
            · exact q2 c (by omega) h2 h3
          · refine Or.inr ⟨k, q1, by omega, q2, q3, q4, fun c h1 h2 h3 => ?_⟩
            by_cases e : c = i
            · subst e; exact absurd h3 g
            · exact q5 c (by omega) h2 h3
    obtain ⟨w, ew, hw⟩ := key m 1000 (-9) (Nat.le_refl m) (by omega) (Or.inl ⟨rfl, fun c h1 h2 => by omega⟩)
    have e20 : τ1.1 20 0 14 = Int32.ofNat m := h'.1.2.2.2.2.2
    have E : f_X6_nextOf (Int32.ofNat t) τ1 = f_X6_nextOf_75 w τ1 := by
      rw [f_X6_nextOf, at' 21 _ rfl, Option.bind_some, c21, if_neg k0, e20, ew]
    rcases hw with ⟨w1, w2⟩ | ⟨k, w1, w2⟩
    · refine ⟨-9, τ1, e1, ?_, Or.inr ⟨rfl, fun c v q => ?_⟩, h', fz⟩
      · rw [E, w1, f_X6_nextOf_75, if_pos rfl, f_X6_nextOf_99, f_X6_nextOf_101]
      · cases c with
        | none => exact k0 q.1
        | some j => exact q.2.1.2.2.1 (w2 j q.2.1.1 q.2.1.2.1)
    · have hk := w2.1
      have c40 : τ1.1 40 0 k = σ.1 5 k 6 := (h'.C hk).1.2.2.2.2.2.1
      have E2 : f_X6_nextOf (Int32.ofNat t) τ1 = if σ.1 5 k 4 ≤ σ.1 5 k 6 then some (-9, τ1) else some (Int32.ofNat k, τ1) := by
        rw [E, w1, f_X6_nextOf_75, if_neg (by rw [i_eq, i_of (by omega)]; show ¬ _ = (-9 : Int); omega), aI_n (φ := 40) (by show k < 40; omega) (by omega), Option.bind_some, e_rdy h' hk, Option.bind_some, c40]
        rfl
      by_cases g : (σ.1 5 k 6).toInt < (σ.1 5 k 4).toInt
      · refine ⟨Int32.ofNat k, τ1, e1, by rw [E2, if_neg (by rw [i_le]; omega)], Or.inl ⟨some k, _, ⟨k0, w2, g, rfl⟩, rfl⟩, h', fz⟩
      · refine ⟨-9, τ1, e1, by rw [E2, if_pos (by rw [i_le]; omega)], Or.inr ⟨rfl, fun c v q => ?_⟩, h', fz⟩
        cases c with
        | none => exact k0 q.1
        | some j =>
          have := Nx_uniq w2 q.2.1
          subst this
          exact g q.2.2.1
/-- one row: what changes -/
theorem Fr_wI5 {k : Nat} {y : Int32} (hk : σ.1 5 k 2 = Int32.ofNat t) : Fr m t σ (wI σ 5 k 6 y) :=
  ⟨fun φ _ a _ _ => w_ne a, fun u _ => ⟨by rw [w_ne (by decide)], by rw [w_ne (by decide)]⟩, fun j _ _ _ => by rw [w_ne (by decide)], fun c j _ _ a => w_k a, fun c _ => by rw [w_ne (show (16 : Nat) ≠ 5 by decide), w_k (by decide)]; exact ⟨Int.le_refl _, fun _ _ => rfl⟩, by rw [w_ne (show (14 : Nat) ≠ 5 by decide), w_ne (show (4 : Nat) ≠ 5 by decide)]; exact ⟨Int.le_refl _, fun _ _ => rfl⟩, fun c _ => by rw [w_ne (show (16 : Nat) ≠ 5 by decide), w_k (by decide), w_k (by decide)]; exact ⟨rfl, rfl, rfl⟩, fun c a => by rw [w_i (by rintro rfl; exact a hk)]⟩
theorem Fr_exA (hr : Rm m t σ) : Fr m t σ (exA m t v σ) := by
  unfold exA
  by_cases g : asb t (σ.1 4 t 11) σ = true
  · rw [if_pos g]; exact Fr.refl
  · rw [if_neg g]; exact Fr_wk hr
theorem Fr_exP (hr : Rm m t σ) : Fr m t σ (exP m t v σ) := (Fr_exA hr).trans (Fr_wI4 (Or.inl rfl))
theorem Fr_ex (hr : Rm m t σ) {c : Option Nat} (hc : ∀ k, c = some k → σ.1 5 k 2 = Int32.ofNat t) : Fr m t σ (ex m t c v σ) := by
  cases c with
  | none => exact Fr_exP hr
  | some k =>
    have f := Fr_exP (v := v) hr
    exact f.trans (Fr_wI5 (by rw [f.2.2.2.1 k 2 (by decide) (by decide) (by decide)]; exact hc k rfl))
theorem PDl_Fr (h : Rl n m e0 σ τ) (ht : t < n) (f : Fr m t σ ς) (hp : PDl m t M σ) : PDl m t M ς := by
  have hn := h.n16
  intro u hu
  rw [hp u hu]
  have k4 := (f.2.1 u (by omega)).1
  unfold Dn
  rw [k4]
  have kc : ∀ c, c < m → σ.1 5 c 2 = Int32.ofNat u → ς.1 5 c 5 = σ.1 5 c 5 ∧ ς.1 5 c 6 = σ.1 5 c 6 := fun c hc q => by
    obtain ⟨f0, g0, a1, a2, a3, a4⟩ := h.ft hc
    rw [a2, n_eq (by omega) (by omega)] at q
    refine ⟨(f.2.2.2.2.2.2.1 c ?_).2.1, f.2.2.2.2.2.2.2 c ?_⟩
    · rw [a1, Ne, n_eq (by omega) (by omega)]; omega
    · rw [a2, Ne, n_eq (by omega) (by omega)]; omega
  have f1 : ∀ c, ς.1 5 c 1 = σ.1 5 c 1 := fun c => f.2.2.2.1 c 1 (by decide) (by decide) (by decide)
  have f2 : ∀ c, ς.1 5 c 2 = σ.1 5 c 2 := fun c => f.2.2.2.1 c 2 (by decide) (by decide) (by decide)
  constructor
  · rintro ⟨a, b⟩
    refine ⟨a, fun q c g hc e2 e1 hg => ?_⟩
    rw [f2] at e2
    rw [f1] at e1
    rw [(kc c hc e2).1, (kc c hc e2).2]
    exact b q c g hc e2 e1 hg
  · rintro ⟨a, b⟩
    refine ⟨a, fun q c g hc e2 e1 hg => ?_⟩
    have := b q c g hc (by rw [f2]; exact e2) (by rw [f1]; exact e1) hg
    rw [(kc c hc e2).1, (kc c hc e2).2] at this
    exact this
end S6
