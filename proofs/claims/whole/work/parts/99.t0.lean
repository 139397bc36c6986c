def Inv (n m t : Nat) (M : Int32) (σ : sm_M) (i : Nat) (l : List (Option Nat × Int32)) (ρ : sm_M) (R : Int32) : Prop := Enc σ ρ l false R ∧ (∃ τ', Rl n m 0 (exL m t l σ) τ') ∧ Fr m t σ (exL m t l σ) ∧ Rr m t (exL m t l σ) R l.length ∧ l.length ≤ 8 ∧ (exL m t l σ).1 4 t 11 = σ.1 4 t 11 + Int32.ofNat l.length ∧ ∀ c, c < i → σ.1 5 c 2 = Int32.ofNat t → Ovr M (exL m t l σ) c
def Con (m t : Nat) (M : Int32) (σ : sm_M) (l : List (Option Nat × Int32)) (r : Option sm_M) : Prop := ∃ ρ' l' th R', r = some ρ' ∧ Enc σ ρ' (l ++ l') th R' ∧ Run m t M th l.length l' (exL m t l σ) ∧ (l ++ l').length ≤ 8
section T0
variable {n m t : Nat} {σ τ ρ ς : sm_M} {M R v : Int32} {l : List (Option Nat × Int32)}
theorem wk_g (hg : ¬ (σ.1 4 t 2 = 2 ∧ ¬ (0 < (σ.1 4 t 3).toInt ∧ v - v / σ.1 4 t 3 * σ.1 4 t 3 = 0))) (h5 : σ.1 4 t 2 ≠ 5) {c : Nat} (hc : c < m) (hf : σ.1 5 c 1 = Int32.ofNat t) : (wk m t v σ).1 5 c 5 = σ.1 5 c 5 + 1 := by
  have G : ∀ (x : Int32) (s : sm_M), s.1 5 = σ.1 5 → (gvi t x s m).1 5 c 5 = σ.1 5 c 5 + 1 := fun x s hs => by
    rw [gvi_5 (Nat.le_refl m), hs, if_pos ⟨hc, hf⟩]
  rw [wk]
  by_cases k1 : σ.1 4 t 2 = 1
  · rw [if_pos k1]; exact G _ _ rfl
  · rw [if_neg k1]
    by_cases k2 : σ.1 4 t 2 = 2
    · rw [if_pos k2]
      by_cases g : 0 < (σ.1 4 t 3).toInt ∧ v - v / σ.1 4 t 3 * σ.1 4 t 3 = 0
      · rw [if_pos g]; exact G _ _ rfl
      · exact absurd ⟨k2, g⟩ hg
    · rw [if_neg k2]
      by_cases k3 : σ.1 4 t 2 = 3
      · rw [if_pos k3]; exact G _ _ (w_ne (by decide))
      · rw [if_neg k3]
        by_cases k4 : σ.1 4 t 2 = 4
        · rw [if_pos k4]; exact G _ _ rfl
        · rw [if_neg k4, if_neg h5]; exact G _ _ rfl
theorem wk_n (hg : σ.1 4 t 2 = 2 ∧ ¬ (0 < (σ.1 4 t 3).toInt ∧ v - v / σ.1 4 t 3 * σ.1 4 t 3 = 0)) : wk m t v σ = σ := by
  rw [wk, if_neg (by rw [hg.1]; decide), if_pos hg.1, if_neg hg.2]
theorem wk_o (h5 : σ.1 4 t 2 = 5) : (wk m t v σ).1 4 t 13 = σ.1 4 t 13 + 1 := by
  rw [wk, if_neg (by rw [h5]; decide), if_neg (by rw [h5]; decide), if_neg (by rw [h5]; decide), if_neg (by rw [h5]; decide), if_pos h5, po, w_eq]
theorem ex_5 {c : Option Nat} {k : Nat} : (ex m t c v σ).1 5 k 5 = (exA m t v σ).1 5 k 5 := by
  have : (exP m t v σ).1 5 = (exA m t v σ).1 5 := by unfold exP; rw [w_ne (by decide)]
  cases c with
  | none => show (exP m t v σ).1 5 k 5 = _; rw [this]
  | some j => show (wI _ 5 j 6 _).1 5 k 5 = _; rw [w_k (by decide), this]
theorem ex_13 {c : Option Nat} : (ex m t c v σ).1 4 t 13 = (exA m t v σ).1 4 t 13 := by
  have : (exP m t v σ).1 4 t 13 = (exA m t v σ).1 4 t 13 := by unfold exP; rw [w_k (by decide)]
  cases c with
  | none => exact this
  | some j => show (wI _ 5 j 6 _).1 4 t 13 = _; rw [w_ne (by decide), this]
theorem ex_6 {c : Option Nat} {k : Nat} : (ex m t c v σ).1 5 k 6 = if c = some k then σ.1 5 k 6 + 1 else σ.1 5 k 6 := by
  have : ∀ j, (exP m t v σ).1 5 j 6 = σ.1 5 j 6 := fun j => by unfold exP; rw [w_ne (by decide), exA_5 (by decide) (by decide)]
  cases c with
  | none => rw [if_neg (by simp)]; exact this k
  | some j =>
    show (wI _ 5 j 6 _).1 5 k 6 = _
    by_cases e : k = j
    · subst e; rw [w_eq, this, if_pos rfl]
    · rw [w_i e, this, if_neg (by simp; omega)]
theorem Rr_ex (h : Rl n m 0 σ τ) (ht : t < n) {j : Nat} (hj : j ≤ 8) {c : Option Nat} (hr : Rr m t σ R j) (hR : Rm m t σ) (hc : ∀ k, c = some k → σ.1 5 k 2 = Int32.ofNat t) : Rr m t (ex m t c v σ) (nR t σ v R) (j + 1) := by
  have pos := (Rr_pos h ht hj hr).mpr hR
  have hF := Fr_ex (v := v) hR hc
  have k2 : (ex m t c v σ).1 4 t 2 = σ.1 4 t 2 := hF.2.2.1 2 (by decide) (by decide) (by decide)
  have k1 : ∀ d, (ex m t c v σ).1 5 d 1 = σ.1 5 d 1 := fun d => hF.2.2.2.1 d 1 (by decide) (by decide) (by decide)
  obtain ⟨r1, r2, r3⟩ := hr
  have eR : (R - 1).toInt = R.toInt - 1 := i_sub (by show _ ≤ _ - (1 : Int); omega) (by show _ - (1 : Int) < _; omega)
  unfold Rr
  simp only [k2, k1, ex_5, ex_13]
  have keep : exA m t v σ = σ → nR t σ v R = R → ((σ.1 4 t 2 = 5 → (nR t σ v R).toInt = 200 - ((exA m t v σ).1 4 t 13).toInt) ∧ (σ.1 4 t 2 ≠ 5 → (∀ c, c < m → σ.1 5 c 1 = Int32.ofNat t → (nR t σ v R).toInt ≤ 64 - ((exA m t v σ).1 5 c 5).toInt) ∧ ((∃ c, c < m ∧ σ.1 5 c 1 = Int32.ofNat t ∧ (nR t σ v R).toInt = 64 - ((exA m t v σ).1 5 c 5).toInt) ∨ 64 - ((j + 1 : Nat) : Int) ≤ (nR t σ v R).toInt)) ∧ (0 ≤ (nR t σ v R).toInt ∧ (nR t σ v R).toInt ≤ 200)) := fun q1 q2 => by
    rw [q1, q2]
    refine ⟨r1, fun q => ⟨(r2 q).1, ?_⟩, r3⟩
    rcases (r2 q).2 with x | x
    · exact Or.inl x
    · exact Or.inr (by omega)
  by_cases g3 : asb t (σ.1 4 t 11) σ = true
  · exact keep (by unfold exA; rw [if_pos g3]) (by unfold nR; rw [if_pos g3])
  · by_cases g4 : σ.1 4 t 2 = 2 ∧ ¬ (0 < (σ.1 4 t 3).toInt ∧ v - v / σ.1 4 t 3 * σ.1 4 t 3 = 0)
    · exact keep (by unfold exA; rw [if_neg g3, wk_n g4]) (by unfold nR; rw [if_neg g3, if_pos g4])
    · have q1 : exA m t v σ = wk m t v σ := by unfold exA; rw [if_neg g3]
      have q2 : nR t σ v R = R - 1 := by unfold nR; rw [if_neg g3, if_neg g4]
      rw [q1, q2, eR]
      refine ⟨fun q => ?_, fun q => ⟨fun d hd e => ?_, ?_⟩, by omega⟩
      · have o := hR.2 q
        rw [wk_o q, c_inc o.1 (by omega)]
        have := r1 q
        omega
      · have o := hR.1 d hd e
        rw [wk_g g4 q hd e, c_inc o.1 (by omega)]
        have := (r2 q).1 d hd e
        omega
      · rcases (r2 q).2 with ⟨d, hd, e, x⟩ | x
        · refine Or.inl ⟨d, hd, e, ?_⟩
          have o := hR.1 d hd e
          rw [wk_g g4 q hd e, c_inc o.1 (by omega)]
          omega
        · exact Or.inr (by omega)
theorem e_room (h : Rl n m 0 σ τ) (ht : t < n) : ∃ R, f_X2_roomOf (Int32.ofNat t) σ = some (R, σ) ∧ Rr m t σ R 0 := by
  have hn := h.n16
  have hm := h.m40
  have e3 := h.1.2.2.2.1
  have o := (h.T ht).2.2.2.2.2.2.2.2.2
  rw [f_X2_roomOf, aP_n (by show t < 16; omega) (by omega), Option.bind_some, Option.bind_some]
  by_cases k5 : σ.1 4 t 2 = 5
  · rw [if_pos k5]
    have e1 : ((200 : Int32) - σ.1 4 t 13).toInt = 200 - (σ.1 4 t 13).toInt := i_sub (by show _ ≤ (200 : Int) - _; omega) (by show (200 : Int) - _ < _; omega)
    exact ⟨_, rfl, fun _ => e1, fun q => absurd k5 q, by rw [e1]; omega⟩
  · rw [if_neg k5]
    obtain ⟨R, ⟨p1, p2, p3⟩, h2⟩ := loopE (F := fun f i (s : Int32) => f_X2_roomOf_32 f (Int32.ofNat t) s i σ) (X := fun s => some (s, σ)) (N := m) (by omega) (fun i s => (∀ c, c < i → σ.1 5 c 1 = Int32.ofNat t → s.toInt ≤ 64 - (σ.1 5 c 5).toInt) ∧ ((∃ c, c < i ∧ σ.1 5 c 1 = Int32.ofNat t ∧ s.toInt = 64 - (σ.1 5 c 5).toInt) ∨ s.toInt = 64) ∧ (0 ≤ s.toInt ∧ s.toInt ≤ 64))
      (fun f i s hi hp => by
        obtain ⟨p1, p2, p3⟩ := hp
        have oi := (h.C hi).2.2.2.1
        show ∃ s' : Int32, _ ∧ f_X2_roomOf_32 (f + 1) (Int32.ofNat t) s (Int32.ofNat i) σ = f_X2_roomOf_32 f (Int32.ofNat t) s' (Int32.ofNat (i + 1)) σ
        have e1 : ((64 : Int32) - σ.1 5 i 5).toInt = 64 - (σ.1 5 i 5).toInt := i_sub (by show _ ≤ (64 : Int) - _; omega) (by show (64 : Int) - _ < _; omega)
        rw [f_X2_roomOf_32, e3, if_neg (by rw [n_le (by omega) (by omega)]; omega), aP_n (by show i < 40; omega) (by omega), Option.bind_some, Option.bind_some]
        by_cases g : σ.1 5 i 1 = Int32.ofNat t
        · rw [if_pos g, f_X2_roomOf_70, n_inc]
          by_cases g2 : (64 : Int32) - σ.1 5 i 5 < s
          · rw [if_pos g2]
            rw [i_lt, e1] at g2
            refine ⟨_, ⟨fun c hc q => ?_, Or.inl ⟨i, Nat.lt_succ_self i, g, e1⟩, by rw [e1]; omega⟩, rfl⟩
            rw [e1]
            by_cases e : c = i
            · subst e; omega
            · have := p1 c (by omega) q; omega
          · rw [if_neg g2]
            rw [i_lt, e1] at g2
            refine ⟨s, ⟨fun c hc q => ?_, ?_, p3⟩, rfl⟩
            · by_cases e : c = i
              · subst e; omega
              · exact p1 c (by omega) q
            · rcases p2 with ⟨c, x, y, z⟩ | x
              · exact Or.inl ⟨c, by omega, y, z⟩
              · exact Or.inr x
        · rw [if_neg g, f_X2_roomOf_70, n_inc]
          refine ⟨s, ⟨fun c hc q => ?_, ?_, p3⟩, rfl⟩
          · by_cases e : c = i
            · subst e; exact absurd q g
            · exact p1 c (by omega) q
          · rcases p2 with ⟨c, x, y, z⟩ | x
            · exact Or.inl ⟨c, by omega, y, z⟩
            · exact Or.inr x)
      (fun f s hp => by
        show f_X2_roomOf_32 (f + 1) (Int32.ofNat t) s (Int32.ofNat m) σ = _
        rw [f_X2_roomOf_32, e3, if_pos (by rw [n_le (by omega) (by omega)]; omega), f_X2_roomOf_76]) 64 ⟨fun c hc => absurd hc (Nat.not_lt_zero c), Or.inr rfl, by decide⟩
    refine ⟨R, h2, fun q => absurd q k5, fun _ => ⟨p1, ?_⟩, by omega⟩
    rcases p2 with x | x
    · exact Or.inl x
    · exact Or.inr (by omega)
theorem Con_app {y : Option Nat × Int32} {r : Option sm_M} (hc : Con m t M σ (l ++ [y]) r) (h : Av m t M (exL m t l σ) y.1 y.2 ∧ Lm t (exL m t l σ) l.length ∧ Rm m t (exL m t l σ) ∧ ¬ Thr t (exL m t l σ) y.2) : Con m t M σ l r := by
  obtain ⟨ρ', l', th, R', a1, a2, a3, a4⟩ := hc
  have e : l ++ [y] ++ l' = l ++ (y :: l') := by simp
  rw [e] at a2 a4
  refine ⟨ρ', y :: l', th, R', a1, a2, ⟨h, ?_⟩, a4⟩
  rw [exL_app] at a3
  simpa using a3
theorem Inv_step {i : Nat} {c : Option Nat} {ρ' : sm_M} (hI : Inv n m t M σ i l ρ R) (ht : t < n) (ha : Av m t M (exL m t l σ) c v) (hL : Lm t (exL m t l σ) l.length) (hR : Rm m t (exL m t l σ)) (hE : Enc σ ρ' (l ++ [(c, v)]) false (nR t (exL m t l σ) v R)) (o7 : (σ.1 4 t 7).toInt ≤ 8) (hci : ∀ k, c = some k → i ≤ k) : Inv n m t M σ i (l ++ [(c, v)]) ρ' (nR t (exL m t l σ) v R) := by
  obtain ⟨a1, ⟨τ1, a2⟩, a3, a4, a5, a6, a7⟩ := hI
  have hn := a2.n16
  obtain ⟨τ2, -, b2, -⟩ := e_item a2 ht ha hR (fun _ _ _ _ _ _ _ _ => none) 0 0 0 0
  have fe := Fr_ex (v := v) hR (Av_to ha)
  have k7 : (exL m t l σ).1 4 t 7 = σ.1 4 t 7 := a3.2.2.1 7 (by decide) (by decide) (by decide)
  have l8 : l.length < 8 := by unfold Lm at hL; rw [k7] at hL; omega
  refine ⟨hE, ⟨τ2, by rw [exL_app]; exact b2⟩, by rw [exL_app]; exact a3.trans fe, ?_, by simp; omega, ?_, fun d hd q => ?_⟩
  · rw [exL_app]
    have := Rr_ex (v := v) a2 ht a5 a4 hR (Av_to ha)
    simpa using this
  · rw [exL_app]
    show (ex m t c v (exL m t l σ)).1 4 t 11 = _
    rw [ex_11, a6, Int32.add_assoc, n_inc]
    simp
  · rw [exL_app]
    have o := a7 d hd q
    have f1 : (exL m t l σ).1 5 d 2 = Int32.ofNat t := by rw [a3.2.2.2.1 d 2 (by decide) (by decide) (by decide)]; exact q
    unfold Ovr at o ⊢
    show bt M (fr ((ex m t c v (exL m t l σ)).1 5 d)) = true ∧ _
    have fr1 : fr ((ex m t c v (exL m t l σ)).1 5 d) = fr ((exL m t l σ).1 5 d) := by unfold fr; rw [fe.2.2.2.1 d 1 (by decide) (by decide) (by decide)]
    rw [fr1]
    refine ⟨o.1, ?_⟩
    show ((ex m t c v (exL m t l σ)).1 5 d 5).toInt ≤ ((ex m t c v (exL m t l σ)).1 5 d 6).toInt
    rw [ex_6, if_neg (fun e => by have := hci d e; omega)]
    by_cases hdm : d < m
    · obtain ⟨f0, g0, b1, b2', b3, b4⟩ := a2.ft hdm
      rw [b2', n_eq (by omega) (by omega)] at f1
      rw [(fe.2.2.2.2.2.2.1 d (by rw [b1, Ne, n_eq (by omega) (by omega)]; omega)).2.1]
      exact o.2
    · have e5 : (ex m t c v (exL m t l σ)).1 5 d 5 = (exL m t l σ).1 5 d 5 := by
        rw [ex_5]; unfold exA
        by_cases g : asb t ((exL m t l σ).1 4 t 11) (exL m t l σ) = true
        · rw [if_pos g]
        · rw [if_neg g, wk]
          have G : ∀ (x : Int32) (s : sm_M), s.1 5 = (exL m t l σ).1 5 → (gvi t x s m).1 5 d 5 = (exL m t l σ).1 5 d 5 := fun x s hs => by rw [gvi_5 (Nat.le_refl m), hs, if_neg (fun q => hdm q.1)]
          repeat' split
          all_goals first
            | rfl
            | exact G _ _ rfl
            | exact G _ _ (w_ne (by decide))
            | (rw [po, w_ne (by decide), w_ne (by decide)])
      rw [e5]; exact o.2
end T0
