/-! ===== a step: the plan ===== -/
def cc (c : Option Nat) : Int32 :=
  match c with
  | none => -9
  | some k => Int32.ofNat k
def Enc (σ ρ : sm_M) (l : List (Option Nat × Int32)) (th : Bool) (R : Int32) : Prop := (∀ φ, φ ≠ 2 → φ ≠ 9 → φ ≠ 10 → ρ.1 φ = σ.1 φ) ∧ ρ.2 = σ.2 ∧ ρ.1 2 0 2 = Int32.ofNat l.length ∧ ρ.1 2 0 3 = (if th = true then 1 else 0) ∧ ρ.1 2 0 4 = R ∧ ∀ i y, l[i]? = some y → ρ.1 9 0 i = y.2 ∧ ρ.1 10 0 i = cc y.1
def Rr (m t : Nat) (σ : sm_M) (R : Int32) (j : Nat) : Prop := (σ.1 4 t 2 = 5 → R.toInt = 200 - (σ.1 4 t 13).toInt) ∧ (σ.1 4 t 2 ≠ 5 → (∀ c, c < m → σ.1 5 c 1 = Int32.ofNat t → R.toInt ≤ 64 - (σ.1 5 c 5).toInt) ∧ ((∃ c, c < m ∧ σ.1 5 c 1 = Int32.ofNat t ∧ R.toInt = 64 - (σ.1 5 c 5).toInt) ∨ 64 - (j : Int) ≤ R.toInt)) ∧ (0 ≤ R.toInt ∧ R.toInt ≤ 200)
section S9
variable {n m t : Nat} {σ τ ρ ς : sm_M} {M R v : Int32} {l : List (Option Nat × Int32)}
theorem exL_app {y : Option Nat × Int32} : ∀ (l : List (Option Nat × Int32)) (σ : sm_M), exL m t (l ++ [y]) σ = ex m t y.1 y.2 (exL m t l σ) := by
  intro l
  induction l with
  | nil => intro σ; rfl
  | cons x l ih => intro σ; exact ih _
theorem Rr_pos (h : Rl n m 0 ς τ) (ht : t < n) {j : Nat} (hj : j ≤ 8) (hr : Rr m t ς R j) : 0 < R.toInt ↔ Rm m t ς := by
  have hn := h.n16
  have o := (h.T ht).2.2.2.2.2.2.2.2.2
  constructor
  · intro q
    refine ⟨fun c hc e => ⟨(h.C hc).2.2.2.1.1, ?_⟩, fun k5 => ?_⟩
    · by_cases k5 : ς.1 4 t 2 = 5
      · obtain ⟨f0, g0, a1, a2, a3, a4⟩ := h.ft hc
        exact absurd k5 (h.E c t g0 hc e a2 (by omega) (by omega)).1
      · have := (hr.2.1 k5).1 c hc e; omega
    · have := hr.1 k5; omega
  · intro q
    by_cases k5 : ς.1 4 t 2 = 5
    · have := hr.1 k5
      have := q.2 k5
      omega
    · rcases (hr.2.1 k5).2 with ⟨c, hc, e, q2⟩ | q2
      · have := (q.1 c hc e).2; omega
      · omega
theorem e_tm {th : Bool} (hE : Enc σ ρ l th R) (o7 : 1 ≤ (σ.1 4 t 7).toInt ∧ (σ.1 4 t 7).toInt ≤ 8) (hl : l.length ≤ 8) : ∃ b : Bool, (b = true ↔ (th = false ∧ Lm t σ l.length ∧ 0 < R.toInt)) ∧ f_X3_takesMore t ρ = some (if b = true then 1 else 0, ρ) := by
  obtain ⟨a1, a2, a3, a4, a5, a6⟩ := hE
  have e4 : ρ.1 4 = σ.1 4 := a1 4 (by decide) (by decide) (by decide)
  rw [f_X3_takesMore, a3, a4, a5, e4]
  unfold Lm
  cases th with
  | true => exact ⟨false, ⟨fun q => (by cases q), fun q => (by cases q.1)⟩, rfl⟩
  | false =>
    rw [if_pos (by rfl)]
    by_cases g : σ.1 4 t 7 ≤ Int32.ofNat l.length
    · rw [i_le, i_of (by omega)] at g
      refine ⟨false, ⟨fun q => (by cases q), fun q => by omega⟩, ?_⟩
      rw [if_pos (by rw [i_le, i_of (by omega)]; exact g)]; rfl
    · rw [if_neg g]
      rw [i_le, i_of (by omega)] at g
      rw [if_neg (by rw [show (8 : Int32) = Int32.ofNat 8 from rfl, n_le (by omega) (by omega)]; omega)]
      by_cases g2 : R ≤ 0
      · rw [i_le] at g2
        have : (0 : Int32).toInt = 0 := rfl
        exact ⟨false, ⟨fun q => (by cases q), fun q => by omega⟩, by rw [if_pos (by rw [i_le]; exact g2)]; rfl⟩
      · rw [if_neg g2]
        rw [i_le] at g2
        have : (0 : Int32).toInt = 0 := rfl
        exact ⟨true, ⟨fun _ => ⟨rfl, by omega, by omega⟩, fun _ => rfl⟩, rfl⟩
theorem asd_congr {x : Int32} {σ ς : sm_M} (h : ∀ j, ς.1 15 t j = σ.1 15 t j) : ∀ K, asd t x ς K = asd t x σ K := by
  intro K
  induction K with
  | zero => rfl
  | succ K ih => rw [asd, asd, ih, h K]
theorem asb_congr {x : Int32} {σ ς : sm_M} (h : ς.1 15 t = σ.1 15 t) (h2 : ς.1 4 t 10 = σ.1 4 t 10) : asb t x ς = asb t x σ := by
  unfold asb; rw [h2]; exact asd_congr (fun j => by rw [h]) _
/-- what a row leaves of the room -/
def nR (t : Nat) (σ : sm_M) (v R : Int32) : Int32 := if asb t (σ.1 4 t 11) σ = true then R else if σ.1 4 t 2 = 2 ∧ ¬ (0 < (σ.1 4 t 3).toInt ∧ v - v / σ.1 4 t 3 * σ.1 4 t 3 = 0) then R else R - 1
theorem getL {α : Type} {l : List α} {x y : α} {i : Nat} (h : (l ++ [x])[i]? = some y) : (i < l.length ∧ l[i]? = some y) ∨ (i = l.length ∧ y = x) := by
  by_cases g : i < l.length
  · exact Or.inl ⟨g, by rw [List.getElem?_append_left g] at h; exact h⟩
  · rw [List.getElem?_append_right (by omega)] at h
    by_cases e : i = l.length
    · subst e; simp at h; exact Or.inr ⟨rfl, h.symm⟩
    · obtain ⟨k, hk⟩ : ∃ k, i - l.length = k + 1 := ⟨i - l.length - 1, by omega⟩
      rw [hk] at h; simp at h
theorem e_add {c : Option Nat} (hE : Enc σ ρ l false R) (o10 : 0 ≤ (σ.1 4 t 10).toInt ∧ (σ.1 4 t 10).toInt ≤ 8) (hl : l.length < 8) (hF : Fr m t σ ς) (hp : ς.1 4 t 11 = σ.1 4 t 11 + Int32.ofNat l.length) : ∃ ρ', f_X3_add t (cc c) v ρ = some ρ' ∧ ((Thr t ς v ∧ Enc σ ρ' l true R) ∨ (¬ Thr t ς v ∧ Enc σ ρ' (l ++ [(c, v)]) false (nR t ς v R))) := by
  obtain ⟨a1, a2, a3, a4, a5, a6⟩ := hE
  have e4 : ρ.1 4 = σ.1 4 := a1 4 (by decide) (by decide) (by decide)
  have e15 : ρ.1 15 = σ.1 15 := a1 15 (by decide) (by decide) (by decide)
  have k2 : ς.1 4 t 2 = σ.1 4 t 2 := hF.2.2.1 2 (by decide) (by decide) (by decide)
  have k3 : ς.1 4 t 3 = σ.1 4 t 3 := hF.2.2.1 3 (by decide) (by decide) (by decide)
  have k6 : ς.1 4 t 6 = σ.1 4 t 6 := hF.2.2.1 6 (by decide) (by decide) (by decide)
  have k10 : ς.1 4 t 10 = σ.1 4 t 10 := hF.2.2.1 10 (by decide) (by decide) (by decide)
  have k15 : ς.1 15 = σ.1 15 := hF.1 15 (by decide) (by decide) (by decide) (by decide)
  have eas : f_X4_isAside t (ρ.1 4 t 11 + ρ.1 2 0 2) ρ = some (if asb t (ς.1 4 t 11) ς = true then 1 else 0, ρ) := by
    rw [e_as (by rw [e4]; exact o10), a3, e4, hp, asb_congr (σ := σ) (ς := ρ) (by rw [e15]) (by rw [e4]), asb_congr (σ := σ) (ς := ς) (by rw [k15]) k10]
  have eth : ∃ b : Bool, (b = true ↔ Thr t ς v) ∧ f_X4_throwsAt t (ρ.1 4 t 11 + ρ.1 2 0 2) v ρ = some (if b = true then 1 else 0, ρ) := by
    rw [f_X4_throwsAt, eas, Option.bind_some]
    unfold Thr
    rw [k6, e4]
    by_cases g1 : σ.1 4 t 6 = 1001
    · exact ⟨false, ⟨fun q => (by cases q), fun q => absurd g1 q.1⟩, by rw [if_pos g1]; rfl⟩
    · rw [if_neg g1]
      by_cases g2 : v = σ.1 4 t 6
      · rw [if_pos g2]
        by_cases g3 : asb t (ς.1 4 t 11) ς = true
        · exact ⟨false, ⟨fun q => (by cases q), fun q => by rw [g3] at q; cases q.2.2⟩, by rw [if_neg (by rw [if_pos g3]; show ¬ (1 : Int32) = 0; decide)]; rfl⟩
        · exact ⟨true, ⟨fun _ => ⟨g1, g2, by simpa using g3⟩, fun _ => rfl⟩, by rw [if_pos (by rw [if_neg g3])]; rfl⟩
      · exact ⟨false, ⟨fun q => (by cases q), fun q => absurd q.2.1 g2⟩, by rw [if_neg g2]; rfl⟩
  obtain ⟨b, hb, eb⟩ := eth
  rw [f_X3_add, eb, Option.bind_some]
  dsimp only
  by_cases gb : b = true
  · refine ⟨wI ρ 2 0 3 1, ?_, Or.inl ⟨hb.mp gb, fun φ x y z => by rw [w_ne x]; exact a1 φ x y z, a2, by rw [w_k (by decide)]; exact a3, by rw [w_eq]; rfl, by rw [w_k (by decide)]; exact a5, fun i y hy => ?_⟩⟩
    · rw [if_pos gb, if_neg (by decide), sZ_s z1, Option.bind_some]
    · rw [w_ne (by decide), w_ne (by decide)]; exact a6 i y hy
  · rw [if_neg gb, if_pos rfl, eas, Option.bind_some]
    dsimp only
    have fin : ∀ R' : Int32, ∃ ρ', f_X3_add_54 (cc c) v (wI ρ 2 0 4 R') = some ρ' ∧ Enc σ ρ' (l ++ [(c, v)]) false R' := fun R' => by
      have q9 : ∀ (φ : Nat) (s : sm_M) (x : Int32), fL φ = 8 → s.1 2 0 2 = Int32.ofNat l.length → uI φ s 0 (s.1 2 0 2) x = some (wI s φ 0 l.length x) := fun φ s x hφ hs => by rw [hs]; exact uI_n (by rw [hφ]; exact hl) (by omega)
      refine ⟨wI (wI (wI (wI ρ 2 0 4 R') 9 0 l.length v) 10 0 l.length (cc c)) 2 0 2 (Int32.ofNat (l.length + 1)), ?_, ?_, a2, ?_, ?_, ?_, ?_⟩
      · have s1 : (wI ρ 2 0 4 R').1 2 0 2 = Int32.ofNat l.length := by rw [w_k (by decide)]; exact a3
        have s2 : (wI (wI ρ 2 0 4 R') 9 0 l.length v).1 2 0 2 = Int32.ofNat l.length := by rw [w_ne (by decide)]; exact s1
        have s3 : (wI (wI (wI ρ 2 0 4 R') 9 0 l.length v) 10 0 l.length (cc c)).1 2 0 2 = Int32.ofNat l.length := by rw [w_ne (by decide)]; exact s2
        rw [f_X3_add_54, q9 9 _ _ rfl s1, Option.bind_some, q9 10 _ _ rfl s2, Option.bind_some, sI_s, Option.bind_some, s3, n_inc]
      · intro φ x y z
        rw [w_ne x, w_ne z, w_ne y, w_ne x]; exact a1 φ x y z
      · rw [w_eq]; congr 1; simp
      · rw [w_k (by decide), w_ne (by decide), w_ne (by decide), w_k (by decide)]; exact a4
      · rw [w_k (by decide), w_ne (by decide), w_ne (by decide), w_eq]
      · intro i y hy
        rw [w_ne (show (9 : Nat) ≠ 2 by decide), w_ne (show (9 : Nat) ≠ 10 by decide), w_ne (show (10 : Nat) ≠ 2 by decide), w_at, w_at, w_ne (show (9 : Nat) ≠ 2 by decide), w_ne (show (10 : Nat) ≠ 9 by decide), w_ne (show (10 : Nat) ≠ 2 by decide)]
        rcases getL hy with ⟨g, q⟩ | ⟨g, q⟩
        · rw [if_neg (by omega), if_neg (by omega)]; exact a6 i y q
        · rw [if_pos g, if_pos g, q]; exact ⟨rfl, rfl⟩
    have same : wI ρ 2 0 4 R = ρ := by
      have := w_id (σ := ρ) (φ := 2) (i := 0) (k := 4)
      rw [a5] at this; exact this
    have nT : ¬ Thr t ς v := fun q => gb (hb.mpr q)
    unfold nR
    by_cases g3 : asb t (ς.1 4 t 11) ς = true
    · obtain ⟨ρ', f1, f2⟩ := fin R
      rw [same] at f1
      rw [if_pos g3]
      exact ⟨ρ', by rw [if_neg (by decide), f1], Or.inr ⟨nT, by rw [if_pos g3]; exact f2⟩⟩
    · rw [if_neg g3, if_pos rfl, e_gf, Option.bind_some]
      dsimp only
      rw [e4, k2, k3]
      by_cases g4 : σ.1 4 t 2 = 2 ∧ ¬ (0 < (σ.1 4 t 3).toInt ∧ v - v / σ.1 4 t 3 * σ.1 4 t 3 = 0)
      · obtain ⟨ρ', f1, f2⟩ := fin R
        rw [same] at f1
        rw [if_pos g4, if_pos rfl, if_pos g4]
        exact ⟨ρ', f1, Or.inr ⟨nT, by rw [if_neg g3]; exact f2⟩⟩
      · obtain ⟨ρ', f1, f2⟩ := fin (R - 1)
        rw [if_neg g4, if_neg (show ¬ (1 : Int32) = 0 by decide), if_neg g4, sI_s, Option.bind_some, a5]
        exact ⟨ρ', f1, Or.inr ⟨nT, by rw [if_neg g3]; exact f2⟩⟩
end S9
