/-! ===== a step: set aside, room, the next row ===== -/
def asd (t : Nat) (x : Int32) (σ : sm_M) : Nat → Bool
  | 0 => false
  | j + 1 => asd t x σ j || decide (σ.1 15 t j = x)
def asb (t : Nat) (x : Int32) (σ : sm_M) : Bool := asd t x σ (σ.1 4 t 10).toInt.toNat
def exA (m t : Nat) (v : Int32) (σ : sm_M) : sm_M := if asb t (σ.1 4 t 11) σ = true then σ else wk m t v σ
def exP (m t : Nat) (v : Int32) (σ : sm_M) : sm_M := wI (exA m t v σ) 4 t 11 ((exA m t v σ).1 4 t 11 + 1)
def ex (m t : Nat) (c : Option Nat) (v : Int32) (σ : sm_M) : sm_M :=
  match c with
  | none => exP m t v σ
  | some k => wI (exP m t v σ) 5 k 6 ((exP m t v σ).1 5 k 6 + 1)
def Ovr (M : Int32) (σ : sm_M) (c : Nat) : Prop := bt M (fr (σ.1 5 c)) = true ∧ (σ.1 5 c 5).toInt ≤ (σ.1 5 c 6).toInt
def Nx (m t : Nat) (M : Int32) (σ : sm_M) (k : Nat) : Prop := k < m ∧ σ.1 5 k 2 = Int32.ofNat t ∧ ¬ Ovr M σ k ∧ ∀ j, j < k → σ.1 5 j 2 = Int32.ofNat t → Ovr M σ j
def srcV (t : Nat) (p : Int32) : Int32 := ((5 : Int32) * Int32.ofNat t + (3 : Int32) * p) - ((5 : Int32) * Int32.ofNat t + (3 : Int32) * p) / (20 : Int32) * (20 : Int32)
def Av (m t : Nat) (M : Int32) (σ : sm_M) (c : Option Nat) (v : Int32) : Prop :=
  match c with
  | none => σ.1 4 t 2 = 0 ∧ (σ.1 4 t 11).toInt < (σ.1 4 t 3).toInt ∧ v = srcV t (σ.1 4 t 11)
  | some k => σ.1 4 t 2 ≠ 0 ∧ Nx m t M σ k ∧ (σ.1 5 k 6).toInt < (σ.1 5 k 4).toInt ∧ v = σ.1 16 k (σ.1 5 k 6).toInt.toNat
def ec (c : Option Nat) : Int32 :=
  match c with
  | none => -1
  | some k => Int32.ofNat k
def Thr (t : Nat) (σ : sm_M) (v : Int32) : Prop := σ.1 4 t 6 ≠ 1001 ∧ v = σ.1 4 t 6 ∧ asb t (σ.1 4 t 11) σ = false
def Lm (t : Nat) (σ : sm_M) (j : Nat) : Prop := (j : Int) < (σ.1 4 t 7).toInt
def Run (m t : Nat) (M : Int32) (th : Bool) : Nat → List (Option Nat × Int32) → sm_M → Prop
  | j, [], σ => (th = false ∧ ((∀ c v, ¬ Av m t M σ c v) ∨ ¬ Lm t σ j ∨ ¬ Rm m t σ)) ∨ (th = true ∧ ∃ c v, Av m t M σ c v ∧ Lm t σ j ∧ Rm m t σ ∧ Thr t σ v)
  | j, x :: l, σ => (Av m t M σ x.1 x.2 ∧ Lm t σ j ∧ Rm m t σ ∧ ¬ Thr t σ x.2) ∧ Run m t M th (j + 1) l (ex m t x.1 x.2 σ)
def exL (m t : Nat) : List (Option Nat × Int32) → sm_M → sm_M
  | [], σ => σ
  | x :: l, σ => exL m t l (ex m t x.1 x.2 σ)
/-- M says of the tasks below t which are done -/
def PDl (m t : Nat) (M : Int32) (σ : sm_M) : Prop := ∀ f, f < t → (bt M f = true ↔ Dn m σ (fun g => bt M g = true) f)
section S5
variable {n m t : Nat} {σ τ σ' τ' : sm_M} {e0 : Int32} {v x M : Int32}
theorem asd_in {i K : Nat} (hi : i < K) (h : σ.1 15 t i = x) : asd t x σ K = true := by
  induction K with
  | zero => omega
  | succ K ih =>
    rw [asd]
    by_cases e : i = K
    · subst e; simp [h]
    · rw [ih (by omega)]; rfl
theorem e_as (o : 0 ≤ (σ.1 4 t 10).toInt ∧ (σ.1 4 t 10).toInt ≤ 8) : f_X4_isAside t x σ = some (if asb t x σ = true then 1 else 0, σ) := by
  obtain ⟨K, hK, hK2⟩ := i_get o.1
  have hK3 : (σ.1 4 t 10).toInt.toNat = K := by omega
  rw [f_X4_isAside, asb, hK3]
  refine loopX (F := fun f i (s : Unit) => f_X4_isAside_2 f t x i σ) (X := fun _ => none) (N := K) (by omega) (fun i _ => asd t x σ i = false) (fun r => r = some (if asd t x σ K = true then 1 else 0, σ)) (fun f i s hi hp => ?_) (fun f s hp => ?_) () rfl
  · show f_X4_isAside_2 (f + 1) t x (Int32.ofNat i) σ = _ ∨ ∃ s' : Unit, _ ∧ f_X4_isAside_2 (f + 1) t x (Int32.ofNat i) σ = f_X4_isAside_2 f t x (Int32.ofNat (i + 1)) σ
    rw [f_X4_isAside_2, hK, if_neg (by rw [n_le (by omega) (by omega)]; omega), aI_n (by show i < 8; omega) (by omega), Option.bind_some]
    by_cases g : σ.1 15 t i = x
    · refine Or.inl ?_
      rw [if_pos g, asd_in hi g]; rfl
    · refine Or.inr ⟨(), ?_, ?_⟩
      · rw [asd, hp]; simp [g]
      · rw [if_neg g, n_inc]
  · show f_X4_isAside_2 (f + 1) t x (Int32.ofNat K) σ = _
    rw [f_X4_isAside_2, hK, if_pos (by rw [n_le (by omega) (by omega)]; omega), hp]; rfl
theorem b01 (b : Bool) : (if b = true then (1 : Int32) else 0) = 0 ∨ (if b = true then (1 : Int32) else 0) = 1 := by cases b <;> simp
theorem e_as' (h : Rl n m e0 σ τ) (ht : t < n) : f_X6_isAside (Int32.ofNat t) x τ = some (if asb t x σ = true then 1 else 0, τ) := by
  have hn := h.n16
  have o := (h.T ht).2.2.2.2.2.2.2.2.1
  have c32 : τ.1 32 0 t = σ.1 4 t 10 := (h.T ht).1.2.2.2.2.2.2.2.2.2.2.1
  obtain ⟨K, hK, hK2⟩ := i_get o.1
  have hK3 : (σ.1 4 t 10).toInt.toNat = K := by omega
  rw [asb, hK3]
  obtain ⟨s', h1, h2⟩ := loopE (F := fun f i (s : Int32) => f_X6_isAside_5 f (Int32.ofNat t) x s i τ) (X := fun s => f_X6_isAside_48 s τ) (N := K) (by omega) (fun i s => s = if asd t x σ i = true then 1 else 0)
    (fun f i s hi hp => by
      subst hp
      refine ⟨_, rfl, ?_⟩
      show f_X6_isAside_5 (f + 1) (Int32.ofNat t) x _ (Int32.ofNat i) τ = _
      have c33 : τ.1 33 0 (8 * t + i) = σ.1 15 t i := h.V.2.1 t i ht (by omega)
      rw [f_X6_isAside_5, aI_n (φ := 32) (by show t < 16; omega) (by omega), Option.bind_some, c32, hK, if_neg (by rw [n_le (by omega) (by omega)]; omega), show (8 : Int32) * Int32.ofNat t + Int32.ofNat i = Int32.ofNat (8 * t + i) by rw [show (8 : Int32) = Int32.ofNat 8 from rfl, n_mul, n_add], aI_n (by show _ < 128; omega) (by omega), Option.bind_some, c33, asd]
      by_cases g : asd t x σ i = true
      · rw [if_pos g, if_neg (show ¬ (1 : Int32) = 0 by decide), f_X6_isAside_36, f_X6_isAside_41, n_inc]; simp [g]
      · rw [if_neg g, if_pos rfl]
        by_cases g2 : σ.1 15 t i = x
        · rw [if_pos g2, f_X6_isAside_36, f_X6_isAside_41, n_inc]; simp [g2]
        · rw [if_neg g2, f_X6_isAside_41, n_inc]
          have g' : asd t x σ i = false := by simpa using g
          simp [g', g2])
    (fun f s hp => by
      show f_X6_isAside_5 (f + 1) (Int32.ofNat t) x s (Int32.ofNat K) τ = _
      rw [f_X6_isAside_5, aI_n (φ := 32) (by show t < 16; omega) (by omega), Option.bind_some, c32, hK, if_pos (by rw [n_le (by omega) (by omega)]; omega)]) 0 rfl
  rw [f_X6_isAside]
  refine h2.trans ?_
  rw [h1, f_X6_isAside_48, if_pos (b01 _)]
theorem e_cg (h : Rl n m e0 σ τ) (ht : t < n) : ∃ b : Bool, (b = true ↔ Rm m t σ) ∧ f_X6_canGive (Int32.ofNat t) τ = some (if b = true then 1 else 0, τ) := by
  have hn := h.n16
  have hm := h.m40
  have e3 := h.1.2.2.2.2.2
  have c21 : τ.1 21 0 t = σ.1 4 t 2 := (h.T ht).1.1
  have c26 : τ.1 26 0 t = σ.1 4 t 13 := (h.T ht).1.2.2.2.2.2.1
  have o13 := (h.T ht).2.2.2.2.2.2.2.2.2
  have L : ∀ b0 : Bool, ∃ b : Bool, (b = true ↔ (b0 = true ∧ ∀ c, c < m → σ.1 5 c 1 = Int32.ofNat t → (σ.1 5 c 5).toInt < 64)) ∧ f_X6_canGive_30 1000 (Int32.ofNat t) (if b0 = true then 1 else 0) 0 τ = some (if b = true then 1 else 0, τ) := fun b0 => by
    obtain ⟨s', ⟨b, hb, hb2⟩, h2⟩ := loopE (F := fun f i (s : Int32) => f_X6_canGive_30 f (Int32.ofNat t) s i τ) (X := fun s => f_X6_canGive_75 s τ) (N := m) (by omega) (fun i s => ∃ b : Bool, s = (if b = true then 1 else 0) ∧ (b = true ↔ (b0 = true ∧ ∀ c, c < i → σ.1 5 c 1 = Int32.ofNat t → (σ.1 5 c 5).toInt < 64)))
      (fun f i s hi hp => by
        obtain ⟨b, rfl, hb⟩ := hp
        have ai : ∀ (φ : Nat) (s : sm_M), fL φ = 40 → aI φ s 0 (Int32.ofNat i) = some (s.1 φ 0 i) := fun φ s hφ => aI_n (by rw [hφ]; omega) (by omega)
        have c34 : τ.1 34 0 i = σ.1 5 i 1 := (h.C hi).1.1
        have c39 : τ.1 39 0 i = σ.1 5 i 5 := (h.C hi).1.2.2.2.2.1
        show ∃ s' : Int32, _ ∧ f_X6_canGive_30 (f + 1) (Int32.ofNat t) _ (Int32.ofNat i) τ = f_X6_canGive_30 f (Int32.ofNat t) s' (Int32.ofNat (i + 1)) τ
        rw [f_X6_canGive_30, e3, if_neg (by rw [n_le (by omega) (by omega)]; omega), ai 34 _ rfl, Option.bind_some, c34, ai 39 _ rfl, Option.bind_some, c39]
        by_cases g : b = true
        · rw [if_pos g, if_neg (show ¬ (1 : Int32) = 0 by decide)]
          by_cases g2 : σ.1 5 i 1 = Int32.ofNat t
          · rw [if_pos g2]
            by_cases g3 : (64 : Int32) ≤ σ.1 5 i 5
            · rw [if_pos g3, f_X6_canGive_67, f_X6_canGive_68, n_inc]
              refine ⟨0, ⟨false, rfl, fun q => (by cases q), fun q => ?_⟩, rfl⟩
              have := q.2 i (Nat.lt_succ_self i) g2
              rw [i_le] at g3
              have : (64 : Int32).toInt = 64 := rfl
              omega
            · rw [if_neg g3, f_X6_canGive_63, f_X6_canGive_68, n_inc]
              refine ⟨1, ⟨true, rfl, fun _ => ⟨(hb.mp g).1, fun c hc q => ?_⟩, fun _ => rfl⟩, rfl⟩
              by_cases e : c = i
              · subst e
                rw [i_le] at g3
                have : (64 : Int32).toInt = 64 := rfl
                omega
              · exact (hb.mp g).2 c (by omega) q
          · rw [if_neg g2, f_X6_canGive_63, f_X6_canGive_68, n_inc]
            refine ⟨1, ⟨true, rfl, fun _ => ⟨(hb.mp g).1, fun c hc q => ?_⟩, fun _ => rfl⟩, rfl⟩
            by_cases e : c = i
            · subst e; exact absurd q g2
            · exact (hb.mp g).2 c (by omega) q
        · rw [if_neg g, if_pos rfl, f_X6_canGive_67, f_X6_canGive_68, n_inc]
          exact ⟨0, ⟨false, rfl, fun q => (by cases q), fun q => absurd (hb.mpr ⟨q.1, fun c hc r => q.2 c (by omega) r⟩) g⟩, rfl⟩)
      (fun f s hp => by
        show f_X6_canGive_30 (f + 1) (Int32.ofNat t) s (Int32.ofNat m) τ = _
        rw [f_X6_canGive_30, e3, if_pos (by rw [n_le (by omega) (by omega)]; omega)]) _ ⟨b0, rfl, fun q => ⟨q, fun c hc => absurd hc (Nat.not_lt_zero c)⟩, fun q => q.1⟩
    refine ⟨b, hb2, h2.trans ?_⟩
    show f_X6_canGive_75 s' τ = _
    rw [hb, f_X6_canGive_75, if_pos (b01 b)]
  have nn : ∀ c, c < m → 0 ≤ (σ.1 5 c 5).toInt := fun c hc => (h.C hc).2.2.2.1.1
  rw [f_X6_canGive, aI_n (φ := 21) (by show t < 16; omega) (by omega), Option.bind_some, c21, aI_n (φ := 26) (by show t < 16; omega) (by omega), Option.bind_some, c26]
  by_cases k5 : σ.1 4 t 2 = 5
  · rw [if_pos k5]
    by_cases g : (200 : Int32) ≤ σ.1 4 t 13
    · obtain ⟨b, hb, eb⟩ := L false
      refine ⟨b, ?_, by rw [if_pos g, f_X6_canGive_27]; exact eb⟩
      rw [hb]
      rw [i_le] at g
      have : (200 : Int32).toInt = 200 := rfl
      constructor
      · intro q; cases q.1
      · intro q; have := q.2 k5; omega
    · obtain ⟨b, hb, eb⟩ := L true
      refine ⟨b, ?_, by rw [if_neg g, f_X6_canGive_22, f_X6_canGive_27]; exact eb⟩
      rw [hb]
      rw [i_le] at g
      have : (200 : Int32).toInt = 200 := rfl
      constructor
      · intro q; exact ⟨fun c hc r => ⟨nn c hc, q.2 c hc r⟩, fun _ => by omega⟩
      · intro q; exact ⟨rfl, fun c hc r => (q.1 c hc r).2⟩
  · rw [if_neg k5]
    obtain ⟨b, hb, eb⟩ := L true
    refine ⟨b, ?_, by rw [f_X6_canGive_22, f_X6_canGive_27]; exact eb⟩
    rw [hb]
    constructor
    · intro q; exact ⟨fun c hc r => ⟨nn c hc, q.2 c hc r⟩, fun r => absurd r k5⟩
    · intro q; exact ⟨rfl, fun c hc r => (q.1 c hc r).2⟩
theorem e_val (h : Rl n m e0 σ τ) (ht : t < n) {c : Option Nat} (ha : Av m t M σ c v) : f_X6_valueOf (Int32.ofNat t) (ec c) τ = some (v, τ) := by
  have hn := h.n16
  have hm := h.m40
  cases c with
  | none =>
    obtain ⟨-, -, rfl⟩ := ha
    have c24 : τ.1 24 0 t = σ.1 4 t 11 := (h.T ht).1.2.2.2.1
    rw [f_X6_valueOf, ec, if_pos rfl, aI_n (φ := 24) (by show t < 16; omega) (by omega), Option.bind_some, if_neg (by decide), f_X6_valueOf_39, c24, srcV]
  | some k =>
    obtain ⟨-, ⟨hk, -⟩, h6, rfl⟩ := ha
    have o := (h.C hk).2
    have c40 : τ.1 40 0 k = σ.1 5 k 6 := (h.C hk).1.2.2.2.2.2.1
    obtain ⟨j, hj, hj2⟩ := i_get o.2.2.2.1.1
    have e1 : (σ.1 5 k 6).toInt.toNat = j := by omega
    have e2 := h.V.2.2 k j hk (by omega)
    have o4 := o.2.2.1.2.2
    rw [f_X6_valueOf, ec, if_neg (by rw [i_eq, i_of (by omega)]; show ¬ _ = (-1 : Int); omega), aI_n (φ := 40) (by show k < 40; omega) (by omega), Option.bind_some, c40, e1]
    conv => lhs; rw [hj]
    rw [show (64 : Int32) * Int32.ofNat k + Int32.ofNat j = Int32.ofNat (64 * k + j) by rw [show (64 : Int32) = Int32.ofNat 64 from rfl, n_mul, n_add], aI_n (φ := 37) (by show _ < 2560; omega) (by omega), Option.bind_some, e2, f_X6_valueOf_39]
end S5
