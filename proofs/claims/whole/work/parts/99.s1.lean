/-! ===== a step: what one row does ===== -/
theorem w_comm {σ : sm_M} {φ i k ψ j l : Nat} {x y : Int32} (h : φ ≠ ψ ∨ i ≠ j ∨ k ≠ l) : wI (wI σ φ i k x) ψ j l y = wI (wI σ ψ j l y) φ i k x := by
  unfold wI
  refine Prod.ext ?_ rfl
  funext a b c
  simp only [sm_up]
  by_cases h1 : a = ψ ∧ b = j ∧ c = l
  · by_cases h2 : a = φ ∧ b = i ∧ c = k
    · obtain ⟨rfl, rfl, rfl⟩ := h1
      obtain ⟨rfl, rfl, rfl⟩ := h2
      simp at h
    · rw [if_pos h1, if_neg h2, if_pos h1]
  · rw [if_neg h1, if_neg h1]
def pu (c : Nat) (v : Int32) (σ : sm_M) : sm_M := if σ.1 5 c 5 = σ.1 5 c 4 then wI (wI (wI σ 16 c (σ.1 5 c 4).toInt.toNat v) 5 c 4 (σ.1 5 c 4 + 1)) 5 c 5 (σ.1 5 c 5 + 1) else wI σ 5 c 5 (σ.1 5 c 5 + 1)
def gvi (t : Nat) (v : Int32) (σ : sm_M) : Nat → sm_M
  | 0 => σ
  | c + 1 => if σ.1 5 c 1 = Int32.ofNat t then pu c v (gvi t v σ c) else gvi t v σ c
def po (t : Nat) (v : Int32) (σ : sm_M) : sm_M := wI (wI σ 14 t (σ.1 4 t 13).toInt.toNat v) 4 t 13 (σ.1 4 t 13 + 1)
def dr (d : Int64) : Int64 := d * 16807 - d * 16807 / 2147483647 * 2147483647
def wk (m t : Nat) (v : Int32) (σ : sm_M) : sm_M :=
  if σ.1 4 t 2 = 1 then gvi t (v + σ.1 4 t 3) σ m
  else if σ.1 4 t 2 = 2 then (if 0 < (σ.1 4 t 3).toInt ∧ v - v / σ.1 4 t 3 * σ.1 4 t 3 = 0 then gvi t v σ m else σ)
  else if σ.1 4 t 2 = 3 then gvi t (σ.1 4 t 12 + v) (wI σ 4 t 12 (σ.1 4 t 12 + v)) m
  else if σ.1 4 t 2 = 4 then gvi t (v + (dr (σ.2 0 0 7) - dr (σ.2 0 0 7) / 10 * 10).toInt32) (wJ σ 0 0 7 (dr (σ.2 0 0 7))) m
  else if σ.1 4 t 2 = 5 then po t v σ
  else gvi t v σ m
/-- what a step of t may change of a class's memory -/
def Fr (m t : Nat) (σ ς : sm_M) : Prop := (∀ φ, φ ≠ 4 → φ ≠ 5 → φ ≠ 14 → φ ≠ 16 → ς.1 φ = σ.1 φ) ∧ (∀ u, u ≠ t → ς.1 4 u = σ.1 4 u ∧ ς.1 14 u = σ.1 14 u) ∧ (∀ k, k ≠ 11 → k ≠ 12 → k ≠ 13 → ς.1 4 t k = σ.1 4 t k) ∧ (∀ c k, k ≠ 4 → k ≠ 5 → k ≠ 6 → ς.1 5 c k = σ.1 5 c k) ∧ (∀ c, c < m → (σ.1 5 c 4).toInt ≤ (ς.1 5 c 4).toInt ∧ ∀ j : Nat, (j : Int) < (σ.1 5 c 4).toInt → ς.1 16 c j = σ.1 16 c j) ∧ ((σ.1 4 t 13).toInt ≤ (ς.1 4 t 13).toInt ∧ ∀ j : Nat, (j : Int) < (σ.1 4 t 13).toInt → ς.1 14 t j = σ.1 14 t j) ∧ (∀ c, σ.1 5 c 1 ≠ Int32.ofNat t → ς.1 5 c 4 = σ.1 5 c 4 ∧ ς.1 5 c 5 = σ.1 5 c 5 ∧ ς.1 16 c = σ.1 16 c) ∧ (∀ c, σ.1 5 c 2 ≠ Int32.ofNat t → ς.1 5 c 6 = σ.1 5 c 6)
section S1
variable {n m t : Nat} {σ ς ρ τ : sm_M} {e0 : Int32} {v : Int32}
theorem Fr.refl : Fr m t σ σ := ⟨fun _ _ _ _ _ => rfl, fun _ _ => ⟨rfl, rfl⟩, fun _ _ _ _ => rfl, fun _ _ _ _ _ => rfl, fun _ _ => ⟨Int.le_refl _, fun _ _ => rfl⟩, ⟨Int.le_refl _, fun _ _ => rfl⟩, fun _ _ => ⟨rfl, rfl, rfl⟩, fun _ _ => rfl⟩
theorem Fr.trans (h : Fr m t σ ς) (k : Fr m t ς ρ) : Fr m t σ ρ := by
  obtain ⟨a1, a2, a3, a4, a5, a6, a7, a8⟩ := h
  obtain ⟨b1, b2, b3, b4, b5, b6, b7, b8⟩ := k
  refine ⟨fun φ x y z w => (b1 φ x y z w).trans (a1 φ x y z w), fun u x => ⟨(b2 u x).1.trans (a2 u x).1, (b2 u x).2.trans (a2 u x).2⟩, fun k x y z => (b3 k x y z).trans (a3 k x y z), fun c k x y z => (b4 c k x y z).trans (a4 c k x y z), fun c hc => ⟨Int.le_trans (a5 c hc).1 (b5 c hc).1, fun j hj => ((b5 c hc).2 j (by have := (a5 c hc).1; omega)).trans ((a5 c hc).2 j hj)⟩, ⟨Int.le_trans a6.1 b6.1, fun j hj => (b6.2 j (by have := a6.1; omega)).trans (a6.2 j hj)⟩, fun c x => ?_, fun c x => ?_⟩
  · have := b7 c (by rw [a4 c 1 (by decide) (by decide) (by decide)]; exact x)
    have a := a7 c x
    exact ⟨this.1.trans a.1, this.2.1.trans a.2.1, this.2.2.trans a.2.2⟩
  · exact (b8 c (by rw [a4 c 2 (by decide) (by decide) (by decide)]; exact x)).trans (a8 c x)
theorem c_inc {x : Int32} (h0 : 0 ≤ x.toInt) (h9 : x.toInt < 1000000) : (x + 1).toInt = x.toInt + 1 := i_add (by show _ ≤ _ + (1 : Int); omega) (by show _ + (1 : Int) < _; omega)
theorem e_put {c : Nat} (h0 : 0 ≤ (σ.1 5 c 5).toInt) (h1 : (σ.1 5 c 5).toInt < 64) : f_X1_put c v σ = some (pu c v σ) := by
  rw [f_X1_put, if_pos (by rw [i_lt]; exact h1), pu]
  by_cases g : σ.1 5 c 5 = σ.1 5 c 4
  · rw [if_pos g, if_pos g]
    rw [g] at h0 h1
    obtain ⟨k, hk, hk2⟩ := i_get h0
    have e1 : uI 16 σ c (σ.1 5 c 4) v = some (wI σ 16 c (σ.1 5 c 4).toInt.toNat v) := by
      have : (σ.1 5 c 4).toInt.toNat = k := by omega
      rw [this, hk]; exact uI_n (by show k < 64; omega) (by omega)
    rw [e1, Option.bind_some, sI_s, Option.bind_some, f_X1_put_41, sI_s, Option.bind_some, w_ne (show (5 : Nat) ≠ 16 by decide), w_k (show (5 : Nat) ≠ 4 by decide), w_ne (show (5 : Nat) ≠ 16 by decide)]
  · rw [if_neg g, if_neg g, f_X1_put_41, sI_s, Option.bind_some]
theorem pu_ne {c φ : Nat} (h1 : φ ≠ 5) (h2 : φ ≠ 16) : (pu c v σ).1 φ = σ.1 φ := by
  unfold pu
  by_cases g : σ.1 5 c 5 = σ.1 5 c 4
  · rw [if_pos g, w_ne h1, w_ne h1, w_ne h2]
  · rw [if_neg g, w_ne h1]
theorem pu_i {c j : Nat} (h1 : j ≠ c) : (pu c v σ).1 5 j = σ.1 5 j ∧ (pu c v σ).1 16 j = σ.1 16 j := by
  unfold pu
  by_cases g : σ.1 5 c 5 = σ.1 5 c 4
  · rw [if_pos g, w_i h1, w_i h1, w_ne (by decide), w_ne (by decide), w_ne (by decide), w_i h1]; exact ⟨rfl, rfl⟩
  · rw [if_neg g, w_i h1, w_ne (by decide)]; exact ⟨rfl, rfl⟩
theorem pu_2 {c : Nat} : (pu c v σ).2 = σ.2 := by
  unfold pu
  by_cases g : σ.1 5 c 5 = σ.1 5 c 4
  · rw [if_pos g]; rfl
  · rw [if_neg g]; rfl
theorem pu_k {c k : Nat} (h4 : k ≠ 4) (h5 : k ≠ 5) : (pu c v σ).1 5 c k = σ.1 5 c k := by
  unfold pu
  by_cases g : σ.1 5 c 5 = σ.1 5 c 4
  · rw [if_pos g, w_k h5, w_k h4, w_ne (by decide)]
  · rw [if_neg g, w_k h5]
theorem pu_5 {c : Nat} : (pu c v σ).1 5 c 5 = σ.1 5 c 5 + 1 := by
  unfold pu
  by_cases g : σ.1 5 c 5 = σ.1 5 c 4
  · rw [if_pos g, w_eq]
  · rw [if_neg g, w_eq]
theorem pu_4 {c : Nat} : (pu c v σ).1 5 c 4 = if σ.1 5 c 5 = σ.1 5 c 4 then σ.1 5 c 4 + 1 else σ.1 5 c 4 := by
  unfold pu
  by_cases g : σ.1 5 c 5 = σ.1 5 c 4
  · rw [if_pos g, if_pos g, w_k (by decide), w_eq]
  · rw [if_neg g, if_neg g, w_k (by decide)]
theorem pu_16 {c j : Nat} : (pu c v σ).1 16 c j = if σ.1 5 c 5 = σ.1 5 c 4 ∧ j = (σ.1 5 c 4).toInt.toNat then v else σ.1 16 c j := by
  unfold pu
  by_cases g : σ.1 5 c 5 = σ.1 5 c 4
  · rw [if_pos g, w_ne (by decide), w_ne (by decide), w_at]
    by_cases e : j = (σ.1 5 c 4).toInt.toNat
    · rw [if_pos e, if_pos ⟨g, e⟩]
    · rw [if_neg e, if_neg (fun q => e q.2)]
  · rw [if_neg g, w_ne (by decide), if_neg (fun q => g q.1)]
theorem Fr_pu {c : Nat} (hf : σ.1 5 c 1 = Int32.ofNat t) (h0 : 0 ≤ (σ.1 5 c 5).toInt) (h1 : (σ.1 5 c 5).toInt < 64) : Fr m t σ (pu c v σ) := by
  have h4 : (σ.1 5 c 4).toInt ≤ ((pu c v σ).1 5 c 4).toInt := by
    rw [pu_4]
    by_cases g : σ.1 5 c 5 = σ.1 5 c 4
    · rw [if_pos g, c_inc (by rw [← g]; exact h0) (by rw [← g]; omega)]; omega
    · rw [if_neg g]; exact Int.le_refl _
  refine ⟨fun φ _ a _ b => pu_ne a b, fun u _ => ⟨by rw [pu_ne (by decide) (by decide)], by rw [pu_ne (by decide) (by decide)]⟩, fun k _ _ _ => by rw [pu_ne (by decide) (by decide)], fun j k a b _ => ?_, fun j hj => ?_, ⟨by rw [pu_ne (by decide) (by decide)]; exact Int.le_refl _, fun j _ => by rw [pu_ne (by decide) (by decide)]⟩, fun j x => ?_, fun j x => ?_⟩
  · by_cases e : j = c
    · subst e; exact pu_k a b
    · rw [(pu_i e).1]
  · by_cases e : j = c
    · subst e
      refine ⟨h4, fun i hi => ?_⟩
      rw [pu_16, if_neg]
      rintro ⟨-, q⟩
      omega
    · rw [(pu_i e).1, (pu_i e).2]; exact ⟨Int.le_refl _, fun _ _ => rfl⟩
  · have e : j ≠ c := by rintro rfl; exact x hf
    rw [(pu_i e).1, (pu_i e).2]; exact ⟨rfl, rfl, rfl⟩
  · by_cases e : j = c
    · subst e; exact pu_k (by decide) (by decide)
    · rw [(pu_i e).1]
theorem gvi_at {i c : Nat} (h : i ≤ c) : (gvi t v σ i).1 5 c = σ.1 5 c := by
  induction i with
  | zero => rfl
  | succ i ih =>
    rw [gvi]
    by_cases g : σ.1 5 i 1 = Int32.ofNat t
    · rw [if_pos g, (pu_i (by omega)).1, ih (by omega)]
    · rw [if_neg g, ih (by omega)]
theorem Fr_gvi (hg : ∀ c, c < m → σ.1 5 c 1 = Int32.ofNat t → 0 ≤ (σ.1 5 c 5).toInt ∧ (σ.1 5 c 5).toInt < 64) {i : Nat} (hi : i ≤ m) : Fr m t σ (gvi t v σ i) := by
  induction i with
  | zero => exact Fr.refl
  | succ i ih =>
    rw [gvi]
    by_cases g : σ.1 5 i 1 = Int32.ofNat t
    · rw [if_pos g]
      have := hg i (by omega) g
      refine (ih (by omega)).trans (Fr_pu ?_ ?_ ?_)
      · rw [gvi_at (Nat.le_refl i)]; exact g
      · rw [gvi_at (Nat.le_refl i)]; exact this.1
      · rw [gvi_at (Nat.le_refl i)]; exact this.2
    · rw [if_neg g]; exact ih (by omega)
theorem gvi_5 {i c : Nat} (hi : i ≤ m) : (gvi t v σ i).1 5 c 5 = if c < i ∧ σ.1 5 c 1 = Int32.ofNat t then σ.1 5 c 5 + 1 else σ.1 5 c 5 := by
  induction i with
  | zero => rw [if_neg (fun q => Nat.not_lt_zero c q.1)]; rfl
  | succ i ih =>
    rw [gvi]
    by_cases g : σ.1 5 i 1 = Int32.ofNat t
    · rw [if_pos g]
      by_cases e : c = i
      · subst e
        rw [pu_5, gvi_at (Nat.le_refl c), if_pos ⟨Nat.lt_succ_self c, g⟩]
      · rw [(pu_i e).1, ih (by omega)]
        by_cases q : c < i ∧ σ.1 5 c 1 = Int32.ofNat t
        · rw [if_pos q, if_pos ⟨by omega, q.2⟩]
        · rw [if_neg q, if_neg (fun q2 => q ⟨by omega, q2.2⟩)]
    · rw [if_neg g, ih (by omega)]
      by_cases q : c < i ∧ σ.1 5 c 1 = Int32.ofNat t
      · rw [if_pos q, if_pos ⟨by omega, q.2⟩]
      · rw [if_neg q, if_neg]
        rintro ⟨q1, q2⟩
        by_cases e : c = i
        · subst e; exact g q2
        · exact q ⟨by omega, q2⟩
theorem gvi_ne {i φ : Nat} (h1 : φ ≠ 5) (h2 : φ ≠ 16) : (gvi t v σ i).1 φ = σ.1 φ := by
  induction i with
  | zero => rfl
  | succ i ih =>
    rw [gvi]
    by_cases g : σ.1 5 i 1 = Int32.ofNat t
    · rw [if_pos g, pu_ne h1 h2, ih]
    · rw [if_neg g, ih]
theorem gvi_2 {i : Nat} : (gvi t v σ i).2 = σ.2 := by
  induction i with
  | zero => rfl
  | succ i ih =>
    rw [gvi]
    by_cases g : σ.1 5 i 1 = Int32.ofNat t
    · rw [if_pos g, pu_2, ih]
    · rw [if_neg g, ih]
theorem e_give (hm : m ≤ 40) (e1 : σ.1 1 0 3 = Int32.ofNat m) (hg : ∀ c, c < m → σ.1 5 c 1 = Int32.ofNat t → 0 ≤ (σ.1 5 c 5).toInt ∧ (σ.1 5 c 5).toInt < 64) : f_X2_give (Int32.ofNat t) v σ = some (gvi t v σ m) := by
  obtain ⟨s', h1, h2⟩ := loopE (F := fun f x (s : sm_M) => f_X2_give_2 f (Int32.ofNat t) v x s) (X := some) (N := m) (by omega) (fun i s => s = gvi t v σ i)
    (fun f i s hi hp => by
      subst hp
      refine ⟨_, rfl, ?_⟩
      show f_X2_give_2 (f + 1) (Int32.ofNat t) v (Int32.ofNat i) _ = f_X2_give_2 f (Int32.ofNat t) v (Int32.ofNat (i + 1)) (gvi t v σ (i + 1))
      rw [f_X2_give_2, gvi_ne (by decide) (by decide), e1, if_neg (by rw [n_le (by omega) (by omega)]; omega), aP_n (by show i < 40; omega) (by omega), Option.bind_some, Option.bind_some, gvi_at (Nat.le_refl i), gvi]
      by_cases g : σ.1 5 i 1 = Int32.ofNat t
      · have := hg i hi g
        rw [if_pos g, e_put (by rw [gvi_at (Nat.le_refl i)]; exact this.1) (by rw [gvi_at (Nat.le_refl i)]; exact this.2), Option.bind_some, f_X2_give_33, n_inc, if_pos g]
      · rw [if_neg g, f_X2_give_33, n_inc, if_neg g])
    (fun f s hp => by
      subst hp
      show f_X2_give_2 (f + 1) (Int32.ofNat t) v (Int32.ofNat m) _ = _
      rw [f_X2_give_2, gvi_ne (by decide) (by decide), e1, if_pos (by rw [n_le (by omega) (by omega)]; omega)]) σ rfl
  rw [f_X2_give]
  refine h2.trans ?_
  rw [h1]
end S1
