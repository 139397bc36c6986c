/-! ===== a step: carrying out ===== -/
def mix (P : Nat → Nat → Nat → Bool) (ς : sm_M) (s : Nat → Nat → Nat → Int32) : sm_M := (fun φ i k => if P φ i k = true then s φ i k else ς.1 φ i k, ς.2)
def gdP (t : Nat) (P : Nat → Nat → Nat → Bool) : Prop := (∀ c k, k = 1 ∨ k = 4 ∨ k = 5 → P 5 c k = false) ∧ (∀ k, k = 2 ∨ k = 3 ∨ k = 12 ∨ k = 13 → P 4 t k = false) ∧ (∀ c j, P 16 c j = false) ∧ (∀ j, P 14 t j = false)
def sg (φ i k : Nat) : Nat → Nat → Nat → Bool := fun a b c => decide (a = φ ∧ b = i ∧ c = k)
def plP : Nat → Nat → Nat → Bool := fun φ _ k => decide (φ = 0 ∨ φ = 2 ∨ φ = 9 ∨ φ = 10 ∨ (φ = 5 ∧ k = 7))
section T3
variable {n m t : Nat} {σ τ ρ ς : sm_M} {M R v x : Int32} {l : List (Option Nat × Int32)} {P : Nat → Nat → Nat → Bool} {s q : Nat → Nat → Nat → Int32} {φ i k : Nat}
theorem mx_r (h : P φ i k = false) : (mix P ς s).1 φ i k = ς.1 φ i k := by simp [mix, h]
theorem mx_s (h : P φ i k = true) : (mix P ς s).1 φ i k = s φ i k := by simp [mix, h]
theorem mx_2 : (mix P ς s).2 = ς.2 := rfl
theorem mx_w (h : P φ i k = false) : wI (mix P ς s) φ i k x = mix P (wI ς φ i k x) s := by
  unfold wI mix
  refine Prod.ext ?_ rfl
  funext a b c
  simp only [sm_up]
  by_cases g : a = φ ∧ b = i ∧ c = k
  · obtain ⟨rfl, rfl, rfl⟩ := g; simp [h]
  · rw [if_neg g, if_neg g]
theorem mx_W (h : P φ i k = true) : wI (mix P ς s) φ i k x = mix P ς (fun a b c => if a = φ ∧ b = i ∧ c = k then x else s a b c) := by
  unfold wI mix
  refine Prod.ext ?_ rfl
  funext a b c
  simp only [sm_up]
  by_cases g : a = φ ∧ b = i ∧ c = k
  · obtain ⟨rfl, rfl, rfl⟩ := g; simp [h]
  · rw [if_neg g, if_neg g]
theorem mx_J {y : Int64} : wJ (mix P ς s) φ i k y = mix P (wJ ς φ i k y) s := rfl
theorem wI_mx : wI ς φ i k x = mix (sg φ i k) ς (fun _ _ _ => x) := by
  unfold wI mix sg
  refine Prod.ext ?_ rfl
  funext a b c
  simp only [sm_up]
  by_cases g : a = φ ∧ b = i ∧ c = k
  · rw [if_pos g, if_pos (decide_eq_true g)]
  · rw [if_neg g, if_neg (by rw [decide_eq_false g]; decide)]
theorem pu_mx (g : gdP t P) {c : Nat} : pu c v (mix P ς s) = mix P (pu c v ς) s := by
  unfold pu
  rw [mx_r (g.1 c 5 (by omega)), mx_r (g.1 c 4 (by omega))]
  by_cases e : ς.1 5 c 5 = ς.1 5 c 4
  · rw [if_pos e, if_pos e, mx_w (g.2.2.1 _ _), mx_w (g.1 c 4 (by omega)), mx_w (g.1 c 5 (by omega))]
  · rw [if_neg e, if_neg e, mx_w (g.1 c 5 (by omega))]
theorem gvi_mx (g : gdP t P) : gvi t v (mix P ς s) i = mix P (gvi t v ς i) s := by
  induction i with
  | zero => rfl
  | succ i ih =>
    rw [gvi, gvi, mx_r (g.1 i 1 (by omega)), ih]
    by_cases e : ς.1 5 i 1 = Int32.ofNat t
    · rw [if_pos e, if_pos e, pu_mx g]
    · rw [if_neg e, if_neg e]
theorem wk_mx (g : gdP t P) : wk m t v (mix P ς s) = mix P (wk m t v ς) s := by
  unfold wk po
  rw [mx_r (g.2.1 2 (by omega)), mx_r (g.2.1 3 (by omega)), mx_r (g.2.1 12 (by omega)), mx_r (g.2.1 13 (by omega)), mx_2]
  by_cases k1 : ς.1 4 t 2 = 1
  · rw [if_pos k1, if_pos k1, gvi_mx g]
  · rw [if_neg k1, if_neg k1]
    by_cases k2 : ς.1 4 t 2 = 2
    · rw [if_pos k2, if_pos k2]
      by_cases e : 0 < (ς.1 4 t 3).toInt ∧ v - v / ς.1 4 t 3 * ς.1 4 t 3 = 0
      · rw [if_pos e, if_pos e, gvi_mx g]
      · rw [if_neg e, if_neg e]
    · rw [if_neg k2, if_neg k2]
      by_cases k3 : ς.1 4 t 2 = 3
      · rw [if_pos k3, if_pos k3, mx_w (g.2.1 12 (by omega)), gvi_mx g]
      · rw [if_neg k3, if_neg k3]
        by_cases k4 : ς.1 4 t 2 = 4
        · rw [if_pos k4, if_pos k4, mx_J, gvi_mx g]
        · rw [if_neg k4, if_neg k4]
          by_cases k5 : ς.1 4 t 2 = 5
          · rw [if_pos k5, if_pos k5, mx_w (g.2.2.2 _), mx_w (g.2.1 13 (by omega))]
          · rw [if_neg k5, if_neg k5, gvi_mx g]
theorem wk_w (g : gdP t (sg φ i k)) : wk m t v (wI ς φ i k x) = wI (wk m t v ς) φ i k x := by
  rw [wI_mx, wk_mx g, ← wI_mx]
theorem gd_6 {c : Nat} : gdP t (sg 5 c 6) := by
  refine ⟨fun d j hj => ?_, fun j _ => ?_, fun _ _ => ?_, fun _ => ?_⟩ <;> unfold sg <;> apply decide_eq_false
  · rintro ⟨-, -, h⟩; omega
  · rintro ⟨h, -⟩; omega
  · rintro ⟨h, -⟩; omega
  · rintro ⟨h, -⟩; omega
theorem gd_11 : gdP t (sg 4 t 11) := by
  refine ⟨fun d j hj => ?_, fun j hj => ?_, fun _ _ => ?_, fun _ => ?_⟩ <;> unfold sg <;> apply decide_eq_false
  · rintro ⟨h, -⟩; omega
  · rintro ⟨-, -, h⟩; omega
  · rintro ⟨h, -⟩; omega
  · rintro ⟨h, -⟩; omega
theorem gd_pl : gdP t plP := by
  refine ⟨fun d j hj => ?_, fun j _ => ?_, fun _ _ => ?_, fun _ => ?_⟩ <;> unfold plP <;> apply decide_eq_false <;> omega
theorem pl_no (h0 : φ ≠ 0) (h2 : φ ≠ 2) (h9 : φ ≠ 9) (h10 : φ ≠ 10) (h5 : φ ≠ 5) : plP φ i k = false := by
  unfold plP; apply decide_eq_false; omega
theorem pl_5 (h : k ≠ 7) : plP 5 i k = false := by
  unfold plP; apply decide_eq_false; omega
theorem mix_fam (h0 : φ ≠ 0) (h2 : φ ≠ 2) (h9 : φ ≠ 9) (h10 : φ ≠ 10) (h5 : φ ≠ 5) : (mix plP ς s).1 φ = ς.1 φ := by
  funext i k; exact mx_r (pl_no h0 h2 h9 h10 h5)
theorem ex_none : ex m t none v ς = if asb t (ς.1 4 t 11) ς = true then wI ς 4 t 11 (ς.1 4 t 11 + 1) else wk m t v (wI ς 4 t 11 (ς.1 4 t 11 + 1)) := by
  show exP m t v ς = _
  unfold exP
  rw [exA_4 (by decide) (by decide)]
  unfold exA
  by_cases g : asb t (ς.1 4 t 11) ς = true
  · rw [if_pos g, if_pos g]
  · rw [if_neg g, if_neg g, wk_w gd_11]
theorem ex_some {c : Nat} : ex m t (some c) v ς = if asb t (ς.1 4 t 11) ς = true then wI (wI ς 5 c 6 (ς.1 5 c 6 + 1)) 4 t 11 (ς.1 4 t 11 + 1) else wk m t v (wI (wI ς 5 c 6 (ς.1 5 c 6 + 1)) 4 t 11 (ς.1 4 t 11 + 1)) := by
  show wI (exP m t v ς) 5 c 6 ((exP m t v ς).1 5 c 6 + 1) = _
  have e6 : (exP m t v ς).1 5 c 6 = ς.1 5 c 6 := by unfold exP; rw [w_ne (by decide), exA_5 (by decide) (by decide)]
  rw [e6]
  unfold exP
  rw [exA_4 (by decide) (by decide), w_comm (Or.inl (by decide))]
  unfold exA
  by_cases g : asb t (ς.1 4 t 11) ς = true
  · rw [if_pos g, if_pos g]
  · rw [if_neg g, if_neg g, wk_w gd_11, wk_w gd_6]
theorem hC_y {j : Nat} (e : σ.1 1 0 3 = Int32.ofNat m) (hm : m ≤ 40) (hj : j < m) : f_X2_hasChannel (Int32.ofNat j) σ = some (1, σ) := by
  unfold f_X2_hasChannel f_X2_hasChannel_16 f_X2_hasChannel_17
  rw [e, if_neg (n_pos (by omega)), if_neg (by rw [n_le (by omega) (by omega)]; omega)]
  simp
theorem hC_9 : f_X2_hasChannel (-9) σ = some (0, σ) := by
  unfold f_X2_hasChannel f_X2_hasChannel_16 f_X2_hasChannel_17
  have g : (-9 : Int32) < 0 := by decide
  simp [g]
def sq (c : Option Nat) (ς : sm_M) (q : Nat → Nat → Nat → Int32) : Nat → Nat → Nat → Int32 :=
  match c with
  | none => q
  | some k => fun a b d => if a = 5 ∧ b = k ∧ d = 7 then (if q 5 k 7 < ς.1 5 k 6 + 1 then ς.1 5 k 6 + 1 else q 5 k 7) else q a b d
theorem e_c59 {j f : Nat} (ht : t < 16) (hm : m ≤ 40) (hj : j < 8) (h9 : q 9 0 j = v) (e1 : ς.1 1 0 3 = Int32.ofNat m) (hR : Rm m t ς) (o10 : 0 ≤ (ς.1 4 t 10).toInt ∧ (ς.1 4 t 10).toInt ≤ 8) : f_X5_carryOut_59 (f_X5_carryOut_12 f) (Int32.ofNat t) t (Int32.ofNat j) (mix plP ς q) = f_X5_carryOut_12 f (Int32.ofNat t) t (Int32.ofNat (j + 1)) (mix plP (if asb t (ς.1 4 t 11) ς = true then wI ς 4 t 11 (ς.1 4 t 11 + 1) else wk m t v (wI ς 4 t 11 (ς.1 4 t 11 + 1))) q) := by
  have f4 := mix_fam (ς := ς) (s := q) (φ := 4) (by decide) (by decide) (by decide) (by decide) (by decide)
  have f15 := mix_fam (ς := ς) (s := q) (φ := 15) (by decide) (by decide) (by decide) (by decide) (by decide)
  have p11 : plP 4 t 11 = false := pl_no (by decide) (by decide) (by decide) (by decide) (by decide)
  rw [f_X5_carryOut_59, e_as (by rw [f4]; exact o10), Option.bind_some]
  dsimp only
  rw [asb_congr (σ := ς) (ς := mix plP ς q) (by rw [f15]) (by rw [f4]), f4]
  by_cases g : asb t (ς.1 4 t 11) ς = true
  · rw [if_pos g, if_neg (show ¬ (1 : Int32) = 0 by decide), if_pos g, f_X5_carryOut_75, sI_s, Option.bind_some, if_pos rfl, f_X5_carryOut_106, n_inc, f4, mx_w p11]
  · rw [if_neg g, if_pos rfl, if_neg g, f_X5_carryOut_75, sI_s, Option.bind_some, if_neg (show ¬ (1 : Int32) = 0 by decide), f4, mx_w p11, aI_n (by show j < 8; omega) (by omega), Option.bind_some]
    have e9 : (mix plP (wI ς 4 t 11 (ς.1 4 t 11 + 1)) q).1 9 0 j = v := by rw [mx_s (by rfl)]; exact h9
    have w5 : (wI ς 4 t 11 (ς.1 4 t 11 + 1)).1 5 = ς.1 5 := w_ne (by decide)
    have k5 : ∀ c k, k ≠ 7 → (mix plP (wI ς 4 t 11 (ς.1 4 t 11 + 1)) q).1 5 c k = ς.1 5 c k := fun c k hk => by rw [mx_r (pl_5 hk), w5]
    have k4 : ∀ k, k ≠ 11 → (mix plP (wI ς 4 t 11 (ς.1 4 t 11 + 1)) q).1 4 t k = ς.1 4 t k := fun k hk => by rw [mix_fam (by decide) (by decide) (by decide) (by decide) (by decide), w_k hk]
    rw [e9, e_work ht hm (by rw [mix_fam (by decide) (by decide) (by decide) (by decide) (by decide), w_ne (by decide)]; exact e1) ?_, Option.bind_some, f_X5_carryOut_106, n_inc, wk_mx gd_pl]
    refine ⟨fun c hc e => ?_, fun e => ?_⟩
    · rw [k5 c 1 (by decide)] at e
      rw [k5 c 5 (by decide)]
      exact hR.1 c hc e
    · rw [k4 2 (by decide)] at e
      rw [k4 13 (by decide)]
      exact hR.2 e
theorem e_row {j f N : Nat} {c : Option Nat} (ht : t < 16) (hm : m ≤ 40) (hj : j < N) (hN : N ≤ 8) (h2 : q 2 0 2 = Int32.ofNat N) (h9 : q 9 0 j = v) (h10 : q 10 0 j = cc c) (hc : ∀ k, c = some k → k < m) (e1 : ς.1 1 0 3 = Int32.ofNat m) (hR : Rm m t ς) (o10 : 0 ≤ (ς.1 4 t 10).toInt ∧ (ς.1 4 t 10).toInt ≤ 8) : f_X5_carryOut_12 (f + 1) (Int32.ofNat t) t (Int32.ofNat j) (mix plP ς q) = f_X5_carryOut_12 f (Int32.ofNat t) t (Int32.ofNat (j + 1)) (mix plP (ex m t c v ς) (sq c ς q)) := by
  have m2 : (mix plP ς q).1 2 0 2 = Int32.ofNat N := by rw [mx_s (by rfl)]; exact h2
  have m10 : (mix plP ς q).1 10 0 j = cc c := by rw [mx_s (by rfl)]; exact h10
  have m1 : (mix plP ς q).1 1 0 3 = Int32.ofNat m := by rw [mix_fam (by decide) (by decide) (by decide) (by decide) (by decide)]; exact e1
  rw [f_X5_carryOut_12, m2, if_neg (by rw [n_le (by omega) (by omega)]; omega), aI_n (by show j < 8; omega) (by omega), Option.bind_some, m10]
  cases c with
  | none =>
    show ((f_X2_hasChannel (-9) (mix plP ς q)).bind _) = _
    rw [hC_9, Option.bind_some]
    dsimp only
    rw [if_pos rfl, e_c59 ht hm (by omega) h9 e1 hR o10, ex_none]
    rfl
  | some k =>
    have hk := hc k rfl
    show ((f_X2_hasChannel (Int32.ofNat k) (mix plP ς q)).bind _) = _
    rw [hC_y m1 hm hk, Option.bind_some]
    dsimp only
    show (if (1 : Int32) = 0 then _ else (aP 8 (Int32.ofNat k)).bind _) = _
    rw [if_neg (show ¬ (1 : Int32) = 0 by decide), aP_n (by show k < 40; omega) (by omega), Option.bind_some, f_X1_takeOne, sI_s, Option.bind_some, sI_s, Option.bind_some, Option.bind_some, w_eq, w_k (show (7 : Nat) ≠ 6 by decide), mx_r (pl_5 (show (6 : Nat) ≠ 7 by decide)), mx_s (show plP 5 k 7 = true from rfl), mx_w (pl_5 (show (6 : Nat) ≠ 7 by decide)), mx_W (show plP 5 k 7 = true from rfl)]
    have w1 : (wI ς 5 k 6 (ς.1 5 k 6 + 1)).1 4 = ς.1 4 := w_ne (by decide)
    have w15 : (wI ς 5 k 6 (ς.1 5 k 6 + 1)).1 15 = ς.1 15 := w_ne (by decide)
    rw [e_c59 (v := v) ht hm (by omega) (by rw [if_neg (by omega)]; exact h9) (by rw [w_ne (by decide)]; exact e1) ?_ (by rw [w1]; exact o10), w1, asb_congr (σ := ς) (ς := wI ς 5 k 6 (ς.1 5 k 6 + 1)) (by rw [w15]) (by rw [w1]), ex_some]
    · rfl
    · refine ⟨fun d hd e => ?_, fun e => ?_⟩
      · rw [w_k (by decide)] at e ⊢
        exact hR.1 d hd e
      · rw [w1] at e ⊢
        exact hR.2 e
end T3
