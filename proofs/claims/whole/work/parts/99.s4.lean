def Rm (m t : Nat) (σ : sm_M) : Prop := (∀ c, c < m → σ.1 5 c 1 = Int32.ofNat t → 0 ≤ (σ.1 5 c 5).toInt ∧ (σ.1 5 c 5).toInt < 64) ∧ (σ.1 4 t 2 = 5 → 0 ≤ (σ.1 4 t 13).toInt ∧ (σ.1 4 t 13).toInt < 200)
section S4
variable {n m t : Nat} {σ τ σ' τ' : sm_M} {e0 e1 : Int32} {v : Int32}
theorem e_gf : f_X4_givesFor t v σ = some (if σ.1 4 t 2 = 2 ∧ ¬ (0 < (σ.1 4 t 3).toInt ∧ v - v / σ.1 4 t 3 * σ.1 4 t 3 = 0) then 0 else 1, σ) := by
  rw [f_X4_givesFor]
  by_cases g : σ.1 4 t 2 = 2
  · rw [if_pos g]
    by_cases g2 : σ.1 4 t 3 ≤ 0
    · rw [if_pos g2, if_pos ⟨g, fun q => by rw [i_le] at g2; have : (0 : Int32).toInt = 0 := rfl; omega⟩]; rfl
    · have g3 : ¬ σ.1 4 t 3 = 0 := fun q => g2 (by rw [q]; decide)
      have g4 : 0 < (σ.1 4 t 3).toInt := by rw [i_le] at g2; have : (0 : Int32).toInt = 0 := rfl; omega
      rw [if_neg g2, if_neg g3]
      by_cases g5 : v - v / σ.1 4 t 3 * σ.1 4 t 3 = 0
      · rw [if_pos g5, if_neg (fun q => q.2 ⟨g4, g5⟩)]; rfl
      · rw [if_neg g5, if_pos ⟨g, fun q => g5 q.2⟩]; rfl
  · rw [if_neg g, if_neg (fun q => g q.1)]; rfl
theorem e_work (ht : t < 16) (hm : m ≤ 40) (e1 : σ.1 1 0 3 = Int32.ofNat m) (hr : Rm m t σ) : f_X5_work (Int32.ofNat t) v σ = some (wk m t v σ) := by
  obtain ⟨hg, ho⟩ := hr
  have G : ∀ x, f_X2_give (Int32.ofNat t) x σ = some (gvi t x σ m) := fun x => e_give hm e1 hg
  have W : f_X5_work_136 (Int32.ofNat t) v t σ = some (if σ.1 4 t 2 = 2 ∧ ¬ (0 < (σ.1 4 t 3).toInt ∧ v - v / σ.1 4 t 3 * σ.1 4 t 3 = 0) then σ else gvi t v σ m) := by
    rw [f_X5_work_136, e_gf, Option.bind_some]
    dsimp only
    by_cases g : σ.1 4 t 2 = 2 ∧ ¬ (0 < (σ.1 4 t 3).toInt ∧ v - v / σ.1 4 t 3 * σ.1 4 t 3 = 0)
    · rw [if_pos g, if_pos rfl, if_pos g]
    · rw [if_neg g, if_neg (show ¬ (1 : Int32) = 0 by decide), G, Option.bind_some, if_neg g]
  rw [f_X5_work, aP_n (by show t < 16; omega) (by omega), Option.bind_some, wk]
  by_cases k1 : σ.1 4 t 2 = 1
  · rw [if_pos k1, G, Option.bind_some, if_pos k1]
  · rw [if_neg k1, if_neg k1]
    by_cases k2 : σ.1 4 t 2 = 2
    · rw [if_pos k2, W, if_pos k2]
      by_cases g : 0 < (σ.1 4 t 3).toInt ∧ v - v / σ.1 4 t 3 * σ.1 4 t 3 = 0
      · rw [if_pos g, if_neg (fun q => q.2 g)]
      · rw [if_neg g, if_pos ⟨k2, g⟩]
    · rw [if_neg k2, if_neg k2]
      by_cases k3 : σ.1 4 t 2 = 3
      · have w5 : (wI σ 4 t 12 (σ.1 4 t 12 + v)).1 5 = σ.1 5 := w_ne (by decide)
        rw [if_pos k3, sI_s, Option.bind_some, w_eq, e_give hm (by rw [w_ne (by decide)]; exact e1) (by rw [w5]; exact hg), Option.bind_some, if_pos k3]
      · rw [if_neg k3, if_neg k3]
        by_cases k4 : σ.1 4 t 2 = 4
        · rw [if_pos k4, if_neg (by decide), sJ_s, Option.bind_some, if_neg (by decide), j_2, if_pos k4]
          have := e_give (t := t) (v := v + (dr (σ.2 0 0 7) - dr (σ.2 0 0 7) / 10 * 10).toInt32) (σ := wJ σ 0 0 7 (dr (σ.2 0 0 7))) hm (by rw [j_1]; exact e1) (by rw [j_1]; exact hg)
          show (f_X2_give (Int32.ofNat t) (v + (dr (σ.2 0 0 7) - dr (σ.2 0 0 7) / 10 * 10).toInt32) (wJ σ 0 0 7 (dr (σ.2 0 0 7)))).bind _ = _
          rw [this, Option.bind_some]
        · rw [if_neg k4, if_neg k4]
          by_cases k5 : σ.1 4 t 2 = 5
          · have o := ho k5
            obtain ⟨k, hk, hk2⟩ := i_get o.1
            have e2 : uI 14 σ t (σ.1 4 t 13) v = some (wI σ 14 t (σ.1 4 t 13).toInt.toNat v) := by
              have : (σ.1 4 t 13).toInt.toNat = k := by omega
              rw [this, hk]; exact uI_n (by show k < 200; omega) (by omega)
            rw [if_pos k5, f_X4_putOut, if_neg (by rw [i_le]; show ¬ (200 : Int) ≤ _; omega), e2, Option.bind_some, sI_s, Option.bind_some, Option.bind_some, w_ne (show (4 : Nat) ≠ 14 by decide), if_pos k5, po]
          · rw [if_neg k5, W, if_neg k5, if_neg (fun q => k2 q.1)]
theorem Fr_wI4 {k : Nat} {x : Int32} (hk : k = 11 ∨ k = 12) : Fr m t σ (wI σ 4 t k x) :=
  ⟨fun φ a _ _ _ => w_ne a, fun u a => ⟨w_i a, by rw [w_ne (by decide)]⟩, fun j a b _ => w_k (by omega), fun _ _ _ _ _ => by rw [w_ne (by decide)], fun _ _ => by rw [w_ne (by decide), w_ne (by decide)]; exact ⟨Int.le_refl _, fun _ _ => rfl⟩, by rw [w_ne (show (14 : Nat) ≠ 4 by decide), w_k (by omega)]; exact ⟨Int.le_refl _, fun _ _ => rfl⟩, fun _ _ => by rw [w_ne (by decide), w_ne (by decide)]; exact ⟨rfl, rfl, rfl⟩, fun _ _ => by rw [w_ne (by decide)]⟩
theorem Fr_J {φ i k : Nat} {x : Int64} : Fr m t σ (wJ σ φ i k x) := by
  have : (wJ σ φ i k x).1 = σ.1 := rfl
  unfold Fr
  rw [this]
  exact Fr.refl (σ := σ)
theorem Fr_po (h0 : 0 ≤ (σ.1 4 t 13).toInt) (h1 : (σ.1 4 t 13).toInt < 200) : Fr m t σ (po t v σ) := by
  unfold po
  refine ⟨fun φ a _ b _ => by rw [w_ne a, w_ne b], fun u a => ⟨by rw [w_i a, w_ne (by decide)], by rw [w_ne (by decide), w_i a]⟩, fun j _ _ c => by rw [w_k c, w_ne (by decide)], fun _ _ _ _ _ => by rw [w_ne (by decide), w_ne (by decide)], fun _ _ => by rw [w_ne (show (5 : Nat) ≠ 4 by decide), w_ne (show (5 : Nat) ≠ 14 by decide), w_ne (show (16 : Nat) ≠ 4 by decide), w_ne (show (16 : Nat) ≠ 14 by decide)]; exact ⟨Int.le_refl _, fun _ _ => rfl⟩, ⟨?_, fun j hj => ?_⟩, fun _ _ => by rw [w_ne (show (5 : Nat) ≠ 4 by decide), w_ne (show (5 : Nat) ≠ 14 by decide), w_ne (show (16 : Nat) ≠ 4 by decide), w_ne (show (16 : Nat) ≠ 14 by decide)]; exact ⟨rfl, rfl, rfl⟩, fun _ _ => by rw [w_ne (show (5 : Nat) ≠ 4 by decide), w_ne (show (5 : Nat) ≠ 14 by decide)]⟩
  · rw [w_eq, c_inc h0 (by omega)]; omega
  · rw [w_ne (by decide), w_at, if_neg (by omega)]
theorem Fr_wk (hr : Rm m t σ) : Fr m t σ (wk m t v σ) := by
  obtain ⟨hg, ho⟩ := hr
  rw [wk]
  by_cases k1 : σ.1 4 t 2 = 1
  · rw [if_pos k1]; exact Fr_gvi hg (Nat.le_refl m)
  · rw [if_neg k1]
    by_cases k2 : σ.1 4 t 2 = 2
    · rw [if_pos k2]
      by_cases g : 0 < (σ.1 4 t 3).toInt ∧ v - v / σ.1 4 t 3 * σ.1 4 t 3 = 0
      · rw [if_pos g]; exact Fr_gvi hg (Nat.le_refl m)
      · rw [if_neg g]; exact Fr.refl
    · rw [if_neg k2]
      by_cases k3 : σ.1 4 t 2 = 3
      · rw [if_pos k3]
        refine (Fr_wI4 (Or.inr rfl)).trans (Fr_gvi ?_ (Nat.le_refl m))
        rw [w_ne (by decide)]; exact hg
      · rw [if_neg k3]
        by_cases k4 : σ.1 4 t 2 = 4
        · rw [if_pos k4]
          refine Fr_J.trans (Fr_gvi ?_ (Nat.le_refl m))
          rw [j_1]; exact hg
        · rw [if_neg k4]
          by_cases k5 : σ.1 4 t 2 = 5
          · rw [if_pos k5]; exact Fr_po (ho k5).1 (ho k5).2
          · rw [if_neg k5]; exact Fr_gvi hg (Nat.le_refl m)
theorem Rl.sum (h : Rl n m e0 σ τ) (ht : t < n) {x : Int32} : Rl n m e0 (wI σ 4 t 12 x) (wI τ 25 0 t x) := by
  have un : ∀ k, k ≠ 12 → ur (σ.1 4 t) 12 x k = σ.1 4 t k := fun k hk => by simp [ur, hk]
  refine h.task ht (fun φ q => by rw [w_ne q]) rfl (fun j q => by rw [w_i q]) (fun φ q => by rw [w_ne (by rintro rfl; cases q)]) (fun j q φ _ => ?_) ?_ ?_ ?_ ?_ ?_ ?_ (Or.inl rfl)
  · exact congrFun (w_col2 (τ := τ) (φ := 25) (v := x) q) φ
  · rw [w_row, w_col]
    obtain ⟨a1, a2, a3, a4, a5, a6, a7, a8, a9, a10, a11, a12, a13, a14⟩ := (h.T ht).1
    simp [relT, ur, a1, a2, a3, a4, a6, a7, a8, a9, a10, a11, a12, a13, a14]
  · rw [w_row]
    have o := (h.T ht).2
    unfold okT at o ⊢
    rw [un 2 (by decide), un 3 (by decide), un 4 (by decide), un 7 (by decide), un 8 (by decide), un 9 (by decide), un 10 (by decide), un 11 (by decide), un 13 (by decide), un 14 (by decide), un 16 (by decide)]
    exact o
  · rw [w_row, un 13 (by decide)]; exact Int.le_refl _
  · rw [w_row, un 10 (by decide)]; exact Int.le_refl _
  · rw [w_row, un 2 (by decide)]
  · rw [w_row, un 5 (by decide)]
theorem Rl.draw (h : Rl n m e0 σ τ) {d : Int32} (h1 : 0 ≤ d.toInt ∧ d.toInt < 2147483647) : Rl n m e0 (wJ σ 0 0 7 d.toInt64) (wI τ 20 0 34 d) := by
  refine h.glob (fun φ _ _ _ _ => rfl) (fun φ a _ => by rw [w_ne (by omega)]) ⟨by rw [w_k (by decide)], by rw [w_k (by decide)]⟩ ?_ ?_ (Or.inl rfl)
  · have hG := h.2.1
    unfold bG at hG ⊢
    rw [j_1, j_2, w_eq, w_k (by decide), w_k (by decide), w_k (by decide), w_k (by decide), w_k (by decide), w_k (by decide), w_k (by decide), w_k (by decide), w_k (by decide)]
    exact ⟨hG.1, hG.2.1, hG.2.2.1, hG.2.2.2.1, hG.2.2.2.2.1, hG.2.2.2.2.2.1, hG.2.2.2.2.2.2.1, hG.2.2.2.2.2.2.2.1, hG.2.2.2.2.2.2.2.2.1, rfl⟩
  · have hB := h.2.2.1
    unfold bB at hB ⊢
    rw [j_1, w_eq]
    exact ⟨hB.1, hB.2.1, hB.2.2.1, hB.2.2.2.1, hB.2.2.2.2.1, hB.2.2.2.2.2.1, h1⟩
set_option maxHeartbeats 1000000 in
theorem Rl.out (h : Rl n m e0 σ τ) (ht : t < n) (h1 : (σ.1 4 t 13).toInt < 200) : Rl n m e0 (po t v σ) (wI (wI τ 27 0 (200 * t + (σ.1 4 t 13).toInt.toNat) v) 26 0 t (σ.1 4 t 13 + 1)) := by
  have hn := h.n16
  obtain ⟨o1, o2, o3, o4, o5, o6, o7, o8, o9⟩ := (h.T ht).2
  have e13 := c_inc (x := σ.1 4 t 13) (by omega) (by omega)
  have a : ∀ φ, φ ≠ 4 → φ ≠ 14 → (po t v σ).1 φ = σ.1 φ := fun φ q r => by unfold po; rw [w_ne q, w_ne r]
  have a4 : (po t v σ).1 4 t = ur (σ.1 4 t) 13 (σ.1 4 t 13 + 1) := by unfold po; rw [w_row, w_ne (by decide)]
  have a4i : ∀ u, u ≠ t → (po t v σ).1 4 u = σ.1 4 u := fun u q => by unfold po; rw [w_i q, w_ne (by decide)]
  have a14 : ∀ u j, (po t v σ).1 14 u j = if u = t ∧ j = (σ.1 4 t 13).toInt.toNat then v else σ.1 14 u j := fun u j => by
    unfold po
    rw [w_ne (by decide)]
    by_cases q : u = t
    · subst q; rw [w_at]
      by_cases q2 : j = (σ.1 4 u 13).toInt.toNat
      · rw [if_pos q2, if_pos ⟨rfl, q2⟩]
      · rw [if_neg q2, if_neg (fun x => q2 x.2)]
    · rw [w_i q, if_neg (fun x => q x.1)]
  have un : ∀ k, k ≠ 13 → ur (σ.1 4 t) 13 (σ.1 4 t 13 + 1) k = σ.1 4 t k := fun k hk => by simp [ur, hk]
  have u13 : ur (σ.1 4 t) 13 (σ.1 4 t 13 + 1) 13 = σ.1 4 t 13 + 1 := by simp [ur]
  have b : ∀ φ, φ ≠ 26 → φ ≠ 27 → (wI (wI τ 27 0 (200 * t + (σ.1 4 t 13).toInt.toNat) v) 26 0 t (σ.1 4 t 13 + 1)).1 φ = τ.1 φ := fun φ q r => by rw [w_ne q, w_ne r]
  refine h.upV (fun φ _ _ q _ _ _ r _ _ => a φ q r) ⟨b 50 (by decide) (by decide), b 51 (by decide) (by decide), b 52 (by decide) (by decide), b 53 (by decide) (by decide)⟩ ⟨by rw [b 20 (by decide) (by decide)], by rw [b 20 (by decide) (by decide)]⟩ ?_ ?_ (fun u hu => ?_) (fun j hj => ?_) ⟨fun u j hu hj => ?_, fun u j hu hj => ?_, fun d j hd hj => ?_⟩ (fun u hu => ?_) (fun j hj => by rw [a 5 (by decide) (by decide)]; exact ⟨rfl, rfl⟩)
  · unfold bG; rw [a 0 (by decide) (by decide), a 3 (by decide) (by decide), b 20 (by decide) (by decide)]; exact h.2.1
  · unfold bB; rw [a 0 (by decide) (by decide), a 3 (by decide) (by decide), b 20 (by decide) (by decide)]; exact h.2.2.1
  · by_cases e : u = t
    · subst e
      rw [a4]
      constructor
      · obtain ⟨a1, a2, a3, a4, a5, a6, a7, a8, a9, a10, a11, a12, a13, a14⟩ := (h.T ht).1
        refine relT_congr (q := ur (colK τ u) 26 (σ.1 4 u 13 + 1)) (fun φ hφ => ?_) (by simp [relT, ur, a1, a2, a3, a4, a5, a7, a8, a9, a10, a11, a12, a13, a14])
        unfold colK
        by_cases e2 : φ = 26
        · subst e2; rw [w_eq]; simp [ur]
        · rw [b φ e2 (by rintro rfl; cases hφ)]; simp [ur, e2]
      · unfold okT
        rw [u13, un 2 (by decide), un 3 (by decide), un 4 (by decide), un 7 (by decide), un 8 (by decide), un 9 (by decide), un 10 (by decide), un 11 (by decide), un 14 (by decide), un 16 (by decide), e13]
        exact ⟨o1, o2, o3, o4, o5, o6, o7, o8, by omega⟩
    · rw [a4i u e]
      refine ⟨relT_congr (fun φ hφ => ?_) (h.T hu).1, (h.T hu).2⟩
      unfold colK
      by_cases e2 : φ = 26
      · subst e2; rw [w_k e, w_ne (by decide)]
      · rw [b φ e2 (by rintro rfl; cases hφ)]
  · rw [a 5 (by decide) (by decide)]
    refine ⟨relC_congr (fun φ hφ => ?_) (h.C hj).1, (h.C hj).2⟩
    unfold colK; rw [b φ (by rintro rfl; cases hφ) (by rintro rfl; cases hφ)]
  · rw [a14, w_ne (by decide), w_at]
    by_cases e : u = t
    · subst e
      rw [a4, u13, e13] at hj
      by_cases q2 : j = (σ.1 4 u 13).toInt.toNat
      · rw [if_pos (by omega), if_pos ⟨rfl, q2⟩]
      · rw [if_neg (by omega), if_neg (fun x => q2 x.2)]
        exact h.V.1 u j hu (by omega)
    · rw [a4i u e] at hj
      have ou := (h.T hu).2.2.2.2.2.2.2.2.2
      rw [if_neg (by omega), if_neg (fun x => e x.1)]
      exact h.V.1 u j hu hj
  · rw [b 33 (by decide) (by decide), a 15 (by decide) (by decide)]
    refine h.V.2.1 u j hu ?_
    by_cases e : u = t
    · subst e; rw [a4, un 10 (by decide)] at hj; exact hj
    · rw [a4i u e] at hj; exact hj
  · rw [b 37 (by decide) (by decide), a 16 (by decide) (by decide)]
    rw [a 5 (by decide) (by decide)] at hj
    exact h.V.2.2 d j hd hj
  · by_cases e : u = t
    · subst e; rw [a4, un 2 (by decide), un 5 (by decide)]; exact ⟨rfl, rfl⟩
    · rw [a4i u e]; exact ⟨rfl, rfl⟩
theorem e_work' (h : Rl n m e0 σ τ) (ht : t < n) (hr : Rm m t σ) : ∃ τ', f_X6_work (Int32.ofNat t) v τ = some τ' ∧ Rl n m e0 (wk m t v σ) τ' ∧ Fz τ τ' := by
  have hn := h.n16
  obtain ⟨hg, ho⟩ := hr
  have hg' : ∀ c, c < m → σ.1 5 c 1 = Int32.ofNat t → (σ.1 5 c 5).toInt < 64 := fun c hc q => (hg c hc q).2
  obtain ⟨a1, a2, a3, a4, a5, a6, a7, a8, a9, a10, a11, a12, a13, a14⟩ := (h.T ht).1
  have c21 : τ.1 21 0 t = σ.1 4 t 2 := a1
  have c22 : τ.1 22 0 t = σ.1 4 t 3 := a2
  have c25 : τ.1 25 0 t = σ.1 4 t 12 := a5
  have c26 : τ.1 26 0 t = σ.1 4 t 13 := a6
  have ai : ∀ (φ : Nat) (s : sm_M), fL φ = 16 → aI φ s 0 (Int32.ofNat t) = some (s.1 φ 0 t) := fun φ s hφ => aI_n (by rw [hφ]; omega) (by omega)
  have ui : ∀ (φ : Nat) (s : sm_M) (x : Int32), fL φ = 16 → uI φ s 0 (Int32.ofNat t) x = some (wI s φ 0 t x) := fun φ s x hφ => uI_n (by rw [hφ]; omega) (by omega)
  have G : ∀ x, ∃ τ', f_X6_give (Int32.ofNat t) x τ = some τ' ∧ Rl n m e0 (gvi t x σ m) τ' ∧ Fz τ τ' := fun x => e_give' h hg' (by omega)
  rw [f_X6_work, ai 21 _ rfl, Option.bind_some, c21, ai 22 _ rfl, Option.bind_some, Option.bind_some, c22, ai 25 _ rfl, Option.bind_some, c25, ui 25 _ _ rfl, Option.bind_some, ai 25 _ rfl, Option.bind_some, w_eq, ai 26 _ rfl, Option.bind_some, c26, wk]
  by_cases k1 : σ.1 4 t 2 = 1
  · rw [if_pos k1, if_pos k1]
    obtain ⟨τ1, g1, g2⟩ := G (v + σ.1 4 t 3)
    exact ⟨τ1, by rw [g1, Option.bind_some], g2⟩
  · rw [if_neg k1, if_neg k1]
    by_cases k2 : σ.1 4 t 2 = 2
    · have o := (h.T ht).2.2.2.1 k2
      rw [if_pos k2, if_pos k2, if_neg (fun q => by rw [q] at o; have : (0 : Int32).toInt = 0 := rfl; omega)]
      by_cases g : v - v / σ.1 4 t 3 * σ.1 4 t 3 = 0
      · rw [if_pos g, if_pos ⟨by omega, g⟩]
        obtain ⟨τ1, g1, g2⟩ := G v
        exact ⟨τ1, by rw [g1, Option.bind_some], g2⟩
      · rw [if_neg g, if_neg (fun q => g q.2)]
        exact ⟨τ, rfl, h, rfl, rfl, rfl⟩
    · rw [if_neg k2, if_neg k2]
      by_cases k3 : σ.1 4 t 2 = 3
      · rw [if_pos k3, if_pos k3]
        have w5 : (wI σ 4 t 12 (σ.1 4 t 12 + v)).1 5 = σ.1 5 := w_ne (by decide)
        obtain ⟨τ1, g1, g2, z1, z2, z3⟩ := e_give' (v := σ.1 4 t 12 + v) (h.sum ht (x := σ.1 4 t 12 + v)) (by rw [w5]; exact hg') (show t < 16 by omega)
        refine ⟨τ1, by rw [g1, Option.bind_some], g2, ?_, ?_, ?_⟩
        · rw [z1, w_ne (by decide)]
        · rw [z2, w_ne (by decide)]
        · rw [z3, w_ne (by decide)]
      · rw [if_neg k3, if_neg k3]
        by_cases k4 : σ.1 4 t 2 = 4
        · rw [if_pos k4, if_pos k4]
          obtain ⟨d, d1, d2, d3, d4⟩ := dr_ok h.2.2.1.2.2.2.2.2.2.1 h.2.2.1.2.2.2.2.2.2.2
          have e34 : (τ.1 20 0 34).toInt64 = σ.2 0 0 7 := h.2.1.2.2.2.2.2.2.2.2.2
          rw [d2]
          rw [e34] at d1
          rw [d1, d4 _ rfl]
          obtain ⟨τ1, g1, g2, z1, z2, z3⟩ := e_give' (v := v + (d - d / 10 * 10)) (h.draw d3) hg' (show t < 16 by omega)
          refine ⟨τ1, ?_, g2, ?_, ?_, ?_⟩
          · rw [if_neg (by decide), sI_s, Option.bind_some, if_neg (by decide), w_eq, g1, Option.bind_some]
          · rw [z1, w_ne (by decide)]
          · rw [z2, w_ne (by decide)]
          · rw [z3, w_ne (by decide)]
        · rw [if_neg k4, if_neg k4]
          by_cases k5 : σ.1 4 t 2 = 5
          · rw [if_pos k5, if_pos k5]
            have o := ho k5
            obtain ⟨k, hk, hk2⟩ := i_get o.1
            have ix : (200 : Int32) * Int32.ofNat t + σ.1 4 t 13 = Int32.ofNat (200 * t + (σ.1 4 t 13).toInt.toNat) := by
              have : (σ.1 4 t 13).toInt.toNat = k := by omega
              rw [this, hk, show (200 : Int32) = Int32.ofNat 200 from rfl, n_mul, n_add]
            refine ⟨_, ?_, h.out (v := v) ht o.2, ?_, ?_, ?_⟩
            · rw [ix, uI_n (by show _ < 3200; omega) (by omega), Option.bind_some, ai 26 _ rfl, Option.bind_some, ui 26 _ _ rfl, Option.bind_some, w_ne (show (26 : Nat) ≠ 27 by decide), c26]
            · rw [w_ne (by decide), w_ne (by decide)]
            · rw [w_ne (by decide), w_ne (by decide)]
            · rw [w_ne (by decide), w_ne (by decide)]
          · rw [if_neg k5, if_neg k5]
            obtain ⟨τ1, g1, g2⟩ := G v
            exact ⟨τ1, by rw [g1, Option.bind_some], g2⟩
end S4
