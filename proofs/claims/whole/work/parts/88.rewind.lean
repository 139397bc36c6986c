def fr (r : Nat → Int32) : Nat := (r 1).toInt.toNat
def tr (r : Nat → Int32) : Nat := (r 2).toInt.toNat
def rwC0 (R : Nat → Bool) (r : Nat → Int32) : Nat → Int32 := if R (tr r) = true then rwTk r else r
def rwC (R U : Nat → Bool) (r : Nat → Int32) : Nat → Int32 := if R (fr r) = true then rwG (U (fr r)) (rwC0 R r) else rwC0 R r
theorem rwC0_1 (R : Nat → Bool) (r : Nat → Int32) : rwC0 R r 1 = r 1 := by unfold rwC0 rwTk ur; by_cases h : R (tr r) = true <;> simp [h]
theorem e_rew {n m : Nat} {σ τ : sm_M} {e0 : Int32} (h : Rl n m e0 σ τ) {R till : Int32} : ∃ U : Int32, UnS n m σ (fun t => bt R t = true) (fun t => bt U t = true) ∧ f_X2_rewind R till σ = some (mapR (mapR σ 4 n (fun j => if bt R j = true then rwT till (σ.1 4 j) else σ.1 4 j)) 5 m (fun j => rwC (fun t => bt R t) (fun t => bt U t) (σ.1 5 j))) := by
  have hn := h.n16
  have hm := h.m40
  have e1 := h.1.2.2.1
  have e2 := h.1.2.2.2.1
  obtain ⟨U, hU, -, eU⟩ := e_uns h (R := R)
  refine ⟨U, hU, ?_⟩
  obtain ⟨s', h1, h2⟩ := loopE (F := fun f v (s : sm_M) => f_X2_rewind_9 f R till U v s) (X := f_X2_rewind_44 R U) (N := n) (by omega) (fun i s => s = mapR σ 4 i (fun j => if bt R j = true then rwT till (σ.1 4 j) else σ.1 4 j))
    (fun f i s hi hp => by
      subst hp
      refine ⟨_, rfl, ?_⟩
      show f_X2_rewind_9 (f + 1) R till U (Int32.ofNat i) _ = _
      rw [f_X2_rewind_9, mapR_ne (by decide), e1, if_neg (by rw [n_le (by omega) (by omega)]; omega), e_isIn (by omega), Option.bind_some, ← mapR_s]
      dsimp only
      by_cases g : bt R i = true
      · rw [if_pos g, if_neg (by decide), aP_n (by show i < 16; omega) (by omega), Option.bind_some, e_rwT, Option.bind_some, f_X2_rewind_38, n_inc, mapR_ge (Nat.lt_irrefl i), if_pos g]
      · rw [if_neg g, if_pos rfl, f_X2_rewind_38, n_inc, if_neg g]
        congr 1
        rw [show σ.1 4 i = (mapR σ 4 i (fun j => if bt R j = true then rwT till (σ.1 4 j) else σ.1 4 j)).1 4 i from (mapR_ge (Nat.lt_irrefl i)).symm, R_id])
    (fun f s hp => by
      subst hp
      show f_X2_rewind_9 (f + 1) R till U (Int32.ofNat n) _ = _
      rw [f_X2_rewind_9, mapR_ne (by decide), e1, if_pos (by rw [n_le (by omega) (by omega)]; omega)]) σ mapR_0.symm
  subst h1
  generalize hσ : mapR σ 4 n (fun j => if bt R j = true then rwT till (σ.1 4 j) else σ.1 4 j) = σ1 at h2
  have s5 : σ1.1 5 = σ.1 5 := by rw [← hσ, mapR_ne (by decide)]
  have s1 : σ1.1 1 = σ.1 1 := by rw [← hσ, mapR_ne (by decide)]
  obtain ⟨s', h3, h4⟩ := loopE (F := fun f v (s : sm_M) => f_X2_rewind_47 f R U v s) (X := some) (N := m) (by omega) (fun i s => s = mapR σ1 5 i (fun j => rwC (fun t => bt R t) (fun t => bt U t) (σ.1 5 j)))
    (fun f i s hi hp => by
      subst hp
      refine ⟨_, rfl, ?_⟩
      obtain ⟨f0, g0, a1, a2, a3, a4⟩ := h.ft hi
      have hfr : fr (σ.1 5 i) = f0 := by unfold fr; rw [a1, i_of (by omega)]; omega
      have htr : tr (σ.1 5 i) = g0 := by unfold tr; rw [a2, i_of (by omega)]; omega
      have row : (mapR σ1 5 i (fun j => rwC (fun t => bt R t) (fun t => bt U t) (σ.1 5 j))).1 5 i = σ.1 5 i := by rw [mapR_ge (Nat.lt_irrefl i), s5]
      show f_X2_rewind_47 (f + 1) R U (Int32.ofNat i) _ = _
      rw [f_X2_rewind_47, mapR_ne (by decide), s1, e2, if_neg (by rw [n_le (by omega) (by omega)]; omega), aP_n (by show i < 40; omega) (by omega), Option.bind_some, row, a2, e_isIn (by omega), Option.bind_some, ← mapR_s]
      dsimp only
      generalize hX : mapR σ1 5 i (fun j => rwC (fun t => bt R t) (fun t => bt U t) (σ.1 5 j)) = X at row
      have A82 : ∀ r : Nat → Int32, r 1 = Int32.ofNat f0 → f_X2_rewind_82 (f_X2_rewind_47 f) R U (Int32.ofNat i) i (setR X 5 i r) = f_X2_rewind_47 f R U (Int32.ofNat (i + 1)) (setR X 5 i (if bt R f0 = true then rwG (bt U f0) r else r)) := fun r hr => by
        rw [f_X2_rewind_82, R_at, hr, e_isIn (by omega), Option.bind_some]
        dsimp only
        by_cases g : bt R f0 = true
        · rw [if_pos g, if_neg (by decide), R_at, hr, e_isIn (by omega), Option.bind_some]
          dsimp only
          rw [e_rwG, Option.bind_some, f_X2_rewind_108, n_inc, R_at, R_R, if_pos g]
        · rw [if_neg g, if_pos rfl, f_X2_rewind_108, n_inc, if_neg g]
      by_cases g : bt R g0 = true
      · rw [if_pos g, if_neg (by decide), e_rwTk, Option.bind_some, row, A82 _ (by simp [rwTk, ur, a1])]
        congr 2
        unfold rwC rwC0
        rw [hfr, htr, if_pos g]
      · rw [if_neg g, if_pos rfl]
        have id1 : X = setR X 5 i (σ.1 5 i) := by rw [← row, R_id]
        rw [id1, A82 _ a1]
        rw [R_R]
        congr 2
        unfold rwC rwC0
        rw [hfr, htr, if_neg g])
    (fun f s hp => by
      subst hp
      show f_X2_rewind_47 (f + 1) R U (Int32.ofNat m) _ = _
      rw [f_X2_rewind_47, mapR_ne (by decide), s1, e2, if_pos (by rw [n_le (by omega) (by omega)]; omega)]) σ1 mapR_0.symm
  subst h3
  rw [f_X2_rewind, eU, Option.bind_some]
  exact h2.trans h4
/-! the reference -/
theorem K_id {τ : sm_M} {P : Nat → Bool} {i : Nat} : setK τ P i (colK τ i) = τ := by
  unfold setK colK
  refine Prod.ext ?_ rfl
  funext ψ j k
  by_cases h : P ψ = true ∧ j = 0 ∧ k = i
  · obtain ⟨a, rfl, rfl⟩ := h; simp
  · simp [h]
def rwT' (till : Int32) (q : Nat → Int32) : Nat → Int32 := ur (ur (ur (ur q 24 (q 44)) 25 (q 45)) 26 (q 46)) 31 (if q 31 ≤ till then till else q 31)
def rwC0' (R : Nat → Bool) (g0 : Nat) (q : Nat → Int32) : Nat → Int32 := if R g0 = true then ur q 40 (q 49) else q
def stl' (q : Nat → Int32) : Int32 := if q 47 ≤ q 49 then q 49 else q 47
def rwG1' (u : Bool) (q : Nat → Int32) : Nat → Int32 := if u = true then ur q 41 (if stl' q ≤ q 41 then stl' q else q 41) else q
def rwG2' (q : Nat → Int32) : Nat → Int32 := ur (ur q 38 (q 47)) 42 0
def rwG' (u : Bool) (q : Nat → Int32) : Nat → Int32 := if q 36 = 0 ∨ u = true ∨ ¬ q 42 = 0 then rwG1' u (rwG2' (ur q 39 (q 48))) else rwG1' u (ur q 39 (q 48))
def rwC' (R U : Nat → Bool) (f0 g0 : Nat) (q : Nat → Int32) : Nat → Int32 := if R f0 = true then rwG' (U f0) (rwC0' R g0 q) else rwC0' R g0 q
