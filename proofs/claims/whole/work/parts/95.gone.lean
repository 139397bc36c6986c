/-! ===== a node goes ===== -/
theorem w_id {σ : sm_M} {φ i k : Nat} : wI σ φ i k (σ.1 φ i k) = σ := by
  unfold wI
  refine Prod.ext ?_ rfl
  funext a b c
  by_cases h : a = φ ∧ b = i ∧ c = k
  · obtain ⟨rfl, rfl, rfl⟩ := h; simp [sm_up]
  · simp only [sm_up]; split
    · next q => exact absurd q h
    · rfl
theorem mapR_id {σ : sm_M} {φ i : Nat} {g : Nat → Nat → Int32} (h : ∀ j, j < i → g j = σ.1 φ j) : mapR σ φ i g = σ := by
  unfold mapR
  refine Prod.ext ?_ rfl
  funext a b c
  by_cases q : a = φ ∧ b < i
  · obtain ⟨rfl, q2⟩ := q; simp [q2, h b q2]
  · simp [q]
/-! the emptiest node -/
def cnt (n : Nat) (σ : sm_M) (k : Nat) : Nat := cN (fun t => decide (σ.1 4 t 4 = Int32.ofNat k)) n
def emF (n : Nat) (σ : sm_M) : Nat → Int32 × Int32
  | 0 => (-9, 17)
  | k + 1 => if σ.1 6 0 k = 1 ∧ (cnt n σ k : Int) < (emF n σ k).2.toInt then (Int32.ofNat k, Int32.ofNat (cnt n σ k)) else emF n σ k
section GONE
variable {n m : Nat} {σ τ : sm_M} {e0 : Int32} {F kind : Int32}
theorem em_1 {k : Nat} (hk : k ≤ 4) (hn : n ≤ 16) : ((∀ j, j < k → σ.1 6 0 j ≠ 1) ∧ (emF n σ k).2 = 17) ∨ ((∃ j, j < k ∧ σ.1 6 0 j = 1) ∧ 0 ≤ (emF n σ k).1.toInt ∧ (emF n σ k).1.toInt ≤ 3) := by
  induction k with
  | zero => exact Or.inl ⟨fun j hj => absurd hj (Nat.not_lt_zero j), rfl⟩
  | succ k ih =>
    have hc : cnt n σ k ≤ 16 := Nat.le_trans (cN_le _ _) hn
    rw [emF]
    by_cases g : σ.1 6 0 k = 1
    · refine Or.inr ⟨⟨k, by omega, g⟩, ?_⟩
      by_cases g2 : (cnt n σ k : Int) < (emF n σ k).2.toInt
      · rw [if_pos ⟨g, g2⟩]
        dsimp only
        rw [i_of (by omega)]; omega
      · rw [if_neg (fun q => g2 q.2)]
        rcases ih (by omega) with ⟨-, q⟩ | ⟨-, q⟩
        · rw [q] at g2
          have : (17 : Int32).toInt = 17 := rfl
          omega
        · exact q
    · rw [if_neg (fun q => g q.1)]
      rcases ih (by omega) with ⟨q1, q2⟩ | ⟨⟨j, q1, q2⟩, q3⟩
      · refine Or.inl ⟨fun j hj => ?_, q2⟩
        by_cases e : j = k
        · subst e; exact g
        · exact q1 j (by omega)
      · exact Or.inr ⟨⟨j, by omega, q2⟩, q3⟩
theorem e_tOn (h : Rl n m e0 σ τ) (v : Int32) : ∃ M : Int32, f_X2_tasksOn v σ = some (M, σ) ∧ (∀ t, t < n → (bt M t = true ↔ σ.1 4 t 4 = v)) ∧ ∀ t, n ≤ t → bt M t = false := by
  have hn := h.n16
  have e1 := h.1.2.2.1
  obtain ⟨M, ⟨h1, h2⟩, h3⟩ := loopE (F := fun f i (x : Int32) => f_X2_tasksOn_4 f v x i σ) (X := fun x => some (x, σ)) (N := n) (by omega) (fun i x => (∀ t, t < i → (bt x t = true ↔ σ.1 4 t 4 = v)) ∧ ∀ t, i ≤ t → bt x t = false)
    (fun k i x hi hp => by
      obtain ⟨p1, p2⟩ := hp
      show ∃ x' : Int32, _ ∧ f_X2_tasksOn_4 (k + 1) v x (Int32.ofNat i) σ = f_X2_tasksOn_4 k v x' (Int32.ofNat (i + 1)) σ
      rw [f_X2_tasksOn_4, e1, if_neg (by rw [n_le (by omega) (by omega)]; omega), aP_n (by show i < 16; omega) (by omega), Option.bind_some]
      by_cases g : σ.1 4 i 4 = v
      · rw [if_pos g, f_X2_tasksOn_31, n_inc]
        refine ⟨_, ⟨fun t ht => ?_, fun t ht => ?_⟩, rfl⟩
        · rw [b_set (by omega) (by omega)]
          by_cases e : t = i
          · subst e; simp [g]
          · have : decide (t = i) = false := by simp [e]
            rw [this, Bool.or_false]; exact p1 t (by omega)
        · by_cases h32 : t < 32
          · rw [b_set (by omega) h32, p2 t (by omega)]
            have : ¬ t = i := by omega
            simp [this]
          · exact b_big (by omega)
      · rw [if_neg g, f_X2_tasksOn_31, n_inc]
        refine ⟨x, ⟨fun t ht => ?_, fun t ht => p2 t (by omega)⟩, rfl⟩
        by_cases e : t = i
        · subst e; rw [p2 t (Nat.le_refl t)]; simp [g]
        · exact p1 t (by omega))
    (fun k x hp => by
      show f_X2_tasksOn_4 (k + 1) v x (Int32.ofNat n) σ = _
      rw [f_X2_tasksOn_4, e1, if_pos (by rw [n_le (by omega) (by omega)]; omega), f_X2_tasksOn_37]) 0 ⟨fun t ht => absurd ht (Nat.not_lt_zero t), fun t _ => b_0 t⟩
  exact ⟨M, by rw [f_X2_tasksOn]; exact h3, h1, h2⟩
theorem e_cnt (h : Rl n m e0 σ τ) (k : Nat) : ∃ M : Int32, f_X2_tasksOn (Int32.ofNat k) σ = some (M, σ) ∧ f_J6_bitCount_0f7a4 M σ = some (Int32.ofNat (cnt n σ k), σ) := by
  obtain ⟨M, h1, h2, h3⟩ := e_tOn h (Int32.ofNat k)
  refine ⟨M, h1, ?_⟩
  rw [e_bits h.n16 h3]
  have : cN (fun t => bt M t) n = cnt n σ k := cN_congr (fun t ht => by
    have := h2 t ht
    by_cases q : bt M t = true
    · rw [q]; simp [this.mp q]
    · have q' : bt M t = false := by simpa using q
      rw [q']
      by_cases q2 : σ.1 4 t 4 = Int32.ofNat k
      · exact absurd (this.mpr q2) q
      · simp [q2])
  rw [this]
theorem e_emp (h : Rl n m e0 σ τ) (v : Int32) (hx : ∃ j, j < 4 ∧ σ.1 6 0 j = 1) : f_X5_emptiestNode v σ = some ((emF n σ 4).1, σ) := by
  have hn := h.n16
  obtain ⟨s', ⟨h1, h2⟩, h3⟩ := loopE (F := fun f i (s : Int32 × Int32) => f_X5_emptiestNode_8 f s.1 s.2 i σ) (X := fun s => some (s.1, σ)) (N := 4) (by omega) (fun i s => s.2 = (emF n σ i).2 ∧ (s.1 = (emF n σ i).1 ∨ ((emF n σ i).2 = 17 ∧ ∀ j, j < i → σ.1 6 0 j ≠ 1)))
    (fun f i s hi hp => by
      obtain ⟨p1, p2⟩ := hp
      obtain ⟨M, m1, m2⟩ := e_cnt h i
      have hc : cnt n σ i ≤ 16 := Nat.le_trans (cN_le _ _) hn
      show ∃ s' : Int32 × Int32, _ ∧ f_X5_emptiestNode_8 (f + 1) s.1 s.2 (Int32.ofNat i) σ = f_X5_emptiestNode_8 f s'.1 s'.2 (Int32.ofNat (i + 1)) σ
      rw [f_X5_emptiestNode_8, if_neg (by rw [show (4 : Int32) = Int32.ofNat 4 from rfl, n_le (by omega) (by omega)]; omega), m1, Option.bind_some]
      dsimp only
      rw [m2, Option.bind_some]
      dsimp only
      rw [aI_n (by show i < 4; omega) (by omega), Option.bind_some]
      rcases h.O i hi with ⟨g, -⟩ | ⟨g, -⟩
      · by_cases g2 : (cnt n σ i : Int) < (emF n σ i).2.toInt
        · have eE : emF n σ (i + 1) = (Int32.ofNat i, Int32.ofNat (cnt n σ i)) := by rw [emF, if_pos ⟨g, g2⟩]
          rw [eE, g, if_neg (show ¬ (1 : Int32) = 0 by decide), if_neg (by rw [p1, i_le, i_of (by omega)]; omega), f_X5_emptiestNode_50, n_inc]
          exact ⟨(Int32.ofNat i, Int32.ofNat (cnt n σ i)), ⟨rfl, Or.inl rfl⟩, rfl⟩
        · have eE : emF n σ (i + 1) = emF n σ i := by rw [emF, if_neg (fun q => g2 q.2)]
          rw [eE, g, if_neg (show ¬ (1 : Int32) = 0 by decide), if_pos (by rw [p1, i_le, i_of (by omega)]; omega), f_X5_emptiestNode_50, n_inc]
          refine ⟨s, ⟨p1, ?_⟩, rfl⟩
          rcases p2 with p2 | p2
          · exact Or.inl p2
          · rw [p2.1] at g2
            have : (17 : Int32).toInt = 17 := rfl
            omega
      · have eE : emF n σ (i + 1) = emF n σ i := by rw [emF, if_neg (fun q => by rw [g] at q; cases q.1)]
        rw [eE, g, if_pos rfl, f_X5_emptiestNode_50, n_inc]
        refine ⟨s, ⟨p1, ?_⟩, rfl⟩
        rcases p2 with p2 | p2
        · exact Or.inl p2
        · refine Or.inr ⟨p2.1, fun j hj => ?_⟩
          by_cases e : j = i
          · subst e; rw [g]; decide
          · exact p2.2 j (by omega))
    (fun f s hp => by
      show f_X5_emptiestNode_8 (f + 1) s.1 s.2 (Int32.ofNat 4) σ = _
      rw [f_X5_emptiestNode_8, if_pos (by decide), f_X5_emptiestNode_56]) (v, 17) ⟨rfl, Or.inr ⟨rfl, fun j hj => absurd hj (Nat.not_lt_zero j)⟩⟩
  rw [f_X5_emptiestNode]
  refine h3.trans ?_
  rcases h2 with h2 | h2
  · rw [h2]
  · obtain ⟨j, hj, q⟩ := hx
    exact absurd q (h2.2 j hj)
theorem e_emp' (h : Rl n m e0 σ τ) : f_X6_emptiest τ = some ((emF n σ 4).1, τ) := by
  have hn := h.n16
  have e1 := h.1.2.2.2.2.1
  obtain ⟨s', h1, h3⟩ := loopE (F := fun f i (s : Int32 × Int32) => f_X6_emptiest_8 f s.1 s.2 i τ) (X := fun s => some (s.1, τ)) (N := 4) (by omega) (fun i s => s = emF n σ i)
    (fun f i s hi hp => by
      subst hp
      have hc : cnt n σ i ≤ 16 := Nat.le_trans (cN_le _ _) hn
      refine ⟨_, rfl, ?_⟩
      show f_X6_emptiest_8 (f + 1) (emF n σ i).1 (emF n σ i).2 (Int32.ofNat i) τ = f_X6_emptiest_8 f (emF n σ (i + 1)).1 (emF n σ (i + 1)).2 (Int32.ofNat (i + 1)) τ
      rw [f_X6_emptiest_8, if_neg (by rw [show (4 : Int32) = Int32.ofNat 4 from rfl, n_le (by omega) (by omega)]; omega)]
      obtain ⟨x, x1, x2⟩ := loopE (F := fun f2 j (x : Int32) => f_X6_emptiest_19 (f_X6_emptiest_8 f) f2 (emF n σ i).1 (emF n σ i).2 (Int32.ofNat i) x j τ) (X := fun x => f_X6_emptiest_55 (f_X6_emptiest_8 f) (emF n σ i).1 (emF n σ i).2 (Int32.ofNat i) x τ) (N := n) (by omega) (fun j x => x = Int32.ofNat (cN (fun t => decide (σ.1 4 t 4 = Int32.ofNat i)) j))
        (fun f2 j x hj hp => by
          subst hp
          refine ⟨_, rfl, ?_⟩
          show f_X6_emptiest_19 (f_X6_emptiest_8 f) (f2 + 1) (emF n σ i).1 (emF n σ i).2 (Int32.ofNat i) _ (Int32.ofNat j) τ = _
          have t23 : τ.1 23 0 j = σ.1 4 j 4 := (h.T hj).1.2.2.1
          rw [f_X6_emptiest_19, e1, if_neg (by rw [n_le (by omega) (by omega)]; omega), aI_n (φ := 23) (by show j < 16; omega) (by omega), Option.bind_some, t23, cN]
          by_cases g : σ.1 4 j 4 = Int32.ofNat i
          · rw [if_pos g, f_X6_emptiest_46, n_inc, n_inc]; simp [g]
          · rw [if_neg g, f_X6_emptiest_46, n_inc]; simp [g])
        (fun f2 x hp => by
          show f_X6_emptiest_19 (f_X6_emptiest_8 f) (f2 + 1) (emF n σ i).1 (emF n σ i).2 (Int32.ofNat i) x (Int32.ofNat n) τ = _
          rw [f_X6_emptiest_19, e1, if_pos (by rw [n_le (by omega) (by omega)]; omega)]) 0 rfl
      refine x2.trans ?_
      rw [x1]
      show f_X6_emptiest_55 (f_X6_emptiest_8 f) (emF n σ i).1 (emF n σ i).2 (Int32.ofNat i) (Int32.ofNat (cnt n σ i)) τ = _
      rw [f_X6_emptiest_55, aI_n (by show i < 4; omega) (by omega), Option.bind_some]
      rcases h.O i hi with ⟨g, g'⟩ | ⟨g, g'⟩
      · by_cases g2 : (cnt n σ i : Int) < (emF n σ i).2.toInt
        · have eE : emF n σ (i + 1) = (Int32.ofNat i, Int32.ofNat (cnt n σ i)) := by rw [emF, if_pos ⟨g, g2⟩]
          rw [eE, g', if_pos rfl, if_neg (by rw [i_le, i_of (by omega)]; omega), f_X6_emptiest_75, n_inc]
        · have eE : emF n σ (i + 1) = emF n σ i := by rw [emF, if_neg (fun q => g2 q.2)]
          rw [eE, g', if_pos rfl, if_pos (by rw [i_le, i_of (by omega)]; omega), f_X6_emptiest_75, n_inc]
      · have eE : emF n σ (i + 1) = emF n σ i := by rw [emF, if_neg (fun q => by rw [g] at q; cases q.1)]
        rw [eE, g', if_neg (show ¬ (1 : Int32) = 0 by decide), f_X6_emptiest_75, n_inc])
    (fun f s hp => by
      show f_X6_emptiest_8 (f + 1) s.1 s.2 (Int32.ofNat 4) τ = _
      rw [f_X6_emptiest_8, if_pos (by decide), f_X6_emptiest_81]) (-9, 17) rfl
  rw [f_X6_emptiest]
  refine h3.trans ?_
  rw [h1]
end GONE
