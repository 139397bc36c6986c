section AGAIN
variable {n m : Nat} {σ τ : sm_M} {R U : Nat → Bool}
theorem e_baT {s0 : sm_M} {wait : Int32} (hn : n ≤ 16) (e1 : s0.1 20 0 0 = Int32.ofNat n) (r58 : ∀ t, t < n → s0.1 58 0 t = if R t = true then 1 else 0) : f_X6_beginAgain_21 1000 wait 0 0 s0 = f_X6_beginAgain_130 (Int32.ofNat (cN R n)) (mapK s0 isT n (fun j => if R j = true then rwT' (s0.1 20 0 35 + wait) (colK s0 j) else colK s0 j)) := by
  obtain ⟨⟨v, s⟩, ⟨p1, p2⟩, e⟩ := loopE (F := fun f i (x : Int32 × sm_M) => f_X6_beginAgain_21 f wait x.1 i x.2) (X := fun x => f_X6_beginAgain_130 x.1 x.2) (N := n) (by omega) (fun i x => x.1 = Int32.ofNat (cN R i) ∧ x.2 = mapK s0 isT i (fun j => if R j = true then rwT' (s0.1 20 0 35 + wait) (colK s0 j) else colK s0 j))
    (fun k i x hi hp => by
      obtain ⟨v, s⟩ := x
      obtain ⟨p1, p2⟩ := hp
      dsimp only at p1 p2
      subst p1
      refine ⟨(Int32.ofNat (cN R (i + 1)), mapK s0 isT (i + 1) (fun j => if R j = true then rwT' (s0.1 20 0 35 + wait) (colK s0 j) else colK s0 j)), ⟨rfl, rfl⟩, ?_⟩
      show f_X6_beginAgain_21 (k + 1) wait (Int32.ofNat (cN R i)) (Int32.ofNat i) s = f_X6_beginAgain_21 k wait (Int32.ofNat (cN R (i + 1))) (Int32.ofNat (i + 1)) (mapK s0 isT (i + 1) _)
      have c20 : s.1 20 = s0.1 20 := by rw [p2, mapK_ne rfl]
      have col : colK s i = colK s0 i := by rw [p2, colK_map]
      have at58 : s.1 58 0 i = if R i = true then 1 else 0 := by
        rw [← r58 i hi]; exact congrFun col 58
      have a1 : ∀ (φ : Nat) (ρ : sm_M), fL φ = 16 → aI φ ρ 0 (Int32.ofNat i) = some (ρ.1 φ 0 i) := fun φ ρ hφ => aI_n (by rw [hφ]; omega) (by omega)
      have u1 : ∀ (φ : Nat) (ρ : sm_M) (x : Int32), fL φ = 16 → uI φ ρ 0 (Int32.ofNat i) x = some (wI ρ φ 0 i x) := fun φ ρ x hφ => uI_n (by rw [hφ]; omega) (by omega)
      rw [← mapK_s, ← p2, f_X6_beginAgain_21, c20, e1, if_neg (by rw [n_le (by omega) (by omega)]; omega), a1 58 _ rfl, Option.bind_some, at58]
      by_cases g : R i = true
      · rw [if_pos g, if_neg (by decide), if_pos g, a1 44 _ rfl, Option.bind_some, u1 24 _ _ rfl, Option.bind_some, wI_K (P := isT) (φ := 24) rfl, a1 45 _ rfl, Option.bind_some, K_at rfl, u1 25 _ _ rfl, Option.bind_some, K_w rfl, a1 46 _ rfl, Option.bind_some, K_at rfl, u1 26 _ _ rfl, Option.bind_some, K_w rfl, a1 31 _ rfl, Option.bind_some, K_at rfl, K_ne rfl, c20]
        have hcnt : Int32.ofNat (cN R i) + 1 = Int32.ofNat (cN R (i + 1)) := by rw [n_inc, cN, if_pos g]
        have q31 : ur (ur (ur (colK s i) 24 (s.1 44 0 i)) 25 (ur (colK s i) 24 (s.1 44 0 i) 45)) 26 (ur (ur (colK s i) 24 (s.1 44 0 i)) 25 (ur (colK s i) 24 (s.1 44 0 i) 45) 46) 31 = colK s0 i 31 := by rw [← col]; simp [ur]
        rw [q31]
        have fin : ∀ x : Int32, setK s isT i (ur (ur (ur (ur (colK s i) 24 (s.1 44 0 i)) 25 (ur (colK s i) 24 (s.1 44 0 i) 45)) 26 (ur (ur (colK s i) 24 (s.1 44 0 i)) 25 (ur (colK s i) 24 (s.1 44 0 i) 45) 46)) 31 x) = setK s isT i (ur (ur (ur (ur (colK s0 i) 24 (colK s0 i 44)) 25 (colK s0 i 45)) 26 (colK s0 i 46)) 31 x) := fun x => by
          rw [← col]; simp [ur, colK]
        by_cases g2 : colK s0 i 31 ≤ s0.1 20 0 35 + wait
        · rw [if_pos g2, f_X6_beginAgain_120, u1 31 _ _ rfl, Option.bind_some, K_w rfl, f_X6_beginAgain_124, hcnt, n_inc, fin]
          simp only [rwT', if_pos g2]
        · rw [if_neg g2, Option.bind_some, f_X6_beginAgain_120, u1 31 _ _ rfl, Option.bind_some, K_w rfl, f_X6_beginAgain_124, hcnt, n_inc, fin]
          simp only [rwT', if_neg g2]
      · have hcnt : cN R (i + 1) = cN R i := by rw [cN, if_neg g]
        rw [if_neg g, if_pos rfl, if_neg g, f_X6_beginAgain_124, n_inc, hcnt, ← col, K_id])
    (fun k x hp => by
      obtain ⟨v, s⟩ := x
      obtain ⟨p1, p2⟩ := hp
      dsimp only at p1 p2
      have c20 : s.1 20 = s0.1 20 := by rw [p2, mapK_ne rfl]
      show f_X6_beginAgain_21 (k + 1) wait v (Int32.ofNat n) s = _
      rw [f_X6_beginAgain_21, c20, e1, if_pos (by rw [n_le (by omega) (by omega)]; omega)]) (0, s0) ⟨rfl, mapK_0.symm⟩
  dsimp only at p1 p2
  refine e.trans ?_
  show f_X6_beginAgain_130 v s = _
  rw [p1, p2]
theorem e_baC {s1 : sm_M} {v3 : Int32} {e0 : Int32} (h : Rl n m e0 σ τ) (e3 : s1.1 20 0 14 = Int32.ofNat m) (q34 : ∀ c, c < m → s1.1 34 0 c = σ.1 5 c 1) (q35 : ∀ c, c < m → s1.1 35 0 c = σ.1 5 c 2) (r58 : ∀ t, t < n → s1.1 58 0 t = if R t = true then 1 else 0) (r59 : ∀ t, t < n → s1.1 59 0 t = if U t = true then 1 else 0) : f_X6_beginAgain_130 v3 s1 = f_X6_beginAgain_345 v3 (mapK s1 isC m (fun j => rwC' R U (fr (σ.1 5 j)) (tr (σ.1 5 j)) (colK s1 j))) := by
  have hn := h.n16
  have hm := h.m40
  obtain ⟨s, p2, e⟩ := loopE (F := fun f i (x : sm_M) => f_X6_beginAgain_133 f v3 i x) (X := fun x => f_X6_beginAgain_345 v3 x) (N := m) (by omega) (fun i x => x = mapK s1 isC i (fun j => rwC' R U (fr (σ.1 5 j)) (tr (σ.1 5 j)) (colK s1 j)))
    (fun k i s hi p2 => by
      refine ⟨_, rfl, ?_⟩
      obtain ⟨f0, g0, a1, a2, a3, a4⟩ := h.ft hi
      have hfr : fr (σ.1 5 i) = f0 := by unfold fr; rw [a1, i_of (by omega)]; omega
      have htr : tr (σ.1 5 i) = g0 := by unfold tr; rw [a2, i_of (by omega)]; omega
      show f_X6_beginAgain_133 (k + 1) v3 (Int32.ofNat i) s = _
      have cne : ∀ φ, isC φ = false → s.1 φ = s1.1 φ := fun φ hφ => by rw [p2, mapK_ne hφ]
      have col : colK s i = colK s1 i := by rw [p2, colK_map]
      have c34 : colK s1 i 34 = Int32.ofNat f0 := (q34 i hi).trans a1
      have c35 : colK s1 i 35 = Int32.ofNat g0 := (q35 i hi).trans a2
      have b1 : ∀ (φ : Nat) (ρ : sm_M), fL φ = 40 → aI φ ρ 0 (Int32.ofNat i) = some (ρ.1 φ 0 i) := fun φ ρ hφ => aI_n (by rw [hφ]; omega) (by omega)
      have u1 : ∀ (φ : Nat) (ρ : sm_M) (x : Int32), fL φ = 40 → uI φ ρ 0 (Int32.ofNat i) x = some (wI ρ φ 0 i x) := fun φ ρ x hφ => uI_n (by rw [hφ]; omega) (by omega)
      have u2 : ∀ (φ : Nat) (ρ : sm_M) (x : Int32), fL φ = 40 → (x = 0 ∨ x = 1) → uZ φ ρ 0 (Int32.ofNat i) x = some (wI ρ φ 0 i x) := fun φ ρ x hφ hx => uZ_n (by rw [hφ]; omega) (by omega) hx
      have f58 : ∀ r : Nat → Int32, aI 58 (setK s isC i r) 0 (Int32.ofNat f0) = some (if R f0 = true then 1 else 0) := fun r => by rw [aI_n (by show f0 < 16; omega) (by omega), K_ne rfl, cne 58 rfl, r58 f0 (by omega)]
      have f59 : ∀ r : Nat → Int32, aI 59 (setK s isC i r) 0 (Int32.ofNat f0) = some (if U f0 = true then 1 else 0) := fun r => by rw [aI_n (by show f0 < 16; omega) (by omega), K_ne rfl, cne 59 rfl, r59 f0 (by omega)]
      have A257 : ∀ r : Nat → Int32, r 34 = Int32.ofNat f0 → f_X6_beginAgain_257 (f_X6_beginAgain_133 k) v3 (Int32.ofNat i) (setK s isC i r) = f_X6_beginAgain_133 k v3 (Int32.ofNat (i + 1)) (setK s isC i (rwG1' (U f0) r)) := fun r hr => by
        rw [f_X6_beginAgain_257, b1 34 _ rfl, Option.bind_some, K_at rfl, hr, f59, Option.bind_some]
        by_cases g : U f0 = true
        · rw [if_pos g, if_neg (by decide), b1 47 _ rfl, Option.bind_some, b1 49 _ rfl, Option.bind_some, K_at rfl, K_at rfl, rwG1', if_pos g]
          have A306 : ∀ x : Int32, f_X6_beginAgain_306 (f_X6_beginAgain_133 k) v3 (Int32.ofNat i) x (setK s isC i r) = f_X6_beginAgain_133 k v3 (Int32.ofNat (i + 1)) (setK s isC i (ur r 41 (if x ≤ r 41 then x else r 41))) := fun x => by
            rw [f_X6_beginAgain_306, b1 41 _ rfl, Option.bind_some, K_at rfl]
            by_cases g3 : x ≤ r 41
            · rw [if_pos g3, f_X6_beginAgain_338, u1 41 _ _ rfl, Option.bind_some, K_w rfl, f_X6_beginAgain_339, n_inc, if_pos g3]
            · rw [if_neg g3, Option.bind_some, f_X6_beginAgain_338, u1 41 _ _ rfl, Option.bind_some, K_w rfl, f_X6_beginAgain_339, n_inc, if_neg g3]
          by_cases g2 : r 47 ≤ r 49
          · rw [if_pos g2, Option.bind_some, A306, stl', if_pos g2]
          · rw [if_neg g2, Option.bind_some, A306, stl', if_neg g2]
        · rw [if_neg g, if_pos rfl, f_X6_beginAgain_339, n_inc, rwG1', if_neg g]
      have A235 : ∀ r : Nat → Int32, r 34 = Int32.ofNat f0 → f_X6_beginAgain_235 (f_X6_beginAgain_133 k) v3 (Int32.ofNat i) (setK s isC i r) = f_X6_beginAgain_133 k v3 (Int32.ofNat (i + 1)) (setK s isC i (rwG1' (U f0) (rwG2' r))) := fun r hr => by
        rw [f_X6_beginAgain_235, b1 47 _ rfl, Option.bind_some, K_at rfl, u1 38 _ _ rfl, Option.bind_some, K_w rfl, u2 42 _ _ rfl z0, Option.bind_some, K_w rfl]
        exact A257 (ur (ur r 38 (r 47)) 42 0) (by simp [ur, hr])
      have A171 : ∀ r : Nat → Int32, r 34 = Int32.ofNat f0 → f_X6_beginAgain_171 (f_X6_beginAgain_133 k) v3 (Int32.ofNat i) (setK s isC i r) = f_X6_beginAgain_133 k v3 (Int32.ofNat (i + 1)) (setK s isC i (if R f0 = true then rwG' (U f0) r else r)) := fun r hr => by
        rw [f_X6_beginAgain_171, b1 34 _ rfl, Option.bind_some, K_at rfl, hr, f58, Option.bind_some]
        by_cases g : R f0 = true
        · rw [if_pos g, if_neg (by decide), if_pos g, b1 48 _ rfl, Option.bind_some, K_at rfl, u1 39 _ _ rfl, Option.bind_some, K_w rfl, b1 36 _ rfl, Option.bind_some, K_at rfl]
          have r34 : ur r 39 (r 48) 34 = Int32.ofNat f0 := by simp [ur, hr]
          have r36 : ur r 39 (r 48) 36 = r 36 := by simp [ur]
          have r42 : ur r 39 (r 48) 42 = r 42 := by simp [ur]
          rw [r36]
          by_cases g2 : r 36 = 0
          · rw [if_pos g2, A235 _ r34, rwG', if_pos (Or.inl g2)]
          · rw [if_neg g2, b1 34 _ rfl, Option.bind_some, K_at rfl, r34, f59, Option.bind_some]
            by_cases g3 : U f0 = true
            · rw [if_pos g3, if_neg (by decide), A235 _ r34, rwG', if_pos (Or.inr (Or.inl g3))]
            · rw [if_neg g3, if_pos rfl, b1 42 _ rfl, Option.bind_some, K_at rfl, r42]
              by_cases g4 : r 42 = 0
              · rw [if_pos g4, A257 _ r34, rwG', if_neg]
                rintro (q | q | q)
                · exact g2 q
                · exact g3 q
                · exact q g4
              · rw [if_neg g4, A235 _ r34, rwG', if_pos (Or.inr (Or.inr g4))]
        · rw [if_neg g, if_pos rfl, f_X6_beginAgain_339, n_inc, if_neg g]
      have at35 : s.1 35 0 i = Int32.ofNat g0 := (congrFun col 35).trans c35
      have at49 : s.1 49 0 i = colK s1 i 49 := congrFun col 49
      rw [f_X6_beginAgain_133, cne 20 rfl, e3, if_neg (by rw [n_le (by omega) (by omega)]; omega), b1 35 _ rfl, Option.bind_some, at35, aI_n (φ := 58) (by show g0 < 16; omega) (by omega), Option.bind_some, cne 58 rfl, r58 g0 a4, ← mapK_s, ← p2]
      unfold rwC' rwC0'
      rw [hfr, htr]
      by_cases g : R g0 = true
      · rw [if_pos g, if_neg (by decide), b1 49 _ rfl, Option.bind_some, u1 40 _ _ rfl, Option.bind_some, wI_K (P := isC) (φ := 40) rfl, A171 _ (by rw [col]; simp [ur, c34]), if_pos g, at49, col]
      · rw [if_neg g, if_pos rfl, if_neg g]
        have idk : s = setK s isC i (colK s1 i) := by rw [← col, K_id]
        conv => lhs; rw [idk]
        rw [A171 _ c34])
    (fun k s p2 => by
      show f_X6_beginAgain_133 (k + 1) v3 (Int32.ofNat m) s = _
      rw [f_X6_beginAgain_133, p2, mapK_ne rfl, e3, if_pos (by rw [n_le (by omega) (by omega)]; omega)]) s1 mapK_0.symm
  rw [f_X6_beginAgain_130]
  refine e.trans ?_
  rw [p2]
end AGAIN
