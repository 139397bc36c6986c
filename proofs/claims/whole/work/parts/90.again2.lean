theorem relT_rw {till : Int32} {r q : Nat → Int32} (h : relT r q) : relT (rwT till r) (rwT' till q) := by
  obtain ⟨a1, a2, a3, a4, a5, a6, a7, a8, a9, a10, a11, a12, a13, a14⟩ := h
  have key : (if r 9 < till then till else r 9) = (if r 9 ≤ till then till else r 9) := by
    by_cases g : r 9 < till
    · have : r 9 ≤ till := by rw [i_le]; rw [i_lt] at g; omega
      rw [if_pos g, if_pos this]
    · rw [if_neg g]
      by_cases g2 : r 9 ≤ till
      · rw [if_pos g2, i_eq]; rw [i_lt] at g; rw [i_le] at g2; omega
      · rw [if_neg g2]
  simp only [relT, rwT, rwT', ur, key]
  simp [a1, a2, a3, a7, a8, a9, a10, a11, a12, a13, a14]
theorem relC_tk {r q : Nat → Int32} (h : relC r q) : relC (rwTk r) (ur q 40 (q 49)) := by
  obtain ⟨a1, a2, a3, a4, a5, a6, a7, a8, a9, a10, a11⟩ := h
  refine ⟨?_, ?_, ?_, ?_, ?_, ?_, ?_, ?_, ?_, ?_, ?_⟩
  all_goals simp [rwTk, ur, a1, a2, a3, a4, a5, a7, a8, a9, a10]
  simpa [relL, rwTk, ur] using a11
theorem stl_eq {r q : Nat → Int32} (h : relC r q) : stl' q = stl r := by
  unfold stl stl'
  rw [h.2.2.2.2.2.2.2.1, h.2.2.2.2.2.2.2.2.2.1]
  by_cases g : r 9 < r 11
  · rw [if_pos g, if_pos (by rw [i_le]; rw [i_lt] at g; omega)]
  · rw [if_neg g]
    by_cases g2 : r 9 ≤ r 11
    · rw [if_pos g2, i_eq]; rw [i_lt] at g; rw [i_le] at g2; omega
    · rw [if_neg g2]
theorem min_eq (x y : Int32) : (if x ≤ y then x else y) = (if x < y then x else y) := by
  by_cases g : x < y
  · rw [if_pos g, if_pos (by rw [i_le]; rw [i_lt] at g; omega)]
  · rw [if_neg g]
    by_cases g2 : x ≤ y
    · rw [if_pos g2, i_eq]; rw [i_lt] at g; rw [i_le] at g2; omega
    · rw [if_neg g2]
theorem relC_g {u : Bool} {r q : Nat → Int32} (h : relC r q) : relC (rwG u r) (rwG' u q) := by
  have hs := stl_eq h
  obtain ⟨a1, a2, a3, a4, a5, a6, a7, a8, a9, a10, a11⟩ := h
  have cond : (q 36 = 0 ∨ u = true ∨ ¬ q 42 = 0) ↔ (r 3 = 0 ∨ u = true ∨ 0 < (r 8).toInt) := by
    rw [a3]
    rcases a11 with ⟨b1, b2⟩ | ⟨b1, b2, b3⟩
    · rw [b1, b2]; simp
    · rw [b1]; simp [b3]
  have st2 : stl' (rwG2' (ur q 39 (q 48))) = stl' q := by simp [stl', rwG2', ur]
  have st3 : stl' (ur q 39 (q 48)) = stl' q := by simp [stl', ur]
  by_cases c : r 3 = 0 ∨ u = true ∨ 0 < (r 8).toInt
  · rw [rwG, if_pos c, rwG', if_pos (cond.mpr c)]
    cases u
    · simp [relC, relL, rwG1, rwG1', rwG2, rwG2', ur, a1, a2, a3, a6, a7, a8, a9, a10]
    · simp only [rwG1, rwG1', if_pos rfl, st2, hs, min_eq]
      simp [relC, relL, rwG2, rwG2', ur, a1, a2, a3, a6, a7, a8, a9, a10]
  · rw [rwG, if_neg c, rwG', if_neg (fun x => c (cond.mp x))]
    cases u
    · refine ⟨?_, ?_, ?_, ?_, ?_, ?_, ?_, ?_, ?_, ?_, ?_⟩
      all_goals simp [rwG1, rwG1', ur, a1, a2, a3, a4, a6, a7, a8, a9, a10]
      simpa [relL, ur] using a11
    · exact absurd (Or.inr (Or.inl rfl)) c
section AG2
variable {n m : Nat} {σ τ s : sm_M} {R U : Nat → Bool}
theorem okT_rw {e : Int32} {till : Int32} {r : Nat → Int32} (h : okT e r) (h9 : (r 8).toInt ≤ 9) (ht : 0 ≤ till.toInt ∧ till.toInt ≤ 1000016) : okT 0 (rwT till r) := by
  obtain ⟨a1, a2, a3, a4, a5, a6, a7, a8, a9⟩ := h
  have u9 : (0 ≤ (if r 9 < till then till else r 9).toInt) ∧ (if r 9 < till then till else r 9).toInt ≤ 1000016 := by
    by_cases g : r 9 < till
    · rw [if_pos g]; exact ht
    · rw [if_neg g]; exact a7
  refine ⟨by simpa [rwT, ur] using a1, fun g => ?_, by simpa [rwT, ur] using a3, by simpa [rwT, ur] using a4, by simpa [rwT, ur] using a5, by simp [rwT, ur]; omega, by simpa [rwT, ur] using u9, by simpa [rwT, ur] using a8, by simp [rwT, ur]; omega⟩
  have := a2 (by simpa [rwT, ur] using g)
  simp [rwT, ur]; omega
theorem okT_0 {e : Int32} {r : Nat → Int32} (h : okT e r) (h9 : (r 8).toInt ≤ 9) : okT 0 r := by
  obtain ⟨a1, a2, a3, a4, a5, a6, a7, a8, a9⟩ := h
  exact ⟨a1, a2, a3, a4, a5, ⟨a6.1, a6.2.1, fun _ => h9⟩, a7, a8, a9⟩
/-- what a beginning again leaves of a channel is in order; l: its rows are not lost, or the taker has had them, or the giver is in R -/
theorem okC_rw {e : Int32} {r : Nat → Int32} (h : okC n e r) (hl : 0 < (r 8).toInt → (r 9).toInt + (r 8).toInt ≤ (r 6).toInt ∨ R (fr r) = true) (hcl : R (tr r) = true → 0 < (r 8).toInt → R (fr r) = true) : okC n 0 (rwC R U r) ∧ (rwC R U r 4).toInt ≤ (r 4).toInt ∧ rwC R U r 1 = r 1 ∧ rwC R U r 2 = r 2 := by
  obtain ⟨a1, a2, a3, a4, a5, a6, a7, a8, a9⟩ := h
  have sb : ∀ x : Int32, 0 ≤ x.toInt → x.toInt ≤ 64 → 0 ≤ (if x < r 7 then x else r 7).toInt ∧ (if x < r 7 then x else r 7).toInt ≤ 64 := fun x h1 h2 => by
    by_cases g : x < r 7
    · rw [if_pos g]; exact ⟨h1, h2⟩
    · rw [if_neg g]; exact a5
  have st : 0 ≤ (stl r).toInt ∧ (stl r).toInt ≤ 64 := by
    unfold stl
    by_cases g : r 9 < r 11
    · rw [if_pos g]; omega
    · rw [if_neg g]; omega
  have sb2 := sb (stl r) st.1 st.2
  by_cases gt : R (tr r) = true
  · by_cases gf : R (fr r) = true
    · by_cases c : r 3 = 0 ∨ U (fr r) = true ∨ 0 < (r 8).toInt
      · have hcond : rwTk r 3 = 0 ∨ U (fr r) = true ∨ 0 < (rwTk r 8).toInt := by simpa [rwTk, ur] using c
        have e1 : rwC R U r = rwG2 (rwG1 (U (fr r)) (rwTk r)) := by unfold rwC rwC0; rw [if_pos gf, if_pos gt, rwG, if_pos hcond]
        rw [e1]
        by_cases u : U (fr r) = true
        · have s2 : stl (rwTk r) = stl r := by simp [stl, rwTk, ur]
          simp only [rwG1, if_pos u, s2]
          simp [okC, rwG2, rwTk, ur, a2]
          omega
        · simp only [rwG1, if_neg u]
          simp [okC, rwG2, rwTk, ur, a2]
          omega
      · have hcond : ¬ (rwTk r 3 = 0 ∨ U (fr r) = true ∨ 0 < (rwTk r 8).toInt) := by simpa [rwTk, ur] using c
        have nu : ¬ U (fr r) = true := fun q => c (Or.inr (Or.inl q))
        have nl : ¬ 0 < (r 8).toInt := fun q => c (Or.inr (Or.inr q))
        have e1 : rwC R U r = ur (rwTk r) 5 (rwTk r 10) := by unfold rwC rwC0; rw [if_pos gf, if_pos gt, rwG, if_neg hcond, rwG1, if_neg nu]
        rw [e1]
        simp [okC, rwTk, ur, a2]
        omega
    · have nl : ¬ 0 < (r 8).toInt := fun q => gf (hcl gt q)
      have e1 : rwC R U r = rwTk r := by unfold rwC rwC0; rw [if_neg gf, if_pos gt]
      rw [e1]
      simp [okC, rwTk, ur, a2]
      omega
  · by_cases gf : R (fr r) = true
    · by_cases c : r 3 = 0 ∨ U (fr r) = true ∨ 0 < (r 8).toInt
      · have e1 : rwC R U r = rwG2 (rwG1 (U (fr r)) r) := by unfold rwC rwC0; rw [if_pos gf, if_neg gt, rwG, if_pos c]
        rw [e1]
        by_cases u : U (fr r) = true
        · simp only [rwG1, if_pos u]
          simp [okC, rwG2, ur, a2]
          omega
        · simp only [rwG1, if_neg u]
          simp [okC, rwG2, ur, a2]
          omega
      · have nu : ¬ U (fr r) = true := fun q => c (Or.inr (Or.inl q))
        have nl : ¬ 0 < (r 8).toInt := fun q => c (Or.inr (Or.inr q))
        have e1 : rwC R U r = ur r 5 (r 10) := by unfold rwC rwC0; rw [if_pos gf, if_neg gt, rwG, if_neg c, rwG1, if_neg nu]
        rw [e1]
        simp [okC, ur, a2]
        omega
    · have e1 : rwC R U r = r := by unfold rwC rwC0; rw [if_neg gf, if_neg gt]
      rw [e1]
      exact ⟨⟨a1, a2, a3, a4, a5, a6, a7, a8, fun _ q => (hl q).resolve_right gf⟩, Int.le_refl _, rfl, rfl⟩
end AG2
theorem wait_eq {mf : Int32} (h1 : 1 ≤ mf.toInt) (h2 : mf.toInt ≤ 10) (σ : sm_M) : ∃ w : Int32, f_X5_waitAfter mf σ = some (w, σ) ∧ (0 ≤ w.toInt ∧ w.toInt ≤ 16) ∧ ∀ s, f_X6_beginAgain mf s = f_X6_beginAgain_15 w s := by
  obtain ⟨k, rfl, hk⟩ := i_get (x := mf) (by omega)
  have : k = 1 ∨ k = 2 ∨ k = 3 ∨ k = 4 ∨ k = 5 ∨ k = 6 ∨ k = 7 ∨ k = 8 ∨ k = 9 ∨ k = 10 := by omega
  rcases this with rfl | rfl | rfl | rfl | rfl | rfl | rfl | rfl | rfl | rfl
  · exact ⟨1, rfl, by decide, fun s => rfl⟩
  · exact ⟨2, rfl, by decide, fun s => rfl⟩
  · exact ⟨4, rfl, by decide, fun s => rfl⟩
  · exact ⟨8, rfl, by decide, fun s => rfl⟩
  · exact ⟨16, rfl, by decide, fun s => rfl⟩
  · exact ⟨16, rfl, by decide, fun s => rfl⟩
  · exact ⟨16, rfl, by decide, fun s => rfl⟩
  · exact ⟨16, rfl, by decide, fun s => rfl⟩
  · exact ⟨16, rfl, by decide, fun s => rfl⟩
  · exact ⟨16, rfl, by decide, fun s => rfl⟩
