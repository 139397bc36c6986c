section ONE
variable {n m : Nat} {σ τ σ' τ' : sm_M} {e0 e1 : Int32}
/-- one channel's row changes -/
theorem Rl.chan (h : Rl n m e0 σ τ) {c : Nat} (hc : c < m) (a : ∀ φ, φ ≠ 5 → σ'.1 φ = σ.1 φ) (a2 : σ'.2 = σ.2) (a3 : ∀ j, j ≠ c → σ'.1 5 j = σ.1 5 j) (b : ∀ φ, isC φ = false → τ'.1 φ = τ.1 φ) (b3 : ∀ j, j ≠ c → ∀ φ, isC φ = true → τ'.1 φ 0 j = τ.1 φ 0 j) (hr : relC (σ'.1 5 c) (colK τ' c)) (ho : okC n e1 (σ'.1 5 c)) (h4 : (σ'.1 5 c 4).toInt ≤ (σ.1 5 c 4).toInt) (h1 : σ'.1 5 c 1 = σ.1 5 c 1) (h2 : σ'.1 5 c 2 = σ.1 5 c 2) (he : e1 = e0 ∨ e1 = 1) : Rl n m e1 σ' τ' := by
  have s0 := a 0 (by decide)
  have s3 := a 3 (by decide)
  have s4 := a 4 (by decide)
  have t20 := b 20 rfl
  refine h.upd (fun φ _ _ _ q _ _ => a φ q) ⟨b 27 rfl, b 33 rfl, b 37 rfl, b 50 rfl, b 51 rfl, b 52 rfl, b 53 rfl⟩ ⟨by rw [t20], by rw [t20]⟩ ?_ ?_ (fun t ht => ?_) (fun j hj => ?_) (fun t ht => by rw [s4]; exact ⟨Int.le_refl _, Int.le_refl _, rfl, rfl⟩) (fun j hj => ?_)
  · unfold bG; rw [s0, s3, a2, t20]; exact h.2.1
  · unfold bB; rw [s0, s3, t20]; exact h.2.2.1
  · rw [s4]
    refine ⟨relT_congr (fun φ hφ => ?_) (h.T ht).1, (h.T ht).2.end he⟩
    unfold colK
    rw [b φ (dis1 φ hφ)]
  · by_cases e : j = c
    · subst e; exact ⟨hr, ho⟩
    · rw [a3 j e]
      exact ⟨relC_congr (fun φ hφ => b3 j e φ hφ) (h.C hj).1, (h.C hj).2.end he⟩
  · by_cases e : j = c
    · subst e; exact ⟨h4, h1, h2⟩
    · rw [a3 j e]; exact ⟨Int.le_refl _, rfl, rfl⟩
/-- one task's row changes -/
theorem Rl.task (h : Rl n m e0 σ τ) {c : Nat} (hc : c < n) (a : ∀ φ, φ ≠ 4 → σ'.1 φ = σ.1 φ) (a2 : σ'.2 = σ.2) (a3 : ∀ j, j ≠ c → σ'.1 4 j = σ.1 4 j) (b : ∀ φ, isT φ = false → τ'.1 φ = τ.1 φ) (b3 : ∀ j, j ≠ c → ∀ φ, isT φ = true → τ'.1 φ 0 j = τ.1 φ 0 j) (hr : relT (σ'.1 4 c) (colK τ' c)) (ho : okT e1 (σ'.1 4 c)) (h4 : (σ'.1 4 c 13).toInt ≤ (σ.1 4 c 13).toInt) (h5 : (σ'.1 4 c 10).toInt ≤ (σ.1 4 c 10).toInt) (h1 : σ'.1 4 c 2 = σ.1 4 c 2) (h2 : σ'.1 4 c 5 = σ.1 4 c 5) (he : e1 = e0 ∨ e1 = 1) : Rl n m e1 σ' τ' := by
  have s0 := a 0 (by decide)
  have s3 := a 3 (by decide)
  have s5 := a 5 (by decide)
  have t20 := b 20 rfl
  refine h.upd (fun φ _ _ q _ _ _ => a φ q) ⟨b 27 rfl, b 33 rfl, b 37 rfl, b 50 rfl, b 51 rfl, b 52 rfl, b 53 rfl⟩ ⟨by rw [t20], by rw [t20]⟩ ?_ ?_ (fun j hj => ?_) (fun t ht => ?_) (fun j hj => ?_) (fun t ht => by rw [s5]; exact ⟨Int.le_refl _, rfl, rfl⟩)
  · unfold bG; rw [s0, s3, a2, t20]; exact h.2.1
  · unfold bB; rw [s0, s3, t20]; exact h.2.2.1
  · by_cases e : j = c
    · subst e; exact ⟨hr, ho⟩
    · rw [a3 j e]
      exact ⟨relT_congr (fun φ hφ => b3 j e φ hφ) (h.T hj).1, (h.T hj).2.end he⟩
  · rw [s5]
    refine ⟨relC_congr (fun φ hφ => ?_) (h.C ht).1, (h.C ht).2.end he⟩
    unfold colK
    rw [b φ (dis2 φ hφ)]
  · by_cases e : j = c
    · subst e; exact ⟨h4, h5, h1, h2⟩
    · rw [a3 j e]; exact ⟨Int.le_refl _, Int.le_refl _, rfl, rfl⟩
/-- a channel loses what it keeps behind the mark -/
theorem Rl.lose (h : Rl n m e0 σ τ) {c : Nat} (hc : c < m) (hh : (σ.1 5 c 9).toInt < (σ.1 5 c 4).toInt) (he : e1 = e0 ∨ e1 = 1) (hk : e1 = 1 ∨ (σ.1 5 c 4).toInt ≤ (σ.1 5 c 6).toInt) : Rl n m e1 (wI σ 5 c 8 (σ.1 5 c 4 - σ.1 5 c 9)) (wI (wI τ 42 0 c 1) 43 0 c (σ.1 5 c 4)) ∧ (σ.1 5 c 4 - σ.1 5 c 9).toInt = (σ.1 5 c 4).toInt - (σ.1 5 c 9).toInt := by
  obtain ⟨o1, o2, o3, o4, o5, o6, o7, o8, o9⟩ := (h.C hc).2
  have e8 : (σ.1 5 c 4 - σ.1 5 c 9).toInt = (σ.1 5 c 4).toInt - (σ.1 5 c 9).toInt := i_sub (by omega) (by omega)
  have u8 : ur (σ.1 5 c) 8 (σ.1 5 c 4 - σ.1 5 c 9) 8 = σ.1 5 c 4 - σ.1 5 c 9 := by simp [ur]
  have un : ∀ k, k ≠ 8 → ur (σ.1 5 c) 8 (σ.1 5 c 4 - σ.1 5 c 9) k = σ.1 5 c k := fun k hk => by simp [ur, hk]
  refine ⟨h.chan hc (fun φ q => by rw [w_ne q]) rfl (fun j q => by rw [w_i q]) (fun φ q => by rw [w_ne (by rintro rfl; cases q), w_ne (by rintro rfl; cases q)]) (fun j q φ _ => ?_) ?_ ?_ ?_ ?_ ?_ he, e8⟩
  · have := w_col2 (τ := wI τ 42 0 c 1) (φ := 43) (v := σ.1 5 c 4) q
    have h2 := w_col2 (τ := τ) (φ := 42) (v := 1) q
    have h3 := congrFun (this.trans h2) φ
    exact h3
  · rw [w_row, w_col, w_col]
    obtain ⟨a1, a2, a3, a4, a5, a6, a7, a8, a9, a10, a11⟩ := (h.C hc).1
    refine ⟨?_, ?_, ?_, ?_, ?_, ?_, ?_, ?_, ?_, ?_, Or.inr ⟨?_, ?_, ?_⟩⟩
    · simpa [ur] using a1
    · simpa [ur] using a2
    · simpa [ur] using a3
    · simpa [ur] using a4
    · simpa [ur] using a5
    · simpa [ur] using a6
    · simpa [ur] using a7
    · simpa [ur] using a8
    · simpa [ur] using a9
    · simpa [ur] using a10
    · simp [ur]
    · rw [u8, un 9 (by decide)]
      have : ur (ur (colK τ c) 42 1) 43 (σ.1 5 c 4) 43 = σ.1 5 c 4 := by simp [ur]
      rw [this, i_eq, i_add (by omega) (by omega), e8]; omega
    · rw [u8, e8]; omega
  · rw [w_row]
    unfold okC
    rw [u8, un 1 (by decide), un 2 (by decide), un 3 (by decide), un 4 (by decide), un 5 (by decide), un 6 (by decide), un 7 (by decide), un 9 (by decide), un 10 (by decide), un 11 (by decide), e8]
    refine ⟨o1, o2, o3, o4, o5, o6, o7, by omega, fun q _ => ?_⟩
    rcases hk with hk | hk
    · rw [hk] at q; cases q
    · omega
  · rw [w_row, un 4 (by decide)]; exact Int.le_refl _
  · rw [w_row, un 1 (by decide)]
  · rw [w_row, un 2 (by decide)]
end ONE
theorem ok_lose (v1 : Int32) : Ok2 (f_X5_lose v1) (f_X6_lose v1) := by
  intro n m σ τ h
  have hn := h.n16
  have hm := h.m40
  have e43 : τ.1 20 0 43 = σ.1 0 0 12 := h.2.1.2.2.2.2.2.2.2.1
  rcases v_cases v1 (n := m) (by omega) with hv | ⟨c, hc, rfl⟩
  · exact Ok2.same (r := -1) h (by simp [f_X5_lose, hasC_no h hv]) (by simp [f_X6_lose, noC_yes h hv])
  · have c36 : τ.1 36 0 c = σ.1 5 c 3 := (h.C hc).1.2.2.1
    have c38 : τ.1 38 0 c = σ.1 5 c 4 := (h.C hc).1.2.2.2.1
    have c47 : τ.1 47 0 c = σ.1 5 c 9 := (h.C hc).1.2.2.2.2.2.2.2.1
    have c40 : τ.1 40 0 c = σ.1 5 c 6 := (h.C hc).1.2.2.2.2.2.1
    have c34 : τ.1 34 0 c = σ.1 5 c 1 := (h.C hc).1.1
    obtain ⟨o1, o2, o3, o4, o5, o6, o7, o8, o9⟩ := (h.C hc).2
    have ai : ∀ (φ : Nat) (s : sm_M), fL φ = 40 → aI φ s 0 (Int32.ofNat c) = some (s.1 φ 0 c) := fun φ s hφ => aI_n (by rw [hφ]; omega) (by omega)
    have L : f_X5_lose (Int32.ofNat c) σ = if σ.1 5 c 3 = 0 then f_X5_lose_37 σ else if σ.1 0 0 12 = 0 then (if σ.1 5 c 4 - σ.1 5 c 9 = 0 then some (0, wI σ 5 c 8 (σ.1 5 c 4 - σ.1 5 c 9)) else if σ.1 5 c 6 < σ.1 5 c 4 then (f_X5_failAlone (σ.1 5 c 1) 3 (wI σ 5 c 8 (σ.1 5 c 4 - σ.1 5 c 9))).bind fun q4 => some (q4.1, q4.2) else some (0, wI σ 5 c 8 (σ.1 5 c 4 - σ.1 5 c 9))) else f_X5_lose_37 σ := by
      rw [f_X5_lose, hasC_yes h hc, Option.bind_some]
      dsimp only
      rw [if_neg (by decide), aP_n (by show c < 40; omega) (by omega), Option.bind_some, f_X1_loseBehindMark, sI_s, Option.bind_some, Option.bind_some, w_eq, w_k (by decide), w_k (by decide), w_k (by decide)]
    have M : f_X6_lose (Int32.ofNat c) τ = if σ.1 5 c 3 = 0 then f_X6_lose_26 τ else if σ.1 0 0 12 = 0 then (if σ.1 5 c 9 < σ.1 5 c 4 then (if σ.1 5 c 4 ≤ σ.1 5 c 6 then f_X6_lose_95 0 (wI (wI τ 42 0 c 1) 43 0 c (σ.1 5 c 4)) else (f_X6_failOne (σ.1 5 c 1) 3 (wI (wI τ 42 0 c 1) 43 0 c (σ.1 5 c 4))).bind fun q11 => f_X6_lose_95 q11.1 q11.2) else some (0, τ)) else f_X6_lose_26 τ := by
      rw [f_X6_lose, noC_no h hc, Option.bind_some]
      dsimp only
      rw [if_pos rfl, ai 36 _ rfl, Option.bind_some, ai 38 _ rfl, Option.bind_some, ai 47 _ rfl, Option.bind_some, uZ_n (by show c < 40; omega) (by omega) z1, Option.bind_some, ai 38 _ rfl, Option.bind_some, uI_n (by show c < 40; omega) (by omega), Option.bind_some, ai 40 _ rfl, Option.bind_some, ai 38 _ rfl, Option.bind_some, ai 34 _ rfl, Option.bind_some]
      simp only [w_ne (show (38 : Nat) ≠ 43 by decide), w_ne (show (38 : Nat) ≠ 42 by decide), w_ne (show (40 : Nat) ≠ 43 by decide), w_ne (show (40 : Nat) ≠ 42 by decide), w_ne (show (34 : Nat) ≠ 43 by decide), w_ne (show (34 : Nat) ≠ 42 by decide), c36, c38, c47, c40, c34, e43]
    by_cases g3 : σ.1 5 c 3 = 0
    · rw [if_pos g3] at L M
      exact Ok2.same (r := -3) h (by rw [L, f_X5_lose_37]) (by rw [M, f_X6_lose_26])
    · rw [if_neg g3] at L M
      by_cases he : σ.1 0 0 12 = 0
      · rw [if_pos he] at L M
        by_cases g : (σ.1 5 c 9).toInt < (σ.1 5 c 4).toInt
        · rw [if_pos (by rw [i_lt]; exact g)] at M
          have e8 := (h.lose hc g (Or.inr rfl) (Or.inl rfl)).2
          rw [if_neg (by rw [i_eq, e8]; show ¬ _ = (0 : Int); omega)] at L
          by_cases g6 : (σ.1 5 c 4).toInt ≤ (σ.1 5 c 6).toInt
          · rw [if_neg (by rw [i_lt]; omega)] at L
            rw [if_pos (by rw [i_le]; exact g6)] at M
            refine ⟨0, n, m, _, _, L, by rw [M, f_X6_lose_95], ?_⟩
            rw [w_ne (by decide)]
            exact (h.lose hc g (Or.inl rfl) (Or.inr g6)).1
          · rw [if_pos (by rw [i_lt]; omega)] at L
            rw [if_neg (by rw [i_le]; exact g6)] at M
            have h1 := (h.lose hc g (e1 := 1) (Or.inr rfl) (Or.inl rfl)).1
            obtain ⟨f0, g0, a1, a2, a3, a4⟩ := h.ft hc
            have w4 : (wI σ 5 c 8 (σ.1 5 c 4 - σ.1 5 c 9)).1 4 = σ.1 4 := w_ne (by decide)
            obtain ⟨r, σ', τ', f1, f2, f3⟩ := fa_ok (kind := 3) (t := f0) h1 (by rw [w_ne (by decide)]; exact he) (by omega) (by rw [w4]; exact h.nine he) (fun j hj q => by
              by_cases e : j = c
              · subst e
                refine Or.inr ?_
                unfold fr
                rw [w_k (by decide), a1, i_of (by omega)]; omega
              · rw [w_i e] at q ⊢
                exact Or.inl (h.lostOk he j hj q))
            rw [a1, f1, Option.bind_some] at L
            rw [a1, f2, Option.bind_some, f_X6_lose_95] at M
            exact ⟨r, n, m, σ', τ', L, M, f3⟩
        · rw [if_neg (by rw [i_lt]; exact g)] at M
          have e8 : σ.1 5 c 4 - σ.1 5 c 9 = 0 := by
            rw [i_eq, i_sub (by omega) (by omega)]; show _ = (0 : Int); omega
          have z8 : σ.1 5 c 8 = 0 := by rw [i_eq]; show _ = (0 : Int); omega
          rw [e8, if_pos rfl] at L
          have : wI σ 5 c 8 0 = σ := by
            have := wI_R (σ := σ) (φ := 5) (i := c) (k := 8) (v := 0)
            rw [this]
            have h2 : ur (σ.1 5 c) 8 0 = σ.1 5 c := by
              funext k
              by_cases e : k = 8
              · subst e; simp [ur, z8]
              · simp [ur, e]
            rw [h2, R_id]
          rw [this] at L
          exact Ok2.same (r := 0) h L M
      · rw [if_neg he] at L M
        exact Ok2.same (r := -3) h (by rw [L, f_X5_lose_37]) (by rw [M, f_X6_lose_26])
