/-! ===== the law, on the pure functions ===== -/
theorem law_ok {L : Nat} {xs : Nat → Int32} (hL : L ≤ 2048) : ∀ (f i n m : Nat) (σ τ : sm_M), i ≤ 4000 → L < i + 4 * (f + 1) → Rl n m (σ.1 0 0 12) σ τ → f_L_law_18 L xs (f + 1) (Int32.ofNat i) σ τ = some 1 := by
  have k4 : (4 : Int32).toInt = 4 := rfl
  have e4 : (Int32.ofNat L - 4).toInt = (L : Int) - 4 := by
    rw [i_sub (by rw [i_of (by omega), k4]; omega) (by rw [i_of (by omega), k4]; omega), i_of (by omega), k4]
  have ex : ∀ i : Nat, i ≤ 4000 → ((Int32.ofNat L - 4) < Int32.ofNat i ↔ L < i + 4) := fun i hi => by
    rw [i_lt, e4, i_of (by omega)]; omega
  intro f
  induction f with
  | zero =>
    intro i n m σ τ hi hl h
    rw [f_L_law_18, if_pos ((ex i hi).mpr (by omega))]
  | succ f ih =>
    intro i n m σ τ hi hl h
    by_cases g : L < i + 4
    · rw [f_L_law_18, if_pos ((ex i hi).mpr g)]
    · have sc : ∀ k, k < 4 → scA L xs (Int32.ofNat (i + k)) = some (xs (i + k)) := fun k hk => by
        unfold scA
        rw [i_clamp (by omega), if_pos ⟨n_pos (by omega), by omega⟩]
      have s0 : scA L xs (Int32.ofNat i) = some (xs i) := sc 0 (by omega)
      have s1 : scA L xs (Int32.ofNat i + 1) = some (xs (i + 1)) := by rw [n_inc]; exact sc 1 (by omega)
      have s2 : scA L xs (Int32.ofNat i + 2) = some (xs (i + 2)) := by rw [show (2 : Int32) = Int32.ofNat 2 from rfl, n_add]; exact sc 2 (by omega)
      have s3 : scA L xs (Int32.ofNat i + 3) = some (xs (i + 3)) := by rw [show (3 : Int32) = Int32.ofNat 3 from rfl, n_add]; exact sc 3 (by omega)
      have on : ∀ (n' m' : Nat) (σ' τ' : sm_M), Rl n' m' (σ'.1 0 0 12) σ' τ' → f_L_law_693 L xs (f_L_law_18 L xs (f + 1)) (Int32.ofNat i) σ' τ' = some 1 := fun n' m' σ' τ' c => by
        rw [f_L_law_693, show (4 : Int32) = Int32.ofNat 4 from rfl, n_add]
        exact ih (i + 4) n' m' σ' τ' (by omega) (by omega) c
      have go : ∀ (fc fm : sm_M → Option (Int32 × sm_M)), Ok2 fc fm → ∃ (r : Int32) (σ' τ' : sm_M), fc σ = some (r, σ') ∧ fm τ = some (r, τ') ∧ f_L_law_693 L xs (f_L_law_18 L xs (f + 1)) (Int32.ofNat i) σ' τ' = some 1 := fun fc fm o => by
        obtain ⟨r, n', m', σ', τ', a, b, c⟩ := o n m σ τ h
        exact ⟨r, σ', τ', a, b, on n' m' σ' τ' c⟩
      rw [f_L_law_18, if_neg (fun q => g ((ex i hi).mp q)), s0, Option.bind_some, s1, s2, s3]
      by_cases g0 : xs i &&& 31 = 0
      · obtain ⟨r, σ', τ', a, b, c⟩ := go _ _ (ok_task (xs (i + 1)) (xs (i + 2)) (xs (i + 3)))
        rw [if_pos g0, Option.bind_some, Option.bind_some, Option.bind_some, a, Option.bind_some, Option.bind_some, Option.bind_some, Option.bind_some, b, Option.bind_some]
        dsimp only
        rw [if_pos rfl]
        exact c
      rw [if_neg g0]
      by_cases g1 : xs i &&& 31 = 1
      · rw [if_pos g1, Option.bind_some, Option.bind_some, Option.bind_some]
        by_cases z : xs (i + 3) = 0
        · obtain ⟨r, σ', τ', a, b, c⟩ := go _ _ (ok_channel (xs (i + 1)) (xs (i + 2)) 0 z0)
          rw [if_pos z, f_L_law_191, a, Option.bind_some, s1, Option.bind_some, s2, Option.bind_some, s3, Option.bind_some, if_pos z, f_L_law_218, b, Option.bind_some]
          dsimp only
          rw [if_pos rfl]
          exact c
        · obtain ⟨r, σ', τ', a, b, c⟩ := go _ _ (ok_channel (xs (i + 1)) (xs (i + 2)) 1 z1)
          rw [if_neg z, f_L_law_191, a, Option.bind_some, s1, Option.bind_some, s2, Option.bind_some, s3, Option.bind_some, if_neg z, f_L_law_218, b, Option.bind_some]
          dsimp only
          rw [if_pos rfl]
          exact c
      rw [if_neg g1]
      by_cases g2 : xs i &&& 31 = 2
      · obtain ⟨r, σ', τ', a, b, c⟩ := go _ _ (ok_poison (xs (i + 1)) (xs (i + 2)))
        rw [if_pos g2, Option.bind_some, Option.bind_some, a, Option.bind_some, Option.bind_some, Option.bind_some, b, Option.bind_some]
        dsimp only
        rw [if_pos rfl]
        exact c
      rw [if_neg g2]
      by_cases g3 : xs i &&& 31 = 3
      · rw [if_pos g3, Option.bind_some, Option.bind_some]
        by_cases z : xs (i + 2) = 0
        · obtain ⟨r, σ', τ', a, b, c⟩ := go _ _ (ok_rule (xs (i + 1)) 0 z0)
          rw [if_pos z, f_L_law_278, a, Option.bind_some, s1, Option.bind_some, s2, Option.bind_some, if_pos z, f_L_law_300, b, Option.bind_some]
          dsimp only
          rw [if_pos rfl]
          exact c
        · obtain ⟨r, σ', τ', a, b, c⟩ := go _ _ (ok_rule (xs (i + 1)) 1 z1)
          rw [if_neg z, f_L_law_278, a, Option.bind_some, s1, Option.bind_some, s2, Option.bind_some, if_neg z, f_L_law_300, b, Option.bind_some]
          dsimp only
          rw [if_pos rfl]
          exact c
      rw [if_neg g3]
      by_cases g4 : xs i &&& 31 = 4
      · obtain ⟨r, σ', τ', a, b, c⟩ := go _ _ (ok_step (xs (i + 1)))
        rw [if_pos g4, Option.bind_some, a, Option.bind_some, Option.bind_some, b, Option.bind_some]
        dsimp only
        rw [if_pos rfl]
        exact c
      rw [if_neg g4]
      by_cases g5 : xs i &&& 31 = 5
      · obtain ⟨r, σ', τ', a, b, c⟩ := go _ _ (ok_fail (xs (i + 1)))
        rw [if_pos g5, Option.bind_some, a, Option.bind_some, Option.bind_some, b, Option.bind_some]
        dsimp only
        rw [if_pos rfl]
        exact c
      rw [if_neg g5]
      by_cases g6 : xs i &&& 31 = 6
      · obtain ⟨r, σ', τ', a, b, c⟩ := go _ _ (ok_gone (xs (i + 1)))
        rw [if_pos g6, Option.bind_some, a, Option.bind_some, Option.bind_some, b, Option.bind_some]
        dsimp only
        rw [if_pos rfl]
        exact c
      rw [if_neg g6]
      by_cases g7 : xs i &&& 31 = 7
      · obtain ⟨r, σ', τ', a, b, c⟩ := go _ _ (ok_lose (xs (i + 1)))
        rw [if_pos g7, Option.bind_some, a, Option.bind_some, Option.bind_some, b, Option.bind_some]
        dsimp only
        rw [if_pos rfl]
        exact c
      rw [if_neg g7]
      by_cases g8 : xs i &&& 31 = 8
      · obtain ⟨r, σ', τ', a, b, c⟩ := go _ _ (ok_tick (xs (i + 1)))
        rw [if_pos g8, Option.bind_some, a, Option.bind_some, Option.bind_some, b, Option.bind_some]
        dsimp only
        rw [if_pos rfl]
        exact c
      rw [if_neg g8]
      by_cases g9 : xs i &&& 31 = 9
      · obtain ⟨r, σ', τ', a, b, c⟩ := go _ _ (ok_mark)
        rw [if_pos g9, a, Option.bind_some, b, Option.bind_some]
        dsimp only
        rw [if_pos rfl]
        exact c
      rw [if_neg g9]
      by_cases g10 : xs i &&& 31 = 10
      · obtain ⟨r, σ', τ', a, b, c⟩ := go _ _ (ok_region (xs (i + 1)))
        rw [if_pos g10, Option.bind_some, a, Option.bind_some, Option.bind_some, b, Option.bind_some]
        dsimp only
        rw [if_pos rfl]
        exact c
      rw [if_neg g10]
      by_cases g11 : xs i &&& 31 = 11
      · obtain ⟨r, σ', τ', a, b, c⟩ := go _ _ (ok_taskAt (xs (i + 1)) (xs (i + 2)))
        rw [if_pos g11, Option.bind_some, Option.bind_some, a, Option.bind_some, Option.bind_some, Option.bind_some, b, Option.bind_some]
        dsimp only
        rw [if_pos rfl]
        exact c
      rw [if_neg g11]
      by_cases g12 : xs i &&& 31 = 12
      · obtain ⟨r, σ', τ', a, b, c⟩ := go _ _ (ok_channelAt (xs (i + 1)) (xs (i + 2)))
        rw [if_pos g12, Option.bind_some, Option.bind_some, a, Option.bind_some, Option.bind_some, Option.bind_some, b, Option.bind_some]
        dsimp only
        rw [if_pos rfl]
        exact c
      rw [if_neg g12]
      by_cases g13 : xs i &&& 31 = 13
      · obtain ⟨r, σ', τ', a, b, c⟩ := go _ _ (ok_row (xs (i + 1)) (xs (i + 2)))
        rw [if_pos g13, Option.bind_some, Option.bind_some, a, Option.bind_some, Option.bind_some, Option.bind_some, b, Option.bind_some]
        dsimp only
        rw [if_pos rfl]
        exact c
      rw [if_neg g13]
      by_cases g14 : xs i &&& 31 = 14
      · obtain ⟨r, σ', τ', a, b, c⟩ := go _ _ (ok_out (xs (i + 1)) (xs (i + 2)))
        rw [if_pos g14, Option.bind_some, Option.bind_some, a, Option.bind_some, Option.bind_some, Option.bind_some, b, Option.bind_some]
        dsimp only
        rw [if_pos rfl]
        exact c
      rw [if_neg g14]
      by_cases g15 : xs i &&& 31 = 15
      · obtain ⟨r, σ', τ', a, b, c⟩ := go _ _ (ok_aside (xs (i + 1)) (xs (i + 2)))
        rw [if_pos g15, Option.bind_some, Option.bind_some, a, Option.bind_some, Option.bind_some, Option.bind_some, b, Option.bind_some]
        dsimp only
        rw [if_pos rfl]
        exact c
      rw [if_neg g15]
      by_cases g16 : xs i &&& 31 = 16
      · obtain ⟨r, σ', τ', a, b, c⟩ := go _ _ (ok_cause (xs (i + 1)) (xs (i + 2)))
        rw [if_pos g16, Option.bind_some, Option.bind_some, a, Option.bind_some, Option.bind_some, Option.bind_some, b, Option.bind_some]
        dsimp only
        rw [if_pos rfl]
        exact c
      rw [if_neg g16]
      by_cases g17 : xs i &&& 31 = 17
      · obtain ⟨r, σ', τ', a, b, c⟩ := go _ _ (ok_told (xs (i + 1)))
        rw [if_pos g17, Option.bind_some, a, Option.bind_some, Option.bind_some, b, Option.bind_some]
        dsimp only
        rw [if_pos rfl]
        exact c
      rw [if_neg g17]
      by_cases g18 : xs i &&& 31 = 18
      · obtain ⟨r, σ', τ', a, b, c⟩ := go _ _ (ok_clear)
        rw [if_pos g18, a, Option.bind_some, b, Option.bind_some]
        dsimp only
        rw [if_pos rfl]
        exact c
      rw [if_neg g18]
      exact on n m σ τ h
theorem whole_start {p : Program} {e : Env} {s : State} {m : MethodId} {below : List Frame} {meth : Method} {c : Code} (l : Launch) {b L : Nat} {xs : Nat → Int32} (hL : L ≤ 2048) (C0 : lw_At p s m meth c b L xs) : W p l e room_1 s m #[Value.ref b] below meth c s.heap [] 0 0 (lw_Z below #[Value.ref b] s) (entryFrame m ([Value.ref b] : List Value).toArray 4) := by
  obtain ⟨σ1, τ1, h1, h2, h3⟩ := ok_begin σ00 σ00
  exact ws_of l C0 h1 h2 (law_ok hL 999 0 0 0 σ1 τ1 (by omega) (by omega) h3)
