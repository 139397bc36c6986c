/-! ===== region ===== -/
theorem e_noR (τ : sm_M) : ∃ s, f_X6_noRegion τ = some s ∧ gS τ (fun _ => false) (fun _ => false) s := by
  obtain ⟨s, ⟨h1, h2, h3, h4⟩, h5⟩ := loopE (F := fun f v (s : sm_M) => f_X6_noRegion_2 f v s) (X := some) (N := 16) (by omega) (fun i s => (∀ φ, φ ≠ 58 → φ ≠ 59 → s.1 φ = τ.1 φ) ∧ s.2 = τ.2 ∧ (∀ t, t < i → s.1 58 0 t = 0) ∧ (∀ t, t < i → s.1 59 0 t = 0))
    (fun f i s hi hp => by
      obtain ⟨p1, p2, p3, p4⟩ := hp
      refine ⟨wI (wI s 58 0 i 0) 59 0 i 0, ⟨fun φ a b => by rw [w_ne b, w_ne a]; exact p1 φ a b, p2, fun t ht => ?_, fun t ht => ?_⟩, ?_⟩
      · rw [w_ne (by decide), w_at]
        by_cases e : t = i
        · rw [if_pos e]
        · rw [if_neg e]; exact p3 t (by omega)
      · rw [w_at, w_ne (by decide)]
        by_cases e : t = i
        · rw [if_pos e]
        · rw [if_neg e]; exact p4 t (by omega)
      · show f_X6_noRegion_2 (f + 1) (Int32.ofNat i) s = _
        rw [f_X6_noRegion_2, if_neg (by rw [show (16 : Int32) = Int32.ofNat 16 from rfl, n_le (by omega) (by omega)]; omega), uZ_n (by show i < 16; omega) (by omega) z0, Option.bind_some, uZ_n (by show i < 16; omega) (by omega) z0, Option.bind_some, n_inc])
    (fun f s hp => by
      show f_X6_noRegion_2 (f + 1) (Int32.ofNat 16) s = _
      rw [f_X6_noRegion_2, if_pos (by decide)]) τ ⟨fun _ _ _ => rfl, rfl, fun t ht => absurd ht (Nat.not_lt_zero t), fun t ht => absurd ht (Nat.not_lt_zero t)⟩
  exact ⟨s, h5, h1, h2, fun t ht => by rw [h3 t ht]; rfl, fun t ht => by rw [h4 t ht]; rfl⟩
section RGN
variable {n m : Nat} {σ τ : sm_M}
theorem Gd_one {t : Nat} (ht : t < n) : Gd n m σ (fun j => j = t) (sT (fun _ => false) t) (fun _ => false) := by
  refine ⟨fun j _ e => by simp [sT, e], fun j _ q => (by cases q), fun j hj => ⟨?_, rfl⟩, fun R' U' b1 _ _ => ⟨fun j hj q => ?_, fun j _ q => (by cases q)⟩⟩
  · have : ¬ j = t := by omega
    simp [sT, this]
  · refine b1 j hj ?_
    simpa [sT] using q
theorem b_pow {t j : Nat} (ht : t < 16) : bt ((1 : Int32) <<< (Int32.ofNat t &&& 31)) j = true ↔ j = t := by
  by_cases h : j < 32
  · rw [b_one (by omega) h]; simp
  · rw [b_big (by omega)]
    constructor
    · intro q; cases q
    · intro q; omega
theorem b_pow_hi {t j : Nat} (ht : t < 16) (hj : t < j) : bt ((1 : Int32) <<< (Int32.ofNat t &&& 31)) j = false := by
  by_cases h : bt ((1 : Int32) <<< (Int32.ofNat t &&& 31)) j = true
  · have := (b_pow ht).mp h; omega
  · simpa using h
theorem Reg_congr {F F' R U : Nat → Prop} (hF : ∀ t, t < n → (F t ↔ F' t)) (h : Reg n m σ F R U) : Reg n m σ F' R U :=
  ⟨fun t ht q => h.1 t ht ((hF t ht).mpr q), h.2.1, h.2.2.1, fun R' U' a b c => h.2.2.2 R' U' (fun t ht q => a t ht ((hF t ht).mp q)) b c⟩
/-- the mask that the reference makes of its region -/
theorem e_mask {R : Nat → Bool} {s : sm_M} (hn : n ≤ 16) (e1 : s.1 20 0 0 = Int32.ofNat n) (hs : ∀ t, t < 16 → s.1 58 0 t = if R t = true then 1 else 0) : ∃ M : Int32, f_X6_region_29 1000 0 0 s = some (M, s) ∧ (∀ t, t < n → bt M t = R t) ∧ ∀ t, n ≤ t → bt M t = false := by
  obtain ⟨M, ⟨h1, h2⟩, h3⟩ := loopE (F := fun f v (x : Int32) => f_X6_region_29 f x v s) (X := fun x => some (x, s)) (N := n) (by omega) (fun i x => (∀ t, t < i → bt x t = R t) ∧ ∀ t, i ≤ t → bt x t = false)
    (fun k i x hi hp => by
      obtain ⟨p1, p2⟩ := hp
      show ∃ x' : Int32, _ ∧ f_X6_region_29 (k + 1) x (Int32.ofNat i) s = f_X6_region_29 k x' (Int32.ofNat (i + 1)) s
      rw [f_X6_region_29, e1, if_neg (by rw [n_le (by omega) (by omega)]; omega), aI_n (φ := 58) (by show i < 16; omega) (by omega), Option.bind_some, hs i (by omega)]
      by_cases g : R i = true
      · rw [if_pos g, if_neg (by decide), f_X6_region_54, n_inc]
        refine ⟨_, ⟨fun t ht => ?_, fun t ht => ?_⟩, rfl⟩
        · rw [b_set (by omega) (by omega)]
          by_cases e : t = i
          · subst e; simp [g]
          · rw [p1 t (by omega)]; simp [e]
        · by_cases h32 : t < 32
          · rw [b_set (by omega) h32, p2 t (by omega)]
            have : ¬ t = i := by omega
            simp [this]
          · exact b_big (by omega)
      · rw [if_neg g, if_pos rfl, f_X6_region_54, n_inc]
        refine ⟨_, ⟨fun t ht => ?_, fun t ht => ?_⟩, rfl⟩
        · rw [b_or, b_0, Bool.or_false]
          by_cases e : t = i
          · subst e; rw [p2 t (Nat.le_refl t)]; simpa using g
          · exact p1 t (by omega)
        · rw [b_or, b_0, Bool.or_false]; exact p2 t (by omega))
    (fun k x hp => by
      show f_X6_region_29 (k + 1) x (Int32.ofNat n) s = _
      rw [f_X6_region_29, e1, if_pos (by rw [n_le (by omega) (by omega)]; omega), f_X6_region_62]) 0 ⟨fun t ht => absurd ht (Nat.not_lt_zero t), fun t _ => b_0 t⟩
  exact ⟨M, h3, h1, h2⟩
end RGN
theorem ok_region (v1 : Int32) : Ok2 (f_X5_region v1) (f_X6_region v1) := by
  intro n m σ τ h
  have hn := h.n16
  rcases v_cases v1 (n := n) (by omega) with hv | ⟨t, ht, rfl⟩
  · exact Ok2.same (r := -1) h (by simp [f_X5_region, hasT_no h hv]) (by simp [f_X6_region, noT_yes h hv])
  · obtain ⟨R, U, eR, hR1, hR2⟩ := e_reg h (F := (1 : Int32) <<< (Int32.ofNat t &&& 31)) (fun j hj => b_pow_hi (by omega) (by omega))
    obtain ⟨s0, es0, hs0⟩ := e_noR τ
    obtain ⟨s1, R1, U1, es1, hs1, hz1, hg1⟩ := e_grow h (gS_R hs0 (i := t)) (Gd_one ht)
    obtain ⟨M, eM, hM1, hM2⟩ := e_mask hn (by rw [hs1.1 20 (by decide) (by decide)]; exact h.1.2.2.2.2.1) hs1.2.2.1
    have hu := Reg_uniq h (Reg_congr (fun j _ => b_pow (j := j) (by omega)) hR2) hg1
    have hMR : M = R := by
      apply b_ext
      intro j hj
      by_cases hjn : j < n
      · rw [hM1 j hjn]
        have := hu.1 j hjn
        by_cases q : bt R j = true
        · rw [q]; exact this.mp q
        · have q' : bt R j = false := by simpa using q
          rw [q']
          by_cases q2 : R1 j = true
          · exact absurd (this.mpr q2) q
          · simpa using q2
      · rw [hM2 j (by omega), hR1 j (by omega)]
    refine ⟨R, n, m, σ, s1, ?_, ?_, h.scr (fun φ hφ => hs1.1 φ (by omega) (by omega))⟩
    · rw [f_X5_region, hasT_yes h ht, Option.bind_some]
      dsimp only
      rw [if_neg (by decide), eR, Option.bind_some]
    · rw [f_X6_region, noT_no h ht, Option.bind_some]
      dsimp only
      rw [if_pos rfl, es0, Option.bind_some, uZ_n (by show t < 16; omega) (by omega) z1, Option.bind_some, es1, Option.bind_some, eM, hMR]
/-! ===== to begin again: rows ===== -/
def rwT (till : Int32) (r : Nat → Int32) : Nat → Int32 := ur (ur (ur (ur r 11 (r 14)) 12 (r 15)) 13 (r 16)) 9 (if r 9 < till then till else r 9)
def rwTk (r : Nat → Int32) : Nat → Int32 := ur r 6 (r 11)
def stl (r : Nat → Int32) : Int32 := if r 9 < r 11 then r 11 else r 9
/-- what the giver's beginning again does to a channel; u: the giver is unsteady -/
def rwG1 (u : Bool) (r : Nat → Int32) : Nat → Int32 := if u = true then ur (ur r 5 (r 10)) 7 (if stl r < r 7 then stl r else r 7) else ur r 5 (r 10)
def rwG2 (r : Nat → Int32) : Nat → Int32 := ur (ur r 4 (r 9)) 8 0
def rwG (u : Bool) (r : Nat → Int32) : Nat → Int32 := if r 3 = 0 ∨ u = true ∨ 0 < (r 8).toInt then rwG2 (rwG1 u r) else rwG1 u r
theorem e_rwT {i : Nat} {till : Int32} {σ : sm_M} : f_X4_rewind i till σ = some (setR σ 4 i (rwT till (σ.1 4 i))) := by
  simp only [f_X4_rewind, sI_s, Option.bind_some, wI_R, R_at, R_R]
  simp [rwT, ur]
theorem e_rwTk {i : Nat} {σ : sm_M} : f_X1_rewindTaker i σ = some (setR σ 5 i (rwTk (σ.1 5 i))) := by
  simp only [f_X1_rewindTaker, sI_s, Option.bind_some, wI_R, R_at, R_R]
  rfl
theorem e_rwG {i : Nat} {u : Bool} {σ : sm_M} : f_X1_rewindGiver i (if u = true then 1 else 0) σ = some (setR σ 5 i (rwG u (σ.1 5 i))) := by
  have A45 : ∀ r : Nat → Int32, f_X1_rewindGiver_45 i (setR σ 5 i r) = some (setR σ 5 i (rwG2 r)) := fun r => by
    simp only [f_X1_rewindGiver_45, sI_s, Option.bind_some, R_at, R_w]
    simp [rwG2, ur]
  have A27 : ∀ r : Nat → Int32, f_X1_rewindGiver_27 i (if u = true then 1 else 0) (setR σ 5 i r) = some (setR σ 5 i (if r 3 = 0 ∨ u = true ∨ 0 < (r 8).toInt then rwG2 r else r)) := fun r => by
    rw [f_X1_rewindGiver_27, R_at]
    by_cases a : r 3 = 0
    · rw [if_pos a, A45, if_pos (Or.inl a)]
    · rw [if_neg a]
      cases u
      · rw [show (if (false = true) then (1 : Int32) else 0) = 0 from rfl, if_pos rfl]
        by_cases b : 0 < (r 8).toInt
        · rw [if_neg (by rw [i_le]; show ¬ _ ≤ (0 : Int); omega), A45, if_pos (Or.inr (Or.inr b))]
        · rw [if_pos (by rw [i_le]; show _ ≤ (0 : Int); omega), if_neg]
          rintro (q | q | q)
          · exact a q
          · cases q
          · exact b q
      · rw [show (if (true = true) then (1 : Int32) else 0) = 1 from rfl, if_neg (by decide), A45, if_pos (Or.inr (Or.inl rfl))]
  rw [f_X1_rewindGiver, sI_s, Option.bind_some, wI_R]
  cases u
  · rw [show (if (false = true) then (1 : Int32) else 0) = 0 from rfl, if_pos rfl]
    refine (A27 (ur (σ.1 5 i) 5 (σ.1 5 i 10))).trans ?_
    simp [rwG, rwG1, ur]
  · rw [show (if (true = true) then (1 : Int32) else 0) = 1 from rfl, if_neg (by decide), f_X1_settled, Option.bind_some]
    dsimp only
    rw [sI_s, Option.bind_some, R_w]
    simp only [R_at]
    refine (A27 _).trans ?_
    rw [if_pos (Or.inr (Or.inl rfl)), rwG, if_pos (Or.inr (Or.inl rfl)), rwG1, if_pos rfl]
    simp [ur, stl]
    try rfl
