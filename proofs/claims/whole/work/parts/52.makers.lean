theorem VO_5 : Cond.methodLink RX5 1 objectInit ∈ wsL_law := wr_1 _ (List.mem_of_getElem? (i := 9) rfl)
theorem VN_2 : Cond.classLink RX5 7 RX2 ∈ wsL_law ∧ Cond.instantiable RX2 4 ∈ wsL_law ∧ Cond.initialized RX2 ∈ wsL_law := ⟨wr_1 _ (List.mem_of_getElem? (i := 12) rfl), wr_1 _ (List.mem_of_getElem? (i := 13) rfl), wr_1 _ (List.mem_of_getElem? (i := 14) rfl)⟩
theorem VN_3 : Cond.classLink RX5 16 RX3 ∈ wsL_law ∧ Cond.instantiable RX3 5 ∈ wsL_law ∧ Cond.initialized RX3 ∈ wsL_law := ⟨wr_1 _ (List.mem_of_getElem? (i := 16) rfl), wr_1 _ (List.mem_of_getElem? (i := 17) rfl), wr_1 _ (List.mem_of_getElem? (i := 18) rfl)⟩
theorem VN_0 : Cond.classLink RX5 23 RX0 ∈ wsL_law ∧ Cond.instantiable RX0 4 ∈ wsL_law ∧ Cond.initialized RX0 ∈ wsL_law := ⟨wr_1 _ (List.mem_of_getElem? (i := 20) rfl), wr_1 _ (List.mem_of_getElem? (i := 21) rfl), wr_1 _ (List.mem_of_getElem? (i := 22) rfl)⟩
theorem VF_10 : Cond.fieldLink RX5 10 "RegionRestarts" "graph" "LRegionRestarts$Graph;" ∈ wsL_law := wr_1 _ (List.mem_of_getElem? (i := 15) rfl)
theorem VF_19 : Cond.fieldLink RX5 19 "RegionRestarts" "plan" "LRegionRestarts$Plan;" ∈ wsL_law := wr_1 _ (List.mem_of_getElem? (i := 19) rfl)
theorem VF_26 : Cond.fieldLink RX5 26 "RegionRestarts" "causes" "LRegionRestarts$Causes;" ∈ wsL_law := wr_1 _ (List.mem_of_getElem? (i := 23) rfl)
theorem VF_30 : Cond.fieldLink RX5 30 "RegionRestarts" "nodeIsThere" "[Z" ∈ wsL_law := wr_2 _ (List.mem_of_getElem? (i := 1) rfl)
theorem VC_2 : Cond.methodLink RX5 9 yX2_init ∈ wsL_law ∧ Cond.instanceMethod yX2_init ∈ wsL_law ∧ Cond.initialized RX2 ∈ wsL_law ∧ Cond.code yX2_init cX2_init 2 none ∈ wsL_law := ⟨wr_2 _ (List.mem_of_getElem? (i := 2) rfl), wr_2 _ (List.mem_of_getElem? (i := 3) rfl), wr_1 _ (List.mem_of_getElem? (i := 14) rfl), wr_2 _ (List.mem_of_getElem? (i := 4) rfl)⟩
theorem VS_5 : Cond.methodLink RX5 34 yX5_startAnew ∈ wsL_law ∧ Cond.instanceMethod yX5_startAnew ∈ wsL_law ∧ Cond.selects RX5 yX5_startAnew yX5_startAnew ∈ wsL_law ∧ Cond.initialized RX5 ∈ wsL_law ∧ Cond.code yX5_startAnew cX5_startAnew 2 none ∈ wsL_law := ⟨wr_3 _ (List.mem_of_getElem? (i := 11) rfl), wr_3 _ (List.mem_of_getElem? (i := 12) rfl), wr_3 _ (List.mem_of_getElem? (i := 13) rfl), wr_1 _ (List.mem_of_getElem? (i := 2) rfl), wr_3 _ (List.mem_of_getElem? (i := 14) rfl)⟩
theorem VS_6 : Cond.methodLink RX6 128 yX6_begin ∈ wsL_law ∧ Cond.instanceMethod yX6_begin ∈ wsL_law ∧ Cond.selects RX6 yX6_begin yX6_begin ∈ wsL_law ∧ Cond.initialized RX6 ∈ wsL_law ∧ Cond.code yX6_begin cX6_begin 2 none ∈ wsL_law := ⟨wr_5 _ (List.mem_of_getElem? (i := 22) rfl), wr_5 _ (List.mem_of_getElem? (i := 23) rfl), wr_6 _ (List.mem_of_getElem? (i := 0) rfl), wr_1 _ (List.mem_of_getElem? (i := 5) rfl), wr_6 _ (List.mem_of_getElem? (i := 1) rfl)⟩
/-! where the cells of the two systems lie -/
def aC (a n φ i : Nat) : Nat := match φ with
  | 0 => a
  | 1 => n
  | 2 => n + 131
  | 3 => n + 134
  | 4 => n + 1 + 2 + 3 * i
  | 5 => n + 1 + 50 + 2 * i
  | 6 => n + 138
  | 7 => n + 1
  | 8 => n + 1 + 1
  | 9 => n + 132
  | 10 => n + 133
  | 11 => n + 135
  | 12 => n + 136
  | 13 => n + 137
  | 14 => n + 1 + 2 + 3 * i + 1
  | 15 => n + 1 + 2 + 3 * i + 2
  | 16 => n + 1 + 50 + 2 * i + 1
  | _ => 0
def aM (a n φ _i : Nat) : Nat := if φ = 20 then a else n + (φ - 21)
abbrev σ00 : sm_M := (fun _ _ _ => 0, fun _ _ _ => 0)
theorem famC {φ : Nat} (h : fS φ = 0) : φ < 17 := by
  unfold fS at h
  by_cases g : φ < 17
  · exact g
  · rw [if_neg g] at h; cases h
theorem famM {φ i : Nat} (h1 : fS φ = 1) (h2 : i < fN φ) : i = 0 ∧ 20 ≤ φ ∧ φ < 60 := by
  unfold fN at h2
  split at h2 <;> first | exact absurd h1 (by decide) | omega

set_option maxHeartbeats 4000000 in
theorem injC {a n : Nat} (han : a < n) : Inj 0 (aC a n) := by
  intro φ i ψ j hφ hi hψ hj h
  have h1 := famC hφ
  have h2 := famC hψ
  have k1 : φ = 0 ∨ φ = 1 ∨ φ = 2 ∨ φ = 3 ∨ φ = 4 ∨ φ = 5 ∨ φ = 6 ∨ φ = 7 ∨ φ = 8 ∨ φ = 9 ∨ φ = 10 ∨ φ = 11 ∨ φ = 12 ∨ φ = 13 ∨ φ = 14 ∨ φ = 15 ∨ φ = 16 := by omega
  have k2 : ψ = 0 ∨ ψ = 1 ∨ ψ = 2 ∨ ψ = 3 ∨ ψ = 4 ∨ ψ = 5 ∨ ψ = 6 ∨ ψ = 7 ∨ ψ = 8 ∨ ψ = 9 ∨ ψ = 10 ∨ ψ = 11 ∨ ψ = 12 ∨ ψ = 13 ∨ ψ = 14 ∨ ψ = 15 ∨ ψ = 16 := by omega
  rcases k1 with rfl | rfl | rfl | rfl | rfl | rfl | rfl | rfl | rfl | rfl | rfl | rfl | rfl | rfl | rfl | rfl | rfl <;> simp only [aC, fN] at h hi <;> rcases k2 with rfl | rfl | rfl | rfl | rfl | rfl | rfl | rfl | rfl | rfl | rfl | rfl | rfl | rfl | rfl | rfl | rfl <;> simp only [aC, fN] at h hj <;> first | exact ⟨rfl, by omega⟩ | omega
theorem injM {a n : Nat} (han : a < n) : Inj 1 (aM a n) := by
  intro φ i ψ j hφ hi hψ hj h
  obtain ⟨e1, e2, e3⟩ := famM hφ hi
  obtain ⟨d1, d2, d3⟩ := famM hψ hj
  simp only [aM] at h
  refine ⟨?_, by omega⟩
  by_cases g1 : φ = 20
  · by_cases g2 : ψ = 20
    · omega
    · rw [if_pos g1, if_neg g2] at h; omega
  · by_cases g2 : ψ = 20
    · rw [if_neg g1, if_pos g2] at h; omega
    · rw [if_neg g1, if_neg g2] at h; omega
theorem adC {a n q : Nat} (h : Ad 0 (aC a n) q) : q = a ∨ n ≤ q := by
  obtain ⟨φ, i, h1, h2, rfl⟩ := h
  have h3 := famC h1
  have k1 : φ = 0 ∨ φ = 1 ∨ φ = 2 ∨ φ = 3 ∨ φ = 4 ∨ φ = 5 ∨ φ = 6 ∨ φ = 7 ∨ φ = 8 ∨ φ = 9 ∨ φ = 10 ∨ φ = 11 ∨ φ = 12 ∨ φ = 13 ∨ φ = 14 ∨ φ = 15 ∨ φ = 16 := by omega
  rcases k1 with rfl | rfl | rfl | rfl | rfl | rfl | rfl | rfl | rfl | rfl | rfl | rfl | rfl | rfl | rfl | rfl | rfl <;> simp only [aC] <;> first | exact Or.inl trivial | exact Or.inl rfl | exact Or.inr (by omega)
theorem adM {a n q : Nat} (h : Ad 1 (aM a n) q) : q = a ∨ n ≤ q := by
  obtain ⟨φ, i, h1, h2, rfl⟩ := h
  simp only [aM]
  by_cases g : φ = 20
  · rw [if_pos g]; exact Or.inl rfl
  · rw [if_neg g]; exact Or.inr (by omega)
set_option maxHeartbeats 4000000 in
set_option maxRecDepth 100000 in
theorem repC {D : va_G} {dA : Nat → ClassId} {a n : Nat} {H : Heap} (hX : t_OB a (D.1 5) 13 (D.2 5) H (updV (updV (updV (updV (dV 5) 0 (.ref n)) 1 (.ref (n + 131))) 2 (.ref (n + 134))) 3 (.ref (n + 138)))) (hG : gP D dA n (n + 1) 16 40 H ∨ (∃ H2 : Heap, gP D dA n (n + 1) 16 40 H2 ∧ ∀ q : Nat, n ≤ q → q < n + 131 → H[q]? = H2[q]?)) (hP : t_OB (n + 131) (D.1 3) 5 (D.2 3) H (updV (updV (dV 3) 0 (.ref (n + 132))) 1 (.ref (n + 133)))) (p1 : H[n + 132]? = some (arrV (dA 0) 8 (fun _ => .int 0))) (p2 : H[n + 133]? = some (arrV (dA 0) 8 (fun _ => .int 0)))
    (hC : t_OB (n + 134) (D.1 0) 4 (D.2 0) H (updV (updV (updV (dV 0) 0 (.ref (n + 135))) 1 (.ref (n + 136))) 2 (.ref (n + 137)))) (c1 : H[n + 135]? = some (arrV (dA 0) 64 (fun _ => .int 0))) (c2 : H[n + 136]? = some (arrV (dA 0) 64 (fun _ => .int 0))) (c3 : H[n + 137]? = some (arrV (dA 0) 64 (fun _ => .int 0))) (z1 : H[n + 138]? = some (arrV (dA 1) 4 (fun _ => .int 0))) : Rep D dA 0 (aC a n) σ00 H := by
  obtain ⟨H2, ⟨g1, g2, g3, g4, g5, g6⟩, hk⟩ : ∃ H2 : Heap, gP D dA n (n + 1) 16 40 H2 ∧ ∀ q : Nat, n ≤ q → q < n + 131 → H[q]? = H2[q]? := by
    rcases hG with h | h
    · exact ⟨H, h, fun _ _ _ => rfl⟩
    · exact h
  intro φ i hS hN
  have h3 := famC hS
  have k1 : φ = 0 ∨ φ = 1 ∨ φ = 2 ∨ φ = 3 ∨ φ = 4 ∨ φ = 5 ∨ φ = 6 ∨ φ = 7 ∨ φ = 8 ∨ φ = 9 ∨ φ = 10 ∨ φ = 11 ∨ φ = 12 ∨ φ = 13 ∨ φ = 14 ∨ φ = 15 ∨ φ = 16 := by omega
  rcases k1 with rfl | rfl | rfl | rfl | rfl | rfl | rfl | rfl | rfl | rfl | rfl | rfl | rfl | rfl | rfl | rfl | rfl
  · obtain rfl : i = 0 := by simp only [fN] at hN; omega
    exact ⟨fun _ => ⟨_, rfl, hX.to (fun k hk => match k, hk with | 0, _ => rfl | 1, _ => rfl | 2, _ => rfl | 3, _ => rfl | 4, _ => rfl | 5, _ => rfl | 6, _ => rfl | 7, _ => rfl | 8, _ => rfl | 9, _ => rfl | 10, _ => rfl | 11, _ => rfl | 12, _ => rfl | k + 13, h => absurd h (by omega))⟩, fun h => by cases h⟩
  · obtain rfl : i = 0 := by simp only [fN] at hN; omega
    exact ⟨fun _ => ⟨_, rfl, (g2.kept (hk n (by omega) (by omega))).to (fun k hk => match k, hk with | 0, _ => rfl | 1, _ => rfl | 2, _ => rfl | 3, _ => rfl | k + 4, h => absurd h (by omega))⟩, fun h => by cases h⟩
  · obtain rfl : i = 0 := by simp only [fN] at hN; omega
    exact ⟨fun _ => ⟨_, rfl, hP.to (fun k hk => match k, hk with | 0, _ => rfl | 1, _ => rfl | 2, _ => rfl | 3, _ => rfl | 4, _ => rfl | k + 5, h => absurd h (by omega))⟩, fun h => by cases h⟩
  · obtain rfl : i = 0 := by simp only [fN] at hN; omega
    exact ⟨fun _ => ⟨_, rfl, hC.to (fun k hk => match k, hk with | 0, _ => rfl | 1, _ => rfl | 2, _ => rfl | 3, _ => rfl | k + 4, h => absurd h (by omega))⟩, fun h => by cases h⟩
  · have hi : i < 16 := hN
    exact ⟨fun _ => ⟨_, rfl, ((g5 i hi).1.kept (hk _ (by omega) (by omega))).to (fun k hk => match k, hk with | 0, _ => rfl | 1, _ => rfl | 2, _ => rfl | 3, _ => rfl | 4, _ => rfl | 5, _ => rfl | 6, _ => rfl | 7, _ => rfl | 8, _ => rfl | 9, _ => rfl | 10, _ => rfl | 11, _ => rfl | 12, _ => rfl | 13, _ => rfl | 14, _ => rfl | 15, _ => rfl | 16, _ => rfl | k + 17, h => absurd h (by omega))⟩, fun h => by cases h⟩
  · have hi : i < 40 := hN
    exact ⟨fun _ => ⟨_, rfl, ((g6 i hi).1.kept (hk _ (by omega) (by omega))).to (fun k hk => match k, hk with | 0, _ => rfl | 1, _ => rfl | 2, _ => rfl | 3, _ => rfl | 4, _ => rfl | 5, _ => rfl | 6, _ => rfl | 7, _ => rfl | 8, _ => rfl | 9, _ => rfl | 10, _ => rfl | 11, _ => rfl | k + 12, h => absurd h (by omega))⟩, fun h => by cases h⟩
  · obtain rfl : i = 0 := by simp only [fN] at hN; omega
    exact ⟨fun h => (by cases h), fun _ => z1⟩
  · obtain rfl : i = 0 := by simp only [fN] at hN; omega
    exact ⟨fun h => (by cases h), fun _ => (hk (n + 1) (by omega) (by omega)).trans (g3.trans (congrArg some (arrV_to fun j hj => by rw [if_pos hj]; rfl)))⟩
  · obtain rfl : i = 0 := by simp only [fN] at hN; omega
    exact ⟨fun h => (by cases h), fun _ => (hk (n + 1 + 1) (by omega) (by omega)).trans (g4.trans (congrArg some (arrV_to fun j hj => by rw [if_pos hj]; rfl)))⟩
  · obtain rfl : i = 0 := by simp only [fN] at hN; omega
    exact ⟨fun h => (by cases h), fun _ => p1⟩
  · obtain rfl : i = 0 := by simp only [fN] at hN; omega
    exact ⟨fun h => (by cases h), fun _ => p2⟩
  · obtain rfl : i = 0 := by simp only [fN] at hN; omega
    exact ⟨fun h => (by cases h), fun _ => c1⟩
  · obtain rfl : i = 0 := by simp only [fN] at hN; omega
    exact ⟨fun h => (by cases h), fun _ => c2⟩
  · obtain rfl : i = 0 := by simp only [fN] at hN; omega
    exact ⟨fun h => (by cases h), fun _ => c3⟩
  · have hi : i < 16 := hN
    exact ⟨fun h => (by cases h), fun _ => (hk _ (by simp only [aC]; omega) (by simp only [aC]; omega)).trans (g5 i hi).2.1⟩
  · have hi : i < 16 := hN
    exact ⟨fun h => (by cases h), fun _ => (hk _ (by simp only [aC]; omega) (by simp only [aC]; omega)).trans (g5 i hi).2.2⟩
  · have hi : i < 40 := hN
    exact ⟨fun h => (by cases h), fun _ => (hk _ (by simp only [aC]; omega) (by simp only [aC]; omega)).trans (g6 i hi).2⟩
abbrev rmX : Room := { frames := 3, cells := 139, slots := 6921, locals := 132 }
set_option maxHeartbeats 4000000 in
set_option maxRecDepth 100000 in
theorem c_X5_init {l : Launch} {D : va_G} {dA : Nat → ClassId} {a n : Nat} {σ1 : sm_M} (hF : f_X5_startAnew σ00 = some σ1) : xM l D dA yX5_init cX5_init 1 rmX a n 5 13 (Rep D dA 0 (aC a n) σ1) := by
  refine x_met (by decide +kernel) (by decide) (fun p e s m below meth c ls G hao hz han hob hl => ?_)
  obtain ⟨hx, hb, hr, hlk, hml, hown, hnm, hts, hK, hNw⟩ := id G
  refine lv_aload_n hx hb dX5_init_0 rfl (lv_at hl 0 rfl) ?_
  refine x_obj G VO_5 hl.1 ⟨Nat.le_of_ble_eq_true rfl, Nat.le_of_ble_eq_true rfl⟩ dX5_init_1 ?_
  refine lv_aload_n hx hb dX5_init_4 rfl (lv_at hl 0 rfl) ?_
  refine x_new G inlX2 tyX2 tyX2_ok (ci := 2) rfl VN_2 hz (Nat.le_of_ble_eq_true rfl) (Nat.le_of_ble_eq_true rfl) dX5_init_5 (fun H1 z1 o1 b1 => ?_)
  refine lv_dup hx hb dX5_init_8 rfl ?_
  refine x_cI (ci := 2) (N := 4) G hao (c_X2_init (a := n) (n := n + 1)) VC_2 (by decide +kernel) rfl z1 (by omega) b1 ⟨Nat.le_of_ble_eq_true rfl, Nat.le_of_ble_eq_true rfl⟩ ⟨Nat.le_of_ble_eq_true rfl, Nat.le_of_ble_eq_true rfl⟩ hl.1 (Nat.le_of_ble_eq_true rfl) dX5_init_9 (fun H2 L2 hG o2 l2 => ?_)
  have s2 : H2.size = n + 131 := by rw [hG.1]
  refine x_putF G inlX5 tyX5 tyX5_ok nmX5 (ci := 5) rfl 0 (by decide) VF_10 rfl rfl (ty := .object "RegionRestarts$Graph") (by decide +kernel) rfl rfl (hob.kept (by rw [o2 a (by omega) (by omega), o1 a han])) dX5_init_12 (fun H3 i3 z3 o3 b3 => ?_)
  refine lv_aload_n hx hb dX5_init_15 rfl (lv_at hl 0 rfl) ?_
  refine x_new G inlX3 tyX3 tyX3_ok (ci := 3) (n := n + 131) rfl VN_3 (by rw [z3, s2]) (Nat.le_of_ble_eq_true rfl) (Nat.le_of_ble_eq_true rfl) dX5_init_16 (fun H4 z4 o4 b4 => ?_)
  refine lv_dup hx hb dX5_init_19 rfl ?_
  refine x_cN (host := "RegionRestarts") (ci := 3) (N := 5) G hao (c_X3_init (a := n + 131) (n := n + 132)) ⟨hNw.2.2.2.2.1, WC_3.1, WC_3.2.1, WC_3.2.2⟩ (by decide +kernel) rfl z4 (by omega) b4 ⟨Nat.le_of_ble_eq_true rfl, Nat.le_of_ble_eq_true rfl⟩ ⟨Nat.le_of_ble_eq_true rfl, Nat.le_of_ble_eq_true rfl⟩ hl.1 (Nat.le_of_ble_eq_true rfl) dX5_init_20 (fun H5 L5 hP o5 l5 => ?_)
  have s5 : H5.size = n + 134 := hP.1
  refine x_putF G inlX5 tyX5 tyX5_ok nmX5 (ci := 5) rfl 1 (by decide) VF_19 rfl rfl (ty := .object "RegionRestarts$Plan") (by decide +kernel) rfl rfl (b3.kept (by rw [o5 a (by omega) (by omega), o4 a (by omega)])) dX5_init_23 (fun H6 i6 z6 o6 b6 => ?_)
  refine lv_aload_n hx hb dX5_init_26 rfl (lv_at hl 0 rfl) ?_
  refine x_new G inlX0 tyX0 tyX0_ok (ci := 0) (n := n + 134) rfl VN_0 (by rw [z6, s5]) (Nat.le_of_ble_eq_true rfl) (Nat.le_of_ble_eq_true rfl) dX5_init_27 (fun H7 z7 o7 b7 => ?_)
  refine lv_dup hx hb dX5_init_30 rfl ?_
  refine x_cN (host := "RegionRestarts") (ci := 0) (N := 4) G hao (c_X0_init (a := n + 134) (n := n + 135)) ⟨hNw.2.2.2.2.2, WC_0.1, WC_0.2.1, WC_0.2.2⟩ (by decide +kernel) rfl z7 (by omega) b7 ⟨Nat.le_of_ble_eq_true rfl, Nat.le_of_ble_eq_true rfl⟩ ⟨Nat.le_of_ble_eq_true rfl, Nat.le_of_ble_eq_true rfl⟩ hl.1 (Nat.le_of_ble_eq_true rfl) dX5_init_31 (fun H8 L8 hC o8 l8 => ?_)
  have s8 : H8.size = n + 138 := hC.1
  refine x_putF G inlX5 tyX5 tyX5_ok nmX5 (ci := 5) rfl 2 (by decide) VF_26 rfl rfl (ty := .object "RegionRestarts$Causes") (by decide +kernel) rfl rfl (b6.kept (by rw [o8 a (by omega) (by omega), o7 a (by omega)])) dX5_init_34 (fun H9 i9 z9 o9 b9 => ?_)
  refine lv_aload_n hx hb dX5_init_37 rfl (lv_at hl 0 rfl) ?_
  refine lv_iconst (v := 4) hx hb dX5_init_38 (by decide) ?_
  refine x_newZ G (N := 4) (n := n + 138) (by decide) rfl (by decide) (by rw [z9, s8]) (Nat.le_of_ble_eq_true rfl) (Nat.le_of_ble_eq_true rfl) dX5_init_39 (fun Ha za oa ra => ?_)
  refine x_putF G inlX5 tyX5 tyX5_ok nmX5 (ci := 5) rfl 3 (by decide) VF_30 rfl rfl (ty := .array .boolean) (by decide +kernel) rfl rfl (b9.kept (oa a (by omega))) dX5_init_41 (fun Hb ib zb ob bb => ?_)
  refine lv_aload_n hx hb dX5_init_44 rfl (lv_at hl 0 rfl) ?_
  have kA : ∀ q : Nat, q < n + 138 → q ≠ a → Hb[q]? = H8[q]? := fun q q1 q2 => by rw [ob q q2, oa q q1, o9 q q2]
  have kB : ∀ q : Nat, q < n + 134 → q ≠ a → Hb[q]? = H5[q]? := fun q q1 q2 => by rw [kA q (by omega) q2, o8 q (by omega) (by omega), o7 q (by omega), o6 q q2]
  have kC : ∀ q : Nat, q < n + 131 → q ≠ a → Hb[q]? = H2[q]? := fun q q1 q2 => by rw [kB q (by omega) q2, o5 q (by omega) (by omega), o4 q (by omega), o3 q q2]
  have hRep := repC bb (Or.inr ⟨H2, hG, fun q q1 q2 => kC q q2 (by omega)⟩) (hP.2.1.kept (kB _ (by omega) (by omega))) ((kB _ (by omega) (by omega)).trans (hP.2.2 0 _ rfl)) ((kB _ (by omega) (by omega)).trans (hP.2.2 1 _ rfl)) (hC.2.1.kept (kA _ (by omega) (by omega))) ((kA _ (by omega) (by omega)).trans (hC.2.2 0 _ rfl)) ((kA _ (by omega) (by omega)).trans (hC.2.2 1 _ rfl)) ((kA _ (by omega) (by omega)).trans (hC.2.2 2 _ rfl)) ((ob _ (by omega)).trans ra)
  refine g_cR (k := 0) G (c_X5_startAnew (l := l) (injC han) hF) VS_5 (by decide +kernel) hRep (g_recv (φ := 0) (i := 0) (ci := 5) hK rfl rfl rfl (by decide) hRep rfl) ⟨Nat.le_of_ble_eq_true rfl, Nat.le_of_ble_eq_true rfl⟩ ⟨Nat.le_of_ble_eq_true rfl, Nat.le_of_ble_eq_true rfl⟩ rfl hl.1 rfl (Nat.le_of_ble_eq_true rfl) dX5_init_45 (fun Hc Lc hR2 oc lc => ?_)
  refine x_ret G hR2 (fun q q1 q2 => ?_) (fun x hx => ?_) dX5_init_48
  · rw [oc q (fun h => by rcases adC h with h | h <;> omega), kC q (by omega) q2, o2 q (by omega) (by omega), o1 q q1]
  · simp only [List.mem_append, List.mem_singleton, List.not_mem_nil, or_false, false_or] at hx
    have fin : ∀ (w : Nat) (L : List Loc) (b n' : Nat), n ≤ b → n ≤ n' → (∀ x ∈ L, x.base = b ∨ n' ≤ x.base) → x ∈ L → x.base = a ∨ n ≤ x.base := fun _ L b n' h1 h2 hL h => by
      rcases hL x h with g | g
      · exact Or.inr (by rw [g]; exact h1)
      · exact Or.inr (Nat.le_trans h2 g)
    rcases hx with (((((((h | h) | h) | h) | h) | h) | h) | h)
    · exact fin 0 L2 n (n + 1) (by omega) (by omega) l2 h
    · rw [h]; exact Or.inl rfl
    · exact fin 0 L5 (n + 131) (n + 132) (by omega) (by omega) l5 h
    · rw [h]; exact Or.inl rfl
    · exact fin 0 L8 (n + 134) (n + 135) (by omega) (by omega) l8 h
    · rw [h]; exact Or.inl rfl
    · rw [h]; exact Or.inl rfl
    · exact adC (lc x h)
def vM (n : Nat) : Nat → Value := (updV (updV (updV (updV (updV (updV (updV (updV (updV (updV (updV (updV (updV (updV (updV (updV (updV (updV (updV (updV (updV (updV (updV (updV (updV (updV (updV (updV (updV (updV (updV (updV (updV (updV (updV (updV (updV (updV (updV (dV 6) 1 (.ref (n + 0))) 2 (.ref (n + 1))) 3 (.ref (n + 2))) 4 (.ref (n + 3))) 5 (.ref (n + 4))) 6 (.ref (n + 5))) 7 (.ref (n + 6))) 8 (.ref (n + 7))) 9 (.ref (n + 8))) 10 (.ref (n + 9))) 11 (.ref (n + 10))) 12 (.ref (n + 11))) 13 (.ref (n + 12))) 15 (.ref (n + 13))) 16 (.ref (n + 14))) 17 (.ref (n + 15))) 18 (.ref (n + 16))) 19 (.ref (n + 17))) 20 (.ref (n + 18))) 21 (.ref (n + 19))) 22 (.ref (n + 20))) 23 (.ref (n + 21))) 24 (.ref (n + 22))) 25 (.ref (n + 23))) 26 (.ref (n + 24))) 27 (.ref (n + 25))) 28 (.ref (n + 26))) 29 (.ref (n + 27))) 30 (.ref (n + 28))) 31 (.ref (n + 29))) 40 (.ref (n + 30))) 41 (.ref (n + 31))) 42 (.ref (n + 32))) 45 (.ref (n + 33))) 46 (.ref (n + 34))) 47 (.ref (n + 35))) 48 (.ref (n + 36))) 49 (.ref (n + 37))) 50 (.ref (n + 38)))
set_option maxHeartbeats 4000000 in
set_option maxRecDepth 100000 in
theorem vM_is {a n : Nat} : ∀ k, k < 51 → vM n k = sm_v (cty 6 k) (aM a n) σ00 20 0 k := fun k hk => match k, hk with | 0, _ => rfl | 1, _ => rfl | 2, _ => rfl | 3, _ => rfl | 4, _ => rfl | 5, _ => rfl | 6, _ => rfl | 7, _ => rfl | 8, _ => rfl | 9, _ => rfl | 10, _ => rfl | 11, _ => rfl | 12, _ => rfl | 13, _ => rfl | 14, _ => rfl | 15, _ => rfl | 16, _ => rfl | 17, _ => rfl | 18, _ => rfl | 19, _ => rfl | 20, _ => rfl | 21, _ => rfl | 22, _ => rfl | 23, _ => rfl | 24, _ => rfl | 25, _ => rfl | 26, _ => rfl | 27, _ => rfl | 28, _ => rfl | 29, _ => rfl | 30, _ => rfl | 31, _ => rfl | 32, _ => rfl | 33, _ => rfl | 34, _ => rfl | 35, _ => rfl | 36, _ => rfl | 37, _ => rfl | 38, _ => rfl | 39, _ => rfl | 40, _ => rfl | 41, _ => rfl | 42, _ => rfl | 43, _ => rfl | 44, _ => rfl | 45, _ => rfl | 46, _ => rfl | 47, _ => rfl | 48, _ => rfl | 49, _ => rfl | 50, _ => rfl | k + 51, h => absurd h (by omega)
set_option maxHeartbeats 4000000 in
set_option maxRecDepth 100000 in
theorem repM {D : va_G} {dA : Nat → ClassId} {a n : Nat} {H : Heap} (hX : t_OB a (D.1 6) 51 (D.2 6) H (vM n)) (hA : ∀ (j : Nat) (q : Nat × Nat), ([(0, 16), (0, 16), (0, 16), (0, 16), (0, 16), (0, 16), (0, 3200), (0, 16), (0, 16), (0, 16), (0, 16), (0, 16), (0, 128), (0, 40), (0, 40), (1, 40), (0, 2560), (0, 40), (0, 40), (0, 40), (0, 40), (1, 40), (0, 40), (0, 16), (0, 16), (0, 16), (0, 40), (0, 40), (0, 40), (1, 4), (0, 64), (0, 64), (0, 64), (1, 16), (0, 40), (0, 40), (0, 40), (1, 16), (1, 16)] : List (Nat × Nat))[j]? = some q → H[n + j]? = some (arrV (dA q.1) q.2 (fun _ => .int 0))) : Rep D dA 1 (aM a n) σ00 H := by
  intro φ i hS hN
  obtain ⟨rfl, h2, h3⟩ := famM hS hN
  have k1 : φ = 20 ∨ φ = 21 ∨ φ = 22 ∨ φ = 23 ∨ φ = 24 ∨ φ = 25 ∨ φ = 26 ∨ φ = 27 ∨ φ = 28 ∨ φ = 29 ∨ φ = 30 ∨ φ = 31 ∨ φ = 32 ∨ φ = 33 ∨ φ = 34 ∨ φ = 35 ∨ φ = 36 ∨ φ = 37 ∨ φ = 38 ∨ φ = 39 ∨ φ = 40 ∨ φ = 41 ∨ φ = 42 ∨ φ = 43 ∨ φ = 44 ∨ φ = 45 ∨ φ = 46 ∨ φ = 47 ∨ φ = 48 ∨ φ = 49 ∨ φ = 50 ∨ φ = 51 ∨ φ = 52 ∨ φ = 53 ∨ φ = 54 ∨ φ = 55 ∨ φ = 56 ∨ φ = 57 ∨ φ = 58 ∨ φ = 59 := by omega
  rcases k1 with rfl | rfl | rfl | rfl | rfl | rfl | rfl | rfl | rfl | rfl | rfl | rfl | rfl | rfl | rfl | rfl | rfl | rfl | rfl | rfl | rfl | rfl | rfl | rfl | rfl | rfl | rfl | rfl | rfl | rfl | rfl | rfl | rfl | rfl | rfl | rfl | rfl | rfl | rfl | rfl
  · exact ⟨fun _ => ⟨_, rfl, hX.to vM_is⟩, fun h => by cases h⟩
  · exact ⟨fun h => (by cases h), fun _ => hA 0 _ rfl⟩
  · exact ⟨fun h => (by cases h), fun _ => hA 1 _ rfl⟩
  · exact ⟨fun h => (by cases h), fun _ => hA 2 _ rfl⟩
  · exact ⟨fun h => (by cases h), fun _ => hA 3 _ rfl⟩
  · exact ⟨fun h => (by cases h), fun _ => hA 4 _ rfl⟩
  · exact ⟨fun h => (by cases h), fun _ => hA 5 _ rfl⟩
  · exact ⟨fun h => (by cases h), fun _ => hA 6 _ rfl⟩
  · exact ⟨fun h => (by cases h), fun _ => hA 7 _ rfl⟩
  · exact ⟨fun h => (by cases h), fun _ => hA 8 _ rfl⟩
  · exact ⟨fun h => (by cases h), fun _ => hA 9 _ rfl⟩
  · exact ⟨fun h => (by cases h), fun _ => hA 10 _ rfl⟩
  · exact ⟨fun h => (by cases h), fun _ => hA 11 _ rfl⟩
  · exact ⟨fun h => (by cases h), fun _ => hA 12 _ rfl⟩
  · exact ⟨fun h => (by cases h), fun _ => hA 13 _ rfl⟩
  · exact ⟨fun h => (by cases h), fun _ => hA 14 _ rfl⟩
  · exact ⟨fun h => (by cases h), fun _ => hA 15 _ rfl⟩
  · exact ⟨fun h => (by cases h), fun _ => hA 16 _ rfl⟩
  · exact ⟨fun h => (by cases h), fun _ => hA 17 _ rfl⟩
  · exact ⟨fun h => (by cases h), fun _ => hA 18 _ rfl⟩
  · exact ⟨fun h => (by cases h), fun _ => hA 19 _ rfl⟩
  · exact ⟨fun h => (by cases h), fun _ => hA 20 _ rfl⟩
  · exact ⟨fun h => (by cases h), fun _ => hA 21 _ rfl⟩
  · exact ⟨fun h => (by cases h), fun _ => hA 22 _ rfl⟩
  · exact ⟨fun h => (by cases h), fun _ => hA 23 _ rfl⟩
  · exact ⟨fun h => (by cases h), fun _ => hA 24 _ rfl⟩
  · exact ⟨fun h => (by cases h), fun _ => hA 25 _ rfl⟩
  · exact ⟨fun h => (by cases h), fun _ => hA 26 _ rfl⟩
  · exact ⟨fun h => (by cases h), fun _ => hA 27 _ rfl⟩
  · exact ⟨fun h => (by cases h), fun _ => hA 28 _ rfl⟩
  · exact ⟨fun h => (by cases h), fun _ => hA 29 _ rfl⟩
  · exact ⟨fun h => (by cases h), fun _ => hA 30 _ rfl⟩
  · exact ⟨fun h => (by cases h), fun _ => hA 31 _ rfl⟩
  · exact ⟨fun h => (by cases h), fun _ => hA 32 _ rfl⟩
  · exact ⟨fun h => (by cases h), fun _ => hA 33 _ rfl⟩
  · exact ⟨fun h => (by cases h), fun _ => hA 34 _ rfl⟩
  · exact ⟨fun h => (by cases h), fun _ => hA 35 _ rfl⟩
  · exact ⟨fun h => (by cases h), fun _ => hA 36 _ rfl⟩
  · exact ⟨fun h => (by cases h), fun _ => hA 37 _ rfl⟩
  · exact ⟨fun h => (by cases h), fun _ => hA 38 _ rfl⟩
abbrev rmM : Room := { frames := 1, cells := 39, slots := 6956, locals := 44 }
set_option maxHeartbeats 8000000 in
set_option maxRecDepth 100000 in
theorem c_X6_init {l : Launch} {D : va_G} {dA : Nat → ClassId} {a n : Nat} {σ1 : sm_M} (hF : f_X6_begin σ00 = some σ1) : xM l D dA yX6_init cX6_init 1 rmM a n 6 51 (Rep D dA 1 (aM a n) σ1) := by
  refine x_met (by decide +kernel) (by decide) (fun p e s m below meth c ls G hao hz han hob hl => ?_)
  obtain ⟨hx, hb, hr, hlk, hml, hown, hnm, hts, hK, hNw⟩ := id G
  have hX := xW.start (dA := dA) hz han hob
  refine lv_aload_n hx hb dX6_init_0 rfl (lv_at hl 0 rfl) ?_
  refine x_obj G wx_12 hl.1 ⟨Nat.le_of_ble_eq_true rfl, Nat.le_of_ble_eq_true rfl⟩ dX6_init_1 ?_
  refine lv_aload_n hx hb dX6_init_4 rfl (lv_at hl 0 rfl) ?_
  refine lv_bipush (v := 16) hx hb dX6_init_5 (by decide) ?_
  refine x_arI G inlX6 tyX6 tyX6_ok nmX6 (ci := 6) rfl 1 (by decide) wx_13 rfl rfl (by decide +kernel) 16 (by decide) rfl (by decide) hX (Nat.le_of_ble_eq_true rfl) (Nat.le_of_ble_eq_true rfl) dX6_init_7 dX6_init_9 (fun H locs hX => ?_)
  refine lv_aload_n hx hb dX6_init_12 rfl (lv_at hl 0 rfl) ?_
  refine lv_bipush (v := 16) hx hb dX6_init_13 (by decide) ?_
  refine x_arI G inlX6 tyX6 tyX6_ok nmX6 (ci := 6) rfl 2 (by decide) wx_14 rfl rfl (by decide +kernel) 16 (by decide) rfl (by decide) hX (Nat.le_of_ble_eq_true rfl) (Nat.le_of_ble_eq_true rfl) dX6_init_15 dX6_init_17 (fun H locs hX => ?_)
  refine lv_aload_n hx hb dX6_init_20 rfl (lv_at hl 0 rfl) ?_
  refine lv_bipush (v := 16) hx hb dX6_init_21 (by decide) ?_
  refine x_arI G inlX6 tyX6 tyX6_ok nmX6 (ci := 6) rfl 3 (by decide) wx_15 rfl rfl (by decide +kernel) 16 (by decide) rfl (by decide) hX (Nat.le_of_ble_eq_true rfl) (Nat.le_of_ble_eq_true rfl) dX6_init_23 dX6_init_25 (fun H locs hX => ?_)
  refine lv_aload_n hx hb dX6_init_28 rfl (lv_at hl 0 rfl) ?_
  refine lv_bipush (v := 16) hx hb dX6_init_29 (by decide) ?_
  refine x_arI G inlX6 tyX6 tyX6_ok nmX6 (ci := 6) rfl 4 (by decide) wx_16 rfl rfl (by decide +kernel) 16 (by decide) rfl (by decide) hX (Nat.le_of_ble_eq_true rfl) (Nat.le_of_ble_eq_true rfl) dX6_init_31 dX6_init_33 (fun H locs hX => ?_)
  refine lv_aload_n hx hb dX6_init_36 rfl (lv_at hl 0 rfl) ?_
  refine lv_bipush (v := 16) hx hb dX6_init_37 (by decide) ?_
  refine x_arI G inlX6 tyX6 tyX6_ok nmX6 (ci := 6) rfl 5 (by decide) wx_17 rfl rfl (by decide +kernel) 16 (by decide) rfl (by decide) hX (Nat.le_of_ble_eq_true rfl) (Nat.le_of_ble_eq_true rfl) dX6_init_39 dX6_init_41 (fun H locs hX => ?_)
  refine lv_aload_n hx hb dX6_init_44 rfl (lv_at hl 0 rfl) ?_
  refine lv_bipush (v := 16) hx hb dX6_init_45 (by decide) ?_
  refine x_arI G inlX6 tyX6 tyX6_ok nmX6 (ci := 6) rfl 6 (by decide) wx_18 rfl rfl (by decide +kernel) 16 (by decide) rfl (by decide) hX (Nat.le_of_ble_eq_true rfl) (Nat.le_of_ble_eq_true rfl) dX6_init_47 dX6_init_49 (fun H locs hX => ?_)
  refine lv_aload_n hx hb dX6_init_52 rfl (lv_at hl 0 rfl) ?_
  refine lv_sipush (v := 3200) hx hb dX6_init_53 (by decide) ?_
  refine x_arI G inlX6 tyX6 tyX6_ok nmX6 (ci := 6) rfl 7 (by decide) wx_19 rfl rfl (by decide +kernel) 3200 (by decide) rfl (by decide) hX (Nat.le_of_ble_eq_true rfl) (Nat.le_of_ble_eq_true rfl) dX6_init_56 dX6_init_58 (fun H locs hX => ?_)
  refine lv_aload_n hx hb dX6_init_61 rfl (lv_at hl 0 rfl) ?_
  refine lv_bipush (v := 16) hx hb dX6_init_62 (by decide) ?_
  refine x_arI G inlX6 tyX6 tyX6_ok nmX6 (ci := 6) rfl 8 (by decide) wx_20 rfl rfl (by decide +kernel) 16 (by decide) rfl (by decide) hX (Nat.le_of_ble_eq_true rfl) (Nat.le_of_ble_eq_true rfl) dX6_init_64 dX6_init_66 (fun H locs hX => ?_)
  refine lv_aload_n hx hb dX6_init_69 rfl (lv_at hl 0 rfl) ?_
  refine lv_bipush (v := 16) hx hb dX6_init_70 (by decide) ?_
  refine x_arI G inlX6 tyX6 tyX6_ok nmX6 (ci := 6) rfl 9 (by decide) wx_21 rfl rfl (by decide +kernel) 16 (by decide) rfl (by decide) hX (Nat.le_of_ble_eq_true rfl) (Nat.le_of_ble_eq_true rfl) dX6_init_72 dX6_init_74 (fun H locs hX => ?_)
  refine lv_aload_n hx hb dX6_init_77 rfl (lv_at hl 0 rfl) ?_
  refine lv_bipush (v := 16) hx hb dX6_init_78 (by decide) ?_
  refine x_arI G inlX6 tyX6 tyX6_ok nmX6 (ci := 6) rfl 10 (by decide) wx_22 rfl rfl (by decide +kernel) 16 (by decide) rfl (by decide) hX (Nat.le_of_ble_eq_true rfl) (Nat.le_of_ble_eq_true rfl) dX6_init_80 dX6_init_82 (fun H locs hX => ?_)
  refine lv_aload_n hx hb dX6_init_85 rfl (lv_at hl 0 rfl) ?_
  refine lv_bipush (v := 16) hx hb dX6_init_86 (by decide) ?_
  refine x_arI G inlX6 tyX6 tyX6_ok nmX6 (ci := 6) rfl 11 (by decide) wx_23 rfl rfl (by decide +kernel) 16 (by decide) rfl (by decide) hX (Nat.le_of_ble_eq_true rfl) (Nat.le_of_ble_eq_true rfl) dX6_init_88 dX6_init_90 (fun H locs hX => ?_)
  refine lv_aload_n hx hb dX6_init_93 rfl (lv_at hl 0 rfl) ?_
  refine lv_bipush (v := 16) hx hb dX6_init_94 (by decide) ?_
  refine x_arI G inlX6 tyX6 tyX6_ok nmX6 (ci := 6) rfl 12 (by decide) wx_24 rfl rfl (by decide +kernel) 16 (by decide) rfl (by decide) hX (Nat.le_of_ble_eq_true rfl) (Nat.le_of_ble_eq_true rfl) dX6_init_96 dX6_init_98 (fun H locs hX => ?_)
  refine lv_aload_n hx hb dX6_init_101 rfl (lv_at hl 0 rfl) ?_
  refine lv_sipush (v := 128) hx hb dX6_init_102 (by decide) ?_
  refine x_arI G inlX6 tyX6 tyX6_ok nmX6 (ci := 6) rfl 13 (by decide) wx_25 rfl rfl (by decide +kernel) 128 (by decide) rfl (by decide) hX (Nat.le_of_ble_eq_true rfl) (Nat.le_of_ble_eq_true rfl) dX6_init_105 dX6_init_107 (fun H locs hX => ?_)
  refine lv_aload_n hx hb dX6_init_110 rfl (lv_at hl 0 rfl) ?_
  refine lv_bipush (v := 40) hx hb dX6_init_111 (by decide) ?_
  refine x_arI G inlX6 tyX6 tyX6_ok nmX6 (ci := 6) rfl 15 (by decide) wx_26 rfl rfl (by decide +kernel) 40 (by decide) rfl (by decide) hX (Nat.le_of_ble_eq_true rfl) (Nat.le_of_ble_eq_true rfl) dX6_init_113 dX6_init_115 (fun H locs hX => ?_)
  refine lv_aload_n hx hb dX6_init_118 rfl (lv_at hl 0 rfl) ?_
  refine lv_bipush (v := 40) hx hb dX6_init_119 (by decide) ?_
  refine x_arI G inlX6 tyX6 tyX6_ok nmX6 (ci := 6) rfl 16 (by decide) wx_27 rfl rfl (by decide +kernel) 40 (by decide) rfl (by decide) hX (Nat.le_of_ble_eq_true rfl) (Nat.le_of_ble_eq_true rfl) dX6_init_121 dX6_init_123 (fun H locs hX => ?_)
  refine lv_aload_n hx hb dX6_init_126 rfl (lv_at hl 0 rfl) ?_
  refine lv_bipush (v := 40) hx hb dX6_init_127 (by decide) ?_
  refine x_arZ G inlX6 tyX6 tyX6_ok nmX6 (ci := 6) rfl 17 (by decide) wx_28 rfl rfl (by decide +kernel) 40 (by decide) rfl (by decide) hX (Nat.le_of_ble_eq_true rfl) (Nat.le_of_ble_eq_true rfl) dX6_init_129 dX6_init_131 (fun H locs hX => ?_)
  refine lv_aload_n hx hb dX6_init_134 rfl (lv_at hl 0 rfl) ?_
  refine lv_sipush (v := 2560) hx hb dX6_init_135 (by decide) ?_
  refine x_arI G inlX6 tyX6 tyX6_ok nmX6 (ci := 6) rfl 18 (by decide) wx_29 rfl rfl (by decide +kernel) 2560 (by decide) rfl (by decide) hX (Nat.le_of_ble_eq_true rfl) (Nat.le_of_ble_eq_true rfl) dX6_init_138 dX6_init_140 (fun H locs hX => ?_)
  refine lv_aload_n hx hb dX6_init_143 rfl (lv_at hl 0 rfl) ?_
  refine lv_bipush (v := 40) hx hb dX6_init_144 (by decide) ?_
  refine x_arI G inlX6 tyX6 tyX6_ok nmX6 (ci := 6) rfl 19 (by decide) wx_30 rfl rfl (by decide +kernel) 40 (by decide) rfl (by decide) hX (Nat.le_of_ble_eq_true rfl) (Nat.le_of_ble_eq_true rfl) dX6_init_146 dX6_init_148 (fun H locs hX => ?_)
  refine lv_aload_n hx hb dX6_init_151 rfl (lv_at hl 0 rfl) ?_
  refine lv_bipush (v := 40) hx hb dX6_init_152 (by decide) ?_
  refine x_arI G inlX6 tyX6 tyX6_ok nmX6 (ci := 6) rfl 20 (by decide) wx_31 rfl rfl (by decide +kernel) 40 (by decide) rfl (by decide) hX (Nat.le_of_ble_eq_true rfl) (Nat.le_of_ble_eq_true rfl) dX6_init_154 dX6_init_156 (fun H locs hX => ?_)
  refine lv_aload_n hx hb dX6_init_159 rfl (lv_at hl 0 rfl) ?_
  refine lv_bipush (v := 40) hx hb dX6_init_160 (by decide) ?_
  refine x_arI G inlX6 tyX6 tyX6_ok nmX6 (ci := 6) rfl 21 (by decide) wx_32 rfl rfl (by decide +kernel) 40 (by decide) rfl (by decide) hX (Nat.le_of_ble_eq_true rfl) (Nat.le_of_ble_eq_true rfl) dX6_init_162 dX6_init_164 (fun H locs hX => ?_)
  refine lv_aload_n hx hb dX6_init_167 rfl (lv_at hl 0 rfl) ?_
  refine lv_bipush (v := 40) hx hb dX6_init_168 (by decide) ?_
  refine x_arI G inlX6 tyX6 tyX6_ok nmX6 (ci := 6) rfl 22 (by decide) wx_33 rfl rfl (by decide +kernel) 40 (by decide) rfl (by decide) hX (Nat.le_of_ble_eq_true rfl) (Nat.le_of_ble_eq_true rfl) dX6_init_170 dX6_init_172 (fun H locs hX => ?_)
  refine lv_aload_n hx hb dX6_init_175 rfl (lv_at hl 0 rfl) ?_
  refine lv_bipush (v := 40) hx hb dX6_init_176 (by decide) ?_
  refine x_arZ G inlX6 tyX6 tyX6_ok nmX6 (ci := 6) rfl 23 (by decide) wx_34 rfl rfl (by decide +kernel) 40 (by decide) rfl (by decide) hX (Nat.le_of_ble_eq_true rfl) (Nat.le_of_ble_eq_true rfl) dX6_init_178 dX6_init_180 (fun H locs hX => ?_)
  refine lv_aload_n hx hb dX6_init_183 rfl (lv_at hl 0 rfl) ?_
  refine lv_bipush (v := 40) hx hb dX6_init_184 (by decide) ?_
  refine x_arI G inlX6 tyX6 tyX6_ok nmX6 (ci := 6) rfl 24 (by decide) wx_35 rfl rfl (by decide +kernel) 40 (by decide) rfl (by decide) hX (Nat.le_of_ble_eq_true rfl) (Nat.le_of_ble_eq_true rfl) dX6_init_186 dX6_init_188 (fun H locs hX => ?_)
  refine lv_aload_n hx hb dX6_init_191 rfl (lv_at hl 0 rfl) ?_
  refine lv_bipush (v := 16) hx hb dX6_init_192 (by decide) ?_
  refine x_arI G inlX6 tyX6 tyX6_ok nmX6 (ci := 6) rfl 25 (by decide) wx_36 rfl rfl (by decide +kernel) 16 (by decide) rfl (by decide) hX (Nat.le_of_ble_eq_true rfl) (Nat.le_of_ble_eq_true rfl) dX6_init_194 dX6_init_196 (fun H locs hX => ?_)
  refine lv_aload_n hx hb dX6_init_199 rfl (lv_at hl 0 rfl) ?_
  refine lv_bipush (v := 16) hx hb dX6_init_200 (by decide) ?_
  refine x_arI G inlX6 tyX6 tyX6_ok nmX6 (ci := 6) rfl 26 (by decide) wx_37 rfl rfl (by decide +kernel) 16 (by decide) rfl (by decide) hX (Nat.le_of_ble_eq_true rfl) (Nat.le_of_ble_eq_true rfl) dX6_init_202 dX6_init_204 (fun H locs hX => ?_)
  refine lv_aload_n hx hb dX6_init_207 rfl (lv_at hl 0 rfl) ?_
  refine lv_bipush (v := 16) hx hb dX6_init_208 (by decide) ?_
  refine x_arI G inlX6 tyX6 tyX6_ok nmX6 (ci := 6) rfl 27 (by decide) wx_38 rfl rfl (by decide +kernel) 16 (by decide) rfl (by decide) hX (Nat.le_of_ble_eq_true rfl) (Nat.le_of_ble_eq_true rfl) dX6_init_210 dX6_init_212 (fun H locs hX => ?_)
  refine lv_aload_n hx hb dX6_init_215 rfl (lv_at hl 0 rfl) ?_
  refine lv_bipush (v := 40) hx hb dX6_init_216 (by decide) ?_
  refine x_arI G inlX6 tyX6 tyX6_ok nmX6 (ci := 6) rfl 28 (by decide) wx_39 rfl rfl (by decide +kernel) 40 (by decide) rfl (by decide) hX (Nat.le_of_ble_eq_true rfl) (Nat.le_of_ble_eq_true rfl) dX6_init_218 dX6_init_220 (fun H locs hX => ?_)
  refine lv_aload_n hx hb dX6_init_223 rfl (lv_at hl 0 rfl) ?_
  refine lv_bipush (v := 40) hx hb dX6_init_224 (by decide) ?_
  refine x_arI G inlX6 tyX6 tyX6_ok nmX6 (ci := 6) rfl 29 (by decide) wx_40 rfl rfl (by decide +kernel) 40 (by decide) rfl (by decide) hX (Nat.le_of_ble_eq_true rfl) (Nat.le_of_ble_eq_true rfl) dX6_init_226 dX6_init_228 (fun H locs hX => ?_)
  refine lv_aload_n hx hb dX6_init_231 rfl (lv_at hl 0 rfl) ?_
  refine lv_bipush (v := 40) hx hb dX6_init_232 (by decide) ?_
  refine x_arI G inlX6 tyX6 tyX6_ok nmX6 (ci := 6) rfl 30 (by decide) wx_41 rfl rfl (by decide +kernel) 40 (by decide) rfl (by decide) hX (Nat.le_of_ble_eq_true rfl) (Nat.le_of_ble_eq_true rfl) dX6_init_234 dX6_init_236 (fun H locs hX => ?_)
  refine lv_aload_n hx hb dX6_init_239 rfl (lv_at hl 0 rfl) ?_
  refine lv_iconst (v := 4) hx hb dX6_init_240 (by decide) ?_
  refine x_arZ G inlX6 tyX6 tyX6_ok nmX6 (ci := 6) rfl 31 (by decide) wx_42 rfl rfl (by decide +kernel) 4 (by decide) rfl (by decide) hX (Nat.le_of_ble_eq_true rfl) (Nat.le_of_ble_eq_true rfl) dX6_init_241 dX6_init_243 (fun H locs hX => ?_)
  refine lv_aload_n hx hb dX6_init_246 rfl (lv_at hl 0 rfl) ?_
  refine lv_bipush (v := 64) hx hb dX6_init_247 (by decide) ?_
  refine x_arI G inlX6 tyX6 tyX6_ok nmX6 (ci := 6) rfl 40 (by decide) wx_43 rfl rfl (by decide +kernel) 64 (by decide) rfl (by decide) hX (Nat.le_of_ble_eq_true rfl) (Nat.le_of_ble_eq_true rfl) dX6_init_249 dX6_init_251 (fun H locs hX => ?_)
  refine lv_aload_n hx hb dX6_init_254 rfl (lv_at hl 0 rfl) ?_
  refine lv_bipush (v := 64) hx hb dX6_init_255 (by decide) ?_
  refine x_arI G inlX6 tyX6 tyX6_ok nmX6 (ci := 6) rfl 41 (by decide) wx_44 rfl rfl (by decide +kernel) 64 (by decide) rfl (by decide) hX (Nat.le_of_ble_eq_true rfl) (Nat.le_of_ble_eq_true rfl) dX6_init_257 dX6_init_259 (fun H locs hX => ?_)
  refine lv_aload_n hx hb dX6_init_262 rfl (lv_at hl 0 rfl) ?_
  refine lv_bipush (v := 64) hx hb dX6_init_263 (by decide) ?_
  refine x_arI G inlX6 tyX6 tyX6_ok nmX6 (ci := 6) rfl 42 (by decide) wx_45 rfl rfl (by decide +kernel) 64 (by decide) rfl (by decide) hX (Nat.le_of_ble_eq_true rfl) (Nat.le_of_ble_eq_true rfl) dX6_init_265 dX6_init_267 (fun H locs hX => ?_)
  refine lv_aload_n hx hb dX6_init_270 rfl (lv_at hl 0 rfl) ?_
  refine lv_bipush (v := 16) hx hb dX6_init_271 (by decide) ?_
  refine x_arZ G inlX6 tyX6 tyX6_ok nmX6 (ci := 6) rfl 45 (by decide) wx_46 rfl rfl (by decide +kernel) 16 (by decide) rfl (by decide) hX (Nat.le_of_ble_eq_true rfl) (Nat.le_of_ble_eq_true rfl) dX6_init_273 dX6_init_275 (fun H locs hX => ?_)
  refine lv_aload_n hx hb dX6_init_278 rfl (lv_at hl 0 rfl) ?_
  refine lv_bipush (v := 40) hx hb dX6_init_279 (by decide) ?_
  refine x_arI G inlX6 tyX6 tyX6_ok nmX6 (ci := 6) rfl 46 (by decide) wx_47 rfl rfl (by decide +kernel) 40 (by decide) rfl (by decide) hX (Nat.le_of_ble_eq_true rfl) (Nat.le_of_ble_eq_true rfl) dX6_init_281 dX6_init_283 (fun H locs hX => ?_)
  refine lv_aload_n hx hb dX6_init_286 rfl (lv_at hl 0 rfl) ?_
  refine lv_bipush (v := 40) hx hb dX6_init_287 (by decide) ?_
  refine x_arI G inlX6 tyX6 tyX6_ok nmX6 (ci := 6) rfl 47 (by decide) wx_48 rfl rfl (by decide +kernel) 40 (by decide) rfl (by decide) hX (Nat.le_of_ble_eq_true rfl) (Nat.le_of_ble_eq_true rfl) dX6_init_289 dX6_init_291 (fun H locs hX => ?_)
  refine lv_aload_n hx hb dX6_init_294 rfl (lv_at hl 0 rfl) ?_
  refine lv_bipush (v := 40) hx hb dX6_init_295 (by decide) ?_
  refine x_arI G inlX6 tyX6 tyX6_ok nmX6 (ci := 6) rfl 48 (by decide) wx_49 rfl rfl (by decide +kernel) 40 (by decide) rfl (by decide) hX (Nat.le_of_ble_eq_true rfl) (Nat.le_of_ble_eq_true rfl) dX6_init_297 dX6_init_299 (fun H locs hX => ?_)
  refine lv_aload_n hx hb dX6_init_302 rfl (lv_at hl 0 rfl) ?_
  refine lv_bipush (v := 16) hx hb dX6_init_303 (by decide) ?_
  refine x_arZ G inlX6 tyX6 tyX6_ok nmX6 (ci := 6) rfl 49 (by decide) wx_50 rfl rfl (by decide +kernel) 16 (by decide) rfl (by decide) hX (Nat.le_of_ble_eq_true rfl) (Nat.le_of_ble_eq_true rfl) dX6_init_305 dX6_init_307 (fun H locs hX => ?_)
  refine lv_aload_n hx hb dX6_init_310 rfl (lv_at hl 0 rfl) ?_
  refine lv_bipush (v := 16) hx hb dX6_init_311 (by decide) ?_
  refine x_arZ G inlX6 tyX6 tyX6_ok nmX6 (ci := 6) rfl 50 (by decide) wx_51 rfl rfl (by decide +kernel) 16 (by decide) rfl (by decide) hX (Nat.le_of_ble_eq_true rfl) (Nat.le_of_ble_eq_true rfl) dX6_init_313 dX6_init_315 (fun H locs hX => ?_)
  refine lv_aload_n hx hb dX6_init_318 rfl (lv_at hl 0 rfl) ?_
  have hRep : Rep D dA 1 (aM a n) σ00 H := repM hX.2.2.1 hX.2.2.2.1
  refine g_cR (k := 0) G (c_X6_begin (l := l) (injM han) hF) VS_6 (by decide +kernel) hRep (g_recv (φ := 20) (i := 0) (ci := 6) hK rfl rfl rfl (by decide) hRep rfl) ⟨Nat.le_of_ble_eq_true rfl, Nat.le_of_ble_eq_true rfl⟩ ⟨Nat.le_of_ble_eq_true rfl, Nat.le_of_ble_eq_true rfl⟩ rfl hl.1 rfl (Nat.le_of_ble_eq_true rfl) dX6_init_319 (fun Hc Lc hR2 oc lc => ?_)
  refine x_ret G hR2 (fun q q1 q2 => ?_) (fun x hx => ?_) dX6_init_322
  · rw [oc q (fun h => by rcases adM h with h | h <;> omega)]; exact hX.2.2.2.2.1 q q1 q2
  · rcases List.mem_append.mp hx with h | h
    · exact hX.2.2.2.2.2 x h
    · exact adM (lc x h)
