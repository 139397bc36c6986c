theorem WF_11 : Cond.fieldLink RX2 11 "RegionRestarts$Graph" "tasks" "[LRegionRestarts$Task;" ∈ wsL_law := wr_2 _ (List.mem_of_getElem? (i := 7) rfl)
theorem WF_19 : Cond.fieldLink RX2 19 "RegionRestarts$Graph" "channels" "[LRegionRestarts$Channel;" ∈ wsL_law := wr_2 _ (List.mem_of_getElem? (i := 9) rfl)
theorem WO_2 : Cond.methodLink RX2 3 objectInit ∈ wsL_law := wr_2 _ (List.mem_of_getElem? (i := 5) rfl)
theorem WL_9 : Cond.classLink RX2 9 RX4 ∈ wsL_law := wr_2 _ (List.mem_of_getElem? (i := 6) rfl)
theorem WL_17 : Cond.classLink RX2 17 RX1 ∈ wsL_law := wr_2 _ (List.mem_of_getElem? (i := 8) rfl)
theorem WN_4 : Cond.classLink RX2 9 RX4 ∈ wsL_law ∧ Cond.instantiable RX4 17 ∈ wsL_law ∧ Cond.initialized RX4 ∈ wsL_law := ⟨wr_2 _ (List.mem_of_getElem? (i := 6) rfl), wr_2 _ (List.mem_of_getElem? (i := 10) rfl), wr_2 _ (List.mem_of_getElem? (i := 11) rfl)⟩
theorem WN_1 : Cond.classLink RX2 17 RX1 ∈ wsL_law ∧ Cond.instantiable RX1 12 ∈ wsL_law ∧ Cond.initialized RX1 ∈ wsL_law := ⟨wr_2 _ (List.mem_of_getElem? (i := 8) rfl), wr_2 _ (List.mem_of_getElem? (i := 12) rfl), wr_2 _ (List.mem_of_getElem? (i := 13) rfl)⟩
theorem WC_4 : Cond.instanceMethod yX4_init ∈ wsL_law ∧ Cond.initialized RX4 ∈ wsL_law ∧ Cond.code yX4_init cX4_init 1 none ∈ wsL_law := ⟨wr_2 _ (List.mem_of_getElem? (i := 14) rfl), wr_2 _ (List.mem_of_getElem? (i := 11) rfl), wr_2 _ (List.mem_of_getElem? (i := 15) rfl)⟩
theorem WC_1 : Cond.instanceMethod yX1_init ∈ wsL_law ∧ Cond.initialized RX1 ∈ wsL_law ∧ Cond.code yX1_init cX1_init 1 none ∈ wsL_law := ⟨wr_2 _ (List.mem_of_getElem? (i := 20) rfl), wr_2 _ (List.mem_of_getElem? (i := 13) rfl), wr_2 _ (List.mem_of_getElem? (i := 21) rfl)⟩
theorem WC_3 : Cond.instanceMethod yX3_init ∈ wsL_law ∧ Cond.initialized RX3 ∈ wsL_law ∧ Cond.code yX3_init cX3_init 1 none ∈ wsL_law := ⟨wr_3 _ (List.mem_of_getElem? (i := 0) rfl), wr_1 _ (List.mem_of_getElem? (i := 18) rfl), wr_3 _ (List.mem_of_getElem? (i := 1) rfl)⟩
theorem WC_0 : Cond.instanceMethod yX0_init ∈ wsL_law ∧ Cond.initialized RX0 ∈ wsL_law ∧ Cond.code yX0_init cX0_init 1 none ∈ wsL_law := ⟨wr_3 _ (List.mem_of_getElem? (i := 5) rfl), wr_1 _ (List.mem_of_getElem? (i := 22) rfl), wr_3 _ (List.mem_of_getElem? (i := 6) rfl)⟩
section GRA
variable {p : Program} {l : Launch} {e : Env} {s : State} {m : MethodId} {args : Array Value} {below : List Frame} {meth : Method} {c : Code} {Q : State → Prop} {a n : Nat} {D : va_G} {dA : Nat → ClassId}
abbrev rmG : Room := { frames := 2, cells := 130, slots := 6696, locals := 88 }
set_option maxHeartbeats 4000000 in
set_option maxRecDepth 100000 in
theorem w_X2_init_51 (G : gx p s m meth c args cX2_init 2 none RX2 "<init>" D dA) (hao : aO s) (han : a < n)
    (kk : ∀ (H : Heap) (locs : List Loc) (ls : Array Slot), gP D dA a n 16 40 H → (∀ q : Nat, q < n → q ≠ a → H[q]? = s.heap[q]?) → (∀ x ∈ locs, x.base = a ∨ n ≤ x.base) → W p l e rmG s m args below meth c H locs 130 6696 Q (F0 m 76 ls [])) :
    ∀ (d t : Nat), t + d = 40 → ∀ (H : Heap) (locs : List Loc) (ls : Array Slot) (cells slots : Nat), cells = 50 + 2 * t → slots = 3656 + 76 * t → gP D dA a n 16 t H → (∀ q : Nat, q < n → q ≠ a → H[q]? = s.heap[q]?) → (∀ x ∈ locs, x.base = a ∨ n ≤ x.base) → lv_has ls 2 [(1, .int (Int32.ofNat t)), (0, .ref a)] → W p l e rmG s m args below meth c H locs cells slots Q (F0 m 51 ls []) := by
  obtain ⟨hx, hb, hr, hlk, hml, hown, hnm, hts, hK, hNw⟩ := id G
  intro d
  induction d with
  | zero =>
    intro t ht H locs ls cells slots h1 h2 hP hO hL hl
    obtain rfl : t = 40 := by omega
    subst h1; subst h2
    refine lv_iload_n hx hb dX2_init_51 rfl (lv_at hl 0 rfl) ?_
    refine lv_bipush (v := 40) hx hb dX2_init_52 (by decide) ?_
    refine lv_icmp_ge (tgt := 76) hx hb dX2_init_54 (by decide) (fun hc => ?_) (fun hc => absurd (by decide) hc)
    exact kk H locs ls hP hO hL
  | succ d ih =>
    intro t ht H locs ls cells slots h1 h2 hP hO hL hl
    have htn : (Int32.ofNat t).toNatClampNeg = t := Int32.toNatClampNeg_ofNat_of_lt (by omega)
    have ht0 : ¬ Int32.ofNat t < 0 := by
      rw [Int32.lt_iff_toInt_lt, Int32.toInt_ofNat_of_lt (by omega)]; simp
    refine lv_iload_n hx hb dX2_init_51 rfl (lv_at hl 0 rfl) ?_
    refine lv_bipush (v := 40) hx hb dX2_init_52 (by decide) ?_
    refine lv_icmp_ge (tgt := 76) hx hb dX2_init_54 (by decide) (fun hc => absurd ((i32_le (t := 40) (u := t) (by omega) (by omega)).mp hc) (by omega)) (fun hc => ?_)
    obtain ⟨g1, g2, g3, g4, g5, g6⟩ := hP
    refine lv_aload_n hx hb dX2_init_57 rfl (lv_at hl 1 rfl) ?_
    refine x_get G inlX2 (ci := 2) rfl 1 (by decide) WF_19 rfl g2 (v := .ref (n + 1)) rfl dX2_init_58 ?_
    refine lv_iload_n hx hb dX2_init_61 rfl (lv_at hl 0 rfl) ?_
    refine x_new G inlX1 tyX1 tyX1_ok (ci := 1) rfl WN_1 g1 (by show cells + 1 ≤ 130; omega) (by show slots + 12 ≤ 6696; omega) dX2_init_62 (fun H1 z1 o1 b1 => ?_)
    refine lv_dup hx hb dX2_init_65 rfl ?_
    refine x_cN (host := "RegionRestarts") (ci := 1) (N := 12) G hao (c_X1_init (a := n + 2 + 3 * 16 + 2 * t) (n := n + 2 + 3 * 16 + 2 * t + 1)) ⟨hNw.2.2.2.1, WC_1.1, WC_1.2.1, WC_1.2.2⟩ (by decide +kernel) rfl z1 (by omega) b1 ⟨Nat.le_of_ble_eq_true rfl, Nat.le_of_ble_eq_true rfl⟩ ⟨by show cells + 1 + 1 ≤ 130; omega, by show slots + 12 + 64 ≤ 6696; omega⟩ hl.1 (Nat.le_of_ble_eq_true rfl) dX2_init_66 (fun H2 L hA o2 hL2 => ?_)
    obtain ⟨y1, y2, y3⟩ := hA
    have y3 := y3 0 _ rfl
    have hk : ∀ q : Nat, q < n + 2 + 3 * 16 + 2 * t → H2[q]? = H[q]? := fun q hq => by rw [o2 q (by omega) (by omega), o1 q hq]
    refine x_aast G (t := 3) (ci := 1) (by decide) rfl rfl (f := fun j => if j < t then .ref (n + 50 + 2 * j) else .null) (by rw [hk _ (by omega)]; exact g4) y2 (x := Int32.ofNat t) ht0 (by rw [htn]; omega) dX2_init_69 (fun H3 z3 o3 r3 => ?_)
    refine lv_iinc (v := Int32.ofNat (t + 1)) (lv' := [(1, .int (Int32.ofNat (t + 1))), (0, .ref a)]) hx hb dX2_init_70 hl (k := 0) rfl (i32_inc t) (by decide) rfl (fun ls hl => ?_)
    refine lv_goto (tgt := 51) hx hb dX2_init_73 (by decide) ?_
    rw [htn] at r3
    have hk3 : ∀ q : Nat, q < n + 2 + 3 * 16 + 2 * t → q ≠ n + 1 → H3[q]? = H[q]? := fun q hq hq2 => by rw [o3 q hq2, hk q hq]
    refine ih (t + 1) (by omega) H3 _ ls _ _ (by show cells + 1 + 1 = _; omega) (by show slots + 12 + 64 = _; omega) ⟨by rw [z3, y1]; show n + 2 + 3 * 16 + 2 * t + 1 + 1 = _; omega, g2.kept (hk3 a (by omega) (by omega)), ?_, ?_, fun j hj => (g5 j hj).kept (fun q q1 q2 => hk3 q (by omega) (by omega)), fun j hj => ?_⟩ (fun q q1 q2 => by rw [hk3 q (by omega) (by omega)]; exact hO q q1 q2) (fun x hx => ?_) hl
    · rw [hk3 n (by omega) (by omega)]; exact g3
    · rw [r3]
      exact congrArg some (arrV_to fun j hj => by
        by_cases h : j = t
        · subst h; simp [updV]
        · simp only [updV, if_neg h]
          by_cases h2 : j < t
          · simp [h2, Nat.lt_succ_of_lt h2]
          · rw [if_neg h2, if_neg (by omega)])
    · by_cases h : j = t
      · subst h
        have e0 : n + 2 + 3 * 16 + 2 * j = n + 50 + 2 * j := by omega
        rw [e0] at y2 y3
        refine ⟨?_, ?_⟩
        · exact y2.kept (o3 _ (by omega))
        · rw [o3 _ (by omega)]; exact y3
      · exact (g6 j (by omega)).kept (fun q q1 q2 => hk3 q (by omega) (by omega))
    · rcases List.mem_append.mp hx with h | h
      · rcases List.mem_append.mp h with h | h
        · exact hL x h
        · rcases hL2 x h with h | h
          · exact Or.inr (by rw [h]; omega)
          · exact Or.inr (Nat.le_trans (by omega) h)
      · rw [List.mem_singleton.mp h]; exact Or.inr (by show n ≤ n + 1; omega)
set_option maxHeartbeats 4000000 in
set_option maxRecDepth 100000 in
theorem w_X2_init_24 (G : gx p s m meth c args cX2_init 2 none RX2 "<init>" D dA) (hao : aO s) (han : a < n)
    (kk : ∀ (H : Heap) (locs : List Loc) (ls : Array Slot), gP D dA a n 16 40 H → (∀ q : Nat, q < n → q ≠ a → H[q]? = s.heap[q]?) → (∀ x ∈ locs, x.base = a ∨ n ≤ x.base) → W p l e rmG s m args below meth c H locs 130 6696 Q (F0 m 76 ls [])) :
    ∀ (d t : Nat), t + d = 16 → ∀ (H : Heap) (locs : List Loc) (ls : Array Slot) (cells slots : Nat), cells = 2 + 3 * t → slots = 56 + 225 * t → gP D dA a n t 0 H → (∀ q : Nat, q < n → q ≠ a → H[q]? = s.heap[q]?) → (∀ x ∈ locs, x.base = a ∨ n ≤ x.base) → lv_has ls 2 [(1, .int (Int32.ofNat t)), (0, .ref a)] → W p l e rmG s m args below meth c H locs cells slots Q (F0 m 24 ls []) := by
  obtain ⟨hx, hb, hr, hlk, hml, hown, hnm, hts, hK, hNw⟩ := id G
  intro d
  induction d with
  | zero =>
    intro t ht H locs ls cells slots h1 h2 hP hO hL hl
    obtain rfl : t = 16 := by omega
    subst h1; subst h2
    refine lv_iload_n hx hb dX2_init_24 rfl (lv_at hl 0 rfl) ?_
    refine lv_bipush (v := 16) hx hb dX2_init_25 (by decide) ?_
    refine lv_icmp_ge (tgt := 49) hx hb dX2_init_27 (by decide) (fun hc => ?_) (fun hc => absurd (by decide) hc)
    refine lv_iconst (v := 0) hx hb dX2_init_49 (by decide) ?_
    refine lv_istore_n (lv' := [(1, .int 0), (0, .ref a)]) hx hb dX2_init_50 rfl hl (by decide) rfl (fun ls hl => ?_)
    exact w_X2_init_51 G hao han kk 40 0 rfl H locs ls _ _ rfl rfl hP hO hL hl
  | succ d ih =>
    intro t ht H locs ls cells slots h1 h2 hP hO hL hl
    have htn : (Int32.ofNat t).toNatClampNeg = t := Int32.toNatClampNeg_ofNat_of_lt (by omega)
    have ht0 : ¬ Int32.ofNat t < 0 := by
      rw [Int32.lt_iff_toInt_lt, Int32.toInt_ofNat_of_lt (by omega)]; simp
    refine lv_iload_n hx hb dX2_init_24 rfl (lv_at hl 0 rfl) ?_
    refine lv_bipush (v := 16) hx hb dX2_init_25 (by decide) ?_
    refine lv_icmp_ge (tgt := 49) hx hb dX2_init_27 (by decide) (fun hc => absurd ((i32_le (t := 16) (u := t) (by omega) (by omega)).mp hc) (by omega)) (fun hc => ?_)
    obtain ⟨g1, g2, g3, g4, g5, g6⟩ := hP
    refine lv_aload_n hx hb dX2_init_30 rfl (lv_at hl 1 rfl) ?_
    refine x_get G inlX2 (ci := 2) rfl 0 (by decide) WF_11 rfl g2 (v := .ref n) rfl dX2_init_31 ?_
    refine lv_iload_n hx hb dX2_init_34 rfl (lv_at hl 0 rfl) ?_
    refine x_new G inlX4 tyX4 tyX4_ok (ci := 4) rfl WN_4 g1 (by show cells + 1 ≤ 130; omega) (by show slots + 17 ≤ 6696; omega) dX2_init_35 (fun H1 z1 o1 b1 => ?_)
    refine lv_dup hx hb dX2_init_38 rfl ?_
    refine x_cN (host := "RegionRestarts") (ci := 4) (N := 17) G hao (c_X4_init (a := n + 2 + 3 * t + 2 * 0) (n := n + 2 + 3 * t + 2 * 0 + 1)) ⟨hNw.2.2.1, WC_4.1, WC_4.2.1, WC_4.2.2⟩ (by decide +kernel) rfl z1 (by omega) b1 ⟨Nat.le_of_ble_eq_true rfl, Nat.le_of_ble_eq_true rfl⟩ ⟨by show cells + 1 + 2 ≤ 130; omega, by show slots + 17 + 208 ≤ 6696; omega⟩ hl.1 (Nat.le_of_ble_eq_true rfl) dX2_init_39 (fun H2 L hA o2 hL2 => ?_)
    obtain ⟨y1, y2, y3⟩ := hA
    have y4 := y3 1 _ rfl
    have y3 := y3 0 _ rfl
    have hk : ∀ q : Nat, q < n + 2 + 3 * t + 2 * 0 → H2[q]? = H[q]? := fun q hq => by rw [o2 q (by omega) (by omega), o1 q hq]
    refine x_aast G (t := 2) (ci := 4) (by decide) rfl rfl (f := fun j => if j < t then .ref (n + 2 + 3 * j) else .null) (by rw [hk _ (by omega)]; exact g3) y2 (x := Int32.ofNat t) ht0 (by rw [htn]; omega) dX2_init_42 (fun H3 z3 o3 r3 => ?_)
    refine lv_iinc (v := Int32.ofNat (t + 1)) (lv' := [(1, .int (Int32.ofNat (t + 1))), (0, .ref a)]) hx hb dX2_init_43 hl (k := 0) rfl (i32_inc t) (by decide) rfl (fun ls hl => ?_)
    refine lv_goto (tgt := 24) hx hb dX2_init_46 (by decide) ?_
    rw [htn] at r3
    have hk3 : ∀ q : Nat, q < n + 2 + 3 * t + 2 * 0 → q ≠ n → H3[q]? = H[q]? := fun q hq hq2 => by rw [o3 q hq2, hk q hq]
    refine ih (t + 1) (by omega) H3 _ ls _ _ (by show cells + 1 + 2 = _; omega) (by show slots + 17 + 208 = _; omega) ⟨by rw [z3, y1]; show n + 2 + 3 * t + 2 * 0 + 1 + 2 = _; omega, g2.kept (hk3 a (by omega) (by omega)), ?_, ?_, fun j hj => ?_, fun j hj => absurd hj (Nat.not_lt_zero j)⟩ (fun q q1 q2 => by rw [hk3 q (by omega) (by omega)]; exact hO q q1 q2) (fun x hx => ?_) hl
    · rw [r3]
      exact congrArg some (arrV_to fun j hj => by
        by_cases h : j = t
        · subst h; simp [updV]
        · simp only [updV, if_neg h]
          by_cases h2 : j < t
          · simp [h2, Nat.lt_succ_of_lt h2]
          · rw [if_neg h2, if_neg (by omega)])
    · rw [hk3 (n + 1) (by omega) (by omega)]; exact g4
    · by_cases h : j = t
      · subst h
        have e0 : n + 2 + 3 * j + 2 * 0 = n + 2 + 3 * j := by omega
        rw [e0] at y2 y3 y4
        refine ⟨y2.kept (o3 _ (by omega)), ?_, ?_⟩
        · rw [o3 _ (by omega)]; exact y3
        · rw [o3 _ (by omega)]; exact y4
      · exact (g5 j (by omega)).kept (fun q q1 q2 => hk3 q (by omega) (by omega))
    · rcases List.mem_append.mp hx with h | h
      · rcases List.mem_append.mp h with h | h
        · exact hL x h
        · rcases hL2 x h with h | h
          · exact Or.inr (by rw [h]; omega)
          · exact Or.inr (Nat.le_trans (by omega) h)
      · rw [List.mem_singleton.mp h]; exact Or.inr (Nat.le_refl n)
end GRA
set_option maxHeartbeats 4000000 in
set_option maxRecDepth 100000 in
theorem c_X2_init {l : Launch} {D : va_G} {dA : Nat → ClassId} {a n : Nat} : xM l D dA yX2_init cX2_init 2 rmG a n 2 4 (gP D dA a n 16 40) := by
  refine x_met (by decide +kernel) (by decide) (fun p e s m below meth c ls G hao hz han hob hl => ?_)
  obtain ⟨hx, hb, hr, hlk, hml, hown, hnm, hts, hK, hNw⟩ := id G
  refine lv_aload_n hx hb dX2_init_0 rfl (lv_at hl 0 rfl) ?_
  refine x_obj G WO_2 hl.1 ⟨Nat.le_of_ble_eq_true rfl, Nat.le_of_ble_eq_true rfl⟩ dX2_init_1 ?_
  refine lv_aload_n hx hb dX2_init_4 rfl (lv_at hl 0 rfl) ?_
  refine lv_bipush (v := 16) hx hb dX2_init_5 (by decide) ?_
  refine x_anew G (t := 2) (C := RX4) (N := 16) (by decide) rfl hao.1 WL_9 (by decide) rfl (by decide) hz (Nat.le_of_ble_eq_true rfl) (Nat.le_of_ble_eq_true rfl) dX2_init_7 (fun H1 z1 o1 r1 => ?_)
  refine x_putF G inlX2 tyX2 tyX2_ok nmX2 (ci := 2) rfl 0 (by decide) WF_11 rfl rfl (ty := .array (.object "RegionRestarts$Task")) (by decide +kernel) rfl rfl (hob.kept (o1 a han)) dX2_init_10 (fun H2 i2 z2 o2 b2 => ?_)
  refine lv_aload_n hx hb dX2_init_13 rfl (lv_at hl 0 rfl) ?_
  refine lv_bipush (v := 40) hx hb dX2_init_14 (by decide) ?_
  refine x_anew G (t := 3) (C := RX1) (N := 40) (n := n + 1) (by decide) rfl hao.2 WL_17 (by decide) rfl (by decide) (by rw [z2, z1]) (Nat.le_of_ble_eq_true rfl) (Nat.le_of_ble_eq_true rfl) dX2_init_16 (fun H3 z3 o3 r3 => ?_)
  refine x_putF G inlX2 tyX2 tyX2_ok nmX2 (ci := 2) rfl 1 (by decide) WF_19 rfl rfl (ty := .array (.object "RegionRestarts$Channel")) (by decide +kernel) rfl rfl (b2.kept (o3 a (by omega))) dX2_init_19 (fun H4 i4 z4 o4 b4 => ?_)
  refine lv_iconst (v := 0) hx hb dX2_init_22 (by decide) ?_
  refine lv_istore_n (lv' := [(1, .int 0), (0, .ref a)]) hx hb dX2_init_23 rfl hl (by decide) rfl (fun ls hl => ?_)
  refine w_X2_init_24 G hao han (fun H locs ls hP hO hL => x_ret G hP hO hL dX2_init_76) 16 0 rfl H4 _ ls _ _ rfl rfl ⟨by rw [z4, z3], b4, ?_, ?_, fun j hj => absurd hj (Nat.not_lt_zero j), fun j hj => absurd hj (Nat.not_lt_zero j)⟩ (fun q q1 q2 => by rw [o4 q q2, o3 q (by omega), o2 q q2, o1 q q1]) (fun x hx => ?_) hl
  · rw [o4 _ (by omega), o3 _ (by omega), o2 _ (by omega), r1]; rfl
  · rw [o4 _ (by omega), r3]; rfl
  · simp at hx
    rcases hx with rfl | rfl <;> exact Or.inl rfl
