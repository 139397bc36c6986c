theorem tn_0 : Cond.methodLinkNest RX1 53 yX5_isIn "RegionRestarts" ∈ lw_tbl := ta_2 _ (List.mem_of_getElem? (i := 157) rfl)
theorem tn_1 : Cond.methodLinkNest RX2 94 yX5_isIn "RegionRestarts" ∈ lw_tbl := ta_2 _ (List.mem_of_getElem? (i := 195) rfl)
theorem tn_2 : Cond.methodLinkNest RX2 23 yX4_init "RegionRestarts" ∈ lw_tbl := ta_1 _ (List.mem_of_getElem? (i := 29) rfl)
theorem tn_3 : Cond.methodLinkNest RX2 24 yX1_init "RegionRestarts" ∈ lw_tbl := ta_1 _ (List.mem_of_getElem? (i := 109) rfl)
theorem tn_4 : Cond.methodLinkNest RX5 18 yX3_init "RegionRestarts" ∈ lw_tbl := ta_1 _ (List.mem_of_getElem? (i := 192) rfl)
theorem tn_5 : Cond.methodLinkNest RX5 25 yX0_init "RegionRestarts" ∈ lw_tbl := ta_1 _ (List.mem_of_getElem? (i := 218) rfl)
theorem to_4 : Cond.arrayOver (.object "RegionRestarts$Task") ∈ lw_tbl := ta_1 _ (List.mem_of_getElem? (i := 25) rfl)
theorem to_1 : Cond.arrayOver (.object "RegionRestarts$Channel") ∈ lw_tbl := ta_1 _ (List.mem_of_getElem? (i := 27) rfl)
theorem SN_5 : Cond.classLink RL 7 RX5 ∈ wsL_law ∧ Cond.instantiable RX5 13 ∈ wsL_law ∧ Cond.initialized RX5 ∈ wsL_law := ⟨wr_1 _ (List.mem_of_getElem? (i := 0) rfl), wr_1 _ (List.mem_of_getElem? (i := 1) rfl), wr_1 _ (List.mem_of_getElem? (i := 2) rfl)⟩
theorem SN_6 : Cond.classLink RL 10 RX6 ∈ wsL_law ∧ Cond.instantiable RX6 51 ∈ wsL_law ∧ Cond.initialized RX6 ∈ wsL_law := ⟨wr_1 _ (List.mem_of_getElem? (i := 3) rfl), wr_1 _ (List.mem_of_getElem? (i := 4) rfl), wr_1 _ (List.mem_of_getElem? (i := 5) rfl)⟩
theorem SC_5 : Cond.methodLink RL 9 yX5_init ∈ wsL_law ∧ Cond.instanceMethod yX5_init ∈ wsL_law ∧ Cond.initialized RX5 ∈ wsL_law ∧ Cond.code yX5_init cX5_init 1 none ∈ wsL_law := ⟨wr_1 _ (List.mem_of_getElem? (i := 6) rfl), wr_1 _ (List.mem_of_getElem? (i := 7) rfl), wr_1 _ (List.mem_of_getElem? (i := 2) rfl), wr_1 _ (List.mem_of_getElem? (i := 8) rfl)⟩
theorem SC_6 : Cond.methodLink RL 12 yX6_init ∈ wsL_law ∧ Cond.instanceMethod yX6_init ∈ wsL_law ∧ Cond.initialized RX6 ∈ wsL_law ∧ Cond.code yX6_init cX6_init 1 none ∈ wsL_law := ⟨wr_4 _ (List.mem_of_getElem? (i := 3) rfl), wr_4 _ (List.mem_of_getElem? (i := 4) rfl), wr_1 _ (List.mem_of_getElem? (i := 5) rfl), wr_4 _ (List.mem_of_getElem? (i := 5) rfl)⟩
theorem SI_0 : Cond.instantiable RX0 4 ∈ wsL_law := wr_1 _ (List.mem_of_getElem? (i := 21) rfl)
theorem SI_1 : Cond.instantiable RX1 12 ∈ wsL_law := wr_2 _ (List.mem_of_getElem? (i := 12) rfl)
theorem SI_2 : Cond.instantiable RX2 4 ∈ wsL_law := wr_1 _ (List.mem_of_getElem? (i := 13) rfl)
theorem SI_3 : Cond.instantiable RX3 5 ∈ wsL_law := wr_1 _ (List.mem_of_getElem? (i := 17) rfl)
theorem SI_4 : Cond.instantiable RX4 17 ∈ wsL_law := wr_2 _ (List.mem_of_getElem? (i := 10) rfl)
theorem SI_5 : Cond.instantiable RX5 13 ∈ wsL_law := wr_1 _ (List.mem_of_getElem? (i := 1) rfl)
theorem SI_6 : Cond.instantiable RX6 51 ∈ wsL_law := wr_1 _ (List.mem_of_getElem? (i := 4) rfl)
theorem famK {φ i : Nat} (h : i < fN φ) : fK φ = 1 ∨ fK φ = 2 := by
  unfold fN at h
  split at h <;> first | exact Or.inl rfl | exact Or.inr rfl | omega
theorem Rep.lt {D : va_G} {dA : Nat → ClassId} {Z : Nat} {α : Nat → Nat → Nat} {σ : sm_M} {H : Heap} (h : Rep D dA Z α σ H) {q : Nat} (hq : Ad Z α q) : q < H.size := by
  obtain ⟨φ, i, h1, h2, rfl⟩ := hq
  rcases famK h2 with g | g
  · obtain ⟨r, hr, cell, e1, -⟩ := (h φ i h1 h2).1 g
    exact (Array.getElem?_eq_some_iff.mp e1).1
  · exact (Array.getElem?_eq_some_iff.mp ((h φ i h1 h2).2 g)).1
theorem arrOf_k {U : State} {cA : ClassId} {k : Class} {comp : ClassId} {ty : FieldType} (h2 : U.vm.classes[cA]? = some k) (h3 : k.kind = .array comp ty) : ArrOfT U cA ty := fun n z => ⟨fun k h => (by cases h), k, h2, comp, h3⟩
set_option maxHeartbeats 4000000 in
set_option maxRecDepth 100000 in
/-- the law's body out of three facts on the pure functions -/
theorem ws_of {p : Program} {e : Env} {s : State} {m : MethodId} {below : List Frame} {meth : Method} {c : Code} (l : Launch) {b L : Nat} {xs : Nat → Int32} (C0 : lw_At p s m meth c b L xs) {σ1 τ1 : sm_M} (hC : f_X5_startAnew σ00 = some σ1) (hM : f_X6_begin σ00 = some τ1) (hF : f_L_law_18 L xs 1000 0 σ1 τ1 = some 1) : W p l e room_1 s m #[Value.ref b] below meth c s.heap [] 0 0 (lw_Z below #[Value.ref b] s) (entryFrame m ([Value.ref b] : List Value).toArray 4) := by
  obtain ⟨hx, hb, hr, hml, hown, hts0, hX, hbl, hlk, hgv⟩ := C0
  have hts : ∀ w ∈ wsL_law, w.before #[Value.ref b] s = true := fun w h => hts0 w (tbl_all w h)
  obtain ⟨c0, i0, hKn0⟩ := u_known (C := RX0) (T := TX0) (N := 4) (n := 4) hts inlX0 (hts _ SI_0)
  obtain ⟨c1, i1, hKn1⟩ := u_known (C := RX1) (T := TX1) (N := 12) (n := 12) hts inlX1 (hts _ SI_1)
  obtain ⟨c2, i2, hKn2⟩ := u_known (C := RX2) (T := TX2) (N := 4) (n := 4) hts inlX2 (hts _ SI_2)
  obtain ⟨c3, i3, hKn3⟩ := u_known (C := RX3) (T := TX3) (N := 5) (n := 5) hts inlX3 (hts _ SI_3)
  obtain ⟨c4, i4, hKn4⟩ := u_known (C := RX4) (T := TX4) (N := 17) (n := 17) hts inlX4 (hts _ SI_4)
  obtain ⟨c5, i5, hKn5⟩ := u_known (C := RX5) (T := TX5) (N := 13) (n := 13) hts inlX5 (hts _ SI_5)
  obtain ⟨c6, i6, hKn6⟩ := u_known (C := RX6) (T := TX6) (N := 51) (n := 51) hts inlX6 (hts _ SI_6)
  obtain ⟨dC, dI, hKc⟩ : ∃ (dC : Nat → ClassId) (dI : Nat → Nat → Nat), ∀ (k : Nat) (q : vw_C), classes[k]? = some q → u_Kn s q.1 q.2.1 q.2.2 (dC k) (dI k) := by
    refine ⟨fun k => if k = 0 then c0 else if k = 1 then c1 else if k = 2 then c2 else if k = 3 then c3 else if k = 4 then c4 else if k = 5 then c5 else c6, fun k => if k = 0 then i0 else if k = 1 then i1 else if k = 2 then i2 else if k = 3 then i3 else if k = 4 then i4 else if k = 5 then i5 else i6, ?_⟩
    intro k q hq
    match k, hq with
    | 0, hq => cases hq; exact hKn0
    | 1, hq => cases hq; exact hKn1
    | 2, hq => cases hq; exact hKn2
    | 3, hq => cases hq; exact hKn3
    | 4, hq => cases hq; exact hKn4
    | 5, hq => cases hq; exact hKn5
    | 6, hq => cases hq; exact hKn6
    | k + 7, hq => simp [classes] at hq
  have hao : aO s := ⟨va_AO.of (hts0 _ to_4), va_AO.of (hts0 _ to_1)⟩
  have hNw : nW s := ⟨va_Nw.of rfl (hts0 _ tn_0), va_Nw.of rfl (hts0 _ tn_1), va_Nw.of rfl (hts0 _ tn_2), va_Nw.of rfl (hts0 _ tn_3), va_Nw.of rfl (hts0 _ tn_4), va_Nw.of rfl (hts0 _ tn_5)⟩
  obtain ⟨y0, k0, p0, u1, u2, u3⟩ := Cond.arrayClass_spec (hts _ wa_int)
  obtain ⟨y1, k1, p1, v1, v2, v3⟩ := Cond.arrayClass_spec (hts _ wa_bool)
  obtain ⟨p2, y2, k2, w1, -, w3, w4, w5⟩ := Cond.arrayOver_spec hao.1
  obtain ⟨p3, y3, k3, z1, -, z3, z4, z5⟩ := Cond.arrayOver_spec hao.2
  obtain ⟨dA, hdA⟩ : ∃ dA : Nat → ClassId, ∀ t, t < nAt → ArrOfT s (dA t) (aty t) ∧ va_RA s (dA t) (aty t) := by
    refine ⟨fun t => if t = 0 then y0 else if t = 1 then y1 else if t = 2 then y2 else y3, fun t ht => ?_⟩
    match t, ht with
    | 0, _ => exact ⟨arrOf_k u2 u3, u1⟩
    | 1, _ => exact ⟨arrOf_k v2 v3, v1⟩
    | 2, _ => exact ⟨arrOf_k w3 w4, k2, p2, w3, w4, w1, w5⟩
    | 3, _ => exact ⟨arrOf_k z3 z4, k3, p3, z3, z4, z1, z5⟩
    | t + 4, h => exact absurd h (by unfold nAt; omega)
  have hK : va_K (dC, dI) classes (mm_tys dA) s := ⟨hKc, fun k q hq => by
    have hk : k < nAt := by
      have := (List.getElem?_eq_some_iff.mp hq).1
      simpa [mm_tys] using this
    rw [mm_tys_at hk] at hq
    cases hq
    exact hdA k hk⟩
  have G : gx p s m meth c #[Value.ref b] code 4 ret RL meth.name (dC, dI) dA := ⟨hx, hb, hr, hlk, hml, hown, rfl, hts, hK, hNw⟩
  have hl := lv_entry ([.ref b]) (n := 4) (Nat.le_of_ble_eq_true rfl)
  rw [lg_entry_eq]
  generalize (lg_sl ([.ref b]) ++ List.replicate (4 - (lg_sl ([.ref b])).length) Slot.unset).toArray = ls at hl ⊢
  have hl : lv_has ls 4 [(0, .ref b)] := hl
  refine x_new G inlX5 tyX5 tyX5_ok (ci := 5) (n := s.heap.size) rfl SN_5 rfl (Nat.le_of_ble_eq_true rfl) (Nat.le_of_ble_eq_true rfl) dL_law_0 (fun H1 z1 o1 b1 => ?_)
  refine lv_dup hx hb dL_law_3 rfl ?_
  refine x_cI (ci := 5) (N := 13) G hao (c_X5_init (a := s.heap.size) (n := s.heap.size + 1) hC) SC_5 (by decide +kernel) rfl z1 (by omega) b1 ⟨Nat.le_of_ble_eq_true rfl, Nat.le_of_ble_eq_true rfl⟩ ⟨Nat.le_of_ble_eq_true rfl, Nat.le_of_ble_eq_true rfl⟩ hl.1 (Nat.le_of_ble_eq_true rfl) dL_law_4 (fun H2 L2 hR2 o2 l2 => ?_)
  refine lv_astore_n (lv' := [(1, .ref s.heap.size), (0, .ref b)]) hx hb dL_law_7 rfl hl (by decide) rfl (fun ls hl => ?_)
  refine x_new G inlX6 tyX6 tyX6_ok (ci := 6) (n := H2.size) rfl SN_6 rfl (Nat.le_of_ble_eq_true rfl) (Nat.le_of_ble_eq_true rfl) dL_law_8 (fun H3 z3 o3 b3 => ?_)
  refine lv_dup hx hb dL_law_11 rfl ?_
  refine x_cI (ci := 6) (N := 51) G hao (c_X6_init (a := H2.size) (n := H2.size + 1) hM) SC_6 (by decide +kernel) rfl z3 (by omega) b3 ⟨Nat.le_of_ble_eq_true rfl, Nat.le_of_ble_eq_true rfl⟩ ⟨Nat.le_of_ble_eq_true rfl, Nat.le_of_ble_eq_true rfl⟩ hl.1 (Nat.le_of_ble_eq_true rfl) dL_law_12 (fun H4 L4 hR4 o4 l4 => ?_)
  refine lv_astore_n (lv' := [(2, .ref H2.size), (1, .ref s.heap.size), (0, .ref b)]) hx hb dL_law_15 rfl hl (by decide) rfl (fun ls hl => ?_)
  refine lv_iconst (v := 0) hx hb dL_law_16 (by decide) ?_
  refine lv_istore_n (lv' := [(3, .int 0), (2, .ref H2.size), (1, .ref s.heap.size), (0, .ref b)]) hx hb dL_law_17 rfl hl (by decide) rfl (fun ls hl => ?_)
  have hk : ∀ q : Nat, q < H2.size → H4[q]? = H2[q]? := fun q hq => by rw [o4 q (by omega) (by omega), o3 q hq]
  have hs2 : s.heap.size < H2.size := hR2.lt ⟨0, 0, rfl, by decide, rfl⟩
  have d1 : ∀ q : Nat, Ad 0 (aC s.heap.size (s.heap.size + 1)) q → s.heap.size ≤ q ∧ ¬ Ad 1 (aM H2.size (H2.size + 1)) q := fun q hq => by
    have h1 := hR2.lt hq
    refine ⟨?_, fun h => ?_⟩
    · rcases adC hq with h | h <;> omega
    · rcases adM h with h | h <;> omega
  have d2 : ∀ q : Nat, Ad 1 (aM H2.size (H2.size + 1)) q → s.heap.size ≤ q ∧ ¬ Ad 0 (aC s.heap.size (s.heap.size + 1)) q := fun q hq => by
    refine ⟨?_, fun h => (d1 q h).2 hq⟩
    rcases adM hq with h | h <;> omega
  refine w_L_law_18 (αc := aC s.heap.size (s.heap.size + 1)) (αm := aM H2.size (H2.size + 1)) G ⟨hX, hbl⟩ 1000 0 σ1 τ1 hF H4 _ ls ⟨hR2.frame (fun q hq => hk q (hR2.lt hq)), hR4, fun q hq => ?_, fun x hx => ?_, injC (by omega), injM (by omega), d1, d2⟩ (lv_sub hl [3, 2, 1, 0] rfl)
  · rw [hk q (by omega), o2 q (by omega) (by omega), o1 q hq]
  · rcases List.mem_append.mp hx with g | g
    · rcases List.mem_append.mp g with g | g
      · cases g
      · rcases l2 x g with h | h
        · exact Nat.le_of_eq h.symm
        · exact Nat.le_trans (Nat.le_succ _) h
    · rcases l4 x g with h | h
      · rw [h]; exact Nat.le_of_lt hs2
      · exact Nat.le_trans (by omega) h
