section WX6_aside
variable {p : Program} {l : Launch} {e : Env} {s : State} {m : MethodId} {args : Array Value} {below : List Frame} {meth : Method} {c : Code} {D : va_G} {dA : Nat → ClassId} {α : Nat → Nat → Nat}
set_option maxHeartbeats 4000000 in
set_option maxRecDepth 100000 in
theorem w_X6_aside_42 (G : gx p s m meth c args cX6_aside 3 (some .int) RX6 "aside" D dA) {r : Int32} {σz : sm_M} : ∀ (s0 : Int32) (σ : sm_M), f_X6_aside_42 s0 σ = some (r, σz) → ∀ (H : Heap) (locs : List Loc) (ls : Array Slot), Wd D dA 1 α s.heap σ H locs → lv_has ls 3 [] → gW 2 p l e s m args below meth c D dA 1 α (some (.int r)) σz H locs (F0 m 42 ls [.int s0]) := by
  obtain ⟨hx, hb, hr, hlk, hml, hown, hnm, hts, hK, hNw⟩ := id G
  intro s0 σ hF H locs ls hW hl
  rw [f_X6_aside_42] at hF
  exact g_iret G hW hF dX6_aside_42
set_option maxHeartbeats 4000000 in
set_option maxRecDepth 100000 in
theorem w_X6_aside_0 (G : gx p s m meth c args cX6_aside 3 (some .int) RX6 "aside" D dA) {r : Int32} {σz : sm_M} : ∀ (v1 : Int32) (v2 : Int32) (σ : sm_M), f_X6_aside v1 v2 σ = some (r, σz) → ∀ (H : Heap) (locs : List Loc) (ls : Array Slot), Wd D dA 1 α s.heap σ H locs → lv_has ls 3 [(0, .ref (α 20 0)), (1, .int v1), (2, .int v2)] → gW 2 p l e s m args below meth c D dA 1 α (some (.int r)) σz H locs (F0 m 0 ls []) := by
  obtain ⟨hx, hb, hr, hlk, hml, hown, hnm, hts, hK, hNw⟩ := id G
  intro v1 v2 σ hF H locs ls hW hl
  rw [f_X6_aside] at hF
  refine lv_aload_n hx hb dX6_aside_0 rfl (lv_at hl 0 rfl) ?_
  refine lv_iload_n hx hb dX6_aside_1 rfl (lv_at hl 1 rfl) ?_
  obtain ⟨q1, hq1, hF⟩ := o_b hF
  refine kk_X6_177 G hW hq1 hl.1 ⟨Nat.le_of_ble_eq_true rfl, Nat.le_of_ble_eq_true rfl⟩ ⟨Nat.le_refl _, Nat.le_refl _⟩ (Nat.le_of_ble_eq_true rfl) dX6_aside_2 (fun H locs hW => ?_)
  refine lv_if_eq (tgt := 10) hx hb dX6_aside_5 (by decide) (fun hc => ?_) (fun hc => ?_)
  · replace hF := o_t hc hF
    refine lv_iload_n hx hb dX6_aside_10 rfl (lv_at hl 2 rfl) ?_
    refine lv_iconst (v := 0) hx hb dX6_aside_11 (by decide) ?_
    refine lv_aload_n hx hb dX6_aside_12 rfl (lv_at hl 0 rfl) ?_
    refine gg_X6_43 G hW (by decide) dX6_aside_13 ?_
    refine lv_iload_n hx hb dX6_aside_16 rfl (lv_at hl 1 rfl) ?_
    obtain ⟨x2, hx2, hF⟩ := o_b hF
    refine g_aI (φ := 32) G rfl rfl (by decide) rfl hW (by decide) hx2 dX6_aside_17 ?_
    refine lv_iconst (v := 1) hx hb dX6_aside_18 (by decide) ?_
    refine lv_isub hx hb dX6_aside_19 ?_
    obtain ⟨q3, hq3, hF⟩ := o_b hF
    refine kk_X6_169 G hW hq3 hl.1 ⟨Nat.le_of_ble_eq_true rfl, Nat.le_of_ble_eq_true rfl⟩ ⟨Nat.le_refl _, Nat.le_refl _⟩ (Nat.le_of_ble_eq_true rfl) dX6_aside_20 (fun H locs hW => ?_)
    refine lv_if_eq (tgt := 40) hx hb dX6_aside_23 (by decide) (fun hc => ?_) (fun hc => ?_)
    · replace hF := o_t hc hF
      refine lv_bipush (v := -9) hx hb dX6_aside_40 (by decide) ?_
      exact w_X6_aside_42 G _ _ hF H locs ls hW (lv_sub hl [] rfl)
    · replace hF := o_f hc hF
      refine lv_aload_n hx hb dX6_aside_26 rfl (lv_at hl 0 rfl) ?_
      refine gg_X6_46 G hW (by decide) dX6_aside_27 ?_
      refine lv_bipush (v := 8) hx hb dX6_aside_30 (by decide) ?_
      refine lv_iload_n hx hb dX6_aside_32 rfl (lv_at hl 1 rfl) ?_
      refine lv_imul hx hb dX6_aside_33 ?_
      refine lv_iload_n hx hb dX6_aside_34 rfl (lv_at hl 2 rfl) ?_
      refine lv_iadd hx hb dX6_aside_35 ?_
      obtain ⟨x4, hx4, hF⟩ := o_b hF
      refine g_aI (φ := 33) G rfl rfl (by decide) rfl hW (by decide) hx4 dX6_aside_36 ?_
      refine lv_goto (tgt := 42) hx hb dX6_aside_37 (by decide) ?_
      exact w_X6_aside_42 G _ _ hF H locs ls hW (lv_sub hl [] rfl)
  · replace hF := o_f hc hF
    refine lv_iconst (v := -1) hx hb dX6_aside_8 (by decide) ?_
    exact g_iret G hW hF dX6_aside_9
end WX6_aside
theorem c_X6_aside {l : Launch} {D : va_G} {dA : Nat → ClassId} {α : Nat → Nat → Nat} (hI : Inj 1 α) {v1 : Int32} {v2 : Int32} {σ σz : sm_M} {r : Int32} (hF : f_X6_aside v1 v2 σ = some (r, σz)) : gM l D dA 1 α yX6_aside cX6_aside 3 (some .int) 2 [.ref (α 20 0), .int v1, .int v2] σ (some (.int r)) σz :=
  g_met hI (by decide +kernel) (Nat.le_of_ble_eq_true rfl) (fun p e s m below meth c ls G hW hl => w_X6_aside_0 G _ _ _ hF _ _ _ hW hl)
section KX6_aside
variable {p : Program} {l : Launch} {e : Env} {R : Room} {s : State} {m : MethodId} {args : Array Value} {below : List Frame} {meth : Method} {c : Code} {H : Heap} {locs : List Loc} {cells slots : Nat} {Q : State → Prop}
variable {cc : ByteArray} {pc nL Z : Nat} {ls : Array Slot} {rest : List Value} {D : va_G} {dA : Nat → ClassId} {α : Nat → Nat → Nat} {H0 : Heap} {σ σ' : sm_M} {ret : Option FieldType} {own nm : String}
end KX6_aside
section WX6_cause
variable {p : Program} {l : Launch} {e : Env} {s : State} {m : MethodId} {args : Array Value} {below : List Frame} {meth : Method} {c : Code} {D : va_G} {dA : Nat → ClassId} {α : Nat → Nat → Nat}
set_option maxHeartbeats 4000000 in
set_option maxRecDepth 100000 in
theorem w_X6_cause_62 (G : gx p s m meth c args cX6_cause 3 (some .int) RX6 "cause" D dA) {r : Int32} {σz : sm_M} : ∀ (s0 : Int32) (σ : sm_M), f_X6_cause_62 s0 σ = some (r, σz) → ∀ (H : Heap) (locs : List Loc) (ls : Array Slot), Wd D dA 1 α s.heap σ H locs → lv_has ls 3 [] → gW 1 p l e s m args below meth c D dA 1 α (some (.int r)) σz H locs (F0 m 62 ls [.int s0]) := by
  obtain ⟨hx, hb, hr, hlk, hml, hown, hnm, hts, hK, hNw⟩ := id G
  intro s0 σ hF H locs ls hW hl
  rw [f_X6_cause_62] at hF
  exact g_iret G hW hF dX6_cause_62
set_option maxHeartbeats 4000000 in
set_option maxRecDepth 100000 in
theorem w_X6_cause_0 (G : gx p s m meth c args cX6_cause 3 (some .int) RX6 "cause" D dA) {r : Int32} {σz : sm_M} : ∀ (v1 : Int32) (v2 : Int32) (σ : sm_M), f_X6_cause v1 v2 σ = some (r, σz) → ∀ (H : Heap) (locs : List Loc) (ls : Array Slot), Wd D dA 1 α s.heap σ H locs → lv_has ls 3 [(0, .ref (α 20 0)), (1, .int v1), (2, .int v2)] → gW 1 p l e s m args below meth c D dA 1 α (some (.int r)) σz H locs (F0 m 0 ls []) := by
  obtain ⟨hx, hb, hr, hlk, hml, hown, hnm, hts, hK, hNw⟩ := id G
  intro v1 v2 σ hF H locs ls hW hl
  rw [f_X6_cause] at hF
  refine lv_iload_n hx hb dX6_cause_0 rfl (lv_at hl 2 rfl) ?_
  refine lv_iconst (v := 0) hx hb dX6_cause_1 (by decide) ?_
  refine lv_iconst (v := 2) hx hb dX6_cause_2 (by decide) ?_
  obtain ⟨q1, hq1, hF⟩ := o_b hF
  refine kk_X6_169 G hW hq1 hl.1 ⟨Nat.le_of_ble_eq_true rfl, Nat.le_of_ble_eq_true rfl⟩ ⟨Nat.le_refl _, Nat.le_refl _⟩ (Nat.le_of_ble_eq_true rfl) dX6_cause_3 (fun H locs hW => ?_)
  refine lv_if_ne (tgt := 12) hx hb dX6_cause_6 (by decide) (fun hc => ?_) (fun hc => ?_)
  · replace hF := o_f hc hF
    refine lv_iload_n hx hb dX6_cause_12 rfl (lv_at hl 1 rfl) ?_
    refine lv_iconst (v := 0) hx hb dX6_cause_13 (by decide) ?_
    refine lv_aload_n hx hb dX6_cause_14 rfl (lv_at hl 0 rfl) ?_
    refine gg_X6_160 G hW (by decide) dX6_cause_15 ?_
    refine lv_iconst (v := 1) hx hb dX6_cause_18 (by decide) ?_
    refine lv_isub hx hb dX6_cause_19 ?_
    obtain ⟨q2, hq2, hF⟩ := o_b hF
    refine kk_X6_169 G hW hq2 hl.1 ⟨Nat.le_of_ble_eq_true rfl, Nat.le_of_ble_eq_true rfl⟩ ⟨Nat.le_refl _, Nat.le_refl _⟩ (Nat.le_of_ble_eq_true rfl) dX6_cause_20 (fun H locs hW => ?_)
    refine lv_if_ne (tgt := 29) hx hb dX6_cause_23 (by decide) (fun hc => ?_) (fun hc => ?_)
    · replace hF := o_f hc hF
      refine lv_iload_n hx hb dX6_cause_29 rfl (lv_at hl 2 rfl) ?_
      refine lv_if_ne (tgt := 42) hx hb dX6_cause_30 (by decide) (fun hc => ?_) (fun hc => ?_)
      · replace hF := o_f hc hF
        refine lv_iload_n hx hb dX6_cause_42 rfl (lv_at hl 2 rfl) ?_
        refine lv_iconst (v := 1) hx hb dX6_cause_43 (by decide) ?_
        refine lv_icmp_ne (tgt := 56) hx hb dX6_cause_44 (by decide) (fun hc => ?_) (fun hc => ?_)
        · replace hF := o_f hc hF
          refine lv_aload_n hx hb dX6_cause_56 rfl (lv_at hl 0 rfl) ?_
          refine gg_X6_107 G hW (by decide) dX6_cause_57 ?_
          refine lv_iload_n hx hb dX6_cause_60 rfl (lv_at hl 1 rfl) ?_
          obtain ⟨x3, hx3, hF⟩ := o_b hF
          refine g_aI (φ := 53) G rfl rfl (by decide) rfl hW (by decide) hx3 dX6_cause_61 ?_
          exact w_X6_cause_62 G _ _ hF H locs ls hW (lv_sub hl [] rfl)
        · replace hF := o_t hc hF
          refine lv_aload_n hx hb dX6_cause_47 rfl (lv_at hl 0 rfl) ?_
          refine gg_X6_104 G hW (by decide) dX6_cause_48 ?_
          refine lv_iload_n hx hb dX6_cause_51 rfl (lv_at hl 1 rfl) ?_
          obtain ⟨x4, hx4, hF⟩ := o_b hF
          refine g_aI (φ := 52) G rfl rfl (by decide) rfl hW (by decide) hx4 dX6_cause_52 ?_
          refine lv_goto (tgt := 62) hx hb dX6_cause_53 (by decide) ?_
          exact w_X6_cause_62 G _ _ hF H locs ls hW (lv_sub hl [] rfl)
      · replace hF := o_t hc hF
        refine lv_aload_n hx hb dX6_cause_33 rfl (lv_at hl 0 rfl) ?_
        refine gg_X6_101 G hW (by decide) dX6_cause_34 ?_
        refine lv_iload_n hx hb dX6_cause_37 rfl (lv_at hl 1 rfl) ?_
        obtain ⟨x5, hx5, hF⟩ := o_b hF
        refine g_aI (φ := 51) G rfl rfl (by decide) rfl hW (by decide) hx5 dX6_cause_38 ?_
        refine lv_goto (tgt := 62) hx hb dX6_cause_39 (by decide) ?_
        exact w_X6_cause_62 G _ _ hF H locs ls hW (lv_sub hl [] rfl)
    · replace hF := o_t hc hF
      refine lv_bipush (v := -9) hx hb dX6_cause_26 (by decide) ?_
      exact g_iret G hW hF dX6_cause_28
  · replace hF := o_t hc hF
    refine lv_bipush (v := -2) hx hb dX6_cause_9 (by decide) ?_
    exact g_iret G hW hF dX6_cause_11
end WX6_cause
theorem c_X6_cause {l : Launch} {D : va_G} {dA : Nat → ClassId} {α : Nat → Nat → Nat} (hI : Inj 1 α) {v1 : Int32} {v2 : Int32} {σ σz : sm_M} {r : Int32} (hF : f_X6_cause v1 v2 σ = some (r, σz)) : gM l D dA 1 α yX6_cause cX6_cause 3 (some .int) 1 [.ref (α 20 0), .int v1, .int v2] σ (some (.int r)) σz :=
  g_met hI (by decide +kernel) (Nat.le_of_ble_eq_true rfl) (fun p e s m below meth c ls G hW hl => w_X6_cause_0 G _ _ _ hF _ _ _ hW hl)
section KX6_cause
variable {p : Program} {l : Launch} {e : Env} {R : Room} {s : State} {m : MethodId} {args : Array Value} {below : List Frame} {meth : Method} {c : Code} {H : Heap} {locs : List Loc} {cells slots : Nat} {Q : State → Prop}
variable {cc : ByteArray} {pc nL Z : Nat} {ls : Array Slot} {rest : List Value} {D : va_G} {dA : Nat → ClassId} {α : Nat → Nat → Nat} {H0 : Heap} {σ σ' : sm_M} {ret : Option FieldType} {own nm : String}
end KX6_cause
section WX6_doneMany
variable {p : Program} {l : Launch} {e : Env} {s : State} {m : MethodId} {args : Array Value} {below : List Frame} {meth : Method} {c : Code} {D : va_G} {dA : Nat → ClassId} {α : Nat → Nat → Nat}
set_option maxHeartbeats 4000000 in
set_option maxRecDepth 100000 in
theorem w_X6_doneMany_39 (G : gx p s m meth c args cX6_doneMany 3 (some .int) RX6 "doneMany" D dA) {r : Int32} {σz : sm_M} : ∀ (v1 : Int32) (σ : sm_M), f_X6_doneMany_39 v1 σ = some (r, σz) → ∀ (H : Heap) (locs : List Loc) (ls : Array Slot), Wd D dA 1 α s.heap σ H locs → lv_has ls 3 [(1, .int v1)] → gW 1 p l e s m args below meth c D dA 1 α (some (.int r)) σz H locs (F0 m 39 ls []) := by
  obtain ⟨hx, hb, hr, hlk, hml, hown, hnm, hts, hK, hNw⟩ := id G
  intro v1 σ hF H locs ls hW hl
  rw [f_X6_doneMany_39] at hF
  refine lv_iload_n hx hb dX6_doneMany_39 rfl (lv_at hl 0 rfl) ?_
  exact g_iret G hW hF dX6_doneMany_40
set_option maxHeartbeats 4000000 in
set_option maxRecDepth 100000 in
theorem w_X6_doneMany_31 (G : gx p s m meth c args cX6_doneMany 3 (some .int) RX6 "doneMany" D dA) {r : Int32} {σz : sm_M} (k8 : Int32 → Int32 → sm_M → Option (Int32 × sm_M)) (hk8 : ∀ (v1 : Int32) (v2 : Int32) (σ : sm_M), k8 v1 v2 σ = some (r, σz) → ∀ (H : Heap) (locs : List Loc) (ls : Array Slot), Wd D dA 1 α s.heap σ H locs → lv_has ls 3 [(0, .ref (α 20 0)), (1, .int v1), (2, .int v2)] → gW 1 p l e s m args below meth c D dA 1 α (some (.int r)) σz H locs (F0 m 8 ls [])) : ∀ (v2 : Int32) (s0 : Int32) (s1 : Int32) (σ : sm_M), f_X6_doneMany_31 k8 v2 s0 s1 σ = some (r, σz) → ∀ (H : Heap) (locs : List Loc) (ls : Array Slot), Wd D dA 1 α s.heap σ H locs → lv_has ls 3 [(0, .ref (α 20 0)), (2, .int v2)] → gW 1 p l e s m args below meth c D dA 1 α (some (.int r)) σz H locs (F0 m 31 ls [.int s1, .int s0]) := by
  obtain ⟨hx, hb, hr, hlk, hml, hown, hnm, hts, hK, hNw⟩ := id G
  intro v2 s0 s1 σ hF H locs ls hW hl
  rw [f_X6_doneMany_31] at hF
  refine lv_iadd hx hb dX6_doneMany_31 ?_
  refine lv_istore_n (lv' := [(1, .int (s0 + s1)), (0, .ref (α 20 0)), (2, .int v2)]) hx hb dX6_doneMany_32 rfl hl (by decide) rfl (fun ls hl => ?_)
  refine lv_iinc (v := (v2 + 1)) (lv' := [(2, .int (v2 + 1)), (1, .int (s0 + s1)), (0, .ref (α 20 0))]) hx hb dX6_doneMany_33 hl (k := 2) rfl rfl (by decide) rfl (fun ls hl => ?_)
  refine lv_goto (tgt := 8) hx hb dX6_doneMany_36 (by decide) ?_
  exact hk8 _ _ _ hF H locs ls hW (lv_sub hl [2, 1, 0] rfl)
set_option maxHeartbeats 4000000 in
set_option maxRecDepth 100000 in
theorem w_X6_doneMany_8 (G : gx p s m meth c args cX6_doneMany 3 (some .int) RX6 "doneMany" D dA) {r : Int32} {σz : sm_M} : ∀ (n : Nat) (v1 : Int32) (v2 : Int32) (σ : sm_M), f_X6_doneMany_8 n v1 v2 σ = some (r, σz) → ∀ (H : Heap) (locs : List Loc) (ls : Array Slot), Wd D dA 1 α s.heap σ H locs → lv_has ls 3 [(0, .ref (α 20 0)), (1, .int v1), (2, .int v2)] → gW 1 p l e s m args below meth c D dA 1 α (some (.int r)) σz H locs (F0 m 8 ls []) := by
  obtain ⟨hx, hb, hr, hlk, hml, hown, hnm, hts, hK, hNw⟩ := id G
  intro n
  induction n with
  | zero => intro v1 v2 σ hF; exact absurd hF (by intro h; cases h)
  | succ n ih =>
    intro v1 v2 σ hF H locs ls hW hl
    rw [f_X6_doneMany_8] at hF
    refine lv_iload_n hx hb dX6_doneMany_8 rfl (lv_at hl 2 rfl) ?_
    refine lv_aload_n hx hb dX6_doneMany_9 rfl (lv_at hl 0 rfl) ?_
    refine gg_X6_131 G hW (by decide) dX6_doneMany_10 ?_
    refine lv_icmp_ge (tgt := 39) hx hb dX6_doneMany_13 (by decide) (fun hc => ?_) (fun hc => ?_)
    · replace hF := o_t hc hF
      exact w_X6_doneMany_39 G _ _ hF H locs ls hW (lv_sub hl [1] rfl)
    · replace hF := o_f hc hF
      refine lv_iload_n hx hb dX6_doneMany_16 rfl (lv_at hl 1 rfl) ?_
      refine lv_aload_n hx hb dX6_doneMany_17 rfl (lv_at hl 0 rfl) ?_
      refine gg_X6_110 G hW (by decide) dX6_doneMany_18 ?_
      refine lv_iload_n hx hb dX6_doneMany_21 rfl (lv_at hl 2 rfl) ?_
      obtain ⟨x1, hx1, hF⟩ := o_b hF
      refine g_aZ (φ := 54) G rfl rfl (by decide) rfl hW (by decide) hx1 dX6_doneMany_22 ?_
      refine lv_if_eq (tgt := 30) hx hb dX6_doneMany_23 (by decide) (fun hc => ?_) (fun hc => ?_)
      · replace hF := o_t hc hF
        refine lv_iconst (v := 0) hx hb dX6_doneMany_30 (by decide) ?_
        exact w_X6_doneMany_31 G (f_X6_doneMany_8 n) ih _ _ _ _ hF H locs ls hW (lv_sub hl [0, 2] rfl)
      · replace hF := o_f hc hF
        refine lv_iconst (v := 1) hx hb dX6_doneMany_26 (by decide) ?_
        refine lv_goto (tgt := 31) hx hb dX6_doneMany_27 (by decide) ?_
        exact w_X6_doneMany_31 G (f_X6_doneMany_8 n) ih _ _ _ _ hF H locs ls hW (lv_sub hl [0, 2] rfl)
set_option maxHeartbeats 4000000 in
set_option maxRecDepth 100000 in
theorem w_X6_doneMany_0 (G : gx p s m meth c args cX6_doneMany 3 (some .int) RX6 "doneMany" D dA) {r : Int32} {σz : sm_M} : ∀ (σ : sm_M), f_X6_doneMany σ = some (r, σz) → ∀ (H : Heap) (locs : List Loc) (ls : Array Slot), Wd D dA 1 α s.heap σ H locs → lv_has ls 3 [(0, .ref (α 20 0))] → gW 1 p l e s m args below meth c D dA 1 α (some (.int r)) σz H locs (F0 m 0 ls []) := by
  obtain ⟨hx, hb, hr, hlk, hml, hown, hnm, hts, hK, hNw⟩ := id G
  intro σ hF H locs ls hW hl
  rw [f_X6_doneMany] at hF
  refine lv_aload_n hx hb dX6_doneMany_0 rfl (lv_at hl 0 rfl) ?_
  obtain ⟨q1, hq1, hF⟩ := o_b hF
  refine kk_X6_198 G hW hq1 hl.1 ⟨Nat.le_of_ble_eq_true rfl, Nat.le_of_ble_eq_true rfl⟩ ⟨Nat.le_refl _, Nat.le_refl _⟩ (Nat.le_of_ble_eq_true rfl) dX6_doneMany_1 (fun H locs hW => ?_)
  refine lv_iconst (v := 0) hx hb dX6_doneMany_4 (by decide) ?_
  refine lv_istore_n (lv' := [(1, .int (0 : Int32)), (0, .ref (α 20 0))]) hx hb dX6_doneMany_5 rfl hl (by decide) rfl (fun ls hl => ?_)
  refine lv_iconst (v := 0) hx hb dX6_doneMany_6 (by decide) ?_
  refine lv_istore_n (lv' := [(2, .int (0 : Int32)), (1, .int (0 : Int32)), (0, .ref (α 20 0))]) hx hb dX6_doneMany_7 rfl hl (by decide) rfl (fun ls hl => ?_)
  exact w_X6_doneMany_8 G 1000 _ _ _ hF H locs ls hW (lv_sub hl [2, 1, 0] rfl)
end WX6_doneMany
theorem c_X6_doneMany {l : Launch} {D : va_G} {dA : Nat → ClassId} {α : Nat → Nat → Nat} (hI : Inj 1 α) {σ σz : sm_M} {r : Int32} (hF : f_X6_doneMany σ = some (r, σz)) : gM l D dA 1 α yX6_doneMany cX6_doneMany 3 (some .int) 1 [.ref (α 20 0)] σ (some (.int r)) σz :=
  g_met hI (by decide +kernel) (Nat.le_of_ble_eq_true rfl) (fun p e s m below meth c ls G hW hl => w_X6_doneMany_0 G  _ hF _ _ _ hW hl)
section KX6_doneMany
variable {p : Program} {l : Launch} {e : Env} {R : Room} {s : State} {m : MethodId} {args : Array Value} {below : List Frame} {meth : Method} {c : Code} {H : Heap} {locs : List Loc} {cells slots : Nat} {Q : State → Prop}
variable {cc : ByteArray} {pc nL Z : Nat} {ls : Array Slot} {rest : List Value} {D : va_G} {dA : Nat → ClassId} {α : Nat → Nat → Nat} {H0 : Heap} {σ σ' : sm_M} {ret : Option FieldType} {own nm : String}
theorem kk_X6_256 (G : gx p s m meth c args cc nL ret RX6 nm D dA) (hW : Wd D dA 1 α H0 σ H locs) {q : Int32 × sm_M} (hq : f_X6_doneMany σ = some q) (hls : ls.size = nL) (hR : 1 + 1 ≤ R.frames ∧ 8 + (3 + 11) + 44 * 1 ≤ R.locals) (hf : cells ≤ R.cells ∧ slots ≤ R.slots) (hcat : (rest.map fun v => v.category).sum ≤ 8) (hdg : decode cc pc = .ok (.invokevirtual 256, 3)) (kk : ∀ (H1 : Heap) (locs1 : List Loc), Wd D dA 1 α H0 q.2 H1 locs1 → W p l e R s m args below meth c H1 locs1 cells slots Q (F0 m (pc + 3) ls (.int q.1 :: rest))) : W p l e R s m args below meth c H locs cells slots Q (F0 m pc ls (.ref (α 20 0) :: rest)) :=
  g_cV (n := 0) G (c_X6_doneMany (l := l) hW.2.2.2 hq) ⟨wm_30_10, wm_30_11, wm_30_12, wm_1_5, wm_30_13⟩ (by decide +kernel) hW (g_recv (φ := 20) (ci := 6) G.2.2.2.2.2.2.2.2.1 rfl rfl rfl (by decide) hW.1 rfl) hR hf rfl hls rfl hcat hdg kk
end KX6_doneMany
section WX6_told
variable {p : Program} {l : Launch} {e : Env} {s : State} {m : MethodId} {args : Array Value} {below : List Frame} {meth : Method} {c : Code} {D : va_G} {dA : Nat → ClassId} {α : Nat → Nat → Nat}
set_option maxHeartbeats 4000000 in
set_option maxRecDepth 100000 in
theorem w_X6_told_102 (G : gx p s m meth c args cX6_told 2 (some .int) RX6 "told" D dA) {r : Int32} {σz : sm_M} : ∀ (s0 : Int32) (σ : sm_M), f_X6_told_102 s0 σ = some (r, σz) → ∀ (H : Heap) (locs : List Loc) (ls : Array Slot), Wd D dA 1 α s.heap σ H locs → lv_has ls 2 [] → gW 2 p l e s m args below meth c D dA 1 α (some (.int r)) σz H locs (F0 m 102 ls [.int s0]) := by
  obtain ⟨hx, hb, hr, hlk, hml, hown, hnm, hts, hK, hNw⟩ := id G
  intro s0 σ hF H locs ls hW hl
  rw [f_X6_told_102] at hF
  exact g_iret G hW hF dX6_told_102
set_option maxHeartbeats 4000000 in
set_option maxRecDepth 100000 in
theorem w_X6_told_0 (G : gx p s m meth c args cX6_told 2 (some .int) RX6 "told" D dA) {r : Int32} {σz : sm_M} : ∀ (v1 : Int32) (σ : sm_M), f_X6_told v1 σ = some (r, σz) → ∀ (H : Heap) (locs : List Loc) (ls : Array Slot), Wd D dA 1 α s.heap σ H locs → lv_has ls 2 [(0, .ref (α 20 0)), (1, .int v1)] → gW 2 p l e s m args below meth c D dA 1 α (some (.int r)) σz H locs (F0 m 0 ls []) := by
  obtain ⟨hx, hb, hr, hlk, hml, hown, hnm, hts, hK, hNw⟩ := id G
  intro v1 σ hF H locs ls hW hl
  rw [f_X6_told] at hF
  refine lv_iload_n hx hb dX6_told_0 rfl (lv_at hl 1 rfl) ?_
  by_cases n0 : v1 = 0
  · replace hF := o_t n0 hF
    refine lv_tableIn (tgt := 60) (off := 59) hx hb dX6_told_1 (by rw [n0]; decide) (by rw [n0]; decide) (by rw [n0]; rfl) (by decide) ?_
    refine lv_aload_n hx hb dX6_told_60 rfl (lv_at hl 0 rfl) ?_
    refine gg_X6_131 G hW (by decide) dX6_told_61 ?_
    exact g_iret G hW hF dX6_told_64
  · replace hF := o_f n0 hF
    by_cases n1 : v1 = 1
    · replace hF := o_t n1 hF
      refine lv_tableIn (tgt := 65) (off := 64) hx hb dX6_told_1 (by rw [n1]; decide) (by rw [n1]; decide) (by rw [n1]; rfl) (by decide) ?_
      refine lv_aload_n hx hb dX6_told_65 rfl (lv_at hl 0 rfl) ?_
      refine gg_X6_135 G hW (by decide) dX6_told_66 ?_
      exact g_iret G hW hF dX6_told_69
    · replace hF := o_f n1 hF
      by_cases n2 : v1 = 2
      · replace hF := o_t n2 hF
        refine lv_tableIn (tgt := 70) (off := 69) hx hb dX6_told_1 (by rw [n2]; decide) (by rw [n2]; decide) (by rw [n2]; rfl) (by decide) ?_
        refine lv_aload_n hx hb dX6_told_70 rfl (lv_at hl 0 rfl) ?_
        refine gg_X6_151 G hW (by decide) dX6_told_71 ?_
        exact g_iret G hW hF dX6_told_74
      · replace hF := o_f n2 hF
        by_cases n3 : v1 = 3
        · replace hF := o_t n3 hF
          refine lv_tableIn (tgt := 75) (off := 74) hx hb dX6_told_1 (by rw [n3]; decide) (by rw [n3]; decide) (by rw [n3]; rfl) (by decide) ?_
          refine lv_aload_n hx hb dX6_told_75 rfl (lv_at hl 0 rfl) ?_
          refine gg_X6_148 G hW (by decide) dX6_told_76 ?_
          exact g_iret G hW hF dX6_told_79
        · replace hF := o_f n3 hF
          by_cases n4 : v1 = 4
          · replace hF := o_t n4 hF
            refine lv_tableIn (tgt := 80) (off := 79) hx hb dX6_told_1 (by rw [n4]; decide) (by rw [n4]; decide) (by rw [n4]; rfl) (by decide) ?_
            refine lv_aload_n hx hb dX6_told_80 rfl (lv_at hl 0 rfl) ?_
            refine gg_X6_157 G hW (by decide) dX6_told_81 ?_
            exact g_iret G hW hF dX6_told_84
          · replace hF := o_f n4 hF
            by_cases n5 : v1 = 5
            · replace hF := o_t n5 hF
              refine lv_tableIn (tgt := 85) (off := 84) hx hb dX6_told_1 (by rw [n5]; decide) (by rw [n5]; decide) (by rw [n5]; rfl) (by decide) ?_
              refine lv_aload_n hx hb dX6_told_85 rfl (lv_at hl 0 rfl) ?_
              refine gg_X6_160 G hW (by decide) dX6_told_86 ?_
              exact g_iret G hW hF dX6_told_89
            · replace hF := o_f n5 hF
              by_cases n6 : v1 = 6
              · replace hF := o_t n6 hF
                refine lv_tableIn (tgt := 90) (off := 89) hx hb dX6_told_1 (by rw [n6]; decide) (by rw [n6]; decide) (by rw [n6]; rfl) (by decide) ?_
                refine lv_aload_n hx hb dX6_told_90 rfl (lv_at hl 0 rfl) ?_
                refine gg_X6_163 G hW (by decide) dX6_told_91 ?_
                refine lv_if_eq (tgt := 101) hx hb dX6_told_94 (by decide) (fun hc => ?_) (fun hc => ?_)
                · replace hF := o_t hc hF
                  refine lv_iconst (v := 0) hx hb dX6_told_101 (by decide) ?_
                  exact w_X6_told_102 G _ _ hF H locs ls hW (lv_sub hl [] rfl)
                · replace hF := o_f hc hF
                  refine lv_iconst (v := 1) hx hb dX6_told_97 (by decide) ?_
                  refine lv_goto (tgt := 102) hx hb dX6_told_98 (by decide) ?_
                  exact w_X6_told_102 G _ _ hF H locs ls hW (lv_sub hl [] rfl)
              · replace hF := o_f n6 hF
                by_cases n7 : v1 = 7
                · replace hF := o_t n7 hF
                  refine lv_tableIn (tgt := 103) (off := 102) hx hb dX6_told_1 (by rw [n7]; decide) (by rw [n7]; decide) (by rw [n7]; rfl) (by decide) ?_
                  refine lv_aload_n hx hb dX6_told_103 rfl (lv_at hl 0 rfl) ?_
                  obtain ⟨q1, hq1, hF⟩ := o_b hF
                  refine kk_X6_253 G hW hq1 hl.1 ⟨Nat.le_of_ble_eq_true rfl, Nat.le_of_ble_eq_true rfl⟩ ⟨Nat.le_refl _, Nat.le_refl _⟩ (Nat.le_of_ble_eq_true rfl) dX6_told_104 (fun H locs hW => ?_)
                  exact g_iret G hW hF dX6_told_107
                · replace hF := o_f n7 hF
                  by_cases n8 : v1 = 8
                  · replace hF := o_t n8 hF
                    refine lv_tableIn (tgt := 108) (off := 107) hx hb dX6_told_1 (by rw [n8]; decide) (by rw [n8]; decide) (by rw [n8]; rfl) (by decide) ?_
                    refine lv_aload_n hx hb dX6_told_108 rfl (lv_at hl 0 rfl) ?_
                    obtain ⟨q2, hq2, hF⟩ := o_b hF
                    refine kk_X6_256 G hW hq2 hl.1 ⟨Nat.le_of_ble_eq_true rfl, Nat.le_of_ble_eq_true rfl⟩ ⟨Nat.le_refl _, Nat.le_refl _⟩ (Nat.le_of_ble_eq_true rfl) dX6_told_109 (fun H locs hW => ?_)
                    exact g_iret G hW hF dX6_told_112
                  · replace hF := o_f n8 hF
                    by_cases n9 : v1 = 9
                    · replace hF := o_t n9 hF
                      refine lv_tableIn (tgt := 113) (off := 112) hx hb dX6_told_1 (by rw [n9]; decide) (by rw [n9]; decide) (by rw [n9]; rfl) (by decide) ?_
                      refine lv_aload_n hx hb dX6_told_113 rfl (lv_at hl 0 rfl) ?_
                      obtain ⟨q3, hq3, hF⟩ := o_b hF
                      refine kk_X6_242 G hW hq3 hl.1 ⟨Nat.le_of_ble_eq_true rfl, Nat.le_of_ble_eq_true rfl⟩ ⟨Nat.le_refl _, Nat.le_refl _⟩ (Nat.le_of_ble_eq_true rfl) dX6_told_114 (fun H locs hW => ?_)
                      exact g_iret G hW hF dX6_told_117
                    · replace hF := o_f n9 hF
                      by_cases n10 : v1 = 10
                      · replace hF := o_t n10 hF
                        refine lv_tableIn (tgt := 118) (off := 117) hx hb dX6_told_1 (by rw [n10]; decide) (by rw [n10]; decide) (by rw [n10]; rfl) (by decide) ?_
                        refine lv_aload_n hx hb dX6_told_118 rfl (lv_at hl 0 rfl) ?_
                        refine gg_X6_166 G hW (by decide) dX6_told_119 ?_
                        exact g_iret G hW hF dX6_told_122
                      · replace hF := o_f n10 hF
                        refine lv_tableOut (tgt := 123) hx hb dX6_told_1 (t_out 0 10 (fun z h1 h2 => by have hz : z = 0 ∨ z = 1 ∨ z = 2 ∨ z = 3 ∨ z = 4 ∨ z = 5 ∨ z = 6 ∨ z = 7 ∨ z = 8 ∨ z = 9 ∨ z = 10 := (by omega); rcases hz with rfl | rfl | rfl | rfl | rfl | rfl | rfl | rfl | rfl | rfl | rfl <;> assumption)) (by decide) ?_
                        refine lv_bipush (v := -2) hx hb dX6_told_123 (by decide) ?_
                        exact g_iret G hW hF dX6_told_125
end WX6_told
theorem c_X6_told {l : Launch} {D : va_G} {dA : Nat → ClassId} {α : Nat → Nat → Nat} (hI : Inj 1 α) {v1 : Int32} {σ σz : sm_M} {r : Int32} (hF : f_X6_told v1 σ = some (r, σz)) : gM l D dA 1 α yX6_told cX6_told 2 (some .int) 2 [.ref (α 20 0), .int v1] σ (some (.int r)) σz :=
  g_met hI (by decide +kernel) (Nat.le_of_ble_eq_true rfl) (fun p e s m below meth c ls G hW hl => w_X6_told_0 G _ _ hF _ _ _ hW hl)
section KX6_told
variable {p : Program} {l : Launch} {e : Env} {R : Room} {s : State} {m : MethodId} {args : Array Value} {below : List Frame} {meth : Method} {c : Code} {H : Heap} {locs : List Loc} {cells slots : Nat} {Q : State → Prop}
variable {cc : ByteArray} {pc nL Z : Nat} {ls : Array Slot} {rest : List Value} {D : va_G} {dA : Nat → ClassId} {α : Nat → Nat → Nat} {H0 : Heap} {σ σ' : sm_M} {ret : Option FieldType} {own nm : String}
end KX6_told
section WX6_clear
variable {p : Program} {l : Launch} {e : Env} {s : State} {m : MethodId} {args : Array Value} {below : List Frame} {meth : Method} {c : Code} {D : va_G} {dA : Nat → ClassId} {α : Nat → Nat → Nat}
set_option maxHeartbeats 4000000 in
set_option maxRecDepth 100000 in
theorem w_X6_clear_0 (G : gx p s m meth c args cX6_clear 2 (some .int) RX6 "clear" D dA) {r : Int32} {σz : sm_M} : ∀ (σ : sm_M), f_X6_clear σ = some (r, σz) → ∀ (H : Heap) (locs : List Loc) (ls : Array Slot), Wd D dA 1 α s.heap σ H locs → lv_has ls 2 [(0, .ref (α 20 0))] → gW 1 p l e s m args below meth c D dA 1 α (some (.int r)) σz H locs (F0 m 0 ls []) := by
  obtain ⟨hx, hb, hr, hlk, hml, hown, hnm, hts, hK, hNw⟩ := id G
  intro σ hF H locs ls hW hl
  rw [f_X6_clear] at hF
  refine lv_aload_n hx hb dX6_clear_0 rfl (lv_at hl 0 rfl) ?_
  refine gg_X6_131 G hW (by decide) dX6_clear_1 ?_
  refine lv_istore_n (lv' := [(1, .int (σ.1 20 0 0)), (0, .ref (α 20 0))]) hx hb dX6_clear_4 rfl hl (by decide) rfl (fun ls hl => ?_)
  refine lv_aload_n hx hb dX6_clear_5 rfl (lv_at hl 1 rfl) ?_
  obtain ⟨q1, hq1, hF⟩ := o_b hF
  refine kk_X6_128 G hW hq1 hl.1 ⟨Nat.le_of_ble_eq_true rfl, Nat.le_of_ble_eq_true rfl⟩ ⟨Nat.le_refl _, Nat.le_refl _⟩ (Nat.le_of_ble_eq_true rfl) dX6_clear_6 (fun H locs hW => ?_)
  refine lv_iload_n hx hb dX6_clear_9 rfl (lv_at hl 0 rfl) ?_
  exact g_iret G hW hF dX6_clear_10
end WX6_clear
theorem c_X6_clear {l : Launch} {D : va_G} {dA : Nat → ClassId} {α : Nat → Nat → Nat} (hI : Inj 1 α) {σ σz : sm_M} {r : Int32} (hF : f_X6_clear σ = some (r, σz)) : gM l D dA 1 α yX6_clear cX6_clear 2 (some .int) 1 [.ref (α 20 0)] σ (some (.int r)) σz :=
  g_met hI (by decide +kernel) (Nat.le_of_ble_eq_true rfl) (fun p e s m below meth c ls G hW hl => w_X6_clear_0 G  _ hF _ _ _ hW hl)
section KX6_clear
variable {p : Program} {l : Launch} {e : Env} {R : Room} {s : State} {m : MethodId} {args : Array Value} {below : List Frame} {meth : Method} {c : Code} {H : Heap} {locs : List Loc} {cells slots : Nat} {Q : State → Prop}
variable {cc : ByteArray} {pc nL Z : Nat} {ls : Array Slot} {rest : List Value} {D : va_G} {dA : Nat → ClassId} {α : Nat → Nat → Nat} {H0 : Heap} {σ σ' : sm_M} {ret : Option FieldType} {own nm : String}
end KX6_clear
