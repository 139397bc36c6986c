section WX0_putDown
variable {p : Program} {l : Launch} {e : Env} {s : State} {m : MethodId} {args : Array Value} {below : List Frame} {meth : Method} {c : Code} {D : va_G} {dA : Nat → ClassId} {α : Nat → Nat → Nat}
set_option maxHeartbeats 4000000 in
set_option maxRecDepth 100000 in
theorem w_X0_putDown_0 (G : gx p s m meth c args cX0_putDown 4 none RX0 "putDown" D dA) {σz : sm_M} : ∀ (v1 : Int32) (v2 : Int32) (v3 : Int32) (σ : sm_M), f_X0_putDown v1 v2 v3 σ = some σz → ∀ (H : Heap) (locs : List Loc) (ls : Array Slot), Wd D dA 0 α s.heap σ H locs → lv_has ls 4 [(0, .ref (α 3 0)), (1, .int v1), (2, .int v2), (3, .int v3)] → gW 0 p l e s m args below meth c D dA 0 α none σz H locs (F0 m 0 ls []) := by
  obtain ⟨hx, hb, hr, hlk, hml, hown, hnm, hts, hK, hNw⟩ := id G
  intro v1 v2 v3 σ hF H locs ls hW hl
  rw [f_X0_putDown] at hF
  refine lv_aload_n hx hb dX0_putDown_0 rfl (lv_at hl 0 rfl) ?_
  refine gg_X0_21 G hW (by decide) dX0_putDown_1 ?_
  refine lv_bipush (v := 64) hx hb dX0_putDown_4 (by decide) ?_
  refine lv_icmp_ge (tgt := 49) hx hb dX0_putDown_6 (by decide) (fun hc => ?_) (fun hc => ?_)
  · replace hF := o_t hc hF
    exact g_vret G hW hF dX0_putDown_49
  · replace hF := o_f hc hF
    refine lv_aload_n hx hb dX0_putDown_9 rfl (lv_at hl 0 rfl) ?_
    refine gg_X0_9 G hW (by decide) dX0_putDown_10 ?_
    refine lv_aload_n hx hb dX0_putDown_13 rfl (lv_at hl 0 rfl) ?_
    refine gg_X0_21 G hW (by decide) dX0_putDown_14 ?_
    refine lv_iload_n hx hb dX0_putDown_17 rfl (lv_at hl 1 rfl) ?_
    obtain ⟨σ1, hσ1, hF⟩ := o_b hF
    refine g_uI (φ := 11) G rfl rfl (by decide) rfl hW (by decide) hσ1 dX0_putDown_18 (fun H locs hW => ?_)
    refine lv_aload_n hx hb dX0_putDown_19 rfl (lv_at hl 0 rfl) ?_
    refine gg_X0_15 G hW (by decide) dX0_putDown_20 ?_
    refine lv_aload_n hx hb dX0_putDown_23 rfl (lv_at hl 0 rfl) ?_
    refine gg_X0_21 G hW (by decide) dX0_putDown_24 ?_
    refine lv_iload_n hx hb dX0_putDown_27 rfl (lv_at hl 2 rfl) ?_
    obtain ⟨σ2, hσ2, hF⟩ := o_b hF
    refine g_uI (φ := 12) G rfl rfl (by decide) rfl hW (by decide) hσ2 dX0_putDown_28 (fun H locs hW => ?_)
    refine lv_aload_n hx hb dX0_putDown_29 rfl (lv_at hl 0 rfl) ?_
    refine gg_X0_18 G hW (by decide) dX0_putDown_30 ?_
    refine lv_aload_n hx hb dX0_putDown_33 rfl (lv_at hl 0 rfl) ?_
    refine gg_X0_21 G hW (by decide) dX0_putDown_34 ?_
    refine lv_iload_n hx hb dX0_putDown_37 rfl (lv_at hl 3 rfl) ?_
    obtain ⟨σ3, hσ3, hF⟩ := o_b hF
    refine g_uI (φ := 13) G rfl rfl (by decide) rfl hW (by decide) hσ3 dX0_putDown_38 (fun H locs hW => ?_)
    refine lv_aload_n hx hb dX0_putDown_39 rfl (lv_at hl 0 rfl) ?_
    refine lv_dup hx hb dX0_putDown_40 rfl ?_
    refine gg_X0_21 G hW (by decide) dX0_putDown_41 ?_
    refine lv_iconst (v := 1) hx hb dX0_putDown_44 (by decide) ?_
    refine lv_iadd hx hb dX0_putDown_45 ?_
    obtain ⟨σ4, hσ4, hF⟩ := o_b hF
    refine pp_X0_21 G hW (by decide) hσ4 dX0_putDown_46 (fun H locs hW => ?_)
    exact g_vret G hW hF dX0_putDown_49
end WX0_putDown
theorem c_X0_putDown {l : Launch} {D : va_G} {dA : Nat → ClassId} {α : Nat → Nat → Nat} (hI : Inj 0 α) {v1 : Int32} {v2 : Int32} {v3 : Int32} {σ σz : sm_M} (hF : f_X0_putDown v1 v2 v3 σ = some σz) : gM l D dA 0 α yX0_putDown cX0_putDown 4 none 0 [.ref (α 3 0), .int v1, .int v2, .int v3] σ none σz :=
  g_met hI (by decide +kernel) (Nat.le_of_ble_eq_true rfl) (fun p e s m below meth c ls G hW hl => w_X0_putDown_0 G _ _ _ _ hF _ _ _ hW hl)
section KX0_putDown
variable {p : Program} {l : Launch} {e : Env} {R : Room} {s : State} {m : MethodId} {args : Array Value} {below : List Frame} {meth : Method} {c : Code} {H : Heap} {locs : List Loc} {cells slots : Nat} {Q : State → Prop}
variable {cc : ByteArray} {pc nL Z : Nat} {ls : Array Slot} {rest : List Value} {D : va_G} {dA : Nat → ClassId} {α : Nat → Nat → Nat} {H0 : Heap} {σ σ' : sm_M} {ret : Option FieldType} {own nm : String}
theorem kk_X5_291 (G : gx p s m meth c args cc nL ret RX5 nm D dA) (hW : Wd D dA 0 α H0 σ H locs) {v1 : Int32} {v2 : Int32} {v3 : Int32} {q : sm_M} (hq : f_X0_putDown v1 v2 v3 σ = some q) (hls : ls.size = nL) (hR : 0 + 1 ≤ R.frames ∧ 8 + (4 + 11) + 44 * 0 ≤ R.locals) (hf : cells ≤ R.cells ∧ slots ≤ R.slots) (hcat : (rest.map fun v => v.category).sum ≤ 8) (hdg : decode cc pc = .ok (.invokevirtual 291, 3)) (kk : ∀ (H1 : Heap) (locs1 : List Loc), Wd D dA 0 α H0 q H1 locs1 → W p l e R s m args below meth c H1 locs1 cells slots Q (F0 m (pc + 3) ls rest)) : W p l e R s m args below meth c H locs cells slots Q (F0 m pc ls (.int v3 :: .int v2 :: .int v1 :: .ref (α 3 0) :: rest)) :=
  g_cV (n := 3) G (c_X0_putDown (l := l) hW.2.2.2 hq) ⟨wm_15_13, wm_15_14, wm_15_15, wm_1_22, wm_15_16⟩ (by decide +kernel) hW (g_recv (φ := 3) (ci := 0) G.2.2.2.2.2.2.2.2.1 rfl rfl rfl (by decide) hW.1 rfl) hR hf rfl hls rfl hcat hdg kk
end KX0_putDown
section WX1_keepAsMark
variable {p : Program} {l : Launch} {e : Env} {s : State} {m : MethodId} {args : Array Value} {below : List Frame} {meth : Method} {c : Code} {D : va_G} {dA : Nat → ClassId} {α : Nat → Nat → Nat}
set_option maxHeartbeats 4000000 in
set_option maxRecDepth 100000 in
theorem w_X1_keepAsMark_0 (G : gx p s m meth c args cX1_keepAsMark 1 none RX1 "keepAsMark" D dA) {σz : sm_M} : ∀ (a0 : Nat) (ha0 : a0 < fN 5) (σ : sm_M), f_X1_keepAsMark a0 σ = some σz → ∀ (H : Heap) (locs : List Loc) (ls : Array Slot), Wd D dA 0 α s.heap σ H locs → lv_has ls 1 [(0, .ref (α 5 a0))] → gW 0 p l e s m args below meth c D dA 0 α none σz H locs (F0 m 0 ls []) := by
  obtain ⟨hx, hb, hr, hlk, hml, hown, hnm, hts, hK, hNw⟩ := id G
  intro a0 ha0 σ hF H locs ls hW hl
  rw [f_X1_keepAsMark] at hF
  refine lv_aload_n hx hb dX1_keepAsMark_0 rfl (lv_at hl 0 rfl) ?_
  refine lv_aload_n hx hb dX1_keepAsMark_1 rfl (lv_at hl 0 rfl) ?_
  refine gg_X1_26 G hW ha0 dX1_keepAsMark_2 ?_
  obtain ⟨σ1, hσ1, hF⟩ := o_b hF
  refine pp_X1_41 G hW ha0 hσ1 dX1_keepAsMark_5 (fun H locs hW => ?_)
  refine lv_aload_n hx hb dX1_keepAsMark_8 rfl (lv_at hl 0 rfl) ?_
  refine lv_aload_n hx hb dX1_keepAsMark_9 rfl (lv_at hl 0 rfl) ?_
  refine gg_X1_29 G hW ha0 dX1_keepAsMark_10 ?_
  obtain ⟨σ2, hσ2, hF⟩ := o_b hF
  refine pp_X1_44 G hW ha0 hσ2 dX1_keepAsMark_13 (fun H locs hW => ?_)
  refine lv_aload_n hx hb dX1_keepAsMark_16 rfl (lv_at hl 0 rfl) ?_
  refine lv_aload_n hx hb dX1_keepAsMark_17 rfl (lv_at hl 0 rfl) ?_
  refine gg_X1_32 G hW ha0 dX1_keepAsMark_18 ?_
  obtain ⟨σ3, hσ3, hF⟩ := o_b hF
  refine pp_X1_47 G hW ha0 hσ3 dX1_keepAsMark_21 (fun H locs hW => ?_)
  refine lv_aload_n hx hb dX1_keepAsMark_24 rfl (lv_at hl 0 rfl) ?_
  refine lv_iconst (v := 0) hx hb dX1_keepAsMark_25 (by decide) ?_
  obtain ⟨σ4, hσ4, hF⟩ := o_b hF
  refine pp_X1_50 G hW ha0 hσ4 dX1_keepAsMark_26 (fun H locs hW => ?_)
  exact g_vret G hW hF dX1_keepAsMark_29
end WX1_keepAsMark
theorem c_X1_keepAsMark {l : Launch} {D : va_G} {dA : Nat → ClassId} {α : Nat → Nat → Nat} (hI : Inj 0 α) {a0 : Nat} (ha0 : a0 < fN 5) {σ σz : sm_M} (hF : f_X1_keepAsMark a0 σ = some σz) : gM l D dA 0 α yX1_keepAsMark cX1_keepAsMark 1 none 0 [.ref (α 5 a0)] σ none σz :=
  g_met hI (by decide +kernel) (Nat.le_of_ble_eq_true rfl) (fun p e s m below meth c ls G hW hl => w_X1_keepAsMark_0 G _ ha0 _ hF _ _ _ hW hl)
section KX1_keepAsMark
variable {p : Program} {l : Launch} {e : Env} {R : Room} {s : State} {m : MethodId} {args : Array Value} {below : List Frame} {meth : Method} {c : Code} {H : Heap} {locs : List Loc} {cells slots : Nat} {Q : State → Prop}
variable {cc : ByteArray} {pc nL Z : Nat} {ls : Array Slot} {rest : List Value} {D : va_G} {dA : Nat → ClassId} {α : Nat → Nat → Nat} {H0 : Heap} {σ σ' : sm_M} {ret : Option FieldType} {own nm : String}
theorem kk_X1_38 (G : gx p s m meth c args cc nL ret RX1 nm D dA) (hW : Wd D dA 0 α H0 σ H locs) {a0 : Nat} (ha0 : a0 < fN 5) {q : sm_M} (hq : f_X1_keepAsMark a0 σ = some q) (hls : ls.size = nL) (hR : 0 + 1 ≤ R.frames ∧ 8 + (1 + 11) + 44 * 0 ≤ R.locals) (hf : cells ≤ R.cells ∧ slots ≤ R.slots) (hcat : (rest.map fun v => v.category).sum ≤ 8) (hdg : decode cc pc = .ok (.invokevirtual 38, 3)) (kk : ∀ (H1 : Heap) (locs1 : List Loc), Wd D dA 0 α H0 q H1 locs1 → W p l e R s m args below meth c H1 locs1 cells slots Q (F0 m (pc + 3) ls rest)) : W p l e R s m args below meth c H locs cells slots Q (F0 m pc ls (.ref (α 5 a0) :: rest)) :=
  g_cV (n := 0) G (c_X1_keepAsMark (l := l) hW.2.2.2 ha0 hq) ⟨wm_9_18, wm_9_19, wm_9_20, wm_2_13, wm_9_21⟩ (by decide +kernel) hW (g_recv (φ := 5) (ci := 1) G.2.2.2.2.2.2.2.2.1 rfl rfl rfl ha0 hW.1 rfl) hR hf rfl hls rfl hcat hdg kk
theorem kk_X2_103 (G : gx p s m meth c args cc nL ret RX2 nm D dA) (hW : Wd D dA 0 α H0 σ H locs) {a0 : Nat} (ha0 : a0 < fN 5) {q : sm_M} (hq : f_X1_keepAsMark a0 σ = some q) (hls : ls.size = nL) (hR : 0 + 1 ≤ R.frames ∧ 8 + (1 + 11) + 44 * 0 ≤ R.locals) (hf : cells ≤ R.cells ∧ slots ≤ R.slots) (hcat : (rest.map fun v => v.category).sum ≤ 8) (hdg : decode cc pc = .ok (.invokevirtual 103, 3)) (kk : ∀ (H1 : Heap) (locs1 : List Loc), Wd D dA 0 α H0 q H1 locs1 → W p l e R s m args below meth c H1 locs1 cells slots Q (F0 m (pc + 3) ls rest)) : W p l e R s m args below meth c H locs cells slots Q (F0 m pc ls (.ref (α 5 a0) :: rest)) :=
  g_cV (n := 0) G (c_X1_keepAsMark (l := l) hW.2.2.2 ha0 hq) ⟨wm_26_16, wm_9_19, wm_9_20, wm_2_13, wm_9_21⟩ (by decide +kernel) hW (g_recv (φ := 5) (ci := 1) G.2.2.2.2.2.2.2.2.1 rfl rfl rfl ha0 hW.1 rfl) hR hf rfl hls rfl hcat hdg kk
end KX1_keepAsMark
section WX1_set
variable {p : Program} {l : Launch} {e : Env} {s : State} {m : MethodId} {args : Array Value} {below : List Frame} {meth : Method} {c : Code} {D : va_G} {dA : Nat → ClassId} {α : Nat → Nat → Nat}
set_option maxHeartbeats 4000000 in
set_option maxRecDepth 100000 in
theorem w_X1_set_0 (G : gx p s m meth c args cX1_set 4 none RX1 "set" D dA) {σz : sm_M} : ∀ (a0 : Nat) (ha0 : a0 < fN 5) (v1 : Int32) (v2 : Int32) (v3 : Int32) (σ : sm_M), f_X1_set a0 v1 v2 v3 σ = some σz → ∀ (H : Heap) (locs : List Loc) (ls : Array Slot), Wd D dA 0 α s.heap σ H locs → lv_has ls 4 [(0, .ref (α 5 a0)), (1, .int v1), (2, .int v2), (3, .int v3)] → gW 1 p l e s m args below meth c D dA 0 α none σz H locs (F0 m 0 ls []) := by
  obtain ⟨hx, hb, hr, hlk, hml, hown, hnm, hts, hK, hNw⟩ := id G
  intro a0 ha0 v1 v2 v3 σ hF H locs ls hW hl
  rw [f_X1_set] at hF
  refine lv_aload_n hx hb dX1_set_0 rfl (lv_at hl 0 rfl) ?_
  refine lv_iload_n hx hb dX1_set_1 rfl (lv_at hl 1 rfl) ?_
  obtain ⟨σ1, hσ1, hF⟩ := o_b hF
  refine pp_X1_15 G hW ha0 hσ1 dX1_set_2 (fun H locs hW => ?_)
  refine lv_aload_n hx hb dX1_set_5 rfl (lv_at hl 0 rfl) ?_
  refine lv_iload_n hx hb dX1_set_6 rfl (lv_at hl 2 rfl) ?_
  obtain ⟨σ2, hσ2, hF⟩ := o_b hF
  refine pp_X1_19 G hW ha0 hσ2 dX1_set_7 (fun H locs hW => ?_)
  refine lv_aload_n hx hb dX1_set_10 rfl (lv_at hl 0 rfl) ?_
  refine lv_iload_n hx hb dX1_set_11 rfl (lv_at hl 3 rfl) ?_
  obtain ⟨σ3, hσ3, hF⟩ := o_b hF
  refine pp_X1_22 G hW ha0 hσ3 dX1_set_12 (fun H locs hW => ?_)
  refine lv_aload_n hx hb dX1_set_15 rfl (lv_at hl 0 rfl) ?_
  refine lv_iconst (v := 0) hx hb dX1_set_16 (by decide) ?_
  obtain ⟨σ4, hσ4, hF⟩ := o_b hF
  refine pp_X1_26 G hW ha0 hσ4 dX1_set_17 (fun H locs hW => ?_)
  refine lv_aload_n hx hb dX1_set_20 rfl (lv_at hl 0 rfl) ?_
  refine lv_iconst (v := 0) hx hb dX1_set_21 (by decide) ?_
  obtain ⟨σ5, hσ5, hF⟩ := o_b hF
  refine pp_X1_29 G hW ha0 hσ5 dX1_set_22 (fun H locs hW => ?_)
  refine lv_aload_n hx hb dX1_set_25 rfl (lv_at hl 0 rfl) ?_
  refine lv_iconst (v := 0) hx hb dX1_set_26 (by decide) ?_
  obtain ⟨σ6, hσ6, hF⟩ := o_b hF
  refine pp_X1_32 G hW ha0 hσ6 dX1_set_27 (fun H locs hW => ?_)
  refine lv_aload_n hx hb dX1_set_30 rfl (lv_at hl 0 rfl) ?_
  refine lv_iconst (v := 0) hx hb dX1_set_31 (by decide) ?_
  obtain ⟨σ7, hσ7, hF⟩ := o_b hF
  refine pp_X1_35 G hW ha0 hσ7 dX1_set_32 (fun H locs hW => ?_)
  refine lv_aload_n hx hb dX1_set_35 rfl (lv_at hl 0 rfl) ?_
  obtain ⟨q8, hq8, hF⟩ := o_b hF
  refine kk_X1_38 G hW ha0 hq8 hl.1 ⟨Nat.le_of_ble_eq_true rfl, Nat.le_of_ble_eq_true rfl⟩ ⟨Nat.le_refl _, Nat.le_refl _⟩ (Nat.le_of_ble_eq_true rfl) dX1_set_36 (fun H locs hW => ?_)
  exact g_vret G hW hF dX1_set_39
end WX1_set
theorem c_X1_set {l : Launch} {D : va_G} {dA : Nat → ClassId} {α : Nat → Nat → Nat} (hI : Inj 0 α) {a0 : Nat} (ha0 : a0 < fN 5) {v1 : Int32} {v2 : Int32} {v3 : Int32} {σ σz : sm_M} (hF : f_X1_set a0 v1 v2 v3 σ = some σz) : gM l D dA 0 α yX1_set cX1_set 4 none 1 [.ref (α 5 a0), .int v1, .int v2, .int v3] σ none σz :=
  g_met hI (by decide +kernel) (Nat.le_of_ble_eq_true rfl) (fun p e s m below meth c ls G hW hl => w_X1_set_0 G _ ha0 _ _ _ _ hF _ _ _ hW hl)
section KX1_set
variable {p : Program} {l : Launch} {e : Env} {R : Room} {s : State} {m : MethodId} {args : Array Value} {below : List Frame} {meth : Method} {c : Code} {H : Heap} {locs : List Loc} {cells slots : Nat} {Q : State → Prop}
variable {cc : ByteArray} {pc nL Z : Nat} {ls : Array Slot} {rest : List Value} {D : va_G} {dA : Nat → ClassId} {α : Nat → Nat → Nat} {H0 : Heap} {σ σ' : sm_M} {ret : Option FieldType} {own nm : String}
theorem kk_X2_36 (G : gx p s m meth c args cc nL ret RX2 nm D dA) (hW : Wd D dA 0 α H0 σ H locs) {a0 : Nat} (ha0 : a0 < fN 5) {v1 : Int32} {v2 : Int32} {v3 : Int32} {q : sm_M} (hq : f_X1_set a0 v1 v2 v3 σ = some q) (hls : ls.size = nL) (hR : 1 + 1 ≤ R.frames ∧ 8 + (4 + 11) + 44 * 1 ≤ R.locals) (hf : cells ≤ R.cells ∧ slots ≤ R.slots) (hcat : (rest.map fun v => v.category).sum ≤ 8) (hdg : decode cc pc = .ok (.invokevirtual 36, 3)) (kk : ∀ (H1 : Heap) (locs1 : List Loc), Wd D dA 0 α H0 q H1 locs1 → W p l e R s m args below meth c H1 locs1 cells slots Q (F0 m (pc + 3) ls rest)) : W p l e R s m args below meth c H locs cells slots Q (F0 m pc ls (.int v3 :: .int v2 :: .int v1 :: .ref (α 5 a0) :: rest)) :=
  g_cV (n := 3) G (c_X1_set (l := l) hW.2.2.2 ha0 hq) ⟨wm_9_7, wm_9_8, wm_9_9, wm_2_13, wm_9_10⟩ (by decide +kernel) hW (g_recv (φ := 5) (ci := 1) G.2.2.2.2.2.2.2.2.1 rfl rfl rfl ha0 hW.1 rfl) hR hf rfl hls rfl hcat hdg kk
end KX1_set
section WX5_isIn
variable {p : Program} {l : Launch} {e : Env} {s : State} {m : MethodId} {args : Array Value} {below : List Frame} {meth : Method} {c : Code} {D : va_G} {dA : Nat → ClassId} {α : Nat → Nat → Nat}
set_option maxHeartbeats 4000000 in
set_option maxRecDepth 100000 in
theorem w_X5_isIn_14 (G : gx p s m meth c args cX5_isIn 2 (some .boolean) RX5 "isIn" D dA) {r : Int32} {σz : sm_M} : ∀ (s0 : Int32) (σ : sm_M), f_X5_isIn_14 s0 σ = some (r, σz) → ∀ (H : Heap) (locs : List Loc) (ls : Array Slot), Wd D dA 0 α s.heap σ H locs → lv_has ls 2 [] → gW 0 p l e s m args below meth c D dA 0 α (some (.int r)) σz H locs (F0 m 14 ls [.int s0]) := by
  obtain ⟨hx, hb, hr, hlk, hml, hown, hnm, hts, hK, hNw⟩ := id G
  intro s0 σ hF H locs ls hW hl
  rw [f_X5_isIn_14] at hF
  exact g_zret G hW hF dX5_isIn_14
set_option maxHeartbeats 4000000 in
set_option maxRecDepth 100000 in
theorem w_X5_isIn_0 (G : gx p s m meth c args cX5_isIn 2 (some .boolean) RX5 "isIn" D dA) {r : Int32} {σz : sm_M} : ∀ (v0 : Int32) (v1 : Int32) (σ : sm_M), f_X5_isIn v0 v1 σ = some (r, σz) → ∀ (H : Heap) (locs : List Loc) (ls : Array Slot), Wd D dA 0 α s.heap σ H locs → lv_has ls 2 [(0, .int v0), (1, .int v1)] → gW 0 p l e s m args below meth c D dA 0 α (some (.int r)) σz H locs (F0 m 0 ls []) := by
  obtain ⟨hx, hb, hr, hlk, hml, hown, hnm, hts, hK, hNw⟩ := id G
  intro v0 v1 σ hF H locs ls hW hl
  rw [f_X5_isIn] at hF
  refine lv_iload_n hx hb dX5_isIn_0 rfl (lv_at hl 0 rfl) ?_
  refine lv_iload_n hx hb dX5_isIn_1 rfl (lv_at hl 1 rfl) ?_
  refine lv_ishr hx hb dX5_isIn_2 ?_
  refine lv_iconst (v := 1) hx hb dX5_isIn_3 (by decide) ?_
  refine lv_iand hx hb dX5_isIn_4 ?_
  refine lv_iconst (v := 1) hx hb dX5_isIn_5 (by decide) ?_
  refine lv_icmp_ne (tgt := 13) hx hb dX5_isIn_6 (by decide) (fun hc => ?_) (fun hc => ?_)
  · replace hF := o_f hc hF
    refine lv_iconst (v := 0) hx hb dX5_isIn_13 (by decide) ?_
    exact w_X5_isIn_14 G _ _ hF H locs ls hW (lv_sub hl [] rfl)
  · replace hF := o_t hc hF
    refine lv_iconst (v := 1) hx hb dX5_isIn_9 (by decide) ?_
    refine lv_goto (tgt := 14) hx hb dX5_isIn_10 (by decide) ?_
    exact w_X5_isIn_14 G _ _ hF H locs ls hW (lv_sub hl [] rfl)
end WX5_isIn
theorem c_X5_isIn {l : Launch} {D : va_G} {dA : Nat → ClassId} {α : Nat → Nat → Nat} (hI : Inj 0 α) {v0 : Int32} {v1 : Int32} {σ σz : sm_M} {r : Int32} (hF : f_X5_isIn v0 v1 σ = some (r, σz)) : gM l D dA 0 α yX5_isIn cX5_isIn 2 (some .boolean) 0 [.int v0, .int v1] σ (some (.int r)) σz :=
  g_met hI (by decide +kernel) (Nat.le_of_ble_eq_true rfl) (fun p e s m below meth c ls G hW hl => w_X5_isIn_0 G _ _ _ hF _ _ _ hW hl)
section KX5_isIn
variable {p : Program} {l : Launch} {e : Env} {R : Room} {s : State} {m : MethodId} {args : Array Value} {below : List Frame} {meth : Method} {c : Code} {H : Heap} {locs : List Loc} {cells slots : Nat} {Q : State → Prop}
variable {cc : ByteArray} {pc nL Z : Nat} {ls : Array Slot} {rest : List Value} {D : va_G} {dA : Nat → ClassId} {α : Nat → Nat → Nat} {H0 : Heap} {σ σ' : sm_M} {ret : Option FieldType} {own nm : String}
theorem kk_X5_202 (G : gx p s m meth c args cc nL ret RX5 nm D dA) (hW : Wd D dA 0 α H0 σ H locs) {v0 : Int32} {v1 : Int32} {q : Int32 × sm_M} (hq : f_X5_isIn v0 v1 σ = some q) (hls : ls.size = nL) (hR : 0 + 1 ≤ R.frames ∧ 8 + (2 + 11) + 44 * 0 ≤ R.locals) (hf : cells ≤ R.cells ∧ slots ≤ R.slots) (hcat : (rest.map fun v => v.category).sum ≤ 8) (hdg : decode cc pc = .ok (.invokestatic 202, 3)) (kk : ∀ (H1 : Heap) (locs1 : List Loc), Wd D dA 0 α H0 q.2 H1 locs1 → W p l e R s m args below meth c H1 locs1 cells slots Q (F0 m (pc + 3) ls (.int q.1 :: rest))) : W p l e R s m args below meth c H locs cells slots Q (F0 m pc ls (.int v1 :: .int v0 :: rest)) :=
  g_cS (n := 2) G (c_X5_isIn (l := l) hW.2.2.2 hq) ⟨wm_15_12, wm_14_19, wm_1_2, wm_14_20⟩ (by decide +kernel) hW hR hf rfl hls rfl hcat hdg kk
theorem kk_X1_53 (G : gx p s m meth c args cc nL ret RX1 nm D dA) (hW : Wd D dA 0 α H0 σ H locs) {v0 : Int32} {v1 : Int32} {q : Int32 × sm_M} (hq : f_X5_isIn v0 v1 σ = some q) (hls : ls.size = nL) (hR : 0 + 1 ≤ R.frames ∧ 8 + (2 + 11) + 44 * 0 ≤ R.locals) (hf : cells ≤ R.cells ∧ slots ≤ R.slots) (hcat : (rest.map fun v => v.category).sum ≤ 8) (hdg : decode cc pc = .ok (.invokestatic 53, 3)) (kk : ∀ (H1 : Heap) (locs1 : List Loc), Wd D dA 0 α H0 q.2 H1 locs1 → W p l e R s m args below meth c H1 locs1 cells slots Q (F0 m (pc + 3) ls (.int q.1 :: rest))) : W p l e R s m args below meth c H locs cells slots Q (F0 m pc ls (.int v1 :: .int v0 :: rest)) :=
  g_cN (n := 2) (host := "RegionRestarts") G (c_X5_isIn (l := l) hW.2.2.2 hq) ⟨G.2.2.2.2.2.2.2.2.2.1, wm_14_19, wm_1_2, wm_14_20⟩ (by decide +kernel) hW hR hf rfl hls rfl hcat hdg kk
theorem kk_X2_94 (G : gx p s m meth c args cc nL ret RX2 nm D dA) (hW : Wd D dA 0 α H0 σ H locs) {v0 : Int32} {v1 : Int32} {q : Int32 × sm_M} (hq : f_X5_isIn v0 v1 σ = some q) (hls : ls.size = nL) (hR : 0 + 1 ≤ R.frames ∧ 8 + (2 + 11) + 44 * 0 ≤ R.locals) (hf : cells ≤ R.cells ∧ slots ≤ R.slots) (hcat : (rest.map fun v => v.category).sum ≤ 8) (hdg : decode cc pc = .ok (.invokestatic 94, 3)) (kk : ∀ (H1 : Heap) (locs1 : List Loc), Wd D dA 0 α H0 q.2 H1 locs1 → W p l e R s m args below meth c H1 locs1 cells slots Q (F0 m (pc + 3) ls (.int q.1 :: rest))) : W p l e R s m args below meth c H locs cells slots Q (F0 m pc ls (.int v1 :: .int v0 :: rest)) :=
  g_cN (n := 2) (host := "RegionRestarts") G (c_X5_isIn (l := l) hW.2.2.2 hq) ⟨G.2.2.2.2.2.2.2.2.2.2.1, wm_14_19, wm_1_2, wm_14_20⟩ (by decide +kernel) hW hR hf rfl hls rfl hcat hdg kk
end KX5_isIn
section WX1_isOverAt
variable {p : Program} {l : Launch} {e : Env} {s : State} {m : MethodId} {args : Array Value} {below : List Frame} {meth : Method} {c : Code} {D : va_G} {dA : Nat → ClassId} {α : Nat → Nat → Nat}
set_option maxHeartbeats 4000000 in
set_option maxRecDepth 100000 in
theorem w_X1_isOverAt_24 (G : gx p s m meth c args cX1_isOverAt 3 (some .boolean) RX1 "isOverAt" D dA) {r : Int32} {σz : sm_M} : ∀ (s0 : Int32) (σ : sm_M), f_X1_isOverAt_24 s0 σ = some (r, σz) → ∀ (H : Heap) (locs : List Loc) (ls : Array Slot), Wd D dA 0 α s.heap σ H locs → lv_has ls 3 [] → gW 1 p l e s m args below meth c D dA 0 α (some (.int r)) σz H locs (F0 m 24 ls [.int s0]) := by
  obtain ⟨hx, hb, hr, hlk, hml, hown, hnm, hts, hK, hNw⟩ := id G
  intro s0 σ hF H locs ls hW hl
  rw [f_X1_isOverAt_24] at hF
  exact g_zret G hW hF dX1_isOverAt_24
set_option maxHeartbeats 4000000 in
set_option maxRecDepth 100000 in
theorem w_X1_isOverAt_23 (G : gx p s m meth c args cX1_isOverAt 3 (some .boolean) RX1 "isOverAt" D dA) {r : Int32} {σz : sm_M} : ∀ (σ : sm_M), f_X1_isOverAt_23 σ = some (r, σz) → ∀ (H : Heap) (locs : List Loc) (ls : Array Slot), Wd D dA 0 α s.heap σ H locs → lv_has ls 3 [] → gW 1 p l e s m args below meth c D dA 0 α (some (.int r)) σz H locs (F0 m 23 ls []) := by
  obtain ⟨hx, hb, hr, hlk, hml, hown, hnm, hts, hK, hNw⟩ := id G
  intro σ hF H locs ls hW hl
  rw [f_X1_isOverAt_23] at hF
  refine lv_iconst (v := 0) hx hb dX1_isOverAt_23 (by decide) ?_
  exact w_X1_isOverAt_24 G _ _ hF H locs ls hW (lv_sub hl [] rfl)
set_option maxHeartbeats 4000000 in
set_option maxRecDepth 100000 in
theorem w_X1_isOverAt_0 (G : gx p s m meth c args cX1_isOverAt 3 (some .boolean) RX1 "isOverAt" D dA) {r : Int32} {σz : sm_M} : ∀ (a0 : Nat) (ha0 : a0 < fN 5) (v1 : Int32) (v2 : Int32) (σ : sm_M), f_X1_isOverAt a0 v1 v2 σ = some (r, σz) → ∀ (H : Heap) (locs : List Loc) (ls : Array Slot), Wd D dA 0 α s.heap σ H locs → lv_has ls 3 [(0, .ref (α 5 a0)), (1, .int v1), (2, .int v2)] → gW 1 p l e s m args below meth c D dA 0 α (some (.int r)) σz H locs (F0 m 0 ls []) := by
  obtain ⟨hx, hb, hr, hlk, hml, hown, hnm, hts, hK, hNw⟩ := id G
  intro a0 ha0 v1 v2 σ hF H locs ls hW hl
  rw [f_X1_isOverAt] at hF
  refine lv_iload_n hx hb dX1_isOverAt_0 rfl (lv_at hl 2 rfl) ?_
  refine lv_aload_n hx hb dX1_isOverAt_1 rfl (lv_at hl 0 rfl) ?_
  refine gg_X1_15 G hW ha0 dX1_isOverAt_2 ?_
  obtain ⟨q1, hq1, hF⟩ := o_b hF
  refine kk_X1_53 G hW hq1 hl.1 ⟨Nat.le_of_ble_eq_true rfl, Nat.le_of_ble_eq_true rfl⟩ ⟨Nat.le_refl _, Nat.le_refl _⟩ (Nat.le_of_ble_eq_true rfl) dX1_isOverAt_5 (fun H locs hW => ?_)
  refine lv_if_eq (tgt := 23) hx hb dX1_isOverAt_8 (by decide) (fun hc => ?_) (fun hc => ?_)
  · replace hF := o_t hc hF
    exact w_X1_isOverAt_23 G  _ hF H locs ls hW (lv_sub hl [] rfl)
  · replace hF := o_f hc hF
    refine lv_iload_n hx hb dX1_isOverAt_11 rfl (lv_at hl 1 rfl) ?_
    refine lv_aload_n hx hb dX1_isOverAt_12 rfl (lv_at hl 0 rfl) ?_
    refine gg_X1_29 G hW ha0 dX1_isOverAt_13 ?_
    refine lv_icmp_lt (tgt := 23) hx hb dX1_isOverAt_16 (by decide) (fun hc => ?_) (fun hc => ?_)
    · replace hF := o_t hc hF
      exact w_X1_isOverAt_23 G  _ hF H locs ls hW (lv_sub hl [] rfl)
    · replace hF := o_f hc hF
      refine lv_iconst (v := 1) hx hb dX1_isOverAt_19 (by decide) ?_
      refine lv_goto (tgt := 24) hx hb dX1_isOverAt_20 (by decide) ?_
      exact w_X1_isOverAt_24 G _ _ hF H locs ls hW (lv_sub hl [] rfl)
end WX1_isOverAt
theorem c_X1_isOverAt {l : Launch} {D : va_G} {dA : Nat → ClassId} {α : Nat → Nat → Nat} (hI : Inj 0 α) {a0 : Nat} (ha0 : a0 < fN 5) {v1 : Int32} {v2 : Int32} {σ σz : sm_M} {r : Int32} (hF : f_X1_isOverAt a0 v1 v2 σ = some (r, σz)) : gM l D dA 0 α yX1_isOverAt cX1_isOverAt 3 (some .boolean) 1 [.ref (α 5 a0), .int v1, .int v2] σ (some (.int r)) σz :=
  g_met hI (by decide +kernel) (Nat.le_of_ble_eq_true rfl) (fun p e s m below meth c ls G hW hl => w_X1_isOverAt_0 G _ ha0 _ _ _ hF _ _ _ hW hl)
section KX1_isOverAt
variable {p : Program} {l : Launch} {e : Env} {R : Room} {s : State} {m : MethodId} {args : Array Value} {below : List Frame} {meth : Method} {c : Code} {H : Heap} {locs : List Loc} {cells slots : Nat} {Q : State → Prop}
variable {cc : ByteArray} {pc nL Z : Nat} {ls : Array Slot} {rest : List Value} {D : va_G} {dA : Nat → ClassId} {α : Nat → Nat → Nat} {H0 : Heap} {σ σ' : sm_M} {ret : Option FieldType} {own nm : String}
theorem kk_X5_221 (G : gx p s m meth c args cc nL ret RX5 nm D dA) (hW : Wd D dA 0 α H0 σ H locs) {a0 : Nat} (ha0 : a0 < fN 5) {v1 : Int32} {v2 : Int32} {q : Int32 × sm_M} (hq : f_X1_isOverAt a0 v1 v2 σ = some q) (hls : ls.size = nL) (hR : 1 + 1 ≤ R.frames ∧ 8 + (3 + 11) + 44 * 1 ≤ R.locals) (hf : cells ≤ R.cells ∧ slots ≤ R.slots) (hcat : (rest.map fun v => v.category).sum ≤ 8) (hdg : decode cc pc = .ok (.invokevirtual 221, 3)) (kk : ∀ (H1 : Heap) (locs1 : List Loc), Wd D dA 0 α H0 q.2 H1 locs1 → W p l e R s m args below meth c H1 locs1 cells slots Q (F0 m (pc + 3) ls (.int q.1 :: rest))) : W p l e R s m args below meth c H locs cells slots Q (F0 m pc ls (.int v2 :: .int v1 :: .ref (α 5 a0) :: rest)) :=
  g_cV (n := 2) G (c_X1_isOverAt (l := l) hW.2.2.2 ha0 hq) ⟨wm_28_7, wm_14_16, wm_14_17, wm_2_13, wm_14_18⟩ (by decide +kernel) hW (g_recv (φ := 5) (ci := 1) G.2.2.2.2.2.2.2.2.1 rfl rfl rfl ha0 hW.1 rfl) hR hf rfl hls rfl hcat hdg kk
theorem kk_X2_68 (G : gx p s m meth c args cc nL ret RX2 nm D dA) (hW : Wd D dA 0 α H0 σ H locs) {a0 : Nat} (ha0 : a0 < fN 5) {v1 : Int32} {v2 : Int32} {q : Int32 × sm_M} (hq : f_X1_isOverAt a0 v1 v2 σ = some q) (hls : ls.size = nL) (hR : 1 + 1 ≤ R.frames ∧ 8 + (3 + 11) + 44 * 1 ≤ R.locals) (hf : cells ≤ R.cells ∧ slots ≤ R.slots) (hcat : (rest.map fun v => v.category).sum ≤ 8) (hdg : decode cc pc = .ok (.invokevirtual 68, 3)) (kk : ∀ (H1 : Heap) (locs1 : List Loc), Wd D dA 0 α H0 q.2 H1 locs1 → W p l e R s m args below meth c H1 locs1 cells slots Q (F0 m (pc + 3) ls (.int q.1 :: rest))) : W p l e R s m args below meth c H locs cells slots Q (F0 m pc ls (.int v2 :: .int v1 :: .ref (α 5 a0) :: rest)) :=
  g_cV (n := 2) G (c_X1_isOverAt (l := l) hW.2.2.2 ha0 hq) ⟨wm_14_15, wm_14_16, wm_14_17, wm_2_13, wm_14_18⟩ (by decide +kernel) hW (g_recv (φ := 5) (ci := 1) G.2.2.2.2.2.2.2.2.1 rfl rfl rfl ha0 hW.1 rfl) hR hf rfl hls rfl hcat hdg kk
theorem kk_X3_87 (G : gx p s m meth c args cc nL ret RX3 nm D dA) (hW : Wd D dA 0 α H0 σ H locs) {a0 : Nat} (ha0 : a0 < fN 5) {v1 : Int32} {v2 : Int32} {q : Int32 × sm_M} (hq : f_X1_isOverAt a0 v1 v2 σ = some q) (hls : ls.size = nL) (hR : 1 + 1 ≤ R.frames ∧ 8 + (3 + 11) + 44 * 1 ≤ R.locals) (hf : cells ≤ R.cells ∧ slots ≤ R.slots) (hcat : (rest.map fun v => v.category).sum ≤ 8) (hdg : decode cc pc = .ok (.invokevirtual 87, 3)) (kk : ∀ (H1 : Heap) (locs1 : List Loc), Wd D dA 0 α H0 q.2 H1 locs1 → W p l e R s m args below meth c H1 locs1 cells slots Q (F0 m (pc + 3) ls (.int q.1 :: rest))) : W p l e R s m args below meth c H locs cells slots Q (F0 m pc ls (.int v2 :: .int v1 :: .ref (α 5 a0) :: rest)) :=
  g_cV (n := 2) G (c_X1_isOverAt (l := l) hW.2.2.2 ha0 hq) ⟨wm_14_21, wm_14_16, wm_14_17, wm_2_13, wm_14_18⟩ (by decide +kernel) hW (g_recv (φ := 5) (ci := 1) G.2.2.2.2.2.2.2.2.1 rfl rfl rfl ha0 hW.1 rfl) hR hf rfl hls rfl hcat hdg kk
end KX1_isOverAt
section WX1_takeOne
variable {p : Program} {l : Launch} {e : Env} {s : State} {m : MethodId} {args : Array Value} {below : List Frame} {meth : Method} {c : Code} {D : va_G} {dA : Nat → ClassId} {α : Nat → Nat → Nat}
set_option maxHeartbeats 4000000 in
set_option maxRecDepth 100000 in
theorem w_X1_takeOne_0 (G : gx p s m meth c args cX1_takeOne 1 none RX1 "takeOne" D dA) {σz : sm_M} : ∀ (a0 : Nat) (ha0 : a0 < fN 5) (σ : sm_M), f_X1_takeOne a0 σ = some σz → ∀ (H : Heap) (locs : List Loc) (ls : Array Slot), Wd D dA 0 α s.heap σ H locs → lv_has ls 1 [(0, .ref (α 5 a0))] → gW 1 p l e s m args below meth c D dA 0 α none σz H locs (F0 m 0 ls []) := by
  obtain ⟨hx, hb, hr, hlk, hml, hown, hnm, hts, hK, hNw⟩ := id G
  intro a0 ha0 σ hF H locs ls hW hl
  rw [f_X1_takeOne] at hF
  refine lv_aload_n hx hb dX1_takeOne_0 rfl (lv_at hl 0 rfl) ?_
  refine lv_dup hx hb dX1_takeOne_1 rfl ?_
  refine gg_X1_32 G hW ha0 dX1_takeOne_2 ?_
  refine lv_iconst (v := 1) hx hb dX1_takeOne_5 (by decide) ?_
  refine lv_iadd hx hb dX1_takeOne_6 ?_
  obtain ⟨σ1, hσ1, hF⟩ := o_b hF
  refine pp_X1_32 G hW ha0 hσ1 dX1_takeOne_7 (fun H locs hW => ?_)
  refine lv_aload_n hx hb dX1_takeOne_10 rfl (lv_at hl 0 rfl) ?_
  refine lv_aload_n hx hb dX1_takeOne_11 rfl (lv_at hl 0 rfl) ?_
  refine gg_X1_35 G hW ha0 dX1_takeOne_12 ?_
  refine lv_aload_n hx hb dX1_takeOne_15 rfl (lv_at hl 0 rfl) ?_
  refine gg_X1_32 G hW ha0 dX1_takeOne_16 ?_
  refine g_max G hl.1 mm_X1_57 (Nat.le_of_ble_eq_true rfl) (Nat.le_of_ble_eq_true rfl) (Nat.le_refl _) (Nat.le_refl _) dX1_takeOne_19 ?_
  obtain ⟨σ2, hσ2, hF⟩ := o_b hF
  refine pp_X1_35 G hW ha0 hσ2 dX1_takeOne_22 (fun H locs hW => ?_)
  exact g_vret G hW hF dX1_takeOne_25
end WX1_takeOne
theorem c_X1_takeOne {l : Launch} {D : va_G} {dA : Nat → ClassId} {α : Nat → Nat → Nat} (hI : Inj 0 α) {a0 : Nat} (ha0 : a0 < fN 5) {σ σz : sm_M} (hF : f_X1_takeOne a0 σ = some σz) : gM l D dA 0 α yX1_takeOne cX1_takeOne 1 none 1 [.ref (α 5 a0)] σ none σz :=
  g_met hI (by decide +kernel) (Nat.le_of_ble_eq_true rfl) (fun p e s m below meth c ls G hW hl => w_X1_takeOne_0 G _ ha0 _ hF _ _ _ hW hl)
section KX1_takeOne
variable {p : Program} {l : Launch} {e : Env} {R : Room} {s : State} {m : MethodId} {args : Array Value} {below : List Frame} {meth : Method} {c : Code} {H : Heap} {locs : List Loc} {cells slots : Nat} {Q : State → Prop}
variable {cc : ByteArray} {pc nL Z : Nat} {ls : Array Slot} {rest : List Value} {D : va_G} {dA : Nat → ClassId} {α : Nat → Nat → Nat} {H0 : Heap} {σ σ' : sm_M} {ret : Option FieldType} {own nm : String}
theorem kk_X5_260 (G : gx p s m meth c args cc nL ret RX5 nm D dA) (hW : Wd D dA 0 α H0 σ H locs) {a0 : Nat} (ha0 : a0 < fN 5) {q : sm_M} (hq : f_X1_takeOne a0 σ = some q) (hls : ls.size = nL) (hR : 1 + 1 ≤ R.frames ∧ 8 + (1 + 11) + 44 * 1 ≤ R.locals) (hf : cells ≤ R.cells ∧ slots ≤ R.slots) (hcat : (rest.map fun v => v.category).sum ≤ 8) (hdg : decode cc pc = .ok (.invokevirtual 260, 3)) (kk : ∀ (H1 : Heap) (locs1 : List Loc), Wd D dA 0 α H0 q H1 locs1 → W p l e R s m args below meth c H1 locs1 cells slots Q (F0 m (pc + 3) ls rest)) : W p l e R s m args below meth c H locs cells slots Q (F0 m pc ls (.ref (α 5 a0) :: rest)) :=
  g_cV (n := 0) G (c_X1_takeOne (l := l) hW.2.2.2 ha0 hq) ⟨wm_18_11, wm_18_12, wm_18_13, wm_2_13, wm_18_14⟩ (by decide +kernel) hW (g_recv (φ := 5) (ci := 1) G.2.2.2.2.2.2.2.2.1 rfl rfl rfl ha0 hW.1 rfl) hR hf rfl hls rfl hcat hdg kk
end KX1_takeOne
section WX1_put
variable {p : Program} {l : Launch} {e : Env} {s : State} {m : MethodId} {args : Array Value} {below : List Frame} {meth : Method} {c : Code} {D : va_G} {dA : Nat → ClassId} {α : Nat → Nat → Nat}
set_option maxHeartbeats 4000000 in
set_option maxRecDepth 100000 in
theorem w_X1_put_41 (G : gx p s m meth c args cX1_put 2 none RX1 "put" D dA) {σz : sm_M} : ∀ (a0 : Nat) (ha0 : a0 < fN 5) (σ : sm_M), f_X1_put_41 a0 σ = some σz → ∀ (H : Heap) (locs : List Loc) (ls : Array Slot), Wd D dA 0 α s.heap σ H locs → lv_has ls 2 [(0, .ref (α 5 a0))] → gW 0 p l e s m args below meth c D dA 0 α none σz H locs (F0 m 41 ls []) := by
  obtain ⟨hx, hb, hr, hlk, hml, hown, hnm, hts, hK, hNw⟩ := id G
  intro a0 ha0 σ hF H locs ls hW hl
  rw [f_X1_put_41] at hF
  refine lv_aload_n hx hb dX1_put_41 rfl (lv_at hl 0 rfl) ?_
  refine lv_dup hx hb dX1_put_42 rfl ?_
  refine gg_X1_29 G hW ha0 dX1_put_43 ?_
  refine lv_iconst (v := 1) hx hb dX1_put_46 (by decide) ?_
  refine lv_iadd hx hb dX1_put_47 ?_
  obtain ⟨σ1, hσ1, hF⟩ := o_b hF
  refine pp_X1_29 G hW ha0 hσ1 dX1_put_48 (fun H locs hW => ?_)
  exact g_vret G hW hF dX1_put_51
set_option maxHeartbeats 4000000 in
set_option maxRecDepth 100000 in
theorem w_X1_put_0 (G : gx p s m meth c args cX1_put 2 none RX1 "put" D dA) {σz : sm_M} : ∀ (a0 : Nat) (ha0 : a0 < fN 5) (v1 : Int32) (σ : sm_M), f_X1_put a0 v1 σ = some σz → ∀ (H : Heap) (locs : List Loc) (ls : Array Slot), Wd D dA 0 α s.heap σ H locs → lv_has ls 2 [(0, .ref (α 5 a0)), (1, .int v1)] → gW 0 p l e s m args below meth c D dA 0 α none σz H locs (F0 m 0 ls []) := by
  obtain ⟨hx, hb, hr, hlk, hml, hown, hnm, hts, hK, hNw⟩ := id G
  intro a0 ha0 v1 σ hF H locs ls hW hl
  rw [f_X1_put] at hF
  refine lv_aload_n hx hb dX1_put_0 rfl (lv_at hl 0 rfl) ?_
  refine gg_X1_29 G hW ha0 dX1_put_1 ?_
  refine lv_bipush (v := 64) hx hb dX1_put_4 (by decide) ?_
  refine lv_icmp_lt (tgt := 10) hx hb dX1_put_6 (by decide) (fun hc => ?_) (fun hc => ?_)
  · replace hF := o_t hc hF
    refine lv_aload_n hx hb dX1_put_10 rfl (lv_at hl 0 rfl) ?_
    refine gg_X1_29 G hW ha0 dX1_put_11 ?_
    refine lv_aload_n hx hb dX1_put_14 rfl (lv_at hl 0 rfl) ?_
    refine gg_X1_26 G hW ha0 dX1_put_15 ?_
    refine lv_icmp_ne (tgt := 41) hx hb dX1_put_18 (by decide) (fun hc => ?_) (fun hc => ?_)
    · replace hF := o_f hc hF
      exact w_X1_put_41 G _ ha0 _ hF H locs ls hW (lv_sub hl [0] rfl)
    · replace hF := o_t hc hF
      refine lv_aload_n hx hb dX1_put_21 rfl (lv_at hl 0 rfl) ?_
      refine gg_X1_9 G hW ha0 dX1_put_22 ?_
      refine lv_aload_n hx hb dX1_put_25 rfl (lv_at hl 0 rfl) ?_
      refine gg_X1_26 G hW ha0 dX1_put_26 ?_
      refine lv_iload_n hx hb dX1_put_29 rfl (lv_at hl 1 rfl) ?_
      obtain ⟨σ1, hσ1, hF⟩ := o_b hF
      refine g_uI (φ := 16) G rfl rfl (by decide) rfl hW ha0 hσ1 dX1_put_30 (fun H locs hW => ?_)
      refine lv_aload_n hx hb dX1_put_31 rfl (lv_at hl 0 rfl) ?_
      refine lv_dup hx hb dX1_put_32 rfl ?_
      refine gg_X1_26 G hW ha0 dX1_put_33 ?_
      refine lv_iconst (v := 1) hx hb dX1_put_36 (by decide) ?_
      refine lv_iadd hx hb dX1_put_37 ?_
      obtain ⟨σ2, hσ2, hF⟩ := o_b hF
      refine pp_X1_26 G hW ha0 hσ2 dX1_put_38 (fun H locs hW => ?_)
      exact w_X1_put_41 G _ ha0 _ hF H locs ls hW (lv_sub hl [0] rfl)
  · replace hF := o_f hc hF
    exact g_vret G hW hF dX1_put_9
end WX1_put
theorem c_X1_put {l : Launch} {D : va_G} {dA : Nat → ClassId} {α : Nat → Nat → Nat} (hI : Inj 0 α) {a0 : Nat} (ha0 : a0 < fN 5) {v1 : Int32} {σ σz : sm_M} (hF : f_X1_put a0 v1 σ = some σz) : gM l D dA 0 α yX1_put cX1_put 2 none 0 [.ref (α 5 a0), .int v1] σ none σz :=
  g_met hI (by decide +kernel) (Nat.le_of_ble_eq_true rfl) (fun p e s m below meth c ls G hW hl => w_X1_put_0 G _ ha0 _ _ hF _ _ _ hW hl)
section KX1_put
variable {p : Program} {l : Launch} {e : Env} {R : Room} {s : State} {m : MethodId} {args : Array Value} {below : List Frame} {meth : Method} {c : Code} {H : Heap} {locs : List Loc} {cells slots : Nat} {Q : State → Prop}
variable {cc : ByteArray} {pc nL Z : Nat} {ls : Array Slot} {rest : List Value} {D : va_G} {dA : Nat → ClassId} {α : Nat → Nat → Nat} {H0 : Heap} {σ σ' : sm_M} {ret : Option FieldType} {own nm : String}
theorem kk_X2_86 (G : gx p s m meth c args cc nL ret RX2 nm D dA) (hW : Wd D dA 0 α H0 σ H locs) {a0 : Nat} (ha0 : a0 < fN 5) {v1 : Int32} {q : sm_M} (hq : f_X1_put a0 v1 σ = some q) (hls : ls.size = nL) (hR : 0 + 1 ≤ R.frames ∧ 8 + (2 + 11) + 44 * 0 ≤ R.locals) (hf : cells ≤ R.cells ∧ slots ≤ R.slots) (hcat : (rest.map fun v => v.category).sum ≤ 8) (hdg : decode cc pc = .ok (.invokevirtual 86, 3)) (kk : ∀ (H1 : Heap) (locs1 : List Loc), Wd D dA 0 α H0 q H1 locs1 → W p l e R s m args below meth c H1 locs1 cells slots Q (F0 m (pc + 3) ls rest)) : W p l e R s m args below meth c H locs cells slots Q (F0 m pc ls (.int v1 :: .ref (α 5 a0) :: rest)) :=
  g_cV (n := 1) G (c_X1_put (l := l) hW.2.2.2 ha0 hq) ⟨wm_19_9, wm_19_10, wm_19_11, wm_2_13, wm_19_12⟩ (by decide +kernel) hW (g_recv (φ := 5) (ci := 1) G.2.2.2.2.2.2.2.2.1 rfl rfl rfl ha0 hW.1 rfl) hR hf rfl hls rfl hcat hdg kk
end KX1_put
section WX1_loseBehindMark
variable {p : Program} {l : Launch} {e : Env} {s : State} {m : MethodId} {args : Array Value} {below : List Frame} {meth : Method} {c : Code} {D : va_G} {dA : Nat → ClassId} {α : Nat → Nat → Nat}
set_option maxHeartbeats 4000000 in
set_option maxRecDepth 100000 in
theorem w_X1_loseBehindMark_0 (G : gx p s m meth c args cX1_loseBehindMark 1 none RX1 "loseBehindMark" D dA) {σz : sm_M} : ∀ (a0 : Nat) (ha0 : a0 < fN 5) (σ : sm_M), f_X1_loseBehindMark a0 σ = some σz → ∀ (H : Heap) (locs : List Loc) (ls : Array Slot), Wd D dA 0 α s.heap σ H locs → lv_has ls 1 [(0, .ref (α 5 a0))] → gW 0 p l e s m args below meth c D dA 0 α none σz H locs (F0 m 0 ls []) := by
  obtain ⟨hx, hb, hr, hlk, hml, hown, hnm, hts, hK, hNw⟩ := id G
  intro a0 ha0 σ hF H locs ls hW hl
  rw [f_X1_loseBehindMark] at hF
  refine lv_aload_n hx hb dX1_loseBehindMark_0 rfl (lv_at hl 0 rfl) ?_
  refine lv_aload_n hx hb dX1_loseBehindMark_1 rfl (lv_at hl 0 rfl) ?_
  refine gg_X1_26 G hW ha0 dX1_loseBehindMark_2 ?_
  refine lv_aload_n hx hb dX1_loseBehindMark_5 rfl (lv_at hl 0 rfl) ?_
  refine gg_X1_41 G hW ha0 dX1_loseBehindMark_6 ?_
  refine lv_isub hx hb dX1_loseBehindMark_9 ?_
  obtain ⟨σ1, hσ1, hF⟩ := o_b hF
  refine pp_X1_50 G hW ha0 hσ1 dX1_loseBehindMark_10 (fun H locs hW => ?_)
  exact g_vret G hW hF dX1_loseBehindMark_13
end WX1_loseBehindMark
theorem c_X1_loseBehindMark {l : Launch} {D : va_G} {dA : Nat → ClassId} {α : Nat → Nat → Nat} (hI : Inj 0 α) {a0 : Nat} (ha0 : a0 < fN 5) {σ σz : sm_M} (hF : f_X1_loseBehindMark a0 σ = some σz) : gM l D dA 0 α yX1_loseBehindMark cX1_loseBehindMark 1 none 0 [.ref (α 5 a0)] σ none σz :=
  g_met hI (by decide +kernel) (Nat.le_of_ble_eq_true rfl) (fun p e s m below meth c ls G hW hl => w_X1_loseBehindMark_0 G _ ha0 _ hF _ _ _ hW hl)
section KX1_loseBehindMark
variable {p : Program} {l : Launch} {e : Env} {R : Room} {s : State} {m : MethodId} {args : Array Value} {below : List Frame} {meth : Method} {c : Code} {H : Heap} {locs : List Loc} {cells slots : Nat} {Q : State → Prop}
variable {cc : ByteArray} {pc nL Z : Nat} {ls : Array Slot} {rest : List Value} {D : va_G} {dA : Nat → ClassId} {α : Nat → Nat → Nat} {H0 : Heap} {σ σ' : sm_M} {ret : Option FieldType} {own nm : String}
theorem kk_X5_151 (G : gx p s m meth c args cc nL ret RX5 nm D dA) (hW : Wd D dA 0 α H0 σ H locs) {a0 : Nat} (ha0 : a0 < fN 5) {q : sm_M} (hq : f_X1_loseBehindMark a0 σ = some q) (hls : ls.size = nL) (hR : 0 + 1 ≤ R.frames ∧ 8 + (1 + 11) + 44 * 0 ≤ R.locals) (hf : cells ≤ R.cells ∧ slots ≤ R.slots) (hcat : (rest.map fun v => v.category).sum ≤ 8) (hdg : decode cc pc = .ok (.invokevirtual 151, 3)) (kk : ∀ (H1 : Heap) (locs1 : List Loc), Wd D dA 0 α H0 q H1 locs1 → W p l e R s m args below meth c H1 locs1 cells slots Q (F0 m (pc + 3) ls rest)) : W p l e R s m args below meth c H locs cells slots Q (F0 m pc ls (.ref (α 5 a0) :: rest)) :=
  g_cV (n := 0) G (c_X1_loseBehindMark (l := l) hW.2.2.2 ha0 hq) ⟨wm_25_7, wm_24_7, wm_24_8, wm_2_13, wm_24_9⟩ (by decide +kernel) hW (g_recv (φ := 5) (ci := 1) G.2.2.2.2.2.2.2.2.1 rfl rfl rfl ha0 hW.1 rfl) hR hf rfl hls rfl hcat hdg kk
theorem kk_X2_97 (G : gx p s m meth c args cc nL ret RX2 nm D dA) (hW : Wd D dA 0 α H0 σ H locs) {a0 : Nat} (ha0 : a0 < fN 5) {q : sm_M} (hq : f_X1_loseBehindMark a0 σ = some q) (hls : ls.size = nL) (hR : 0 + 1 ≤ R.frames ∧ 8 + (1 + 11) + 44 * 0 ≤ R.locals) (hf : cells ≤ R.cells ∧ slots ≤ R.slots) (hcat : (rest.map fun v => v.category).sum ≤ 8) (hdg : decode cc pc = .ok (.invokevirtual 97, 3)) (kk : ∀ (H1 : Heap) (locs1 : List Loc), Wd D dA 0 α H0 q H1 locs1 → W p l e R s m args below meth c H1 locs1 cells slots Q (F0 m (pc + 3) ls rest)) : W p l e R s m args below meth c H locs cells slots Q (F0 m pc ls (.ref (α 5 a0) :: rest)) :=
  g_cV (n := 0) G (c_X1_loseBehindMark (l := l) hW.2.2.2 ha0 hq) ⟨wm_24_6, wm_24_7, wm_24_8, wm_2_13, wm_24_9⟩ (by decide +kernel) hW (g_recv (φ := 5) (ci := 1) G.2.2.2.2.2.2.2.2.1 rfl rfl rfl ha0 hW.1 rfl) hR hf rfl hls rfl hcat hdg kk
end KX1_loseBehindMark
section WX1_settled
variable {p : Program} {l : Launch} {e : Env} {s : State} {m : MethodId} {args : Array Value} {below : List Frame} {meth : Method} {c : Code} {D : va_G} {dA : Nat → ClassId} {α : Nat → Nat → Nat}
set_option maxHeartbeats 4000000 in
set_option maxRecDepth 100000 in
theorem w_X1_settled_0 (G : gx p s m meth c args cX1_settled 1 (some .int) RX1 "settled" D dA) {r : Int32} {σz : sm_M} : ∀ (a0 : Nat) (ha0 : a0 < fN 5) (σ : sm_M), f_X1_settled a0 σ = some (r, σz) → ∀ (H : Heap) (locs : List Loc) (ls : Array Slot), Wd D dA 0 α s.heap σ H locs → lv_has ls 1 [(0, .ref (α 5 a0))] → gW 1 p l e s m args below meth c D dA 0 α (some (.int r)) σz H locs (F0 m 0 ls []) := by
  obtain ⟨hx, hb, hr, hlk, hml, hown, hnm, hts, hK, hNw⟩ := id G
  intro a0 ha0 σ hF H locs ls hW hl
  rw [f_X1_settled] at hF
  refine lv_aload_n hx hb dX1_settled_0 rfl (lv_at hl 0 rfl) ?_
  refine gg_X1_41 G hW ha0 dX1_settled_1 ?_
  refine lv_aload_n hx hb dX1_settled_4 rfl (lv_at hl 0 rfl) ?_
  refine gg_X1_47 G hW ha0 dX1_settled_5 ?_
  refine g_max G hl.1 mm_X1_57 (Nat.le_of_ble_eq_true rfl) (Nat.le_of_ble_eq_true rfl) (Nat.le_refl _) (Nat.le_refl _) dX1_settled_8 ?_
  exact g_iret G hW hF dX1_settled_11
end WX1_settled
theorem c_X1_settled {l : Launch} {D : va_G} {dA : Nat → ClassId} {α : Nat → Nat → Nat} (hI : Inj 0 α) {a0 : Nat} (ha0 : a0 < fN 5) {σ σz : sm_M} {r : Int32} (hF : f_X1_settled a0 σ = some (r, σz)) : gM l D dA 0 α yX1_settled cX1_settled 1 (some .int) 1 [.ref (α 5 a0)] σ (some (.int r)) σz :=
  g_met hI (by decide +kernel) (Nat.le_of_ble_eq_true rfl) (fun p e s m below meth c ls G hW hl => w_X1_settled_0 G _ ha0 _ hF _ _ _ hW hl)
section KX1_settled
variable {p : Program} {l : Launch} {e : Env} {R : Room} {s : State} {m : MethodId} {args : Array Value} {below : List Frame} {meth : Method} {c : Code} {H : Heap} {locs : List Loc} {cells slots : Nat} {Q : State → Prop}
variable {cc : ByteArray} {pc nL Z : Nat} {ls : Array Slot} {rest : List Value} {D : va_G} {dA : Nat → ClassId} {α : Nat → Nat → Nat} {H0 : Heap} {σ σ' : sm_M} {ret : Option FieldType} {own nm : String}
theorem kk_X1_63 (G : gx p s m meth c args cc nL ret RX1 nm D dA) (hW : Wd D dA 0 α H0 σ H locs) {a0 : Nat} (ha0 : a0 < fN 5) {q : Int32 × sm_M} (hq : f_X1_settled a0 σ = some q) (hls : ls.size = nL) (hR : 1 + 1 ≤ R.frames ∧ 8 + (1 + 11) + 44 * 1 ≤ R.locals) (hf : cells ≤ R.cells ∧ slots ≤ R.slots) (hcat : (rest.map fun v => v.category).sum ≤ 8) (hdg : decode cc pc = .ok (.invokevirtual 63, 3)) (kk : ∀ (H1 : Heap) (locs1 : List Loc), Wd D dA 0 α H0 q.2 H1 locs1 → W p l e R s m args below meth c H1 locs1 cells slots Q (F0 m (pc + 3) ls (.int q.1 :: rest))) : W p l e R s m args below meth c H locs cells slots Q (F0 m pc ls (.ref (α 5 a0) :: rest)) :=
  g_cV (n := 0) G (c_X1_settled (l := l) hW.2.2.2 ha0 hq) ⟨wm_17_15, wm_16_14, wm_16_15, wm_2_13, wm_16_16⟩ (by decide +kernel) hW (g_recv (φ := 5) (ci := 1) G.2.2.2.2.2.2.2.2.1 rfl rfl rfl ha0 hW.1 rfl) hR hf rfl hls rfl hcat hdg kk
theorem kk_X2_113 (G : gx p s m meth c args cc nL ret RX2 nm D dA) (hW : Wd D dA 0 α H0 σ H locs) {a0 : Nat} (ha0 : a0 < fN 5) {q : Int32 × sm_M} (hq : f_X1_settled a0 σ = some q) (hls : ls.size = nL) (hR : 1 + 1 ≤ R.frames ∧ 8 + (1 + 11) + 44 * 1 ≤ R.locals) (hf : cells ≤ R.cells ∧ slots ≤ R.slots) (hcat : (rest.map fun v => v.category).sum ≤ 8) (hdg : decode cc pc = .ok (.invokevirtual 113, 3)) (kk : ∀ (H1 : Heap) (locs1 : List Loc), Wd D dA 0 α H0 q.2 H1 locs1 → W p l e R s m args below meth c H1 locs1 cells slots Q (F0 m (pc + 3) ls (.int q.1 :: rest))) : W p l e R s m args below meth c H locs cells slots Q (F0 m pc ls (.ref (α 5 a0) :: rest)) :=
  g_cV (n := 0) G (c_X1_settled (l := l) hW.2.2.2 ha0 hq) ⟨wm_16_13, wm_16_14, wm_16_15, wm_2_13, wm_16_16⟩ (by decide +kernel) hW (g_recv (φ := 5) (ci := 1) G.2.2.2.2.2.2.2.2.1 rfl rfl rfl ha0 hW.1 rfl) hR hf rfl hls rfl hcat hdg kk
end KX1_settled
section WX1_rewindGiver
variable {p : Program} {l : Launch} {e : Env} {s : State} {m : MethodId} {args : Array Value} {below : List Frame} {meth : Method} {c : Code} {D : va_G} {dA : Nat → ClassId} {α : Nat → Nat → Nat}
set_option maxHeartbeats 4000000 in
set_option maxRecDepth 100000 in
theorem w_X1_rewindGiver_45 (G : gx p s m meth c args cX1_rewindGiver 2 none RX1 "rewindGiver" D dA) {σz : sm_M} : ∀ (a0 : Nat) (ha0 : a0 < fN 5) (σ : sm_M), f_X1_rewindGiver_45 a0 σ = some σz → ∀ (H : Heap) (locs : List Loc) (ls : Array Slot), Wd D dA 0 α s.heap σ H locs → lv_has ls 2 [(0, .ref (α 5 a0))] → gW 2 p l e s m args below meth c D dA 0 α none σz H locs (F0 m 45 ls []) := by
  obtain ⟨hx, hb, hr, hlk, hml, hown, hnm, hts, hK, hNw⟩ := id G
  intro a0 ha0 σ hF H locs ls hW hl
  rw [f_X1_rewindGiver_45] at hF
  refine lv_aload_n hx hb dX1_rewindGiver_45 rfl (lv_at hl 0 rfl) ?_
  refine lv_aload_n hx hb dX1_rewindGiver_46 rfl (lv_at hl 0 rfl) ?_
  refine gg_X1_41 G hW ha0 dX1_rewindGiver_47 ?_
  obtain ⟨σ1, hσ1, hF⟩ := o_b hF
  refine pp_X1_26 G hW ha0 hσ1 dX1_rewindGiver_50 (fun H locs hW => ?_)
  refine lv_aload_n hx hb dX1_rewindGiver_53 rfl (lv_at hl 0 rfl) ?_
  refine lv_iconst (v := 0) hx hb dX1_rewindGiver_54 (by decide) ?_
  obtain ⟨σ2, hσ2, hF⟩ := o_b hF
  refine pp_X1_50 G hW ha0 hσ2 dX1_rewindGiver_55 (fun H locs hW => ?_)
  exact g_vret G hW hF dX1_rewindGiver_58
set_option maxHeartbeats 4000000 in
set_option maxRecDepth 100000 in
theorem w_X1_rewindGiver_27 (G : gx p s m meth c args cX1_rewindGiver 2 none RX1 "rewindGiver" D dA) {σz : sm_M} : ∀ (a0 : Nat) (ha0 : a0 < fN 5) (v1 : Int32) (σ : sm_M), f_X1_rewindGiver_27 a0 v1 σ = some σz → ∀ (H : Heap) (locs : List Loc) (ls : Array Slot), Wd D dA 0 α s.heap σ H locs → lv_has ls 2 [(0, .ref (α 5 a0)), (1, .int v1)] → gW 2 p l e s m args below meth c D dA 0 α none σz H locs (F0 m 27 ls []) := by
  obtain ⟨hx, hb, hr, hlk, hml, hown, hnm, hts, hK, hNw⟩ := id G
  intro a0 ha0 v1 σ hF H locs ls hW hl
  rw [f_X1_rewindGiver_27] at hF
  refine lv_aload_n hx hb dX1_rewindGiver_27 rfl (lv_at hl 0 rfl) ?_
  refine gg_X1_22 G hW ha0 dX1_rewindGiver_28 ?_
  refine lv_if_eq (tgt := 45) hx hb dX1_rewindGiver_31 (by decide) (fun hc => ?_) (fun hc => ?_)
  · replace hF := o_t hc hF
    exact w_X1_rewindGiver_45 G _ ha0 _ hF H locs ls hW (lv_sub hl [0] rfl)
  · replace hF := o_f hc hF
    refine lv_iload_n hx hb dX1_rewindGiver_34 rfl (lv_at hl 1 rfl) ?_
    refine lv_if_ne (tgt := 45) hx hb dX1_rewindGiver_35 (by decide) (fun hc => ?_) (fun hc => ?_)
    · replace hF := o_f hc hF
      exact w_X1_rewindGiver_45 G _ ha0 _ hF H locs ls hW (lv_sub hl [0] rfl)
    · replace hF := o_t hc hF
      refine lv_aload_n hx hb dX1_rewindGiver_38 rfl (lv_at hl 0 rfl) ?_
      refine gg_X1_50 G hW ha0 dX1_rewindGiver_39 ?_
      refine lv_if_le (tgt := 58) hx hb dX1_rewindGiver_42 (by decide) (fun hc => ?_) (fun hc => ?_)
      · replace hF := o_t hc hF
        exact g_vret G hW hF dX1_rewindGiver_58
      · replace hF := o_f hc hF
        exact w_X1_rewindGiver_45 G _ ha0 _ hF H locs ls hW (lv_sub hl [0] rfl)
set_option maxHeartbeats 4000000 in
set_option maxRecDepth 100000 in
theorem w_X1_rewindGiver_0 (G : gx p s m meth c args cX1_rewindGiver 2 none RX1 "rewindGiver" D dA) {σz : sm_M} : ∀ (a0 : Nat) (ha0 : a0 < fN 5) (v1 : Int32) (σ : sm_M), f_X1_rewindGiver a0 v1 σ = some σz → ∀ (H : Heap) (locs : List Loc) (ls : Array Slot), Wd D dA 0 α s.heap σ H locs → lv_has ls 2 [(0, .ref (α 5 a0)), (1, .int v1)] → gW 2 p l e s m args below meth c D dA 0 α none σz H locs (F0 m 0 ls []) := by
  obtain ⟨hx, hb, hr, hlk, hml, hown, hnm, hts, hK, hNw⟩ := id G
  intro a0 ha0 v1 σ hF H locs ls hW hl
  rw [f_X1_rewindGiver] at hF
  refine lv_aload_n hx hb dX1_rewindGiver_0 rfl (lv_at hl 0 rfl) ?_
  refine lv_aload_n hx hb dX1_rewindGiver_1 rfl (lv_at hl 0 rfl) ?_
  refine gg_X1_44 G hW ha0 dX1_rewindGiver_2 ?_
  obtain ⟨σ1, hσ1, hF⟩ := o_b hF
  refine pp_X1_29 G hW ha0 hσ1 dX1_rewindGiver_5 (fun H locs hW => ?_)
  refine lv_iload_n hx hb dX1_rewindGiver_8 rfl (lv_at hl 1 rfl) ?_
  refine lv_if_eq (tgt := 27) hx hb dX1_rewindGiver_9 (by decide) (fun hc => ?_) (fun hc => ?_)
  · replace hF := o_t hc hF
    exact w_X1_rewindGiver_27 G _ ha0 _ _ hF H locs ls hW (lv_sub hl [0, 1] rfl)
  · replace hF := o_f hc hF
    refine lv_aload_n hx hb dX1_rewindGiver_12 rfl (lv_at hl 0 rfl) ?_
    refine lv_aload_n hx hb dX1_rewindGiver_13 rfl (lv_at hl 0 rfl) ?_
    refine gg_X1_35 G hW ha0 dX1_rewindGiver_14 ?_
    refine lv_aload_n hx hb dX1_rewindGiver_17 rfl (lv_at hl 0 rfl) ?_
    obtain ⟨q2, hq2, hF⟩ := o_b hF
    refine kk_X1_63 G hW ha0 hq2 hl.1 ⟨Nat.le_of_ble_eq_true rfl, Nat.le_of_ble_eq_true rfl⟩ ⟨Nat.le_refl _, Nat.le_refl _⟩ (Nat.le_of_ble_eq_true rfl) dX1_rewindGiver_18 (fun H locs hW => ?_)
    refine g_min G hl.1 mm_X1_67 (Nat.le_of_ble_eq_true rfl) (Nat.le_of_ble_eq_true rfl) (Nat.le_refl _) (Nat.le_refl _) dX1_rewindGiver_21 ?_
    obtain ⟨σ3, hσ3, hF⟩ := o_b hF
    refine pp_X1_35 G hW ha0 hσ3 dX1_rewindGiver_24 (fun H locs hW => ?_)
    exact w_X1_rewindGiver_27 G _ ha0 _ _ hF H locs ls hW (lv_sub hl [0, 1] rfl)
end WX1_rewindGiver
theorem c_X1_rewindGiver {l : Launch} {D : va_G} {dA : Nat → ClassId} {α : Nat → Nat → Nat} (hI : Inj 0 α) {a0 : Nat} (ha0 : a0 < fN 5) {v1 : Int32} {σ σz : sm_M} (hF : f_X1_rewindGiver a0 v1 σ = some σz) : gM l D dA 0 α yX1_rewindGiver cX1_rewindGiver 2 none 2 [.ref (α 5 a0), .int v1] σ none σz :=
  g_met hI (by decide +kernel) (Nat.le_of_ble_eq_true rfl) (fun p e s m below meth c ls G hW hl => w_X1_rewindGiver_0 G _ ha0 _ _ hF _ _ _ hW hl)
section KX1_rewindGiver
variable {p : Program} {l : Launch} {e : Env} {R : Room} {s : State} {m : MethodId} {args : Array Value} {below : List Frame} {meth : Method} {c : Code} {H : Heap} {locs : List Loc} {cells slots : Nat} {Q : State → Prop}
variable {cc : ByteArray} {pc nL Z : Nat} {ls : Array Slot} {rest : List Value} {D : va_G} {dA : Nat → ClassId} {α : Nat → Nat → Nat} {H0 : Heap} {σ σ' : sm_M} {ret : Option FieldType} {own nm : String}
theorem kk_X2_126 (G : gx p s m meth c args cc nL ret RX2 nm D dA) (hW : Wd D dA 0 α H0 σ H locs) {a0 : Nat} (ha0 : a0 < fN 5) {v1 : Int32} {q : sm_M} (hq : f_X1_rewindGiver a0 v1 σ = some q) (hls : ls.size = nL) (hR : 2 + 1 ≤ R.frames ∧ 8 + (2 + 11) + 44 * 2 ≤ R.locals) (hf : cells ≤ R.cells ∧ slots ≤ R.slots) (hcat : (rest.map fun v => v.category).sum ≤ 8) (hdg : decode cc pc = .ok (.invokevirtual 126, 3)) (kk : ∀ (H1 : Heap) (locs1 : List Loc), Wd D dA 0 α H0 q H1 locs1 → W p l e R s m args below meth c H1 locs1 cells slots Q (F0 m (pc + 3) ls rest)) : W p l e R s m args below meth c H locs cells slots Q (F0 m pc ls (.int v1 :: .ref (α 5 a0) :: rest)) :=
  g_cV (n := 1) G (c_X1_rewindGiver (l := l) hW.2.2.2 ha0 hq) ⟨wm_17_10, wm_17_11, wm_17_12, wm_2_13, wm_17_13⟩ (by decide +kernel) hW (g_recv (φ := 5) (ci := 1) G.2.2.2.2.2.2.2.2.1 rfl rfl rfl ha0 hW.1 rfl) hR hf rfl hls rfl hcat hdg kk
end KX1_rewindGiver
section WX1_rewindTaker
variable {p : Program} {l : Launch} {e : Env} {s : State} {m : MethodId} {args : Array Value} {below : List Frame} {meth : Method} {c : Code} {D : va_G} {dA : Nat → ClassId} {α : Nat → Nat → Nat}
set_option maxHeartbeats 4000000 in
set_option maxRecDepth 100000 in
theorem w_X1_rewindTaker_0 (G : gx p s m meth c args cX1_rewindTaker 1 none RX1 "rewindTaker" D dA) {σz : sm_M} : ∀ (a0 : Nat) (ha0 : a0 < fN 5) (σ : sm_M), f_X1_rewindTaker a0 σ = some σz → ∀ (H : Heap) (locs : List Loc) (ls : Array Slot), Wd D dA 0 α s.heap σ H locs → lv_has ls 1 [(0, .ref (α 5 a0))] → gW 0 p l e s m args below meth c D dA 0 α none σz H locs (F0 m 0 ls []) := by
  obtain ⟨hx, hb, hr, hlk, hml, hown, hnm, hts, hK, hNw⟩ := id G
  intro a0 ha0 σ hF H locs ls hW hl
  rw [f_X1_rewindTaker] at hF
  refine lv_aload_n hx hb dX1_rewindTaker_0 rfl (lv_at hl 0 rfl) ?_
  refine lv_aload_n hx hb dX1_rewindTaker_1 rfl (lv_at hl 0 rfl) ?_
  refine gg_X1_47 G hW ha0 dX1_rewindTaker_2 ?_
  obtain ⟨σ1, hσ1, hF⟩ := o_b hF
  refine pp_X1_32 G hW ha0 hσ1 dX1_rewindTaker_5 (fun H locs hW => ?_)
  exact g_vret G hW hF dX1_rewindTaker_8
end WX1_rewindTaker
theorem c_X1_rewindTaker {l : Launch} {D : va_G} {dA : Nat → ClassId} {α : Nat → Nat → Nat} (hI : Inj 0 α) {a0 : Nat} (ha0 : a0 < fN 5) {σ σz : sm_M} (hF : f_X1_rewindTaker a0 σ = some σz) : gM l D dA 0 α yX1_rewindTaker cX1_rewindTaker 1 none 0 [.ref (α 5 a0)] σ none σz :=
  g_met hI (by decide +kernel) (Nat.le_of_ble_eq_true rfl) (fun p e s m below meth c ls G hW hl => w_X1_rewindTaker_0 G _ ha0 _ hF _ _ _ hW hl)
section KX1_rewindTaker
variable {p : Program} {l : Launch} {e : Env} {R : Room} {s : State} {m : MethodId} {args : Array Value} {below : List Frame} {meth : Method} {c : Code} {H : Heap} {locs : List Loc} {cells slots : Nat} {Q : State → Prop}
variable {cc : ByteArray} {pc nL Z : Nat} {ls : Array Slot} {rest : List Value} {D : va_G} {dA : Nat → ClassId} {α : Nat → Nat → Nat} {H0 : Heap} {σ σ' : sm_M} {ret : Option FieldType} {own nm : String}
theorem kk_X2_123 (G : gx p s m meth c args cc nL ret RX2 nm D dA) (hW : Wd D dA 0 α H0 σ H locs) {a0 : Nat} (ha0 : a0 < fN 5) {q : sm_M} (hq : f_X1_rewindTaker a0 σ = some q) (hls : ls.size = nL) (hR : 0 + 1 ≤ R.frames ∧ 8 + (1 + 11) + 44 * 0 ≤ R.locals) (hf : cells ≤ R.cells ∧ slots ≤ R.slots) (hcat : (rest.map fun v => v.category).sum ≤ 8) (hdg : decode cc pc = .ok (.invokevirtual 123, 3)) (kk : ∀ (H1 : Heap) (locs1 : List Loc), Wd D dA 0 α H0 q H1 locs1 → W p l e R s m args below meth c H1 locs1 cells slots Q (F0 m (pc + 3) ls rest)) : W p l e R s m args below meth c H locs cells slots Q (F0 m pc ls (.ref (α 5 a0) :: rest)) :=
  g_cV (n := 0) G (c_X1_rewindTaker (l := l) hW.2.2.2 ha0 hq) ⟨wm_17_6, wm_17_7, wm_17_8, wm_2_13, wm_17_9⟩ (by decide +kernel) hW (g_recv (φ := 5) (ci := 1) G.2.2.2.2.2.2.2.2.1 rfl rfl rfl ha0 hW.1 rfl) hR hf rfl hls rfl hcat hdg kk
end KX1_rewindTaker
section WX2_hasTask
variable {p : Program} {l : Launch} {e : Env} {s : State} {m : MethodId} {args : Array Value} {below : List Frame} {meth : Method} {c : Code} {D : va_G} {dA : Nat → ClassId} {α : Nat → Nat → Nat}
set_option maxHeartbeats 4000000 in
set_option maxRecDepth 100000 in
theorem w_X2_hasTask_17 (G : gx p s m meth c args cX2_hasTask 2 (some .boolean) RX2 "hasTask" D dA) {r : Int32} {σz : sm_M} : ∀ (s0 : Int32) (σ : sm_M), f_X2_hasTask_17 s0 σ = some (r, σz) → ∀ (H : Heap) (locs : List Loc) (ls : Array Slot), Wd D dA 0 α s.heap σ H locs → lv_has ls 2 [] → gW 0 p l e s m args below meth c D dA 0 α (some (.int r)) σz H locs (F0 m 17 ls [.int s0]) := by
  obtain ⟨hx, hb, hr, hlk, hml, hown, hnm, hts, hK, hNw⟩ := id G
  intro s0 σ hF H locs ls hW hl
  rw [f_X2_hasTask_17] at hF
  exact g_zret G hW hF dX2_hasTask_17
set_option maxHeartbeats 4000000 in
set_option maxRecDepth 100000 in
theorem w_X2_hasTask_16 (G : gx p s m meth c args cX2_hasTask 2 (some .boolean) RX2 "hasTask" D dA) {r : Int32} {σz : sm_M} : ∀ (σ : sm_M), f_X2_hasTask_16 σ = some (r, σz) → ∀ (H : Heap) (locs : List Loc) (ls : Array Slot), Wd D dA 0 α s.heap σ H locs → lv_has ls 2 [] → gW 0 p l e s m args below meth c D dA 0 α (some (.int r)) σz H locs (F0 m 16 ls []) := by
  obtain ⟨hx, hb, hr, hlk, hml, hown, hnm, hts, hK, hNw⟩ := id G
  intro σ hF H locs ls hW hl
  rw [f_X2_hasTask_16] at hF
  refine lv_iconst (v := 0) hx hb dX2_hasTask_16 (by decide) ?_
  exact w_X2_hasTask_17 G _ _ hF H locs ls hW (lv_sub hl [] rfl)
set_option maxHeartbeats 4000000 in
set_option maxRecDepth 100000 in
theorem w_X2_hasTask_0 (G : gx p s m meth c args cX2_hasTask 2 (some .boolean) RX2 "hasTask" D dA) {r : Int32} {σz : sm_M} : ∀ (v1 : Int32) (σ : sm_M), f_X2_hasTask v1 σ = some (r, σz) → ∀ (H : Heap) (locs : List Loc) (ls : Array Slot), Wd D dA 0 α s.heap σ H locs → lv_has ls 2 [(0, .ref (α 1 0)), (1, .int v1)] → gW 0 p l e s m args below meth c D dA 0 α (some (.int r)) σz H locs (F0 m 0 ls []) := by
  obtain ⟨hx, hb, hr, hlk, hml, hown, hnm, hts, hK, hNw⟩ := id G
  intro v1 σ hF H locs ls hW hl
  rw [f_X2_hasTask] at hF
  refine lv_iload_n hx hb dX2_hasTask_0 rfl (lv_at hl 1 rfl) ?_
  refine lv_if_lt (tgt := 16) hx hb dX2_hasTask_1 (by decide) (fun hc => ?_) (fun hc => ?_)
  · replace hF := o_t hc hF
    exact w_X2_hasTask_16 G  _ hF H locs ls hW (lv_sub hl [] rfl)
  · replace hF := o_f hc hF
    refine lv_iload_n hx hb dX2_hasTask_4 rfl (lv_at hl 1 rfl) ?_
    refine lv_aload_n hx hb dX2_hasTask_5 rfl (lv_at hl 0 rfl) ?_
    refine gg_X2_25 G hW (by decide) dX2_hasTask_6 ?_
    refine lv_icmp_ge (tgt := 16) hx hb dX2_hasTask_9 (by decide) (fun hc => ?_) (fun hc => ?_)
    · replace hF := o_t hc hF
      exact w_X2_hasTask_16 G  _ hF H locs ls hW (lv_sub hl [] rfl)
    · replace hF := o_f hc hF
      refine lv_iconst (v := 1) hx hb dX2_hasTask_12 (by decide) ?_
      refine lv_goto (tgt := 17) hx hb dX2_hasTask_13 (by decide) ?_
      exact w_X2_hasTask_17 G _ _ hF H locs ls hW (lv_sub hl [] rfl)
end WX2_hasTask
theorem c_X2_hasTask {l : Launch} {D : va_G} {dA : Nat → ClassId} {α : Nat → Nat → Nat} (hI : Inj 0 α) {v1 : Int32} {σ σz : sm_M} {r : Int32} (hF : f_X2_hasTask v1 σ = some (r, σz)) : gM l D dA 0 α yX2_hasTask cX2_hasTask 2 (some .boolean) 0 [.ref (α 1 0), .int v1] σ (some (.int r)) σz :=
  g_met hI (by decide +kernel) (Nat.le_of_ble_eq_true rfl) (fun p e s m below meth c ls G hW hl => w_X2_hasTask_0 G _ _ hF _ _ _ hW hl)
section KX2_hasTask
variable {p : Program} {l : Launch} {e : Env} {R : Room} {s : State} {m : MethodId} {args : Array Value} {below : List Frame} {meth : Method} {c : Code} {H : Heap} {locs : List Loc} {cells slots : Nat} {Q : State → Prop}
variable {cc : ByteArray} {pc nL Z : Nat} {ls : Array Slot} {rest : List Value} {D : va_G} {dA : Nat → ClassId} {α : Nat → Nat → Nat} {H0 : Heap} {σ σ' : sm_M} {ret : Option FieldType} {own nm : String}
theorem kk_X5_57 (G : gx p s m meth c args cc nL ret RX5 nm D dA) (hW : Wd D dA 0 α H0 σ H locs) {v1 : Int32} {q : Int32 × sm_M} (hq : f_X2_hasTask v1 σ = some q) (hls : ls.size = nL) (hR : 0 + 1 ≤ R.frames ∧ 8 + (2 + 11) + 44 * 0 ≤ R.locals) (hf : cells ≤ R.cells ∧ slots ≤ R.slots) (hcat : (rest.map fun v => v.category).sum ≤ 8) (hdg : decode cc pc = .ok (.invokevirtual 57, 3)) (kk : ∀ (H1 : Heap) (locs1 : List Loc), Wd D dA 0 α H0 q.2 H1 locs1 → W p l e R s m args below meth c H1 locs1 cells slots Q (F0 m (pc + 3) ls (.int q.1 :: rest))) : W p l e R s m args below meth c H locs cells slots Q (F0 m pc ls (.int v1 :: .ref (α 1 0) :: rest)) :=
  g_cV (n := 1) G (c_X2_hasTask (l := l) hW.2.2.2 hq) ⟨wm_8_21, wm_8_22, wm_8_23, wm_1_14, wm_9_0⟩ (by decide +kernel) hW (g_recv (φ := 1) (ci := 2) G.2.2.2.2.2.2.2.2.1 rfl rfl rfl (by decide) hW.1 rfl) hR hf rfl hls rfl hcat hdg kk
end KX2_hasTask
section WX2_hasChannel
variable {p : Program} {l : Launch} {e : Env} {s : State} {m : MethodId} {args : Array Value} {below : List Frame} {meth : Method} {c : Code} {D : va_G} {dA : Nat → ClassId} {α : Nat → Nat → Nat}
set_option maxHeartbeats 4000000 in
set_option maxRecDepth 100000 in
theorem w_X2_hasChannel_17 (G : gx p s m meth c args cX2_hasChannel 2 (some .boolean) RX2 "hasChannel" D dA) {r : Int32} {σz : sm_M} : ∀ (s0 : Int32) (σ : sm_M), f_X2_hasChannel_17 s0 σ = some (r, σz) → ∀ (H : Heap) (locs : List Loc) (ls : Array Slot), Wd D dA 0 α s.heap σ H locs → lv_has ls 2 [] → gW 0 p l e s m args below meth c D dA 0 α (some (.int r)) σz H locs (F0 m 17 ls [.int s0]) := by
  obtain ⟨hx, hb, hr, hlk, hml, hown, hnm, hts, hK, hNw⟩ := id G
  intro s0 σ hF H locs ls hW hl
  rw [f_X2_hasChannel_17] at hF
  exact g_zret G hW hF dX2_hasChannel_17
set_option maxHeartbeats 4000000 in
set_option maxRecDepth 100000 in
theorem w_X2_hasChannel_16 (G : gx p s m meth c args cX2_hasChannel 2 (some .boolean) RX2 "hasChannel" D dA) {r : Int32} {σz : sm_M} : ∀ (σ : sm_M), f_X2_hasChannel_16 σ = some (r, σz) → ∀ (H : Heap) (locs : List Loc) (ls : Array Slot), Wd D dA 0 α s.heap σ H locs → lv_has ls 2 [] → gW 0 p l e s m args below meth c D dA 0 α (some (.int r)) σz H locs (F0 m 16 ls []) := by
  obtain ⟨hx, hb, hr, hlk, hml, hown, hnm, hts, hK, hNw⟩ := id G
  intro σ hF H locs ls hW hl
  rw [f_X2_hasChannel_16] at hF
  refine lv_iconst (v := 0) hx hb dX2_hasChannel_16 (by decide) ?_
  exact w_X2_hasChannel_17 G _ _ hF H locs ls hW (lv_sub hl [] rfl)
set_option maxHeartbeats 4000000 in
set_option maxRecDepth 100000 in
theorem w_X2_hasChannel_0 (G : gx p s m meth c args cX2_hasChannel 2 (some .boolean) RX2 "hasChannel" D dA) {r : Int32} {σz : sm_M} : ∀ (v1 : Int32) (σ : sm_M), f_X2_hasChannel v1 σ = some (r, σz) → ∀ (H : Heap) (locs : List Loc) (ls : Array Slot), Wd D dA 0 α s.heap σ H locs → lv_has ls 2 [(0, .ref (α 1 0)), (1, .int v1)] → gW 0 p l e s m args below meth c D dA 0 α (some (.int r)) σz H locs (F0 m 0 ls []) := by
  obtain ⟨hx, hb, hr, hlk, hml, hown, hnm, hts, hK, hNw⟩ := id G
  intro v1 σ hF H locs ls hW hl
  rw [f_X2_hasChannel] at hF
  refine lv_iload_n hx hb dX2_hasChannel_0 rfl (lv_at hl 1 rfl) ?_
  refine lv_if_lt (tgt := 16) hx hb dX2_hasChannel_1 (by decide) (fun hc => ?_) (fun hc => ?_)
  · replace hF := o_t hc hF
    exact w_X2_hasChannel_16 G  _ hF H locs ls hW (lv_sub hl [] rfl)
  · replace hF := o_f hc hF
    refine lv_iload_n hx hb dX2_hasChannel_4 rfl (lv_at hl 1 rfl) ?_
    refine lv_aload_n hx hb dX2_hasChannel_5 rfl (lv_at hl 0 rfl) ?_
    refine gg_X2_29 G hW (by decide) dX2_hasChannel_6 ?_
    refine lv_icmp_ge (tgt := 16) hx hb dX2_hasChannel_9 (by decide) (fun hc => ?_) (fun hc => ?_)
    · replace hF := o_t hc hF
      exact w_X2_hasChannel_16 G  _ hF H locs ls hW (lv_sub hl [] rfl)
    · replace hF := o_f hc hF
      refine lv_iconst (v := 1) hx hb dX2_hasChannel_12 (by decide) ?_
      refine lv_goto (tgt := 17) hx hb dX2_hasChannel_13 (by decide) ?_
      exact w_X2_hasChannel_17 G _ _ hF H locs ls hW (lv_sub hl [] rfl)
end WX2_hasChannel
theorem c_X2_hasChannel {l : Launch} {D : va_G} {dA : Nat → ClassId} {α : Nat → Nat → Nat} (hI : Inj 0 α) {v1 : Int32} {σ σz : sm_M} {r : Int32} (hF : f_X2_hasChannel v1 σ = some (r, σz)) : gM l D dA 0 α yX2_hasChannel cX2_hasChannel 2 (some .boolean) 0 [.ref (α 1 0), .int v1] σ (some (.int r)) σz :=
  g_met hI (by decide +kernel) (Nat.le_of_ble_eq_true rfl) (fun p e s m below meth c ls G hW hl => w_X2_hasChannel_0 G _ _ hF _ _ _ hW hl)
section KX2_hasChannel
variable {p : Program} {l : Launch} {e : Env} {R : Room} {s : State} {m : MethodId} {args : Array Value} {below : List Frame} {meth : Method} {c : Code} {H : Heap} {locs : List Loc} {cells slots : Nat} {Q : State → Prop}
variable {cc : ByteArray} {pc nL Z : Nat} {ls : Array Slot} {rest : List Value} {D : va_G} {dA : Nat → ClassId} {α : Nat → Nat → Nat} {H0 : Heap} {σ σ' : sm_M} {ret : Option FieldType} {own nm : String}
theorem kk_X5_139 (G : gx p s m meth c args cc nL ret RX5 nm D dA) (hW : Wd D dA 0 α H0 σ H locs) {v1 : Int32} {q : Int32 × sm_M} (hq : f_X2_hasChannel v1 σ = some q) (hls : ls.size = nL) (hR : 0 + 1 ≤ R.frames ∧ 8 + (2 + 11) + 44 * 0 ≤ R.locals) (hf : cells ≤ R.cells ∧ slots ≤ R.slots) (hcat : (rest.map fun v => v.category).sum ≤ 8) (hdg : decode cc pc = .ok (.invokevirtual 139, 3)) (kk : ∀ (H1 : Heap) (locs1 : List Loc), Wd D dA 0 α H0 q.2 H1 locs1 → W p l e R s m args below meth c H1 locs1 cells slots Q (F0 m (pc + 3) ls (.int q.1 :: rest))) : W p l e R s m args below meth c H locs cells slots Q (F0 m pc ls (.int v1 :: .ref (α 1 0) :: rest)) :=
  g_cV (n := 1) G (c_X2_hasChannel (l := l) hW.2.2.2 hq) ⟨wm_18_7, wm_18_8, wm_18_9, wm_1_14, wm_18_10⟩ (by decide +kernel) hW (g_recv (φ := 1) (ci := 2) G.2.2.2.2.2.2.2.2.1 rfl rfl rfl (by decide) hW.1 rfl) hR hf rfl hls rfl hcat hdg kk
end KX2_hasChannel
section WX4_keepAsMark
variable {p : Program} {l : Launch} {e : Env} {s : State} {m : MethodId} {args : Array Value} {below : List Frame} {meth : Method} {c : Code} {D : va_G} {dA : Nat → ClassId} {α : Nat → Nat → Nat}
set_option maxHeartbeats 4000000 in
set_option maxRecDepth 100000 in
theorem w_X4_keepAsMark_0 (G : gx p s m meth c args cX4_keepAsMark 1 none RX4 "keepAsMark" D dA) {σz : sm_M} : ∀ (a0 : Nat) (ha0 : a0 < fN 4) (σ : sm_M), f_X4_keepAsMark a0 σ = some σz → ∀ (H : Heap) (locs : List Loc) (ls : Array Slot), Wd D dA 0 α s.heap σ H locs → lv_has ls 1 [(0, .ref (α 4 a0))] → gW 0 p l e s m args below meth c D dA 0 α none σz H locs (F0 m 0 ls []) := by
  obtain ⟨hx, hb, hr, hlk, hml, hown, hnm, hts, hK, hNw⟩ := id G
  intro a0 ha0 σ hF H locs ls hW hl
  rw [f_X4_keepAsMark] at hF
  refine lv_aload_n hx hb dX4_keepAsMark_0 rfl (lv_at hl 0 rfl) ?_
  refine lv_aload_n hx hb dX4_keepAsMark_1 rfl (lv_at hl 0 rfl) ?_
  refine gg_X4_46 G hW ha0 dX4_keepAsMark_2 ?_
  obtain ⟨σ1, hσ1, hF⟩ := o_b hF
  refine pp_X4_58 G hW ha0 hσ1 dX4_keepAsMark_5 (fun H locs hW => ?_)
  refine lv_aload_n hx hb dX4_keepAsMark_8 rfl (lv_at hl 0 rfl) ?_
  refine lv_aload_n hx hb dX4_keepAsMark_9 rfl (lv_at hl 0 rfl) ?_
  refine gg_X4_49 G hW ha0 dX4_keepAsMark_10 ?_
  obtain ⟨σ2, hσ2, hF⟩ := o_b hF
  refine pp_X4_61 G hW ha0 hσ2 dX4_keepAsMark_13 (fun H locs hW => ?_)
  refine lv_aload_n hx hb dX4_keepAsMark_16 rfl (lv_at hl 0 rfl) ?_
  refine lv_aload_n hx hb dX4_keepAsMark_17 rfl (lv_at hl 0 rfl) ?_
  refine gg_X4_52 G hW ha0 dX4_keepAsMark_18 ?_
  obtain ⟨σ3, hσ3, hF⟩ := o_b hF
  refine pp_X4_64 G hW ha0 hσ3 dX4_keepAsMark_21 (fun H locs hW => ?_)
  exact g_vret G hW hF dX4_keepAsMark_24
end WX4_keepAsMark
theorem c_X4_keepAsMark {l : Launch} {D : va_G} {dA : Nat → ClassId} {α : Nat → Nat → Nat} (hI : Inj 0 α) {a0 : Nat} (ha0 : a0 < fN 4) {σ σz : sm_M} (hF : f_X4_keepAsMark a0 σ = some σz) : gM l D dA 0 α yX4_keepAsMark cX4_keepAsMark 1 none 0 [.ref (α 4 a0)] σ none σz :=
  g_met hI (by decide +kernel) (Nat.le_of_ble_eq_true rfl) (fun p e s m below meth c ls G hW hl => w_X4_keepAsMark_0 G _ ha0 _ hF _ _ _ hW hl)
section KX4_keepAsMark
variable {p : Program} {l : Launch} {e : Env} {R : Room} {s : State} {m : MethodId} {args : Array Value} {below : List Frame} {meth : Method} {c : Code} {H : Heap} {locs : List Loc} {cells slots : Nat} {Q : State → Prop}
variable {cc : ByteArray} {pc nL Z : Nat} {ls : Array Slot} {rest : List Value} {D : va_G} {dA : Nat → ClassId} {α : Nat → Nat → Nat} {H0 : Heap} {σ σ' : sm_M} {ret : Option FieldType} {own nm : String}
theorem kk_X2_100 (G : gx p s m meth c args cc nL ret RX2 nm D dA) (hW : Wd D dA 0 α H0 σ H locs) {a0 : Nat} (ha0 : a0 < fN 4) {q : sm_M} (hq : f_X4_keepAsMark a0 σ = some q) (hls : ls.size = nL) (hR : 0 + 1 ≤ R.frames ∧ 8 + (1 + 11) + 44 * 0 ≤ R.locals) (hf : cells ≤ R.cells ∧ slots ≤ R.slots) (hcat : (rest.map fun v => v.category).sum ≤ 8) (hdg : decode cc pc = .ok (.invokevirtual 100, 3)) (kk : ∀ (H1 : Heap) (locs1 : List Loc), Wd D dA 0 α H0 q H1 locs1 → W p l e R s m args below meth c H1 locs1 cells slots Q (F0 m (pc + 3) ls rest)) : W p l e R s m args below meth c H locs cells slots Q (F0 m pc ls (.ref (α 4 a0) :: rest)) :=
  g_cV (n := 0) G (c_X4_keepAsMark (l := l) hW.2.2.2 ha0 hq) ⟨wm_26_15, wm_7_22, wm_7_23, wm_2_11, wm_8_0⟩ (by decide +kernel) hW (g_recv (φ := 4) (ci := 4) G.2.2.2.2.2.2.2.2.1 rfl rfl rfl ha0 hW.1 rfl) hR hf rfl hls rfl hcat hdg kk
theorem kk_X4_55 (G : gx p s m meth c args cc nL ret RX4 nm D dA) (hW : Wd D dA 0 α H0 σ H locs) {a0 : Nat} (ha0 : a0 < fN 4) {q : sm_M} (hq : f_X4_keepAsMark a0 σ = some q) (hls : ls.size = nL) (hR : 0 + 1 ≤ R.frames ∧ 8 + (1 + 11) + 44 * 0 ≤ R.locals) (hf : cells ≤ R.cells ∧ slots ≤ R.slots) (hcat : (rest.map fun v => v.category).sum ≤ 8) (hdg : decode cc pc = .ok (.invokevirtual 55, 3)) (kk : ∀ (H1 : Heap) (locs1 : List Loc), Wd D dA 0 α H0 q H1 locs1 → W p l e R s m args below meth c H1 locs1 cells slots Q (F0 m (pc + 3) ls rest)) : W p l e R s m args below meth c H locs cells slots Q (F0 m pc ls (.ref (α 4 a0) :: rest)) :=
  g_cV (n := 0) G (c_X4_keepAsMark (l := l) hW.2.2.2 ha0 hq) ⟨wm_7_21, wm_7_22, wm_7_23, wm_2_11, wm_8_0⟩ (by decide +kernel) hW (g_recv (φ := 4) (ci := 4) G.2.2.2.2.2.2.2.2.1 rfl rfl rfl ha0 hW.1 rfl) hR hf rfl hls rfl hcat hdg kk
end KX4_keepAsMark
section WX4_set
variable {p : Program} {l : Launch} {e : Env} {s : State} {m : MethodId} {args : Array Value} {below : List Frame} {meth : Method} {c : Code} {D : va_G} {dA : Nat → ClassId} {α : Nat → Nat → Nat}
set_option maxHeartbeats 4000000 in
set_option maxRecDepth 100000 in
theorem w_X4_set_0 (G : gx p s m meth c args cX4_set 4 none RX4 "set" D dA) {σz : sm_M} : ∀ (a0 : Nat) (ha0 : a0 < fN 4) (v1 : Int32) (v2 : Int32) (v3 : Int32) (σ : sm_M), f_X4_set a0 v1 v2 v3 σ = some σz → ∀ (H : Heap) (locs : List Loc) (ls : Array Slot), Wd D dA 0 α s.heap σ H locs → lv_has ls 4 [(0, .ref (α 4 a0)), (1, .int v1), (2, .int v2), (3, .int v3)] → gW 1 p l e s m args below meth c D dA 0 α none σz H locs (F0 m 0 ls []) := by
  obtain ⟨hx, hb, hr, hlk, hml, hown, hnm, hts, hK, hNw⟩ := id G
  intro a0 ha0 v1 v2 v3 σ hF H locs ls hW hl
  rw [f_X4_set] at hF
  refine lv_aload_n hx hb dX4_set_0 rfl (lv_at hl 0 rfl) ?_
  refine lv_iload_n hx hb dX4_set_1 rfl (lv_at hl 1 rfl) ?_
  obtain ⟨σ1, hσ1, hF⟩ := o_b hF
  refine pp_X4_18 G hW ha0 hσ1 dX4_set_2 (fun H locs hW => ?_)
  refine lv_aload_n hx hb dX4_set_5 rfl (lv_at hl 0 rfl) ?_
  refine lv_iload_n hx hb dX4_set_6 rfl (lv_at hl 2 rfl) ?_
  obtain ⟨σ2, hσ2, hF⟩ := o_b hF
  refine pp_X4_22 G hW ha0 hσ2 dX4_set_7 (fun H locs hW => ?_)
  refine lv_aload_n hx hb dX4_set_10 rfl (lv_at hl 0 rfl) ?_
  refine lv_iload_n hx hb dX4_set_11 rfl (lv_at hl 3 rfl) ?_
  obtain ⟨σ3, hσ3, hF⟩ := o_b hF
  refine pp_X4_25 G hW ha0 hσ3 dX4_set_12 (fun H locs hW => ?_)
  refine lv_aload_n hx hb dX4_set_15 rfl (lv_at hl 0 rfl) ?_
  refine lv_iconst (v := 0) hx hb dX4_set_16 (by decide) ?_
  obtain ⟨σ4, hσ4, hF⟩ := o_b hF
  refine pp_X4_28 G hW ha0 hσ4 dX4_set_17 (fun H locs hW => ?_)
  refine lv_aload_n hx hb dX4_set_20 rfl (lv_at hl 0 rfl) ?_
  refine lv_sipush (v := 1001) hx hb dX4_set_21 (by decide) ?_
  obtain ⟨σ5, hσ5, hF⟩ := o_b hF
  refine pp_X4_31 G hW ha0 hσ5 dX4_set_24 (fun H locs hW => ?_)
  refine lv_aload_n hx hb dX4_set_27 rfl (lv_at hl 0 rfl) ?_
  refine lv_bipush (v := 8) hx hb dX4_set_28 (by decide) ?_
  obtain ⟨σ6, hσ6, hF⟩ := o_b hF
  refine pp_X4_34 G hW ha0 hσ6 dX4_set_30 (fun H locs hW => ?_)
  refine lv_aload_n hx hb dX4_set_33 rfl (lv_at hl 0 rfl) ?_
  refine lv_iconst (v := 0) hx hb dX4_set_34 (by decide) ?_
  obtain ⟨σ7, hσ7, hF⟩ := o_b hF
  refine pp_X4_37 G hW ha0 hσ7 dX4_set_35 (fun H locs hW => ?_)
  refine lv_aload_n hx hb dX4_set_38 rfl (lv_at hl 0 rfl) ?_
  refine lv_iconst (v := 0) hx hb dX4_set_39 (by decide) ?_
  obtain ⟨σ8, hσ8, hF⟩ := o_b hF
  refine pp_X4_40 G hW ha0 hσ8 dX4_set_40 (fun H locs hW => ?_)
  refine lv_aload_n hx hb dX4_set_43 rfl (lv_at hl 0 rfl) ?_
  refine lv_iconst (v := 0) hx hb dX4_set_44 (by decide) ?_
  obtain ⟨σ9, hσ9, hF⟩ := o_b hF
  refine pp_X4_43 G hW ha0 hσ9 dX4_set_45 (fun H locs hW => ?_)
  refine lv_aload_n hx hb dX4_set_48 rfl (lv_at hl 0 rfl) ?_
  refine lv_iconst (v := 0) hx hb dX4_set_49 (by decide) ?_
  obtain ⟨σ10, hσ10, hF⟩ := o_b hF
  refine pp_X4_46 G hW ha0 hσ10 dX4_set_50 (fun H locs hW => ?_)
  refine lv_aload_n hx hb dX4_set_53 rfl (lv_at hl 0 rfl) ?_
  refine lv_iconst (v := 0) hx hb dX4_set_54 (by decide) ?_
  obtain ⟨σ11, hσ11, hF⟩ := o_b hF
  refine pp_X4_49 G hW ha0 hσ11 dX4_set_55 (fun H locs hW => ?_)
  refine lv_aload_n hx hb dX4_set_58 rfl (lv_at hl 0 rfl) ?_
  refine lv_iconst (v := 0) hx hb dX4_set_59 (by decide) ?_
  obtain ⟨σ12, hσ12, hF⟩ := o_b hF
  refine pp_X4_52 G hW ha0 hσ12 dX4_set_60 (fun H locs hW => ?_)
  refine lv_aload_n hx hb dX4_set_63 rfl (lv_at hl 0 rfl) ?_
  obtain ⟨q13, hq13, hF⟩ := o_b hF
  refine kk_X4_55 G hW ha0 hq13 hl.1 ⟨Nat.le_of_ble_eq_true rfl, Nat.le_of_ble_eq_true rfl⟩ ⟨Nat.le_refl _, Nat.le_refl _⟩ (Nat.le_of_ble_eq_true rfl) dX4_set_64 (fun H locs hW => ?_)
  exact g_vret G hW hF dX4_set_67
end WX4_set
theorem c_X4_set {l : Launch} {D : va_G} {dA : Nat → ClassId} {α : Nat → Nat → Nat} (hI : Inj 0 α) {a0 : Nat} (ha0 : a0 < fN 4) {v1 : Int32} {v2 : Int32} {v3 : Int32} {σ σz : sm_M} (hF : f_X4_set a0 v1 v2 v3 σ = some σz) : gM l D dA 0 α yX4_set cX4_set 4 none 1 [.ref (α 4 a0), .int v1, .int v2, .int v3] σ none σz :=
  g_met hI (by decide +kernel) (Nat.le_of_ble_eq_true rfl) (fun p e s m below meth c ls G hW hl => w_X4_set_0 G _ ha0 _ _ _ _ hF _ _ _ hW hl)
section KX4_set
variable {p : Program} {l : Launch} {e : Env} {R : Room} {s : State} {m : MethodId} {args : Array Value} {below : List Frame} {meth : Method} {c : Code} {H : Heap} {locs : List Loc} {cells slots : Nat} {Q : State → Prop}
variable {cc : ByteArray} {pc nL Z : Nat} {ls : Array Slot} {rest : List Value} {D : va_G} {dA : Nat → ClassId} {α : Nat → Nat → Nat} {H0 : Heap} {σ σ' : sm_M} {ret : Option FieldType} {own nm : String}
theorem kk_X2_32 (G : gx p s m meth c args cc nL ret RX2 nm D dA) (hW : Wd D dA 0 α H0 σ H locs) {a0 : Nat} (ha0 : a0 < fN 4) {v1 : Int32} {v2 : Int32} {v3 : Int32} {q : sm_M} (hq : f_X4_set a0 v1 v2 v3 σ = some q) (hls : ls.size = nL) (hR : 1 + 1 ≤ R.frames ∧ 8 + (4 + 11) + 44 * 1 ≤ R.locals) (hf : cells ≤ R.cells ∧ slots ≤ R.slots) (hcat : (rest.map fun v => v.category).sum ≤ 8) (hdg : decode cc pc = .ok (.invokevirtual 32, 3)) (kk : ∀ (H1 : Heap) (locs1 : List Loc), Wd D dA 0 α H0 q H1 locs1 → W p l e R s m args below meth c H1 locs1 cells slots Q (F0 m (pc + 3) ls rest)) : W p l e R s m args below meth c H locs cells slots Q (F0 m pc ls (.int v3 :: .int v2 :: .int v1 :: .ref (α 4 a0) :: rest)) :=
  g_cV (n := 3) G (c_X4_set (l := l) hW.2.2.2 ha0 hq) ⟨wm_7_5, wm_7_6, wm_7_7, wm_2_11, wm_7_8⟩ (by decide +kernel) hW (g_recv (φ := 4) (ci := 4) G.2.2.2.2.2.2.2.2.1 rfl rfl rfl ha0 hW.1 rfl) hR hf rfl hls rfl hcat hdg kk
end KX4_set
section WX2_addTask
variable {p : Program} {l : Launch} {e : Env} {s : State} {m : MethodId} {args : Array Value} {below : List Frame} {meth : Method} {c : Code} {D : va_G} {dA : Nat → ClassId} {α : Nat → Nat → Nat}
set_option maxHeartbeats 4000000 in
set_option maxRecDepth 100000 in
theorem w_X2_addTask_0 (G : gx p s m meth c args cX2_addTask 4 (some .int) RX2 "addTask" D dA) {r : Int32} {σz : sm_M} : ∀ (v1 : Int32) (v2 : Int32) (v3 : Int32) (σ : sm_M), f_X2_addTask v1 v2 v3 σ = some (r, σz) → ∀ (H : Heap) (locs : List Loc) (ls : Array Slot), Wd D dA 0 α s.heap σ H locs → lv_has ls 4 [(0, .ref (α 1 0)), (1, .int v1), (2, .int v2), (3, .int v3)] → gW 2 p l e s m args below meth c D dA 0 α (some (.int r)) σz H locs (F0 m 0 ls []) := by
  obtain ⟨hx, hb, hr, hlk, hml, hown, hnm, hts, hK, hNw⟩ := id G
  intro v1 v2 v3 σ hF H locs ls hW hl
  rw [f_X2_addTask] at hF
  refine lv_aload_n hx hb dX2_addTask_0 rfl (lv_at hl 0 rfl) ?_
  refine gg_X2_11 G hW (by decide) dX2_addTask_1 ?_
  refine lv_aload_n hx hb dX2_addTask_4 rfl (lv_at hl 0 rfl) ?_
  refine gg_X2_25 G hW (by decide) dX2_addTask_5 ?_
  obtain ⟨x1, hx1, hF⟩ := o_b hF
  refine g_aP (φ := 7) (ψ := 4) G rfl rfl (by decide) (ety := (.object "RegionRestarts$Task")) rfl rfl (fun _ => rfl) hW (by decide) hx1 dX2_addTask_8 ?_
  refine lv_iload_n hx hb dX2_addTask_9 rfl (lv_at hl 1 rfl) ?_
  refine lv_iload_n hx hb dX2_addTask_10 rfl (lv_at hl 2 rfl) ?_
  refine lv_iload_n hx hb dX2_addTask_11 rfl (lv_at hl 3 rfl) ?_
  obtain ⟨q2, hq2, hF⟩ := o_b hF
  refine kk_X2_32 G hW (aP_lt hx1) hq2 hl.1 ⟨Nat.le_of_ble_eq_true rfl, Nat.le_of_ble_eq_true rfl⟩ ⟨Nat.le_refl _, Nat.le_refl _⟩ (Nat.le_of_ble_eq_true rfl) dX2_addTask_12 (fun H locs hW => ?_)
  refine lv_aload_n hx hb dX2_addTask_15 rfl (lv_at hl 0 rfl) ?_
  refine lv_dup hx hb dX2_addTask_16 rfl ?_
  refine gg_X2_25 G hW (by decide) dX2_addTask_17 ?_
  refine lv_iconst (v := 1) hx hb dX2_addTask_20 (by decide) ?_
  refine lv_iadd hx hb dX2_addTask_21 ?_
  obtain ⟨σ3, hσ3, hF⟩ := o_b hF
  refine pp_X2_25 G hW (by decide) hσ3 dX2_addTask_22 (fun H locs hW => ?_)
  refine lv_aload_n hx hb dX2_addTask_25 rfl (lv_at hl 0 rfl) ?_
  refine gg_X2_25 G hW (by decide) dX2_addTask_26 ?_
  refine lv_iconst (v := 1) hx hb dX2_addTask_29 (by decide) ?_
  refine lv_isub hx hb dX2_addTask_30 ?_
  exact g_iret G hW hF dX2_addTask_31
end WX2_addTask
theorem c_X2_addTask {l : Launch} {D : va_G} {dA : Nat → ClassId} {α : Nat → Nat → Nat} (hI : Inj 0 α) {v1 : Int32} {v2 : Int32} {v3 : Int32} {σ σz : sm_M} {r : Int32} (hF : f_X2_addTask v1 v2 v3 σ = some (r, σz)) : gM l D dA 0 α yX2_addTask cX2_addTask 4 (some .int) 2 [.ref (α 1 0), .int v1, .int v2, .int v3] σ (some (.int r)) σz :=
  g_met hI (by decide +kernel) (Nat.le_of_ble_eq_true rfl) (fun p e s m below meth c ls G hW hl => w_X2_addTask_0 G _ _ _ _ hF _ _ _ hW hl)
section KX2_addTask
variable {p : Program} {l : Launch} {e : Env} {R : Room} {s : State} {m : MethodId} {args : Array Value} {below : List Frame} {meth : Method} {c : Code} {H : Heap} {locs : List Loc} {cells slots : Nat} {Q : State → Prop}
variable {cc : ByteArray} {pc nL Z : Nat} {ls : Array Slot} {rest : List Value} {D : va_G} {dA : Nat → ClassId} {α : Nat → Nat → Nat} {H0 : Heap} {σ σ' : sm_M} {ret : Option FieldType} {own nm : String}
theorem kk_X5_53 (G : gx p s m meth c args cc nL ret RX5 nm D dA) (hW : Wd D dA 0 α H0 σ H locs) {v1 : Int32} {v2 : Int32} {v3 : Int32} {q : Int32 × sm_M} (hq : f_X2_addTask v1 v2 v3 σ = some q) (hls : ls.size = nL) (hR : 2 + 1 ≤ R.frames ∧ 8 + (4 + 11) + 44 * 2 ≤ R.locals) (hf : cells ≤ R.cells ∧ slots ≤ R.slots) (hcat : (rest.map fun v => v.category).sum ≤ 8) (hdg : decode cc pc = .ok (.invokevirtual 53, 3)) (kk : ∀ (H1 : Heap) (locs1 : List Loc), Wd D dA 0 α H0 q.2 H1 locs1 → W p l e R s m args below meth c H1 locs1 cells slots Q (F0 m (pc + 3) ls (.int q.1 :: rest))) : W p l e R s m args below meth c H locs cells slots Q (F0 m pc ls (.int v3 :: .int v2 :: .int v1 :: .ref (α 1 0) :: rest)) :=
  g_cV (n := 3) G (c_X2_addTask (l := l) hW.2.2.2 hq) ⟨wm_7_0, wm_7_1, wm_7_2, wm_1_14, wm_7_3⟩ (by decide +kernel) hW (g_recv (φ := 1) (ci := 2) G.2.2.2.2.2.2.2.2.1 rfl rfl rfl (by decide) hW.1 rfl) hR hf rfl hls rfl hcat hdg kk
end KX2_addTask
section WX2_addChannel
variable {p : Program} {l : Launch} {e : Env} {s : State} {m : MethodId} {args : Array Value} {below : List Frame} {meth : Method} {c : Code} {D : va_G} {dA : Nat → ClassId} {α : Nat → Nat → Nat}
set_option maxHeartbeats 4000000 in
set_option maxRecDepth 100000 in
theorem w_X2_addChannel_0 (G : gx p s m meth c args cX2_addChannel 4 (some .int) RX2 "addChannel" D dA) {r : Int32} {σz : sm_M} : ∀ (v1 : Int32) (v2 : Int32) (v3 : Int32) (σ : sm_M), f_X2_addChannel v1 v2 v3 σ = some (r, σz) → ∀ (H : Heap) (locs : List Loc) (ls : Array Slot), Wd D dA 0 α s.heap σ H locs → lv_has ls 4 [(0, .ref (α 1 0)), (1, .int v1), (2, .int v2), (3, .int v3)] → gW 2 p l e s m args below meth c D dA 0 α (some (.int r)) σz H locs (F0 m 0 ls []) := by
  obtain ⟨hx, hb, hr, hlk, hml, hown, hnm, hts, hK, hNw⟩ := id G
  intro v1 v2 v3 σ hF H locs ls hW hl
  rw [f_X2_addChannel] at hF
  refine lv_aload_n hx hb dX2_addChannel_0 rfl (lv_at hl 0 rfl) ?_
  refine gg_X2_19 G hW (by decide) dX2_addChannel_1 ?_
  refine lv_aload_n hx hb dX2_addChannel_4 rfl (lv_at hl 0 rfl) ?_
  refine gg_X2_29 G hW (by decide) dX2_addChannel_5 ?_
  obtain ⟨x1, hx1, hF⟩ := o_b hF
  refine g_aP (φ := 8) (ψ := 5) G rfl rfl (by decide) (ety := (.object "RegionRestarts$Channel")) rfl rfl (fun _ => rfl) hW (by decide) hx1 dX2_addChannel_8 ?_
  refine lv_iload_n hx hb dX2_addChannel_9 rfl (lv_at hl 1 rfl) ?_
  refine lv_iload_n hx hb dX2_addChannel_10 rfl (lv_at hl 2 rfl) ?_
  refine lv_iload_n hx hb dX2_addChannel_11 rfl (lv_at hl 3 rfl) ?_
  obtain ⟨q2, hq2, hF⟩ := o_b hF
  refine kk_X2_36 G hW (aP_lt hx1) hq2 hl.1 ⟨Nat.le_of_ble_eq_true rfl, Nat.le_of_ble_eq_true rfl⟩ ⟨Nat.le_refl _, Nat.le_refl _⟩ (Nat.le_of_ble_eq_true rfl) dX2_addChannel_12 (fun H locs hW => ?_)
  refine lv_aload_n hx hb dX2_addChannel_15 rfl (lv_at hl 0 rfl) ?_
  refine gg_X2_11 G hW (by decide) dX2_addChannel_16 ?_
  refine lv_iload_n hx hb dX2_addChannel_19 rfl (lv_at hl 2 rfl) ?_
  obtain ⟨x3, hx3, hF⟩ := o_b hF
  refine g_aP (φ := 7) (ψ := 4) G rfl rfl (by decide) (ety := (.object "RegionRestarts$Task")) rfl rfl (fun _ => rfl) hW (by decide) hx3 dX2_addChannel_20 ?_
  refine lv_dup hx hb dX2_addChannel_21 rfl ?_
  refine gg_X2_39 G hW (aP_lt hx3) dX2_addChannel_22 ?_
  refine lv_iconst (v := 1) hx hb dX2_addChannel_25 (by decide) ?_
  refine lv_iload_n hx hb dX2_addChannel_26 rfl (lv_at hl 1 rfl) ?_
  refine lv_ishl hx hb dX2_addChannel_27 ?_
  refine lv_ior hx hb dX2_addChannel_28 ?_
  obtain ⟨σ4, hσ4, hF⟩ := o_b hF
  refine pp_X2_39 G hW (aP_lt hx3) hσ4 dX2_addChannel_29 (fun H locs hW => ?_)
  refine lv_aload_n hx hb dX2_addChannel_32 rfl (lv_at hl 0 rfl) ?_
  refine lv_dup hx hb dX2_addChannel_33 rfl ?_
  refine gg_X2_29 G hW (by decide) dX2_addChannel_34 ?_
  refine lv_iconst (v := 1) hx hb dX2_addChannel_37 (by decide) ?_
  refine lv_iadd hx hb dX2_addChannel_38 ?_
  obtain ⟨σ5, hσ5, hF⟩ := o_b hF
  refine pp_X2_29 G hW (by decide) hσ5 dX2_addChannel_39 (fun H locs hW => ?_)
  refine lv_aload_n hx hb dX2_addChannel_42 rfl (lv_at hl 0 rfl) ?_
  refine gg_X2_29 G hW (by decide) dX2_addChannel_43 ?_
  refine lv_iconst (v := 1) hx hb dX2_addChannel_46 (by decide) ?_
  refine lv_isub hx hb dX2_addChannel_47 ?_
  exact g_iret G hW hF dX2_addChannel_48
end WX2_addChannel
theorem c_X2_addChannel {l : Launch} {D : va_G} {dA : Nat → ClassId} {α : Nat → Nat → Nat} (hI : Inj 0 α) {v1 : Int32} {v2 : Int32} {v3 : Int32} {σ σz : sm_M} {r : Int32} (hF : f_X2_addChannel v1 v2 v3 σ = some (r, σz)) : gM l D dA 0 α yX2_addChannel cX2_addChannel 4 (some .int) 2 [.ref (α 1 0), .int v1, .int v2, .int v3] σ (some (.int r)) σz :=
  g_met hI (by decide +kernel) (Nat.le_of_ble_eq_true rfl) (fun p e s m below meth c ls G hW hl => w_X2_addChannel_0 G _ _ _ _ hF _ _ _ hW hl)
section KX2_addChannel
variable {p : Program} {l : Launch} {e : Env} {R : Room} {s : State} {m : MethodId} {args : Array Value} {below : List Frame} {meth : Method} {c : Code} {H : Heap} {locs : List Loc} {cells slots : Nat} {Q : State → Prop}
variable {cc : ByteArray} {pc nL Z : Nat} {ls : Array Slot} {rest : List Value} {D : va_G} {dA : Nat → ClassId} {α : Nat → Nat → Nat} {H0 : Heap} {σ σ' : sm_M} {ret : Option FieldType} {own nm : String}
theorem kk_X5_72 (G : gx p s m meth c args cc nL ret RX5 nm D dA) (hW : Wd D dA 0 α H0 σ H locs) {v1 : Int32} {v2 : Int32} {v3 : Int32} {q : Int32 × sm_M} (hq : f_X2_addChannel v1 v2 v3 σ = some q) (hls : ls.size = nL) (hR : 2 + 1 ≤ R.frames ∧ 8 + (4 + 11) + 44 * 2 ≤ R.locals) (hf : cells ≤ R.cells ∧ slots ≤ R.slots) (hcat : (rest.map fun v => v.category).sum ≤ 8) (hdg : decode cc pc = .ok (.invokevirtual 72, 3)) (kk : ∀ (H1 : Heap) (locs1 : List Loc), Wd D dA 0 α H0 q.2 H1 locs1 → W p l e R s m args below meth c H1 locs1 cells slots Q (F0 m (pc + 3) ls (.int q.1 :: rest))) : W p l e R s m args below meth c H locs cells slots Q (F0 m pc ls (.int v3 :: .int v2 :: .int v1 :: .ref (α 1 0) :: rest)) :=
  g_cV (n := 3) G (c_X2_addChannel (l := l) hW.2.2.2 hq) ⟨wm_9_1, wm_9_2, wm_9_3, wm_1_14, wm_9_4⟩ (by decide +kernel) hW (g_recv (φ := 1) (ci := 2) G.2.2.2.2.2.2.2.2.1 rfl rfl rfl (by decide) hW.1 rfl) hR hf rfl hls rfl hcat hdg kk
end KX2_addChannel
section WX2_tasksOn
variable {p : Program} {l : Launch} {e : Env} {s : State} {m : MethodId} {args : Array Value} {below : List Frame} {meth : Method} {c : Code} {D : va_G} {dA : Nat → ClassId} {α : Nat → Nat → Nat}
set_option maxHeartbeats 4000000 in
set_option maxRecDepth 100000 in
theorem w_X2_tasksOn_37 (G : gx p s m meth c args cX2_tasksOn 4 (some .int) RX2 "tasksOn" D dA) {r : Int32} {σz : sm_M} : ∀ (v2 : Int32) (σ : sm_M), f_X2_tasksOn_37 v2 σ = some (r, σz) → ∀ (H : Heap) (locs : List Loc) (ls : Array Slot), Wd D dA 0 α s.heap σ H locs → lv_has ls 4 [(2, .int v2)] → gW 0 p l e s m args below meth c D dA 0 α (some (.int r)) σz H locs (F0 m 37 ls []) := by
  obtain ⟨hx, hb, hr, hlk, hml, hown, hnm, hts, hK, hNw⟩ := id G
  intro v2 σ hF H locs ls hW hl
  rw [f_X2_tasksOn_37] at hF
  refine lv_iload_n hx hb dX2_tasksOn_37 rfl (lv_at hl 0 rfl) ?_
  exact g_iret G hW hF dX2_tasksOn_38
set_option maxHeartbeats 4000000 in
set_option maxRecDepth 100000 in
theorem w_X2_tasksOn_31 (G : gx p s m meth c args cX2_tasksOn 4 (some .int) RX2 "tasksOn" D dA) {r : Int32} {σz : sm_M} (k4 : Int32 → Int32 → Int32 → sm_M → Option (Int32 × sm_M)) (hk4 : ∀ (v1 : Int32) (v2 : Int32) (v3 : Int32) (σ : sm_M), k4 v1 v2 v3 σ = some (r, σz) → ∀ (H : Heap) (locs : List Loc) (ls : Array Slot), Wd D dA 0 α s.heap σ H locs → lv_has ls 4 [(0, .ref (α 1 0)), (1, .int v1), (2, .int v2), (3, .int v3)] → gW 0 p l e s m args below meth c D dA 0 α (some (.int r)) σz H locs (F0 m 4 ls [])) : ∀ (v1 : Int32) (v2 : Int32) (v3 : Int32) (σ : sm_M), f_X2_tasksOn_31 k4 v1 v2 v3 σ = some (r, σz) → ∀ (H : Heap) (locs : List Loc) (ls : Array Slot), Wd D dA 0 α s.heap σ H locs → lv_has ls 4 [(0, .ref (α 1 0)), (1, .int v1), (2, .int v2), (3, .int v3)] → gW 0 p l e s m args below meth c D dA 0 α (some (.int r)) σz H locs (F0 m 31 ls []) := by
  obtain ⟨hx, hb, hr, hlk, hml, hown, hnm, hts, hK, hNw⟩ := id G
  intro v1 v2 v3 σ hF H locs ls hW hl
  rw [f_X2_tasksOn_31] at hF
  refine lv_iinc (v := (v3 + 1)) (lv' := [(3, .int (v3 + 1)), (0, .ref (α 1 0)), (1, .int v1), (2, .int v2)]) hx hb dX2_tasksOn_31 hl (k := 3) rfl rfl (by decide) rfl (fun ls hl => ?_)
  refine lv_goto (tgt := 4) hx hb dX2_tasksOn_34 (by decide) ?_
  exact hk4 _ _ _ _ hF H locs ls hW (lv_sub hl [1, 2, 3, 0] rfl)
set_option maxHeartbeats 4000000 in
set_option maxRecDepth 100000 in
theorem w_X2_tasksOn_4 (G : gx p s m meth c args cX2_tasksOn 4 (some .int) RX2 "tasksOn" D dA) {r : Int32} {σz : sm_M} : ∀ (n : Nat) (v1 : Int32) (v2 : Int32) (v3 : Int32) (σ : sm_M), f_X2_tasksOn_4 n v1 v2 v3 σ = some (r, σz) → ∀ (H : Heap) (locs : List Loc) (ls : Array Slot), Wd D dA 0 α s.heap σ H locs → lv_has ls 4 [(0, .ref (α 1 0)), (1, .int v1), (2, .int v2), (3, .int v3)] → gW 0 p l e s m args below meth c D dA 0 α (some (.int r)) σz H locs (F0 m 4 ls []) := by
  obtain ⟨hx, hb, hr, hlk, hml, hown, hnm, hts, hK, hNw⟩ := id G
  intro n
  induction n with
  | zero => intro v1 v2 v3 σ hF; exact absurd hF (by intro h; cases h)
  | succ n ih =>
    intro v1 v2 v3 σ hF H locs ls hW hl
    rw [f_X2_tasksOn_4] at hF
    refine lv_iload_n hx hb dX2_tasksOn_4 rfl (lv_at hl 3 rfl) ?_
    refine lv_aload_n hx hb dX2_tasksOn_5 rfl (lv_at hl 0 rfl) ?_
    refine gg_X2_25 G hW (by decide) dX2_tasksOn_6 ?_
    refine lv_icmp_ge (tgt := 37) hx hb dX2_tasksOn_9 (by decide) (fun hc => ?_) (fun hc => ?_)
    · replace hF := o_t hc hF
      exact w_X2_tasksOn_37 G _ _ hF H locs ls hW (lv_sub hl [2] rfl)
    · replace hF := o_f hc hF
      refine lv_aload_n hx hb dX2_tasksOn_12 rfl (lv_at hl 0 rfl) ?_
      refine gg_X2_11 G hW (by decide) dX2_tasksOn_13 ?_
      refine lv_iload_n hx hb dX2_tasksOn_16 rfl (lv_at hl 3 rfl) ?_
      obtain ⟨x1, hx1, hF⟩ := o_b hF
      refine g_aP (φ := 7) (ψ := 4) G rfl rfl (by decide) (ety := (.object "RegionRestarts$Task")) rfl rfl (fun _ => rfl) hW (by decide) hx1 dX2_tasksOn_17 ?_
      refine gg_X2_42 G hW (aP_lt hx1) dX2_tasksOn_18 ?_
      refine lv_iload_n hx hb dX2_tasksOn_21 rfl (lv_at hl 1 rfl) ?_
      refine lv_icmp_ne (tgt := 31) hx hb dX2_tasksOn_22 (by decide) (fun hc => ?_) (fun hc => ?_)
      · replace hF := o_f hc hF
        exact w_X2_tasksOn_31 G (f_X2_tasksOn_4 n) ih _ _ _ _ hF H locs ls hW (lv_sub hl [0, 1, 2, 3] rfl)
      · replace hF := o_t hc hF
        refine lv_iload_n hx hb dX2_tasksOn_25 rfl (lv_at hl 2 rfl) ?_
        refine lv_iconst (v := 1) hx hb dX2_tasksOn_26 (by decide) ?_
        refine lv_iload_n hx hb dX2_tasksOn_27 rfl (lv_at hl 3 rfl) ?_
        refine lv_ishl hx hb dX2_tasksOn_28 ?_
        refine lv_ior hx hb dX2_tasksOn_29 ?_
        refine lv_istore_n (lv' := [(2, .int (v2 ||| ((1 : Int32) <<< (v3 &&& 31)))), (0, .ref (α 1 0)), (1, .int v1), (3, .int v3)]) hx hb dX2_tasksOn_30 rfl hl (by decide) rfl (fun ls hl => ?_)
        exact w_X2_tasksOn_31 G (f_X2_tasksOn_4 n) ih _ _ _ _ hF H locs ls hW (lv_sub hl [1, 2, 0, 3] rfl)
set_option maxHeartbeats 4000000 in
set_option maxRecDepth 100000 in
theorem w_X2_tasksOn_0 (G : gx p s m meth c args cX2_tasksOn 4 (some .int) RX2 "tasksOn" D dA) {r : Int32} {σz : sm_M} : ∀ (v1 : Int32) (σ : sm_M), f_X2_tasksOn v1 σ = some (r, σz) → ∀ (H : Heap) (locs : List Loc) (ls : Array Slot), Wd D dA 0 α s.heap σ H locs → lv_has ls 4 [(0, .ref (α 1 0)), (1, .int v1)] → gW 0 p l e s m args below meth c D dA 0 α (some (.int r)) σz H locs (F0 m 0 ls []) := by
  obtain ⟨hx, hb, hr, hlk, hml, hown, hnm, hts, hK, hNw⟩ := id G
  intro v1 σ hF H locs ls hW hl
  rw [f_X2_tasksOn] at hF
  refine lv_iconst (v := 0) hx hb dX2_tasksOn_0 (by decide) ?_
  refine lv_istore_n (lv' := [(2, .int (0 : Int32)), (0, .ref (α 1 0)), (1, .int v1)]) hx hb dX2_tasksOn_1 rfl hl (by decide) rfl (fun ls hl => ?_)
  refine lv_iconst (v := 0) hx hb dX2_tasksOn_2 (by decide) ?_
  refine lv_istore_n (lv' := [(3, .int (0 : Int32)), (2, .int (0 : Int32)), (0, .ref (α 1 0)), (1, .int v1)]) hx hb dX2_tasksOn_3 rfl hl (by decide) rfl (fun ls hl => ?_)
  exact w_X2_tasksOn_4 G 1000 _ _ _ _ hF H locs ls hW (lv_sub hl [2, 3, 1, 0] rfl)
end WX2_tasksOn
theorem c_X2_tasksOn {l : Launch} {D : va_G} {dA : Nat → ClassId} {α : Nat → Nat → Nat} (hI : Inj 0 α) {v1 : Int32} {σ σz : sm_M} {r : Int32} (hF : f_X2_tasksOn v1 σ = some (r, σz)) : gM l D dA 0 α yX2_tasksOn cX2_tasksOn 4 (some .int) 0 [.ref (α 1 0), .int v1] σ (some (.int r)) σz :=
  g_met hI (by decide +kernel) (Nat.le_of_ble_eq_true rfl) (fun p e s m below meth c ls G hW hl => w_X2_tasksOn_0 G _ _ hF _ _ _ hW hl)
section KX2_tasksOn
variable {p : Program} {l : Launch} {e : Env} {R : Room} {s : State} {m : MethodId} {args : Array Value} {below : List Frame} {meth : Method} {c : Code} {H : Heap} {locs : List Loc} {cells slots : Nat} {Q : State → Prop}
variable {cc : ByteArray} {pc nL Z : Nat} {ls : Array Slot} {rest : List Value} {D : va_G} {dA : Nat → ClassId} {α : Nat → Nat → Nat} {H0 : Heap} {σ σ' : sm_M} {ret : Option FieldType} {own nm : String}
theorem kk_X5_124 (G : gx p s m meth c args cc nL ret RX5 nm D dA) (hW : Wd D dA 0 α H0 σ H locs) {v1 : Int32} {q : Int32 × sm_M} (hq : f_X2_tasksOn v1 σ = some q) (hls : ls.size = nL) (hR : 0 + 1 ≤ R.frames ∧ 8 + (4 + 11) + 44 * 0 ≤ R.locals) (hf : cells ≤ R.cells ∧ slots ≤ R.slots) (hcat : (rest.map fun v => v.category).sum ≤ 8) (hdg : decode cc pc = .ok (.invokevirtual 124, 3)) (kk : ∀ (H1 : Heap) (locs1 : List Loc), Wd D dA 0 α H0 q.2 H1 locs1 → W p l e R s m args below meth c H1 locs1 cells slots Q (F0 m (pc + 3) ls (.int q.1 :: rest))) : W p l e R s m args below meth c H locs cells slots Q (F0 m pc ls (.int v1 :: .ref (α 1 0) :: rest)) :=
  g_cV (n := 1) G (c_X2_tasksOn (l := l) hW.2.2.2 hq) ⟨wm_23_12, wm_23_13, wm_23_14, wm_1_14, wm_23_15⟩ (by decide +kernel) hW (g_recv (φ := 1) (ci := 2) G.2.2.2.2.2.2.2.2.1 rfl rfl rfl (by decide) hW.1 rfl) hR hf rfl hls rfl hcat hdg kk
end KX2_tasksOn
section WX4_waitsStill
variable {p : Program} {l : Launch} {e : Env} {s : State} {m : MethodId} {args : Array Value} {below : List Frame} {meth : Method} {c : Code} {D : va_G} {dA : Nat → ClassId} {α : Nat → Nat → Nat}
set_option maxHeartbeats 4000000 in
set_option maxRecDepth 100000 in
theorem w_X4_waitsStill_0 (G : gx p s m meth c args cX4_waitsStill 2 (some .int) RX4 "waitsStill" D dA) {r : Int32} {σz : sm_M} : ∀ (a0 : Nat) (ha0 : a0 < fN 4) (v1 : Int32) (σ : sm_M), f_X4_waitsStill a0 v1 σ = some (r, σz) → ∀ (H : Heap) (locs : List Loc) (ls : Array Slot), Wd D dA 0 α s.heap σ H locs → lv_has ls 2 [(0, .ref (α 4 a0)), (1, .int v1)] → gW 1 p l e s m args below meth c D dA 0 α (some (.int r)) σz H locs (F0 m 0 ls []) := by
  obtain ⟨hx, hb, hr, hlk, hml, hown, hnm, hts, hK, hNw⟩ := id G
  intro a0 ha0 v1 σ hF H locs ls hW hl
  rw [f_X4_waitsStill] at hF
  refine lv_iconst (v := 0) hx hb dX4_waitsStill_0 (by decide) ?_
  refine lv_aload_n hx hb dX4_waitsStill_1 rfl (lv_at hl 0 rfl) ?_
  refine gg_X4_40 G hW ha0 dX4_waitsStill_2 ?_
  refine lv_iload_n hx hb dX4_waitsStill_5 rfl (lv_at hl 1 rfl) ?_
  refine lv_isub hx hb dX4_waitsStill_6 ?_
  refine g_max G hl.1 mm_X4_67 (Nat.le_of_ble_eq_true rfl) (Nat.le_of_ble_eq_true rfl) (Nat.le_refl _) (Nat.le_refl _) dX4_waitsStill_7 ?_
  exact g_iret G hW hF dX4_waitsStill_10
end WX4_waitsStill
theorem c_X4_waitsStill {l : Launch} {D : va_G} {dA : Nat → ClassId} {α : Nat → Nat → Nat} (hI : Inj 0 α) {a0 : Nat} (ha0 : a0 < fN 4) {v1 : Int32} {σ σz : sm_M} {r : Int32} (hF : f_X4_waitsStill a0 v1 σ = some (r, σz)) : gM l D dA 0 α yX4_waitsStill cX4_waitsStill 2 (some .int) 1 [.ref (α 4 a0), .int v1] σ (some (.int r)) σz :=
  g_met hI (by decide +kernel) (Nat.le_of_ble_eq_true rfl) (fun p e s m below meth c ls G hW hl => w_X4_waitsStill_0 G _ ha0 _ _ hF _ _ _ hW hl)
section KX4_waitsStill
variable {p : Program} {l : Launch} {e : Env} {R : Room} {s : State} {m : MethodId} {args : Array Value} {below : List Frame} {meth : Method} {c : Code} {H : Heap} {locs : List Loc} {cells slots : Nat} {Q : State → Prop}
variable {cc : ByteArray} {pc nL Z : Nat} {ls : Array Slot} {rest : List Value} {D : va_G} {dA : Nat → ClassId} {α : Nat → Nat → Nat} {H0 : Heap} {σ σ' : sm_M} {ret : Option FieldType} {own nm : String}
theorem kk_X5_91 (G : gx p s m meth c args cc nL ret RX5 nm D dA) (hW : Wd D dA 0 α H0 σ H locs) {a0 : Nat} (ha0 : a0 < fN 4) {v1 : Int32} {q : Int32 × sm_M} (hq : f_X4_waitsStill a0 v1 σ = some q) (hls : ls.size = nL) (hR : 1 + 1 ≤ R.frames ∧ 8 + (2 + 11) + 44 * 1 ≤ R.locals) (hf : cells ≤ R.cells ∧ slots ≤ R.slots) (hcat : (rest.map fun v => v.category).sum ≤ 8) (hdg : decode cc pc = .ok (.invokevirtual 91, 3)) (kk : ∀ (H1 : Heap) (locs1 : List Loc), Wd D dA 0 α H0 q.2 H1 locs1 → W p l e R s m args below meth c H1 locs1 cells slots Q (F0 m (pc + 3) ls (.int q.1 :: rest))) : W p l e R s m args below meth c H locs cells slots Q (F0 m pc ls (.int v1 :: .ref (α 4 a0) :: rest)) :=
  g_cV (n := 1) G (c_X4_waitsStill (l := l) hW.2.2.2 ha0 hq) ⟨wm_11_9, wm_11_10, wm_11_11, wm_2_11, wm_11_12⟩ (by decide +kernel) hW (g_recv (φ := 4) (ci := 4) G.2.2.2.2.2.2.2.2.1 rfl rfl rfl ha0 hW.1 rfl) hR hf rfl hls rfl hcat hdg kk
theorem kk_X2_45 (G : gx p s m meth c args cc nL ret RX2 nm D dA) (hW : Wd D dA 0 α H0 σ H locs) {a0 : Nat} (ha0 : a0 < fN 4) {v1 : Int32} {q : Int32 × sm_M} (hq : f_X4_waitsStill a0 v1 σ = some q) (hls : ls.size = nL) (hR : 1 + 1 ≤ R.frames ∧ 8 + (2 + 11) + 44 * 1 ≤ R.locals) (hf : cells ≤ R.cells ∧ slots ≤ R.slots) (hcat : (rest.map fun v => v.category).sum ≤ 8) (hdg : decode cc pc = .ok (.invokevirtual 45, 3)) (kk : ∀ (H1 : Heap) (locs1 : List Loc), Wd D dA 0 α H0 q.2 H1 locs1 → W p l e R s m args below meth c H1 locs1 cells slots Q (F0 m (pc + 3) ls (.int q.1 :: rest))) : W p l e R s m args below meth c H locs cells slots Q (F0 m pc ls (.int v1 :: .ref (α 4 a0) :: rest)) :=
  g_cV (n := 1) G (c_X4_waitsStill (l := l) hW.2.2.2 ha0 hq) ⟨wm_26_10, wm_11_10, wm_11_11, wm_2_11, wm_11_12⟩ (by decide +kernel) hW (g_recv (φ := 4) (ci := 4) G.2.2.2.2.2.2.2.2.1 rfl rfl rfl ha0 hW.1 rfl) hR hf rfl hls rfl hcat hdg kk
end KX4_waitsStill
section WX2_countWaiting
variable {p : Program} {l : Launch} {e : Env} {s : State} {m : MethodId} {args : Array Value} {below : List Frame} {meth : Method} {c : Code} {D : va_G} {dA : Nat → ClassId} {α : Nat → Nat → Nat}
set_option maxHeartbeats 4000000 in
set_option maxRecDepth 100000 in
theorem w_X2_countWaiting_34 (G : gx p s m meth c args cX2_countWaiting 4 (some .int) RX2 "countWaiting" D dA) {r : Int32} {σz : sm_M} : ∀ (v2 : Int32) (σ : sm_M), f_X2_countWaiting_34 v2 σ = some (r, σz) → ∀ (H : Heap) (locs : List Loc) (ls : Array Slot), Wd D dA 0 α s.heap σ H locs → lv_has ls 4 [(2, .int v2)] → gW 2 p l e s m args below meth c D dA 0 α (some (.int r)) σz H locs (F0 m 34 ls []) := by
  obtain ⟨hx, hb, hr, hlk, hml, hown, hnm, hts, hK, hNw⟩ := id G
  intro v2 σ hF H locs ls hW hl
  rw [f_X2_countWaiting_34] at hF
  refine lv_iload_n hx hb dX2_countWaiting_34 rfl (lv_at hl 0 rfl) ?_
  exact g_iret G hW hF dX2_countWaiting_35
set_option maxHeartbeats 4000000 in
set_option maxRecDepth 100000 in
theorem w_X2_countWaiting_28 (G : gx p s m meth c args cX2_countWaiting 4 (some .int) RX2 "countWaiting" D dA) {r : Int32} {σz : sm_M} (k4 : Int32 → Int32 → Int32 → sm_M → Option (Int32 × sm_M)) (hk4 : ∀ (v1 : Int32) (v2 : Int32) (v3 : Int32) (σ : sm_M), k4 v1 v2 v3 σ = some (r, σz) → ∀ (H : Heap) (locs : List Loc) (ls : Array Slot), Wd D dA 0 α s.heap σ H locs → lv_has ls 4 [(0, .ref (α 1 0)), (1, .int v1), (2, .int v2), (3, .int v3)] → gW 2 p l e s m args below meth c D dA 0 α (some (.int r)) σz H locs (F0 m 4 ls [])) : ∀ (v1 : Int32) (v2 : Int32) (v3 : Int32) (σ : sm_M), f_X2_countWaiting_28 k4 v1 v2 v3 σ = some (r, σz) → ∀ (H : Heap) (locs : List Loc) (ls : Array Slot), Wd D dA 0 α s.heap σ H locs → lv_has ls 4 [(0, .ref (α 1 0)), (1, .int v1), (2, .int v2), (3, .int v3)] → gW 2 p l e s m args below meth c D dA 0 α (some (.int r)) σz H locs (F0 m 28 ls []) := by
  obtain ⟨hx, hb, hr, hlk, hml, hown, hnm, hts, hK, hNw⟩ := id G
  intro v1 v2 v3 σ hF H locs ls hW hl
  rw [f_X2_countWaiting_28] at hF
  refine lv_iinc (v := (v3 + 1)) (lv' := [(3, .int (v3 + 1)), (0, .ref (α 1 0)), (1, .int v1), (2, .int v2)]) hx hb dX2_countWaiting_28 hl (k := 3) rfl rfl (by decide) rfl (fun ls hl => ?_)
  refine lv_goto (tgt := 4) hx hb dX2_countWaiting_31 (by decide) ?_
  exact hk4 _ _ _ _ hF H locs ls hW (lv_sub hl [1, 2, 3, 0] rfl)
set_option maxHeartbeats 4000000 in
set_option maxRecDepth 100000 in
theorem w_X2_countWaiting_4 (G : gx p s m meth c args cX2_countWaiting 4 (some .int) RX2 "countWaiting" D dA) {r : Int32} {σz : sm_M} : ∀ (n : Nat) (v1 : Int32) (v2 : Int32) (v3 : Int32) (σ : sm_M), f_X2_countWaiting_4 n v1 v2 v3 σ = some (r, σz) → ∀ (H : Heap) (locs : List Loc) (ls : Array Slot), Wd D dA 0 α s.heap σ H locs → lv_has ls 4 [(0, .ref (α 1 0)), (1, .int v1), (2, .int v2), (3, .int v3)] → gW 2 p l e s m args below meth c D dA 0 α (some (.int r)) σz H locs (F0 m 4 ls []) := by
  obtain ⟨hx, hb, hr, hlk, hml, hown, hnm, hts, hK, hNw⟩ := id G
  intro n
  induction n with
  | zero => intro v1 v2 v3 σ hF; exact absurd hF (by intro h; cases h)
  | succ n ih =>
    intro v1 v2 v3 σ hF H locs ls hW hl
    rw [f_X2_countWaiting_4] at hF
    refine lv_iload_n hx hb dX2_countWaiting_4 rfl (lv_at hl 3 rfl) ?_
    refine lv_aload_n hx hb dX2_countWaiting_5 rfl (lv_at hl 0 rfl) ?_
    refine gg_X2_25 G hW (by decide) dX2_countWaiting_6 ?_
    refine lv_icmp_ge (tgt := 34) hx hb dX2_countWaiting_9 (by decide) (fun hc => ?_) (fun hc => ?_)
    · replace hF := o_t hc hF
      exact w_X2_countWaiting_34 G _ _ hF H locs ls hW (lv_sub hl [2] rfl)
    · replace hF := o_f hc hF
      refine lv_aload_n hx hb dX2_countWaiting_12 rfl (lv_at hl 0 rfl) ?_
      refine gg_X2_11 G hW (by decide) dX2_countWaiting_13 ?_
      refine lv_iload_n hx hb dX2_countWaiting_16 rfl (lv_at hl 3 rfl) ?_
      obtain ⟨x1, hx1, hF⟩ := o_b hF
      refine g_aP (φ := 7) (ψ := 4) G rfl rfl (by decide) (ety := (.object "RegionRestarts$Task")) rfl rfl (fun _ => rfl) hW (by decide) hx1 dX2_countWaiting_17 ?_
      refine lv_iload_n hx hb dX2_countWaiting_18 rfl (lv_at hl 1 rfl) ?_
      obtain ⟨q2, hq2, hF⟩ := o_b hF
      refine kk_X2_45 G hW (aP_lt hx1) hq2 hl.1 ⟨Nat.le_of_ble_eq_true rfl, Nat.le_of_ble_eq_true rfl⟩ ⟨Nat.le_refl _, Nat.le_refl _⟩ (Nat.le_of_ble_eq_true rfl) dX2_countWaiting_19 (fun H locs hW => ?_)
      refine lv_if_le (tgt := 28) hx hb dX2_countWaiting_22 (by decide) (fun hc => ?_) (fun hc => ?_)
      · replace hF := o_t hc hF
        exact w_X2_countWaiting_28 G (f_X2_countWaiting_4 n) ih _ _ _ _ hF H locs ls hW (lv_sub hl [0, 1, 2, 3] rfl)
      · replace hF := o_f hc hF
        refine lv_iinc (v := (v2 + 1)) (lv' := [(2, .int (v2 + 1)), (0, .ref (α 1 0)), (1, .int v1), (3, .int v3)]) hx hb dX2_countWaiting_25 hl (k := 2) rfl rfl (by decide) rfl (fun ls hl => ?_)
        exact w_X2_countWaiting_28 G (f_X2_countWaiting_4 n) ih _ _ _ _ hF H locs ls hW (lv_sub hl [1, 2, 0, 3] rfl)
set_option maxHeartbeats 4000000 in
set_option maxRecDepth 100000 in
theorem w_X2_countWaiting_0 (G : gx p s m meth c args cX2_countWaiting 4 (some .int) RX2 "countWaiting" D dA) {r : Int32} {σz : sm_M} : ∀ (v1 : Int32) (σ : sm_M), f_X2_countWaiting v1 σ = some (r, σz) → ∀ (H : Heap) (locs : List Loc) (ls : Array Slot), Wd D dA 0 α s.heap σ H locs → lv_has ls 4 [(0, .ref (α 1 0)), (1, .int v1)] → gW 2 p l e s m args below meth c D dA 0 α (some (.int r)) σz H locs (F0 m 0 ls []) := by
  obtain ⟨hx, hb, hr, hlk, hml, hown, hnm, hts, hK, hNw⟩ := id G
  intro v1 σ hF H locs ls hW hl
  rw [f_X2_countWaiting] at hF
  refine lv_iconst (v := 0) hx hb dX2_countWaiting_0 (by decide) ?_
  refine lv_istore_n (lv' := [(2, .int (0 : Int32)), (0, .ref (α 1 0)), (1, .int v1)]) hx hb dX2_countWaiting_1 rfl hl (by decide) rfl (fun ls hl => ?_)
  refine lv_iconst (v := 0) hx hb dX2_countWaiting_2 (by decide) ?_
  refine lv_istore_n (lv' := [(3, .int (0 : Int32)), (2, .int (0 : Int32)), (0, .ref (α 1 0)), (1, .int v1)]) hx hb dX2_countWaiting_3 rfl hl (by decide) rfl (fun ls hl => ?_)
  exact w_X2_countWaiting_4 G 1000 _ _ _ _ hF H locs ls hW (lv_sub hl [2, 3, 1, 0] rfl)
end WX2_countWaiting
theorem c_X2_countWaiting {l : Launch} {D : va_G} {dA : Nat → ClassId} {α : Nat → Nat → Nat} (hI : Inj 0 α) {v1 : Int32} {σ σz : sm_M} {r : Int32} (hF : f_X2_countWaiting v1 σ = some (r, σz)) : gM l D dA 0 α yX2_countWaiting cX2_countWaiting 4 (some .int) 2 [.ref (α 1 0), .int v1] σ (some (.int r)) σz :=
  g_met hI (by decide +kernel) (Nat.le_of_ble_eq_true rfl) (fun p e s m below meth c ls G hW hl => w_X2_countWaiting_0 G _ _ hF _ _ _ hW hl)
section KX2_countWaiting
variable {p : Program} {l : Launch} {e : Env} {R : Room} {s : State} {m : MethodId} {args : Array Value} {below : List Frame} {meth : Method} {c : Code} {H : Heap} {locs : List Loc} {cells slots : Nat} {Q : State → Prop}
variable {cc : ByteArray} {pc nL Z : Nat} {ls : Array Slot} {rest : List Value} {D : va_G} {dA : Nat → ClassId} {α : Nat → Nat → Nat} {H0 : Heap} {σ σ' : sm_M} {ret : Option FieldType} {own nm : String}
theorem kk_X5_172 (G : gx p s m meth c args cc nL ret RX5 nm D dA) (hW : Wd D dA 0 α H0 σ H locs) {v1 : Int32} {q : Int32 × sm_M} (hq : f_X2_countWaiting v1 σ = some q) (hls : ls.size = nL) (hR : 2 + 1 ≤ R.frames ∧ 8 + (4 + 11) + 44 * 2 ≤ R.locals) (hf : cells ≤ R.cells ∧ slots ≤ R.slots) (hcat : (rest.map fun v => v.category).sum ≤ 8) (hdg : decode cc pc = .ok (.invokevirtual 172, 3)) (kk : ∀ (H1 : Heap) (locs1 : List Loc), Wd D dA 0 α H0 q.2 H1 locs1 → W p l e R s m args below meth c H1 locs1 cells slots Q (F0 m (pc + 3) ls (.int q.1 :: rest))) : W p l e R s m args below meth c H locs cells slots Q (F0 m pc ls (.int v1 :: .ref (α 1 0) :: rest)) :=
  g_cV (n := 1) G (c_X2_countWaiting (l := l) hW.2.2.2 hq) ⟨wm_26_6, wm_26_7, wm_26_8, wm_1_14, wm_26_9⟩ (by decide +kernel) hW (g_recv (φ := 1) (ci := 2) G.2.2.2.2.2.2.2.2.1 rfl rfl rfl (by decide) hW.1 rfl) hR hf rfl hls rfl hcat hdg kk
end KX2_countWaiting
section WX2_isDone
variable {p : Program} {l : Launch} {e : Env} {s : State} {m : MethodId} {args : Array Value} {below : List Frame} {meth : Method} {c : Code} {D : va_G} {dA : Nat → ClassId} {α : Nat → Nat → Nat}
set_option maxHeartbeats 4000000 in
set_option maxRecDepth 100000 in
theorem w_X2_isDone_82 (G : gx p s m meth c args cX2_isDone 5 (some .boolean) RX2 "isDone" D dA) {r : Int32} {σz : sm_M} (k41 : Int32 → Int32 → Int32 → sm_M → Option (Int32 × sm_M)) (hk41 : ∀ (v1 : Int32) (v2 : Int32) (v3 : Int32) (σ : sm_M), k41 v1 v2 v3 σ = some (r, σz) → ∀ (H : Heap) (locs : List Loc) (ls : Array Slot), Wd D dA 0 α s.heap σ H locs → lv_has ls 5 [(0, .ref (α 1 0)), (1, .int v1), (2, .int v2), (3, .int v3)] → gW 2 p l e s m args below meth c D dA 0 α (some (.int r)) σz H locs (F0 m 41 ls [])) : ∀ (v1 : Int32) (v2 : Int32) (v3 : Int32) (σ : sm_M), f_X2_isDone_82 k41 v1 v2 v3 σ = some (r, σz) → ∀ (H : Heap) (locs : List Loc) (ls : Array Slot), Wd D dA 0 α s.heap σ H locs → lv_has ls 5 [(0, .ref (α 1 0)), (1, .int v1), (2, .int v2), (3, .int v3)] → gW 2 p l e s m args below meth c D dA 0 α (some (.int r)) σz H locs (F0 m 82 ls []) := by
  obtain ⟨hx, hb, hr, hlk, hml, hown, hnm, hts, hK, hNw⟩ := id G
  intro v1 v2 v3 σ hF H locs ls hW hl
  rw [f_X2_isDone_82] at hF
  refine lv_iinc (v := (v3 + 1)) (lv' := [(3, .int (v3 + 1)), (0, .ref (α 1 0)), (1, .int v1), (2, .int v2)]) hx hb dX2_isDone_82 hl (k := 3) rfl rfl (by decide) rfl (fun ls hl => ?_)
  refine lv_goto (tgt := 41) hx hb dX2_isDone_85 (by decide) ?_
  exact hk41 _ _ _ _ hF H locs ls hW (lv_sub hl [1, 2, 3, 0] rfl)
set_option maxHeartbeats 4000000 in
set_option maxRecDepth 100000 in
theorem w_X2_isDone_41 (G : gx p s m meth c args cX2_isDone 5 (some .boolean) RX2 "isDone" D dA) {r : Int32} {σz : sm_M} : ∀ (n : Nat) (v1 : Int32) (v2 : Int32) (v3 : Int32) (σ : sm_M), f_X2_isDone_41 n v1 v2 v3 σ = some (r, σz) → ∀ (H : Heap) (locs : List Loc) (ls : Array Slot), Wd D dA 0 α s.heap σ H locs → lv_has ls 5 [(0, .ref (α 1 0)), (1, .int v1), (2, .int v2), (3, .int v3)] → gW 2 p l e s m args below meth c D dA 0 α (some (.int r)) σz H locs (F0 m 41 ls []) := by
  obtain ⟨hx, hb, hr, hlk, hml, hown, hnm, hts, hK, hNw⟩ := id G
  intro n
  induction n with
  | zero => intro v1 v2 v3 σ hF; exact absurd hF (by intro h; cases h)
  | succ n ih =>
    intro v1 v2 v3 σ hF H locs ls hW hl
    rw [f_X2_isDone_41] at hF
    refine lv_iload_n hx hb dX2_isDone_41 rfl (lv_at hl 3 rfl) ?_
    refine lv_aload_n hx hb dX2_isDone_42 rfl (lv_at hl 0 rfl) ?_
    refine gg_X2_29 G hW (by decide) dX2_isDone_43 ?_
    refine lv_icmp_ge (tgt := 88) hx hb dX2_isDone_46 (by decide) (fun hc => ?_) (fun hc => ?_)
    · replace hF := o_t hc hF
      refine lv_iconst (v := 1) hx hb dX2_isDone_88 (by decide) ?_
      exact g_zret G hW hF dX2_isDone_89
    · replace hF := o_f hc hF
      refine lv_aload_n hx hb dX2_isDone_49 rfl (lv_at hl 0 rfl) ?_
      refine gg_X2_19 G hW (by decide) dX2_isDone_50 ?_
      refine lv_iload_n hx hb dX2_isDone_53 rfl (lv_at hl 3 rfl) ?_
      obtain ⟨x1, hx1, hF⟩ := o_b hF
      refine g_aP (φ := 8) (ψ := 5) G rfl rfl (by decide) (ety := (.object "RegionRestarts$Channel")) rfl rfl (fun _ => rfl) hW (by decide) hx1 dX2_isDone_54 ?_
      refine lv_astore (lv' := [(4, .ref (α 5 x1)), (0, .ref (α 1 0)), (1, .int v1), (2, .int v2), (3, .int v3)]) hx hb dX2_isDone_55 hl (by decide) rfl (fun ls hl => ?_)
      refine lv_aload hx hb dX2_isDone_57 (lv_at hl 0 rfl) ?_
      refine gg_X2_62 G hW (aP_lt hx1) dX2_isDone_59 ?_
      refine lv_iload_n hx hb dX2_isDone_62 rfl (lv_at hl 2 rfl) ?_
      refine lv_icmp_ne (tgt := 82) hx hb dX2_isDone_63 (by decide) (fun hc => ?_) (fun hc => ?_)
      · replace hF := o_f hc hF
        exact w_X2_isDone_82 G (f_X2_isDone_41 n) ih _ _ _ _ hF H locs ls hW (lv_sub hl [1, 2, 3, 4] rfl)
      · replace hF := o_t hc hF
        refine lv_aload hx hb dX2_isDone_66 (lv_at hl 0 rfl) ?_
        refine lv_aload hx hb dX2_isDone_68 (lv_at hl 0 rfl) ?_
        refine gg_X2_65 G hW (aP_lt hx1) dX2_isDone_70 ?_
        refine lv_iload_n hx hb dX2_isDone_73 rfl (lv_at hl 3 rfl) ?_
        obtain ⟨q2, hq2, hF⟩ := o_b hF
        refine kk_X2_68 G hW (aP_lt hx1) hq2 hl.1 ⟨Nat.le_of_ble_eq_true rfl, Nat.le_of_ble_eq_true rfl⟩ ⟨Nat.le_refl _, Nat.le_refl _⟩ (Nat.le_of_ble_eq_true rfl) dX2_isDone_74 (fun H locs hW => ?_)
        refine lv_if_ne (tgt := 82) hx hb dX2_isDone_77 (by decide) (fun hc => ?_) (fun hc => ?_)
        · replace hF := o_f hc hF
          exact w_X2_isDone_82 G (f_X2_isDone_41 n) ih _ _ _ _ hF H locs ls hW (lv_sub hl [1, 2, 3, 4] rfl)
        · replace hF := o_t hc hF
          refine lv_iconst (v := 0) hx hb dX2_isDone_80 (by decide) ?_
          exact g_zret G hW hF dX2_isDone_81
set_option maxHeartbeats 4000000 in
set_option maxRecDepth 100000 in
theorem w_X2_isDone_38 (G : gx p s m meth c args cX2_isDone 5 (some .boolean) RX2 "isDone" D dA) {r : Int32} {σz : sm_M} : ∀ (s0 : Int32) (σ : sm_M), f_X2_isDone_38 s0 σ = some (r, σz) → ∀ (H : Heap) (locs : List Loc) (ls : Array Slot), Wd D dA 0 α s.heap σ H locs → lv_has ls 5 [] → gW 2 p l e s m args below meth c D dA 0 α (some (.int r)) σz H locs (F0 m 38 ls [.int s0]) := by
  obtain ⟨hx, hb, hr, hlk, hml, hown, hnm, hts, hK, hNw⟩ := id G
  intro s0 σ hF H locs ls hW hl
  rw [f_X2_isDone_38] at hF
  exact g_zret G hW hF dX2_isDone_38
set_option maxHeartbeats 4000000 in
set_option maxRecDepth 100000 in
theorem w_X2_isDone_0 (G : gx p s m meth c args cX2_isDone 5 (some .boolean) RX2 "isDone" D dA) {r : Int32} {σz : sm_M} : ∀ (v1 : Int32) (v2 : Int32) (σ : sm_M), f_X2_isDone v1 v2 σ = some (r, σz) → ∀ (H : Heap) (locs : List Loc) (ls : Array Slot), Wd D dA 0 α s.heap σ H locs → lv_has ls 5 [(0, .ref (α 1 0)), (1, .int v1), (2, .int v2)] → gW 2 p l e s m args below meth c D dA 0 α (some (.int r)) σz H locs (F0 m 0 ls []) := by
  obtain ⟨hx, hb, hr, hlk, hml, hown, hnm, hts, hK, hNw⟩ := id G
  intro v1 v2 σ hF H locs ls hW hl
  rw [f_X2_isDone] at hF
  refine lv_aload_n hx hb dX2_isDone_0 rfl (lv_at hl 0 rfl) ?_
  refine gg_X2_11 G hW (by decide) dX2_isDone_1 ?_
  refine lv_iload_n hx hb dX2_isDone_4 rfl (lv_at hl 1 rfl) ?_
  obtain ⟨x1, hx1, hF⟩ := o_b hF
  refine g_aP (φ := 7) (ψ := 4) G rfl rfl (by decide) (ety := (.object "RegionRestarts$Task")) rfl rfl (fun _ => rfl) hW (by decide) hx1 dX2_isDone_5 ?_
  refine gg_X2_53 G hW (aP_lt hx1) dX2_isDone_6 ?_
  refine lv_if_ne (tgt := 39) hx hb dX2_isDone_9 (by decide) (fun hc => ?_) (fun hc => ?_)
  · replace hF := o_f hc hF
    refine lv_iconst (v := 0) hx hb dX2_isDone_39 (by decide) ?_
    refine lv_istore_n (lv' := [(3, .int (0 : Int32)), (0, .ref (α 1 0)), (1, .int v1), (2, .int v2)]) hx hb dX2_isDone_40 rfl hl (by decide) rfl (fun ls hl => ?_)
    exact w_X2_isDone_41 G 1000 _ _ _ _ hF H locs ls hW (lv_sub hl [1, 2, 3, 0] rfl)
  · replace hF := o_t hc hF
    refine lv_aload_n hx hb dX2_isDone_12 rfl (lv_at hl 0 rfl) ?_
    refine gg_X2_11 G hW (by decide) dX2_isDone_13 ?_
    refine lv_iload_n hx hb dX2_isDone_16 rfl (lv_at hl 1 rfl) ?_
    obtain ⟨x2, hx2, hF⟩ := o_b hF
    refine g_aP (φ := 7) (ψ := 4) G rfl rfl (by decide) (ety := (.object "RegionRestarts$Task")) rfl rfl (fun _ => rfl) hW (by decide) hx2 dX2_isDone_17 ?_
    refine gg_X2_56 G hW (aP_lt hx2) dX2_isDone_18 ?_
    refine lv_aload_n hx hb dX2_isDone_21 rfl (lv_at hl 0 rfl) ?_
    refine gg_X2_11 G hW (by decide) dX2_isDone_22 ?_
    refine lv_iload_n hx hb dX2_isDone_25 rfl (lv_at hl 1 rfl) ?_
    obtain ⟨x3, hx3, hF⟩ := o_b hF
    refine g_aP (φ := 7) (ψ := 4) G rfl rfl (by decide) (ety := (.object "RegionRestarts$Task")) rfl rfl (fun _ => rfl) hW (by decide) hx3 dX2_isDone_26 ?_
    refine gg_X2_59 G hW (aP_lt hx3) dX2_isDone_27 ?_
    refine lv_icmp_lt (tgt := 37) hx hb dX2_isDone_30 (by decide) (fun hc => ?_) (fun hc => ?_)
    · replace hF := o_t hc hF
      refine lv_iconst (v := 0) hx hb dX2_isDone_37 (by decide) ?_
      exact w_X2_isDone_38 G _ _ hF H locs ls hW (lv_sub hl [] rfl)
    · replace hF := o_f hc hF
      refine lv_iconst (v := 1) hx hb dX2_isDone_33 (by decide) ?_
      refine lv_goto (tgt := 38) hx hb dX2_isDone_34 (by decide) ?_
      exact w_X2_isDone_38 G _ _ hF H locs ls hW (lv_sub hl [] rfl)
end WX2_isDone
theorem c_X2_isDone {l : Launch} {D : va_G} {dA : Nat → ClassId} {α : Nat → Nat → Nat} (hI : Inj 0 α) {v1 : Int32} {v2 : Int32} {σ σz : sm_M} {r : Int32} (hF : f_X2_isDone v1 v2 σ = some (r, σz)) : gM l D dA 0 α yX2_isDone cX2_isDone 5 (some .boolean) 2 [.ref (α 1 0), .int v1, .int v2] σ (some (.int r)) σz :=
  g_met hI (by decide +kernel) (Nat.le_of_ble_eq_true rfl) (fun p e s m below meth c ls G hW hl => w_X2_isDone_0 G _ _ _ hF _ _ _ hW hl)
section KX2_isDone
variable {p : Program} {l : Launch} {e : Env} {R : Room} {s : State} {m : MethodId} {args : Array Value} {below : List Frame} {meth : Method} {c : Code} {H : Heap} {locs : List Loc} {cells slots : Nat} {Q : State → Prop}
variable {cc : ByteArray} {pc nL Z : Nat} {ls : Array Slot} {rest : List Value} {D : va_G} {dA : Nat → ClassId} {α : Nat → Nat → Nat} {H0 : Heap} {σ σ' : sm_M} {ret : Option FieldType} {own nm : String}
theorem kk_X2_49 (G : gx p s m meth c args cc nL ret RX2 nm D dA) (hW : Wd D dA 0 α H0 σ H locs) {v1 : Int32} {v2 : Int32} {q : Int32 × sm_M} (hq : f_X2_isDone v1 v2 σ = some q) (hls : ls.size = nL) (hR : 2 + 1 ≤ R.frames ∧ 8 + (5 + 11) + 44 * 2 ≤ R.locals) (hf : cells ≤ R.cells ∧ slots ≤ R.slots) (hcat : (rest.map fun v => v.category).sum ≤ 8) (hdg : decode cc pc = .ok (.invokevirtual 49, 3)) (kk : ∀ (H1 : Heap) (locs1 : List Loc), Wd D dA 0 α H0 q.2 H1 locs1 → W p l e R s m args below meth c H1 locs1 cells slots Q (F0 m (pc + 3) ls (.int q.1 :: rest))) : W p l e R s m args below meth c H locs cells slots Q (F0 m pc ls (.int v2 :: .int v1 :: .ref (α 1 0) :: rest)) :=
  g_cV (n := 2) G (c_X2_isDone (l := l) hW.2.2.2 hq) ⟨wm_14_7, wm_14_8, wm_14_9, wm_1_14, wm_14_10⟩ (by decide +kernel) hW (g_recv (φ := 1) (ci := 2) G.2.2.2.2.2.2.2.2.1 rfl rfl rfl (by decide) hW.1 rfl) hR hf rfl hls rfl hcat hdg kk
end KX2_isDone
section WX2_doneTasks
variable {p : Program} {l : Launch} {e : Env} {s : State} {m : MethodId} {args : Array Value} {below : List Frame} {meth : Method} {c : Code} {D : va_G} {dA : Nat → ClassId} {α : Nat → Nat → Nat}
set_option maxHeartbeats 4000000 in
set_option maxRecDepth 100000 in
theorem w_X2_doneTasks_33 (G : gx p s m meth c args cX2_doneTasks 3 (some .int) RX2 "doneTasks" D dA) {r : Int32} {σz : sm_M} : ∀ (v1 : Int32) (σ : sm_M), f_X2_doneTasks_33 v1 σ = some (r, σz) → ∀ (H : Heap) (locs : List Loc) (ls : Array Slot), Wd D dA 0 α s.heap σ H locs → lv_has ls 3 [(1, .int v1)] → gW 3 p l e s m args below meth c D dA 0 α (some (.int r)) σz H locs (F0 m 33 ls []) := by
  obtain ⟨hx, hb, hr, hlk, hml, hown, hnm, hts, hK, hNw⟩ := id G
  intro v1 σ hF H locs ls hW hl
  rw [f_X2_doneTasks_33] at hF
  refine lv_iload_n hx hb dX2_doneTasks_33 rfl (lv_at hl 0 rfl) ?_
  exact g_iret G hW hF dX2_doneTasks_34
set_option maxHeartbeats 4000000 in
set_option maxRecDepth 100000 in
theorem w_X2_doneTasks_27 (G : gx p s m meth c args cX2_doneTasks 3 (some .int) RX2 "doneTasks" D dA) {r : Int32} {σz : sm_M} (k4 : Int32 → Int32 → sm_M → Option (Int32 × sm_M)) (hk4 : ∀ (v1 : Int32) (v2 : Int32) (σ : sm_M), k4 v1 v2 σ = some (r, σz) → ∀ (H : Heap) (locs : List Loc) (ls : Array Slot), Wd D dA 0 α s.heap σ H locs → lv_has ls 3 [(0, .ref (α 1 0)), (1, .int v1), (2, .int v2)] → gW 3 p l e s m args below meth c D dA 0 α (some (.int r)) σz H locs (F0 m 4 ls [])) : ∀ (v1 : Int32) (v2 : Int32) (σ : sm_M), f_X2_doneTasks_27 k4 v1 v2 σ = some (r, σz) → ∀ (H : Heap) (locs : List Loc) (ls : Array Slot), Wd D dA 0 α s.heap σ H locs → lv_has ls 3 [(0, .ref (α 1 0)), (1, .int v1), (2, .int v2)] → gW 3 p l e s m args below meth c D dA 0 α (some (.int r)) σz H locs (F0 m 27 ls []) := by
  obtain ⟨hx, hb, hr, hlk, hml, hown, hnm, hts, hK, hNw⟩ := id G
  intro v1 v2 σ hF H locs ls hW hl
  rw [f_X2_doneTasks_27] at hF
  refine lv_iinc (v := (v2 + 1)) (lv' := [(2, .int (v2 + 1)), (0, .ref (α 1 0)), (1, .int v1)]) hx hb dX2_doneTasks_27 hl (k := 2) rfl rfl (by decide) rfl (fun ls hl => ?_)
  refine lv_goto (tgt := 4) hx hb dX2_doneTasks_30 (by decide) ?_
  exact hk4 _ _ _ hF H locs ls hW (lv_sub hl [1, 2, 0] rfl)
set_option maxHeartbeats 4000000 in
set_option maxRecDepth 100000 in
theorem w_X2_doneTasks_4 (G : gx p s m meth c args cX2_doneTasks 3 (some .int) RX2 "doneTasks" D dA) {r : Int32} {σz : sm_M} : ∀ (n : Nat) (v1 : Int32) (v2 : Int32) (σ : sm_M), f_X2_doneTasks_4 n v1 v2 σ = some (r, σz) → ∀ (H : Heap) (locs : List Loc) (ls : Array Slot), Wd D dA 0 α s.heap σ H locs → lv_has ls 3 [(0, .ref (α 1 0)), (1, .int v1), (2, .int v2)] → gW 3 p l e s m args below meth c D dA 0 α (some (.int r)) σz H locs (F0 m 4 ls []) := by
  obtain ⟨hx, hb, hr, hlk, hml, hown, hnm, hts, hK, hNw⟩ := id G
  intro n
  induction n with
  | zero => intro v1 v2 σ hF; exact absurd hF (by intro h; cases h)
  | succ n ih =>
    intro v1 v2 σ hF H locs ls hW hl
    rw [f_X2_doneTasks_4] at hF
    refine lv_iload_n hx hb dX2_doneTasks_4 rfl (lv_at hl 2 rfl) ?_
    refine lv_aload_n hx hb dX2_doneTasks_5 rfl (lv_at hl 0 rfl) ?_
    refine gg_X2_25 G hW (by decide) dX2_doneTasks_6 ?_
    refine lv_icmp_ge (tgt := 33) hx hb dX2_doneTasks_9 (by decide) (fun hc => ?_) (fun hc => ?_)
    · replace hF := o_t hc hF
      exact w_X2_doneTasks_33 G _ _ hF H locs ls hW (lv_sub hl [1] rfl)
    · replace hF := o_f hc hF
      refine lv_aload_n hx hb dX2_doneTasks_12 rfl (lv_at hl 0 rfl) ?_
      refine lv_iload_n hx hb dX2_doneTasks_13 rfl (lv_at hl 2 rfl) ?_
      refine lv_iload_n hx hb dX2_doneTasks_14 rfl (lv_at hl 1 rfl) ?_
      obtain ⟨q1, hq1, hF⟩ := o_b hF
      refine kk_X2_49 G hW hq1 hl.1 ⟨Nat.le_of_ble_eq_true rfl, Nat.le_of_ble_eq_true rfl⟩ ⟨Nat.le_refl _, Nat.le_refl _⟩ (Nat.le_of_ble_eq_true rfl) dX2_doneTasks_15 (fun H locs hW => ?_)
      refine lv_if_eq (tgt := 27) hx hb dX2_doneTasks_18 (by decide) (fun hc => ?_) (fun hc => ?_)
      · replace hF := o_t hc hF
        exact w_X2_doneTasks_27 G (f_X2_doneTasks_4 n) ih _ _ _ hF H locs ls hW (lv_sub hl [0, 1, 2] rfl)
      · replace hF := o_f hc hF
        refine lv_iload_n hx hb dX2_doneTasks_21 rfl (lv_at hl 1 rfl) ?_
        refine lv_iconst (v := 1) hx hb dX2_doneTasks_22 (by decide) ?_
        refine lv_iload_n hx hb dX2_doneTasks_23 rfl (lv_at hl 2 rfl) ?_
        refine lv_ishl hx hb dX2_doneTasks_24 ?_
        refine lv_ior hx hb dX2_doneTasks_25 ?_
        refine lv_istore_n (lv' := [(1, .int (v1 ||| ((1 : Int32) <<< (v2 &&& 31)))), (0, .ref (α 1 0)), (2, .int v2)]) hx hb dX2_doneTasks_26 rfl hl (by decide) rfl (fun ls hl => ?_)
        exact w_X2_doneTasks_27 G (f_X2_doneTasks_4 n) ih _ _ _ hF H locs ls hW (lv_sub hl [1, 0, 2] rfl)
set_option maxHeartbeats 4000000 in
set_option maxRecDepth 100000 in
theorem w_X2_doneTasks_0 (G : gx p s m meth c args cX2_doneTasks 3 (some .int) RX2 "doneTasks" D dA) {r : Int32} {σz : sm_M} : ∀ (σ : sm_M), f_X2_doneTasks σ = some (r, σz) → ∀ (H : Heap) (locs : List Loc) (ls : Array Slot), Wd D dA 0 α s.heap σ H locs → lv_has ls 3 [(0, .ref (α 1 0))] → gW 3 p l e s m args below meth c D dA 0 α (some (.int r)) σz H locs (F0 m 0 ls []) := by
  obtain ⟨hx, hb, hr, hlk, hml, hown, hnm, hts, hK, hNw⟩ := id G
  intro σ hF H locs ls hW hl
  rw [f_X2_doneTasks] at hF
  refine lv_iconst (v := 0) hx hb dX2_doneTasks_0 (by decide) ?_
  refine lv_istore_n (lv' := [(1, .int (0 : Int32)), (0, .ref (α 1 0))]) hx hb dX2_doneTasks_1 rfl hl (by decide) rfl (fun ls hl => ?_)
  refine lv_iconst (v := 0) hx hb dX2_doneTasks_2 (by decide) ?_
  refine lv_istore_n (lv' := [(2, .int (0 : Int32)), (1, .int (0 : Int32)), (0, .ref (α 1 0))]) hx hb dX2_doneTasks_3 rfl hl (by decide) rfl (fun ls hl => ?_)
  exact w_X2_doneTasks_4 G 1000 _ _ _ hF H locs ls hW (lv_sub hl [2, 1, 0] rfl)
end WX2_doneTasks
theorem c_X2_doneTasks {l : Launch} {D : va_G} {dA : Nat → ClassId} {α : Nat → Nat → Nat} (hI : Inj 0 α) {σ σz : sm_M} {r : Int32} (hF : f_X2_doneTasks σ = some (r, σz)) : gM l D dA 0 α yX2_doneTasks cX2_doneTasks 3 (some .int) 3 [.ref (α 1 0)] σ (some (.int r)) σz :=
  g_met hI (by decide +kernel) (Nat.le_of_ble_eq_true rfl) (fun p e s m below meth c ls G hW hl => w_X2_doneTasks_0 G  _ hF _ _ _ hW hl)
section KX2_doneTasks
variable {p : Program} {l : Launch} {e : Env} {R : Room} {s : State} {m : MethodId} {args : Array Value} {below : List Frame} {meth : Method} {c : Code} {H : Heap} {locs : List Loc} {cells slots : Nat} {Q : State → Prop}
variable {cc : ByteArray} {pc nL Z : Nat} {ls : Array Slot} {rest : List Value} {D : va_G} {dA : Nat → ClassId} {α : Nat → Nat → Nat} {H0 : Heap} {σ σ' : sm_M} {ret : Option FieldType} {own nm : String}
theorem kk_X5_199 (G : gx p s m meth c args cc nL ret RX5 nm D dA) (hW : Wd D dA 0 α H0 σ H locs) {q : Int32 × sm_M} (hq : f_X2_doneTasks σ = some q) (hls : ls.size = nL) (hR : 3 + 1 ≤ R.frames ∧ 8 + (3 + 11) + 44 * 3 ≤ R.locals) (hf : cells ≤ R.cells ∧ slots ≤ R.slots) (hcat : (rest.map fun v => v.category).sum ≤ 8) (hdg : decode cc pc = .ok (.invokevirtual 199, 3)) (kk : ∀ (H1 : Heap) (locs1 : List Loc), Wd D dA 0 α H0 q.2 H1 locs1 → W p l e R s m args below meth c H1 locs1 cells slots Q (F0 m (pc + 3) ls (.int q.1 :: rest))) : W p l e R s m args below meth c H locs cells slots Q (F0 m pc ls (.ref (α 1 0) :: rest)) :=
  g_cV (n := 0) G (c_X2_doneTasks (l := l) hW.2.2.2 hq) ⟨wm_27_16, wm_14_4, wm_14_5, wm_1_14, wm_14_6⟩ (by decide +kernel) hW (g_recv (φ := 1) (ci := 2) G.2.2.2.2.2.2.2.2.1 rfl rfl rfl (by decide) hW.1 rfl) hR hf rfl hls rfl hcat hdg kk
theorem kk_X3_66 (G : gx p s m meth c args cc nL ret RX3 nm D dA) (hW : Wd D dA 0 α H0 σ H locs) {q : Int32 × sm_M} (hq : f_X2_doneTasks σ = some q) (hls : ls.size = nL) (hR : 3 + 1 ≤ R.frames ∧ 8 + (3 + 11) + 44 * 3 ≤ R.locals) (hf : cells ≤ R.cells ∧ slots ≤ R.slots) (hcat : (rest.map fun v => v.category).sum ≤ 8) (hdg : decode cc pc = .ok (.invokevirtual 66, 3)) (kk : ∀ (H1 : Heap) (locs1 : List Loc), Wd D dA 0 α H0 q.2 H1 locs1 → W p l e R s m args below meth c H1 locs1 cells slots Q (F0 m (pc + 3) ls (.int q.1 :: rest))) : W p l e R s m args below meth c H locs cells slots Q (F0 m pc ls (.ref (α 1 0) :: rest)) :=
  g_cV (n := 0) G (c_X2_doneTasks (l := l) hW.2.2.2 hq) ⟨wm_14_3, wm_14_4, wm_14_5, wm_1_14, wm_14_6⟩ (by decide +kernel) hW (g_recv (φ := 1) (ci := 2) G.2.2.2.2.2.2.2.2.1 rfl rfl rfl (by decide) hW.1 rfl) hR hf rfl hls rfl hcat hdg kk
end KX2_doneTasks
