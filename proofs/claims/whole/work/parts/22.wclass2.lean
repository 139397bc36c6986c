section WX3_add
variable {p : Program} {l : Launch} {e : Env} {s : State} {m : MethodId} {args : Array Value} {below : List Frame} {meth : Method} {c : Code} {D : va_G} {dA : Nat → ClassId} {α : Nat → Nat → Nat}
set_option maxHeartbeats 4000000 in
set_option maxRecDepth 100000 in
theorem w_X3_add_54 (G : gx p s m meth c args cX3_add 5 none RX3 "add" D dA) {σz : sm_M} : ∀ (v2 : Int32) (v3 : Int32) (σ : sm_M), f_X3_add_54 v2 v3 σ = some σz → ∀ (H : Heap) (locs : List Loc) (ls : Array Slot), Wd D dA 0 α s.heap σ H locs → lv_has ls 5 [(0, .ref (α 2 0)), (2, .int v2), (3, .int v3)] → gW 2 p l e s m args below meth c D dA 0 α none σz H locs (F0 m 54 ls []) := by
  obtain ⟨hx, hb, hr, hlk, hml, hown, hnm, hts, hK, hNw⟩ := id G
  intro v2 v3 σ hF H locs ls hW hl
  rw [f_X3_add_54] at hF
  refine lv_aload_n hx hb dX3_add_54 rfl (lv_at hl 0 rfl) ?_
  refine gg_X3_9 G hW (by decide) dX3_add_55 ?_
  refine lv_aload_n hx hb dX3_add_58 rfl (lv_at hl 0 rfl) ?_
  refine gg_X3_18 G hW (by decide) dX3_add_59 ?_
  refine lv_iload_n hx hb dX3_add_62 rfl (lv_at hl 2 rfl) ?_
  obtain ⟨σ1, hσ1, hF⟩ := o_b hF
  refine g_uI (φ := 9) G rfl rfl (by decide) rfl hW (by decide) hσ1 dX3_add_63 (fun H locs hW => ?_)
  refine lv_aload_n hx hb dX3_add_64 rfl (lv_at hl 0 rfl) ?_
  refine gg_X3_15 G hW (by decide) dX3_add_65 ?_
  refine lv_aload_n hx hb dX3_add_68 rfl (lv_at hl 0 rfl) ?_
  refine gg_X3_18 G hW (by decide) dX3_add_69 ?_
  refine lv_iload_n hx hb dX3_add_72 rfl (lv_at hl 1 rfl) ?_
  obtain ⟨σ2, hσ2, hF⟩ := o_b hF
  refine g_uI (φ := 10) G rfl rfl (by decide) rfl hW (by decide) hσ2 dX3_add_73 (fun H locs hW => ?_)
  refine lv_aload_n hx hb dX3_add_74 rfl (lv_at hl 0 rfl) ?_
  refine lv_dup hx hb dX3_add_75 rfl ?_
  refine gg_X3_18 G hW (by decide) dX3_add_76 ?_
  refine lv_iconst (v := 1) hx hb dX3_add_79 (by decide) ?_
  refine lv_iadd hx hb dX3_add_80 ?_
  obtain ⟨σ3, hσ3, hF⟩ := o_b hF
  refine pp_X3_18 G hW (by decide) hσ3 dX3_add_81 (fun H locs hW => ?_)
  exact g_vret G hW hF dX3_add_84
set_option maxHeartbeats 4000000 in
set_option maxRecDepth 100000 in
theorem w_X3_add_0 (G : gx p s m meth c args cX3_add 5 none RX3 "add" D dA) {σz : sm_M} : ∀ (a1 : Nat) (ha1 : a1 < fN 4) (v2 : Int32) (v3 : Int32) (σ : sm_M), f_X3_add a1 v2 v3 σ = some σz → ∀ (H : Heap) (locs : List Loc) (ls : Array Slot), Wd D dA 0 α s.heap σ H locs → lv_has ls 5 [(0, .ref (α 2 0)), (1, .ref (α 4 a1)), (2, .int v2), (3, .int v3)] → gW 2 p l e s m args below meth c D dA 0 α none σz H locs (F0 m 0 ls []) := by
  obtain ⟨hx, hb, hr, hlk, hml, hown, hnm, hts, hK, hNw⟩ := id G
  intro a1 ha1 v2 v3 σ hF H locs ls hW hl
  rw [f_X3_add] at hF
  refine lv_aload_n hx hb dX3_add_0 rfl (lv_at hl 1 rfl) ?_
  refine gg_X3_52 G hW ha1 dX3_add_1 ?_
  refine lv_aload_n hx hb dX3_add_4 rfl (lv_at hl 0 rfl) ?_
  refine gg_X3_18 G hW (by decide) dX3_add_5 ?_
  refine lv_iadd hx hb dX3_add_8 ?_
  refine lv_istore (lv' := [(4, .int ((σ.1 4 a1 11) + (σ.1 2 0 2))), (0, .ref (α 2 0)), (1, .ref (α 4 a1)), (2, .int v2), (3, .int v3)]) hx hb dX3_add_9 hl (by decide) rfl (fun ls hl => ?_)
  refine lv_aload_n hx hb dX3_add_11 rfl (lv_at hl 2 rfl) ?_
  refine lv_iload hx hb dX3_add_12 (lv_at hl 0 rfl) ?_
  refine lv_iload_n hx hb dX3_add_14 rfl (lv_at hl 4 rfl) ?_
  obtain ⟨q1, hq1, hF⟩ := o_b hF
  refine kk_X3_97 G hW ha1 hq1 hl.1 ⟨Nat.le_of_ble_eq_true rfl, Nat.le_of_ble_eq_true rfl⟩ ⟨Nat.le_refl _, Nat.le_refl _⟩ (Nat.le_of_ble_eq_true rfl) dX3_add_15 (fun H locs hW => ?_)
  refine lv_if_eq (tgt := 27) hx hb dX3_add_18 (by decide) (fun hc => ?_) (fun hc => ?_)
  · replace hF := o_t hc hF
    refine lv_aload_n hx hb dX3_add_27 rfl (lv_at hl 2 rfl) ?_
    refine lv_iload hx hb dX3_add_28 (lv_at hl 0 rfl) ?_
    obtain ⟨q2, hq2, hF⟩ := o_b hF
    refine kk_X3_100 G hW ha1 hq2 hl.1 ⟨Nat.le_of_ble_eq_true rfl, Nat.le_of_ble_eq_true rfl⟩ ⟨Nat.le_refl _, Nat.le_refl _⟩ (Nat.le_of_ble_eq_true rfl) dX3_add_30 (fun H locs hW => ?_)
    refine lv_if_ne (tgt := 54) hx hb dX3_add_33 (by decide) (fun hc => ?_) (fun hc => ?_)
    · replace hF := o_f hc hF
      exact w_X3_add_54 G _ _ _ hF H locs ls hW (lv_sub hl [1, 3, 4] rfl)
    · replace hF := o_t hc hF
      refine lv_aload_n hx hb dX3_add_36 rfl (lv_at hl 2 rfl) ?_
      refine lv_iload_n hx hb dX3_add_37 rfl (lv_at hl 4 rfl) ?_
      obtain ⟨q3, hq3, hF⟩ := o_b hF
      refine kk_X3_104 G hW ha1 hq3 hl.1 ⟨Nat.le_of_ble_eq_true rfl, Nat.le_of_ble_eq_true rfl⟩ ⟨Nat.le_refl _, Nat.le_refl _⟩ (Nat.le_of_ble_eq_true rfl) dX3_add_38 (fun H locs hW => ?_)
      refine lv_if_eq (tgt := 54) hx hb dX3_add_41 (by decide) (fun hc => ?_) (fun hc => ?_)
      · replace hF := o_t hc hF
        exact w_X3_add_54 G _ _ _ hF H locs ls hW (lv_sub hl [1, 3, 4] rfl)
      · replace hF := o_f hc hF
        refine lv_aload_n hx hb dX3_add_44 rfl (lv_at hl 1 rfl) ?_
        refine lv_dup hx hb dX3_add_45 rfl ?_
        refine gg_X3_32 G hW (by decide) dX3_add_46 ?_
        refine lv_iconst (v := 1) hx hb dX3_add_49 (by decide) ?_
        refine lv_isub hx hb dX3_add_50 ?_
        obtain ⟨σ4, hσ4, hF⟩ := o_b hF
        refine pp_X3_32 G hW (by decide) hσ4 dX3_add_51 (fun H locs hW => ?_)
        exact w_X3_add_54 G _ _ _ hF H locs ls hW (lv_sub hl [1, 3, 4] rfl)
  · replace hF := o_f hc hF
    refine lv_aload_n hx hb dX3_add_21 rfl (lv_at hl 1 rfl) ?_
    refine lv_iconst (v := 1) hx hb dX3_add_22 (by decide) ?_
    obtain ⟨σ5, hσ5, hF⟩ := o_b hF
    refine pp_X3_22 G hW (by decide) hσ5 dX3_add_23 (fun H locs hW => ?_)
    exact g_vret G hW hF dX3_add_26
end WX3_add
theorem c_X3_add {l : Launch} {D : va_G} {dA : Nat → ClassId} {α : Nat → Nat → Nat} (hI : Inj 0 α) {a1 : Nat} (ha1 : a1 < fN 4) {v2 : Int32} {v3 : Int32} {σ σz : sm_M} (hF : f_X3_add a1 v2 v3 σ = some σz) : gM l D dA 0 α yX3_add cX3_add 5 none 2 [.ref (α 2 0), .ref (α 4 a1), .int v2, .int v3] σ none σz :=
  g_met hI (by decide +kernel) (Nat.le_of_ble_eq_true rfl) (fun p e s m below meth c ls G hW hl => w_X3_add_0 G _ ha1 _ _ _ hF _ _ _ hW hl)
section KX3_add
variable {p : Program} {l : Launch} {e : Env} {R : Room} {s : State} {m : MethodId} {args : Array Value} {below : List Frame} {meth : Method} {c : Code} {H : Heap} {locs : List Loc} {cells slots : Nat} {Q : State → Prop}
variable {cc : ByteArray} {pc nL Z : Nat} {ls : Array Slot} {rest : List Value} {D : va_G} {dA : Nat → ClassId} {α : Nat → Nat → Nat} {H0 : Heap} {σ σ' : sm_M} {ret : Option FieldType} {own nm : String}
theorem kk_X3_62 (G : gx p s m meth c args cc nL ret RX3 nm D dA) (hW : Wd D dA 0 α H0 σ H locs) {a1 : Nat} (ha1 : a1 < fN 4) {v2 : Int32} {v3 : Int32} {q : sm_M} (hq : f_X3_add a1 v2 v3 σ = some q) (hls : ls.size = nL) (hR : 2 + 1 ≤ R.frames ∧ 8 + (5 + 11) + 44 * 2 ≤ R.locals) (hf : cells ≤ R.cells ∧ slots ≤ R.slots) (hcat : (rest.map fun v => v.category).sum ≤ 8) (hdg : decode cc pc = .ok (.invokevirtual 62, 3)) (kk : ∀ (H1 : Heap) (locs1 : List Loc), Wd D dA 0 α H0 q H1 locs1 → W p l e R s m args below meth c H1 locs1 cells slots Q (F0 m (pc + 3) ls rest)) : W p l e R s m args below meth c H locs cells slots Q (F0 m pc ls (.int v3 :: .int v2 :: .ref (α 4 a1) :: .ref (α 2 0) :: rest)) :=
  g_cV (n := 3) G (c_X3_add (l := l) hW.2.2.2 ha1 hq) ⟨wm_13_0, wm_13_1, wm_13_2, wm_1_18, wm_13_3⟩ (by decide +kernel) hW (g_recv (φ := 2) (ci := 3) G.2.2.2.2.2.2.2.2.1 rfl rfl rfl (by decide) hW.1 rfl) hR hf rfl hls rfl hcat hdg kk
end KX3_add
section WX3_fillFromSource
variable {p : Program} {l : Launch} {e : Env} {s : State} {m : MethodId} {args : Array Value} {below : List Frame} {meth : Method} {c : Code} {D : va_G} {dA : Nat → ClassId} {α : Nat → Nat → Nat}
set_option maxHeartbeats 4000000 in
set_option maxRecDepth 100000 in
theorem w_X3_fillFromSource_5 (G : gx p s m meth c args cX3_fillFromSource 4 none RX3 "fillFromSource" D dA) {σz : sm_M} : ∀ (n : Nat) (a1 : Nat) (ha1 : a1 < fN 4) (v2 : Int32) (v3 : Int32) (σ : sm_M), f_X3_fillFromSource_5 n a1 v2 v3 σ = some σz → ∀ (H : Heap) (locs : List Loc) (ls : Array Slot), Wd D dA 0 α s.heap σ H locs → lv_has ls 4 [(0, .ref (α 2 0)), (1, .ref (α 4 a1)), (2, .int v2), (3, .int v3)] → gW 3 p l e s m args below meth c D dA 0 α none σz H locs (F0 m 5 ls []) := by
  obtain ⟨hx, hb, hr, hlk, hml, hown, hnm, hts, hK, hNw⟩ := id G
  intro n
  induction n with
  | zero => intro a1 ha1 v2 v3 σ hF; exact absurd hF (by intro h; cases h)
  | succ n ih =>
    intro a1 ha1 v2 v3 σ hF H locs ls hW hl
    rw [f_X3_fillFromSource_5] at hF
    refine lv_iload_n hx hb dX3_fillFromSource_5 rfl (lv_at hl 3 rfl) ?_
    refine lv_aload_n hx hb dX3_fillFromSource_6 rfl (lv_at hl 1 rfl) ?_
    refine gg_X3_55 G hW ha1 dX3_fillFromSource_7 ?_
    refine lv_icmp_ge (tgt := 44) hx hb dX3_fillFromSource_10 (by decide) (fun hc => ?_) (fun hc => ?_)
    · replace hF := o_t hc hF
      exact g_vret G hW hF dX3_fillFromSource_44
    · replace hF := o_f hc hF
      refine lv_aload_n hx hb dX3_fillFromSource_13 rfl (lv_at hl 0 rfl) ?_
      refine lv_aload_n hx hb dX3_fillFromSource_14 rfl (lv_at hl 1 rfl) ?_
      obtain ⟨q1, hq1, hF⟩ := o_b hF
      refine kk_X3_58 G hW ha1 hq1 hl.1 ⟨Nat.le_of_ble_eq_true rfl, Nat.le_of_ble_eq_true rfl⟩ ⟨Nat.le_refl _, Nat.le_refl _⟩ (Nat.le_of_ble_eq_true rfl) dX3_fillFromSource_15 (fun H locs hW => ?_)
      refine lv_if_eq (tgt := 44) hx hb dX3_fillFromSource_18 (by decide) (fun hc => ?_) (fun hc => ?_)
      · replace hF := o_t hc hF
        exact g_vret G hW hF dX3_fillFromSource_44
      · replace hF := o_f hc hF
        refine lv_aload_n hx hb dX3_fillFromSource_21 rfl (lv_at hl 0 rfl) ?_
        refine lv_aload_n hx hb dX3_fillFromSource_22 rfl (lv_at hl 1 rfl) ?_
        refine lv_bipush (v := -9) hx hb dX3_fillFromSource_23 (by decide) ?_
        refine lv_iconst (v := 5) hx hb dX3_fillFromSource_25 (by decide) ?_
        refine lv_iload_n hx hb dX3_fillFromSource_26 rfl (lv_at hl 2 rfl) ?_
        refine lv_imul hx hb dX3_fillFromSource_27 ?_
        refine lv_iconst (v := 3) hx hb dX3_fillFromSource_28 (by decide) ?_
        refine lv_iload_n hx hb dX3_fillFromSource_29 rfl (lv_at hl 3 rfl) ?_
        refine lv_imul hx hb dX3_fillFromSource_30 ?_
        refine lv_iadd hx hb dX3_fillFromSource_31 ?_
        refine lv_bipush (v := 20) hx hb dX3_fillFromSource_32 (by decide) ?_
        obtain ⟨hd, hF⟩ := o_n hF
        refine lv_irem hx hb dX3_fillFromSource_34 hd ?_
        obtain ⟨q2, hq2, hF⟩ := o_b hF
        refine kk_X3_62 G hW ha1 hq2 hl.1 ⟨Nat.le_of_ble_eq_true rfl, Nat.le_of_ble_eq_true rfl⟩ ⟨Nat.le_refl _, Nat.le_refl _⟩ (Nat.le_of_ble_eq_true rfl) dX3_fillFromSource_35 (fun H locs hW => ?_)
        refine lv_iinc (v := (v3 + 1)) (lv' := [(3, .int (v3 + 1)), (0, .ref (α 2 0)), (1, .ref (α 4 a1)), (2, .int v2)]) hx hb dX3_fillFromSource_38 hl (k := 3) rfl rfl (by decide) rfl (fun ls hl => ?_)
        refine lv_goto (tgt := 5) hx hb dX3_fillFromSource_41 (by decide) ?_
        exact ih _ ha1 _ _ _ hF H locs ls hW (lv_sub hl [1, 2, 3, 0] rfl)
set_option maxHeartbeats 4000000 in
set_option maxRecDepth 100000 in
theorem w_X3_fillFromSource_0 (G : gx p s m meth c args cX3_fillFromSource 4 none RX3 "fillFromSource" D dA) {σz : sm_M} : ∀ (a1 : Nat) (ha1 : a1 < fN 4) (v2 : Int32) (σ : sm_M), f_X3_fillFromSource a1 v2 σ = some σz → ∀ (H : Heap) (locs : List Loc) (ls : Array Slot), Wd D dA 0 α s.heap σ H locs → lv_has ls 4 [(0, .ref (α 2 0)), (1, .ref (α 4 a1)), (2, .int v2)] → gW 3 p l e s m args below meth c D dA 0 α none σz H locs (F0 m 0 ls []) := by
  obtain ⟨hx, hb, hr, hlk, hml, hown, hnm, hts, hK, hNw⟩ := id G
  intro a1 ha1 v2 σ hF H locs ls hW hl
  rw [f_X3_fillFromSource] at hF
  refine lv_aload_n hx hb dX3_fillFromSource_0 rfl (lv_at hl 1 rfl) ?_
  refine gg_X3_52 G hW ha1 dX3_fillFromSource_1 ?_
  refine lv_istore_n (lv' := [(3, .int (σ.1 4 a1 11)), (0, .ref (α 2 0)), (1, .ref (α 4 a1)), (2, .int v2)]) hx hb dX3_fillFromSource_4 rfl hl (by decide) rfl (fun ls hl => ?_)
  exact w_X3_fillFromSource_5 G 1000 _ ha1 _ _ _ hF H locs ls hW (lv_sub hl [1, 2, 3, 0] rfl)
end WX3_fillFromSource
theorem c_X3_fillFromSource {l : Launch} {D : va_G} {dA : Nat → ClassId} {α : Nat → Nat → Nat} (hI : Inj 0 α) {a1 : Nat} (ha1 : a1 < fN 4) {v2 : Int32} {σ σz : sm_M} (hF : f_X3_fillFromSource a1 v2 σ = some σz) : gM l D dA 0 α yX3_fillFromSource cX3_fillFromSource 4 none 3 [.ref (α 2 0), .ref (α 4 a1), .int v2] σ none σz :=
  g_met hI (by decide +kernel) (Nat.le_of_ble_eq_true rfl) (fun p e s m below meth c ls G hW hl => w_X3_fillFromSource_0 G _ ha1 _ _ hF _ _ _ hW hl)
section KX3_fillFromSource
variable {p : Program} {l : Launch} {e : Env} {R : Room} {s : State} {m : MethodId} {args : Array Value} {below : List Frame} {meth : Method} {c : Code} {H : Heap} {locs : List Loc} {cells slots : Nat} {Q : State → Prop}
variable {cc : ByteArray} {pc nL Z : Nat} {ls : Array Slot} {rest : List Value} {D : va_G} {dA : Nat → ClassId} {α : Nat → Nat → Nat} {H0 : Heap} {σ σ' : sm_M} {ret : Option FieldType} {own nm : String}
theorem kk_X3_44 (G : gx p s m meth c args cc nL ret RX3 nm D dA) (hW : Wd D dA 0 α H0 σ H locs) {a1 : Nat} (ha1 : a1 < fN 4) {v2 : Int32} {q : sm_M} (hq : f_X3_fillFromSource a1 v2 σ = some q) (hls : ls.size = nL) (hR : 3 + 1 ≤ R.frames ∧ 8 + (4 + 11) + 44 * 3 ≤ R.locals) (hf : cells ≤ R.cells ∧ slots ≤ R.slots) (hcat : (rest.map fun v => v.category).sum ≤ 8) (hdg : decode cc pc = .ok (.invokevirtual 44, 3)) (kk : ∀ (H1 : Heap) (locs1 : List Loc), Wd D dA 0 α H0 q H1 locs1 → W p l e R s m args below meth c H1 locs1 cells slots Q (F0 m (pc + 3) ls rest)) : W p l e R s m args below meth c H locs cells slots Q (F0 m pc ls (.int v2 :: .ref (α 4 a1) :: .ref (α 2 0) :: rest)) :=
  g_cV (n := 2) G (c_X3_fillFromSource (l := l) hW.2.2.2 ha1 hq) ⟨wm_12_13, wm_12_14, wm_12_15, wm_1_18, wm_12_16⟩ (by decide +kernel) hW (g_recv (φ := 2) (ci := 3) G.2.2.2.2.2.2.2.2.1 rfl rfl rfl (by decide) hW.1 rfl) hR hf rfl hls rfl hcat hdg kk
end KX3_fillFromSource
section WX3_fillFromChannels
variable {p : Program} {l : Launch} {e : Env} {s : State} {m : MethodId} {args : Array Value} {below : List Frame} {meth : Method} {c : Code} {D : va_G} {dA : Nat → ClassId} {α : Nat → Nat → Nat}
set_option maxHeartbeats 4000000 in
set_option maxRecDepth 100000 in
theorem w_X3_fillFromChannels_114 (G : gx p s m meth c args cX3_fillFromChannels 8 none RX3 "fillFromChannels" D dA) {σz : sm_M} (k16 : Int32 → Nat → Int32 → Int32 → sm_M → Option (sm_M)) (hk16 : ∀ (v2 : Int32) (a3 : Nat) (ha3 : a3 < fN 4) (v4 : Int32) (v5 : Int32) (σ : sm_M), k16 v2 a3 v4 v5 σ = some σz → ∀ (H : Heap) (locs : List Loc) (ls : Array Slot), Wd D dA 0 α s.heap σ H locs → lv_has ls 8 [(0, .ref (α 2 0)), (1, .ref (α 1 0)), (2, .int v2), (3, .ref (α 4 a3)), (4, .int v4), (5, .int v5)] → gW 4 p l e s m args below meth c D dA 0 α none σz H locs (F0 m 16 ls [])) : ∀ (v2 : Int32) (a3 : Nat) (ha3 : a3 < fN 4) (v4 : Int32) (v5 : Int32) (σ : sm_M), f_X3_fillFromChannels_114 k16 v2 a3 v4 v5 σ = some σz → ∀ (H : Heap) (locs : List Loc) (ls : Array Slot), Wd D dA 0 α s.heap σ H locs → lv_has ls 8 [(0, .ref (α 2 0)), (1, .ref (α 1 0)), (2, .int v2), (3, .ref (α 4 a3)), (4, .int v4), (5, .int v5)] → gW 4 p l e s m args below meth c D dA 0 α none σz H locs (F0 m 114 ls []) := by
  obtain ⟨hx, hb, hr, hlk, hml, hown, hnm, hts, hK, hNw⟩ := id G
  intro v2 a3 ha3 v4 v5 σ hF H locs ls hW hl
  rw [f_X3_fillFromChannels_114] at hF
  refine lv_iinc (v := (v5 + 1)) (lv' := [(5, .int (v5 + 1)), (0, .ref (α 2 0)), (1, .ref (α 1 0)), (2, .int v2), (3, .ref (α 4 a3)), (4, .int v4)]) hx hb dX3_fillFromChannels_114 hl (k := 5) rfl rfl (by decide) rfl (fun ls hl => ?_)
  refine lv_goto (tgt := 16) hx hb dX3_fillFromChannels_117 (by decide) ?_
  exact hk16 _ _ ha3 _ _ _ hF H locs ls hW (lv_sub hl [1, 2, 3, 4, 5, 0] rfl)
set_option maxHeartbeats 4000000 in
set_option maxRecDepth 100000 in
theorem w_X3_fillFromChannels_101 (G : gx p s m meth c args cX3_fillFromChannels 8 none RX3 "fillFromChannels" D dA) {σz : sm_M} (k16 : Int32 → Nat → Int32 → Int32 → sm_M → Option (sm_M)) (hk16 : ∀ (v2 : Int32) (a3 : Nat) (ha3 : a3 < fN 4) (v4 : Int32) (v5 : Int32) (σ : sm_M), k16 v2 a3 v4 v5 σ = some σz → ∀ (H : Heap) (locs : List Loc) (ls : Array Slot), Wd D dA 0 α s.heap σ H locs → lv_has ls 8 [(0, .ref (α 2 0)), (1, .ref (α 1 0)), (2, .int v2), (3, .ref (α 4 a3)), (4, .int v4), (5, .int v5)] → gW 4 p l e s m args below meth c D dA 0 α none σz H locs (F0 m 16 ls [])) : ∀ (v2 : Int32) (a3 : Nat) (ha3 : a3 < fN 4) (v4 : Int32) (v5 : Int32) (a6 : Nat) (ha6 : a6 < fN 5) (v7 : Int32) (σ : sm_M), f_X3_fillFromChannels_101 k16 v2 a3 v4 v5 a6 v7 σ = some σz → ∀ (H : Heap) (locs : List Loc) (ls : Array Slot), Wd D dA 0 α s.heap σ H locs → lv_has ls 8 [(0, .ref (α 2 0)), (1, .ref (α 1 0)), (2, .int v2), (3, .ref (α 4 a3)), (4, .int v4), (5, .int v5), (6, .ref (α 5 a6)), (7, .int v7)] → gW 4 p l e s m args below meth c D dA 0 α none σz H locs (F0 m 101 ls []) := by
  obtain ⟨hx, hb, hr, hlk, hml, hown, hnm, hts, hK, hNw⟩ := id G
  intro v2 a3 ha3 v4 v5 a6 ha6 v7 σ hF H locs ls hW hl
  rw [f_X3_fillFromChannels_101] at hF
  refine lv_aload hx hb dX3_fillFromChannels_101 (lv_at hl 6 rfl) ?_
  refine lv_iload hx hb dX3_fillFromChannels_103 (lv_at hl 7 rfl) ?_
  refine lv_iload hx hb dX3_fillFromChannels_105 (lv_at hl 4 rfl) ?_
  obtain ⟨q1, hq1, hF⟩ := o_b hF
  refine kk_X3_87 G hW ha6 hq1 hl.1 ⟨Nat.le_of_ble_eq_true rfl, Nat.le_of_ble_eq_true rfl⟩ ⟨Nat.le_refl _, Nat.le_refl _⟩ (Nat.le_of_ble_eq_true rfl) dX3_fillFromChannels_107 (fun H locs hW => ?_)
  refine lv_if_ne (tgt := 114) hx hb dX3_fillFromChannels_110 (by decide) (fun hc => ?_) (fun hc => ?_)
  · replace hF := o_f hc hF
    exact w_X3_fillFromChannels_114 G k16 hk16 _ _ ha3 _ _ _ hF H locs ls hW (lv_sub hl [0, 1, 2, 3, 4, 5] rfl)
  · replace hF := o_t hc hF
    exact g_vret G hW hF dX3_fillFromChannels_113
set_option maxHeartbeats 4000000 in
set_option maxRecDepth 100000 in
theorem w_X3_fillFromChannels_50 (G : gx p s m meth c args cX3_fillFromChannels 8 none RX3 "fillFromChannels" D dA) {σz : sm_M} (k16 : Int32 → Nat → Int32 → Int32 → sm_M → Option (sm_M)) (hk16 : ∀ (v2 : Int32) (a3 : Nat) (ha3 : a3 < fN 4) (v4 : Int32) (v5 : Int32) (σ : sm_M), k16 v2 a3 v4 v5 σ = some σz → ∀ (H : Heap) (locs : List Loc) (ls : Array Slot), Wd D dA 0 α s.heap σ H locs → lv_has ls 8 [(0, .ref (α 2 0)), (1, .ref (α 1 0)), (2, .int v2), (3, .ref (α 4 a3)), (4, .int v4), (5, .int v5)] → gW 4 p l e s m args below meth c D dA 0 α none σz H locs (F0 m 16 ls [])) : ∀ (n : Nat) (v2 : Int32) (a3 : Nat) (ha3 : a3 < fN 4) (v4 : Int32) (v5 : Int32) (a6 : Nat) (ha6 : a6 < fN 5) (v7 : Int32) (σ : sm_M), f_X3_fillFromChannels_50 k16 n v2 a3 v4 v5 a6 v7 σ = some σz → ∀ (H : Heap) (locs : List Loc) (ls : Array Slot), Wd D dA 0 α s.heap σ H locs → lv_has ls 8 [(0, .ref (α 2 0)), (1, .ref (α 1 0)), (2, .int v2), (3, .ref (α 4 a3)), (4, .int v4), (5, .int v5), (6, .ref (α 5 a6)), (7, .int v7)] → gW 4 p l e s m args below meth c D dA 0 α none σz H locs (F0 m 50 ls []) := by
  obtain ⟨hx, hb, hr, hlk, hml, hown, hnm, hts, hK, hNw⟩ := id G
  intro n
  induction n with
  | zero => intro v2 a3 ha3 v4 v5 a6 ha6 v7 σ hF; exact absurd hF (by intro h; cases h)
  | succ n ih =>
    intro v2 a3 ha3 v4 v5 a6 ha6 v7 σ hF H locs ls hW hl
    rw [f_X3_fillFromChannels_50] at hF
    refine lv_iload hx hb dX3_fillFromChannels_50 (lv_at hl 7 rfl) ?_
    refine lv_aload hx hb dX3_fillFromChannels_52 (lv_at hl 6 rfl) ?_
    refine gg_X3_84 G hW ha6 dX3_fillFromChannels_54 ?_
    refine lv_icmp_ge (tgt := 101) hx hb dX3_fillFromChannels_57 (by decide) (fun hc => ?_) (fun hc => ?_)
    · replace hF := o_t hc hF
      exact w_X3_fillFromChannels_101 G k16 hk16 _ _ ha3 _ _ _ ha6 _ _ hF H locs ls hW (lv_sub hl [0, 1, 2, 3, 4, 5, 6, 7] rfl)
    · replace hF := o_f hc hF
      refine lv_aload hx hb dX3_fillFromChannels_60 (lv_at hl 6 rfl) ?_
      refine lv_iload hx hb dX3_fillFromChannels_62 (lv_at hl 7 rfl) ?_
      refine lv_iload hx hb dX3_fillFromChannels_64 (lv_at hl 4 rfl) ?_
      obtain ⟨q1, hq1, hF⟩ := o_b hF
      refine kk_X3_87 G hW ha6 hq1 hl.1 ⟨Nat.le_of_ble_eq_true rfl, Nat.le_of_ble_eq_true rfl⟩ ⟨Nat.le_refl _, Nat.le_refl _⟩ (Nat.le_of_ble_eq_true rfl) dX3_fillFromChannels_66 (fun H locs hW => ?_)
      refine lv_if_ne (tgt := 101) hx hb dX3_fillFromChannels_69 (by decide) (fun hc => ?_) (fun hc => ?_)
      · replace hF := o_f hc hF
        exact w_X3_fillFromChannels_101 G k16 hk16 _ _ ha3 _ _ _ ha6 _ _ hF H locs ls hW (lv_sub hl [0, 1, 2, 3, 4, 5, 6, 7] rfl)
      · replace hF := o_t hc hF
        refine lv_aload_n hx hb dX3_fillFromChannels_72 rfl (lv_at hl 0 rfl) ?_
        refine lv_aload_n hx hb dX3_fillFromChannels_73 rfl (lv_at hl 3 rfl) ?_
        obtain ⟨q2, hq2, hF⟩ := o_b hF
        refine kk_X3_58 G hW ha3 hq2 hl.1 ⟨Nat.le_of_ble_eq_true rfl, Nat.le_of_ble_eq_true rfl⟩ ⟨Nat.le_refl _, Nat.le_refl _⟩ (Nat.le_of_ble_eq_true rfl) dX3_fillFromChannels_74 (fun H locs hW => ?_)
        refine lv_if_eq (tgt := 101) hx hb dX3_fillFromChannels_77 (by decide) (fun hc => ?_) (fun hc => ?_)
        · replace hF := o_t hc hF
          exact w_X3_fillFromChannels_101 G k16 hk16 _ _ ha3 _ _ _ ha6 _ _ hF H locs ls hW (lv_sub hl [0, 1, 2, 3, 4, 5, 6, 7] rfl)
        · replace hF := o_f hc hF
          refine lv_aload_n hx hb dX3_fillFromChannels_80 rfl (lv_at hl 0 rfl) ?_
          refine lv_aload_n hx hb dX3_fillFromChannels_81 rfl (lv_at hl 3 rfl) ?_
          refine lv_iload hx hb dX3_fillFromChannels_82 (lv_at hl 5 rfl) ?_
          refine lv_aload hx hb dX3_fillFromChannels_84 (lv_at hl 6 rfl) ?_
          refine gg_X3_91 G hW ha6 dX3_fillFromChannels_86 ?_
          refine lv_iload hx hb dX3_fillFromChannels_89 (lv_at hl 7 rfl) ?_
          obtain ⟨x3, hx3, hF⟩ := o_b hF
          refine g_aI (φ := 16) G rfl rfl (by decide) rfl hW ha6 hx3 dX3_fillFromChannels_91 ?_
          obtain ⟨q4, hq4, hF⟩ := o_b hF
          refine kk_X3_62 G hW ha3 hq4 hl.1 ⟨Nat.le_of_ble_eq_true rfl, Nat.le_of_ble_eq_true rfl⟩ ⟨Nat.le_refl _, Nat.le_refl _⟩ (Nat.le_of_ble_eq_true rfl) dX3_fillFromChannels_92 (fun H locs hW => ?_)
          refine lv_iinc (v := (v7 + 1)) (lv' := [(7, .int (v7 + 1)), (0, .ref (α 2 0)), (1, .ref (α 1 0)), (2, .int v2), (3, .ref (α 4 a3)), (4, .int v4), (5, .int v5), (6, .ref (α 5 a6))]) hx hb dX3_fillFromChannels_95 hl (k := 7) rfl rfl (by decide) rfl (fun ls hl => ?_)
          refine lv_goto (tgt := 50) hx hb dX3_fillFromChannels_98 (by decide) ?_
          exact ih _ _ ha3 _ _ _ ha6 _ _ hF H locs ls hW (lv_sub hl [1, 2, 3, 4, 5, 6, 7, 0] rfl)
set_option maxHeartbeats 4000000 in
set_option maxRecDepth 100000 in
theorem w_X3_fillFromChannels_16 (G : gx p s m meth c args cX3_fillFromChannels 8 none RX3 "fillFromChannels" D dA) {σz : sm_M} : ∀ (n : Nat) (v2 : Int32) (a3 : Nat) (ha3 : a3 < fN 4) (v4 : Int32) (v5 : Int32) (σ : sm_M), f_X3_fillFromChannels_16 n v2 a3 v4 v5 σ = some σz → ∀ (H : Heap) (locs : List Loc) (ls : Array Slot), Wd D dA 0 α s.heap σ H locs → lv_has ls 8 [(0, .ref (α 2 0)), (1, .ref (α 1 0)), (2, .int v2), (3, .ref (α 4 a3)), (4, .int v4), (5, .int v5)] → gW 4 p l e s m args below meth c D dA 0 α none σz H locs (F0 m 16 ls []) := by
  obtain ⟨hx, hb, hr, hlk, hml, hown, hnm, hts, hK, hNw⟩ := id G
  intro n
  induction n with
  | zero => intro v2 a3 ha3 v4 v5 σ hF; exact absurd hF (by intro h; cases h)
  | succ n ih =>
    intro v2 a3 ha3 v4 v5 σ hF H locs ls hW hl
    rw [f_X3_fillFromChannels_16] at hF
    refine lv_iload hx hb dX3_fillFromChannels_16 (lv_at hl 5 rfl) ?_
    refine lv_aload_n hx hb dX3_fillFromChannels_18 rfl (lv_at hl 1 rfl) ?_
    refine gg_X3_70 G hW (by decide) dX3_fillFromChannels_19 ?_
    refine lv_icmp_ge (tgt := 120) hx hb dX3_fillFromChannels_22 (by decide) (fun hc => ?_) (fun hc => ?_)
    · replace hF := o_t hc hF
      exact g_vret G hW hF dX3_fillFromChannels_120
    · replace hF := o_f hc hF
      refine lv_aload_n hx hb dX3_fillFromChannels_25 rfl (lv_at hl 1 rfl) ?_
      refine gg_X3_73 G hW (by decide) dX3_fillFromChannels_26 ?_
      refine lv_iload hx hb dX3_fillFromChannels_29 (lv_at hl 5 rfl) ?_
      obtain ⟨x1, hx1, hF⟩ := o_b hF
      refine g_aP (φ := 8) (ψ := 5) G rfl rfl (by decide) (ety := (.object "RegionRestarts$Channel")) rfl rfl (fun _ => rfl) hW (by decide) hx1 dX3_fillFromChannels_31 ?_
      refine lv_astore (lv' := [(6, .ref (α 5 x1)), (0, .ref (α 2 0)), (1, .ref (α 1 0)), (2, .int v2), (3, .ref (α 4 a3)), (4, .int v4), (5, .int v5)]) hx hb dX3_fillFromChannels_32 hl (by decide) rfl (fun ls hl => ?_)
      refine lv_aload hx hb dX3_fillFromChannels_34 (lv_at hl 0 rfl) ?_
      refine gg_X3_76 G hW (aP_lt hx1) dX3_fillFromChannels_36 ?_
      refine lv_iload_n hx hb dX3_fillFromChannels_39 rfl (lv_at hl 3 rfl) ?_
      refine lv_icmp_ne (tgt := 114) hx hb dX3_fillFromChannels_40 (by decide) (fun hc => ?_) (fun hc => ?_)
      · replace hF := o_f hc hF
        exact w_X3_fillFromChannels_114 G (f_X3_fillFromChannels_16 n) ih _ _ ha3 _ _ _ hF H locs ls hW (lv_sub hl [1, 2, 3, 4, 5, 6] rfl)
      · replace hF := o_t hc hF
        refine lv_aload hx hb dX3_fillFromChannels_43 (lv_at hl 0 rfl) ?_
        refine gg_X3_81 G hW (aP_lt hx1) dX3_fillFromChannels_45 ?_
        refine lv_istore (lv' := [(7, .int (σ.1 5 x1 6)), (6, .ref (α 5 x1)), (0, .ref (α 2 0)), (1, .ref (α 1 0)), (2, .int v2), (3, .ref (α 4 a3)), (4, .int v4), (5, .int v5)]) hx hb dX3_fillFromChannels_48 hl (by decide) rfl (fun ls hl => ?_)
        exact w_X3_fillFromChannels_50 G (f_X3_fillFromChannels_16 n) ih 1000 _ _ ha3 _ _ _ (aP_lt hx1) _ _ hF H locs ls hW (lv_sub hl [2, 3, 4, 5, 6, 7, 1, 0] rfl)
set_option maxHeartbeats 4000000 in
set_option maxRecDepth 100000 in
theorem w_X3_fillFromChannels_0 (G : gx p s m meth c args cX3_fillFromChannels 8 none RX3 "fillFromChannels" D dA) {σz : sm_M} : ∀ (v2 : Int32) (σ : sm_M), f_X3_fillFromChannels v2 σ = some σz → ∀ (H : Heap) (locs : List Loc) (ls : Array Slot), Wd D dA 0 α s.heap σ H locs → lv_has ls 8 [(0, .ref (α 2 0)), (1, .ref (α 1 0)), (2, .int v2)] → gW 4 p l e s m args below meth c D dA 0 α none σz H locs (F0 m 0 ls []) := by
  obtain ⟨hx, hb, hr, hlk, hml, hown, hnm, hts, hK, hNw⟩ := id G
  intro v2 σ hF H locs ls hW hl
  rw [f_X3_fillFromChannels] at hF
  refine lv_aload_n hx hb dX3_fillFromChannels_0 rfl (lv_at hl 1 rfl) ?_
  refine gg_X3_35 G hW (by decide) dX3_fillFromChannels_1 ?_
  refine lv_iload_n hx hb dX3_fillFromChannels_4 rfl (lv_at hl 2 rfl) ?_
  obtain ⟨x1, hx1, hF⟩ := o_b hF
  refine g_aP (φ := 7) (ψ := 4) G rfl rfl (by decide) (ety := (.object "RegionRestarts$Task")) rfl rfl (fun _ => rfl) hW (by decide) hx1 dX3_fillFromChannels_5 ?_
  refine lv_astore_n (lv' := [(3, .ref (α 4 x1)), (0, .ref (α 2 0)), (1, .ref (α 1 0)), (2, .int v2)]) hx hb dX3_fillFromChannels_6 rfl hl (by decide) rfl (fun ls hl => ?_)
  refine lv_aload_n hx hb dX3_fillFromChannels_7 rfl (lv_at hl 2 rfl) ?_
  obtain ⟨q2, hq2, hF⟩ := o_b hF
  refine kk_X3_66 G hW hq2 hl.1 ⟨Nat.le_of_ble_eq_true rfl, Nat.le_of_ble_eq_true rfl⟩ ⟨Nat.le_refl _, Nat.le_refl _⟩ (Nat.le_of_ble_eq_true rfl) dX3_fillFromChannels_8 (fun H locs hW => ?_)
  refine lv_istore (lv' := [(4, .int q2.1), (3, .ref (α 4 x1)), (0, .ref (α 2 0)), (1, .ref (α 1 0)), (2, .int v2)]) hx hb dX3_fillFromChannels_11 hl (by decide) rfl (fun ls hl => ?_)
  refine lv_iconst (v := 0) hx hb dX3_fillFromChannels_13 (by decide) ?_
  refine lv_istore (lv' := [(5, .int (0 : Int32)), (4, .int q2.1), (3, .ref (α 4 x1)), (0, .ref (α 2 0)), (1, .ref (α 1 0)), (2, .int v2)]) hx hb dX3_fillFromChannels_14 hl (by decide) rfl (fun ls hl => ?_)
  exact w_X3_fillFromChannels_16 G 1000 _ _ (aP_lt hx1) _ _ _ hF H locs ls hW (lv_sub hl [3, 4, 5, 2, 1, 0] rfl)
end WX3_fillFromChannels
theorem c_X3_fillFromChannels {l : Launch} {D : va_G} {dA : Nat → ClassId} {α : Nat → Nat → Nat} (hI : Inj 0 α) {v2 : Int32} {σ σz : sm_M} (hF : f_X3_fillFromChannels v2 σ = some σz) : gM l D dA 0 α yX3_fillFromChannels cX3_fillFromChannels 8 none 4 [.ref (α 2 0), .ref (α 1 0), .int v2] σ none σz :=
  g_met hI (by decide +kernel) (Nat.le_of_ble_eq_true rfl) (fun p e s m below meth c ls G hW hl => w_X3_fillFromChannels_0 G _ _ hF _ _ _ hW hl)
section KX3_fillFromChannels
variable {p : Program} {l : Launch} {e : Env} {R : Room} {s : State} {m : MethodId} {args : Array Value} {below : List Frame} {meth : Method} {c : Code} {H : Heap} {locs : List Loc} {cells slots : Nat} {Q : State → Prop}
variable {cc : ByteArray} {pc nL Z : Nat} {ls : Array Slot} {rest : List Value} {D : va_G} {dA : Nat → ClassId} {α : Nat → Nat → Nat} {H0 : Heap} {σ σ' : sm_M} {ret : Option FieldType} {own nm : String}
theorem kk_X3_48 (G : gx p s m meth c args cc nL ret RX3 nm D dA) (hW : Wd D dA 0 α H0 σ H locs) {v2 : Int32} {q : sm_M} (hq : f_X3_fillFromChannels v2 σ = some q) (hls : ls.size = nL) (hR : 4 + 1 ≤ R.frames ∧ 8 + (8 + 11) + 44 * 4 ≤ R.locals) (hf : cells ≤ R.cells ∧ slots ≤ R.slots) (hcat : (rest.map fun v => v.category).sum ≤ 8) (hdg : decode cc pc = .ok (.invokevirtual 48, 3)) (kk : ∀ (H1 : Heap) (locs1 : List Loc), Wd D dA 0 α H0 q H1 locs1 → W p l e R s m args below meth c H1 locs1 cells slots Q (F0 m (pc + 3) ls rest)) : W p l e R s m args below meth c H locs cells slots Q (F0 m pc ls (.int v2 :: .ref (α 1 0) :: .ref (α 2 0) :: rest)) :=
  g_cV (n := 2) G (c_X3_fillFromChannels (l := l) hW.2.2.2 hq) ⟨wm_13_17, wm_13_18, wm_13_19, wm_1_18, wm_13_20⟩ (by decide +kernel) hW (g_recv (φ := 2) (ci := 3) G.2.2.2.2.2.2.2.2.1 rfl rfl rfl (by decide) hW.1 rfl) hR hf rfl hls rfl hcat hdg kk
end KX3_fillFromChannels
section WX3_fill
variable {p : Program} {l : Launch} {e : Env} {s : State} {m : MethodId} {args : Array Value} {below : List Frame} {meth : Method} {c : Code} {D : va_G} {dA : Nat → ClassId} {α : Nat → Nat → Nat}
set_option maxHeartbeats 4000000 in
set_option maxRecDepth 100000 in
theorem w_X3_fill_0 (G : gx p s m meth c args cX3_fill 3 none RX3 "fill" D dA) {σz : sm_M} : ∀ (v2 : Int32) (σ : sm_M), f_X3_fill v2 σ = some σz → ∀ (H : Heap) (locs : List Loc) (ls : Array Slot), Wd D dA 0 α s.heap σ H locs → lv_has ls 3 [(0, .ref (α 2 0)), (1, .ref (α 1 0)), (2, .int v2)] → gW 5 p l e s m args below meth c D dA 0 α none σz H locs (F0 m 0 ls []) := by
  obtain ⟨hx, hb, hr, hlk, hml, hown, hnm, hts, hK, hNw⟩ := id G
  intro v2 σ hF H locs ls hW hl
  rw [f_X3_fill] at hF
  refine lv_aload_n hx hb dX3_fill_0 rfl (lv_at hl 0 rfl) ?_
  refine lv_iconst (v := 0) hx hb dX3_fill_1 (by decide) ?_
  obtain ⟨σ1, hσ1, hF⟩ := o_b hF
  refine pp_X3_18 G hW (by decide) hσ1 dX3_fill_2 (fun H locs hW => ?_)
  refine lv_aload_n hx hb dX3_fill_5 rfl (lv_at hl 0 rfl) ?_
  refine lv_iconst (v := 0) hx hb dX3_fill_6 (by decide) ?_
  obtain ⟨σ2, hσ2, hF⟩ := o_b hF
  refine pp_X3_22 G hW (by decide) hσ2 dX3_fill_7 (fun H locs hW => ?_)
  refine lv_aload_n hx hb dX3_fill_10 rfl (lv_at hl 0 rfl) ?_
  refine lv_aload_n hx hb dX3_fill_11 rfl (lv_at hl 1 rfl) ?_
  refine lv_iload_n hx hb dX3_fill_12 rfl (lv_at hl 2 rfl) ?_
  obtain ⟨q3, hq3, hF⟩ := o_b hF
  refine kk_X3_26 G hW hq3 hl.1 ⟨Nat.le_of_ble_eq_true rfl, Nat.le_of_ble_eq_true rfl⟩ ⟨Nat.le_refl _, Nat.le_refl _⟩ (Nat.le_of_ble_eq_true rfl) dX3_fill_13 (fun H locs hW => ?_)
  obtain ⟨σ4, hσ4, hF⟩ := o_b hF
  refine pp_X3_32 G hW (by decide) hσ4 dX3_fill_16 (fun H locs hW => ?_)
  refine lv_aload_n hx hb dX3_fill_19 rfl (lv_at hl 1 rfl) ?_
  refine gg_X3_35 G hW (by decide) dX3_fill_20 ?_
  refine lv_iload_n hx hb dX3_fill_23 rfl (lv_at hl 2 rfl) ?_
  obtain ⟨x5, hx5, hF⟩ := o_b hF
  refine g_aP (φ := 7) (ψ := 4) G rfl rfl (by decide) (ety := (.object "RegionRestarts$Task")) rfl rfl (fun _ => rfl) hW (by decide) hx5 dX3_fill_24 ?_
  refine gg_X3_39 G hW (aP_lt hx5) dX3_fill_25 ?_
  refine lv_if_ne (tgt := 45) hx hb dX3_fill_28 (by decide) (fun hc => ?_) (fun hc => ?_)
  · replace hF := o_f hc hF
    refine lv_aload_n hx hb dX3_fill_45 rfl (lv_at hl 0 rfl) ?_
    refine lv_aload_n hx hb dX3_fill_46 rfl (lv_at hl 1 rfl) ?_
    refine lv_iload_n hx hb dX3_fill_47 rfl (lv_at hl 2 rfl) ?_
    obtain ⟨q6, hq6, hF⟩ := o_b hF
    refine kk_X3_48 G hW hq6 hl.1 ⟨Nat.le_of_ble_eq_true rfl, Nat.le_of_ble_eq_true rfl⟩ ⟨Nat.le_refl _, Nat.le_refl _⟩ (Nat.le_of_ble_eq_true rfl) dX3_fill_48 (fun H locs hW => ?_)
    exact g_vret G hW hF dX3_fill_51
  · replace hF := o_t hc hF
    refine lv_aload_n hx hb dX3_fill_31 rfl (lv_at hl 0 rfl) ?_
    refine lv_aload_n hx hb dX3_fill_32 rfl (lv_at hl 1 rfl) ?_
    refine gg_X3_35 G hW (by decide) dX3_fill_33 ?_
    refine lv_iload_n hx hb dX3_fill_36 rfl (lv_at hl 2 rfl) ?_
    obtain ⟨x7, hx7, hF⟩ := o_b hF
    refine g_aP (φ := 7) (ψ := 4) G rfl rfl (by decide) (ety := (.object "RegionRestarts$Task")) rfl rfl (fun _ => rfl) hW (by decide) hx7 dX3_fill_37 ?_
    refine lv_iload_n hx hb dX3_fill_38 rfl (lv_at hl 2 rfl) ?_
    obtain ⟨q8, hq8, hF⟩ := o_b hF
    refine kk_X3_44 G hW (aP_lt hx7) hq8 hl.1 ⟨Nat.le_of_ble_eq_true rfl, Nat.le_of_ble_eq_true rfl⟩ ⟨Nat.le_refl _, Nat.le_refl _⟩ (Nat.le_of_ble_eq_true rfl) dX3_fill_39 (fun H locs hW => ?_)
    refine lv_goto (tgt := 51) hx hb dX3_fill_42 (by decide) ?_
    exact g_vret G hW hF dX3_fill_51
end WX3_fill
theorem c_X3_fill {l : Launch} {D : va_G} {dA : Nat → ClassId} {α : Nat → Nat → Nat} (hI : Inj 0 α) {v2 : Int32} {σ σz : sm_M} (hF : f_X3_fill v2 σ = some σz) : gM l D dA 0 α yX3_fill cX3_fill 3 none 5 [.ref (α 2 0), .ref (α 1 0), .int v2] σ none σz :=
  g_met hI (by decide +kernel) (Nat.le_of_ble_eq_true rfl) (fun p e s m below meth c ls G hW hl => w_X3_fill_0 G _ _ hF _ _ _ hW hl)
section KX3_fill
variable {p : Program} {l : Launch} {e : Env} {R : Room} {s : State} {m : MethodId} {args : Array Value} {below : List Frame} {meth : Method} {c : Code} {H : Heap} {locs : List Loc} {cells slots : Nat} {Q : State → Prop}
variable {cc : ByteArray} {pc nL Z : Nat} {ls : Array Slot} {rest : List Value} {D : va_G} {dA : Nat → ClassId} {α : Nat → Nat → Nat} {H0 : Heap} {σ σ' : sm_M} {ret : Option FieldType} {own nm : String}
theorem kk_X5_95 (G : gx p s m meth c args cc nL ret RX5 nm D dA) (hW : Wd D dA 0 α H0 σ H locs) {v2 : Int32} {q : sm_M} (hq : f_X3_fill v2 σ = some q) (hls : ls.size = nL) (hR : 5 + 1 ≤ R.frames ∧ 8 + (3 + 11) + 44 * 5 ≤ R.locals) (hf : cells ≤ R.cells ∧ slots ≤ R.slots) (hcat : (rest.map fun v => v.category).sum ≤ 8) (hdg : decode cc pc = .ok (.invokevirtual 95, 3)) (kk : ∀ (H1 : Heap) (locs1 : List Loc), Wd D dA 0 α H0 q H1 locs1 → W p l e R s m args below meth c H1 locs1 cells slots Q (F0 m (pc + 3) ls rest)) : W p l e R s m args below meth c H locs cells slots Q (F0 m pc ls (.int v2 :: .ref (α 1 0) :: .ref (α 2 0) :: rest)) :=
  g_cV (n := 2) G (c_X3_fill (l := l) hW.2.2.2 hq) ⟨wm_11_17, wm_11_18, wm_11_19, wm_1_18, wm_11_20⟩ (by decide +kernel) hW (g_recv (φ := 2) (ci := 3) G.2.2.2.2.2.2.2.2.1 rfl rfl rfl (by decide) hW.1 rfl) hR hf rfl hls rfl hcat hdg kk
end KX3_fill
section WX4_narrowAfterThrow
variable {p : Program} {l : Launch} {e : Env} {s : State} {m : MethodId} {args : Array Value} {below : List Frame} {meth : Method} {c : Code} {D : va_G} {dA : Nat → ClassId} {α : Nat → Nat → Nat}
set_option maxHeartbeats 4000000 in
set_option maxRecDepth 100000 in
theorem w_X4_narrowAfterThrow_0 (G : gx p s m meth c args cX4_narrowAfterThrow 2 none RX4 "narrowAfterThrow" D dA) {σz : sm_M} : ∀ (a0 : Nat) (ha0 : a0 < fN 4) (v1 : Int32) (σ : sm_M), f_X4_narrowAfterThrow a0 v1 σ = some σz → ∀ (H : Heap) (locs : List Loc) (ls : Array Slot), Wd D dA 0 α s.heap σ H locs → lv_has ls 2 [(0, .ref (α 4 a0)), (1, .int v1)] → gW 0 p l e s m args below meth c D dA 0 α none σz H locs (F0 m 0 ls []) := by
  obtain ⟨hx, hb, hr, hlk, hml, hown, hnm, hts, hK, hNw⟩ := id G
  intro a0 ha0 v1 σ hF H locs ls hW hl
  rw [f_X4_narrowAfterThrow] at hF
  refine lv_aload_n hx hb dX4_narrowAfterThrow_0 rfl (lv_at hl 0 rfl) ?_
  refine gg_X4_34 G hW ha0 dX4_narrowAfterThrow_1 ?_
  refine lv_iconst (v := 1) hx hb dX4_narrowAfterThrow_4 (by decide) ?_
  refine lv_icmp_le (tgt := 21) hx hb dX4_narrowAfterThrow_5 (by decide) (fun hc => ?_) (fun hc => ?_)
  · replace hF := o_t hc hF
    refine lv_iload_n hx hb dX4_narrowAfterThrow_21 rfl (lv_at hl 1 rfl) ?_
    refine lv_if_eq (tgt := 63) hx hb dX4_narrowAfterThrow_22 (by decide) (fun hc => ?_) (fun hc => ?_)
    · replace hF := o_t hc hF
      exact g_vret G hW hF dX4_narrowAfterThrow_63
    · replace hF := o_f hc hF
      refine lv_aload_n hx hb dX4_narrowAfterThrow_25 rfl (lv_at hl 0 rfl) ?_
      refine gg_X4_43 G hW ha0 dX4_narrowAfterThrow_26 ?_
      refine lv_bipush (v := 8) hx hb dX4_narrowAfterThrow_29 (by decide) ?_
      refine lv_icmp_ge (tgt := 63) hx hb dX4_narrowAfterThrow_31 (by decide) (fun hc => ?_) (fun hc => ?_)
      · replace hF := o_t hc hF
        exact g_vret G hW hF dX4_narrowAfterThrow_63
      · replace hF := o_f hc hF
        refine lv_aload_n hx hb dX4_narrowAfterThrow_34 rfl (lv_at hl 0 rfl) ?_
        refine gg_X4_15 G hW ha0 dX4_narrowAfterThrow_35 ?_
        refine lv_aload_n hx hb dX4_narrowAfterThrow_38 rfl (lv_at hl 0 rfl) ?_
        refine gg_X4_43 G hW ha0 dX4_narrowAfterThrow_39 ?_
        refine lv_aload_n hx hb dX4_narrowAfterThrow_42 rfl (lv_at hl 0 rfl) ?_
        refine gg_X4_46 G hW ha0 dX4_narrowAfterThrow_43 ?_
        obtain ⟨σ1, hσ1, hF⟩ := o_b hF
        refine g_uI (φ := 15) G rfl rfl (by decide) rfl hW ha0 hσ1 dX4_narrowAfterThrow_46 (fun H locs hW => ?_)
        refine lv_aload_n hx hb dX4_narrowAfterThrow_47 rfl (lv_at hl 0 rfl) ?_
        refine lv_dup hx hb dX4_narrowAfterThrow_48 rfl ?_
        refine gg_X4_43 G hW ha0 dX4_narrowAfterThrow_49 ?_
        refine lv_iconst (v := 1) hx hb dX4_narrowAfterThrow_52 (by decide) ?_
        refine lv_iadd hx hb dX4_narrowAfterThrow_53 ?_
        obtain ⟨σ2, hσ2, hF⟩ := o_b hF
        refine pp_X4_43 G hW ha0 hσ2 dX4_narrowAfterThrow_54 (fun H locs hW => ?_)
        refine lv_aload_n hx hb dX4_narrowAfterThrow_57 rfl (lv_at hl 0 rfl) ?_
        refine lv_bipush (v := 8) hx hb dX4_narrowAfterThrow_58 (by decide) ?_
        obtain ⟨σ3, hσ3, hF⟩ := o_b hF
        refine pp_X4_34 G hW ha0 hσ3 dX4_narrowAfterThrow_60 (fun H locs hW => ?_)
        exact g_vret G hW hF dX4_narrowAfterThrow_63
  · replace hF := o_f hc hF
    refine lv_aload_n hx hb dX4_narrowAfterThrow_8 rfl (lv_at hl 0 rfl) ?_
    refine lv_aload_n hx hb dX4_narrowAfterThrow_9 rfl (lv_at hl 0 rfl) ?_
    refine gg_X4_34 G hW ha0 dX4_narrowAfterThrow_10 ?_
    refine lv_iconst (v := 2) hx hb dX4_narrowAfterThrow_13 (by decide) ?_
    obtain ⟨hd, hF⟩ := o_n hF
    refine lv_idiv hx hb dX4_narrowAfterThrow_14 hd ?_
    obtain ⟨σ4, hσ4, hF⟩ := o_b hF
    refine pp_X4_34 G hW ha0 hσ4 dX4_narrowAfterThrow_15 (fun H locs hW => ?_)
    refine lv_goto (tgt := 63) hx hb dX4_narrowAfterThrow_18 (by decide) ?_
    exact g_vret G hW hF dX4_narrowAfterThrow_63
end WX4_narrowAfterThrow
theorem c_X4_narrowAfterThrow {l : Launch} {D : va_G} {dA : Nat → ClassId} {α : Nat → Nat → Nat} (hI : Inj 0 α) {a0 : Nat} (ha0 : a0 < fN 4) {v1 : Int32} {σ σz : sm_M} (hF : f_X4_narrowAfterThrow a0 v1 σ = some σz) : gM l D dA 0 α yX4_narrowAfterThrow cX4_narrowAfterThrow 2 none 0 [.ref (α 4 a0), .int v1] σ none σz :=
  g_met hI (by decide +kernel) (Nat.le_of_ble_eq_true rfl) (fun p e s m below meth c ls G hW hl => w_X4_narrowAfterThrow_0 G _ ha0 _ _ hF _ _ _ hW hl)
section KX4_narrowAfterThrow
variable {p : Program} {l : Launch} {e : Env} {R : Room} {s : State} {m : MethodId} {args : Array Value} {below : List Frame} {meth : Method} {c : Code} {H : Heap} {locs : List Loc} {cells slots : Nat} {Q : State → Prop}
variable {cc : ByteArray} {pc nL Z : Nat} {ls : Array Slot} {rest : List Value} {D : va_G} {dA : Nat → ClassId} {α : Nat → Nat → Nat} {H0 : Heap} {σ σ' : sm_M} {ret : Option FieldType} {own nm : String}
theorem kk_X5_102 (G : gx p s m meth c args cc nL ret RX5 nm D dA) (hW : Wd D dA 0 α H0 σ H locs) {a0 : Nat} (ha0 : a0 < fN 4) {v1 : Int32} {q : sm_M} (hq : f_X4_narrowAfterThrow a0 v1 σ = some q) (hls : ls.size = nL) (hR : 0 + 1 ≤ R.frames ∧ 8 + (2 + 11) + 44 * 0 ≤ R.locals) (hf : cells ≤ R.cells ∧ slots ≤ R.slots) (hcat : (rest.map fun v => v.category).sum ≤ 8) (hdg : decode cc pc = .ok (.invokevirtual 102, 3)) (kk : ∀ (H1 : Heap) (locs1 : List Loc), Wd D dA 0 α H0 q H1 locs1 → W p l e R s m args below meth c H1 locs1 cells slots Q (F0 m (pc + 3) ls rest)) : W p l e R s m args below meth c H locs cells slots Q (F0 m pc ls (.int v1 :: .ref (α 4 a0) :: rest)) :=
  g_cV (n := 1) G (c_X4_narrowAfterThrow (l := l) hW.2.2.2 ha0 hq) ⟨wm_14_22, wm_14_23, wm_15_0, wm_2_11, wm_15_1⟩ (by decide +kernel) hW (g_recv (φ := 4) (ci := 4) G.2.2.2.2.2.2.2.2.1 rfl rfl rfl ha0 hW.1 rfl) hR hf rfl hls rfl hcat hdg kk
end KX4_narrowAfterThrow
section WX4_putOut
variable {p : Program} {l : Launch} {e : Env} {s : State} {m : MethodId} {args : Array Value} {below : List Frame} {meth : Method} {c : Code} {D : va_G} {dA : Nat → ClassId} {α : Nat → Nat → Nat}
set_option maxHeartbeats 4000000 in
set_option maxRecDepth 100000 in
theorem w_X4_putOut_0 (G : gx p s m meth c args cX4_putOut 2 none RX4 "putOut" D dA) {σz : sm_M} : ∀ (a0 : Nat) (ha0 : a0 < fN 4) (v1 : Int32) (σ : sm_M), f_X4_putOut a0 v1 σ = some σz → ∀ (H : Heap) (locs : List Loc) (ls : Array Slot), Wd D dA 0 α s.heap σ H locs → lv_has ls 2 [(0, .ref (α 4 a0)), (1, .int v1)] → gW 0 p l e s m args below meth c D dA 0 α none σz H locs (F0 m 0 ls []) := by
  obtain ⟨hx, hb, hr, hlk, hml, hown, hnm, hts, hK, hNw⟩ := id G
  intro a0 ha0 v1 σ hF H locs ls hW hl
  rw [f_X4_putOut] at hF
  refine lv_aload_n hx hb dX4_putOut_0 rfl (lv_at hl 0 rfl) ?_
  refine gg_X4_52 G hW ha0 dX4_putOut_1 ?_
  refine lv_sipush (v := 200) hx hb dX4_putOut_4 (by decide) ?_
  refine lv_icmp_ge (tgt := 30) hx hb dX4_putOut_7 (by decide) (fun hc => ?_) (fun hc => ?_)
  · replace hF := o_t hc hF
    exact g_vret G hW hF dX4_putOut_30
  · replace hF := o_f hc hF
    refine lv_aload_n hx hb dX4_putOut_10 rfl (lv_at hl 0 rfl) ?_
    refine gg_X4_9 G hW ha0 dX4_putOut_11 ?_
    refine lv_aload_n hx hb dX4_putOut_14 rfl (lv_at hl 0 rfl) ?_
    refine gg_X4_52 G hW ha0 dX4_putOut_15 ?_
    refine lv_iload_n hx hb dX4_putOut_18 rfl (lv_at hl 1 rfl) ?_
    obtain ⟨σ1, hσ1, hF⟩ := o_b hF
    refine g_uI (φ := 14) G rfl rfl (by decide) rfl hW ha0 hσ1 dX4_putOut_19 (fun H locs hW => ?_)
    refine lv_aload_n hx hb dX4_putOut_20 rfl (lv_at hl 0 rfl) ?_
    refine lv_dup hx hb dX4_putOut_21 rfl ?_
    refine gg_X4_52 G hW ha0 dX4_putOut_22 ?_
    refine lv_iconst (v := 1) hx hb dX4_putOut_25 (by decide) ?_
    refine lv_iadd hx hb dX4_putOut_26 ?_
    obtain ⟨σ2, hσ2, hF⟩ := o_b hF
    refine pp_X4_52 G hW ha0 hσ2 dX4_putOut_27 (fun H locs hW => ?_)
    exact g_vret G hW hF dX4_putOut_30
end WX4_putOut
theorem c_X4_putOut {l : Launch} {D : va_G} {dA : Nat → ClassId} {α : Nat → Nat → Nat} (hI : Inj 0 α) {a0 : Nat} (ha0 : a0 < fN 4) {v1 : Int32} {σ σz : sm_M} (hF : f_X4_putOut a0 v1 σ = some σz) : gM l D dA 0 α yX4_putOut cX4_putOut 2 none 0 [.ref (α 4 a0), .int v1] σ none σz :=
  g_met hI (by decide +kernel) (Nat.le_of_ble_eq_true rfl) (fun p e s m below meth c ls G hW hl => w_X4_putOut_0 G _ ha0 _ _ hF _ _ _ hW hl)
section KX4_putOut
variable {p : Program} {l : Launch} {e : Env} {R : Room} {s : State} {m : MethodId} {args : Array Value} {below : List Frame} {meth : Method} {c : Code} {H : Heap} {locs : List Loc} {cells slots : Nat} {Q : State → Prop}
variable {cc : ByteArray} {pc nL Z : Nat} {ls : Array Slot} {rest : List Value} {D : va_G} {dA : Nat → ClassId} {α : Nat → Nat → Nat} {H0 : Heap} {σ σ' : sm_M} {ret : Option FieldType} {own nm : String}
theorem kk_X5_273 (G : gx p s m meth c args cc nL ret RX5 nm D dA) (hW : Wd D dA 0 α H0 σ H locs) {a0 : Nat} (ha0 : a0 < fN 4) {v1 : Int32} {q : sm_M} (hq : f_X4_putOut a0 v1 σ = some q) (hls : ls.size = nL) (hR : 0 + 1 ≤ R.frames ∧ 8 + (2 + 11) + 44 * 0 ≤ R.locals) (hf : cells ≤ R.cells ∧ slots ≤ R.slots) (hcat : (rest.map fun v => v.category).sum ≤ 8) (hdg : decode cc pc = .ok (.invokevirtual 273, 3)) (kk : ∀ (H1 : Heap) (locs1 : List Loc), Wd D dA 0 α H0 q H1 locs1 → W p l e R s m args below meth c H1 locs1 cells slots Q (F0 m (pc + 3) ls rest)) : W p l e R s m args below meth c H locs cells slots Q (F0 m pc ls (.int v1 :: .ref (α 4 a0) :: rest)) :=
  g_cV (n := 1) G (c_X4_putOut (l := l) hW.2.2.2 ha0 hq) ⟨wm_19_1, wm_19_2, wm_19_3, wm_2_11, wm_19_4⟩ (by decide +kernel) hW (g_recv (φ := 4) (ci := 4) G.2.2.2.2.2.2.2.2.1 rfl rfl rfl ha0 hW.1 rfl) hR hf rfl hls rfl hcat hdg kk
end KX4_putOut
section WX5_isNode
variable {p : Program} {l : Launch} {e : Env} {s : State} {m : MethodId} {args : Array Value} {below : List Frame} {meth : Method} {c : Code} {D : va_G} {dA : Nat → ClassId} {α : Nat → Nat → Nat}
set_option maxHeartbeats 4000000 in
set_option maxRecDepth 100000 in
theorem w_X5_isNode_14 (G : gx p s m meth c args cX5_isNode 1 (some .boolean) RX5 "isNode" D dA) {r : Int32} {σz : sm_M} : ∀ (s0 : Int32) (σ : sm_M), f_X5_isNode_14 s0 σ = some (r, σz) → ∀ (H : Heap) (locs : List Loc) (ls : Array Slot), Wd D dA 0 α s.heap σ H locs → lv_has ls 1 [] → gW 0 p l e s m args below meth c D dA 0 α (some (.int r)) σz H locs (F0 m 14 ls [.int s0]) := by
  obtain ⟨hx, hb, hr, hlk, hml, hown, hnm, hts, hK, hNw⟩ := id G
  intro s0 σ hF H locs ls hW hl
  rw [f_X5_isNode_14] at hF
  exact g_zret G hW hF dX5_isNode_14
set_option maxHeartbeats 4000000 in
set_option maxRecDepth 100000 in
theorem w_X5_isNode_13 (G : gx p s m meth c args cX5_isNode 1 (some .boolean) RX5 "isNode" D dA) {r : Int32} {σz : sm_M} : ∀ (σ : sm_M), f_X5_isNode_13 σ = some (r, σz) → ∀ (H : Heap) (locs : List Loc) (ls : Array Slot), Wd D dA 0 α s.heap σ H locs → lv_has ls 1 [] → gW 0 p l e s m args below meth c D dA 0 α (some (.int r)) σz H locs (F0 m 13 ls []) := by
  obtain ⟨hx, hb, hr, hlk, hml, hown, hnm, hts, hK, hNw⟩ := id G
  intro σ hF H locs ls hW hl
  rw [f_X5_isNode_13] at hF
  refine lv_iconst (v := 0) hx hb dX5_isNode_13 (by decide) ?_
  exact w_X5_isNode_14 G _ _ hF H locs ls hW (lv_sub hl [] rfl)
set_option maxHeartbeats 4000000 in
set_option maxRecDepth 100000 in
theorem w_X5_isNode_0 (G : gx p s m meth c args cX5_isNode 1 (some .boolean) RX5 "isNode" D dA) {r : Int32} {σz : sm_M} : ∀ (v0 : Int32) (σ : sm_M), f_X5_isNode v0 σ = some (r, σz) → ∀ (H : Heap) (locs : List Loc) (ls : Array Slot), Wd D dA 0 α s.heap σ H locs → lv_has ls 1 [(0, .int v0)] → gW 0 p l e s m args below meth c D dA 0 α (some (.int r)) σz H locs (F0 m 0 ls []) := by
  obtain ⟨hx, hb, hr, hlk, hml, hown, hnm, hts, hK, hNw⟩ := id G
  intro v0 σ hF H locs ls hW hl
  rw [f_X5_isNode] at hF
  refine lv_iload_n hx hb dX5_isNode_0 rfl (lv_at hl 0 rfl) ?_
  refine lv_if_lt (tgt := 13) hx hb dX5_isNode_1 (by decide) (fun hc => ?_) (fun hc => ?_)
  · replace hF := o_t hc hF
    exact w_X5_isNode_13 G  _ hF H locs ls hW (lv_sub hl [] rfl)
  · replace hF := o_f hc hF
    refine lv_iload_n hx hb dX5_isNode_4 rfl (lv_at hl 0 rfl) ?_
    refine lv_iconst (v := 4) hx hb dX5_isNode_5 (by decide) ?_
    refine lv_icmp_ge (tgt := 13) hx hb dX5_isNode_6 (by decide) (fun hc => ?_) (fun hc => ?_)
    · replace hF := o_t hc hF
      exact w_X5_isNode_13 G  _ hF H locs ls hW (lv_sub hl [] rfl)
    · replace hF := o_f hc hF
      refine lv_iconst (v := 1) hx hb dX5_isNode_9 (by decide) ?_
      refine lv_goto (tgt := 14) hx hb dX5_isNode_10 (by decide) ?_
      exact w_X5_isNode_14 G _ _ hF H locs ls hW (lv_sub hl [] rfl)
end WX5_isNode
theorem c_X5_isNode {l : Launch} {D : va_G} {dA : Nat → ClassId} {α : Nat → Nat → Nat} (hI : Inj 0 α) {v0 : Int32} {σ σz : sm_M} {r : Int32} (hF : f_X5_isNode v0 σ = some (r, σz)) : gM l D dA 0 α yX5_isNode cX5_isNode 1 (some .boolean) 0 [.int v0] σ (some (.int r)) σz :=
  g_met hI (by decide +kernel) (Nat.le_of_ble_eq_true rfl) (fun p e s m below meth c ls G hW hl => w_X5_isNode_0 G _ _ hF _ _ _ hW hl)
section KX5_isNode
variable {p : Program} {l : Launch} {e : Env} {R : Room} {s : State} {m : MethodId} {args : Array Value} {below : List Frame} {meth : Method} {c : Code} {H : Heap} {locs : List Loc} {cells slots : Nat} {Q : State → Prop}
variable {cc : ByteArray} {pc nL Z : Nat} {ls : Array Slot} {rest : List Value} {D : va_G} {dA : Nat → ClassId} {α : Nat → Nat → Nat} {H0 : Heap} {σ σ' : sm_M} {ret : Option FieldType} {own nm : String}
theorem kk_X5_37 (G : gx p s m meth c args cc nL ret RX5 nm D dA) (hW : Wd D dA 0 α H0 σ H locs) {v0 : Int32} {q : Int32 × sm_M} (hq : f_X5_isNode v0 σ = some q) (hls : ls.size = nL) (hR : 0 + 1 ≤ R.frames ∧ 8 + (1 + 11) + 44 * 0 ≤ R.locals) (hf : cells ≤ R.cells ∧ slots ≤ R.slots) (hcat : (rest.map fun v => v.category).sum ≤ 8) (hdg : decode cc pc = .ok (.invokestatic 37, 3)) (kk : ∀ (H1 : Heap) (locs1 : List Loc), Wd D dA 0 α H0 q.2 H1 locs1 → W p l e R s m args below meth c H1 locs1 cells slots Q (F0 m (pc + 3) ls (.int q.1 :: rest))) : W p l e R s m args below meth c H locs cells slots Q (F0 m pc ls (.int v0 :: rest)) :=
  g_cS (n := 1) G (c_X5_isNode (l := l) hW.2.2.2 hq) ⟨wm_6_18, wm_6_19, wm_1_2, wm_6_20⟩ (by decide +kernel) hW hR hf rfl hls rfl hcat hdg kk
end KX5_isNode
section WX5_mayBe
variable {p : Program} {l : Launch} {e : Env} {s : State} {m : MethodId} {args : Array Value} {below : List Frame} {meth : Method} {c : Code} {D : va_G} {dA : Nat → ClassId} {α : Nat → Nat → Nat}
set_option maxHeartbeats 4000000 in
set_option maxRecDepth 100000 in
theorem w_X5_mayBe_93 (G : gx p s m meth c args cX5_mayBe 2 (some .boolean) RX5 "mayBe" D dA) {r : Int32} {σz : sm_M} : ∀ (s0 : Int32) (σ : sm_M), f_X5_mayBe_93 s0 σ = some (r, σz) → ∀ (H : Heap) (locs : List Loc) (ls : Array Slot), Wd D dA 0 α s.heap σ H locs → lv_has ls 2 [] → gW 0 p l e s m args below meth c D dA 0 α (some (.int r)) σz H locs (F0 m 93 ls [.int s0]) := by
  obtain ⟨hx, hb, hr, hlk, hml, hown, hnm, hts, hK, hNw⟩ := id G
  intro s0 σ hF H locs ls hW hl
  rw [f_X5_mayBe_93] at hF
  exact g_zret G hW hF dX5_mayBe_93
set_option maxHeartbeats 4000000 in
set_option maxRecDepth 100000 in
theorem w_X5_mayBe_92 (G : gx p s m meth c args cX5_mayBe 2 (some .boolean) RX5 "mayBe" D dA) {r : Int32} {σz : sm_M} : ∀ (σ : sm_M), f_X5_mayBe_92 σ = some (r, σz) → ∀ (H : Heap) (locs : List Loc) (ls : Array Slot), Wd D dA 0 α s.heap σ H locs → lv_has ls 2 [] → gW 0 p l e s m args below meth c D dA 0 α (some (.int r)) σz H locs (F0 m 92 ls []) := by
  obtain ⟨hx, hb, hr, hlk, hml, hown, hnm, hts, hK, hNw⟩ := id G
  intro σ hF H locs ls hW hl
  rw [f_X5_mayBe_92] at hF
  refine lv_iconst (v := 0) hx hb dX5_mayBe_92 (by decide) ?_
  exact w_X5_mayBe_93 G _ _ hF H locs ls hW (lv_sub hl [] rfl)
set_option maxHeartbeats 4000000 in
set_option maxRecDepth 100000 in
theorem w_X5_mayBe_77 (G : gx p s m meth c args cX5_mayBe 2 (some .boolean) RX5 "mayBe" D dA) {r : Int32} {σz : sm_M} : ∀ (s0 : Int32) (σ : sm_M), f_X5_mayBe_77 s0 σ = some (r, σz) → ∀ (H : Heap) (locs : List Loc) (ls : Array Slot), Wd D dA 0 α s.heap σ H locs → lv_has ls 2 [] → gW 0 p l e s m args below meth c D dA 0 α (some (.int r)) σz H locs (F0 m 77 ls [.int s0]) := by
  obtain ⟨hx, hb, hr, hlk, hml, hown, hnm, hts, hK, hNw⟩ := id G
  intro s0 σ hF H locs ls hW hl
  rw [f_X5_mayBe_77] at hF
  exact g_zret G hW hF dX5_mayBe_77
set_option maxHeartbeats 4000000 in
set_option maxRecDepth 100000 in
theorem w_X5_mayBe_76 (G : gx p s m meth c args cX5_mayBe 2 (some .boolean) RX5 "mayBe" D dA) {r : Int32} {σz : sm_M} : ∀ (σ : sm_M), f_X5_mayBe_76 σ = some (r, σz) → ∀ (H : Heap) (locs : List Loc) (ls : Array Slot), Wd D dA 0 α s.heap σ H locs → lv_has ls 2 [] → gW 0 p l e s m args below meth c D dA 0 α (some (.int r)) σz H locs (F0 m 76 ls []) := by
  obtain ⟨hx, hb, hr, hlk, hml, hown, hnm, hts, hK, hNw⟩ := id G
  intro σ hF H locs ls hW hl
  rw [f_X5_mayBe_76] at hF
  refine lv_iconst (v := 0) hx hb dX5_mayBe_76 (by decide) ?_
  exact w_X5_mayBe_77 G _ _ hF H locs ls hW (lv_sub hl [] rfl)
set_option maxHeartbeats 4000000 in
set_option maxRecDepth 100000 in
theorem w_X5_mayBe_61 (G : gx p s m meth c args cX5_mayBe 2 (some .boolean) RX5 "mayBe" D dA) {r : Int32} {σz : sm_M} : ∀ (s0 : Int32) (σ : sm_M), f_X5_mayBe_61 s0 σ = some (r, σz) → ∀ (H : Heap) (locs : List Loc) (ls : Array Slot), Wd D dA 0 α s.heap σ H locs → lv_has ls 2 [] → gW 0 p l e s m args below meth c D dA 0 α (some (.int r)) σz H locs (F0 m 61 ls [.int s0]) := by
  obtain ⟨hx, hb, hr, hlk, hml, hown, hnm, hts, hK, hNw⟩ := id G
  intro s0 σ hF H locs ls hW hl
  rw [f_X5_mayBe_61] at hF
  exact g_zret G hW hF dX5_mayBe_61
set_option maxHeartbeats 4000000 in
set_option maxRecDepth 100000 in
theorem w_X5_mayBe_60 (G : gx p s m meth c args cX5_mayBe 2 (some .boolean) RX5 "mayBe" D dA) {r : Int32} {σz : sm_M} : ∀ (σ : sm_M), f_X5_mayBe_60 σ = some (r, σz) → ∀ (H : Heap) (locs : List Loc) (ls : Array Slot), Wd D dA 0 α s.heap σ H locs → lv_has ls 2 [] → gW 0 p l e s m args below meth c D dA 0 α (some (.int r)) σz H locs (F0 m 60 ls []) := by
  obtain ⟨hx, hb, hr, hlk, hml, hown, hnm, hts, hK, hNw⟩ := id G
  intro σ hF H locs ls hW hl
  rw [f_X5_mayBe_60] at hF
  refine lv_iconst (v := 0) hx hb dX5_mayBe_60 (by decide) ?_
  exact w_X5_mayBe_61 G _ _ hF H locs ls hW (lv_sub hl [] rfl)
set_option maxHeartbeats 4000000 in
set_option maxRecDepth 100000 in
theorem w_X5_mayBe_43 (G : gx p s m meth c args cX5_mayBe 2 (some .boolean) RX5 "mayBe" D dA) {r : Int32} {σz : sm_M} : ∀ (s0 : Int32) (σ : sm_M), f_X5_mayBe_43 s0 σ = some (r, σz) → ∀ (H : Heap) (locs : List Loc) (ls : Array Slot), Wd D dA 0 α s.heap σ H locs → lv_has ls 2 [] → gW 0 p l e s m args below meth c D dA 0 α (some (.int r)) σz H locs (F0 m 43 ls [.int s0]) := by
  obtain ⟨hx, hb, hr, hlk, hml, hown, hnm, hts, hK, hNw⟩ := id G
  intro s0 σ hF H locs ls hW hl
  rw [f_X5_mayBe_43] at hF
  exact g_zret G hW hF dX5_mayBe_43
set_option maxHeartbeats 4000000 in
set_option maxRecDepth 100000 in
theorem w_X5_mayBe_42 (G : gx p s m meth c args cX5_mayBe 2 (some .boolean) RX5 "mayBe" D dA) {r : Int32} {σz : sm_M} : ∀ (σ : sm_M), f_X5_mayBe_42 σ = some (r, σz) → ∀ (H : Heap) (locs : List Loc) (ls : Array Slot), Wd D dA 0 α s.heap σ H locs → lv_has ls 2 [] → gW 0 p l e s m args below meth c D dA 0 α (some (.int r)) σz H locs (F0 m 42 ls []) := by
  obtain ⟨hx, hb, hr, hlk, hml, hown, hnm, hts, hK, hNw⟩ := id G
  intro σ hF H locs ls hW hl
  rw [f_X5_mayBe_42] at hF
  refine lv_iconst (v := 0) hx hb dX5_mayBe_42 (by decide) ?_
  exact w_X5_mayBe_43 G _ _ hF H locs ls hW (lv_sub hl [] rfl)
set_option maxHeartbeats 4000000 in
set_option maxRecDepth 100000 in
theorem w_X5_mayBe_0 (G : gx p s m meth c args cX5_mayBe 2 (some .boolean) RX5 "mayBe" D dA) {r : Int32} {σz : sm_M} : ∀ (v0 : Int32) (v1 : Int32) (σ : sm_M), f_X5_mayBe v0 v1 σ = some (r, σz) → ∀ (H : Heap) (locs : List Loc) (ls : Array Slot), Wd D dA 0 α s.heap σ H locs → lv_has ls 2 [(0, .int v0), (1, .int v1)] → gW 0 p l e s m args below meth c D dA 0 α (some (.int r)) σz H locs (F0 m 0 ls []) := by
  obtain ⟨hx, hb, hr, hlk, hml, hown, hnm, hts, hK, hNw⟩ := id G
  intro v0 v1 σ hF H locs ls hW hl
  rw [f_X5_mayBe] at hF
  refine lv_iload_n hx hb dX5_mayBe_0 rfl (lv_at hl 0 rfl) ?_
  by_cases n0 : v0 = 0
  · replace hF := o_t n0 hF
    refine lv_tableIn (tgt := 28) (off := 27) hx hb dX5_mayBe_1 (by rw [n0]; decide) (by rw [n0]; decide) (by rw [n0]; rfl) (by decide) ?_
    refine lv_iload_n hx hb dX5_mayBe_28 rfl (lv_at hl 1 rfl) ?_
    refine lv_if_lt (tgt := 42) hx hb dX5_mayBe_29 (by decide) (fun hc => ?_) (fun hc => ?_)
    · replace hF := o_t hc hF
      exact w_X5_mayBe_42 G  _ hF H locs ls hW (lv_sub hl [] rfl)
    · replace hF := o_f hc hF
      refine lv_iload_n hx hb dX5_mayBe_32 rfl (lv_at hl 1 rfl) ?_
      refine lv_bipush (v := 20) hx hb dX5_mayBe_33 (by decide) ?_
      refine lv_icmp_gt (tgt := 42) hx hb dX5_mayBe_35 (by decide) (fun hc => ?_) (fun hc => ?_)
      · replace hF := o_t hc hF
        exact w_X5_mayBe_42 G  _ hF H locs ls hW (lv_sub hl [] rfl)
      · replace hF := o_f hc hF
        refine lv_iconst (v := 1) hx hb dX5_mayBe_38 (by decide) ?_
        refine lv_goto (tgt := 43) hx hb dX5_mayBe_39 (by decide) ?_
        exact w_X5_mayBe_43 G _ _ hF H locs ls hW (lv_sub hl [] rfl)
  · replace hF := o_f n0 hF
    by_cases n1 : v0 = 1
    · replace hF := o_t n1 hF
      refine lv_tableIn (tgt := 44) (off := 43) hx hb dX5_mayBe_1 (by rw [n1]; decide) (by rw [n1]; decide) (by rw [n1]; rfl) (by decide) ?_
      refine lv_iload_n hx hb dX5_mayBe_44 rfl (lv_at hl 1 rfl) ?_
      refine lv_bipush (v := -20) hx hb dX5_mayBe_45 (by decide) ?_
      refine lv_icmp_lt (tgt := 60) hx hb dX5_mayBe_47 (by decide) (fun hc => ?_) (fun hc => ?_)
      · replace hF := o_t hc hF
        exact w_X5_mayBe_60 G  _ hF H locs ls hW (lv_sub hl [] rfl)
      · replace hF := o_f hc hF
        refine lv_iload_n hx hb dX5_mayBe_50 rfl (lv_at hl 1 rfl) ?_
        refine lv_bipush (v := 20) hx hb dX5_mayBe_51 (by decide) ?_
        refine lv_icmp_gt (tgt := 60) hx hb dX5_mayBe_53 (by decide) (fun hc => ?_) (fun hc => ?_)
        · replace hF := o_t hc hF
          exact w_X5_mayBe_60 G  _ hF H locs ls hW (lv_sub hl [] rfl)
        · replace hF := o_f hc hF
          refine lv_iconst (v := 1) hx hb dX5_mayBe_56 (by decide) ?_
          refine lv_goto (tgt := 61) hx hb dX5_mayBe_57 (by decide) ?_
          exact w_X5_mayBe_61 G _ _ hF H locs ls hW (lv_sub hl [] rfl)
    · replace hF := o_f n1 hF
      by_cases n2 : v0 = 2
      · replace hF := o_t n2 hF
        refine lv_tableIn (tgt := 62) (off := 61) hx hb dX5_mayBe_1 (by rw [n2]; decide) (by rw [n2]; decide) (by rw [n2]; rfl) (by decide) ?_
        refine lv_iload_n hx hb dX5_mayBe_62 rfl (lv_at hl 1 rfl) ?_
        refine lv_iconst (v := 1) hx hb dX5_mayBe_63 (by decide) ?_
        refine lv_icmp_lt (tgt := 76) hx hb dX5_mayBe_64 (by decide) (fun hc => ?_) (fun hc => ?_)
        · replace hF := o_t hc hF
          exact w_X5_mayBe_76 G  _ hF H locs ls hW (lv_sub hl [] rfl)
        · replace hF := o_f hc hF
          refine lv_iload_n hx hb dX5_mayBe_67 rfl (lv_at hl 1 rfl) ?_
          refine lv_iconst (v := 5) hx hb dX5_mayBe_68 (by decide) ?_
          refine lv_icmp_gt (tgt := 76) hx hb dX5_mayBe_69 (by decide) (fun hc => ?_) (fun hc => ?_)
          · replace hF := o_t hc hF
            exact w_X5_mayBe_76 G  _ hF H locs ls hW (lv_sub hl [] rfl)
          · replace hF := o_f hc hF
            refine lv_iconst (v := 1) hx hb dX5_mayBe_72 (by decide) ?_
            refine lv_goto (tgt := 77) hx hb dX5_mayBe_73 (by decide) ?_
            exact w_X5_mayBe_77 G _ _ hF H locs ls hW (lv_sub hl [] rfl)
      · replace hF := o_f n2 hF
        refine lv_tableOut (tgt := 78) hx hb dX5_mayBe_1 (t_out 0 2 (fun z h1 h2 => by have hz : z = 0 ∨ z = 1 ∨ z = 2 := (by omega); rcases hz with rfl | rfl | rfl <;> assumption)) (by decide) ?_
        refine lv_iload_n hx hb dX5_mayBe_78 rfl (lv_at hl 0 rfl) ?_
        refine lv_iconst (v := 3) hx hb dX5_mayBe_79 (by decide) ?_
        refine lv_icmp_lt (tgt := 92) hx hb dX5_mayBe_80 (by decide) (fun hc => ?_) (fun hc => ?_)
        · replace hF := o_t hc hF
          exact w_X5_mayBe_92 G  _ hF H locs ls hW (lv_sub hl [] rfl)
        · replace hF := o_f hc hF
          refine lv_iload_n hx hb dX5_mayBe_83 rfl (lv_at hl 0 rfl) ?_
          refine lv_iconst (v := 5) hx hb dX5_mayBe_84 (by decide) ?_
          refine lv_icmp_gt (tgt := 92) hx hb dX5_mayBe_85 (by decide) (fun hc => ?_) (fun hc => ?_)
          · replace hF := o_t hc hF
            exact w_X5_mayBe_92 G  _ hF H locs ls hW (lv_sub hl [] rfl)
          · replace hF := o_f hc hF
            refine lv_iconst (v := 1) hx hb dX5_mayBe_88 (by decide) ?_
            refine lv_goto (tgt := 93) hx hb dX5_mayBe_89 (by decide) ?_
            exact w_X5_mayBe_93 G _ _ hF H locs ls hW (lv_sub hl [] rfl)
end WX5_mayBe
theorem c_X5_mayBe {l : Launch} {D : va_G} {dA : Nat → ClassId} {α : Nat → Nat → Nat} (hI : Inj 0 α) {v0 : Int32} {v1 : Int32} {σ σz : sm_M} {r : Int32} (hF : f_X5_mayBe v0 v1 σ = some (r, σz)) : gM l D dA 0 α yX5_mayBe cX5_mayBe 2 (some .boolean) 0 [.int v0, .int v1] σ (some (.int r)) σz :=
  g_met hI (by decide +kernel) (Nat.le_of_ble_eq_true rfl) (fun p e s m below meth c ls G hW hl => w_X5_mayBe_0 G _ _ _ hF _ _ _ hW hl)
section KX5_mayBe
variable {p : Program} {l : Launch} {e : Env} {R : Room} {s : State} {m : MethodId} {args : Array Value} {below : List Frame} {meth : Method} {c : Code} {H : Heap} {locs : List Loc} {cells slots : Nat} {Q : State → Prop}
variable {cc : ByteArray} {pc nL Z : Nat} {ls : Array Slot} {rest : List Value} {D : va_G} {dA : Nat → ClassId} {α : Nat → Nat → Nat} {H0 : Heap} {σ σ' : sm_M} {ret : Option FieldType} {own nm : String}
theorem kk_X5_41 (G : gx p s m meth c args cc nL ret RX5 nm D dA) (hW : Wd D dA 0 α H0 σ H locs) {v0 : Int32} {v1 : Int32} {q : Int32 × sm_M} (hq : f_X5_mayBe v0 v1 σ = some q) (hls : ls.size = nL) (hR : 0 + 1 ≤ R.frames ∧ 8 + (2 + 11) + 44 * 0 ≤ R.locals) (hf : cells ≤ R.cells ∧ slots ≤ R.slots) (hcat : (rest.map fun v => v.category).sum ≤ 8) (hdg : decode cc pc = .ok (.invokestatic 41, 3)) (kk : ∀ (H1 : Heap) (locs1 : List Loc), Wd D dA 0 α H0 q.2 H1 locs1 → W p l e R s m args below meth c H1 locs1 cells slots Q (F0 m (pc + 3) ls (.int q.1 :: rest))) : W p l e R s m args below meth c H locs cells slots Q (F0 m pc ls (.int v1 :: .int v0 :: rest)) :=
  g_cS (n := 2) G (c_X5_mayBe (l := l) hW.2.2.2 hq) ⟨wm_6_21, wm_6_22, wm_1_2, wm_6_23⟩ (by decide +kernel) hW hR hf rfl hls rfl hcat hdg kk
end KX5_mayBe
section WX5_task
variable {p : Program} {l : Launch} {e : Env} {s : State} {m : MethodId} {args : Array Value} {below : List Frame} {meth : Method} {c : Code} {D : va_G} {dA : Nat → ClassId} {α : Nat → Nat → Nat}
set_option maxHeartbeats 4000000 in
set_option maxRecDepth 100000 in
theorem w_X5_task_0 (G : gx p s m meth c args cX5_task 4 (some .int) RX5 "task" D dA) {r : Int32} {σz : sm_M} : ∀ (v1 : Int32) (v2 : Int32) (v3 : Int32) (σ : sm_M), f_X5_task v1 v2 v3 σ = some (r, σz) → ∀ (H : Heap) (locs : List Loc) (ls : Array Slot), Wd D dA 0 α s.heap σ H locs → lv_has ls 4 [(0, .ref (α 0 0)), (1, .int v1), (2, .int v2), (3, .int v3)] → gW 3 p l e s m args below meth c D dA 0 α (some (.int r)) σz H locs (F0 m 0 ls []) := by
  obtain ⟨hx, hb, hr, hlk, hml, hown, hnm, hts, hK, hNw⟩ := id G
  intro v1 v2 v3 σ hF H locs ls hW hl
  rw [f_X5_task] at hF
  refine lv_iload_n hx hb dX5_task_0 rfl (lv_at hl 3 rfl) ?_
  obtain ⟨q1, hq1, hF⟩ := o_b hF
  refine kk_X5_37 G hW hq1 hl.1 ⟨Nat.le_of_ble_eq_true rfl, Nat.le_of_ble_eq_true rfl⟩ ⟨Nat.le_refl _, Nat.le_refl _⟩ (Nat.le_of_ble_eq_true rfl) dX5_task_1 (fun H locs hW => ?_)
  refine lv_if_eq (tgt := 16) hx hb dX5_task_4 (by decide) (fun hc => ?_) (fun hc => ?_)
  · replace hF := o_t hc hF
    refine lv_iconst (v := -1) hx hb dX5_task_16 (by decide) ?_
    exact g_iret G hW hF dX5_task_17
  · replace hF := o_f hc hF
    refine lv_aload_n hx hb dX5_task_7 rfl (lv_at hl 0 rfl) ?_
    refine gg_X5_30 G hW (by decide) dX5_task_8 ?_
    refine lv_iload_n hx hb dX5_task_11 rfl (lv_at hl 3 rfl) ?_
    obtain ⟨x2, hx2, hF⟩ := o_b hF
    refine g_aZ (φ := 6) G rfl rfl (by decide) rfl hW (by decide) hx2 dX5_task_12 ?_
    refine lv_if_ne (tgt := 18) hx hb dX5_task_13 (by decide) (fun hc => ?_) (fun hc => ?_)
    · replace hF := o_f hc hF
      refine lv_iload_n hx hb dX5_task_18 rfl (lv_at hl 1 rfl) ?_
      refine lv_iload_n hx hb dX5_task_19 rfl (lv_at hl 2 rfl) ?_
      obtain ⟨q3, hq3, hF⟩ := o_b hF
      refine kk_X5_41 G hW hq3 hl.1 ⟨Nat.le_of_ble_eq_true rfl, Nat.le_of_ble_eq_true rfl⟩ ⟨Nat.le_refl _, Nat.le_refl _⟩ (Nat.le_of_ble_eq_true rfl) dX5_task_20 (fun H locs hW => ?_)
      refine lv_if_ne (tgt := 29) hx hb dX5_task_23 (by decide) (fun hc => ?_) (fun hc => ?_)
      · replace hF := o_f hc hF
        refine lv_aload_n hx hb dX5_task_29 rfl (lv_at hl 0 rfl) ?_
        refine gg_X5_45 G hW (by decide) dX5_task_30 ?_
        refine lv_if_eq (tgt := 39) hx hb dX5_task_33 (by decide) (fun hc => ?_) (fun hc => ?_)
        · replace hF := o_t hc hF
          refine lv_aload_n hx hb dX5_task_39 rfl (lv_at hl 0 rfl) ?_
          refine gg_X5_10 G hW (by decide) dX5_task_40 ?_
          refine gg_X5_49 G hW (by decide) dX5_task_43 ?_
          refine lv_bipush (v := 16) hx hb dX5_task_46 (by decide) ?_
          refine lv_icmp_lt (tgt := 54) hx hb dX5_task_48 (by decide) (fun hc => ?_) (fun hc => ?_)
          · replace hF := o_t hc hF
            refine lv_aload_n hx hb dX5_task_54 rfl (lv_at hl 0 rfl) ?_
            refine gg_X5_10 G hW (by decide) dX5_task_55 ?_
            refine lv_iload_n hx hb dX5_task_58 rfl (lv_at hl 1 rfl) ?_
            refine lv_iload_n hx hb dX5_task_59 rfl (lv_at hl 2 rfl) ?_
            refine lv_iload_n hx hb dX5_task_60 rfl (lv_at hl 3 rfl) ?_
            obtain ⟨q4, hq4, hF⟩ := o_b hF
            refine kk_X5_53 G hW hq4 hl.1 ⟨Nat.le_of_ble_eq_true rfl, Nat.le_of_ble_eq_true rfl⟩ ⟨Nat.le_refl _, Nat.le_refl _⟩ (Nat.le_of_ble_eq_true rfl) dX5_task_61 (fun H locs hW => ?_)
            exact g_iret G hW hF dX5_task_64
          · replace hF := o_f hc hF
            refine lv_bipush (v := -4) hx hb dX5_task_51 (by decide) ?_
            exact g_iret G hW hF dX5_task_53
        · replace hF := o_f hc hF
          refine lv_bipush (v := -3) hx hb dX5_task_36 (by decide) ?_
          exact g_iret G hW hF dX5_task_38
      · replace hF := o_t hc hF
        refine lv_bipush (v := -2) hx hb dX5_task_26 (by decide) ?_
        exact g_iret G hW hF dX5_task_28
    · replace hF := o_t hc hF
      refine lv_iconst (v := -1) hx hb dX5_task_16 (by decide) ?_
      exact g_iret G hW hF dX5_task_17
end WX5_task
theorem c_X5_task {l : Launch} {D : va_G} {dA : Nat → ClassId} {α : Nat → Nat → Nat} (hI : Inj 0 α) {v1 : Int32} {v2 : Int32} {v3 : Int32} {σ σz : sm_M} {r : Int32} (hF : f_X5_task v1 v2 v3 σ = some (r, σz)) : gM l D dA 0 α yX5_task cX5_task 4 (some .int) 3 [.ref (α 0 0), .int v1, .int v2, .int v3] σ (some (.int r)) σz :=
  g_met hI (by decide +kernel) (Nat.le_of_ble_eq_true rfl) (fun p e s m below meth c ls G hW hl => w_X5_task_0 G _ _ _ _ hF _ _ _ hW hl)
section KX5_task
variable {p : Program} {l : Launch} {e : Env} {R : Room} {s : State} {m : MethodId} {args : Array Value} {below : List Frame} {meth : Method} {c : Code} {H : Heap} {locs : List Loc} {cells slots : Nat} {Q : State → Prop}
variable {cc : ByteArray} {pc nL Z : Nat} {ls : Array Slot} {rest : List Value} {D : va_G} {dA : Nat → ClassId} {α : Nat → Nat → Nat} {H0 : Heap} {σ σ' : sm_M} {ret : Option FieldType} {own nm : String}
end KX5_task
section WX5_channel
variable {p : Program} {l : Launch} {e : Env} {s : State} {m : MethodId} {args : Array Value} {below : List Frame} {meth : Method} {c : Code} {D : va_G} {dA : Nat → ClassId} {α : Nat → Nat → Nat}
set_option maxHeartbeats 4000000 in
set_option maxRecDepth 100000 in
theorem w_X5_channel_60 (G : gx p s m meth c args cX5_channel 4 (some .int) RX5 "channel" D dA) {r : Int32} {σz : sm_M} : ∀ (σ : sm_M), f_X5_channel_60 σ = some (r, σz) → ∀ (H : Heap) (locs : List Loc) (ls : Array Slot), Wd D dA 0 α s.heap σ H locs → lv_has ls 4 [] → gW 3 p l e s m args below meth c D dA 0 α (some (.int r)) σz H locs (F0 m 60 ls []) := by
  obtain ⟨hx, hb, hr, hlk, hml, hown, hnm, hts, hK, hNw⟩ := id G
  intro σ hF H locs ls hW hl
  rw [f_X5_channel_60] at hF
  refine lv_bipush (v := -2) hx hb dX5_channel_60 (by decide) ?_
  exact g_iret G hW hF dX5_channel_62
set_option maxHeartbeats 4000000 in
set_option maxRecDepth 100000 in
theorem w_X5_channel_0 (G : gx p s m meth c args cX5_channel 4 (some .int) RX5 "channel" D dA) {r : Int32} {σz : sm_M} : ∀ (v1 : Int32) (v2 : Int32) (v3 : Int32) (σ : sm_M), f_X5_channel v1 v2 v3 σ = some (r, σz) → ∀ (H : Heap) (locs : List Loc) (ls : Array Slot), Wd D dA 0 α s.heap σ H locs → lv_has ls 4 [(0, .ref (α 0 0)), (1, .int v1), (2, .int v2), (3, .int v3)] → gW 3 p l e s m args below meth c D dA 0 α (some (.int r)) σz H locs (F0 m 0 ls []) := by
  obtain ⟨hx, hb, hr, hlk, hml, hown, hnm, hts, hK, hNw⟩ := id G
  intro v1 v2 v3 σ hF H locs ls hW hl
  rw [f_X5_channel] at hF
  refine lv_aload_n hx hb dX5_channel_0 rfl (lv_at hl 0 rfl) ?_
  refine gg_X5_10 G hW (by decide) dX5_channel_1 ?_
  refine lv_iload_n hx hb dX5_channel_4 rfl (lv_at hl 1 rfl) ?_
  obtain ⟨q1, hq1, hF⟩ := o_b hF
  refine kk_X5_57 G hW hq1 hl.1 ⟨Nat.le_of_ble_eq_true rfl, Nat.le_of_ble_eq_true rfl⟩ ⟨Nat.le_refl _, Nat.le_refl _⟩ (Nat.le_of_ble_eq_true rfl) dX5_channel_5 (fun H locs hW => ?_)
  refine lv_if_eq (tgt := 22) hx hb dX5_channel_8 (by decide) (fun hc => ?_) (fun hc => ?_)
  · replace hF := o_t hc hF
    refine lv_iconst (v := -1) hx hb dX5_channel_22 (by decide) ?_
    exact g_iret G hW hF dX5_channel_23
  · replace hF := o_f hc hF
    refine lv_aload_n hx hb dX5_channel_11 rfl (lv_at hl 0 rfl) ?_
    refine gg_X5_10 G hW (by decide) dX5_channel_12 ?_
    refine lv_iload_n hx hb dX5_channel_15 rfl (lv_at hl 2 rfl) ?_
    obtain ⟨q2, hq2, hF⟩ := o_b hF
    refine kk_X5_57 G hW hq2 hl.1 ⟨Nat.le_of_ble_eq_true rfl, Nat.le_of_ble_eq_true rfl⟩ ⟨Nat.le_refl _, Nat.le_refl _⟩ (Nat.le_of_ble_eq_true rfl) dX5_channel_16 (fun H locs hW => ?_)
    refine lv_if_ne (tgt := 24) hx hb dX5_channel_19 (by decide) (fun hc => ?_) (fun hc => ?_)
    · replace hF := o_f hc hF
      refine lv_iload_n hx hb dX5_channel_24 rfl (lv_at hl 1 rfl) ?_
      refine lv_iload_n hx hb dX5_channel_25 rfl (lv_at hl 2 rfl) ?_
      refine lv_icmp_ge (tgt := 60) hx hb dX5_channel_26 (by decide) (fun hc => ?_) (fun hc => ?_)
      · replace hF := o_t hc hF
        exact w_X5_channel_60 G  _ hF H locs ls hW (lv_sub hl [] rfl)
      · replace hF := o_f hc hF
        refine lv_aload_n hx hb dX5_channel_29 rfl (lv_at hl 0 rfl) ?_
        refine gg_X5_10 G hW (by decide) dX5_channel_30 ?_
        refine gg_X5_60 G hW (by decide) dX5_channel_33 ?_
        refine lv_iload_n hx hb dX5_channel_36 rfl (lv_at hl 1 rfl) ?_
        obtain ⟨x3, hx3, hF⟩ := o_b hF
        refine g_aP (φ := 7) (ψ := 4) G rfl rfl (by decide) (ety := (.object "RegionRestarts$Task")) rfl rfl (fun _ => rfl) hW (by decide) hx3 dX5_channel_37 ?_
        refine gg_X5_64 G hW (aP_lt hx3) dX5_channel_38 ?_
        refine lv_iconst (v := 5) hx hb dX5_channel_41 (by decide) ?_
        refine lv_icmp_eq (tgt := 60) hx hb dX5_channel_42 (by decide) (fun hc => ?_) (fun hc => ?_)
        · replace hF := o_t hc hF
          exact w_X5_channel_60 G  _ hF H locs ls hW (lv_sub hl [] rfl)
        · replace hF := o_f hc hF
          refine lv_aload_n hx hb dX5_channel_45 rfl (lv_at hl 0 rfl) ?_
          refine gg_X5_10 G hW (by decide) dX5_channel_46 ?_
          refine gg_X5_60 G hW (by decide) dX5_channel_49 ?_
          refine lv_iload_n hx hb dX5_channel_52 rfl (lv_at hl 2 rfl) ?_
          obtain ⟨x4, hx4, hF⟩ := o_b hF
          refine g_aP (φ := 7) (ψ := 4) G rfl rfl (by decide) (ety := (.object "RegionRestarts$Task")) rfl rfl (fun _ => rfl) hW (by decide) hx4 dX5_channel_53 ?_
          refine gg_X5_64 G hW (aP_lt hx4) dX5_channel_54 ?_
          refine lv_if_ne (tgt := 63) hx hb dX5_channel_57 (by decide) (fun hc => ?_) (fun hc => ?_)
          · replace hF := o_f hc hF
            refine lv_aload_n hx hb dX5_channel_63 rfl (lv_at hl 0 rfl) ?_
            refine gg_X5_45 G hW (by decide) dX5_channel_64 ?_
            refine lv_if_eq (tgt := 73) hx hb dX5_channel_67 (by decide) (fun hc => ?_) (fun hc => ?_)
            · replace hF := o_t hc hF
              refine lv_aload_n hx hb dX5_channel_73 rfl (lv_at hl 0 rfl) ?_
              refine gg_X5_10 G hW (by decide) dX5_channel_74 ?_
              refine gg_X5_69 G hW (by decide) dX5_channel_77 ?_
              refine lv_bipush (v := 40) hx hb dX5_channel_80 (by decide) ?_
              refine lv_icmp_lt (tgt := 88) hx hb dX5_channel_82 (by decide) (fun hc => ?_) (fun hc => ?_)
              · replace hF := o_t hc hF
                refine lv_aload_n hx hb dX5_channel_88 rfl (lv_at hl 0 rfl) ?_
                refine gg_X5_10 G hW (by decide) dX5_channel_89 ?_
                refine lv_iload_n hx hb dX5_channel_92 rfl (lv_at hl 1 rfl) ?_
                refine lv_iload_n hx hb dX5_channel_93 rfl (lv_at hl 2 rfl) ?_
                refine lv_iload_n hx hb dX5_channel_94 rfl (lv_at hl 3 rfl) ?_
                obtain ⟨q5, hq5, hF⟩ := o_b hF
                refine kk_X5_72 G hW hq5 hl.1 ⟨Nat.le_of_ble_eq_true rfl, Nat.le_of_ble_eq_true rfl⟩ ⟨Nat.le_refl _, Nat.le_refl _⟩ (Nat.le_of_ble_eq_true rfl) dX5_channel_95 (fun H locs hW => ?_)
                exact g_iret G hW hF dX5_channel_98
              · replace hF := o_f hc hF
                refine lv_bipush (v := -4) hx hb dX5_channel_85 (by decide) ?_
                exact g_iret G hW hF dX5_channel_87
            · replace hF := o_f hc hF
              refine lv_bipush (v := -3) hx hb dX5_channel_70 (by decide) ?_
              exact g_iret G hW hF dX5_channel_72
          · replace hF := o_t hc hF
            exact w_X5_channel_60 G  _ hF H locs ls hW (lv_sub hl [] rfl)
    · replace hF := o_t hc hF
      refine lv_iconst (v := -1) hx hb dX5_channel_22 (by decide) ?_
      exact g_iret G hW hF dX5_channel_23
end WX5_channel
theorem c_X5_channel {l : Launch} {D : va_G} {dA : Nat → ClassId} {α : Nat → Nat → Nat} (hI : Inj 0 α) {v1 : Int32} {v2 : Int32} {v3 : Int32} {σ σz : sm_M} {r : Int32} (hF : f_X5_channel v1 v2 v3 σ = some (r, σz)) : gM l D dA 0 α yX5_channel cX5_channel 4 (some .int) 3 [.ref (α 0 0), .int v1, .int v2, .int v3] σ (some (.int r)) σz :=
  g_met hI (by decide +kernel) (Nat.le_of_ble_eq_true rfl) (fun p e s m below meth c ls G hW hl => w_X5_channel_0 G _ _ _ _ hF _ _ _ hW hl)
section KX5_channel
variable {p : Program} {l : Launch} {e : Env} {R : Room} {s : State} {m : MethodId} {args : Array Value} {below : List Frame} {meth : Method} {c : Code} {H : Heap} {locs : List Loc} {cells slots : Nat} {Q : State → Prop}
variable {cc : ByteArray} {pc nL Z : Nat} {ls : Array Slot} {rest : List Value} {D : va_G} {dA : Nat → ClassId} {α : Nat → Nat → Nat} {H0 : Heap} {σ σ' : sm_M} {ret : Option FieldType} {own nm : String}
end KX5_channel
section WX5_poison
variable {p : Program} {l : Launch} {e : Env} {s : State} {m : MethodId} {args : Array Value} {below : List Frame} {meth : Method} {c : Code} {D : va_G} {dA : Nat → ClassId} {α : Nat → Nat → Nat}
set_option maxHeartbeats 4000000 in
set_option maxRecDepth 100000 in
theorem w_X5_poison_27 (G : gx p s m meth c args cX5_poison 4 (some .int) RX5 "poison" D dA) {r : Int32} {σz : sm_M} : ∀ (σ : sm_M), f_X5_poison_27 σ = some (r, σz) → ∀ (H : Heap) (locs : List Loc) (ls : Array Slot), Wd D dA 0 α s.heap σ H locs → lv_has ls 4 [] → gW 1 p l e s m args below meth c D dA 0 α (some (.int r)) σz H locs (F0 m 27 ls []) := by
  obtain ⟨hx, hb, hr, hlk, hml, hown, hnm, hts, hK, hNw⟩ := id G
  intro σ hF H locs ls hW hl
  rw [f_X5_poison_27] at hF
  refine lv_bipush (v := -2) hx hb dX5_poison_27 (by decide) ?_
  exact g_iret G hW hF dX5_poison_29
set_option maxHeartbeats 4000000 in
set_option maxRecDepth 100000 in
theorem w_X5_poison_0 (G : gx p s m meth c args cX5_poison 4 (some .int) RX5 "poison" D dA) {r : Int32} {σz : sm_M} : ∀ (v1 : Int32) (v2 : Int32) (σ : sm_M), f_X5_poison v1 v2 σ = some (r, σz) → ∀ (H : Heap) (locs : List Loc) (ls : Array Slot), Wd D dA 0 α s.heap σ H locs → lv_has ls 4 [(0, .ref (α 0 0)), (1, .int v1), (2, .int v2)] → gW 1 p l e s m args below meth c D dA 0 α (some (.int r)) σz H locs (F0 m 0 ls []) := by
  obtain ⟨hx, hb, hr, hlk, hml, hown, hnm, hts, hK, hNw⟩ := id G
  intro v1 v2 σ hF H locs ls hW hl
  rw [f_X5_poison] at hF
  refine lv_aload_n hx hb dX5_poison_0 rfl (lv_at hl 0 rfl) ?_
  refine gg_X5_10 G hW (by decide) dX5_poison_1 ?_
  refine lv_iload_n hx hb dX5_poison_4 rfl (lv_at hl 1 rfl) ?_
  obtain ⟨q1, hq1, hF⟩ := o_b hF
  refine kk_X5_57 G hW hq1 hl.1 ⟨Nat.le_of_ble_eq_true rfl, Nat.le_of_ble_eq_true rfl⟩ ⟨Nat.le_refl _, Nat.le_refl _⟩ (Nat.le_of_ble_eq_true rfl) dX5_poison_5 (fun H locs hW => ?_)
  refine lv_if_ne (tgt := 13) hx hb dX5_poison_8 (by decide) (fun hc => ?_) (fun hc => ?_)
  · replace hF := o_f hc hF
    refine lv_iload_n hx hb dX5_poison_13 rfl (lv_at hl 2 rfl) ?_
    refine lv_sipush (v := -1000) hx hb dX5_poison_14 (by decide) ?_
    refine lv_icmp_lt (tgt := 27) hx hb dX5_poison_17 (by decide) (fun hc => ?_) (fun hc => ?_)
    · replace hF := o_t hc hF
      exact w_X5_poison_27 G  _ hF H locs ls hW (lv_sub hl [] rfl)
    · replace hF := o_f hc hF
      refine lv_iload_n hx hb dX5_poison_20 rfl (lv_at hl 2 rfl) ?_
      refine lv_sipush (v := 1000) hx hb dX5_poison_21 (by decide) ?_
      refine lv_icmp_le (tgt := 30) hx hb dX5_poison_24 (by decide) (fun hc => ?_) (fun hc => ?_)
      · replace hF := o_t hc hF
        refine lv_aload_n hx hb dX5_poison_30 rfl (lv_at hl 0 rfl) ?_
        refine gg_X5_45 G hW (by decide) dX5_poison_31 ?_
        refine lv_if_eq (tgt := 40) hx hb dX5_poison_34 (by decide) (fun hc => ?_) (fun hc => ?_)
        · replace hF := o_t hc hF
          refine lv_aload_n hx hb dX5_poison_40 rfl (lv_at hl 0 rfl) ?_
          refine gg_X5_10 G hW (by decide) dX5_poison_41 ?_
          refine gg_X5_60 G hW (by decide) dX5_poison_44 ?_
          refine lv_iload_n hx hb dX5_poison_47 rfl (lv_at hl 1 rfl) ?_
          obtain ⟨x2, hx2, hF⟩ := o_b hF
          refine g_aP (φ := 7) (ψ := 4) G rfl rfl (by decide) (ety := (.object "RegionRestarts$Task")) rfl rfl (fun _ => rfl) hW (by decide) hx2 dX5_poison_48 ?_
          refine gg_X5_76 G hW (aP_lt hx2) dX5_poison_49 ?_
          refine lv_istore_n (lv' := [(3, .int (q1.2.1 4 x2 6)), (0, .ref (α 0 0)), (1, .int v1), (2, .int v2)]) hx hb dX5_poison_52 rfl hl (by decide) rfl (fun ls hl => ?_)
          refine lv_aload_n hx hb dX5_poison_53 rfl (lv_at hl 1 rfl) ?_
          refine gg_X5_10 G hW (by decide) dX5_poison_54 ?_
          refine gg_X5_60 G hW (by decide) dX5_poison_57 ?_
          refine lv_iload_n hx hb dX5_poison_60 rfl (lv_at hl 2 rfl) ?_
          obtain ⟨x3, hx3, hF⟩ := o_b hF
          refine g_aP (φ := 7) (ψ := 4) G rfl rfl (by decide) (ety := (.object "RegionRestarts$Task")) rfl rfl (fun _ => rfl) hW (by decide) hx3 dX5_poison_61 ?_
          refine lv_iload_n hx hb dX5_poison_62 rfl (lv_at hl 3 rfl) ?_
          obtain ⟨σ4, hσ4, hF⟩ := o_b hF
          refine pp_X5_76 G hW (aP_lt hx3) hσ4 dX5_poison_63 (fun H locs hW => ?_)
          refine lv_iload_n hx hb dX5_poison_66 rfl (lv_at hl 0 rfl) ?_
          exact g_iret G hW hF dX5_poison_67
        · replace hF := o_f hc hF
          refine lv_bipush (v := -3) hx hb dX5_poison_37 (by decide) ?_
          exact g_iret G hW hF dX5_poison_39
      · replace hF := o_f hc hF
        exact w_X5_poison_27 G  _ hF H locs ls hW (lv_sub hl [] rfl)
  · replace hF := o_t hc hF
    refine lv_iconst (v := -1) hx hb dX5_poison_11 (by decide) ?_
    exact g_iret G hW hF dX5_poison_12
end WX5_poison
theorem c_X5_poison {l : Launch} {D : va_G} {dA : Nat → ClassId} {α : Nat → Nat → Nat} (hI : Inj 0 α) {v1 : Int32} {v2 : Int32} {σ σz : sm_M} {r : Int32} (hF : f_X5_poison v1 v2 σ = some (r, σz)) : gM l D dA 0 α yX5_poison cX5_poison 4 (some .int) 1 [.ref (α 0 0), .int v1, .int v2] σ (some (.int r)) σz :=
  g_met hI (by decide +kernel) (Nat.le_of_ble_eq_true rfl) (fun p e s m below meth c ls G hW hl => w_X5_poison_0 G _ _ _ hF _ _ _ hW hl)
section KX5_poison
variable {p : Program} {l : Launch} {e : Env} {R : Room} {s : State} {m : MethodId} {args : Array Value} {below : List Frame} {meth : Method} {c : Code} {H : Heap} {locs : List Loc} {cells slots : Nat} {Q : State → Prop}
variable {cc : ByteArray} {pc nL Z : Nat} {ls : Array Slot} {rest : List Value} {D : va_G} {dA : Nat → ClassId} {α : Nat → Nat → Nat} {H0 : Heap} {σ σ' : sm_M} {ret : Option FieldType} {own nm : String}
end KX5_poison
section WX5_rule
variable {p : Program} {l : Launch} {e : Env} {s : State} {m : MethodId} {args : Array Value} {below : List Frame} {meth : Method} {c : Code} {D : va_G} {dA : Nat → ClassId} {α : Nat → Nat → Nat}
set_option maxHeartbeats 4000000 in
set_option maxRecDepth 100000 in
theorem w_X5_rule_11 (G : gx p s m meth c args cX5_rule 4 (some .int) RX5 "rule" D dA) {r : Int32} {σz : sm_M} : ∀ (σ : sm_M), f_X5_rule_11 σ = some (r, σz) → ∀ (H : Heap) (locs : List Loc) (ls : Array Slot), Wd D dA 0 α s.heap σ H locs → lv_has ls 4 [] → gW 0 p l e s m args below meth c D dA 0 α (some (.int r)) σz H locs (F0 m 11 ls []) := by
  obtain ⟨hx, hb, hr, hlk, hml, hown, hnm, hts, hK, hNw⟩ := id G
  intro σ hF H locs ls hW hl
  rw [f_X5_rule_11] at hF
  refine lv_bipush (v := -2) hx hb dX5_rule_11 (by decide) ?_
  exact g_iret G hW hF dX5_rule_13
set_option maxHeartbeats 4000000 in
set_option maxRecDepth 100000 in
theorem w_X5_rule_0 (G : gx p s m meth c args cX5_rule 4 (some .int) RX5 "rule" D dA) {r : Int32} {σz : sm_M} : ∀ (v1 : Int32) (v2 : Int32) (σ : sm_M), f_X5_rule v1 v2 σ = some (r, σz) → ∀ (H : Heap) (locs : List Loc) (ls : Array Slot), Wd D dA 0 α s.heap σ H locs → lv_has ls 4 [(0, .ref (α 0 0)), (1, .int v1), (2, .int v2)] → gW 0 p l e s m args below meth c D dA 0 α (some (.int r)) σz H locs (F0 m 0 ls []) := by
  obtain ⟨hx, hb, hr, hlk, hml, hown, hnm, hts, hK, hNw⟩ := id G
  intro v1 v2 σ hF H locs ls hW hl
  rw [f_X5_rule] at hF
  refine lv_iload_n hx hb dX5_rule_0 rfl (lv_at hl 1 rfl) ?_
  refine lv_iconst (v := 1) hx hb dX5_rule_1 (by decide) ?_
  refine lv_icmp_lt (tgt := 11) hx hb dX5_rule_2 (by decide) (fun hc => ?_) (fun hc => ?_)
  · replace hF := o_t hc hF
    exact w_X5_rule_11 G  _ hF H locs ls hW (lv_sub hl [] rfl)
  · replace hF := o_f hc hF
    refine lv_iload_n hx hb dX5_rule_5 rfl (lv_at hl 1 rfl) ?_
    refine lv_bipush (v := 9) hx hb dX5_rule_6 (by decide) ?_
    refine lv_icmp_le (tgt := 14) hx hb dX5_rule_8 (by decide) (fun hc => ?_) (fun hc => ?_)
    · replace hF := o_t hc hF
      refine lv_aload_n hx hb dX5_rule_14 rfl (lv_at hl 0 rfl) ?_
      refine gg_X5_79 G hW (by decide) dX5_rule_15 ?_
      refine lv_istore_n (lv' := [(3, .int (σ.1 0 0 4)), (0, .ref (α 0 0)), (1, .int v1), (2, .int v2)]) hx hb dX5_rule_18 rfl hl (by decide) rfl (fun ls hl => ?_)
      refine lv_aload_n hx hb dX5_rule_19 rfl (lv_at hl 1 rfl) ?_
      refine lv_iload_n hx hb dX5_rule_20 rfl (lv_at hl 2 rfl) ?_
      obtain ⟨σ1, hσ1, hF⟩ := o_b hF
      refine pp_X5_79 G hW (by decide) hσ1 dX5_rule_21 (fun H locs hW => ?_)
      refine lv_aload_n hx hb dX5_rule_24 rfl (lv_at hl 1 rfl) ?_
      refine lv_iload_n hx hb dX5_rule_25 rfl (lv_at hl 3 rfl) ?_
      obtain ⟨σ2, hσ2, hF⟩ := o_b hF
      refine pp_X5_82 G hW (by decide) hσ2 dX5_rule_26 (fun H locs hW => ?_)
      refine lv_iload_n hx hb dX5_rule_29 rfl (lv_at hl 0 rfl) ?_
      exact g_iret G hW hF dX5_rule_30
    · replace hF := o_f hc hF
      exact w_X5_rule_11 G  _ hF H locs ls hW (lv_sub hl [] rfl)
end WX5_rule
theorem c_X5_rule {l : Launch} {D : va_G} {dA : Nat → ClassId} {α : Nat → Nat → Nat} (hI : Inj 0 α) {v1 : Int32} {v2 : Int32} {σ σz : sm_M} {r : Int32} (hF : f_X5_rule v1 v2 σ = some (r, σz)) : gM l D dA 0 α yX5_rule cX5_rule 4 (some .int) 0 [.ref (α 0 0), .int v1, .int v2] σ (some (.int r)) σz :=
  g_met hI (by decide +kernel) (Nat.le_of_ble_eq_true rfl) (fun p e s m below meth c ls G hW hl => w_X5_rule_0 G _ _ _ hF _ _ _ hW hl)
section KX5_rule
variable {p : Program} {l : Launch} {e : Env} {R : Room} {s : State} {m : MethodId} {args : Array Value} {below : List Frame} {meth : Method} {c : Code} {H : Heap} {locs : List Loc} {cells slots : Nat} {Q : State → Prop}
variable {cc : ByteArray} {pc nL Z : Nat} {ls : Array Slot} {rest : List Value} {D : va_G} {dA : Nat → ClassId} {α : Nat → Nat → Nat} {H0 : Heap} {σ σ' : sm_M} {ret : Option FieldType} {own nm : String}
end KX5_rule
section WX5_blameAll
variable {p : Program} {l : Launch} {e : Env} {s : State} {m : MethodId} {args : Array Value} {below : List Frame} {meth : Method} {c : Code} {D : va_G} {dA : Nat → ClassId} {α : Nat → Nat → Nat}
set_option maxHeartbeats 4000000 in
set_option maxRecDepth 100000 in
theorem w_X5_blameAll_96 (G : gx p s m meth c args cX5_blameAll 5 (some .int) RX5 "blameAll" D dA) {r : Int32} {σz : sm_M} : ∀ (v3 : Int32) (σ : sm_M), f_X5_blameAll_96 v3 σ = some (r, σz) → ∀ (H : Heap) (locs : List Loc) (ls : Array Slot), Wd D dA 0 α s.heap σ H locs → lv_has ls 5 [(3, .int v3)] → gW 1 p l e s m args below meth c D dA 0 α (some (.int r)) σz H locs (F0 m 96 ls []) := by
  obtain ⟨hx, hb, hr, hlk, hml, hown, hnm, hts, hK, hNw⟩ := id G
  intro v3 σ hF H locs ls hW hl
  rw [f_X5_blameAll_96] at hF
  refine lv_iload_n hx hb dX5_blameAll_96 rfl (lv_at hl 0 rfl) ?_
  exact g_iret G hW hF dX5_blameAll_97
set_option maxHeartbeats 4000000 in
set_option maxRecDepth 100000 in
theorem w_X5_blameAll_83 (G : gx p s m meth c args cX5_blameAll 5 (some .int) RX5 "blameAll" D dA) {r : Int32} {σz : sm_M} : ∀ (v3 : Int32) (σ : sm_M), f_X5_blameAll_83 v3 σ = some (r, σz) → ∀ (H : Heap) (locs : List Loc) (ls : Array Slot), Wd D dA 0 α s.heap σ H locs → lv_has ls 5 [(0, .ref (α 0 0)), (3, .int v3)] → gW 1 p l e s m args below meth c D dA 0 α (some (.int r)) σz H locs (F0 m 83 ls []) := by
  obtain ⟨hx, hb, hr, hlk, hml, hown, hnm, hts, hK, hNw⟩ := id G
  intro v3 σ hF H locs ls hW hl
  rw [f_X5_blameAll_83] at hF
  refine lv_iload_n hx hb dX5_blameAll_83 rfl (lv_at hl 1 rfl) ?_
  refine lv_aload_n hx hb dX5_blameAll_84 rfl (lv_at hl 0 rfl) ?_
  refine gg_X5_79 G hW (by decide) dX5_blameAll_85 ?_
  refine lv_icmp_le (tgt := 96) hx hb dX5_blameAll_88 (by decide) (fun hc => ?_) (fun hc => ?_)
  · replace hF := o_t hc hF
    exact w_X5_blameAll_96 G _ _ hF H locs ls hW (lv_sub hl [1] rfl)
  · replace hF := o_f hc hF
    refine lv_aload_n hx hb dX5_blameAll_91 rfl (lv_at hl 0 rfl) ?_
    refine lv_iconst (v := 1) hx hb dX5_blameAll_92 (by decide) ?_
    obtain ⟨σ1, hσ1, hF⟩ := o_b hF
    refine pp_X5_85 G hW (by decide) hσ1 dX5_blameAll_93 (fun H locs hW => ?_)
    exact w_X5_blameAll_96 G _ _ hF H locs ls hW (lv_sub hl [1] rfl)
set_option maxHeartbeats 4000000 in
set_option maxRecDepth 100000 in
theorem w_X5_blameAll_77 (G : gx p s m meth c args cX5_blameAll 5 (some .int) RX5 "blameAll" D dA) {r : Int32} {σz : sm_M} (k5 : Int32 → Int32 → Int32 → Int32 → sm_M → Option (Int32 × sm_M)) (hk5 : ∀ (v1 : Int32) (v2 : Int32) (v3 : Int32) (v4 : Int32) (σ : sm_M), k5 v1 v2 v3 v4 σ = some (r, σz) → ∀ (H : Heap) (locs : List Loc) (ls : Array Slot), Wd D dA 0 α s.heap σ H locs → lv_has ls 5 [(0, .ref (α 0 0)), (1, .int v1), (2, .int v2), (3, .int v3), (4, .int v4)] → gW 1 p l e s m args below meth c D dA 0 α (some (.int r)) σz H locs (F0 m 5 ls [])) : ∀ (v1 : Int32) (v2 : Int32) (v3 : Int32) (v4 : Int32) (σ : sm_M), f_X5_blameAll_77 k5 v1 v2 v3 v4 σ = some (r, σz) → ∀ (H : Heap) (locs : List Loc) (ls : Array Slot), Wd D dA 0 α s.heap σ H locs → lv_has ls 5 [(0, .ref (α 0 0)), (1, .int v1), (2, .int v2), (3, .int v3), (4, .int v4)] → gW 1 p l e s m args below meth c D dA 0 α (some (.int r)) σz H locs (F0 m 77 ls []) := by
  obtain ⟨hx, hb, hr, hlk, hml, hown, hnm, hts, hK, hNw⟩ := id G
  intro v1 v2 v3 v4 σ hF H locs ls hW hl
  rw [f_X5_blameAll_77] at hF
  refine lv_iinc (v := (v4 + 1)) (lv' := [(4, .int (v4 + 1)), (0, .ref (α 0 0)), (1, .int v1), (2, .int v2), (3, .int v3)]) hx hb dX5_blameAll_77 hl (k := 4) rfl rfl (by decide) rfl (fun ls hl => ?_)
  refine lv_goto (tgt := 5) hx hb dX5_blameAll_80 (by decide) ?_
  exact hk5 _ _ _ _ _ hF H locs ls hW (lv_sub hl [1, 2, 3, 4, 0] rfl)
set_option maxHeartbeats 4000000 in
set_option maxRecDepth 100000 in
theorem w_X5_blameAll_5 (G : gx p s m meth c args cX5_blameAll 5 (some .int) RX5 "blameAll" D dA) {r : Int32} {σz : sm_M} : ∀ (n : Nat) (v1 : Int32) (v2 : Int32) (v3 : Int32) (v4 : Int32) (σ : sm_M), f_X5_blameAll_5 n v1 v2 v3 v4 σ = some (r, σz) → ∀ (H : Heap) (locs : List Loc) (ls : Array Slot), Wd D dA 0 α s.heap σ H locs → lv_has ls 5 [(0, .ref (α 0 0)), (1, .int v1), (2, .int v2), (3, .int v3), (4, .int v4)] → gW 1 p l e s m args below meth c D dA 0 α (some (.int r)) σz H locs (F0 m 5 ls []) := by
  obtain ⟨hx, hb, hr, hlk, hml, hown, hnm, hts, hK, hNw⟩ := id G
  intro n
  induction n with
  | zero => intro v1 v2 v3 v4 σ hF; exact absurd hF (by intro h; cases h)
  | succ n ih =>
    intro v1 v2 v3 v4 σ hF H locs ls hW hl
    rw [f_X5_blameAll_5] at hF
    refine lv_iload hx hb dX5_blameAll_5 (lv_at hl 4 rfl) ?_
    refine lv_aload_n hx hb dX5_blameAll_7 rfl (lv_at hl 0 rfl) ?_
    refine gg_X5_10 G hW (by decide) dX5_blameAll_8 ?_
    refine gg_X5_49 G hW (by decide) dX5_blameAll_11 ?_
    refine lv_icmp_ge (tgt := 83) hx hb dX5_blameAll_14 (by decide) (fun hc => ?_) (fun hc => ?_)
    · replace hF := o_t hc hF
      exact w_X5_blameAll_83 G _ _ hF H locs ls hW (lv_sub hl [0, 3] rfl)
    · replace hF := o_f hc hF
      refine lv_iload_n hx hb dX5_blameAll_17 rfl (lv_at hl 1 rfl) ?_
      refine lv_iload hx hb dX5_blameAll_18 (lv_at hl 4 rfl) ?_
      obtain ⟨q1, hq1, hF⟩ := o_b hF
      refine kk_X5_202 G hW hq1 hl.1 ⟨Nat.le_of_ble_eq_true rfl, Nat.le_of_ble_eq_true rfl⟩ ⟨Nat.le_refl _, Nat.le_refl _⟩ (Nat.le_of_ble_eq_true rfl) dX5_blameAll_20 (fun H locs hW => ?_)
      refine lv_if_eq (tgt := 77) hx hb dX5_blameAll_23 (by decide) (fun hc => ?_) (fun hc => ?_)
      · replace hF := o_t hc hF
        exact w_X5_blameAll_77 G (f_X5_blameAll_5 n) ih _ _ _ _ _ hF H locs ls hW (lv_sub hl [0, 1, 2, 3, 4] rfl)
      · replace hF := o_f hc hF
        refine lv_aload_n hx hb dX5_blameAll_26 rfl (lv_at hl 0 rfl) ?_
        refine gg_X5_26 G hW (by decide) dX5_blameAll_27 ?_
        refine lv_iload hx hb dX5_blameAll_30 (lv_at hl 4 rfl) ?_
        refine lv_aload_n hx hb dX5_blameAll_32 rfl (lv_at hl 0 rfl) ?_
        refine gg_X5_88 G hW (by decide) dX5_blameAll_33 ?_
        refine lv_iload_n hx hb dX5_blameAll_36 rfl (lv_at hl 2 rfl) ?_
        obtain ⟨q2, hq2, hF⟩ := o_b hF
        refine kk_X5_291 G hW hq2 hl.1 ⟨Nat.le_of_ble_eq_true rfl, Nat.le_of_ble_eq_true rfl⟩ ⟨Nat.le_refl _, Nat.le_refl _⟩ (Nat.le_of_ble_eq_true rfl) dX5_blameAll_37 (fun H locs hW => ?_)
        refine lv_aload_n hx hb dX5_blameAll_40 rfl (lv_at hl 0 rfl) ?_
        refine gg_X5_10 G hW (by decide) dX5_blameAll_41 ?_
        refine gg_X5_60 G hW (by decide) dX5_blameAll_44 ?_
        refine lv_iload hx hb dX5_blameAll_47 (lv_at hl 4 rfl) ?_
        obtain ⟨x3, hx3, hF⟩ := o_b hF
        refine g_aP (φ := 7) (ψ := 4) G rfl rfl (by decide) (ety := (.object "RegionRestarts$Task")) rfl rfl (fun _ => rfl) hW (by decide) hx3 dX5_blameAll_49 ?_
        refine lv_dup hx hb dX5_blameAll_50 rfl ?_
        refine gg_X5_196 G hW (aP_lt hx3) dX5_blameAll_51 ?_
        refine lv_iconst (v := 1) hx hb dX5_blameAll_54 (by decide) ?_
        refine lv_iadd hx hb dX5_blameAll_55 ?_
        obtain ⟨σ4, hσ4, hF⟩ := o_b hF
        refine pp_X5_196 G hW (aP_lt hx3) hσ4 dX5_blameAll_56 (fun H locs hW => ?_)
        refine lv_iload_n hx hb dX5_blameAll_59 rfl (lv_at hl 3 rfl) ?_
        refine lv_aload_n hx hb dX5_blameAll_60 rfl (lv_at hl 0 rfl) ?_
        refine gg_X5_10 G hW (by decide) dX5_blameAll_61 ?_
        refine gg_X5_60 G hW (by decide) dX5_blameAll_64 ?_
        refine lv_iload hx hb dX5_blameAll_67 (lv_at hl 4 rfl) ?_
        obtain ⟨x5, hx5, hF⟩ := o_b hF
        refine g_aP (φ := 7) (ψ := 4) G rfl rfl (by decide) (ety := (.object "RegionRestarts$Task")) rfl rfl (fun _ => rfl) hW (by decide) hx5 dX5_blameAll_69 ?_
        refine gg_X5_196 G hW (aP_lt hx5) dX5_blameAll_70 ?_
        refine g_max G hl.1 mm_X5_295 (Nat.le_of_ble_eq_true rfl) (Nat.le_of_ble_eq_true rfl) (Nat.le_refl _) (Nat.le_refl _) dX5_blameAll_73 ?_
        refine lv_istore_n (lv' := [(3, .int (if v3 < (σ4.1 4 x5 8) then (σ4.1 4 x5 8) else v3)), (0, .ref (α 0 0)), (1, .int v1), (2, .int v2), (4, .int v4)]) hx hb dX5_blameAll_76 rfl hl (by decide) rfl (fun ls hl => ?_)
        exact w_X5_blameAll_77 G (f_X5_blameAll_5 n) ih _ _ _ _ _ hF H locs ls hW (lv_sub hl [1, 2, 3, 0, 4] rfl)
set_option maxHeartbeats 4000000 in
set_option maxRecDepth 100000 in
theorem w_X5_blameAll_0 (G : gx p s m meth c args cX5_blameAll 5 (some .int) RX5 "blameAll" D dA) {r : Int32} {σz : sm_M} : ∀ (v1 : Int32) (v2 : Int32) (σ : sm_M), f_X5_blameAll v1 v2 σ = some (r, σz) → ∀ (H : Heap) (locs : List Loc) (ls : Array Slot), Wd D dA 0 α s.heap σ H locs → lv_has ls 5 [(0, .ref (α 0 0)), (1, .int v1), (2, .int v2)] → gW 1 p l e s m args below meth c D dA 0 α (some (.int r)) σz H locs (F0 m 0 ls []) := by
  obtain ⟨hx, hb, hr, hlk, hml, hown, hnm, hts, hK, hNw⟩ := id G
  intro v1 v2 σ hF H locs ls hW hl
  rw [f_X5_blameAll] at hF
  refine lv_iconst (v := 0) hx hb dX5_blameAll_0 (by decide) ?_
  refine lv_istore_n (lv' := [(3, .int (0 : Int32)), (0, .ref (α 0 0)), (1, .int v1), (2, .int v2)]) hx hb dX5_blameAll_1 rfl hl (by decide) rfl (fun ls hl => ?_)
  refine lv_iconst (v := 0) hx hb dX5_blameAll_2 (by decide) ?_
  refine lv_istore (lv' := [(4, .int (0 : Int32)), (3, .int (0 : Int32)), (0, .ref (α 0 0)), (1, .int v1), (2, .int v2)]) hx hb dX5_blameAll_3 hl (by decide) rfl (fun ls hl => ?_)
  exact w_X5_blameAll_5 G 1000 _ _ _ _ _ hF H locs ls hW (lv_sub hl [2, 3, 4, 1, 0] rfl)
end WX5_blameAll
theorem c_X5_blameAll {l : Launch} {D : va_G} {dA : Nat → ClassId} {α : Nat → Nat → Nat} (hI : Inj 0 α) {v1 : Int32} {v2 : Int32} {σ σz : sm_M} {r : Int32} (hF : f_X5_blameAll v1 v2 σ = some (r, σz)) : gM l D dA 0 α yX5_blameAll cX5_blameAll 5 (some .int) 1 [.ref (α 0 0), .int v1, .int v2] σ (some (.int r)) σz :=
  g_met hI (by decide +kernel) (Nat.le_of_ble_eq_true rfl) (fun p e s m below meth c ls G hW hl => w_X5_blameAll_0 G _ _ _ hF _ _ _ hW hl)
section KX5_blameAll
variable {p : Program} {l : Launch} {e : Env} {R : Room} {s : State} {m : MethodId} {args : Array Value} {below : List Frame} {meth : Method} {c : Code} {H : Heap} {locs : List Loc} {cells slots : Nat} {Q : State → Prop}
variable {cc : ByteArray} {pc nL Z : Nat} {ls : Array Slot} {rest : List Value} {D : va_G} {dA : Nat → ClassId} {α : Nat → Nat → Nat} {H0 : Heap} {σ σ' : sm_M} {ret : Option FieldType} {own nm : String}
theorem kk_X5_127 (G : gx p s m meth c args cc nL ret RX5 nm D dA) (hW : Wd D dA 0 α H0 σ H locs) {v1 : Int32} {v2 : Int32} {q : Int32 × sm_M} (hq : f_X5_blameAll v1 v2 σ = some q) (hls : ls.size = nL) (hR : 1 + 1 ≤ R.frames ∧ 8 + (5 + 11) + 44 * 1 ≤ R.locals) (hf : cells ≤ R.cells ∧ slots ≤ R.slots) (hcat : (rest.map fun v => v.category).sum ≤ 8) (hdg : decode cc pc = .ok (.invokevirtual 127, 3)) (kk : ∀ (H1 : Heap) (locs1 : List Loc), Wd D dA 0 α H0 q.2 H1 locs1 → W p l e R s m args below meth c H1 locs1 cells slots Q (F0 m (pc + 3) ls (.int q.1 :: rest))) : W p l e R s m args below meth c H locs cells slots Q (F0 m pc ls (.int v2 :: .int v1 :: .ref (α 0 0) :: rest)) :=
  g_cV (n := 2) G (c_X5_blameAll (l := l) hW.2.2.2 hq) ⟨wm_15_6, wm_15_7, wm_15_8, wm_1_2, wm_15_9⟩ (by decide +kernel) hW (g_recv (φ := 0) (ci := 5) G.2.2.2.2.2.2.2.2.1 rfl rfl rfl (by decide) hW.1 rfl) hR hf rfl hls rfl hcat hdg kk
end KX5_blameAll
section WX5_waitAfter
variable {p : Program} {l : Launch} {e : Env} {s : State} {m : MethodId} {args : Array Value} {below : List Frame} {meth : Method} {c : Code} {D : va_G} {dA : Nat → ClassId} {α : Nat → Nat → Nat}
set_option maxHeartbeats 4000000 in
set_option maxRecDepth 100000 in
theorem w_X5_waitAfter_25 (G : gx p s m meth c args cX5_waitAfter 1 (some .int) RX5 "waitAfter" D dA) {r : Int32} {σz : sm_M} : ∀ (s0 : Int32) (σ : sm_M), f_X5_waitAfter_25 s0 σ = some (r, σz) → ∀ (H : Heap) (locs : List Loc) (ls : Array Slot), Wd D dA 0 α s.heap σ H locs → lv_has ls 1 [] → gW 1 p l e s m args below meth c D dA 0 α (some (.int r)) σz H locs (F0 m 25 ls [.int s0]) := by
  obtain ⟨hx, hb, hr, hlk, hml, hown, hnm, hts, hK, hNw⟩ := id G
  intro s0 σ hF H locs ls hW hl
  rw [f_X5_waitAfter_25] at hF
  exact g_iret G hW hF dX5_waitAfter_25
set_option maxHeartbeats 4000000 in
set_option maxRecDepth 100000 in
theorem w_X5_waitAfter_10 (G : gx p s m meth c args cX5_waitAfter 1 (some .int) RX5 "waitAfter" D dA) {r : Int32} {σz : sm_M} : ∀ (σ : sm_M), f_X5_waitAfter_10 σ = some (r, σz) → ∀ (H : Heap) (locs : List Loc) (ls : Array Slot), Wd D dA 0 α s.heap σ H locs → lv_has ls 1 [] → gW 1 p l e s m args below meth c D dA 0 α (some (.int r)) σz H locs (F0 m 10 ls []) := by
  obtain ⟨hx, hb, hr, hlk, hml, hown, hnm, hts, hK, hNw⟩ := id G
  intro σ hF H locs ls hW hl
  rw [f_X5_waitAfter_10] at hF
  refine lv_bipush (v := 16) hx hb dX5_waitAfter_10 (by decide) ?_
  refine lv_goto (tgt := 25) hx hb dX5_waitAfter_12 (by decide) ?_
  exact w_X5_waitAfter_25 G _ _ hF H locs ls hW (lv_sub hl [] rfl)
set_option maxHeartbeats 4000000 in
set_option maxRecDepth 100000 in
theorem w_X5_waitAfter_0 (G : gx p s m meth c args cX5_waitAfter 1 (some .int) RX5 "waitAfter" D dA) {r : Int32} {σz : sm_M} : ∀ (v0 : Int32) (σ : sm_M), f_X5_waitAfter v0 σ = some (r, σz) → ∀ (H : Heap) (locs : List Loc) (ls : Array Slot), Wd D dA 0 α s.heap σ H locs → lv_has ls 1 [(0, .int v0)] → gW 1 p l e s m args below meth c D dA 0 α (some (.int r)) σz H locs (F0 m 0 ls []) := by
  obtain ⟨hx, hb, hr, hlk, hml, hown, hnm, hts, hK, hNw⟩ := id G
  intro v0 σ hF H locs ls hW hl
  rw [f_X5_waitAfter] at hF
  refine lv_iload_n hx hb dX5_waitAfter_0 rfl (lv_at hl 0 rfl) ?_
  refine lv_iconst (v := 1) hx hb dX5_waitAfter_1 (by decide) ?_
  refine lv_icmp_lt (tgt := 10) hx hb dX5_waitAfter_2 (by decide) (fun hc => ?_) (fun hc => ?_)
  · replace hF := o_t hc hF
    exact w_X5_waitAfter_10 G  _ hF H locs ls hW (lv_sub hl [] rfl)
  · replace hF := o_f hc hF
    refine lv_iload_n hx hb dX5_waitAfter_5 rfl (lv_at hl 0 rfl) ?_
    refine lv_iconst (v := 5) hx hb dX5_waitAfter_6 (by decide) ?_
    refine lv_icmp_le (tgt := 15) hx hb dX5_waitAfter_7 (by decide) (fun hc => ?_) (fun hc => ?_)
    · replace hF := o_t hc hF
      refine lv_bipush (v := 16) hx hb dX5_waitAfter_15 (by decide) ?_
      refine lv_iconst (v := 1) hx hb dX5_waitAfter_17 (by decide) ?_
      refine lv_iload_n hx hb dX5_waitAfter_18 rfl (lv_at hl 0 rfl) ?_
      refine lv_iconst (v := 1) hx hb dX5_waitAfter_19 (by decide) ?_
      refine lv_isub hx hb dX5_waitAfter_20 ?_
      refine lv_ishl hx hb dX5_waitAfter_21 ?_
      refine g_min G hl.1 mm_X5_167 (Nat.le_of_ble_eq_true rfl) (Nat.le_of_ble_eq_true rfl) (Nat.le_refl _) (Nat.le_refl _) dX5_waitAfter_22 ?_
      exact w_X5_waitAfter_25 G _ _ hF H locs ls hW (lv_sub hl [] rfl)
    · replace hF := o_f hc hF
      exact w_X5_waitAfter_10 G  _ hF H locs ls hW (lv_sub hl [] rfl)
end WX5_waitAfter
theorem c_X5_waitAfter {l : Launch} {D : va_G} {dA : Nat → ClassId} {α : Nat → Nat → Nat} (hI : Inj 0 α) {v0 : Int32} {σ σz : sm_M} {r : Int32} (hF : f_X5_waitAfter v0 σ = some (r, σz)) : gM l D dA 0 α yX5_waitAfter cX5_waitAfter 1 (some .int) 1 [.int v0] σ (some (.int r)) σz :=
  g_met hI (by decide +kernel) (Nat.le_of_ble_eq_true rfl) (fun p e s m below meth c ls G hW hl => w_X5_waitAfter_0 G _ _ hF _ _ _ hW hl)
section KX5_waitAfter
variable {p : Program} {l : Launch} {e : Env} {R : Room} {s : State} {m : MethodId} {args : Array Value} {below : List Frame} {meth : Method} {c : Code} {H : Heap} {locs : List Loc} {cells slots : Nat} {Q : State → Prop}
variable {cc : ByteArray} {pc nL Z : Nat} {ls : Array Slot} {rest : List Value} {D : va_G} {dA : Nat → ClassId} {α : Nat → Nat → Nat} {H0 : Heap} {σ σ' : sm_M} {ret : Option FieldType} {own nm : String}
theorem kk_X5_298 (G : gx p s m meth c args cc nL ret RX5 nm D dA) (hW : Wd D dA 0 α H0 σ H locs) {v0 : Int32} {q : Int32 × sm_M} (hq : f_X5_waitAfter v0 σ = some q) (hls : ls.size = nL) (hR : 1 + 1 ≤ R.frames ∧ 8 + (1 + 11) + 44 * 1 ≤ R.locals) (hf : cells ≤ R.cells ∧ slots ≤ R.slots) (hcat : (rest.map fun v => v.category).sum ≤ 8) (hdg : decode cc pc = .ok (.invokestatic 298, 3)) (kk : ∀ (H1 : Heap) (locs1 : List Loc), Wd D dA 0 α H0 q.2 H1 locs1 → W p l e R s m args below meth c H1 locs1 cells slots Q (F0 m (pc + 3) ls (.int q.1 :: rest))) : W p l e R s m args below meth c H locs cells slots Q (F0 m pc ls (.int v0 :: rest)) :=
  g_cS (n := 1) G (c_X5_waitAfter (l := l) hW.2.2.2 hq) ⟨wm_16_18, wm_16_19, wm_1_2, wm_16_20⟩ (by decide +kernel) hW hR hf rfl hls rfl hcat hdg kk
end KX5_waitAfter
section WJ6_bitCount_0f7a4
variable {p : Program} {l : Launch} {e : Env} {s : State} {m : MethodId} {args : Array Value} {below : List Frame} {meth : Method} {c : Code} {D : va_G} {dA : Nat → ClassId} {α : Nat → Nat → Nat} {Z : Nat}
set_option maxHeartbeats 4000000 in
set_option maxRecDepth 100000 in
theorem w_J6_bitCount_0f7a4_0 (G : gx p s m meth c args cJ6_bitCount_0f7a4 1 (some .int) RJ6 "bitCount" D dA) {r : Int32} {σz : sm_M} : ∀ (v0 : Int32) (σ : sm_M), f_J6_bitCount_0f7a4 v0 σ = some (r, σz) → ∀ (H : Heap) (locs : List Loc) (ls : Array Slot), Wd D dA Z α s.heap σ H locs → lv_has ls 1 [(0, .int v0)] → gW 0 p l e s m args below meth c D dA Z α (some (.int r)) σz H locs (F0 m 0 ls []) := by
  obtain ⟨hx, hb, hr, hlk, hml, hown, hnm, hts, hK, hNw⟩ := id G
  intro v0 σ hF H locs ls hW hl
  rw [f_J6_bitCount_0f7a4] at hF
  refine lv_iload_n hx hb dJ6_bitCount_0f7a4_0 rfl (lv_at hl 0 rfl) ?_
  refine lv_iload_n hx hb dJ6_bitCount_0f7a4_1 rfl (lv_at hl 0 rfl) ?_
  refine lv_iconst (v := 1) hx hb dJ6_bitCount_0f7a4_2 (by decide) ?_
  refine lv_iushr hx hb dJ6_bitCount_0f7a4_3 rfl ?_
  refine lv_ldcw (v := 1431655765) hx hb hown (hts _ cc_J6_265) dJ6_bitCount_0f7a4_4 ?_
  refine lv_iand hx hb dJ6_bitCount_0f7a4_7 ?_
  refine lv_isub hx hb dJ6_bitCount_0f7a4_8 ?_
  refine lv_istore_n (lv' := [(0, .int (v0 - ((v0.toUInt32 >>> ((1 : Int32).toUInt32 &&& Int32.toUInt32 31)).toInt32 &&& (1431655765 : Int32))))]) hx hb dJ6_bitCount_0f7a4_9 rfl hl (by decide) rfl (fun ls hl => ?_)
  refine lv_iload_n hx hb dJ6_bitCount_0f7a4_10 rfl (lv_at hl 0 rfl) ?_
  refine lv_ldcw (v := 858993459) hx hb hown (hts _ cc_J6_266) dJ6_bitCount_0f7a4_11 ?_
  refine lv_iand hx hb dJ6_bitCount_0f7a4_14 ?_
  refine lv_iload_n hx hb dJ6_bitCount_0f7a4_15 rfl (lv_at hl 0 rfl) ?_
  refine lv_iconst (v := 2) hx hb dJ6_bitCount_0f7a4_16 (by decide) ?_
  refine lv_iushr hx hb dJ6_bitCount_0f7a4_17 rfl ?_
  refine lv_ldcw (v := 858993459) hx hb hown (hts _ cc_J6_266) dJ6_bitCount_0f7a4_18 ?_
  refine lv_iand hx hb dJ6_bitCount_0f7a4_21 ?_
  refine lv_iadd hx hb dJ6_bitCount_0f7a4_22 ?_
  refine lv_istore_n (lv' := [(0, .int (((v0 - ((v0.toUInt32 >>> ((1 : Int32).toUInt32 &&& Int32.toUInt32 31)).toInt32 &&& (1431655765 : Int32))) &&& (858993459 : Int32)) + (((v0 - ((v0.toUInt32 >>> ((1 : Int32).toUInt32 &&& Int32.toUInt32 31)).toInt32 &&& (1431655765 : Int32))).toUInt32 >>> ((2 : Int32).toUInt32 &&& Int32.toUInt32 31)).toInt32 &&& (858993459 : Int32))))]) hx hb dJ6_bitCount_0f7a4_23 rfl hl (by decide) rfl (fun ls hl => ?_)
  refine lv_iload_n hx hb dJ6_bitCount_0f7a4_24 rfl (lv_at hl 0 rfl) ?_
  refine lv_iload_n hx hb dJ6_bitCount_0f7a4_25 rfl (lv_at hl 0 rfl) ?_
  refine lv_iconst (v := 4) hx hb dJ6_bitCount_0f7a4_26 (by decide) ?_
  refine lv_iushr hx hb dJ6_bitCount_0f7a4_27 rfl ?_
  refine lv_iadd hx hb dJ6_bitCount_0f7a4_28 ?_
  refine lv_ldcw (v := 252645135) hx hb hown (hts _ cc_J6_267) dJ6_bitCount_0f7a4_29 ?_
  refine lv_iand hx hb dJ6_bitCount_0f7a4_32 ?_
  refine lv_istore_n (lv' := [(0, .int (((((v0 - ((v0.toUInt32 >>> ((1 : Int32).toUInt32 &&& Int32.toUInt32 31)).toInt32 &&& (1431655765 : Int32))) &&& (858993459 : Int32)) + (((v0 - ((v0.toUInt32 >>> ((1 : Int32).toUInt32 &&& Int32.toUInt32 31)).toInt32 &&& (1431655765 : Int32))).toUInt32 >>> ((2 : Int32).toUInt32 &&& Int32.toUInt32 31)).toInt32 &&& (858993459 : Int32))) + ((((v0 - ((v0.toUInt32 >>> ((1 : Int32).toUInt32 &&& Int32.toUInt32 31)).toInt32 &&& (1431655765 : Int32))) &&& (858993459 : Int32)) + (((v0 - ((v0.toUInt32 >>> ((1 : Int32).toUInt32 &&& Int32.toUInt32 31)).toInt32 &&& (1431655765 : Int32))).toUInt32 >>> ((2 : Int32).toUInt32 &&& Int32.toUInt32 31)).toInt32 &&& (858993459 : Int32))).toUInt32 >>> ((4 : Int32).toUInt32 &&& Int32.toUInt32 31)).toInt32) &&& (252645135 : Int32)))]) hx hb dJ6_bitCount_0f7a4_33 rfl hl (by decide) rfl (fun ls hl => ?_)
  refine lv_iload_n hx hb dJ6_bitCount_0f7a4_34 rfl (lv_at hl 0 rfl) ?_
  refine lv_iload_n hx hb dJ6_bitCount_0f7a4_35 rfl (lv_at hl 0 rfl) ?_
  refine lv_bipush (v := 8) hx hb dJ6_bitCount_0f7a4_36 (by decide) ?_
  refine lv_iushr hx hb dJ6_bitCount_0f7a4_38 rfl ?_
  refine lv_iadd hx hb dJ6_bitCount_0f7a4_39 ?_
  refine lv_istore_n (lv' := [(0, .int ((((((v0 - ((v0.toUInt32 >>> ((1 : Int32).toUInt32 &&& Int32.toUInt32 31)).toInt32 &&& (1431655765 : Int32))) &&& (858993459 : Int32)) + (((v0 - ((v0.toUInt32 >>> ((1 : Int32).toUInt32 &&& Int32.toUInt32 31)).toInt32 &&& (1431655765 : Int32))).toUInt32 >>> ((2 : Int32).toUInt32 &&& Int32.toUInt32 31)).toInt32 &&& (858993459 : Int32))) + ((((v0 - ((v0.toUInt32 >>> ((1 : Int32).toUInt32 &&& Int32.toUInt32 31)).toInt32 &&& (1431655765 : Int32))) &&& (858993459 : Int32)) + (((v0 - ((v0.toUInt32 >>> ((1 : Int32).toUInt32 &&& Int32.toUInt32 31)).toInt32 &&& (1431655765 : Int32))).toUInt32 >>> ((2 : Int32).toUInt32 &&& Int32.toUInt32 31)).toInt32 &&& (858993459 : Int32))).toUInt32 >>> ((4 : Int32).toUInt32 &&& Int32.toUInt32 31)).toInt32) &&& (252645135 : Int32)) + ((((((v0 - ((v0.toUInt32 >>> ((1 : Int32).toUInt32 &&& Int32.toUInt32 31)).toInt32 &&& (1431655765 : Int32))) &&& (858993459 : Int32)) + (((v0 - ((v0.toUInt32 >>> ((1 : Int32).toUInt32 &&& Int32.toUInt32 31)).toInt32 &&& (1431655765 : Int32))).toUInt32 >>> ((2 : Int32).toUInt32 &&& Int32.toUInt32 31)).toInt32 &&& (858993459 : Int32))) + ((((v0 - ((v0.toUInt32 >>> ((1 : Int32).toUInt32 &&& Int32.toUInt32 31)).toInt32 &&& (1431655765 : Int32))) &&& (858993459 : Int32)) + (((v0 - ((v0.toUInt32 >>> ((1 : Int32).toUInt32 &&& Int32.toUInt32 31)).toInt32 &&& (1431655765 : Int32))).toUInt32 >>> ((2 : Int32).toUInt32 &&& Int32.toUInt32 31)).toInt32 &&& (858993459 : Int32))).toUInt32 >>> ((4 : Int32).toUInt32 &&& Int32.toUInt32 31)).toInt32) &&& (252645135 : Int32)).toUInt32 >>> ((8 : Int32).toUInt32 &&& Int32.toUInt32 31)).toInt32))]) hx hb dJ6_bitCount_0f7a4_40 rfl hl (by decide) rfl (fun ls hl => ?_)
  refine lv_iload_n hx hb dJ6_bitCount_0f7a4_41 rfl (lv_at hl 0 rfl) ?_
  refine lv_iload_n hx hb dJ6_bitCount_0f7a4_42 rfl (lv_at hl 0 rfl) ?_
  refine lv_bipush (v := 16) hx hb dJ6_bitCount_0f7a4_43 (by decide) ?_
  refine lv_iushr hx hb dJ6_bitCount_0f7a4_45 rfl ?_
  refine lv_iadd hx hb dJ6_bitCount_0f7a4_46 ?_
  refine lv_istore_n (lv' := [(0, .int (((((((v0 - ((v0.toUInt32 >>> ((1 : Int32).toUInt32 &&& Int32.toUInt32 31)).toInt32 &&& (1431655765 : Int32))) &&& (858993459 : Int32)) + (((v0 - ((v0.toUInt32 >>> ((1 : Int32).toUInt32 &&& Int32.toUInt32 31)).toInt32 &&& (1431655765 : Int32))).toUInt32 >>> ((2 : Int32).toUInt32 &&& Int32.toUInt32 31)).toInt32 &&& (858993459 : Int32))) + ((((v0 - ((v0.toUInt32 >>> ((1 : Int32).toUInt32 &&& Int32.toUInt32 31)).toInt32 &&& (1431655765 : Int32))) &&& (858993459 : Int32)) + (((v0 - ((v0.toUInt32 >>> ((1 : Int32).toUInt32 &&& Int32.toUInt32 31)).toInt32 &&& (1431655765 : Int32))).toUInt32 >>> ((2 : Int32).toUInt32 &&& Int32.toUInt32 31)).toInt32 &&& (858993459 : Int32))).toUInt32 >>> ((4 : Int32).toUInt32 &&& Int32.toUInt32 31)).toInt32) &&& (252645135 : Int32)) + ((((((v0 - ((v0.toUInt32 >>> ((1 : Int32).toUInt32 &&& Int32.toUInt32 31)).toInt32 &&& (1431655765 : Int32))) &&& (858993459 : Int32)) + (((v0 - ((v0.toUInt32 >>> ((1 : Int32).toUInt32 &&& Int32.toUInt32 31)).toInt32 &&& (1431655765 : Int32))).toUInt32 >>> ((2 : Int32).toUInt32 &&& Int32.toUInt32 31)).toInt32 &&& (858993459 : Int32))) + ((((v0 - ((v0.toUInt32 >>> ((1 : Int32).toUInt32 &&& Int32.toUInt32 31)).toInt32 &&& (1431655765 : Int32))) &&& (858993459 : Int32)) + (((v0 - ((v0.toUInt32 >>> ((1 : Int32).toUInt32 &&& Int32.toUInt32 31)).toInt32 &&& (1431655765 : Int32))).toUInt32 >>> ((2 : Int32).toUInt32 &&& Int32.toUInt32 31)).toInt32 &&& (858993459 : Int32))).toUInt32 >>> ((4 : Int32).toUInt32 &&& Int32.toUInt32 31)).toInt32) &&& (252645135 : Int32)).toUInt32 >>> ((8 : Int32).toUInt32 &&& Int32.toUInt32 31)).toInt32) + (((((((v0 - ((v0.toUInt32 >>> ((1 : Int32).toUInt32 &&& Int32.toUInt32 31)).toInt32 &&& (1431655765 : Int32))) &&& (858993459 : Int32)) + (((v0 - ((v0.toUInt32 >>> ((1 : Int32).toUInt32 &&& Int32.toUInt32 31)).toInt32 &&& (1431655765 : Int32))).toUInt32 >>> ((2 : Int32).toUInt32 &&& Int32.toUInt32 31)).toInt32 &&& (858993459 : Int32))) + ((((v0 - ((v0.toUInt32 >>> ((1 : Int32).toUInt32 &&& Int32.toUInt32 31)).toInt32 &&& (1431655765 : Int32))) &&& (858993459 : Int32)) + (((v0 - ((v0.toUInt32 >>> ((1 : Int32).toUInt32 &&& Int32.toUInt32 31)).toInt32 &&& (1431655765 : Int32))).toUInt32 >>> ((2 : Int32).toUInt32 &&& Int32.toUInt32 31)).toInt32 &&& (858993459 : Int32))).toUInt32 >>> ((4 : Int32).toUInt32 &&& Int32.toUInt32 31)).toInt32) &&& (252645135 : Int32)) + ((((((v0 - ((v0.toUInt32 >>> ((1 : Int32).toUInt32 &&& Int32.toUInt32 31)).toInt32 &&& (1431655765 : Int32))) &&& (858993459 : Int32)) + (((v0 - ((v0.toUInt32 >>> ((1 : Int32).toUInt32 &&& Int32.toUInt32 31)).toInt32 &&& (1431655765 : Int32))).toUInt32 >>> ((2 : Int32).toUInt32 &&& Int32.toUInt32 31)).toInt32 &&& (858993459 : Int32))) + ((((v0 - ((v0.toUInt32 >>> ((1 : Int32).toUInt32 &&& Int32.toUInt32 31)).toInt32 &&& (1431655765 : Int32))) &&& (858993459 : Int32)) + (((v0 - ((v0.toUInt32 >>> ((1 : Int32).toUInt32 &&& Int32.toUInt32 31)).toInt32 &&& (1431655765 : Int32))).toUInt32 >>> ((2 : Int32).toUInt32 &&& Int32.toUInt32 31)).toInt32 &&& (858993459 : Int32))).toUInt32 >>> ((4 : Int32).toUInt32 &&& Int32.toUInt32 31)).toInt32) &&& (252645135 : Int32)).toUInt32 >>> ((8 : Int32).toUInt32 &&& Int32.toUInt32 31)).toInt32).toUInt32 >>> ((16 : Int32).toUInt32 &&& Int32.toUInt32 31)).toInt32))]) hx hb dJ6_bitCount_0f7a4_47 rfl hl (by decide) rfl (fun ls hl => ?_)
  refine lv_iload_n hx hb dJ6_bitCount_0f7a4_48 rfl (lv_at hl 0 rfl) ?_
  refine lv_bipush (v := 63) hx hb dJ6_bitCount_0f7a4_49 (by decide) ?_
  refine lv_iand hx hb dJ6_bitCount_0f7a4_51 ?_
  exact g_iret G hW hF dJ6_bitCount_0f7a4_52
end WJ6_bitCount_0f7a4
theorem c_J6_bitCount_0f7a4 {Z : Nat} {l : Launch} {D : va_G} {dA : Nat → ClassId} {α : Nat → Nat → Nat} (hI : Inj Z α) {v0 : Int32} {σ σz : sm_M} {r : Int32} (hF : f_J6_bitCount_0f7a4 v0 σ = some (r, σz)) : gM l D dA Z α yJ6_bitCount_0f7a4 cJ6_bitCount_0f7a4 1 (some .int) 0 [.int v0] σ (some (.int r)) σz :=
  g_met hI (by decide +kernel) (Nat.le_of_ble_eq_true rfl) (fun p e s m below meth c ls G hW hl => w_J6_bitCount_0f7a4_0 G _ _ hF _ _ _ hW hl)
section KJ6_bitCount_0f7a4
variable {p : Program} {l : Launch} {e : Env} {R : Room} {s : State} {m : MethodId} {args : Array Value} {below : List Frame} {meth : Method} {c : Code} {H : Heap} {locs : List Loc} {cells slots : Nat} {Q : State → Prop}
variable {cc : ByteArray} {pc nL Z : Nat} {ls : Array Slot} {rest : List Value} {D : va_G} {dA : Nat → ClassId} {α : Nat → Nat → Nat} {H0 : Heap} {σ σ' : sm_M} {ret : Option FieldType} {own nm : String}
theorem kk_X5_246 (G : gx p s m meth c args cc nL ret RX5 nm D dA) (hW : Wd D dA Z α H0 σ H locs) {v0 : Int32} {q : Int32 × sm_M} (hq : f_J6_bitCount_0f7a4 v0 σ = some q) (hls : ls.size = nL) (hR : 0 + 1 ≤ R.frames ∧ 8 + (1 + 11) + 44 * 0 ≤ R.locals) (hf : cells ≤ R.cells ∧ slots ≤ R.slots) (hcat : (rest.map fun v => v.category).sum ≤ 8) (hdg : decode cc pc = .ok (.invokestatic 246, 3)) (kk : ∀ (H1 : Heap) (locs1 : List Loc), Wd D dA Z α H0 q.2 H1 locs1 → W p l e R s m args below meth c H1 locs1 cells slots Q (F0 m (pc + 3) ls (.int q.1 :: rest))) : W p l e R s m args below meth c H locs cells slots Q (F0 m pc ls (.int v0 :: rest)) :=
  g_cS (n := 1) G (c_J6_bitCount_0f7a4 (l := l) hW.2.2.2 hq) ⟨wm_17_16, wm_17_17, wm_17_18, wm_17_19⟩ (by decide +kernel) hW hR hf rfl hls rfl hcat hdg kk
end KJ6_bitCount_0f7a4
section WX5_beginAgain
variable {p : Program} {l : Launch} {e : Env} {s : State} {m : MethodId} {args : Array Value} {below : List Frame} {meth : Method} {c : Code} {D : va_G} {dA : Nat → ClassId} {α : Nat → Nat → Nat}
set_option maxHeartbeats 4000000 in
set_option maxRecDepth 100000 in
theorem w_X5_beginAgain_0 (G : gx p s m meth c args cX5_beginAgain 5 (some .int) RX5 "beginAgain" D dA) {r : Int32} {σz : sm_M} : ∀ (v1 : Int32) (v2 : Int32) (σ : sm_M), f_X5_beginAgain v1 v2 σ = some (r, σz) → ∀ (H : Heap) (locs : List Loc) (ls : Array Slot), Wd D dA 0 α s.heap σ H locs → lv_has ls 5 [(0, .ref (α 0 0)), (1, .int v1), (2, .int v2)] → gW 4 p l e s m args below meth c D dA 0 α (some (.int r)) σz H locs (F0 m 0 ls []) := by
  obtain ⟨hx, hb, hr, hlk, hml, hown, hnm, hts, hK, hNw⟩ := id G
  intro v1 v2 σ hF H locs ls hW hl
  rw [f_X5_beginAgain] at hF
  refine lv_aload_n hx hb dX5_beginAgain_0 rfl (lv_at hl 0 rfl) ?_
  refine gg_X5_10 G hW (by decide) dX5_beginAgain_1 ?_
  refine lv_iload_n hx hb dX5_beginAgain_4 rfl (lv_at hl 1 rfl) ?_
  obtain ⟨q1, hq1, hF⟩ := o_b hF
  refine kk_X5_181 G hW hq1 hl.1 ⟨Nat.le_of_ble_eq_true rfl, Nat.le_of_ble_eq_true rfl⟩ ⟨Nat.le_refl _, Nat.le_refl _⟩ (Nat.le_of_ble_eq_true rfl) dX5_beginAgain_5 (fun H locs hW => ?_)
  refine lv_istore_n (lv' := [(3, .int q1.1), (0, .ref (α 0 0)), (1, .int v1), (2, .int v2)]) hx hb dX5_beginAgain_8 rfl hl (by decide) rfl (fun ls hl => ?_)
  refine lv_aload_n hx hb dX5_beginAgain_9 rfl (lv_at hl 1 rfl) ?_
  refine gg_X5_10 G hW (by decide) dX5_beginAgain_10 ?_
  refine lv_iload_n hx hb dX5_beginAgain_13 rfl (lv_at hl 0 rfl) ?_
  refine lv_aload_n hx hb dX5_beginAgain_14 rfl (lv_at hl 1 rfl) ?_
  refine gg_X5_88 G hW (by decide) dX5_beginAgain_15 ?_
  refine lv_iload_n hx hb dX5_beginAgain_18 rfl (lv_at hl 3 rfl) ?_
  obtain ⟨q2, hq2, hF⟩ := o_b hF
  refine kk_X5_298 G hW hq2 hl.1 ⟨Nat.le_of_ble_eq_true rfl, Nat.le_of_ble_eq_true rfl⟩ ⟨Nat.le_refl _, Nat.le_refl _⟩ (Nat.le_of_ble_eq_true rfl) dX5_beginAgain_19 (fun H locs hW => ?_)
  refine lv_iadd hx hb dX5_beginAgain_22 ?_
  obtain ⟨q3, hq3, hF⟩ := o_b hF
  refine kk_X5_301 G hW hq3 hl.1 ⟨Nat.le_of_ble_eq_true rfl, Nat.le_of_ble_eq_true rfl⟩ ⟨Nat.le_refl _, Nat.le_refl _⟩ (Nat.le_of_ble_eq_true rfl) dX5_beginAgain_23 (fun H locs hW => ?_)
  refine lv_iload_n hx hb dX5_beginAgain_26 rfl (lv_at hl 0 rfl) ?_
  obtain ⟨q4, hq4, hF⟩ := o_b hF
  refine kk_X5_246 G hW hq4 hl.1 ⟨Nat.le_of_ble_eq_true rfl, Nat.le_of_ble_eq_true rfl⟩ ⟨Nat.le_refl _, Nat.le_refl _⟩ (Nat.le_of_ble_eq_true rfl) dX5_beginAgain_27 (fun H locs hW => ?_)
  refine lv_istore (lv' := [(4, .int q4.1), (3, .int q1.1), (0, .ref (α 0 0)), (1, .int v1), (2, .int v2)]) hx hb dX5_beginAgain_30 hl (by decide) rfl (fun ls hl => ?_)
  refine lv_aload_n hx hb dX5_beginAgain_32 rfl (lv_at hl 2 rfl) ?_
  refine lv_dup hx hb dX5_beginAgain_33 rfl ?_
  refine gg_X5_251 G hW (by decide) dX5_beginAgain_34 ?_
  refine lv_iload hx hb dX5_beginAgain_37 (lv_at hl 0 rfl) ?_
  refine lv_iadd hx hb dX5_beginAgain_39 ?_
  obtain ⟨σ5, hσ5, hF⟩ := o_b hF
  refine pp_X5_251 G hW (by decide) hσ5 dX5_beginAgain_40 (fun H locs hW => ?_)
  refine lv_iload hx hb dX5_beginAgain_43 (lv_at hl 0 rfl) ?_
  exact g_iret G hW hF dX5_beginAgain_45
end WX5_beginAgain
theorem c_X5_beginAgain {l : Launch} {D : va_G} {dA : Nat → ClassId} {α : Nat → Nat → Nat} (hI : Inj 0 α) {v1 : Int32} {v2 : Int32} {σ σz : sm_M} {r : Int32} (hF : f_X5_beginAgain v1 v2 σ = some (r, σz)) : gM l D dA 0 α yX5_beginAgain cX5_beginAgain 5 (some .int) 4 [.ref (α 0 0), .int v1, .int v2] σ (some (.int r)) σz :=
  g_met hI (by decide +kernel) (Nat.le_of_ble_eq_true rfl) (fun p e s m below meth c ls G hW hl => w_X5_beginAgain_0 G _ _ _ hF _ _ _ hW hl)
section KX5_beginAgain
variable {p : Program} {l : Launch} {e : Env} {R : Room} {s : State} {m : MethodId} {args : Array Value} {below : List Frame} {meth : Method} {c : Code} {H : Heap} {locs : List Loc} {cells slots : Nat} {Q : State → Prop}
variable {cc : ByteArray} {pc nL Z : Nat} {ls : Array Slot} {rest : List Value} {D : va_G} {dA : Nat → ClassId} {α : Nat → Nat → Nat} {H0 : Heap} {σ σ' : sm_M} {ret : Option FieldType} {own nm : String}
theorem kk_X5_136 (G : gx p s m meth c args cc nL ret RX5 nm D dA) (hW : Wd D dA 0 α H0 σ H locs) {v1 : Int32} {v2 : Int32} {q : Int32 × sm_M} (hq : f_X5_beginAgain v1 v2 σ = some q) (hls : ls.size = nL) (hR : 4 + 1 ≤ R.frames ∧ 8 + (5 + 11) + 44 * 4 ≤ R.locals) (hf : cells ≤ R.cells ∧ slots ≤ R.slots) (hcat : (rest.map fun v => v.category).sum ≤ 8) (hdg : decode cc pc = .ok (.invokevirtual 136, 3)) (kk : ∀ (H1 : Heap) (locs1 : List Loc), Wd D dA 0 α H0 q.2 H1 locs1 → W p l e R s m args below meth c H1 locs1 cells slots Q (F0 m (pc + 3) ls (.int q.1 :: rest))) : W p l e R s m args below meth c H locs cells slots Q (F0 m pc ls (.int v2 :: .int v1 :: .ref (α 0 0) :: rest)) :=
  g_cV (n := 2) G (c_X5_beginAgain (l := l) hW.2.2.2 hq) ⟨wm_15_18, wm_15_19, wm_15_20, wm_1_2, wm_15_21⟩ (by decide +kernel) hW (g_recv (φ := 0) (ci := 5) G.2.2.2.2.2.2.2.2.1 rfl rfl rfl (by decide) hW.1 rfl) hR hf rfl hls rfl hcat hdg kk
end KX5_beginAgain
