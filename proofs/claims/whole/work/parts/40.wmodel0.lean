section WX6_in
variable {p : Program} {l : Launch} {e : Env} {s : State} {m : MethodId} {args : Array Value} {below : List Frame} {meth : Method} {c : Code} {D : va_G} {dA : Nat → ClassId} {α : Nat → Nat → Nat}
set_option maxHeartbeats 4000000 in
set_option maxRecDepth 100000 in
theorem w_X6_in_15 (G : gx p s m meth c args cX6_in 3 (some .boolean) RX6 "in" D dA) {r : Int32} {σz : sm_M} : ∀ (s0 : Int32) (σ : sm_M), f_X6_in_15 s0 σ = some (r, σz) → ∀ (H : Heap) (locs : List Loc) (ls : Array Slot), Wd D dA 1 α s.heap σ H locs → lv_has ls 3 [] → gW 0 p l e s m args below meth c D dA 1 α (some (.int r)) σz H locs (F0 m 15 ls [.int s0]) := by
  obtain ⟨hx, hb, hr, hlk, hml, hown, hnm, hts, hK, hNw⟩ := id G
  intro s0 σ hF H locs ls hW hl
  rw [f_X6_in_15] at hF
  exact g_zret G hW hF dX6_in_15
set_option maxHeartbeats 4000000 in
set_option maxRecDepth 100000 in
theorem w_X6_in_14 (G : gx p s m meth c args cX6_in 3 (some .boolean) RX6 "in" D dA) {r : Int32} {σz : sm_M} : ∀ (σ : sm_M), f_X6_in_14 σ = some (r, σz) → ∀ (H : Heap) (locs : List Loc) (ls : Array Slot), Wd D dA 1 α s.heap σ H locs → lv_has ls 3 [] → gW 0 p l e s m args below meth c D dA 1 α (some (.int r)) σz H locs (F0 m 14 ls []) := by
  obtain ⟨hx, hb, hr, hlk, hml, hown, hnm, hts, hK, hNw⟩ := id G
  intro σ hF H locs ls hW hl
  rw [f_X6_in_14] at hF
  refine lv_iconst (v := 0) hx hb dX6_in_14 (by decide) ?_
  exact w_X6_in_15 G _ _ hF H locs ls hW (lv_sub hl [] rfl)
set_option maxHeartbeats 4000000 in
set_option maxRecDepth 100000 in
theorem w_X6_in_0 (G : gx p s m meth c args cX6_in 3 (some .boolean) RX6 "in" D dA) {r : Int32} {σz : sm_M} : ∀ (v0 : Int32) (v1 : Int32) (v2 : Int32) (σ : sm_M), f_X6_in v0 v1 v2 σ = some (r, σz) → ∀ (H : Heap) (locs : List Loc) (ls : Array Slot), Wd D dA 1 α s.heap σ H locs → lv_has ls 3 [(0, .int v0), (1, .int v1), (2, .int v2)] → gW 0 p l e s m args below meth c D dA 1 α (some (.int r)) σz H locs (F0 m 0 ls []) := by
  obtain ⟨hx, hb, hr, hlk, hml, hown, hnm, hts, hK, hNw⟩ := id G
  intro v0 v1 v2 σ hF H locs ls hW hl
  rw [f_X6_in] at hF
  refine lv_iload_n hx hb dX6_in_0 rfl (lv_at hl 0 rfl) ?_
  refine lv_iload_n hx hb dX6_in_1 rfl (lv_at hl 1 rfl) ?_
  refine lv_icmp_lt (tgt := 14) hx hb dX6_in_2 (by decide) (fun hc => ?_) (fun hc => ?_)
  · replace hF := o_t hc hF
    exact w_X6_in_14 G  _ hF H locs ls hW (lv_sub hl [] rfl)
  · replace hF := o_f hc hF
    refine lv_iload_n hx hb dX6_in_5 rfl (lv_at hl 0 rfl) ?_
    refine lv_iload_n hx hb dX6_in_6 rfl (lv_at hl 2 rfl) ?_
    refine lv_icmp_gt (tgt := 14) hx hb dX6_in_7 (by decide) (fun hc => ?_) (fun hc => ?_)
    · replace hF := o_t hc hF
      exact w_X6_in_14 G  _ hF H locs ls hW (lv_sub hl [] rfl)
    · replace hF := o_f hc hF
      refine lv_iconst (v := 1) hx hb dX6_in_10 (by decide) ?_
      refine lv_goto (tgt := 15) hx hb dX6_in_11 (by decide) ?_
      exact w_X6_in_15 G _ _ hF H locs ls hW (lv_sub hl [] rfl)
end WX6_in
theorem c_X6_in {l : Launch} {D : va_G} {dA : Nat → ClassId} {α : Nat → Nat → Nat} (hI : Inj 1 α) {v0 : Int32} {v1 : Int32} {v2 : Int32} {σ σz : sm_M} {r : Int32} (hF : f_X6_in v0 v1 v2 σ = some (r, σz)) : gM l D dA 1 α yX6_in cX6_in 3 (some .boolean) 0 [.int v0, .int v1, .int v2] σ (some (.int r)) σz :=
  g_met hI (by decide +kernel) (Nat.le_of_ble_eq_true rfl) (fun p e s m below meth c ls G hW hl => w_X6_in_0 G _ _ _ _ hF _ _ _ hW hl)
section KX6_in
variable {p : Program} {l : Launch} {e : Env} {R : Room} {s : State} {m : MethodId} {args : Array Value} {below : List Frame} {meth : Method} {c : Code} {H : Heap} {locs : List Loc} {cells slots : Nat} {Q : State → Prop}
variable {cc : ByteArray} {pc nL Z : Nat} {ls : Array Slot} {rest : List Value} {D : va_G} {dA : Nat → ClassId} {α : Nat → Nat → Nat} {H0 : Heap} {σ σ' : sm_M} {ret : Option FieldType} {own nm : String}
theorem kk_X6_169 (G : gx p s m meth c args cc nL ret RX6 nm D dA) (hW : Wd D dA 1 α H0 σ H locs) {v0 : Int32} {v1 : Int32} {v2 : Int32} {q : Int32 × sm_M} (hq : f_X6_in v0 v1 v2 σ = some q) (hls : ls.size = nL) (hR : 0 + 1 ≤ R.frames ∧ 8 + (3 + 11) + 44 * 0 ≤ R.locals) (hf : cells ≤ R.cells ∧ slots ≤ R.slots) (hcat : (rest.map fun v => v.category).sum ≤ 8) (hdg : decode cc pc = .ok (.invokestatic 169, 3)) (kk : ∀ (H1 : Heap) (locs1 : List Loc), Wd D dA 1 α H0 q.2 H1 locs1 → W p l e R s m args below meth c H1 locs1 cells slots Q (F0 m (pc + 3) ls (.int q.1 :: rest))) : W p l e R s m args below meth c H locs cells slots Q (F0 m pc ls (.int v2 :: .int v1 :: .int v0 :: rest)) :=
  g_cS (n := 3) G (c_X6_in (l := l) hW.2.2.2 hq) ⟨wm_8_12, wm_8_13, wm_1_5, wm_8_14⟩ (by decide +kernel) hW hR hf rfl hls rfl hcat hdg kk
end KX6_in
section WX6_begin
variable {p : Program} {l : Launch} {e : Env} {s : State} {m : MethodId} {args : Array Value} {below : List Frame} {meth : Method} {c : Code} {D : va_G} {dA : Nat → ClassId} {α : Nat → Nat → Nat}
set_option maxHeartbeats 4000000 in
set_option maxRecDepth 100000 in
theorem w_X6_begin_30 (G : gx p s m meth c args cX6_begin 2 none RX6 "begin" D dA) {σz : sm_M} : ∀ (σ : sm_M), f_X6_begin_30 σ = some σz → ∀ (H : Heap) (locs : List Loc) (ls : Array Slot), Wd D dA 1 α s.heap σ H locs → lv_has ls 2 [(0, .ref (α 20 0))] → gW 0 p l e s m args below meth c D dA 1 α none σz H locs (F0 m 30 ls []) := by
  obtain ⟨hx, hb, hr, hlk, hml, hown, hnm, hts, hK, hNw⟩ := id G
  intro σ hF H locs ls hW hl
  rw [f_X6_begin_30] at hF
  refine lv_aload_n hx hb dX6_begin_30 rfl (lv_at hl 0 rfl) ?_
  refine lv_iconst (v := 3) hx hb dX6_begin_31 (by decide) ?_
  obtain ⟨σ1, hσ1, hF⟩ := o_b hF
  refine pp_X6_138 G hW (by decide) hσ1 dX6_begin_32 (fun H locs hW => ?_)
  refine lv_aload_n hx hb dX6_begin_35 rfl (lv_at hl 0 rfl) ?_
  refine lv_iconst (v := 0) hx hb dX6_begin_36 (by decide) ?_
  obtain ⟨σ2, hσ2, hF⟩ := o_b hF
  refine pp_X6_141 G hW (by decide) hσ2 dX6_begin_37 (fun H locs hW => ?_)
  refine lv_aload_n hx hb dX6_begin_40 rfl (lv_at hl 0 rfl) ?_
  refine lv_iconst (v := 1) hx hb dX6_begin_41 (by decide) ?_
  obtain ⟨σ3, hσ3, hF⟩ := o_b hF
  refine pp_X6_145 G hW (by decide) hσ3 dX6_begin_42 (fun H locs hW => ?_)
  refine lv_aload_n hx hb dX6_begin_45 rfl (lv_at hl 0 rfl) ?_
  refine lv_iconst (v := 0) hx hb dX6_begin_46 (by decide) ?_
  obtain ⟨σ4, hσ4, hF⟩ := o_b hF
  refine pp_X6_148 G hW (by decide) hσ4 dX6_begin_47 (fun H locs hW => ?_)
  refine lv_aload_n hx hb dX6_begin_50 rfl (lv_at hl 0 rfl) ?_
  refine lv_iconst (v := 0) hx hb dX6_begin_51 (by decide) ?_
  obtain ⟨σ5, hσ5, hF⟩ := o_b hF
  refine pp_X6_151 G hW (by decide) hσ5 dX6_begin_52 (fun H locs hW => ?_)
  refine lv_aload_n hx hb dX6_begin_55 rfl (lv_at hl 0 rfl) ?_
  refine lv_iconst (v := 0) hx hb dX6_begin_56 (by decide) ?_
  obtain ⟨σ6, hσ6, hF⟩ := o_b hF
  refine pp_X6_154 G hW (by decide) hσ6 dX6_begin_57 (fun H locs hW => ?_)
  refine lv_aload_n hx hb dX6_begin_60 rfl (lv_at hl 0 rfl) ?_
  refine lv_iconst (v := 0) hx hb dX6_begin_61 (by decide) ?_
  obtain ⟨σ7, hσ7, hF⟩ := o_b hF
  refine pp_X6_157 G hW (by decide) hσ7 dX6_begin_62 (fun H locs hW => ?_)
  refine lv_aload_n hx hb dX6_begin_65 rfl (lv_at hl 0 rfl) ?_
  refine lv_iconst (v := 0) hx hb dX6_begin_66 (by decide) ?_
  obtain ⟨σ8, hσ8, hF⟩ := o_b hF
  refine pp_X6_160 G hW (by decide) hσ8 dX6_begin_67 (fun H locs hW => ?_)
  refine lv_aload_n hx hb dX6_begin_70 rfl (lv_at hl 0 rfl) ?_
  refine lv_iconst (v := 0) hx hb dX6_begin_71 (by decide) ?_
  obtain ⟨σ9, hσ9, hF⟩ := o_b hF
  refine pp_X6_163 G hW (by decide) hσ9 dX6_begin_72 (fun H locs hW => ?_)
  refine lv_aload_n hx hb dX6_begin_75 rfl (lv_at hl 0 rfl) ?_
  refine lv_iconst (v := 0) hx hb dX6_begin_76 (by decide) ?_
  obtain ⟨σ10, hσ10, hF⟩ := o_b hF
  refine pp_X6_166 G hW (by decide) hσ10 dX6_begin_77 (fun H locs hW => ?_)
  exact g_vret G hW hF dX6_begin_80
set_option maxHeartbeats 4000000 in
set_option maxRecDepth 100000 in
theorem w_X6_begin_12 (G : gx p s m meth c args cX6_begin 2 none RX6 "begin" D dA) {σz : sm_M} : ∀ (n : Nat) (v1 : Int32) (σ : sm_M), f_X6_begin_12 n v1 σ = some σz → ∀ (H : Heap) (locs : List Loc) (ls : Array Slot), Wd D dA 1 α s.heap σ H locs → lv_has ls 2 [(0, .ref (α 20 0)), (1, .int v1)] → gW 0 p l e s m args below meth c D dA 1 α none σz H locs (F0 m 12 ls []) := by
  obtain ⟨hx, hb, hr, hlk, hml, hown, hnm, hts, hK, hNw⟩ := id G
  intro n
  induction n with
  | zero => intro v1 σ hF; exact absurd hF (by intro h; cases h)
  | succ n ih =>
    intro v1 σ hF H locs ls hW hl
    rw [f_X6_begin_12] at hF
    refine lv_iload_n hx hb dX6_begin_12 rfl (lv_at hl 1 rfl) ?_
    refine lv_iconst (v := 4) hx hb dX6_begin_13 (by decide) ?_
    refine lv_icmp_ge (tgt := 30) hx hb dX6_begin_14 (by decide) (fun hc => ?_) (fun hc => ?_)
    · replace hF := o_t hc hF
      exact w_X6_begin_30 G  _ hF H locs ls hW (lv_sub hl [0] rfl)
    · replace hF := o_f hc hF
      refine lv_aload_n hx hb dX6_begin_17 rfl (lv_at hl 0 rfl) ?_
      refine gg_X6_98 G hW (by decide) dX6_begin_18 ?_
      refine lv_iload_n hx hb dX6_begin_21 rfl (lv_at hl 1 rfl) ?_
      refine lv_iconst (v := 0) hx hb dX6_begin_22 (by decide) ?_
      obtain ⟨σ1, hσ1, hF⟩ := o_b hF
      refine g_uZ (φ := 50) G rfl rfl (by decide) rfl hW (by decide) hσ1 dX6_begin_23 (fun H locs hW => ?_)
      refine lv_iinc (v := (v1 + 1)) (lv' := [(1, .int (v1 + 1)), (0, .ref (α 20 0))]) hx hb dX6_begin_24 hl (k := 1) rfl rfl (by decide) rfl (fun ls hl => ?_)
      refine lv_goto (tgt := 12) hx hb dX6_begin_27 (by decide) ?_
      exact ih _ _ hF H locs ls hW (lv_sub hl [1, 0] rfl)
set_option maxHeartbeats 4000000 in
set_option maxRecDepth 100000 in
theorem w_X6_begin_0 (G : gx p s m meth c args cX6_begin 2 none RX6 "begin" D dA) {σz : sm_M} : ∀ (σ : sm_M), f_X6_begin σ = some σz → ∀ (H : Heap) (locs : List Loc) (ls : Array Slot), Wd D dA 1 α s.heap σ H locs → lv_has ls 2 [(0, .ref (α 20 0))] → gW 0 p l e s m args below meth c D dA 1 α none σz H locs (F0 m 0 ls []) := by
  obtain ⟨hx, hb, hr, hlk, hml, hown, hnm, hts, hK, hNw⟩ := id G
  intro σ hF H locs ls hW hl
  rw [f_X6_begin] at hF
  refine lv_aload_n hx hb dX6_begin_0 rfl (lv_at hl 0 rfl) ?_
  refine lv_iconst (v := 0) hx hb dX6_begin_1 (by decide) ?_
  obtain ⟨σ1, hσ1, hF⟩ := o_b hF
  refine pp_X6_131 G hW (by decide) hσ1 dX6_begin_2 (fun H locs hW => ?_)
  refine lv_aload_n hx hb dX6_begin_5 rfl (lv_at hl 0 rfl) ?_
  refine lv_iconst (v := 0) hx hb dX6_begin_6 (by decide) ?_
  obtain ⟨σ2, hσ2, hF⟩ := o_b hF
  refine pp_X6_135 G hW (by decide) hσ2 dX6_begin_7 (fun H locs hW => ?_)
  refine lv_iconst (v := 0) hx hb dX6_begin_10 (by decide) ?_
  refine lv_istore_n (lv' := [(1, .int (0 : Int32)), (0, .ref (α 20 0))]) hx hb dX6_begin_11 rfl hl (by decide) rfl (fun ls hl => ?_)
  exact w_X6_begin_12 G 1000 _ _ hF H locs ls hW (lv_sub hl [1, 0] rfl)
end WX6_begin
theorem c_X6_begin {l : Launch} {D : va_G} {dA : Nat → ClassId} {α : Nat → Nat → Nat} (hI : Inj 1 α) {σ σz : sm_M} (hF : f_X6_begin σ = some σz) : gM l D dA 1 α yX6_begin cX6_begin 2 none 0 [.ref (α 20 0)] σ none σz :=
  g_met hI (by decide +kernel) (Nat.le_of_ble_eq_true rfl) (fun p e s m below meth c ls G hW hl => w_X6_begin_0 G  _ hF _ _ _ hW hl)
section KX6_begin
variable {p : Program} {l : Launch} {e : Env} {R : Room} {s : State} {m : MethodId} {args : Array Value} {below : List Frame} {meth : Method} {c : Code} {H : Heap} {locs : List Loc} {cells slots : Nat} {Q : State → Prop}
variable {cc : ByteArray} {pc nL Z : Nat} {ls : Array Slot} {rest : List Value} {D : va_G} {dA : Nat → ClassId} {α : Nat → Nat → Nat} {H0 : Heap} {σ σ' : sm_M} {ret : Option FieldType} {own nm : String}
theorem kk_X6_128 (G : gx p s m meth c args cc nL ret RX6 nm D dA) (hW : Wd D dA 1 α H0 σ H locs) {q : sm_M} (hq : f_X6_begin σ = some q) (hls : ls.size = nL) (hR : 0 + 1 ≤ R.frames ∧ 8 + (2 + 11) + 44 * 0 ≤ R.locals) (hf : cells ≤ R.cells ∧ slots ≤ R.slots) (hcat : (rest.map fun v => v.category).sum ≤ 8) (hdg : decode cc pc = .ok (.invokevirtual 128, 3)) (kk : ∀ (H1 : Heap) (locs1 : List Loc), Wd D dA 1 α H0 q H1 locs1 → W p l e R s m args below meth c H1 locs1 cells slots Q (F0 m (pc + 3) ls rest)) : W p l e R s m args below meth c H locs cells slots Q (F0 m pc ls (.ref (α 20 0) :: rest)) :=
  g_cV (n := 0) G (c_X6_begin (l := l) hW.2.2.2 hq) ⟨wm_5_22, wm_5_23, wm_6_0, wm_1_5, wm_6_1⟩ (by decide +kernel) hW (g_recv (φ := 20) (ci := 6) G.2.2.2.2.2.2.2.2.1 rfl rfl rfl (by decide) hW.1 rfl) hR hf rfl hls rfl hcat hdg kk
end KX6_begin
section WX6_noTask
variable {p : Program} {l : Launch} {e : Env} {s : State} {m : MethodId} {args : Array Value} {below : List Frame} {meth : Method} {c : Code} {D : va_G} {dA : Nat → ClassId} {α : Nat → Nat → Nat}
set_option maxHeartbeats 4000000 in
set_option maxRecDepth 100000 in
theorem w_X6_noTask_19 (G : gx p s m meth c args cX6_noTask 2 (some .boolean) RX6 "noTask" D dA) {r : Int32} {σz : sm_M} : ∀ (s0 : Int32) (σ : sm_M), f_X6_noTask_19 s0 σ = some (r, σz) → ∀ (H : Heap) (locs : List Loc) (ls : Array Slot), Wd D dA 1 α s.heap σ H locs → lv_has ls 2 [] → gW 1 p l e s m args below meth c D dA 1 α (some (.int r)) σz H locs (F0 m 19 ls [.int s0]) := by
  obtain ⟨hx, hb, hr, hlk, hml, hown, hnm, hts, hK, hNw⟩ := id G
  intro s0 σ hF H locs ls hW hl
  rw [f_X6_noTask_19] at hF
  exact g_zret G hW hF dX6_noTask_19
set_option maxHeartbeats 4000000 in
set_option maxRecDepth 100000 in
theorem w_X6_noTask_0 (G : gx p s m meth c args cX6_noTask 2 (some .boolean) RX6 "noTask" D dA) {r : Int32} {σz : sm_M} : ∀ (v1 : Int32) (σ : sm_M), f_X6_noTask v1 σ = some (r, σz) → ∀ (H : Heap) (locs : List Loc) (ls : Array Slot), Wd D dA 1 α s.heap σ H locs → lv_has ls 2 [(0, .ref (α 20 0)), (1, .int v1)] → gW 1 p l e s m args below meth c D dA 1 α (some (.int r)) σz H locs (F0 m 0 ls []) := by
  obtain ⟨hx, hb, hr, hlk, hml, hown, hnm, hts, hK, hNw⟩ := id G
  intro v1 σ hF H locs ls hW hl
  rw [f_X6_noTask] at hF
  refine lv_iload_n hx hb dX6_noTask_0 rfl (lv_at hl 1 rfl) ?_
  refine lv_iconst (v := 0) hx hb dX6_noTask_1 (by decide) ?_
  refine lv_aload_n hx hb dX6_noTask_2 rfl (lv_at hl 0 rfl) ?_
  refine gg_X6_131 G hW (by decide) dX6_noTask_3 ?_
  refine lv_iconst (v := 1) hx hb dX6_noTask_6 (by decide) ?_
  refine lv_isub hx hb dX6_noTask_7 ?_
  obtain ⟨q1, hq1, hF⟩ := o_b hF
  refine kk_X6_169 G hW hq1 hl.1 ⟨Nat.le_of_ble_eq_true rfl, Nat.le_of_ble_eq_true rfl⟩ ⟨Nat.le_refl _, Nat.le_refl _⟩ (Nat.le_of_ble_eq_true rfl) dX6_noTask_8 (fun H locs hW => ?_)
  refine lv_if_ne (tgt := 18) hx hb dX6_noTask_11 (by decide) (fun hc => ?_) (fun hc => ?_)
  · replace hF := o_f hc hF
    refine lv_iconst (v := 0) hx hb dX6_noTask_18 (by decide) ?_
    exact w_X6_noTask_19 G _ _ hF H locs ls hW (lv_sub hl [] rfl)
  · replace hF := o_t hc hF
    refine lv_iconst (v := 1) hx hb dX6_noTask_14 (by decide) ?_
    refine lv_goto (tgt := 19) hx hb dX6_noTask_15 (by decide) ?_
    exact w_X6_noTask_19 G _ _ hF H locs ls hW (lv_sub hl [] rfl)
end WX6_noTask
theorem c_X6_noTask {l : Launch} {D : va_G} {dA : Nat → ClassId} {α : Nat → Nat → Nat} (hI : Inj 1 α) {v1 : Int32} {σ σz : sm_M} {r : Int32} (hF : f_X6_noTask v1 σ = some (r, σz)) : gM l D dA 1 α yX6_noTask cX6_noTask 2 (some .boolean) 1 [.ref (α 20 0), .int v1] σ (some (.int r)) σz :=
  g_met hI (by decide +kernel) (Nat.le_of_ble_eq_true rfl) (fun p e s m below meth c ls G hW hl => w_X6_noTask_0 G _ _ hF _ _ _ hW hl)
section KX6_noTask
variable {p : Program} {l : Launch} {e : Env} {R : Room} {s : State} {m : MethodId} {args : Array Value} {below : List Frame} {meth : Method} {c : Code} {H : Heap} {locs : List Loc} {cells slots : Nat} {Q : State → Prop}
variable {cc : ByteArray} {pc nL Z : Nat} {ls : Array Slot} {rest : List Value} {D : va_G} {dA : Nat → ClassId} {α : Nat → Nat → Nat} {H0 : Heap} {σ σ' : sm_M} {ret : Option FieldType} {own nm : String}
theorem kk_X6_177 (G : gx p s m meth c args cc nL ret RX6 nm D dA) (hW : Wd D dA 1 α H0 σ H locs) {v1 : Int32} {q : Int32 × sm_M} (hq : f_X6_noTask v1 σ = some q) (hls : ls.size = nL) (hR : 1 + 1 ≤ R.frames ∧ 8 + (2 + 11) + 44 * 1 ≤ R.locals) (hf : cells ≤ R.cells ∧ slots ≤ R.slots) (hcat : (rest.map fun v => v.category).sum ≤ 8) (hdg : decode cc pc = .ok (.invokevirtual 177, 3)) (kk : ∀ (H1 : Heap) (locs1 : List Loc), Wd D dA 1 α H0 q.2 H1 locs1 → W p l e R s m args below meth c H1 locs1 cells slots Q (F0 m (pc + 3) ls (.int q.1 :: rest))) : W p l e R s m args below meth c H locs cells slots Q (F0 m pc ls (.int v1 :: .ref (α 20 0) :: rest)) :=
  g_cV (n := 1) G (c_X6_noTask (l := l) hW.2.2.2 hq) ⟨wm_10_6, wm_10_7, wm_10_8, wm_1_5, wm_10_9⟩ (by decide +kernel) hW (g_recv (φ := 20) (ci := 6) G.2.2.2.2.2.2.2.2.1 rfl rfl rfl (by decide) hW.1 rfl) hR hf rfl hls rfl hcat hdg kk
end KX6_noTask
section WX6_noChannel
variable {p : Program} {l : Launch} {e : Env} {s : State} {m : MethodId} {args : Array Value} {below : List Frame} {meth : Method} {c : Code} {D : va_G} {dA : Nat → ClassId} {α : Nat → Nat → Nat}
set_option maxHeartbeats 4000000 in
set_option maxRecDepth 100000 in
theorem w_X6_noChannel_19 (G : gx p s m meth c args cX6_noChannel 2 (some .boolean) RX6 "noChannel" D dA) {r : Int32} {σz : sm_M} : ∀ (s0 : Int32) (σ : sm_M), f_X6_noChannel_19 s0 σ = some (r, σz) → ∀ (H : Heap) (locs : List Loc) (ls : Array Slot), Wd D dA 1 α s.heap σ H locs → lv_has ls 2 [] → gW 1 p l e s m args below meth c D dA 1 α (some (.int r)) σz H locs (F0 m 19 ls [.int s0]) := by
  obtain ⟨hx, hb, hr, hlk, hml, hown, hnm, hts, hK, hNw⟩ := id G
  intro s0 σ hF H locs ls hW hl
  rw [f_X6_noChannel_19] at hF
  exact g_zret G hW hF dX6_noChannel_19
set_option maxHeartbeats 4000000 in
set_option maxRecDepth 100000 in
theorem w_X6_noChannel_0 (G : gx p s m meth c args cX6_noChannel 2 (some .boolean) RX6 "noChannel" D dA) {r : Int32} {σz : sm_M} : ∀ (v1 : Int32) (σ : sm_M), f_X6_noChannel v1 σ = some (r, σz) → ∀ (H : Heap) (locs : List Loc) (ls : Array Slot), Wd D dA 1 α s.heap σ H locs → lv_has ls 2 [(0, .ref (α 20 0)), (1, .int v1)] → gW 1 p l e s m args below meth c D dA 1 α (some (.int r)) σz H locs (F0 m 0 ls []) := by
  obtain ⟨hx, hb, hr, hlk, hml, hown, hnm, hts, hK, hNw⟩ := id G
  intro v1 σ hF H locs ls hW hl
  rw [f_X6_noChannel] at hF
  refine lv_iload_n hx hb dX6_noChannel_0 rfl (lv_at hl 1 rfl) ?_
  refine lv_iconst (v := 0) hx hb dX6_noChannel_1 (by decide) ?_
  refine lv_aload_n hx hb dX6_noChannel_2 rfl (lv_at hl 0 rfl) ?_
  refine gg_X6_135 G hW (by decide) dX6_noChannel_3 ?_
  refine lv_iconst (v := 1) hx hb dX6_noChannel_6 (by decide) ?_
  refine lv_isub hx hb dX6_noChannel_7 ?_
  obtain ⟨q1, hq1, hF⟩ := o_b hF
  refine kk_X6_169 G hW hq1 hl.1 ⟨Nat.le_of_ble_eq_true rfl, Nat.le_of_ble_eq_true rfl⟩ ⟨Nat.le_refl _, Nat.le_refl _⟩ (Nat.le_of_ble_eq_true rfl) dX6_noChannel_8 (fun H locs hW => ?_)
  refine lv_if_ne (tgt := 18) hx hb dX6_noChannel_11 (by decide) (fun hc => ?_) (fun hc => ?_)
  · replace hF := o_f hc hF
    refine lv_iconst (v := 0) hx hb dX6_noChannel_18 (by decide) ?_
    exact w_X6_noChannel_19 G _ _ hF H locs ls hW (lv_sub hl [] rfl)
  · replace hF := o_t hc hF
    refine lv_iconst (v := 1) hx hb dX6_noChannel_14 (by decide) ?_
    refine lv_goto (tgt := 19) hx hb dX6_noChannel_15 (by decide) ?_
    exact w_X6_noChannel_19 G _ _ hF H locs ls hW (lv_sub hl [] rfl)
end WX6_noChannel
theorem c_X6_noChannel {l : Launch} {D : va_G} {dA : Nat → ClassId} {α : Nat → Nat → Nat} (hI : Inj 1 α) {v1 : Int32} {σ σz : sm_M} {r : Int32} (hF : f_X6_noChannel v1 σ = some (r, σz)) : gM l D dA 1 α yX6_noChannel cX6_noChannel 2 (some .boolean) 1 [.ref (α 20 0), .int v1] σ (some (.int r)) σz :=
  g_met hI (by decide +kernel) (Nat.le_of_ble_eq_true rfl) (fun p e s m below meth c ls G hW hl => w_X6_noChannel_0 G _ _ hF _ _ _ hW hl)
section KX6_noChannel
variable {p : Program} {l : Launch} {e : Env} {R : Room} {s : State} {m : MethodId} {args : Array Value} {below : List Frame} {meth : Method} {c : Code} {H : Heap} {locs : List Loc} {cells slots : Nat} {Q : State → Prop}
variable {cc : ByteArray} {pc nL Z : Nat} {ls : Array Slot} {rest : List Value} {D : va_G} {dA : Nat → ClassId} {α : Nat → Nat → Nat} {H0 : Heap} {σ σ' : sm_M} {ret : Option FieldType} {own nm : String}
theorem kk_X6_249 (G : gx p s m meth c args cc nL ret RX6 nm D dA) (hW : Wd D dA 1 α H0 σ H locs) {v1 : Int32} {q : Int32 × sm_M} (hq : f_X6_noChannel v1 σ = some q) (hls : ls.size = nL) (hR : 1 + 1 ≤ R.frames ∧ 8 + (2 + 11) + 44 * 1 ≤ R.locals) (hf : cells ≤ R.cells ∧ slots ≤ R.slots) (hcat : (rest.map fun v => v.category).sum ≤ 8) (hdg : decode cc pc = .ok (.invokevirtual 249, 3)) (kk : ∀ (H1 : Heap) (locs1 : List Loc), Wd D dA 1 α H0 q.2 H1 locs1 → W p l e R s m args below meth c H1 locs1 cells slots Q (F0 m (pc + 3) ls (.int q.1 :: rest))) : W p l e R s m args below meth c H locs cells slots Q (F0 m pc ls (.int v1 :: .ref (α 20 0) :: rest)) :=
  g_cV (n := 1) G (c_X6_noChannel (l := l) hW.2.2.2 hq) ⟨wm_25_12, wm_25_13, wm_25_14, wm_1_5, wm_25_15⟩ (by decide +kernel) hW (g_recv (φ := 20) (ci := 6) G.2.2.2.2.2.2.2.2.1 rfl rfl rfl (by decide) hW.1 rfl) hR hf rfl hls rfl hcat hdg kk
end KX6_noChannel
section WX6_noNode
variable {p : Program} {l : Launch} {e : Env} {s : State} {m : MethodId} {args : Array Value} {below : List Frame} {meth : Method} {c : Code} {D : va_G} {dA : Nat → ClassId} {α : Nat → Nat → Nat}
set_option maxHeartbeats 4000000 in
set_option maxRecDepth 100000 in
theorem w_X6_noNode_14 (G : gx p s m meth c args cX6_noNode 2 (some .boolean) RX6 "noNode" D dA) {r : Int32} {σz : sm_M} : ∀ (s0 : Int32) (σ : sm_M), f_X6_noNode_14 s0 σ = some (r, σz) → ∀ (H : Heap) (locs : List Loc) (ls : Array Slot), Wd D dA 1 α s.heap σ H locs → lv_has ls 2 [] → gW 1 p l e s m args below meth c D dA 1 α (some (.int r)) σz H locs (F0 m 14 ls [.int s0]) := by
  obtain ⟨hx, hb, hr, hlk, hml, hown, hnm, hts, hK, hNw⟩ := id G
  intro s0 σ hF H locs ls hW hl
  rw [f_X6_noNode_14] at hF
  exact g_zret G hW hF dX6_noNode_14
set_option maxHeartbeats 4000000 in
set_option maxRecDepth 100000 in
theorem w_X6_noNode_0 (G : gx p s m meth c args cX6_noNode 2 (some .boolean) RX6 "noNode" D dA) {r : Int32} {σz : sm_M} : ∀ (v1 : Int32) (σ : sm_M), f_X6_noNode v1 σ = some (r, σz) → ∀ (H : Heap) (locs : List Loc) (ls : Array Slot), Wd D dA 1 α s.heap σ H locs → lv_has ls 2 [(0, .ref (α 20 0)), (1, .int v1)] → gW 1 p l e s m args below meth c D dA 1 α (some (.int r)) σz H locs (F0 m 0 ls []) := by
  obtain ⟨hx, hb, hr, hlk, hml, hown, hnm, hts, hK, hNw⟩ := id G
  intro v1 σ hF H locs ls hW hl
  rw [f_X6_noNode] at hF
  refine lv_iload_n hx hb dX6_noNode_0 rfl (lv_at hl 1 rfl) ?_
  refine lv_iconst (v := 0) hx hb dX6_noNode_1 (by decide) ?_
  refine lv_iconst (v := 3) hx hb dX6_noNode_2 (by decide) ?_
  obtain ⟨q1, hq1, hF⟩ := o_b hF
  refine kk_X6_169 G hW hq1 hl.1 ⟨Nat.le_of_ble_eq_true rfl, Nat.le_of_ble_eq_true rfl⟩ ⟨Nat.le_refl _, Nat.le_refl _⟩ (Nat.le_of_ble_eq_true rfl) dX6_noNode_3 (fun H locs hW => ?_)
  refine lv_if_ne (tgt := 13) hx hb dX6_noNode_6 (by decide) (fun hc => ?_) (fun hc => ?_)
  · replace hF := o_f hc hF
    refine lv_iconst (v := 0) hx hb dX6_noNode_13 (by decide) ?_
    exact w_X6_noNode_14 G _ _ hF H locs ls hW (lv_sub hl [] rfl)
  · replace hF := o_t hc hF
    refine lv_iconst (v := 1) hx hb dX6_noNode_9 (by decide) ?_
    refine lv_goto (tgt := 14) hx hb dX6_noNode_10 (by decide) ?_
    exact w_X6_noNode_14 G _ _ hF H locs ls hW (lv_sub hl [] rfl)
end WX6_noNode
theorem c_X6_noNode {l : Launch} {D : va_G} {dA : Nat → ClassId} {α : Nat → Nat → Nat} (hI : Inj 1 α) {v1 : Int32} {σ σz : sm_M} {r : Int32} (hF : f_X6_noNode v1 σ = some (r, σz)) : gM l D dA 1 α yX6_noNode cX6_noNode 2 (some .boolean) 1 [.ref (α 20 0), .int v1] σ (some (.int r)) σz :=
  g_met hI (by decide +kernel) (Nat.le_of_ble_eq_true rfl) (fun p e s m below meth c ls G hW hl => w_X6_noNode_0 G _ _ hF _ _ _ hW hl)
section KX6_noNode
variable {p : Program} {l : Launch} {e : Env} {R : Room} {s : State} {m : MethodId} {args : Array Value} {below : List Frame} {meth : Method} {c : Code} {H : Heap} {locs : List Loc} {cells slots : Nat} {Q : State → Prop}
variable {cc : ByteArray} {pc nL Z : Nat} {ls : Array Slot} {rest : List Value} {D : va_G} {dA : Nat → ClassId} {α : Nat → Nat → Nat} {H0 : Heap} {σ σ' : sm_M} {ret : Option FieldType} {own nm : String}
theorem kk_X6_173 (G : gx p s m meth c args cc nL ret RX6 nm D dA) (hW : Wd D dA 1 α H0 σ H locs) {v1 : Int32} {q : Int32 × sm_M} (hq : f_X6_noNode v1 σ = some q) (hls : ls.size = nL) (hR : 1 + 1 ≤ R.frames ∧ 8 + (2 + 11) + 44 * 1 ≤ R.locals) (hf : cells ≤ R.cells ∧ slots ≤ R.slots) (hcat : (rest.map fun v => v.category).sum ≤ 8) (hdg : decode cc pc = .ok (.invokevirtual 173, 3)) (kk : ∀ (H1 : Heap) (locs1 : List Loc), Wd D dA 1 α H0 q.2 H1 locs1 → W p l e R s m args below meth c H1 locs1 cells slots Q (F0 m (pc + 3) ls (.int q.1 :: rest))) : W p l e R s m args below meth c H locs cells slots Q (F0 m pc ls (.int v1 :: .ref (α 20 0) :: rest)) :=
  g_cV (n := 1) G (c_X6_noNode (l := l) hW.2.2.2 hq) ⟨wm_8_8, wm_8_9, wm_8_10, wm_1_5, wm_8_11⟩ (by decide +kernel) hW (g_recv (φ := 20) (ci := 6) G.2.2.2.2.2.2.2.2.1 rfl rfl rfl (by decide) hW.1 rfl) hR hf rfl hls rfl hcat hdg kk
end KX6_noNode
section WX6_task
variable {p : Program} {l : Launch} {e : Env} {s : State} {m : MethodId} {args : Array Value} {below : List Frame} {meth : Method} {c : Code} {D : va_G} {dA : Nat → ClassId} {α : Nat → Nat → Nat}
set_option maxHeartbeats 4000000 in
set_option maxRecDepth 100000 in
theorem w_X6_task_81 (G : gx p s m meth c args cX6_task 6 (some .int) RX6 "task" D dA) {r : Int32} {σz : sm_M} : ∀ (v1 : Int32) (v2 : Int32) (v3 : Int32) (s0 : Int32) (σ : sm_M), f_X6_task_81 v1 v2 v3 s0 σ = some (r, σz) → ∀ (H : Heap) (locs : List Loc) (ls : Array Slot), Wd D dA 1 α s.heap σ H locs → lv_has ls 6 [(0, .ref (α 20 0)), (1, .int v1), (2, .int v2), (3, .int v3)] → gW 2 p l e s m args below meth c D dA 1 α (some (.int r)) σz H locs (F0 m 81 ls [.int s0]) := by
  obtain ⟨hx, hb, hr, hlk, hml, hown, hnm, hts, hK, hNw⟩ := id G
  intro v1 v2 v3 s0 σ hF H locs ls hW hl
  rw [f_X6_task_81] at hF
  refine lv_istore (lv' := [(4, .int s0), (0, .ref (α 20 0)), (1, .int v1), (2, .int v2), (3, .int v3)]) hx hb dX6_task_81 hl (by decide) rfl (fun ls hl => ?_)
  refine lv_iload hx hb dX6_task_83 (lv_at hl 0 rfl) ?_
  refine lv_if_ne (tgt := 91) hx hb dX6_task_85 (by decide) (fun hc => ?_) (fun hc => ?_)
  · replace hF := o_f hc hF
    refine lv_aload_n hx hb dX6_task_91 rfl (lv_at hl 1 rfl) ?_
    refine gg_X6_154 G hW (by decide) dX6_task_92 ?_
    refine lv_if_eq (tgt := 101) hx hb dX6_task_95 (by decide) (fun hc => ?_) (fun hc => ?_)
    · replace hF := o_t hc hF
      refine lv_aload_n hx hb dX6_task_101 rfl (lv_at hl 1 rfl) ?_
      refine gg_X6_131 G hW (by decide) dX6_task_102 ?_
      refine lv_bipush (v := 16) hx hb dX6_task_105 (by decide) ?_
      refine lv_icmp_ne (tgt := 113) hx hb dX6_task_107 (by decide) (fun hc => ?_) (fun hc => ?_)
      · replace hF := o_f hc hF
        refine lv_aload_n hx hb dX6_task_113 rfl (lv_at hl 1 rfl) ?_
        refine gg_X6_131 G hW (by decide) dX6_task_114 ?_
        refine lv_istore (lv' := [(5, .int (σ.1 20 0 0)), (4, .int s0), (0, .ref (α 20 0)), (1, .int v1), (2, .int v2), (3, .int v3)]) hx hb dX6_task_117 hl (by decide) rfl (fun ls hl => ?_)
        refine lv_aload_n hx hb dX6_task_119 rfl (lv_at hl 2 rfl) ?_
        refine gg_X6_7 G hW (by decide) dX6_task_120 ?_
        refine lv_iload hx hb dX6_task_123 (lv_at hl 0 rfl) ?_
        refine lv_iload_n hx hb dX6_task_125 rfl (lv_at hl 3 rfl) ?_
        obtain ⟨σ1, hσ1, hF⟩ := o_b hF
        refine g_uI (φ := 21) G rfl rfl (by decide) rfl hW (by decide) hσ1 dX6_task_126 (fun H locs hW => ?_)
        refine lv_aload_n hx hb dX6_task_127 rfl (lv_at hl 2 rfl) ?_
        refine gg_X6_13 G hW (by decide) dX6_task_128 ?_
        refine lv_iload hx hb dX6_task_131 (lv_at hl 0 rfl) ?_
        refine lv_iload_n hx hb dX6_task_133 rfl (lv_at hl 4 rfl) ?_
        obtain ⟨σ2, hσ2, hF⟩ := o_b hF
        refine g_uI (φ := 22) G rfl rfl (by decide) rfl hW (by decide) hσ2 dX6_task_134 (fun H locs hW => ?_)
        refine lv_aload_n hx hb dX6_task_135 rfl (lv_at hl 2 rfl) ?_
        refine gg_X6_16 G hW (by decide) dX6_task_136 ?_
        refine lv_iload hx hb dX6_task_139 (lv_at hl 0 rfl) ?_
        refine lv_iload_n hx hb dX6_task_141 rfl (lv_at hl 5 rfl) ?_
        obtain ⟨σ3, hσ3, hF⟩ := o_b hF
        refine g_uI (φ := 23) G rfl rfl (by decide) rfl hW (by decide) hσ3 dX6_task_142 (fun H locs hW => ?_)
        refine lv_aload_n hx hb dX6_task_143 rfl (lv_at hl 2 rfl) ?_
        refine gg_X6_19 G hW (by decide) dX6_task_144 ?_
        refine lv_iload hx hb dX6_task_147 (lv_at hl 0 rfl) ?_
        refine lv_iconst (v := 0) hx hb dX6_task_149 (by decide) ?_
        obtain ⟨σ4, hσ4, hF⟩ := o_b hF
        refine g_uI (φ := 24) G rfl rfl (by decide) rfl hW (by decide) hσ4 dX6_task_150 (fun H locs hW => ?_)
        refine lv_aload_n hx hb dX6_task_151 rfl (lv_at hl 2 rfl) ?_
        refine gg_X6_22 G hW (by decide) dX6_task_152 ?_
        refine lv_iload hx hb dX6_task_155 (lv_at hl 0 rfl) ?_
        refine lv_iconst (v := 0) hx hb dX6_task_157 (by decide) ?_
        obtain ⟨σ5, hσ5, hF⟩ := o_b hF
        refine g_uI (φ := 25) G rfl rfl (by decide) rfl hW (by decide) hσ5 dX6_task_158 (fun H locs hW => ?_)
        refine lv_aload_n hx hb dX6_task_159 rfl (lv_at hl 2 rfl) ?_
        refine gg_X6_25 G hW (by decide) dX6_task_160 ?_
        refine lv_iload hx hb dX6_task_163 (lv_at hl 0 rfl) ?_
        refine lv_iconst (v := 0) hx hb dX6_task_165 (by decide) ?_
        obtain ⟨σ6, hσ6, hF⟩ := o_b hF
        refine g_uI (φ := 26) G rfl rfl (by decide) rfl hW (by decide) hσ6 dX6_task_166 (fun H locs hW => ?_)
        refine lv_aload_n hx hb dX6_task_167 rfl (lv_at hl 2 rfl) ?_
        refine gg_X6_31 G hW (by decide) dX6_task_168 ?_
        refine lv_iload hx hb dX6_task_171 (lv_at hl 0 rfl) ?_
        refine lv_sipush (v := 1001) hx hb dX6_task_173 (by decide) ?_
        obtain ⟨σ7, hσ7, hF⟩ := o_b hF
        refine g_uI (φ := 28) G rfl rfl (by decide) rfl hW (by decide) hσ7 dX6_task_176 (fun H locs hW => ?_)
        refine lv_aload_n hx hb dX6_task_177 rfl (lv_at hl 2 rfl) ?_
        refine gg_X6_34 G hW (by decide) dX6_task_178 ?_
        refine lv_iload hx hb dX6_task_181 (lv_at hl 0 rfl) ?_
        refine lv_bipush (v := 8) hx hb dX6_task_183 (by decide) ?_
        obtain ⟨σ8, hσ8, hF⟩ := o_b hF
        refine g_uI (φ := 29) G rfl rfl (by decide) rfl hW (by decide) hσ8 dX6_task_185 (fun H locs hW => ?_)
        refine lv_aload_n hx hb dX6_task_186 rfl (lv_at hl 2 rfl) ?_
        refine gg_X6_37 G hW (by decide) dX6_task_187 ?_
        refine lv_iload hx hb dX6_task_190 (lv_at hl 0 rfl) ?_
        refine lv_iconst (v := 0) hx hb dX6_task_192 (by decide) ?_
        obtain ⟨σ9, hσ9, hF⟩ := o_b hF
        refine g_uI (φ := 30) G rfl rfl (by decide) rfl hW (by decide) hσ9 dX6_task_193 (fun H locs hW => ?_)
        refine lv_aload_n hx hb dX6_task_194 rfl (lv_at hl 2 rfl) ?_
        refine gg_X6_40 G hW (by decide) dX6_task_195 ?_
        refine lv_iload hx hb dX6_task_198 (lv_at hl 0 rfl) ?_
        refine lv_iconst (v := 0) hx hb dX6_task_200 (by decide) ?_
        obtain ⟨σ10, hσ10, hF⟩ := o_b hF
        refine g_uI (φ := 31) G rfl rfl (by decide) rfl hW (by decide) hσ10 dX6_task_201 (fun H locs hW => ?_)
        refine lv_aload_n hx hb dX6_task_202 rfl (lv_at hl 2 rfl) ?_
        refine gg_X6_43 G hW (by decide) dX6_task_203 ?_
        refine lv_iload hx hb dX6_task_206 (lv_at hl 0 rfl) ?_
        refine lv_iconst (v := 0) hx hb dX6_task_208 (by decide) ?_
        obtain ⟨σ11, hσ11, hF⟩ := o_b hF
        refine g_uI (φ := 32) G rfl rfl (by decide) rfl hW (by decide) hσ11 dX6_task_209 (fun H locs hW => ?_)
        refine lv_aload_n hx hb dX6_task_210 rfl (lv_at hl 2 rfl) ?_
        refine gg_X6_80 G hW (by decide) dX6_task_211 ?_
        refine lv_iload hx hb dX6_task_214 (lv_at hl 0 rfl) ?_
        refine lv_iconst (v := 0) hx hb dX6_task_216 (by decide) ?_
        obtain ⟨σ12, hσ12, hF⟩ := o_b hF
        refine g_uI (φ := 44) G rfl rfl (by decide) rfl hW (by decide) hσ12 dX6_task_217 (fun H locs hW => ?_)
        refine lv_aload_n hx hb dX6_task_218 rfl (lv_at hl 2 rfl) ?_
        refine gg_X6_83 G hW (by decide) dX6_task_219 ?_
        refine lv_iload hx hb dX6_task_222 (lv_at hl 0 rfl) ?_
        refine lv_iconst (v := 0) hx hb dX6_task_224 (by decide) ?_
        obtain ⟨σ13, hσ13, hF⟩ := o_b hF
        refine g_uI (φ := 45) G rfl rfl (by decide) rfl hW (by decide) hσ13 dX6_task_225 (fun H locs hW => ?_)
        refine lv_aload_n hx hb dX6_task_226 rfl (lv_at hl 2 rfl) ?_
        refine gg_X6_86 G hW (by decide) dX6_task_227 ?_
        refine lv_iload hx hb dX6_task_230 (lv_at hl 0 rfl) ?_
        refine lv_iconst (v := 0) hx hb dX6_task_232 (by decide) ?_
        obtain ⟨σ14, hσ14, hF⟩ := o_b hF
        refine g_uI (φ := 46) G rfl rfl (by decide) rfl hW (by decide) hσ14 dX6_task_233 (fun H locs hW => ?_)
        refine lv_aload_n hx hb dX6_task_234 rfl (lv_at hl 2 rfl) ?_
        refine lv_dup hx hb dX6_task_235 rfl ?_
        refine gg_X6_131 G hW (by decide) dX6_task_236 ?_
        refine lv_iconst (v := 1) hx hb dX6_task_239 (by decide) ?_
        refine lv_iadd hx hb dX6_task_240 ?_
        obtain ⟨σ15, hσ15, hF⟩ := o_b hF
        refine pp_X6_131 G hW (by decide) hσ15 dX6_task_241 (fun H locs hW => ?_)
        refine lv_iload hx hb dX6_task_244 (lv_at hl 0 rfl) ?_
        exact g_iret G hW hF dX6_task_246
      · replace hF := o_t hc hF
        refine lv_bipush (v := -4) hx hb dX6_task_110 (by decide) ?_
        exact g_iret G hW hF dX6_task_112
    · replace hF := o_f hc hF
      refine lv_bipush (v := -3) hx hb dX6_task_98 (by decide) ?_
      exact g_iret G hW hF dX6_task_100
  · replace hF := o_t hc hF
    refine lv_bipush (v := -2) hx hb dX6_task_88 (by decide) ?_
    exact g_iret G hW hF dX6_task_90
set_option maxHeartbeats 4000000 in
set_option maxRecDepth 100000 in
theorem w_X6_task_80 (G : gx p s m meth c args cX6_task 6 (some .int) RX6 "task" D dA) {r : Int32} {σz : sm_M} : ∀ (v1 : Int32) (v2 : Int32) (v3 : Int32) (σ : sm_M), f_X6_task_80 v1 v2 v3 σ = some (r, σz) → ∀ (H : Heap) (locs : List Loc) (ls : Array Slot), Wd D dA 1 α s.heap σ H locs → lv_has ls 6 [(0, .ref (α 20 0)), (1, .int v1), (2, .int v2), (3, .int v3)] → gW 2 p l e s m args below meth c D dA 1 α (some (.int r)) σz H locs (F0 m 80 ls []) := by
  obtain ⟨hx, hb, hr, hlk, hml, hown, hnm, hts, hK, hNw⟩ := id G
  intro v1 v2 v3 σ hF H locs ls hW hl
  rw [f_X6_task_80] at hF
  refine lv_iconst (v := 0) hx hb dX6_task_80 (by decide) ?_
  exact w_X6_task_81 G _ _ _ _ _ hF H locs ls hW (lv_sub hl [0, 1, 2, 3] rfl)
set_option maxHeartbeats 4000000 in
set_option maxRecDepth 100000 in
theorem w_X6_task_76 (G : gx p s m meth c args cX6_task 6 (some .int) RX6 "task" D dA) {r : Int32} {σz : sm_M} : ∀ (v1 : Int32) (v2 : Int32) (v3 : Int32) (σ : sm_M), f_X6_task_76 v1 v2 v3 σ = some (r, σz) → ∀ (H : Heap) (locs : List Loc) (ls : Array Slot), Wd D dA 1 α s.heap σ H locs → lv_has ls 6 [(0, .ref (α 20 0)), (1, .int v1), (2, .int v2), (3, .int v3)] → gW 2 p l e s m args below meth c D dA 1 α (some (.int r)) σz H locs (F0 m 76 ls []) := by
  obtain ⟨hx, hb, hr, hlk, hml, hown, hnm, hts, hK, hNw⟩ := id G
  intro v1 v2 v3 σ hF H locs ls hW hl
  rw [f_X6_task_76] at hF
  refine lv_iconst (v := 1) hx hb dX6_task_76 (by decide) ?_
  refine lv_goto (tgt := 81) hx hb dX6_task_77 (by decide) ?_
  exact w_X6_task_81 G _ _ _ _ _ hF H locs ls hW (lv_sub hl [0, 1, 2, 3] rfl)
set_option maxHeartbeats 4000000 in
set_option maxRecDepth 100000 in
theorem w_X6_task_62 (G : gx p s m meth c args cX6_task 6 (some .int) RX6 "task" D dA) {r : Int32} {σz : sm_M} : ∀ (v1 : Int32) (v2 : Int32) (v3 : Int32) (σ : sm_M), f_X6_task_62 v1 v2 v3 σ = some (r, σz) → ∀ (H : Heap) (locs : List Loc) (ls : Array Slot), Wd D dA 1 α s.heap σ H locs → lv_has ls 6 [(0, .ref (α 20 0)), (1, .int v1), (2, .int v2), (3, .int v3)] → gW 2 p l e s m args below meth c D dA 1 α (some (.int r)) σz H locs (F0 m 62 ls []) := by
  obtain ⟨hx, hb, hr, hlk, hml, hown, hnm, hts, hK, hNw⟩ := id G
  intro v1 v2 v3 σ hF H locs ls hW hl
  rw [f_X6_task_62] at hF
  refine lv_iload_n hx hb dX6_task_62 rfl (lv_at hl 1 rfl) ?_
  refine lv_iconst (v := 2) hx hb dX6_task_63 (by decide) ?_
  refine lv_icmp_ne (tgt := 76) hx hb dX6_task_64 (by decide) (fun hc => ?_) (fun hc => ?_)
  · replace hF := o_f hc hF
    exact w_X6_task_76 G _ _ _ _ hF H locs ls hW (lv_sub hl [0, 1, 2, 3] rfl)
  · replace hF := o_t hc hF
    refine lv_iload_n hx hb dX6_task_67 rfl (lv_at hl 2 rfl) ?_
    refine lv_iconst (v := 1) hx hb dX6_task_68 (by decide) ?_
    refine lv_iconst (v := 5) hx hb dX6_task_69 (by decide) ?_
    obtain ⟨q1, hq1, hF⟩ := o_b hF
    refine kk_X6_169 G hW hq1 hl.1 ⟨Nat.le_of_ble_eq_true rfl, Nat.le_of_ble_eq_true rfl⟩ ⟨Nat.le_refl _, Nat.le_refl _⟩ (Nat.le_of_ble_eq_true rfl) dX6_task_70 (fun H locs hW => ?_)
    refine lv_if_eq (tgt := 80) hx hb dX6_task_73 (by decide) (fun hc => ?_) (fun hc => ?_)
    · replace hF := o_t hc hF
      exact w_X6_task_80 G _ _ _ _ hF H locs ls hW (lv_sub hl [0, 1, 2, 3] rfl)
    · replace hF := o_f hc hF
      exact w_X6_task_76 G _ _ _ _ hF H locs ls hW (lv_sub hl [0, 1, 2, 3] rfl)
set_option maxHeartbeats 4000000 in
set_option maxRecDepth 100000 in
theorem w_X6_task_46 (G : gx p s m meth c args cX6_task 6 (some .int) RX6 "task" D dA) {r : Int32} {σz : sm_M} : ∀ (v1 : Int32) (v2 : Int32) (v3 : Int32) (σ : sm_M), f_X6_task_46 v1 v2 v3 σ = some (r, σz) → ∀ (H : Heap) (locs : List Loc) (ls : Array Slot), Wd D dA 1 α s.heap σ H locs → lv_has ls 6 [(0, .ref (α 20 0)), (1, .int v1), (2, .int v2), (3, .int v3)] → gW 2 p l e s m args below meth c D dA 1 α (some (.int r)) σz H locs (F0 m 46 ls []) := by
  obtain ⟨hx, hb, hr, hlk, hml, hown, hnm, hts, hK, hNw⟩ := id G
  intro v1 v2 v3 σ hF H locs ls hW hl
  rw [f_X6_task_46] at hF
  refine lv_iload_n hx hb dX6_task_46 rfl (lv_at hl 1 rfl) ?_
  refine lv_iconst (v := 1) hx hb dX6_task_47 (by decide) ?_
  refine lv_icmp_ne (tgt := 62) hx hb dX6_task_48 (by decide) (fun hc => ?_) (fun hc => ?_)
  · replace hF := o_f hc hF
    exact w_X6_task_62 G _ _ _ _ hF H locs ls hW (lv_sub hl [0, 1, 2, 3] rfl)
  · replace hF := o_t hc hF
    refine lv_iload_n hx hb dX6_task_51 rfl (lv_at hl 2 rfl) ?_
    refine lv_bipush (v := -20) hx hb dX6_task_52 (by decide) ?_
    refine lv_bipush (v := 20) hx hb dX6_task_54 (by decide) ?_
    obtain ⟨q1, hq1, hF⟩ := o_b hF
    refine kk_X6_169 G hW hq1 hl.1 ⟨Nat.le_of_ble_eq_true rfl, Nat.le_of_ble_eq_true rfl⟩ ⟨Nat.le_refl _, Nat.le_refl _⟩ (Nat.le_of_ble_eq_true rfl) dX6_task_56 (fun H locs hW => ?_)
    refine lv_if_eq (tgt := 80) hx hb dX6_task_59 (by decide) (fun hc => ?_) (fun hc => ?_)
    · replace hF := o_t hc hF
      exact w_X6_task_80 G _ _ _ _ hF H locs ls hW (lv_sub hl [0, 1, 2, 3] rfl)
    · replace hF := o_f hc hF
      exact w_X6_task_62 G _ _ _ _ hF H locs ls hW (lv_sub hl [0, 1, 2, 3] rfl)
set_option maxHeartbeats 4000000 in
set_option maxRecDepth 100000 in
theorem w_X6_task_0 (G : gx p s m meth c args cX6_task 6 (some .int) RX6 "task" D dA) {r : Int32} {σz : sm_M} : ∀ (v1 : Int32) (v2 : Int32) (v3 : Int32) (σ : sm_M), f_X6_task v1 v2 v3 σ = some (r, σz) → ∀ (H : Heap) (locs : List Loc) (ls : Array Slot), Wd D dA 1 α s.heap σ H locs → lv_has ls 6 [(0, .ref (α 20 0)), (1, .int v1), (2, .int v2), (3, .int v3)] → gW 2 p l e s m args below meth c D dA 1 α (some (.int r)) σz H locs (F0 m 0 ls []) := by
  obtain ⟨hx, hb, hr, hlk, hml, hown, hnm, hts, hK, hNw⟩ := id G
  intro v1 v2 v3 σ hF H locs ls hW hl
  rw [f_X6_task] at hF
  refine lv_aload_n hx hb dX6_task_0 rfl (lv_at hl 0 rfl) ?_
  refine lv_iload_n hx hb dX6_task_1 rfl (lv_at hl 3 rfl) ?_
  obtain ⟨q1, hq1, hF⟩ := o_b hF
  refine kk_X6_173 G hW hq1 hl.1 ⟨Nat.le_of_ble_eq_true rfl, Nat.le_of_ble_eq_true rfl⟩ ⟨Nat.le_refl _, Nat.le_refl _⟩ (Nat.le_of_ble_eq_true rfl) dX6_task_2 (fun H locs hW => ?_)
  refine lv_if_ne (tgt := 17) hx hb dX6_task_5 (by decide) (fun hc => ?_) (fun hc => ?_)
  · replace hF := o_f hc hF
    refine lv_iconst (v := -1) hx hb dX6_task_17 (by decide) ?_
    exact g_iret G hW hF dX6_task_18
  · replace hF := o_t hc hF
    refine lv_aload_n hx hb dX6_task_8 rfl (lv_at hl 0 rfl) ?_
    refine gg_X6_98 G hW (by decide) dX6_task_9 ?_
    refine lv_iload_n hx hb dX6_task_12 rfl (lv_at hl 3 rfl) ?_
    obtain ⟨x2, hx2, hF⟩ := o_b hF
    refine g_aZ (φ := 50) G rfl rfl (by decide) rfl hW (by decide) hx2 dX6_task_13 ?_
    refine lv_if_eq (tgt := 19) hx hb dX6_task_14 (by decide) (fun hc => ?_) (fun hc => ?_)
    · replace hF := o_t hc hF
      refine lv_iload_n hx hb dX6_task_19 rfl (lv_at hl 1 rfl) ?_
      refine lv_iconst (v := 0) hx hb dX6_task_20 (by decide) ?_
      refine lv_iconst (v := 5) hx hb dX6_task_21 (by decide) ?_
      obtain ⟨q3, hq3, hF⟩ := o_b hF
      refine kk_X6_169 G hW hq3 hl.1 ⟨Nat.le_of_ble_eq_true rfl, Nat.le_of_ble_eq_true rfl⟩ ⟨Nat.le_refl _, Nat.le_refl _⟩ (Nat.le_of_ble_eq_true rfl) dX6_task_22 (fun H locs hW => ?_)
      refine lv_istore (lv' := [(4, .int q3.1), (0, .ref (α 20 0)), (1, .int v1), (2, .int v2), (3, .int v3)]) hx hb dX6_task_25 hl (by decide) rfl (fun ls hl => ?_)
      refine lv_iload hx hb dX6_task_27 (lv_at hl 0 rfl) ?_
      refine lv_if_eq (tgt := 80) hx hb dX6_task_29 (by decide) (fun hc => ?_) (fun hc => ?_)
      · replace hF := o_t hc hF
        exact w_X6_task_80 G _ _ _ _ hF H locs ls hW (lv_sub hl [1, 2, 3, 4] rfl)
      · replace hF := o_f hc hF
        refine lv_iload_n hx hb dX6_task_32 rfl (lv_at hl 2 rfl) ?_
        refine lv_if_ne (tgt := 46) hx hb dX6_task_33 (by decide) (fun hc => ?_) (fun hc => ?_)
        · replace hF := o_f hc hF
          exact w_X6_task_46 G _ _ _ _ hF H locs ls hW (lv_sub hl [1, 2, 3, 4] rfl)
        · replace hF := o_t hc hF
          refine lv_iload_n hx hb dX6_task_36 rfl (lv_at hl 3 rfl) ?_
          refine lv_iconst (v := 0) hx hb dX6_task_37 (by decide) ?_
          refine lv_bipush (v := 20) hx hb dX6_task_38 (by decide) ?_
          obtain ⟨q4, hq4, hF⟩ := o_b hF
          refine kk_X6_169 G hW hq4 hl.1 ⟨Nat.le_of_ble_eq_true rfl, Nat.le_of_ble_eq_true rfl⟩ ⟨Nat.le_refl _, Nat.le_refl _⟩ (Nat.le_of_ble_eq_true rfl) dX6_task_40 (fun H locs hW => ?_)
          refine lv_if_eq (tgt := 80) hx hb dX6_task_43 (by decide) (fun hc => ?_) (fun hc => ?_)
          · replace hF := o_t hc hF
            exact w_X6_task_80 G _ _ _ _ hF H locs ls hW (lv_sub hl [1, 2, 3, 4] rfl)
          · replace hF := o_f hc hF
            exact w_X6_task_46 G _ _ _ _ hF H locs ls hW (lv_sub hl [1, 2, 3, 4] rfl)
    · replace hF := o_f hc hF
      refine lv_iconst (v := -1) hx hb dX6_task_17 (by decide) ?_
      exact g_iret G hW hF dX6_task_18
end WX6_task
theorem c_X6_task {l : Launch} {D : va_G} {dA : Nat → ClassId} {α : Nat → Nat → Nat} (hI : Inj 1 α) {v1 : Int32} {v2 : Int32} {v3 : Int32} {σ σz : sm_M} {r : Int32} (hF : f_X6_task v1 v2 v3 σ = some (r, σz)) : gM l D dA 1 α yX6_task cX6_task 6 (some .int) 2 [.ref (α 20 0), .int v1, .int v2, .int v3] σ (some (.int r)) σz :=
  g_met hI (by decide +kernel) (Nat.le_of_ble_eq_true rfl) (fun p e s m below meth c ls G hW hl => w_X6_task_0 G _ _ _ _ hF _ _ _ hW hl)
section KX6_task
variable {p : Program} {l : Launch} {e : Env} {R : Room} {s : State} {m : MethodId} {args : Array Value} {below : List Frame} {meth : Method} {c : Code} {H : Heap} {locs : List Loc} {cells slots : Nat} {Q : State → Prop}
variable {cc : ByteArray} {pc nL Z : Nat} {ls : Array Slot} {rest : List Value} {D : va_G} {dA : Nat → ClassId} {α : Nat → Nat → Nat} {H0 : Heap} {σ σ' : sm_M} {ret : Option FieldType} {own nm : String}
end KX6_task
section WX6_channel
variable {p : Program} {l : Launch} {e : Env} {s : State} {m : MethodId} {args : Array Value} {below : List Frame} {meth : Method} {c : Code} {D : va_G} {dA : Nat → ClassId} {α : Nat → Nat → Nat}
set_option maxHeartbeats 4000000 in
set_option maxRecDepth 100000 in
theorem w_X6_channel_42 (G : gx p s m meth c args cX6_channel 5 (some .int) RX6 "channel" D dA) {r : Int32} {σz : sm_M} : ∀ (σ : sm_M), f_X6_channel_42 σ = some (r, σz) → ∀ (H : Heap) (locs : List Loc) (ls : Array Slot), Wd D dA 1 α s.heap σ H locs → lv_has ls 5 [] → gW 2 p l e s m args below meth c D dA 1 α (some (.int r)) σz H locs (F0 m 42 ls []) := by
  obtain ⟨hx, hb, hr, hlk, hml, hown, hnm, hts, hK, hNw⟩ := id G
  intro σ hF H locs ls hW hl
  rw [f_X6_channel_42] at hF
  refine lv_bipush (v := -2) hx hb dX6_channel_42 (by decide) ?_
  exact g_iret G hW hF dX6_channel_44
set_option maxHeartbeats 4000000 in
set_option maxRecDepth 100000 in
theorem w_X6_channel_0 (G : gx p s m meth c args cX6_channel 5 (some .int) RX6 "channel" D dA) {r : Int32} {σz : sm_M} : ∀ (v1 : Int32) (v2 : Int32) (v3 : Int32) (σ : sm_M), f_X6_channel v1 v2 v3 σ = some (r, σz) → ∀ (H : Heap) (locs : List Loc) (ls : Array Slot), Wd D dA 1 α s.heap σ H locs → lv_has ls 5 [(0, .ref (α 20 0)), (1, .int v1), (2, .int v2), (3, .int v3)] → gW 2 p l e s m args below meth c D dA 1 α (some (.int r)) σz H locs (F0 m 0 ls []) := by
  obtain ⟨hx, hb, hr, hlk, hml, hown, hnm, hts, hK, hNw⟩ := id G
  intro v1 v2 v3 σ hF H locs ls hW hl
  rw [f_X6_channel] at hF
  refine lv_aload_n hx hb dX6_channel_0 rfl (lv_at hl 0 rfl) ?_
  refine lv_iload_n hx hb dX6_channel_1 rfl (lv_at hl 1 rfl) ?_
  obtain ⟨q1, hq1, hF⟩ := o_b hF
  refine kk_X6_177 G hW hq1 hl.1 ⟨Nat.le_of_ble_eq_true rfl, Nat.le_of_ble_eq_true rfl⟩ ⟨Nat.le_refl _, Nat.le_refl _⟩ (Nat.le_of_ble_eq_true rfl) dX6_channel_2 (fun H locs hW => ?_)
  refine lv_if_ne (tgt := 16) hx hb dX6_channel_5 (by decide) (fun hc => ?_) (fun hc => ?_)
  · replace hF := o_f hc hF
    refine lv_iconst (v := -1) hx hb dX6_channel_16 (by decide) ?_
    exact g_iret G hW hF dX6_channel_17
  · replace hF := o_t hc hF
    refine lv_aload_n hx hb dX6_channel_8 rfl (lv_at hl 0 rfl) ?_
    refine lv_iload_n hx hb dX6_channel_9 rfl (lv_at hl 2 rfl) ?_
    obtain ⟨q2, hq2, hF⟩ := o_b hF
    refine kk_X6_177 G hW hq2 hl.1 ⟨Nat.le_of_ble_eq_true rfl, Nat.le_of_ble_eq_true rfl⟩ ⟨Nat.le_refl _, Nat.le_refl _⟩ (Nat.le_of_ble_eq_true rfl) dX6_channel_10 (fun H locs hW => ?_)
    refine lv_if_eq (tgt := 18) hx hb dX6_channel_13 (by decide) (fun hc => ?_) (fun hc => ?_)
    · replace hF := o_t hc hF
      refine lv_iload_n hx hb dX6_channel_18 rfl (lv_at hl 1 rfl) ?_
      refine lv_iload_n hx hb dX6_channel_19 rfl (lv_at hl 2 rfl) ?_
      refine lv_icmp_ge (tgt := 42) hx hb dX6_channel_20 (by decide) (fun hc => ?_) (fun hc => ?_)
      · replace hF := o_t hc hF
        exact w_X6_channel_42 G  _ hF H locs ls hW (lv_sub hl [] rfl)
      · replace hF := o_f hc hF
        refine lv_aload_n hx hb dX6_channel_23 rfl (lv_at hl 0 rfl) ?_
        refine gg_X6_7 G hW (by decide) dX6_channel_24 ?_
        refine lv_iload_n hx hb dX6_channel_27 rfl (lv_at hl 1 rfl) ?_
        obtain ⟨x3, hx3, hF⟩ := o_b hF
        refine g_aI (φ := 21) G rfl rfl (by decide) rfl hW (by decide) hx3 dX6_channel_28 ?_
        refine lv_iconst (v := 5) hx hb dX6_channel_29 (by decide) ?_
        refine lv_icmp_eq (tgt := 42) hx hb dX6_channel_30 (by decide) (fun hc => ?_) (fun hc => ?_)
        · replace hF := o_t hc hF
          exact w_X6_channel_42 G  _ hF H locs ls hW (lv_sub hl [] rfl)
        · replace hF := o_f hc hF
          refine lv_aload_n hx hb dX6_channel_33 rfl (lv_at hl 0 rfl) ?_
          refine gg_X6_7 G hW (by decide) dX6_channel_34 ?_
          refine lv_iload_n hx hb dX6_channel_37 rfl (lv_at hl 2 rfl) ?_
          obtain ⟨x4, hx4, hF⟩ := o_b hF
          refine g_aI (φ := 21) G rfl rfl (by decide) rfl hW (by decide) hx4 dX6_channel_38 ?_
          refine lv_if_ne (tgt := 45) hx hb dX6_channel_39 (by decide) (fun hc => ?_) (fun hc => ?_)
          · replace hF := o_f hc hF
            refine lv_aload_n hx hb dX6_channel_45 rfl (lv_at hl 0 rfl) ?_
            refine gg_X6_154 G hW (by decide) dX6_channel_46 ?_
            refine lv_if_eq (tgt := 55) hx hb dX6_channel_49 (by decide) (fun hc => ?_) (fun hc => ?_)
            · replace hF := o_t hc hF
              refine lv_aload_n hx hb dX6_channel_55 rfl (lv_at hl 0 rfl) ?_
              refine gg_X6_135 G hW (by decide) dX6_channel_56 ?_
              refine lv_bipush (v := 40) hx hb dX6_channel_59 (by decide) ?_
              refine lv_icmp_ne (tgt := 67) hx hb dX6_channel_61 (by decide) (fun hc => ?_) (fun hc => ?_)
              · replace hF := o_f hc hF
                refine lv_aload_n hx hb dX6_channel_67 rfl (lv_at hl 0 rfl) ?_
                refine gg_X6_135 G hW (by decide) dX6_channel_68 ?_
                refine lv_istore (lv' := [(4, .int (q2.2.1 20 0 14)), (0, .ref (α 20 0)), (1, .int v1), (2, .int v2), (3, .int v3)]) hx hb dX6_channel_71 hl (by decide) rfl (fun ls hl => ?_)
                refine lv_aload_n hx hb dX6_channel_73 rfl (lv_at hl 1 rfl) ?_
                refine gg_X6_49 G hW (by decide) dX6_channel_74 ?_
                refine lv_iload hx hb dX6_channel_77 (lv_at hl 0 rfl) ?_
                refine lv_iload_n hx hb dX6_channel_79 rfl (lv_at hl 2 rfl) ?_
                obtain ⟨σ5, hσ5, hF⟩ := o_b hF
                refine g_uI (φ := 34) G rfl rfl (by decide) rfl hW (by decide) hσ5 dX6_channel_80 (fun H locs hW => ?_)
                refine lv_aload_n hx hb dX6_channel_81 rfl (lv_at hl 1 rfl) ?_
                refine gg_X6_52 G hW (by decide) dX6_channel_82 ?_
                refine lv_iload hx hb dX6_channel_85 (lv_at hl 0 rfl) ?_
                refine lv_iload_n hx hb dX6_channel_87 rfl (lv_at hl 3 rfl) ?_
                obtain ⟨σ6, hσ6, hF⟩ := o_b hF
                refine g_uI (φ := 35) G rfl rfl (by decide) rfl hW (by decide) hσ6 dX6_channel_88 (fun H locs hW => ?_)
                refine lv_aload_n hx hb dX6_channel_89 rfl (lv_at hl 1 rfl) ?_
                refine gg_X6_55 G hW (by decide) dX6_channel_90 ?_
                refine lv_iload hx hb dX6_channel_93 (lv_at hl 0 rfl) ?_
                refine lv_iload_n hx hb dX6_channel_95 rfl (lv_at hl 4 rfl) ?_
                obtain ⟨σ7, hσ7, hF⟩ := o_b hF
                refine g_uZ (φ := 36) G rfl rfl (by decide) rfl hW (by decide) hσ7 dX6_channel_96 (fun H locs hW => ?_)
                refine lv_aload_n hx hb dX6_channel_97 rfl (lv_at hl 1 rfl) ?_
                refine gg_X6_62 G hW (by decide) dX6_channel_98 ?_
                refine lv_iload hx hb dX6_channel_101 (lv_at hl 0 rfl) ?_
                refine lv_iconst (v := 0) hx hb dX6_channel_103 (by decide) ?_
                obtain ⟨σ8, hσ8, hF⟩ := o_b hF
                refine g_uI (φ := 38) G rfl rfl (by decide) rfl hW (by decide) hσ8 dX6_channel_104 (fun H locs hW => ?_)
                refine lv_aload_n hx hb dX6_channel_105 rfl (lv_at hl 1 rfl) ?_
                refine gg_X6_65 G hW (by decide) dX6_channel_106 ?_
                refine lv_iload hx hb dX6_channel_109 (lv_at hl 0 rfl) ?_
                refine lv_iconst (v := 0) hx hb dX6_channel_111 (by decide) ?_
                obtain ⟨σ9, hσ9, hF⟩ := o_b hF
                refine g_uI (φ := 39) G rfl rfl (by decide) rfl hW (by decide) hσ9 dX6_channel_112 (fun H locs hW => ?_)
                refine lv_aload_n hx hb dX6_channel_113 rfl (lv_at hl 1 rfl) ?_
                refine gg_X6_68 G hW (by decide) dX6_channel_114 ?_
                refine lv_iload hx hb dX6_channel_117 (lv_at hl 0 rfl) ?_
                refine lv_iconst (v := 0) hx hb dX6_channel_119 (by decide) ?_
                obtain ⟨σ10, hσ10, hF⟩ := o_b hF
                refine g_uI (φ := 40) G rfl rfl (by decide) rfl hW (by decide) hσ10 dX6_channel_120 (fun H locs hW => ?_)
                refine lv_aload_n hx hb dX6_channel_121 rfl (lv_at hl 1 rfl) ?_
                refine gg_X6_71 G hW (by decide) dX6_channel_122 ?_
                refine lv_iload hx hb dX6_channel_125 (lv_at hl 0 rfl) ?_
                refine lv_iconst (v := 0) hx hb dX6_channel_127 (by decide) ?_
                obtain ⟨σ11, hσ11, hF⟩ := o_b hF
                refine g_uI (φ := 41) G rfl rfl (by decide) rfl hW (by decide) hσ11 dX6_channel_128 (fun H locs hW => ?_)
                refine lv_aload_n hx hb dX6_channel_129 rfl (lv_at hl 1 rfl) ?_
                refine gg_X6_74 G hW (by decide) dX6_channel_130 ?_
                refine lv_iload hx hb dX6_channel_133 (lv_at hl 0 rfl) ?_
                refine lv_iconst (v := 0) hx hb dX6_channel_135 (by decide) ?_
                obtain ⟨σ12, hσ12, hF⟩ := o_b hF
                refine g_uZ (φ := 42) G rfl rfl (by decide) rfl hW (by decide) hσ12 dX6_channel_136 (fun H locs hW => ?_)
                refine lv_aload_n hx hb dX6_channel_137 rfl (lv_at hl 1 rfl) ?_
                refine gg_X6_89 G hW (by decide) dX6_channel_138 ?_
                refine lv_iload hx hb dX6_channel_141 (lv_at hl 0 rfl) ?_
                refine lv_iconst (v := 0) hx hb dX6_channel_143 (by decide) ?_
                obtain ⟨σ13, hσ13, hF⟩ := o_b hF
                refine g_uI (φ := 47) G rfl rfl (by decide) rfl hW (by decide) hσ13 dX6_channel_144 (fun H locs hW => ?_)
                refine lv_aload_n hx hb dX6_channel_145 rfl (lv_at hl 1 rfl) ?_
                refine gg_X6_92 G hW (by decide) dX6_channel_146 ?_
                refine lv_iload hx hb dX6_channel_149 (lv_at hl 0 rfl) ?_
                refine lv_iconst (v := 0) hx hb dX6_channel_151 (by decide) ?_
                obtain ⟨σ14, hσ14, hF⟩ := o_b hF
                refine g_uI (φ := 48) G rfl rfl (by decide) rfl hW (by decide) hσ14 dX6_channel_152 (fun H locs hW => ?_)
                refine lv_aload_n hx hb dX6_channel_153 rfl (lv_at hl 1 rfl) ?_
                refine gg_X6_95 G hW (by decide) dX6_channel_154 ?_
                refine lv_iload hx hb dX6_channel_157 (lv_at hl 0 rfl) ?_
                refine lv_iconst (v := 0) hx hb dX6_channel_159 (by decide) ?_
                obtain ⟨σ15, hσ15, hF⟩ := o_b hF
                refine g_uI (φ := 49) G rfl rfl (by decide) rfl hW (by decide) hσ15 dX6_channel_160 (fun H locs hW => ?_)
                refine lv_aload_n hx hb dX6_channel_161 rfl (lv_at hl 1 rfl) ?_
                refine lv_dup hx hb dX6_channel_162 rfl ?_
                refine gg_X6_135 G hW (by decide) dX6_channel_163 ?_
                refine lv_iconst (v := 1) hx hb dX6_channel_166 (by decide) ?_
                refine lv_iadd hx hb dX6_channel_167 ?_
                obtain ⟨σ16, hσ16, hF⟩ := o_b hF
                refine pp_X6_135 G hW (by decide) hσ16 dX6_channel_168 (fun H locs hW => ?_)
                refine lv_iload hx hb dX6_channel_171 (lv_at hl 0 rfl) ?_
                exact g_iret G hW hF dX6_channel_173
              · replace hF := o_t hc hF
                refine lv_bipush (v := -4) hx hb dX6_channel_64 (by decide) ?_
                exact g_iret G hW hF dX6_channel_66
            · replace hF := o_f hc hF
              refine lv_bipush (v := -3) hx hb dX6_channel_52 (by decide) ?_
              exact g_iret G hW hF dX6_channel_54
          · replace hF := o_t hc hF
            exact w_X6_channel_42 G  _ hF H locs ls hW (lv_sub hl [] rfl)
    · replace hF := o_f hc hF
      refine lv_iconst (v := -1) hx hb dX6_channel_16 (by decide) ?_
      exact g_iret G hW hF dX6_channel_17
end WX6_channel
theorem c_X6_channel {l : Launch} {D : va_G} {dA : Nat → ClassId} {α : Nat → Nat → Nat} (hI : Inj 1 α) {v1 : Int32} {v2 : Int32} {v3 : Int32} {σ σz : sm_M} {r : Int32} (hF : f_X6_channel v1 v2 v3 σ = some (r, σz)) : gM l D dA 1 α yX6_channel cX6_channel 5 (some .int) 2 [.ref (α 20 0), .int v1, .int v2, .int v3] σ (some (.int r)) σz :=
  g_met hI (by decide +kernel) (Nat.le_of_ble_eq_true rfl) (fun p e s m below meth c ls G hW hl => w_X6_channel_0 G _ _ _ _ hF _ _ _ hW hl)
section KX6_channel
variable {p : Program} {l : Launch} {e : Env} {R : Room} {s : State} {m : MethodId} {args : Array Value} {below : List Frame} {meth : Method} {c : Code} {H : Heap} {locs : List Loc} {cells slots : Nat} {Q : State → Prop}
variable {cc : ByteArray} {pc nL Z : Nat} {ls : Array Slot} {rest : List Value} {D : va_G} {dA : Nat → ClassId} {α : Nat → Nat → Nat} {H0 : Heap} {σ σ' : sm_M} {ret : Option FieldType} {own nm : String}
end KX6_channel
section WX6_poison
variable {p : Program} {l : Launch} {e : Env} {s : State} {m : MethodId} {args : Array Value} {below : List Frame} {meth : Method} {c : Code} {D : va_G} {dA : Nat → ClassId} {α : Nat → Nat → Nat}
set_option maxHeartbeats 4000000 in
set_option maxRecDepth 100000 in
theorem w_X6_poison_0 (G : gx p s m meth c args cX6_poison 4 (some .int) RX6 "poison" D dA) {r : Int32} {σz : sm_M} : ∀ (v1 : Int32) (v2 : Int32) (σ : sm_M), f_X6_poison v1 v2 σ = some (r, σz) → ∀ (H : Heap) (locs : List Loc) (ls : Array Slot), Wd D dA 1 α s.heap σ H locs → lv_has ls 4 [(0, .ref (α 20 0)), (1, .int v1), (2, .int v2)] → gW 2 p l e s m args below meth c D dA 1 α (some (.int r)) σz H locs (F0 m 0 ls []) := by
  obtain ⟨hx, hb, hr, hlk, hml, hown, hnm, hts, hK, hNw⟩ := id G
  intro v1 v2 σ hF H locs ls hW hl
  rw [f_X6_poison] at hF
  refine lv_aload_n hx hb dX6_poison_0 rfl (lv_at hl 0 rfl) ?_
  refine lv_iload_n hx hb dX6_poison_1 rfl (lv_at hl 1 rfl) ?_
  obtain ⟨q1, hq1, hF⟩ := o_b hF
  refine kk_X6_177 G hW hq1 hl.1 ⟨Nat.le_of_ble_eq_true rfl, Nat.le_of_ble_eq_true rfl⟩ ⟨Nat.le_refl _, Nat.le_refl _⟩ (Nat.le_of_ble_eq_true rfl) dX6_poison_2 (fun H locs hW => ?_)
  refine lv_if_eq (tgt := 10) hx hb dX6_poison_5 (by decide) (fun hc => ?_) (fun hc => ?_)
  · replace hF := o_t hc hF
    refine lv_iload_n hx hb dX6_poison_10 rfl (lv_at hl 2 rfl) ?_
    refine lv_sipush (v := -1000) hx hb dX6_poison_11 (by decide) ?_
    refine lv_sipush (v := 1000) hx hb dX6_poison_14 (by decide) ?_
    obtain ⟨q2, hq2, hF⟩ := o_b hF
    refine kk_X6_169 G hW hq2 hl.1 ⟨Nat.le_of_ble_eq_true rfl, Nat.le_of_ble_eq_true rfl⟩ ⟨Nat.le_refl _, Nat.le_refl _⟩ (Nat.le_of_ble_eq_true rfl) dX6_poison_17 (fun H locs hW => ?_)
    refine lv_if_ne (tgt := 26) hx hb dX6_poison_20 (by decide) (fun hc => ?_) (fun hc => ?_)
    · replace hF := o_f hc hF
      refine lv_aload_n hx hb dX6_poison_26 rfl (lv_at hl 0 rfl) ?_
      refine gg_X6_154 G hW (by decide) dX6_poison_27 ?_
      refine lv_if_eq (tgt := 36) hx hb dX6_poison_30 (by decide) (fun hc => ?_) (fun hc => ?_)
      · replace hF := o_t hc hF
        refine lv_aload_n hx hb dX6_poison_36 rfl (lv_at hl 0 rfl) ?_
        refine gg_X6_31 G hW (by decide) dX6_poison_37 ?_
        refine lv_iload_n hx hb dX6_poison_40 rfl (lv_at hl 1 rfl) ?_
        obtain ⟨x3, hx3, hF⟩ := o_b hF
        refine g_aI (φ := 28) G rfl rfl (by decide) rfl hW (by decide) hx3 dX6_poison_41 ?_
        refine lv_istore_n (lv' := [(3, .int x3), (0, .ref (α 20 0)), (1, .int v1), (2, .int v2)]) hx hb dX6_poison_42 rfl hl (by decide) rfl (fun ls hl => ?_)
        refine lv_aload_n hx hb dX6_poison_43 rfl (lv_at hl 1 rfl) ?_
        refine gg_X6_31 G hW (by decide) dX6_poison_44 ?_
        refine lv_iload_n hx hb dX6_poison_47 rfl (lv_at hl 2 rfl) ?_
        refine lv_iload_n hx hb dX6_poison_48 rfl (lv_at hl 3 rfl) ?_
        obtain ⟨σ4, hσ4, hF⟩ := o_b hF
        refine g_uI (φ := 28) G rfl rfl (by decide) rfl hW (by decide) hσ4 dX6_poison_49 (fun H locs hW => ?_)
        refine lv_iload_n hx hb dX6_poison_50 rfl (lv_at hl 0 rfl) ?_
        exact g_iret G hW hF dX6_poison_51
      · replace hF := o_f hc hF
        refine lv_bipush (v := -3) hx hb dX6_poison_33 (by decide) ?_
        exact g_iret G hW hF dX6_poison_35
    · replace hF := o_t hc hF
      refine lv_bipush (v := -2) hx hb dX6_poison_23 (by decide) ?_
      exact g_iret G hW hF dX6_poison_25
  · replace hF := o_f hc hF
    refine lv_iconst (v := -1) hx hb dX6_poison_8 (by decide) ?_
    exact g_iret G hW hF dX6_poison_9
end WX6_poison
theorem c_X6_poison {l : Launch} {D : va_G} {dA : Nat → ClassId} {α : Nat → Nat → Nat} (hI : Inj 1 α) {v1 : Int32} {v2 : Int32} {σ σz : sm_M} {r : Int32} (hF : f_X6_poison v1 v2 σ = some (r, σz)) : gM l D dA 1 α yX6_poison cX6_poison 4 (some .int) 2 [.ref (α 20 0), .int v1, .int v2] σ (some (.int r)) σz :=
  g_met hI (by decide +kernel) (Nat.le_of_ble_eq_true rfl) (fun p e s m below meth c ls G hW hl => w_X6_poison_0 G _ _ _ hF _ _ _ hW hl)
section KX6_poison
variable {p : Program} {l : Launch} {e : Env} {R : Room} {s : State} {m : MethodId} {args : Array Value} {below : List Frame} {meth : Method} {c : Code} {H : Heap} {locs : List Loc} {cells slots : Nat} {Q : State → Prop}
variable {cc : ByteArray} {pc nL Z : Nat} {ls : Array Slot} {rest : List Value} {D : va_G} {dA : Nat → ClassId} {α : Nat → Nat → Nat} {H0 : Heap} {σ σ' : sm_M} {ret : Option FieldType} {own nm : String}
end KX6_poison
section WX6_rule
variable {p : Program} {l : Launch} {e : Env} {s : State} {m : MethodId} {args : Array Value} {below : List Frame} {meth : Method} {c : Code} {D : va_G} {dA : Nat → ClassId} {α : Nat → Nat → Nat}
set_option maxHeartbeats 4000000 in
set_option maxRecDepth 100000 in
theorem w_X6_rule_0 (G : gx p s m meth c args cX6_rule 4 (some .int) RX6 "rule" D dA) {r : Int32} {σz : sm_M} : ∀ (v1 : Int32) (v2 : Int32) (σ : sm_M), f_X6_rule v1 v2 σ = some (r, σz) → ∀ (H : Heap) (locs : List Loc) (ls : Array Slot), Wd D dA 1 α s.heap σ H locs → lv_has ls 4 [(0, .ref (α 20 0)), (1, .int v1), (2, .int v2)] → gW 1 p l e s m args below meth c D dA 1 α (some (.int r)) σz H locs (F0 m 0 ls []) := by
  obtain ⟨hx, hb, hr, hlk, hml, hown, hnm, hts, hK, hNw⟩ := id G
  intro v1 v2 σ hF H locs ls hW hl
  rw [f_X6_rule] at hF
  refine lv_iload_n hx hb dX6_rule_0 rfl (lv_at hl 1 rfl) ?_
  refine lv_iconst (v := 1) hx hb dX6_rule_1 (by decide) ?_
  refine lv_bipush (v := 9) hx hb dX6_rule_2 (by decide) ?_
  obtain ⟨q1, hq1, hF⟩ := o_b hF
  refine kk_X6_169 G hW hq1 hl.1 ⟨Nat.le_of_ble_eq_true rfl, Nat.le_of_ble_eq_true rfl⟩ ⟨Nat.le_refl _, Nat.le_refl _⟩ (Nat.le_of_ble_eq_true rfl) dX6_rule_4 (fun H locs hW => ?_)
  refine lv_if_ne (tgt := 13) hx hb dX6_rule_7 (by decide) (fun hc => ?_) (fun hc => ?_)
  · replace hF := o_f hc hF
    refine lv_aload_n hx hb dX6_rule_13 rfl (lv_at hl 0 rfl) ?_
    refine gg_X6_138 G hW (by decide) dX6_rule_14 ?_
    refine lv_istore_n (lv' := [(3, .int (q1.2.1 20 0 32)), (0, .ref (α 20 0)), (1, .int v1), (2, .int v2)]) hx hb dX6_rule_17 rfl hl (by decide) rfl (fun ls hl => ?_)
    refine lv_aload_n hx hb dX6_rule_18 rfl (lv_at hl 1 rfl) ?_
    refine lv_iload_n hx hb dX6_rule_19 rfl (lv_at hl 2 rfl) ?_
    obtain ⟨σ2, hσ2, hF⟩ := o_b hF
    refine pp_X6_138 G hW (by decide) hσ2 dX6_rule_20 (fun H locs hW => ?_)
    refine lv_aload_n hx hb dX6_rule_23 rfl (lv_at hl 1 rfl) ?_
    refine lv_iload_n hx hb dX6_rule_24 rfl (lv_at hl 3 rfl) ?_
    obtain ⟨σ3, hσ3, hF⟩ := o_b hF
    refine pp_X6_141 G hW (by decide) hσ3 dX6_rule_25 (fun H locs hW => ?_)
    refine lv_iload_n hx hb dX6_rule_28 rfl (lv_at hl 0 rfl) ?_
    exact g_iret G hW hF dX6_rule_29
  · replace hF := o_t hc hF
    refine lv_bipush (v := -2) hx hb dX6_rule_10 (by decide) ?_
    exact g_iret G hW hF dX6_rule_12
end WX6_rule
theorem c_X6_rule {l : Launch} {D : va_G} {dA : Nat → ClassId} {α : Nat → Nat → Nat} (hI : Inj 1 α) {v1 : Int32} {v2 : Int32} {σ σz : sm_M} {r : Int32} (hF : f_X6_rule v1 v2 σ = some (r, σz)) : gM l D dA 1 α yX6_rule cX6_rule 4 (some .int) 1 [.ref (α 20 0), .int v1, .int v2] σ (some (.int r)) σz :=
  g_met hI (by decide +kernel) (Nat.le_of_ble_eq_true rfl) (fun p e s m below meth c ls G hW hl => w_X6_rule_0 G _ _ _ hF _ _ _ hW hl)
section KX6_rule
variable {p : Program} {l : Launch} {e : Env} {R : Room} {s : State} {m : MethodId} {args : Array Value} {below : List Frame} {meth : Method} {c : Code} {H : Heap} {locs : List Loc} {cells slots : Nat} {Q : State → Prop}
variable {cc : ByteArray} {pc nL Z : Nat} {ls : Array Slot} {rest : List Value} {D : va_G} {dA : Nat → ClassId} {α : Nat → Nat → Nat} {H0 : Heap} {σ σ' : sm_M} {ret : Option FieldType} {own nm : String}
end KX6_rule
section WX6_findDone
variable {p : Program} {l : Launch} {e : Env} {s : State} {m : MethodId} {args : Array Value} {below : List Frame} {meth : Method} {c : Code} {D : va_G} {dA : Nat → ClassId} {α : Nat → Nat → Nat}
set_option maxHeartbeats 4000000 in
set_option maxRecDepth 100000 in
theorem w_X6_findDone_105 (G : gx p s m meth c args cX6_findDone 4 none RX6 "findDone" D dA) {σz : sm_M} (k2 : Int32 → sm_M → Option (sm_M)) (hk2 : ∀ (v1 : Int32) (σ : sm_M), k2 v1 σ = some σz → ∀ (H : Heap) (locs : List Loc) (ls : Array Slot), Wd D dA 1 α s.heap σ H locs → lv_has ls 4 [(0, .ref (α 20 0)), (1, .int v1)] → gW 0 p l e s m args below meth c D dA 1 α none σz H locs (F0 m 2 ls [])) : ∀ (v1 : Int32) (v2 : Int32) (σ : sm_M), f_X6_findDone_105 k2 v1 v2 σ = some σz → ∀ (H : Heap) (locs : List Loc) (ls : Array Slot), Wd D dA 1 α s.heap σ H locs → lv_has ls 4 [(0, .ref (α 20 0)), (1, .int v1), (2, .int v2)] → gW 0 p l e s m args below meth c D dA 1 α none σz H locs (F0 m 105 ls []) := by
  obtain ⟨hx, hb, hr, hlk, hml, hown, hnm, hts, hK, hNw⟩ := id G
  intro v1 v2 σ hF H locs ls hW hl
  rw [f_X6_findDone_105] at hF
  refine lv_aload_n hx hb dX6_findDone_105 rfl (lv_at hl 0 rfl) ?_
  refine gg_X6_110 G hW (by decide) dX6_findDone_106 ?_
  refine lv_iload_n hx hb dX6_findDone_109 rfl (lv_at hl 1 rfl) ?_
  refine lv_iload_n hx hb dX6_findDone_110 rfl (lv_at hl 2 rfl) ?_
  obtain ⟨σ1, hσ1, hF⟩ := o_b hF
  refine g_uZ (φ := 54) G rfl rfl (by decide) rfl hW (by decide) hσ1 dX6_findDone_111 (fun H locs hW => ?_)
  refine lv_iinc (v := (v1 + 1)) (lv' := [(1, .int (v1 + 1)), (0, .ref (α 20 0)), (2, .int v2)]) hx hb dX6_findDone_112 hl (k := 1) rfl rfl (by decide) rfl (fun ls hl => ?_)
  refine lv_goto (tgt := 2) hx hb dX6_findDone_115 (by decide) ?_
  exact hk2 _ _ hF H locs ls hW (lv_sub hl [1, 0] rfl)
set_option maxHeartbeats 4000000 in
set_option maxRecDepth 100000 in
theorem w_X6_findDone_98 (G : gx p s m meth c args cX6_findDone 4 none RX6 "findDone" D dA) {σz : sm_M} (k2 : Int32 → sm_M → Option (sm_M)) (hk2 : ∀ (v1 : Int32) (σ : sm_M), k2 v1 σ = some σz → ∀ (H : Heap) (locs : List Loc) (ls : Array Slot), Wd D dA 1 α s.heap σ H locs → lv_has ls 4 [(0, .ref (α 20 0)), (1, .int v1)] → gW 0 p l e s m args below meth c D dA 1 α none σz H locs (F0 m 2 ls [])) (k42 : Int32 → Int32 → Int32 → sm_M → Option (sm_M)) (hk42 : ∀ (v1 : Int32) (v2 : Int32) (v3 : Int32) (σ : sm_M), k42 v1 v2 v3 σ = some σz → ∀ (H : Heap) (locs : List Loc) (ls : Array Slot), Wd D dA 1 α s.heap σ H locs → lv_has ls 4 [(0, .ref (α 20 0)), (1, .int v1), (2, .int v2), (3, .int v3)] → gW 0 p l e s m args below meth c D dA 1 α none σz H locs (F0 m 42 ls [])) : ∀ (v1 : Int32) (v3 : Int32) (s0 : Int32) (σ : sm_M), f_X6_findDone_98 k2 k42 v1 v3 s0 σ = some σz → ∀ (H : Heap) (locs : List Loc) (ls : Array Slot), Wd D dA 1 α s.heap σ H locs → lv_has ls 4 [(0, .ref (α 20 0)), (1, .int v1), (3, .int v3)] → gW 0 p l e s m args below meth c D dA 1 α none σz H locs (F0 m 98 ls [.int s0]) := by
  obtain ⟨hx, hb, hr, hlk, hml, hown, hnm, hts, hK, hNw⟩ := id G
  intro v1 v3 s0 σ hF H locs ls hW hl
  rw [f_X6_findDone_98] at hF
  refine lv_istore_n (lv' := [(2, .int s0), (0, .ref (α 20 0)), (1, .int v1), (3, .int v3)]) hx hb dX6_findDone_98 rfl hl (by decide) rfl (fun ls hl => ?_)
  refine lv_iinc (v := (v3 + 1)) (lv' := [(3, .int (v3 + 1)), (2, .int s0), (0, .ref (α 20 0)), (1, .int v1)]) hx hb dX6_findDone_99 hl (k := 3) rfl rfl (by decide) rfl (fun ls hl => ?_)
  refine lv_goto (tgt := 42) hx hb dX6_findDone_102 (by decide) ?_
  exact hk42 _ _ _ _ hF H locs ls hW (lv_sub hl [2, 3, 1, 0] rfl)
set_option maxHeartbeats 4000000 in
set_option maxRecDepth 100000 in
theorem w_X6_findDone_97 (G : gx p s m meth c args cX6_findDone 4 none RX6 "findDone" D dA) {σz : sm_M} (k2 : Int32 → sm_M → Option (sm_M)) (hk2 : ∀ (v1 : Int32) (σ : sm_M), k2 v1 σ = some σz → ∀ (H : Heap) (locs : List Loc) (ls : Array Slot), Wd D dA 1 α s.heap σ H locs → lv_has ls 4 [(0, .ref (α 20 0)), (1, .int v1)] → gW 0 p l e s m args below meth c D dA 1 α none σz H locs (F0 m 2 ls [])) (k42 : Int32 → Int32 → Int32 → sm_M → Option (sm_M)) (hk42 : ∀ (v1 : Int32) (v2 : Int32) (v3 : Int32) (σ : sm_M), k42 v1 v2 v3 σ = some σz → ∀ (H : Heap) (locs : List Loc) (ls : Array Slot), Wd D dA 1 α s.heap σ H locs → lv_has ls 4 [(0, .ref (α 20 0)), (1, .int v1), (2, .int v2), (3, .int v3)] → gW 0 p l e s m args below meth c D dA 1 α none σz H locs (F0 m 42 ls [])) : ∀ (v1 : Int32) (v3 : Int32) (σ : sm_M), f_X6_findDone_97 k2 k42 v1 v3 σ = some σz → ∀ (H : Heap) (locs : List Loc) (ls : Array Slot), Wd D dA 1 α s.heap σ H locs → lv_has ls 4 [(0, .ref (α 20 0)), (1, .int v1), (3, .int v3)] → gW 0 p l e s m args below meth c D dA 1 α none σz H locs (F0 m 97 ls []) := by
  obtain ⟨hx, hb, hr, hlk, hml, hown, hnm, hts, hK, hNw⟩ := id G
  intro v1 v3 σ hF H locs ls hW hl
  rw [f_X6_findDone_97] at hF
  refine lv_iconst (v := 0) hx hb dX6_findDone_97 (by decide) ?_
  exact w_X6_findDone_98 G k2 hk2 k42 hk42 _ _ _ _ hF H locs ls hW (lv_sub hl [0, 1, 2] rfl)
set_option maxHeartbeats 4000000 in
set_option maxRecDepth 100000 in
theorem w_X6_findDone_93 (G : gx p s m meth c args cX6_findDone 4 none RX6 "findDone" D dA) {σz : sm_M} (k2 : Int32 → sm_M → Option (sm_M)) (hk2 : ∀ (v1 : Int32) (σ : sm_M), k2 v1 σ = some σz → ∀ (H : Heap) (locs : List Loc) (ls : Array Slot), Wd D dA 1 α s.heap σ H locs → lv_has ls 4 [(0, .ref (α 20 0)), (1, .int v1)] → gW 0 p l e s m args below meth c D dA 1 α none σz H locs (F0 m 2 ls [])) (k42 : Int32 → Int32 → Int32 → sm_M → Option (sm_M)) (hk42 : ∀ (v1 : Int32) (v2 : Int32) (v3 : Int32) (σ : sm_M), k42 v1 v2 v3 σ = some σz → ∀ (H : Heap) (locs : List Loc) (ls : Array Slot), Wd D dA 1 α s.heap σ H locs → lv_has ls 4 [(0, .ref (α 20 0)), (1, .int v1), (2, .int v2), (3, .int v3)] → gW 0 p l e s m args below meth c D dA 1 α none σz H locs (F0 m 42 ls [])) : ∀ (v1 : Int32) (v3 : Int32) (σ : sm_M), f_X6_findDone_93 k2 k42 v1 v3 σ = some σz → ∀ (H : Heap) (locs : List Loc) (ls : Array Slot), Wd D dA 1 α s.heap σ H locs → lv_has ls 4 [(0, .ref (α 20 0)), (1, .int v1), (3, .int v3)] → gW 0 p l e s m args below meth c D dA 1 α none σz H locs (F0 m 93 ls []) := by
  obtain ⟨hx, hb, hr, hlk, hml, hown, hnm, hts, hK, hNw⟩ := id G
  intro v1 v3 σ hF H locs ls hW hl
  rw [f_X6_findDone_93] at hF
  refine lv_iconst (v := 1) hx hb dX6_findDone_93 (by decide) ?_
  refine lv_goto (tgt := 98) hx hb dX6_findDone_94 (by decide) ?_
  exact w_X6_findDone_98 G k2 hk2 k42 hk42 _ _ _ _ hF H locs ls hW (lv_sub hl [0, 1, 2] rfl)
set_option maxHeartbeats 4000000 in
set_option maxRecDepth 100000 in
theorem w_X6_findDone_42 (G : gx p s m meth c args cX6_findDone 4 none RX6 "findDone" D dA) {σz : sm_M} (k2 : Int32 → sm_M → Option (sm_M)) (hk2 : ∀ (v1 : Int32) (σ : sm_M), k2 v1 σ = some σz → ∀ (H : Heap) (locs : List Loc) (ls : Array Slot), Wd D dA 1 α s.heap σ H locs → lv_has ls 4 [(0, .ref (α 20 0)), (1, .int v1)] → gW 0 p l e s m args below meth c D dA 1 α none σz H locs (F0 m 2 ls [])) : ∀ (n : Nat) (v1 : Int32) (v2 : Int32) (v3 : Int32) (σ : sm_M), f_X6_findDone_42 k2 n v1 v2 v3 σ = some σz → ∀ (H : Heap) (locs : List Loc) (ls : Array Slot), Wd D dA 1 α s.heap σ H locs → lv_has ls 4 [(0, .ref (α 20 0)), (1, .int v1), (2, .int v2), (3, .int v3)] → gW 0 p l e s m args below meth c D dA 1 α none σz H locs (F0 m 42 ls []) := by
  obtain ⟨hx, hb, hr, hlk, hml, hown, hnm, hts, hK, hNw⟩ := id G
  intro n
  induction n with
  | zero => intro v1 v2 v3 σ hF; exact absurd hF (by intro h; cases h)
  | succ n ih =>
    intro v1 v2 v3 σ hF H locs ls hW hl
    rw [f_X6_findDone_42] at hF
    refine lv_iload_n hx hb dX6_findDone_42 rfl (lv_at hl 3 rfl) ?_
    refine lv_aload_n hx hb dX6_findDone_43 rfl (lv_at hl 0 rfl) ?_
    refine gg_X6_135 G hW (by decide) dX6_findDone_44 ?_
    refine lv_icmp_ge (tgt := 105) hx hb dX6_findDone_47 (by decide) (fun hc => ?_) (fun hc => ?_)
    · replace hF := o_t hc hF
      exact w_X6_findDone_105 G k2 hk2 _ _ _ hF H locs ls hW (lv_sub hl [0, 1, 2] rfl)
    · replace hF := o_f hc hF
      refine lv_iload_n hx hb dX6_findDone_50 rfl (lv_at hl 2 rfl) ?_
      refine lv_if_eq (tgt := 97) hx hb dX6_findDone_51 (by decide) (fun hc => ?_) (fun hc => ?_)
      · replace hF := o_t hc hF
        exact w_X6_findDone_97 G k2 hk2 (f_X6_findDone_42 k2 n) ih _ _ _ hF H locs ls hW (lv_sub hl [0, 1, 3] rfl)
      · replace hF := o_f hc hF
        refine lv_aload_n hx hb dX6_findDone_54 rfl (lv_at hl 0 rfl) ?_
        refine gg_X6_52 G hW (by decide) dX6_findDone_55 ?_
        refine lv_iload_n hx hb dX6_findDone_58 rfl (lv_at hl 3 rfl) ?_
        obtain ⟨x1, hx1, hF⟩ := o_b hF
        refine g_aI (φ := 35) G rfl rfl (by decide) rfl hW (by decide) hx1 dX6_findDone_59 ?_
        refine lv_iload_n hx hb dX6_findDone_60 rfl (lv_at hl 1 rfl) ?_
        refine lv_icmp_ne (tgt := 93) hx hb dX6_findDone_61 (by decide) (fun hc => ?_) (fun hc => ?_)
        · replace hF := o_f hc hF
          exact w_X6_findDone_93 G k2 hk2 (f_X6_findDone_42 k2 n) ih _ _ _ hF H locs ls hW (lv_sub hl [0, 1, 3] rfl)
        · replace hF := o_t hc hF
          refine lv_aload_n hx hb dX6_findDone_64 rfl (lv_at hl 0 rfl) ?_
          refine gg_X6_110 G hW (by decide) dX6_findDone_65 ?_
          refine lv_aload_n hx hb dX6_findDone_68 rfl (lv_at hl 0 rfl) ?_
          refine gg_X6_49 G hW (by decide) dX6_findDone_69 ?_
          refine lv_iload_n hx hb dX6_findDone_72 rfl (lv_at hl 3 rfl) ?_
          obtain ⟨x2, hx2, hF⟩ := o_b hF
          refine g_aI (φ := 34) G rfl rfl (by decide) rfl hW (by decide) hx2 dX6_findDone_73 ?_
          obtain ⟨x3, hx3, hF⟩ := o_b hF
          refine g_aZ (φ := 54) G rfl rfl (by decide) rfl hW (by decide) hx3 dX6_findDone_74 ?_
          refine lv_if_eq (tgt := 97) hx hb dX6_findDone_75 (by decide) (fun hc => ?_) (fun hc => ?_)
          · replace hF := o_t hc hF
            exact w_X6_findDone_97 G k2 hk2 (f_X6_findDone_42 k2 n) ih _ _ _ hF H locs ls hW (lv_sub hl [0, 1, 3] rfl)
          · replace hF := o_f hc hF
            refine lv_aload_n hx hb dX6_findDone_78 rfl (lv_at hl 0 rfl) ?_
            refine gg_X6_68 G hW (by decide) dX6_findDone_79 ?_
            refine lv_iload_n hx hb dX6_findDone_82 rfl (lv_at hl 3 rfl) ?_
            obtain ⟨x4, hx4, hF⟩ := o_b hF
            refine g_aI (φ := 40) G rfl rfl (by decide) rfl hW (by decide) hx4 dX6_findDone_83 ?_
            refine lv_aload_n hx hb dX6_findDone_84 rfl (lv_at hl 0 rfl) ?_
            refine gg_X6_65 G hW (by decide) dX6_findDone_85 ?_
            refine lv_iload_n hx hb dX6_findDone_88 rfl (lv_at hl 3 rfl) ?_
            obtain ⟨x5, hx5, hF⟩ := o_b hF
            refine g_aI (φ := 39) G rfl rfl (by decide) rfl hW (by decide) hx5 dX6_findDone_89 ?_
            refine lv_icmp_lt (tgt := 97) hx hb dX6_findDone_90 (by decide) (fun hc => ?_) (fun hc => ?_)
            · replace hF := o_t hc hF
              exact w_X6_findDone_97 G k2 hk2 (f_X6_findDone_42 k2 n) ih _ _ _ hF H locs ls hW (lv_sub hl [0, 1, 3] rfl)
            · replace hF := o_f hc hF
              exact w_X6_findDone_93 G k2 hk2 (f_X6_findDone_42 k2 n) ih _ _ _ hF H locs ls hW (lv_sub hl [0, 1, 3] rfl)
set_option maxHeartbeats 4000000 in
set_option maxRecDepth 100000 in
theorem w_X6_findDone_39 (G : gx p s m meth c args cX6_findDone 4 none RX6 "findDone" D dA) {σz : sm_M} (k2 : Int32 → sm_M → Option (sm_M)) (hk2 : ∀ (v1 : Int32) (σ : sm_M), k2 v1 σ = some σz → ∀ (H : Heap) (locs : List Loc) (ls : Array Slot), Wd D dA 1 α s.heap σ H locs → lv_has ls 4 [(0, .ref (α 20 0)), (1, .int v1)] → gW 0 p l e s m args below meth c D dA 1 α none σz H locs (F0 m 2 ls [])) : ∀ (v1 : Int32) (s0 : Int32) (σ : sm_M), f_X6_findDone_39 k2 v1 s0 σ = some σz → ∀ (H : Heap) (locs : List Loc) (ls : Array Slot), Wd D dA 1 α s.heap σ H locs → lv_has ls 4 [(0, .ref (α 20 0)), (1, .int v1)] → gW 0 p l e s m args below meth c D dA 1 α none σz H locs (F0 m 39 ls [.int s0]) := by
  obtain ⟨hx, hb, hr, hlk, hml, hown, hnm, hts, hK, hNw⟩ := id G
  intro v1 s0 σ hF H locs ls hW hl
  rw [f_X6_findDone_39] at hF
  refine lv_istore_n (lv' := [(2, .int s0), (0, .ref (α 20 0)), (1, .int v1)]) hx hb dX6_findDone_39 rfl hl (by decide) rfl (fun ls hl => ?_)
  refine lv_iconst (v := 0) hx hb dX6_findDone_40 (by decide) ?_
  refine lv_istore_n (lv' := [(3, .int (0 : Int32)), (2, .int s0), (0, .ref (α 20 0)), (1, .int v1)]) hx hb dX6_findDone_41 rfl hl (by decide) rfl (fun ls hl => ?_)
  exact w_X6_findDone_42 G k2 hk2 1000 _ _ _ _ hF H locs ls hW (lv_sub hl [2, 3, 1, 0] rfl)
set_option maxHeartbeats 4000000 in
set_option maxRecDepth 100000 in
theorem w_X6_findDone_34 (G : gx p s m meth c args cX6_findDone 4 none RX6 "findDone" D dA) {σz : sm_M} (k2 : Int32 → sm_M → Option (sm_M)) (hk2 : ∀ (v1 : Int32) (σ : sm_M), k2 v1 σ = some σz → ∀ (H : Heap) (locs : List Loc) (ls : Array Slot), Wd D dA 1 α s.heap σ H locs → lv_has ls 4 [(0, .ref (α 20 0)), (1, .int v1)] → gW 0 p l e s m args below meth c D dA 1 α none σz H locs (F0 m 2 ls [])) : ∀ (v1 : Int32) (σ : sm_M), f_X6_findDone_34 k2 v1 σ = some σz → ∀ (H : Heap) (locs : List Loc) (ls : Array Slot), Wd D dA 1 α s.heap σ H locs → lv_has ls 4 [(0, .ref (α 20 0)), (1, .int v1)] → gW 0 p l e s m args below meth c D dA 1 α none σz H locs (F0 m 34 ls []) := by
  obtain ⟨hx, hb, hr, hlk, hml, hown, hnm, hts, hK, hNw⟩ := id G
  intro v1 σ hF H locs ls hW hl
  rw [f_X6_findDone_34] at hF
  refine lv_iconst (v := 1) hx hb dX6_findDone_34 (by decide) ?_
  refine lv_goto (tgt := 39) hx hb dX6_findDone_35 (by decide) ?_
  exact w_X6_findDone_39 G k2 hk2 _ _ _ hF H locs ls hW (lv_sub hl [0, 1] rfl)
set_option maxHeartbeats 4000000 in
set_option maxRecDepth 100000 in
theorem w_X6_findDone_2 (G : gx p s m meth c args cX6_findDone 4 none RX6 "findDone" D dA) {σz : sm_M} : ∀ (n : Nat) (v1 : Int32) (σ : sm_M), f_X6_findDone_2 n v1 σ = some σz → ∀ (H : Heap) (locs : List Loc) (ls : Array Slot), Wd D dA 1 α s.heap σ H locs → lv_has ls 4 [(0, .ref (α 20 0)), (1, .int v1)] → gW 0 p l e s m args below meth c D dA 1 α none σz H locs (F0 m 2 ls []) := by
  obtain ⟨hx, hb, hr, hlk, hml, hown, hnm, hts, hK, hNw⟩ := id G
  intro n
  induction n with
  | zero => intro v1 σ hF; exact absurd hF (by intro h; cases h)
  | succ n ih =>
    intro v1 σ hF H locs ls hW hl
    rw [f_X6_findDone_2] at hF
    refine lv_iload_n hx hb dX6_findDone_2 rfl (lv_at hl 1 rfl) ?_
    refine lv_aload_n hx hb dX6_findDone_3 rfl (lv_at hl 0 rfl) ?_
    refine gg_X6_131 G hW (by decide) dX6_findDone_4 ?_
    refine lv_icmp_ge (tgt := 118) hx hb dX6_findDone_7 (by decide) (fun hc => ?_) (fun hc => ?_)
    · replace hF := o_t hc hF
      exact g_vret G hW hF dX6_findDone_118
    · replace hF := o_f hc hF
      refine lv_aload_n hx hb dX6_findDone_10 rfl (lv_at hl 0 rfl) ?_
      refine gg_X6_7 G hW (by decide) dX6_findDone_11 ?_
      refine lv_iload_n hx hb dX6_findDone_14 rfl (lv_at hl 1 rfl) ?_
      obtain ⟨x1, hx1, hF⟩ := o_b hF
      refine g_aI (φ := 21) G rfl rfl (by decide) rfl hW (by decide) hx1 dX6_findDone_15 ?_
      refine lv_if_ne (tgt := 34) hx hb dX6_findDone_16 (by decide) (fun hc => ?_) (fun hc => ?_)
      · replace hF := o_f hc hF
        exact w_X6_findDone_34 G (f_X6_findDone_2 n) ih _ _ hF H locs ls hW (lv_sub hl [0, 1] rfl)
      · replace hF := o_t hc hF
        refine lv_aload_n hx hb dX6_findDone_19 rfl (lv_at hl 0 rfl) ?_
        refine gg_X6_19 G hW (by decide) dX6_findDone_20 ?_
        refine lv_iload_n hx hb dX6_findDone_23 rfl (lv_at hl 1 rfl) ?_
        obtain ⟨x2, hx2, hF⟩ := o_b hF
        refine g_aI (φ := 24) G rfl rfl (by decide) rfl hW (by decide) hx2 dX6_findDone_24 ?_
        refine lv_aload_n hx hb dX6_findDone_25 rfl (lv_at hl 0 rfl) ?_
        refine gg_X6_13 G hW (by decide) dX6_findDone_26 ?_
        refine lv_iload_n hx hb dX6_findDone_29 rfl (lv_at hl 1 rfl) ?_
        obtain ⟨x3, hx3, hF⟩ := o_b hF
        refine g_aI (φ := 22) G rfl rfl (by decide) rfl hW (by decide) hx3 dX6_findDone_30 ?_
        refine lv_icmp_ne (tgt := 38) hx hb dX6_findDone_31 (by decide) (fun hc => ?_) (fun hc => ?_)
        · replace hF := o_f hc hF
          refine lv_iconst (v := 0) hx hb dX6_findDone_38 (by decide) ?_
          exact w_X6_findDone_39 G (f_X6_findDone_2 n) ih _ _ _ hF H locs ls hW (lv_sub hl [0, 1] rfl)
        · replace hF := o_t hc hF
          exact w_X6_findDone_34 G (f_X6_findDone_2 n) ih _ _ hF H locs ls hW (lv_sub hl [0, 1] rfl)
set_option maxHeartbeats 4000000 in
set_option maxRecDepth 100000 in
theorem w_X6_findDone_0 (G : gx p s m meth c args cX6_findDone 4 none RX6 "findDone" D dA) {σz : sm_M} : ∀ (σ : sm_M), f_X6_findDone σ = some σz → ∀ (H : Heap) (locs : List Loc) (ls : Array Slot), Wd D dA 1 α s.heap σ H locs → lv_has ls 4 [(0, .ref (α 20 0))] → gW 0 p l e s m args below meth c D dA 1 α none σz H locs (F0 m 0 ls []) := by
  obtain ⟨hx, hb, hr, hlk, hml, hown, hnm, hts, hK, hNw⟩ := id G
  intro σ hF H locs ls hW hl
  rw [f_X6_findDone] at hF
  refine lv_iconst (v := 0) hx hb dX6_findDone_0 (by decide) ?_
  refine lv_istore_n (lv' := [(1, .int (0 : Int32)), (0, .ref (α 20 0))]) hx hb dX6_findDone_1 rfl hl (by decide) rfl (fun ls hl => ?_)
  exact w_X6_findDone_2 G 1000 _ _ hF H locs ls hW (lv_sub hl [1, 0] rfl)
end WX6_findDone
theorem c_X6_findDone {l : Launch} {D : va_G} {dA : Nat → ClassId} {α : Nat → Nat → Nat} (hI : Inj 1 α) {σ σz : sm_M} (hF : f_X6_findDone σ = some σz) : gM l D dA 1 α yX6_findDone cX6_findDone 4 none 0 [.ref (α 20 0)] σ none σz :=
  g_met hI (by decide +kernel) (Nat.le_of_ble_eq_true rfl) (fun p e s m below meth c ls G hW hl => w_X6_findDone_0 G  _ hF _ _ _ hW hl)
section KX6_findDone
variable {p : Program} {l : Launch} {e : Env} {R : Room} {s : State} {m : MethodId} {args : Array Value} {below : List Frame} {meth : Method} {c : Code} {H : Heap} {locs : List Loc} {cells slots : Nat} {Q : State → Prop}
variable {cc : ByteArray} {pc nL Z : Nat} {ls : Array Slot} {rest : List Value} {D : va_G} {dA : Nat → ClassId} {α : Nat → Nat → Nat} {H0 : Heap} {σ σ' : sm_M} {ret : Option FieldType} {own nm : String}
theorem kk_X6_198 (G : gx p s m meth c args cc nL ret RX6 nm D dA) (hW : Wd D dA 1 α H0 σ H locs) {q : sm_M} (hq : f_X6_findDone σ = some q) (hls : ls.size = nL) (hR : 0 + 1 ≤ R.frames ∧ 8 + (4 + 11) + 44 * 0 ≤ R.locals) (hf : cells ≤ R.cells ∧ slots ≤ R.slots) (hcat : (rest.map fun v => v.category).sum ≤ 8) (hdg : decode cc pc = .ok (.invokevirtual 198, 3)) (kk : ∀ (H1 : Heap) (locs1 : List Loc), Wd D dA 1 α H0 q H1 locs1 → W p l e R s m args below meth c H1 locs1 cells slots Q (F0 m (pc + 3) ls rest)) : W p l e R s m args below meth c H locs cells slots Q (F0 m pc ls (.ref (α 20 0) :: rest)) :=
  g_cV (n := 0) G (c_X6_findDone (l := l) hW.2.2.2 hq) ⟨wm_20_2, wm_20_3, wm_20_4, wm_1_5, wm_20_5⟩ (by decide +kernel) hW (g_recv (φ := 20) (ci := 6) G.2.2.2.2.2.2.2.2.1 rfl rfl rfl (by decide) hW.1 rfl) hR hf rfl hls rfl hcat hdg kk
end KX6_findDone
section WX6_isOver
variable {p : Program} {l : Launch} {e : Env} {s : State} {m : MethodId} {args : Array Value} {below : List Frame} {meth : Method} {c : Code} {D : va_G} {dA : Nat → ClassId} {α : Nat → Nat → Nat}
set_option maxHeartbeats 4000000 in
set_option maxRecDepth 100000 in
theorem w_X6_isOver_34 (G : gx p s m meth c args cX6_isOver 2 (some .boolean) RX6 "isOver" D dA) {r : Int32} {σz : sm_M} : ∀ (s0 : Int32) (σ : sm_M), f_X6_isOver_34 s0 σ = some (r, σz) → ∀ (H : Heap) (locs : List Loc) (ls : Array Slot), Wd D dA 1 α s.heap σ H locs → lv_has ls 2 [] → gW 0 p l e s m args below meth c D dA 1 α (some (.int r)) σz H locs (F0 m 34 ls [.int s0]) := by
  obtain ⟨hx, hb, hr, hlk, hml, hown, hnm, hts, hK, hNw⟩ := id G
  intro s0 σ hF H locs ls hW hl
  rw [f_X6_isOver_34] at hF
  exact g_zret G hW hF dX6_isOver_34
set_option maxHeartbeats 4000000 in
set_option maxRecDepth 100000 in
theorem w_X6_isOver_33 (G : gx p s m meth c args cX6_isOver 2 (some .boolean) RX6 "isOver" D dA) {r : Int32} {σz : sm_M} : ∀ (σ : sm_M), f_X6_isOver_33 σ = some (r, σz) → ∀ (H : Heap) (locs : List Loc) (ls : Array Slot), Wd D dA 1 α s.heap σ H locs → lv_has ls 2 [] → gW 0 p l e s m args below meth c D dA 1 α (some (.int r)) σz H locs (F0 m 33 ls []) := by
  obtain ⟨hx, hb, hr, hlk, hml, hown, hnm, hts, hK, hNw⟩ := id G
  intro σ hF H locs ls hW hl
  rw [f_X6_isOver_33] at hF
  refine lv_iconst (v := 0) hx hb dX6_isOver_33 (by decide) ?_
  exact w_X6_isOver_34 G _ _ hF H locs ls hW (lv_sub hl [] rfl)
set_option maxHeartbeats 4000000 in
set_option maxRecDepth 100000 in
theorem w_X6_isOver_0 (G : gx p s m meth c args cX6_isOver 2 (some .boolean) RX6 "isOver" D dA) {r : Int32} {σz : sm_M} : ∀ (v1 : Int32) (σ : sm_M), f_X6_isOver v1 σ = some (r, σz) → ∀ (H : Heap) (locs : List Loc) (ls : Array Slot), Wd D dA 1 α s.heap σ H locs → lv_has ls 2 [(0, .ref (α 20 0)), (1, .int v1)] → gW 0 p l e s m args below meth c D dA 1 α (some (.int r)) σz H locs (F0 m 0 ls []) := by
  obtain ⟨hx, hb, hr, hlk, hml, hown, hnm, hts, hK, hNw⟩ := id G
  intro v1 σ hF H locs ls hW hl
  rw [f_X6_isOver] at hF
  refine lv_aload_n hx hb dX6_isOver_0 rfl (lv_at hl 0 rfl) ?_
  refine gg_X6_110 G hW (by decide) dX6_isOver_1 ?_
  refine lv_aload_n hx hb dX6_isOver_4 rfl (lv_at hl 0 rfl) ?_
  refine gg_X6_49 G hW (by decide) dX6_isOver_5 ?_
  refine lv_iload_n hx hb dX6_isOver_8 rfl (lv_at hl 1 rfl) ?_
  obtain ⟨x1, hx1, hF⟩ := o_b hF
  refine g_aI (φ := 34) G rfl rfl (by decide) rfl hW (by decide) hx1 dX6_isOver_9 ?_
  obtain ⟨x2, hx2, hF⟩ := o_b hF
  refine g_aZ (φ := 54) G rfl rfl (by decide) rfl hW (by decide) hx2 dX6_isOver_10 ?_
  refine lv_if_eq (tgt := 33) hx hb dX6_isOver_11 (by decide) (fun hc => ?_) (fun hc => ?_)
  · replace hF := o_t hc hF
    exact w_X6_isOver_33 G  _ hF H locs ls hW (lv_sub hl [] rfl)
  · replace hF := o_f hc hF
    refine lv_aload_n hx hb dX6_isOver_14 rfl (lv_at hl 0 rfl) ?_
    refine gg_X6_68 G hW (by decide) dX6_isOver_15 ?_
    refine lv_iload_n hx hb dX6_isOver_18 rfl (lv_at hl 1 rfl) ?_
    obtain ⟨x3, hx3, hF⟩ := o_b hF
    refine g_aI (φ := 40) G rfl rfl (by decide) rfl hW (by decide) hx3 dX6_isOver_19 ?_
    refine lv_aload_n hx hb dX6_isOver_20 rfl (lv_at hl 0 rfl) ?_
    refine gg_X6_65 G hW (by decide) dX6_isOver_21 ?_
    refine lv_iload_n hx hb dX6_isOver_24 rfl (lv_at hl 1 rfl) ?_
    obtain ⟨x4, hx4, hF⟩ := o_b hF
    refine g_aI (φ := 39) G rfl rfl (by decide) rfl hW (by decide) hx4 dX6_isOver_25 ?_
    refine lv_icmp_lt (tgt := 33) hx hb dX6_isOver_26 (by decide) (fun hc => ?_) (fun hc => ?_)
    · replace hF := o_t hc hF
      exact w_X6_isOver_33 G  _ hF H locs ls hW (lv_sub hl [] rfl)
    · replace hF := o_f hc hF
      refine lv_iconst (v := 1) hx hb dX6_isOver_29 (by decide) ?_
      refine lv_goto (tgt := 34) hx hb dX6_isOver_30 (by decide) ?_
      exact w_X6_isOver_34 G _ _ hF H locs ls hW (lv_sub hl [] rfl)
end WX6_isOver
theorem c_X6_isOver {l : Launch} {D : va_G} {dA : Nat → ClassId} {α : Nat → Nat → Nat} (hI : Inj 1 α) {v1 : Int32} {σ σz : sm_M} {r : Int32} (hF : f_X6_isOver v1 σ = some (r, σz)) : gM l D dA 1 α yX6_isOver cX6_isOver 2 (some .boolean) 0 [.ref (α 20 0), .int v1] σ (some (.int r)) σz :=
  g_met hI (by decide +kernel) (Nat.le_of_ble_eq_true rfl) (fun p e s m below meth c ls G hW hl => w_X6_isOver_0 G _ _ hF _ _ _ hW hl)
section KX6_isOver
variable {p : Program} {l : Launch} {e : Env} {R : Room} {s : State} {m : MethodId} {args : Array Value} {below : List Frame} {meth : Method} {c : Code} {H : Heap} {locs : List Loc} {cells slots : Nat} {Q : State → Prop}
variable {cc : ByteArray} {pc nL Z : Nat} {ls : Array Slot} {rest : List Value} {D : va_G} {dA : Nat → ClassId} {α : Nat → Nat → Nat} {H0 : Heap} {σ σ' : sm_M} {ret : Option FieldType} {own nm : String}
theorem kk_X6_180 (G : gx p s m meth c args cc nL ret RX6 nm D dA) (hW : Wd D dA 1 α H0 σ H locs) {v1 : Int32} {q : Int32 × sm_M} (hq : f_X6_isOver v1 σ = some q) (hls : ls.size = nL) (hR : 0 + 1 ≤ R.frames ∧ 8 + (2 + 11) + 44 * 0 ≤ R.locals) (hf : cells ≤ R.cells ∧ slots ≤ R.slots) (hcat : (rest.map fun v => v.category).sum ≤ 8) (hdg : decode cc pc = .ok (.invokevirtual 180, 3)) (kk : ∀ (H1 : Heap) (locs1 : List Loc), Wd D dA 1 α H0 q.2 H1 locs1 → W p l e R s m args below meth c H1 locs1 cells slots Q (F0 m (pc + 3) ls (.int q.1 :: rest))) : W p l e R s m args below meth c H locs cells slots Q (F0 m pc ls (.int v1 :: .ref (α 20 0) :: rest)) :=
  g_cV (n := 1) G (c_X6_isOver (l := l) hW.2.2.2 hq) ⟨wm_20_10, wm_20_11, wm_20_12, wm_1_5, wm_20_13⟩ (by decide +kernel) hW (g_recv (φ := 20) (ci := 6) G.2.2.2.2.2.2.2.2.1 rfl rfl rfl (by decide) hW.1 rfl) hR hf rfl hls rfl hcat hdg kk
end KX6_isOver
section WX6_ready
variable {p : Program} {l : Launch} {e : Env} {s : State} {m : MethodId} {args : Array Value} {below : List Frame} {meth : Method} {c : Code} {D : va_G} {dA : Nat → ClassId} {α : Nat → Nat → Nat}
set_option maxHeartbeats 4000000 in
set_option maxRecDepth 100000 in
theorem w_X6_ready_39 (G : gx p s m meth c args cX6_ready 2 (some .int) RX6 "ready" D dA) {r : Int32} {σz : sm_M} : ∀ (s0 : Int32) (σ : sm_M), f_X6_ready_39 s0 σ = some (r, σz) → ∀ (H : Heap) (locs : List Loc) (ls : Array Slot), Wd D dA 1 α s.heap σ H locs → lv_has ls 2 [] → gW 0 p l e s m args below meth c D dA 1 α (some (.int r)) σz H locs (F0 m 39 ls [.int s0]) := by
  obtain ⟨hx, hb, hr, hlk, hml, hown, hnm, hts, hK, hNw⟩ := id G
  intro s0 σ hF H locs ls hW hl
  rw [f_X6_ready_39] at hF
  exact g_iret G hW hF dX6_ready_39
set_option maxHeartbeats 4000000 in
set_option maxRecDepth 100000 in
theorem w_X6_ready_33 (G : gx p s m meth c args cX6_ready 2 (some .int) RX6 "ready" D dA) {r : Int32} {σz : sm_M} : ∀ (v1 : Int32) (σ : sm_M), f_X6_ready_33 v1 σ = some (r, σz) → ∀ (H : Heap) (locs : List Loc) (ls : Array Slot), Wd D dA 1 α s.heap σ H locs → lv_has ls 2 [(0, .ref (α 20 0)), (1, .int v1)] → gW 0 p l e s m args below meth c D dA 1 α (some (.int r)) σz H locs (F0 m 33 ls []) := by
  obtain ⟨hx, hb, hr, hlk, hml, hown, hnm, hts, hK, hNw⟩ := id G
  intro v1 σ hF H locs ls hW hl
  rw [f_X6_ready_33] at hF
  refine lv_aload_n hx hb dX6_ready_33 rfl (lv_at hl 0 rfl) ?_
  refine gg_X6_62 G hW (by decide) dX6_ready_34 ?_
  refine lv_iload_n hx hb dX6_ready_37 rfl (lv_at hl 1 rfl) ?_
  obtain ⟨x1, hx1, hF⟩ := o_b hF
  refine g_aI (φ := 38) G rfl rfl (by decide) rfl hW (by decide) hx1 dX6_ready_38 ?_
  exact w_X6_ready_39 G _ _ hF H locs ls hW (lv_sub hl [] rfl)
set_option maxHeartbeats 4000000 in
set_option maxRecDepth 100000 in
theorem w_X6_ready_0 (G : gx p s m meth c args cX6_ready 2 (some .int) RX6 "ready" D dA) {r : Int32} {σz : sm_M} : ∀ (v1 : Int32) (σ : sm_M), f_X6_ready v1 σ = some (r, σz) → ∀ (H : Heap) (locs : List Loc) (ls : Array Slot), Wd D dA 1 α s.heap σ H locs → lv_has ls 2 [(0, .ref (α 20 0)), (1, .int v1)] → gW 0 p l e s m args below meth c D dA 1 α (some (.int r)) σz H locs (F0 m 0 ls []) := by
  obtain ⟨hx, hb, hr, hlk, hml, hown, hnm, hts, hK, hNw⟩ := id G
  intro v1 σ hF H locs ls hW hl
  rw [f_X6_ready] at hF
  refine lv_aload_n hx hb dX6_ready_0 rfl (lv_at hl 0 rfl) ?_
  refine gg_X6_74 G hW (by decide) dX6_ready_1 ?_
  refine lv_iload_n hx hb dX6_ready_4 rfl (lv_at hl 1 rfl) ?_
  obtain ⟨x1, hx1, hF⟩ := o_b hF
  refine g_aZ (φ := 42) G rfl rfl (by decide) rfl hW (by decide) hx1 dX6_ready_5 ?_
  refine lv_if_eq (tgt := 33) hx hb dX6_ready_6 (by decide) (fun hc => ?_) (fun hc => ?_)
  · replace hF := o_t hc hF
    exact w_X6_ready_33 G _ _ hF H locs ls hW (lv_sub hl [0, 1] rfl)
  · replace hF := o_f hc hF
    refine lv_aload_n hx hb dX6_ready_9 rfl (lv_at hl 0 rfl) ?_
    refine gg_X6_68 G hW (by decide) dX6_ready_10 ?_
    refine lv_iload_n hx hb dX6_ready_13 rfl (lv_at hl 1 rfl) ?_
    obtain ⟨x2, hx2, hF⟩ := o_b hF
    refine g_aI (φ := 40) G rfl rfl (by decide) rfl hW (by decide) hx2 dX6_ready_14 ?_
    refine lv_aload_n hx hb dX6_ready_15 rfl (lv_at hl 0 rfl) ?_
    refine gg_X6_77 G hW (by decide) dX6_ready_16 ?_
    refine lv_iload_n hx hb dX6_ready_19 rfl (lv_at hl 1 rfl) ?_
    obtain ⟨x3, hx3, hF⟩ := o_b hF
    refine g_aI (φ := 43) G rfl rfl (by decide) rfl hW (by decide) hx3 dX6_ready_20 ?_
    refine lv_icmp_ge (tgt := 33) hx hb dX6_ready_21 (by decide) (fun hc => ?_) (fun hc => ?_)
    · replace hF := o_t hc hF
      exact w_X6_ready_33 G _ _ hF H locs ls hW (lv_sub hl [0, 1] rfl)
    · replace hF := o_f hc hF
      refine lv_aload_n hx hb dX6_ready_24 rfl (lv_at hl 0 rfl) ?_
      refine gg_X6_89 G hW (by decide) dX6_ready_25 ?_
      refine lv_iload_n hx hb dX6_ready_28 rfl (lv_at hl 1 rfl) ?_
      obtain ⟨x4, hx4, hF⟩ := o_b hF
      refine g_aI (φ := 47) G rfl rfl (by decide) rfl hW (by decide) hx4 dX6_ready_29 ?_
      refine lv_goto (tgt := 39) hx hb dX6_ready_30 (by decide) ?_
      exact w_X6_ready_39 G _ _ hF H locs ls hW (lv_sub hl [] rfl)
end WX6_ready
theorem c_X6_ready {l : Launch} {D : va_G} {dA : Nat → ClassId} {α : Nat → Nat → Nat} (hI : Inj 1 α) {v1 : Int32} {σ σz : sm_M} {r : Int32} (hF : f_X6_ready v1 σ = some (r, σz)) : gM l D dA 1 α yX6_ready cX6_ready 2 (some .int) 0 [.ref (α 20 0), .int v1] σ (some (.int r)) σz :=
  g_met hI (by decide +kernel) (Nat.le_of_ble_eq_true rfl) (fun p e s m below meth c ls G hW hl => w_X6_ready_0 G _ _ hF _ _ _ hW hl)
section KX6_ready
variable {p : Program} {l : Launch} {e : Env} {R : Room} {s : State} {m : MethodId} {args : Array Value} {below : List Frame} {meth : Method} {c : Code} {H : Heap} {locs : List Loc} {cells slots : Nat} {Q : State → Prop}
variable {cc : ByteArray} {pc nL Z : Nat} {ls : Array Slot} {rest : List Value} {D : va_G} {dA : Nat → ClassId} {α : Nat → Nat → Nat} {H0 : Heap} {σ σ' : sm_M} {ret : Option FieldType} {own nm : String}
theorem kk_X6_183 (G : gx p s m meth c args cc nL ret RX6 nm D dA) (hW : Wd D dA 1 α H0 σ H locs) {v1 : Int32} {q : Int32 × sm_M} (hq : f_X6_ready v1 σ = some q) (hls : ls.size = nL) (hR : 0 + 1 ≤ R.frames ∧ 8 + (2 + 11) + 44 * 0 ≤ R.locals) (hf : cells ≤ R.cells ∧ slots ≤ R.slots) (hcat : (rest.map fun v => v.category).sum ≤ 8) (hdg : decode cc pc = .ok (.invokevirtual 183, 3)) (kk : ∀ (H1 : Heap) (locs1 : List Loc), Wd D dA 1 α H0 q.2 H1 locs1 → W p l e R s m args below meth c H1 locs1 cells slots Q (F0 m (pc + 3) ls (.int q.1 :: rest))) : W p l e R s m args below meth c H locs cells slots Q (F0 m pc ls (.int v1 :: .ref (α 20 0) :: rest)) :=
  g_cV (n := 1) G (c_X6_ready (l := l) hW.2.2.2 hq) ⟨wm_20_14, wm_20_15, wm_20_16, wm_1_5, wm_20_17⟩ (by decide +kernel) hW (g_recv (φ := 20) (ci := 6) G.2.2.2.2.2.2.2.2.1 rfl rfl rfl (by decide) hW.1 rfl) hR hf rfl hls rfl hcat hdg kk
end KX6_ready
section WX6_isAside
variable {p : Program} {l : Launch} {e : Env} {s : State} {m : MethodId} {args : Array Value} {below : List Frame} {meth : Method} {c : Code} {D : va_G} {dA : Nat → ClassId} {α : Nat → Nat → Nat}
set_option maxHeartbeats 4000000 in
set_option maxRecDepth 100000 in
theorem w_X6_isAside_48 (G : gx p s m meth c args cX6_isAside 5 (some .boolean) RX6 "isAside" D dA) {r : Int32} {σz : sm_M} : ∀ (v3 : Int32) (σ : sm_M), f_X6_isAside_48 v3 σ = some (r, σz) → ∀ (H : Heap) (locs : List Loc) (ls : Array Slot), Wd D dA 1 α s.heap σ H locs → lv_has ls 5 [(3, .int v3)] → gW 0 p l e s m args below meth c D dA 1 α (some (.int r)) σz H locs (F0 m 48 ls []) := by
  obtain ⟨hx, hb, hr, hlk, hml, hown, hnm, hts, hK, hNw⟩ := id G
  intro v3 σ hF H locs ls hW hl
  rw [f_X6_isAside_48] at hF
  refine lv_iload_n hx hb dX6_isAside_48 rfl (lv_at hl 0 rfl) ?_
  exact g_zret G hW hF dX6_isAside_49
set_option maxHeartbeats 4000000 in
set_option maxRecDepth 100000 in
theorem w_X6_isAside_41 (G : gx p s m meth c args cX6_isAside 5 (some .boolean) RX6 "isAside" D dA) {r : Int32} {σz : sm_M} (k5 : Int32 → Int32 → Int32 → Int32 → sm_M → Option (Int32 × sm_M)) (hk5 : ∀ (v1 : Int32) (v2 : Int32) (v3 : Int32) (v4 : Int32) (σ : sm_M), k5 v1 v2 v3 v4 σ = some (r, σz) → ∀ (H : Heap) (locs : List Loc) (ls : Array Slot), Wd D dA 1 α s.heap σ H locs → lv_has ls 5 [(0, .ref (α 20 0)), (1, .int v1), (2, .int v2), (3, .int v3), (4, .int v4)] → gW 0 p l e s m args below meth c D dA 1 α (some (.int r)) σz H locs (F0 m 5 ls [])) : ∀ (v1 : Int32) (v2 : Int32) (v4 : Int32) (s0 : Int32) (σ : sm_M), f_X6_isAside_41 k5 v1 v2 v4 s0 σ = some (r, σz) → ∀ (H : Heap) (locs : List Loc) (ls : Array Slot), Wd D dA 1 α s.heap σ H locs → lv_has ls 5 [(0, .ref (α 20 0)), (1, .int v1), (2, .int v2), (4, .int v4)] → gW 0 p l e s m args below meth c D dA 1 α (some (.int r)) σz H locs (F0 m 41 ls [.int s0]) := by
  obtain ⟨hx, hb, hr, hlk, hml, hown, hnm, hts, hK, hNw⟩ := id G
  intro v1 v2 v4 s0 σ hF H locs ls hW hl
  rw [f_X6_isAside_41] at hF
  refine lv_istore_n (lv' := [(3, .int s0), (0, .ref (α 20 0)), (1, .int v1), (2, .int v2), (4, .int v4)]) hx hb dX6_isAside_41 rfl hl (by decide) rfl (fun ls hl => ?_)
  refine lv_iinc (v := (v4 + 1)) (lv' := [(4, .int (v4 + 1)), (3, .int s0), (0, .ref (α 20 0)), (1, .int v1), (2, .int v2)]) hx hb dX6_isAside_42 hl (k := 4) rfl rfl (by decide) rfl (fun ls hl => ?_)
  refine lv_goto (tgt := 5) hx hb dX6_isAside_45 (by decide) ?_
  exact hk5 _ _ _ _ _ hF H locs ls hW (lv_sub hl [2, 3, 4, 1, 0] rfl)
set_option maxHeartbeats 4000000 in
set_option maxRecDepth 100000 in
theorem w_X6_isAside_36 (G : gx p s m meth c args cX6_isAside 5 (some .boolean) RX6 "isAside" D dA) {r : Int32} {σz : sm_M} (k5 : Int32 → Int32 → Int32 → Int32 → sm_M → Option (Int32 × sm_M)) (hk5 : ∀ (v1 : Int32) (v2 : Int32) (v3 : Int32) (v4 : Int32) (σ : sm_M), k5 v1 v2 v3 v4 σ = some (r, σz) → ∀ (H : Heap) (locs : List Loc) (ls : Array Slot), Wd D dA 1 α s.heap σ H locs → lv_has ls 5 [(0, .ref (α 20 0)), (1, .int v1), (2, .int v2), (3, .int v3), (4, .int v4)] → gW 0 p l e s m args below meth c D dA 1 α (some (.int r)) σz H locs (F0 m 5 ls [])) : ∀ (v1 : Int32) (v2 : Int32) (v4 : Int32) (σ : sm_M), f_X6_isAside_36 k5 v1 v2 v4 σ = some (r, σz) → ∀ (H : Heap) (locs : List Loc) (ls : Array Slot), Wd D dA 1 α s.heap σ H locs → lv_has ls 5 [(0, .ref (α 20 0)), (1, .int v1), (2, .int v2), (4, .int v4)] → gW 0 p l e s m args below meth c D dA 1 α (some (.int r)) σz H locs (F0 m 36 ls []) := by
  obtain ⟨hx, hb, hr, hlk, hml, hown, hnm, hts, hK, hNw⟩ := id G
  intro v1 v2 v4 σ hF H locs ls hW hl
  rw [f_X6_isAside_36] at hF
  refine lv_iconst (v := 1) hx hb dX6_isAside_36 (by decide) ?_
  refine lv_goto (tgt := 41) hx hb dX6_isAside_37 (by decide) ?_
  exact w_X6_isAside_41 G k5 hk5 _ _ _ _ _ hF H locs ls hW (lv_sub hl [0, 1, 2, 3] rfl)
set_option maxHeartbeats 4000000 in
set_option maxRecDepth 100000 in
theorem w_X6_isAside_5 (G : gx p s m meth c args cX6_isAside 5 (some .boolean) RX6 "isAside" D dA) {r : Int32} {σz : sm_M} : ∀ (n : Nat) (v1 : Int32) (v2 : Int32) (v3 : Int32) (v4 : Int32) (σ : sm_M), f_X6_isAside_5 n v1 v2 v3 v4 σ = some (r, σz) → ∀ (H : Heap) (locs : List Loc) (ls : Array Slot), Wd D dA 1 α s.heap σ H locs → lv_has ls 5 [(0, .ref (α 20 0)), (1, .int v1), (2, .int v2), (3, .int v3), (4, .int v4)] → gW 0 p l e s m args below meth c D dA 1 α (some (.int r)) σz H locs (F0 m 5 ls []) := by
  obtain ⟨hx, hb, hr, hlk, hml, hown, hnm, hts, hK, hNw⟩ := id G
  intro n
  induction n with
  | zero => intro v1 v2 v3 v4 σ hF; exact absurd hF (by intro h; cases h)
  | succ n ih =>
    intro v1 v2 v3 v4 σ hF H locs ls hW hl
    rw [f_X6_isAside_5] at hF
    refine lv_iload hx hb dX6_isAside_5 (lv_at hl 4 rfl) ?_
    refine lv_aload_n hx hb dX6_isAside_7 rfl (lv_at hl 0 rfl) ?_
    refine gg_X6_43 G hW (by decide) dX6_isAside_8 ?_
    refine lv_iload_n hx hb dX6_isAside_11 rfl (lv_at hl 1 rfl) ?_
    obtain ⟨x1, hx1, hF⟩ := o_b hF
    refine g_aI (φ := 32) G rfl rfl (by decide) rfl hW (by decide) hx1 dX6_isAside_12 ?_
    refine lv_icmp_ge (tgt := 48) hx hb dX6_isAside_13 (by decide) (fun hc => ?_) (fun hc => ?_)
    · replace hF := o_t hc hF
      exact w_X6_isAside_48 G _ _ hF H locs ls hW (lv_sub hl [3] rfl)
    · replace hF := o_f hc hF
      refine lv_iload_n hx hb dX6_isAside_16 rfl (lv_at hl 3 rfl) ?_
      refine lv_if_ne (tgt := 36) hx hb dX6_isAside_17 (by decide) (fun hc => ?_) (fun hc => ?_)
      · replace hF := o_f hc hF
        exact w_X6_isAside_36 G (f_X6_isAside_5 n) ih _ _ _ _ hF H locs ls hW (lv_sub hl [0, 1, 2, 4] rfl)
      · replace hF := o_t hc hF
        refine lv_aload_n hx hb dX6_isAside_20 rfl (lv_at hl 0 rfl) ?_
        refine gg_X6_46 G hW (by decide) dX6_isAside_21 ?_
        refine lv_bipush (v := 8) hx hb dX6_isAside_24 (by decide) ?_
        refine lv_iload_n hx hb dX6_isAside_26 rfl (lv_at hl 1 rfl) ?_
        refine lv_imul hx hb dX6_isAside_27 ?_
        refine lv_iload hx hb dX6_isAside_28 (lv_at hl 4 rfl) ?_
        refine lv_iadd hx hb dX6_isAside_30 ?_
        obtain ⟨x2, hx2, hF⟩ := o_b hF
        refine g_aI (φ := 33) G rfl rfl (by decide) rfl hW (by decide) hx2 dX6_isAside_31 ?_
        refine lv_iload_n hx hb dX6_isAside_32 rfl (lv_at hl 2 rfl) ?_
        refine lv_icmp_ne (tgt := 40) hx hb dX6_isAside_33 (by decide) (fun hc => ?_) (fun hc => ?_)
        · replace hF := o_f hc hF
          refine lv_iconst (v := 0) hx hb dX6_isAside_40 (by decide) ?_
          exact w_X6_isAside_41 G (f_X6_isAside_5 n) ih _ _ _ _ _ hF H locs ls hW (lv_sub hl [0, 1, 2, 4] rfl)
        · replace hF := o_t hc hF
          exact w_X6_isAside_36 G (f_X6_isAside_5 n) ih _ _ _ _ hF H locs ls hW (lv_sub hl [0, 1, 2, 4] rfl)
set_option maxHeartbeats 4000000 in
set_option maxRecDepth 100000 in
theorem w_X6_isAside_0 (G : gx p s m meth c args cX6_isAside 5 (some .boolean) RX6 "isAside" D dA) {r : Int32} {σz : sm_M} : ∀ (v1 : Int32) (v2 : Int32) (σ : sm_M), f_X6_isAside v1 v2 σ = some (r, σz) → ∀ (H : Heap) (locs : List Loc) (ls : Array Slot), Wd D dA 1 α s.heap σ H locs → lv_has ls 5 [(0, .ref (α 20 0)), (1, .int v1), (2, .int v2)] → gW 0 p l e s m args below meth c D dA 1 α (some (.int r)) σz H locs (F0 m 0 ls []) := by
  obtain ⟨hx, hb, hr, hlk, hml, hown, hnm, hts, hK, hNw⟩ := id G
  intro v1 v2 σ hF H locs ls hW hl
  rw [f_X6_isAside] at hF
  refine lv_iconst (v := 0) hx hb dX6_isAside_0 (by decide) ?_
  refine lv_istore_n (lv' := [(3, .int (0 : Int32)), (0, .ref (α 20 0)), (1, .int v1), (2, .int v2)]) hx hb dX6_isAside_1 rfl hl (by decide) rfl (fun ls hl => ?_)
  refine lv_iconst (v := 0) hx hb dX6_isAside_2 (by decide) ?_
  refine lv_istore (lv' := [(4, .int (0 : Int32)), (3, .int (0 : Int32)), (0, .ref (α 20 0)), (1, .int v1), (2, .int v2)]) hx hb dX6_isAside_3 hl (by decide) rfl (fun ls hl => ?_)
  exact w_X6_isAside_5 G 1000 _ _ _ _ _ hF H locs ls hW (lv_sub hl [2, 3, 4, 1, 0] rfl)
end WX6_isAside
theorem c_X6_isAside {l : Launch} {D : va_G} {dA : Nat → ClassId} {α : Nat → Nat → Nat} (hI : Inj 1 α) {v1 : Int32} {v2 : Int32} {σ σz : sm_M} {r : Int32} (hF : f_X6_isAside v1 v2 σ = some (r, σz)) : gM l D dA 1 α yX6_isAside cX6_isAside 5 (some .boolean) 0 [.ref (α 20 0), .int v1, .int v2] σ (some (.int r)) σz :=
  g_met hI (by decide +kernel) (Nat.le_of_ble_eq_true rfl) (fun p e s m below meth c ls G hW hl => w_X6_isAside_0 G _ _ _ hF _ _ _ hW hl)
section KX6_isAside
variable {p : Program} {l : Launch} {e : Env} {R : Room} {s : State} {m : MethodId} {args : Array Value} {below : List Frame} {meth : Method} {c : Code} {H : Heap} {locs : List Loc} {cells slots : Nat} {Q : State → Prop}
variable {cc : ByteArray} {pc nL Z : Nat} {ls : Array Slot} {rest : List Value} {D : va_G} {dA : Nat → ClassId} {α : Nat → Nat → Nat} {H0 : Heap} {σ σ' : sm_M} {ret : Option FieldType} {own nm : String}
theorem kk_X6_211 (G : gx p s m meth c args cc nL ret RX6 nm D dA) (hW : Wd D dA 1 α H0 σ H locs) {v1 : Int32} {v2 : Int32} {q : Int32 × sm_M} (hq : f_X6_isAside v1 v2 σ = some q) (hls : ls.size = nL) (hR : 0 + 1 ≤ R.frames ∧ 8 + (5 + 11) + 44 * 0 ≤ R.locals) (hf : cells ≤ R.cells ∧ slots ≤ R.slots) (hcat : (rest.map fun v => v.category).sum ≤ 8) (hdg : decode cc pc = .ok (.invokevirtual 211, 3)) (kk : ∀ (H1 : Heap) (locs1 : List Loc), Wd D dA 1 α H0 q.2 H1 locs1 → W p l e R s m args below meth c H1 locs1 cells slots Q (F0 m (pc + 3) ls (.int q.1 :: rest))) : W p l e R s m args below meth c H locs cells slots Q (F0 m pc ls (.int v2 :: .int v1 :: .ref (α 20 0) :: rest)) :=
  g_cV (n := 2) G (c_X6_isAside (l := l) hW.2.2.2 hq) ⟨wm_21_2, wm_21_3, wm_21_4, wm_1_5, wm_21_5⟩ (by decide +kernel) hW (g_recv (φ := 20) (ci := 6) G.2.2.2.2.2.2.2.2.1 rfl rfl rfl (by decide) hW.1 rfl) hR hf rfl hls rfl hcat hdg kk
end KX6_isAside
section WX6_canGive
variable {p : Program} {l : Launch} {e : Env} {s : State} {m : MethodId} {args : Array Value} {below : List Frame} {meth : Method} {c : Code} {D : va_G} {dA : Nat → ClassId} {α : Nat → Nat → Nat}
set_option maxHeartbeats 4000000 in
set_option maxRecDepth 100000 in
theorem w_X6_canGive_75 (G : gx p s m meth c args cX6_canGive 4 (some .boolean) RX6 "canGive" D dA) {r : Int32} {σz : sm_M} : ∀ (v2 : Int32) (σ : sm_M), f_X6_canGive_75 v2 σ = some (r, σz) → ∀ (H : Heap) (locs : List Loc) (ls : Array Slot), Wd D dA 1 α s.heap σ H locs → lv_has ls 4 [(2, .int v2)] → gW 0 p l e s m args below meth c D dA 1 α (some (.int r)) σz H locs (F0 m 75 ls []) := by
  obtain ⟨hx, hb, hr, hlk, hml, hown, hnm, hts, hK, hNw⟩ := id G
  intro v2 σ hF H locs ls hW hl
  rw [f_X6_canGive_75] at hF
  refine lv_iload_n hx hb dX6_canGive_75 rfl (lv_at hl 0 rfl) ?_
  exact g_zret G hW hF dX6_canGive_76
set_option maxHeartbeats 4000000 in
set_option maxRecDepth 100000 in
theorem w_X6_canGive_68 (G : gx p s m meth c args cX6_canGive 4 (some .boolean) RX6 "canGive" D dA) {r : Int32} {σz : sm_M} (k30 : Int32 → Int32 → Int32 → sm_M → Option (Int32 × sm_M)) (hk30 : ∀ (v1 : Int32) (v2 : Int32) (v3 : Int32) (σ : sm_M), k30 v1 v2 v3 σ = some (r, σz) → ∀ (H : Heap) (locs : List Loc) (ls : Array Slot), Wd D dA 1 α s.heap σ H locs → lv_has ls 4 [(0, .ref (α 20 0)), (1, .int v1), (2, .int v2), (3, .int v3)] → gW 0 p l e s m args below meth c D dA 1 α (some (.int r)) σz H locs (F0 m 30 ls [])) : ∀ (v1 : Int32) (v3 : Int32) (s0 : Int32) (σ : sm_M), f_X6_canGive_68 k30 v1 v3 s0 σ = some (r, σz) → ∀ (H : Heap) (locs : List Loc) (ls : Array Slot), Wd D dA 1 α s.heap σ H locs → lv_has ls 4 [(0, .ref (α 20 0)), (1, .int v1), (3, .int v3)] → gW 0 p l e s m args below meth c D dA 1 α (some (.int r)) σz H locs (F0 m 68 ls [.int s0]) := by
  obtain ⟨hx, hb, hr, hlk, hml, hown, hnm, hts, hK, hNw⟩ := id G
  intro v1 v3 s0 σ hF H locs ls hW hl
  rw [f_X6_canGive_68] at hF
  refine lv_istore_n (lv' := [(2, .int s0), (0, .ref (α 20 0)), (1, .int v1), (3, .int v3)]) hx hb dX6_canGive_68 rfl hl (by decide) rfl (fun ls hl => ?_)
  refine lv_iinc (v := (v3 + 1)) (lv' := [(3, .int (v3 + 1)), (2, .int s0), (0, .ref (α 20 0)), (1, .int v1)]) hx hb dX6_canGive_69 hl (k := 3) rfl rfl (by decide) rfl (fun ls hl => ?_)
  refine lv_goto (tgt := 30) hx hb dX6_canGive_72 (by decide) ?_
  exact hk30 _ _ _ _ hF H locs ls hW (lv_sub hl [2, 3, 1, 0] rfl)
set_option maxHeartbeats 4000000 in
set_option maxRecDepth 100000 in
theorem w_X6_canGive_67 (G : gx p s m meth c args cX6_canGive 4 (some .boolean) RX6 "canGive" D dA) {r : Int32} {σz : sm_M} (k30 : Int32 → Int32 → Int32 → sm_M → Option (Int32 × sm_M)) (hk30 : ∀ (v1 : Int32) (v2 : Int32) (v3 : Int32) (σ : sm_M), k30 v1 v2 v3 σ = some (r, σz) → ∀ (H : Heap) (locs : List Loc) (ls : Array Slot), Wd D dA 1 α s.heap σ H locs → lv_has ls 4 [(0, .ref (α 20 0)), (1, .int v1), (2, .int v2), (3, .int v3)] → gW 0 p l e s m args below meth c D dA 1 α (some (.int r)) σz H locs (F0 m 30 ls [])) : ∀ (v1 : Int32) (v3 : Int32) (σ : sm_M), f_X6_canGive_67 k30 v1 v3 σ = some (r, σz) → ∀ (H : Heap) (locs : List Loc) (ls : Array Slot), Wd D dA 1 α s.heap σ H locs → lv_has ls 4 [(0, .ref (α 20 0)), (1, .int v1), (3, .int v3)] → gW 0 p l e s m args below meth c D dA 1 α (some (.int r)) σz H locs (F0 m 67 ls []) := by
  obtain ⟨hx, hb, hr, hlk, hml, hown, hnm, hts, hK, hNw⟩ := id G
  intro v1 v3 σ hF H locs ls hW hl
  rw [f_X6_canGive_67] at hF
  refine lv_iconst (v := 0) hx hb dX6_canGive_67 (by decide) ?_
  exact w_X6_canGive_68 G k30 hk30 _ _ _ _ hF H locs ls hW (lv_sub hl [0, 1, 2] rfl)
set_option maxHeartbeats 4000000 in
set_option maxRecDepth 100000 in
theorem w_X6_canGive_63 (G : gx p s m meth c args cX6_canGive 4 (some .boolean) RX6 "canGive" D dA) {r : Int32} {σz : sm_M} (k30 : Int32 → Int32 → Int32 → sm_M → Option (Int32 × sm_M)) (hk30 : ∀ (v1 : Int32) (v2 : Int32) (v3 : Int32) (σ : sm_M), k30 v1 v2 v3 σ = some (r, σz) → ∀ (H : Heap) (locs : List Loc) (ls : Array Slot), Wd D dA 1 α s.heap σ H locs → lv_has ls 4 [(0, .ref (α 20 0)), (1, .int v1), (2, .int v2), (3, .int v3)] → gW 0 p l e s m args below meth c D dA 1 α (some (.int r)) σz H locs (F0 m 30 ls [])) : ∀ (v1 : Int32) (v3 : Int32) (σ : sm_M), f_X6_canGive_63 k30 v1 v3 σ = some (r, σz) → ∀ (H : Heap) (locs : List Loc) (ls : Array Slot), Wd D dA 1 α s.heap σ H locs → lv_has ls 4 [(0, .ref (α 20 0)), (1, .int v1), (3, .int v3)] → gW 0 p l e s m args below meth c D dA 1 α (some (.int r)) σz H locs (F0 m 63 ls []) := by
  obtain ⟨hx, hb, hr, hlk, hml, hown, hnm, hts, hK, hNw⟩ := id G
  intro v1 v3 σ hF H locs ls hW hl
  rw [f_X6_canGive_63] at hF
  refine lv_iconst (v := 1) hx hb dX6_canGive_63 (by decide) ?_
  refine lv_goto (tgt := 68) hx hb dX6_canGive_64 (by decide) ?_
  exact w_X6_canGive_68 G k30 hk30 _ _ _ _ hF H locs ls hW (lv_sub hl [0, 1, 2] rfl)
set_option maxHeartbeats 4000000 in
set_option maxRecDepth 100000 in
theorem w_X6_canGive_30 (G : gx p s m meth c args cX6_canGive 4 (some .boolean) RX6 "canGive" D dA) {r : Int32} {σz : sm_M} : ∀ (n : Nat) (v1 : Int32) (v2 : Int32) (v3 : Int32) (σ : sm_M), f_X6_canGive_30 n v1 v2 v3 σ = some (r, σz) → ∀ (H : Heap) (locs : List Loc) (ls : Array Slot), Wd D dA 1 α s.heap σ H locs → lv_has ls 4 [(0, .ref (α 20 0)), (1, .int v1), (2, .int v2), (3, .int v3)] → gW 0 p l e s m args below meth c D dA 1 α (some (.int r)) σz H locs (F0 m 30 ls []) := by
  obtain ⟨hx, hb, hr, hlk, hml, hown, hnm, hts, hK, hNw⟩ := id G
  intro n
  induction n with
  | zero => intro v1 v2 v3 σ hF; exact absurd hF (by intro h; cases h)
  | succ n ih =>
    intro v1 v2 v3 σ hF H locs ls hW hl
    rw [f_X6_canGive_30] at hF
    refine lv_iload_n hx hb dX6_canGive_30 rfl (lv_at hl 3 rfl) ?_
    refine lv_aload_n hx hb dX6_canGive_31 rfl (lv_at hl 0 rfl) ?_
    refine gg_X6_135 G hW (by decide) dX6_canGive_32 ?_
    refine lv_icmp_ge (tgt := 75) hx hb dX6_canGive_35 (by decide) (fun hc => ?_) (fun hc => ?_)
    · replace hF := o_t hc hF
      exact w_X6_canGive_75 G _ _ hF H locs ls hW (lv_sub hl [2] rfl)
    · replace hF := o_f hc hF
      refine lv_iload_n hx hb dX6_canGive_38 rfl (lv_at hl 2 rfl) ?_
      refine lv_if_eq (tgt := 67) hx hb dX6_canGive_39 (by decide) (fun hc => ?_) (fun hc => ?_)
      · replace hF := o_t hc hF
        exact w_X6_canGive_67 G (f_X6_canGive_30 n) ih _ _ _ hF H locs ls hW (lv_sub hl [0, 1, 3] rfl)
      · replace hF := o_f hc hF
        refine lv_aload_n hx hb dX6_canGive_42 rfl (lv_at hl 0 rfl) ?_
        refine gg_X6_49 G hW (by decide) dX6_canGive_43 ?_
        refine lv_iload_n hx hb dX6_canGive_46 rfl (lv_at hl 3 rfl) ?_
        obtain ⟨x1, hx1, hF⟩ := o_b hF
        refine g_aI (φ := 34) G rfl rfl (by decide) rfl hW (by decide) hx1 dX6_canGive_47 ?_
        refine lv_iload_n hx hb dX6_canGive_48 rfl (lv_at hl 1 rfl) ?_
        refine lv_icmp_ne (tgt := 63) hx hb dX6_canGive_49 (by decide) (fun hc => ?_) (fun hc => ?_)
        · replace hF := o_f hc hF
          exact w_X6_canGive_63 G (f_X6_canGive_30 n) ih _ _ _ hF H locs ls hW (lv_sub hl [0, 1, 3] rfl)
        · replace hF := o_t hc hF
          refine lv_aload_n hx hb dX6_canGive_52 rfl (lv_at hl 0 rfl) ?_
          refine gg_X6_65 G hW (by decide) dX6_canGive_53 ?_
          refine lv_iload_n hx hb dX6_canGive_56 rfl (lv_at hl 3 rfl) ?_
          obtain ⟨x2, hx2, hF⟩ := o_b hF
          refine g_aI (φ := 39) G rfl rfl (by decide) rfl hW (by decide) hx2 dX6_canGive_57 ?_
          refine lv_bipush (v := 64) hx hb dX6_canGive_58 (by decide) ?_
          refine lv_icmp_ge (tgt := 67) hx hb dX6_canGive_60 (by decide) (fun hc => ?_) (fun hc => ?_)
          · replace hF := o_t hc hF
            exact w_X6_canGive_67 G (f_X6_canGive_30 n) ih _ _ _ hF H locs ls hW (lv_sub hl [0, 1, 3] rfl)
          · replace hF := o_f hc hF
            exact w_X6_canGive_63 G (f_X6_canGive_30 n) ih _ _ _ hF H locs ls hW (lv_sub hl [0, 1, 3] rfl)
set_option maxHeartbeats 4000000 in
set_option maxRecDepth 100000 in
theorem w_X6_canGive_27 (G : gx p s m meth c args cX6_canGive 4 (some .boolean) RX6 "canGive" D dA) {r : Int32} {σz : sm_M} : ∀ (v1 : Int32) (s0 : Int32) (σ : sm_M), f_X6_canGive_27 v1 s0 σ = some (r, σz) → ∀ (H : Heap) (locs : List Loc) (ls : Array Slot), Wd D dA 1 α s.heap σ H locs → lv_has ls 4 [(0, .ref (α 20 0)), (1, .int v1)] → gW 0 p l e s m args below meth c D dA 1 α (some (.int r)) σz H locs (F0 m 27 ls [.int s0]) := by
  obtain ⟨hx, hb, hr, hlk, hml, hown, hnm, hts, hK, hNw⟩ := id G
  intro v1 s0 σ hF H locs ls hW hl
  rw [f_X6_canGive_27] at hF
  refine lv_istore_n (lv' := [(2, .int s0), (0, .ref (α 20 0)), (1, .int v1)]) hx hb dX6_canGive_27 rfl hl (by decide) rfl (fun ls hl => ?_)
  refine lv_iconst (v := 0) hx hb dX6_canGive_28 (by decide) ?_
  refine lv_istore_n (lv' := [(3, .int (0 : Int32)), (2, .int s0), (0, .ref (α 20 0)), (1, .int v1)]) hx hb dX6_canGive_29 rfl hl (by decide) rfl (fun ls hl => ?_)
  exact w_X6_canGive_30 G 1000 _ _ _ _ hF H locs ls hW (lv_sub hl [2, 3, 1, 0] rfl)
set_option maxHeartbeats 4000000 in
set_option maxRecDepth 100000 in
theorem w_X6_canGive_22 (G : gx p s m meth c args cX6_canGive 4 (some .boolean) RX6 "canGive" D dA) {r : Int32} {σz : sm_M} : ∀ (v1 : Int32) (σ : sm_M), f_X6_canGive_22 v1 σ = some (r, σz) → ∀ (H : Heap) (locs : List Loc) (ls : Array Slot), Wd D dA 1 α s.heap σ H locs → lv_has ls 4 [(0, .ref (α 20 0)), (1, .int v1)] → gW 0 p l e s m args below meth c D dA 1 α (some (.int r)) σz H locs (F0 m 22 ls []) := by
  obtain ⟨hx, hb, hr, hlk, hml, hown, hnm, hts, hK, hNw⟩ := id G
  intro v1 σ hF H locs ls hW hl
  rw [f_X6_canGive_22] at hF
  refine lv_iconst (v := 1) hx hb dX6_canGive_22 (by decide) ?_
  refine lv_goto (tgt := 27) hx hb dX6_canGive_23 (by decide) ?_
  exact w_X6_canGive_27 G _ _ _ hF H locs ls hW (lv_sub hl [0, 1] rfl)
set_option maxHeartbeats 4000000 in
set_option maxRecDepth 100000 in
theorem w_X6_canGive_0 (G : gx p s m meth c args cX6_canGive 4 (some .boolean) RX6 "canGive" D dA) {r : Int32} {σz : sm_M} : ∀ (v1 : Int32) (σ : sm_M), f_X6_canGive v1 σ = some (r, σz) → ∀ (H : Heap) (locs : List Loc) (ls : Array Slot), Wd D dA 1 α s.heap σ H locs → lv_has ls 4 [(0, .ref (α 20 0)), (1, .int v1)] → gW 0 p l e s m args below meth c D dA 1 α (some (.int r)) σz H locs (F0 m 0 ls []) := by
  obtain ⟨hx, hb, hr, hlk, hml, hown, hnm, hts, hK, hNw⟩ := id G
  intro v1 σ hF H locs ls hW hl
  rw [f_X6_canGive] at hF
  refine lv_aload_n hx hb dX6_canGive_0 rfl (lv_at hl 0 rfl) ?_
  refine gg_X6_7 G hW (by decide) dX6_canGive_1 ?_
  refine lv_iload_n hx hb dX6_canGive_4 rfl (lv_at hl 1 rfl) ?_
  obtain ⟨x1, hx1, hF⟩ := o_b hF
  refine g_aI (φ := 21) G rfl rfl (by decide) rfl hW (by decide) hx1 dX6_canGive_5 ?_
  refine lv_iconst (v := 5) hx hb dX6_canGive_6 (by decide) ?_
  refine lv_icmp_ne (tgt := 22) hx hb dX6_canGive_7 (by decide) (fun hc => ?_) (fun hc => ?_)
  · replace hF := o_f hc hF
    exact w_X6_canGive_22 G _ _ hF H locs ls hW (lv_sub hl [0, 1] rfl)
  · replace hF := o_t hc hF
    refine lv_aload_n hx hb dX6_canGive_10 rfl (lv_at hl 0 rfl) ?_
    refine gg_X6_25 G hW (by decide) dX6_canGive_11 ?_
    refine lv_iload_n hx hb dX6_canGive_14 rfl (lv_at hl 1 rfl) ?_
    obtain ⟨x2, hx2, hF⟩ := o_b hF
    refine g_aI (φ := 26) G rfl rfl (by decide) rfl hW (by decide) hx2 dX6_canGive_15 ?_
    refine lv_sipush (v := 200) hx hb dX6_canGive_16 (by decide) ?_
    refine lv_icmp_ge (tgt := 26) hx hb dX6_canGive_19 (by decide) (fun hc => ?_) (fun hc => ?_)
    · replace hF := o_t hc hF
      refine lv_iconst (v := 0) hx hb dX6_canGive_26 (by decide) ?_
      exact w_X6_canGive_27 G _ _ _ hF H locs ls hW (lv_sub hl [0, 1] rfl)
    · replace hF := o_f hc hF
      exact w_X6_canGive_22 G _ _ hF H locs ls hW (lv_sub hl [0, 1] rfl)
end WX6_canGive
theorem c_X6_canGive {l : Launch} {D : va_G} {dA : Nat → ClassId} {α : Nat → Nat → Nat} (hI : Inj 1 α) {v1 : Int32} {σ σz : sm_M} {r : Int32} (hF : f_X6_canGive v1 σ = some (r, σz)) : gM l D dA 1 α yX6_canGive cX6_canGive 4 (some .boolean) 0 [.ref (α 20 0), .int v1] σ (some (.int r)) σz :=
  g_met hI (by decide +kernel) (Nat.le_of_ble_eq_true rfl) (fun p e s m below meth c ls G hW hl => w_X6_canGive_0 G _ _ hF _ _ _ hW hl)
section KX6_canGive
variable {p : Program} {l : Launch} {e : Env} {R : Room} {s : State} {m : MethodId} {args : Array Value} {below : List Frame} {meth : Method} {c : Code} {H : Heap} {locs : List Loc} {cells slots : Nat} {Q : State → Prop}
variable {cc : ByteArray} {pc nL Z : Nat} {ls : Array Slot} {rest : List Value} {D : va_G} {dA : Nat → ClassId} {α : Nat → Nat → Nat} {H0 : Heap} {σ σ' : sm_M} {ret : Option FieldType} {own nm : String}
theorem kk_X6_204 (G : gx p s m meth c args cc nL ret RX6 nm D dA) (hW : Wd D dA 1 α H0 σ H locs) {v1 : Int32} {q : Int32 × sm_M} (hq : f_X6_canGive v1 σ = some q) (hls : ls.size = nL) (hR : 0 + 1 ≤ R.frames ∧ 8 + (4 + 11) + 44 * 0 ≤ R.locals) (hf : cells ≤ R.cells ∧ slots ≤ R.slots) (hcat : (rest.map fun v => v.category).sum ≤ 8) (hdg : decode cc pc = .ok (.invokevirtual 204, 3)) (kk : ∀ (H1 : Heap) (locs1 : List Loc), Wd D dA 1 α H0 q.2 H1 locs1 → W p l e R s m args below meth c H1 locs1 cells slots Q (F0 m (pc + 3) ls (.int q.1 :: rest))) : W p l e R s m args below meth c H locs cells slots Q (F0 m pc ls (.int v1 :: .ref (α 20 0) :: rest)) :=
  g_cV (n := 1) G (c_X6_canGive (l := l) hW.2.2.2 hq) ⟨wm_20_18, wm_20_19, wm_20_20, wm_1_5, wm_20_21⟩ (by decide +kernel) hW (g_recv (φ := 20) (ci := 6) G.2.2.2.2.2.2.2.2.1 rfl rfl rfl (by decide) hW.1 rfl) hR hf rfl hls rfl hcat hdg kk
end KX6_canGive
