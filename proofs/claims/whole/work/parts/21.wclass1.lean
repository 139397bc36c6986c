section WX2_roomOf
variable {p : Program} {l : Launch} {e : Env} {s : State} {m : MethodId} {args : Array Value} {below : List Frame} {meth : Method} {c : Code} {D : va_G} {dA : Nat → ClassId} {α : Nat → Nat → Nat}
set_option maxHeartbeats 4000000 in
set_option maxRecDepth 100000 in
theorem w_X2_roomOf_76 (G : gx p s m meth c args cX2_roomOf 4 (some .int) RX2 "roomOf" D dA) {r : Int32} {σz : sm_M} : ∀ (v2 : Int32) (σ : sm_M), f_X2_roomOf_76 v2 σ = some (r, σz) → ∀ (H : Heap) (locs : List Loc) (ls : Array Slot), Wd D dA 0 α s.heap σ H locs → lv_has ls 4 [(2, .int v2)] → gW 1 p l e s m args below meth c D dA 0 α (some (.int r)) σz H locs (F0 m 76 ls []) := by
  obtain ⟨hx, hb, hr, hlk, hml, hown, hnm, hts, hK, hNw⟩ := id G
  intro v2 σ hF H locs ls hW hl
  rw [f_X2_roomOf_76] at hF
  refine lv_iload_n hx hb dX2_roomOf_76 rfl (lv_at hl 0 rfl) ?_
  exact g_iret G hW hF dX2_roomOf_77
set_option maxHeartbeats 4000000 in
set_option maxRecDepth 100000 in
theorem w_X2_roomOf_70 (G : gx p s m meth c args cX2_roomOf 4 (some .int) RX2 "roomOf" D dA) {r : Int32} {σz : sm_M} (k32 : Int32 → Int32 → Int32 → sm_M → Option (Int32 × sm_M)) (hk32 : ∀ (v1 : Int32) (v2 : Int32) (v3 : Int32) (σ : sm_M), k32 v1 v2 v3 σ = some (r, σz) → ∀ (H : Heap) (locs : List Loc) (ls : Array Slot), Wd D dA 0 α s.heap σ H locs → lv_has ls 4 [(0, .ref (α 1 0)), (1, .int v1), (2, .int v2), (3, .int v3)] → gW 1 p l e s m args below meth c D dA 0 α (some (.int r)) σz H locs (F0 m 32 ls [])) : ∀ (v1 : Int32) (v2 : Int32) (v3 : Int32) (σ : sm_M), f_X2_roomOf_70 k32 v1 v2 v3 σ = some (r, σz) → ∀ (H : Heap) (locs : List Loc) (ls : Array Slot), Wd D dA 0 α s.heap σ H locs → lv_has ls 4 [(0, .ref (α 1 0)), (1, .int v1), (2, .int v2), (3, .int v3)] → gW 1 p l e s m args below meth c D dA 0 α (some (.int r)) σz H locs (F0 m 70 ls []) := by
  obtain ⟨hx, hb, hr, hlk, hml, hown, hnm, hts, hK, hNw⟩ := id G
  intro v1 v2 v3 σ hF H locs ls hW hl
  rw [f_X2_roomOf_70] at hF
  refine lv_iinc (v := (v3 + 1)) (lv' := [(3, .int (v3 + 1)), (0, .ref (α 1 0)), (1, .int v1), (2, .int v2)]) hx hb dX2_roomOf_70 hl (k := 3) rfl rfl (by decide) rfl (fun ls hl => ?_)
  refine lv_goto (tgt := 32) hx hb dX2_roomOf_73 (by decide) ?_
  exact hk32 _ _ _ _ hF H locs ls hW (lv_sub hl [1, 2, 3, 0] rfl)
set_option maxHeartbeats 4000000 in
set_option maxRecDepth 100000 in
theorem w_X2_roomOf_32 (G : gx p s m meth c args cX2_roomOf 4 (some .int) RX2 "roomOf" D dA) {r : Int32} {σz : sm_M} : ∀ (n : Nat) (v1 : Int32) (v2 : Int32) (v3 : Int32) (σ : sm_M), f_X2_roomOf_32 n v1 v2 v3 σ = some (r, σz) → ∀ (H : Heap) (locs : List Loc) (ls : Array Slot), Wd D dA 0 α s.heap σ H locs → lv_has ls 4 [(0, .ref (α 1 0)), (1, .int v1), (2, .int v2), (3, .int v3)] → gW 1 p l e s m args below meth c D dA 0 α (some (.int r)) σz H locs (F0 m 32 ls []) := by
  obtain ⟨hx, hb, hr, hlk, hml, hown, hnm, hts, hK, hNw⟩ := id G
  intro n
  induction n with
  | zero => intro v1 v2 v3 σ hF; exact absurd hF (by intro h; cases h)
  | succ n ih =>
    intro v1 v2 v3 σ hF H locs ls hW hl
    rw [f_X2_roomOf_32] at hF
    refine lv_iload_n hx hb dX2_roomOf_32 rfl (lv_at hl 3 rfl) ?_
    refine lv_aload_n hx hb dX2_roomOf_33 rfl (lv_at hl 0 rfl) ?_
    refine gg_X2_29 G hW (by decide) dX2_roomOf_34 ?_
    refine lv_icmp_ge (tgt := 76) hx hb dX2_roomOf_37 (by decide) (fun hc => ?_) (fun hc => ?_)
    · replace hF := o_t hc hF
      exact w_X2_roomOf_76 G _ _ hF H locs ls hW (lv_sub hl [2] rfl)
    · replace hF := o_f hc hF
      refine lv_aload_n hx hb dX2_roomOf_40 rfl (lv_at hl 0 rfl) ?_
      refine gg_X2_19 G hW (by decide) dX2_roomOf_41 ?_
      refine lv_iload_n hx hb dX2_roomOf_44 rfl (lv_at hl 3 rfl) ?_
      obtain ⟨x1, hx1, hF⟩ := o_b hF
      refine g_aP (φ := 8) (ψ := 5) G rfl rfl (by decide) (ety := (.object "RegionRestarts$Channel")) rfl rfl (fun _ => rfl) hW (by decide) hx1 dX2_roomOf_45 ?_
      refine gg_X2_74 G hW (aP_lt hx1) dX2_roomOf_46 ?_
      refine lv_iload_n hx hb dX2_roomOf_49 rfl (lv_at hl 1 rfl) ?_
      refine lv_icmp_ne (tgt := 70) hx hb dX2_roomOf_50 (by decide) (fun hc => ?_) (fun hc => ?_)
      · replace hF := o_f hc hF
        exact w_X2_roomOf_70 G (f_X2_roomOf_32 n) ih _ _ _ _ hF H locs ls hW (lv_sub hl [0, 1, 2, 3] rfl)
      · replace hF := o_t hc hF
        refine lv_iload_n hx hb dX2_roomOf_53 rfl (lv_at hl 2 rfl) ?_
        refine lv_bipush (v := 64) hx hb dX2_roomOf_54 (by decide) ?_
        refine lv_aload_n hx hb dX2_roomOf_56 rfl (lv_at hl 0 rfl) ?_
        refine gg_X2_19 G hW (by decide) dX2_roomOf_57 ?_
        refine lv_iload_n hx hb dX2_roomOf_60 rfl (lv_at hl 3 rfl) ?_
        obtain ⟨x2, hx2, hF⟩ := o_b hF
        refine g_aP (φ := 8) (ψ := 5) G rfl rfl (by decide) (ety := (.object "RegionRestarts$Channel")) rfl rfl (fun _ => rfl) hW (by decide) hx2 dX2_roomOf_61 ?_
        refine gg_X2_77 G hW (aP_lt hx2) dX2_roomOf_62 ?_
        refine lv_isub hx hb dX2_roomOf_65 ?_
        refine g_min G hl.1 mm_X2_80 (Nat.le_of_ble_eq_true rfl) (Nat.le_of_ble_eq_true rfl) (Nat.le_refl _) (Nat.le_refl _) dX2_roomOf_66 ?_
        refine lv_istore_n (lv' := [(2, .int (if ((64 : Int32) - (σ.1 5 x2 5)) < v2 then ((64 : Int32) - (σ.1 5 x2 5)) else v2)), (0, .ref (α 1 0)), (1, .int v1), (3, .int v3)]) hx hb dX2_roomOf_69 rfl hl (by decide) rfl (fun ls hl => ?_)
        exact w_X2_roomOf_70 G (f_X2_roomOf_32 n) ih _ _ _ _ hF H locs ls hW (lv_sub hl [1, 2, 0, 3] rfl)
set_option maxHeartbeats 4000000 in
set_option maxRecDepth 100000 in
theorem w_X2_roomOf_0 (G : gx p s m meth c args cX2_roomOf 4 (some .int) RX2 "roomOf" D dA) {r : Int32} {σz : sm_M} : ∀ (v1 : Int32) (σ : sm_M), f_X2_roomOf v1 σ = some (r, σz) → ∀ (H : Heap) (locs : List Loc) (ls : Array Slot), Wd D dA 0 α s.heap σ H locs → lv_has ls 4 [(0, .ref (α 1 0)), (1, .int v1)] → gW 1 p l e s m args below meth c D dA 0 α (some (.int r)) σz H locs (F0 m 0 ls []) := by
  obtain ⟨hx, hb, hr, hlk, hml, hown, hnm, hts, hK, hNw⟩ := id G
  intro v1 σ hF H locs ls hW hl
  rw [f_X2_roomOf] at hF
  refine lv_aload_n hx hb dX2_roomOf_0 rfl (lv_at hl 0 rfl) ?_
  refine gg_X2_11 G hW (by decide) dX2_roomOf_1 ?_
  refine lv_iload_n hx hb dX2_roomOf_4 rfl (lv_at hl 1 rfl) ?_
  obtain ⟨x1, hx1, hF⟩ := o_b hF
  refine g_aP (φ := 7) (ψ := 4) G rfl rfl (by decide) (ety := (.object "RegionRestarts$Task")) rfl rfl (fun _ => rfl) hW (by decide) hx1 dX2_roomOf_5 ?_
  refine gg_X2_53 G hW (aP_lt hx1) dX2_roomOf_6 ?_
  refine lv_iconst (v := 5) hx hb dX2_roomOf_9 (by decide) ?_
  refine lv_icmp_ne (tgt := 27) hx hb dX2_roomOf_10 (by decide) (fun hc => ?_) (fun hc => ?_)
  · replace hF := o_f hc hF
    refine lv_bipush (v := 64) hx hb dX2_roomOf_27 (by decide) ?_
    refine lv_istore_n (lv' := [(2, .int (64 : Int32)), (0, .ref (α 1 0)), (1, .int v1)]) hx hb dX2_roomOf_29 rfl hl (by decide) rfl (fun ls hl => ?_)
    refine lv_iconst (v := 0) hx hb dX2_roomOf_30 (by decide) ?_
    refine lv_istore_n (lv' := [(3, .int (0 : Int32)), (2, .int (64 : Int32)), (0, .ref (α 1 0)), (1, .int v1)]) hx hb dX2_roomOf_31 rfl hl (by decide) rfl (fun ls hl => ?_)
    exact w_X2_roomOf_32 G 1000 _ _ _ _ hF H locs ls hW (lv_sub hl [2, 3, 1, 0] rfl)
  · replace hF := o_t hc hF
    refine lv_sipush (v := 200) hx hb dX2_roomOf_13 (by decide) ?_
    refine lv_aload_n hx hb dX2_roomOf_16 rfl (lv_at hl 0 rfl) ?_
    refine gg_X2_11 G hW (by decide) dX2_roomOf_17 ?_
    refine lv_iload_n hx hb dX2_roomOf_20 rfl (lv_at hl 1 rfl) ?_
    obtain ⟨x2, hx2, hF⟩ := o_b hF
    refine g_aP (φ := 7) (ψ := 4) G rfl rfl (by decide) (ety := (.object "RegionRestarts$Task")) rfl rfl (fun _ => rfl) hW (by decide) hx2 dX2_roomOf_21 ?_
    refine gg_X2_71 G hW (aP_lt hx2) dX2_roomOf_22 ?_
    refine lv_isub hx hb dX2_roomOf_25 ?_
    exact g_iret G hW hF dX2_roomOf_26
end WX2_roomOf
theorem c_X2_roomOf {l : Launch} {D : va_G} {dA : Nat → ClassId} {α : Nat → Nat → Nat} (hI : Inj 0 α) {v1 : Int32} {σ σz : sm_M} {r : Int32} (hF : f_X2_roomOf v1 σ = some (r, σz)) : gM l D dA 0 α yX2_roomOf cX2_roomOf 4 (some .int) 1 [.ref (α 1 0), .int v1] σ (some (.int r)) σz :=
  g_met hI (by decide +kernel) (Nat.le_of_ble_eq_true rfl) (fun p e s m below meth c ls G hW hl => w_X2_roomOf_0 G _ _ hF _ _ _ hW hl)
section KX2_roomOf
variable {p : Program} {l : Launch} {e : Env} {R : Room} {s : State} {m : MethodId} {args : Array Value} {below : List Frame} {meth : Method} {c : Code} {H : Heap} {locs : List Loc} {cells slots : Nat} {Q : State → Prop}
variable {cc : ByteArray} {pc nL Z : Nat} {ls : Array Slot} {rest : List Value} {D : va_G} {dA : Nat → ClassId} {α : Nat → Nat → Nat} {H0 : Heap} {σ σ' : sm_M} {ret : Option FieldType} {own nm : String}
theorem kk_X3_26 (G : gx p s m meth c args cc nL ret RX3 nm D dA) (hW : Wd D dA 0 α H0 σ H locs) {v1 : Int32} {q : Int32 × sm_M} (hq : f_X2_roomOf v1 σ = some q) (hls : ls.size = nL) (hR : 1 + 1 ≤ R.frames ∧ 8 + (4 + 11) + 44 * 1 ≤ R.locals) (hf : cells ≤ R.cells ∧ slots ≤ R.slots) (hcat : (rest.map fun v => v.category).sum ≤ 8) (hdg : decode cc pc = .ok (.invokevirtual 26, 3)) (kk : ∀ (H1 : Heap) (locs1 : List Loc), Wd D dA 0 α H0 q.2 H1 locs1 → W p l e R s m args below meth c H1 locs1 cells slots Q (F0 m (pc + 3) ls (.int q.1 :: rest))) : W p l e R s m args below meth c H locs cells slots Q (F0 m pc ls (.int v1 :: .ref (α 1 0) :: rest)) :=
  g_cV (n := 1) G (c_X2_roomOf (l := l) hW.2.2.2 hq) ⟨wm_12_2, wm_12_3, wm_12_4, wm_1_14, wm_12_5⟩ (by decide +kernel) hW (g_recv (φ := 1) (ci := 2) G.2.2.2.2.2.2.2.2.1 rfl rfl rfl (by decide) hW.1 rfl) hR hf rfl hls rfl hcat hdg kk
end KX2_roomOf
section WX2_give
variable {p : Program} {l : Launch} {e : Env} {s : State} {m : MethodId} {args : Array Value} {below : List Frame} {meth : Method} {c : Code} {D : va_G} {dA : Nat → ClassId} {α : Nat → Nat → Nat}
set_option maxHeartbeats 4000000 in
set_option maxRecDepth 100000 in
theorem w_X2_give_33 (G : gx p s m meth c args cX2_give 4 none RX2 "give" D dA) {σz : sm_M} (k2 : Int32 → Int32 → Int32 → sm_M → Option (sm_M)) (hk2 : ∀ (v1 : Int32) (v2 : Int32) (v3 : Int32) (σ : sm_M), k2 v1 v2 v3 σ = some σz → ∀ (H : Heap) (locs : List Loc) (ls : Array Slot), Wd D dA 0 α s.heap σ H locs → lv_has ls 4 [(0, .ref (α 1 0)), (1, .int v1), (2, .int v2), (3, .int v3)] → gW 1 p l e s m args below meth c D dA 0 α none σz H locs (F0 m 2 ls [])) : ∀ (v1 : Int32) (v2 : Int32) (v3 : Int32) (σ : sm_M), f_X2_give_33 k2 v1 v2 v3 σ = some σz → ∀ (H : Heap) (locs : List Loc) (ls : Array Slot), Wd D dA 0 α s.heap σ H locs → lv_has ls 4 [(0, .ref (α 1 0)), (1, .int v1), (2, .int v2), (3, .int v3)] → gW 1 p l e s m args below meth c D dA 0 α none σz H locs (F0 m 33 ls []) := by
  obtain ⟨hx, hb, hr, hlk, hml, hown, hnm, hts, hK, hNw⟩ := id G
  intro v1 v2 v3 σ hF H locs ls hW hl
  rw [f_X2_give_33] at hF
  refine lv_iinc (v := (v3 + 1)) (lv' := [(3, .int (v3 + 1)), (0, .ref (α 1 0)), (1, .int v1), (2, .int v2)]) hx hb dX2_give_33 hl (k := 3) rfl rfl (by decide) rfl (fun ls hl => ?_)
  refine lv_goto (tgt := 2) hx hb dX2_give_36 (by decide) ?_
  exact hk2 _ _ _ _ hF H locs ls hW (lv_sub hl [1, 2, 3, 0] rfl)
set_option maxHeartbeats 4000000 in
set_option maxRecDepth 100000 in
theorem w_X2_give_2 (G : gx p s m meth c args cX2_give 4 none RX2 "give" D dA) {σz : sm_M} : ∀ (n : Nat) (v1 : Int32) (v2 : Int32) (v3 : Int32) (σ : sm_M), f_X2_give_2 n v1 v2 v3 σ = some σz → ∀ (H : Heap) (locs : List Loc) (ls : Array Slot), Wd D dA 0 α s.heap σ H locs → lv_has ls 4 [(0, .ref (α 1 0)), (1, .int v1), (2, .int v2), (3, .int v3)] → gW 1 p l e s m args below meth c D dA 0 α none σz H locs (F0 m 2 ls []) := by
  obtain ⟨hx, hb, hr, hlk, hml, hown, hnm, hts, hK, hNw⟩ := id G
  intro n
  induction n with
  | zero => intro v1 v2 v3 σ hF; exact absurd hF (by intro h; cases h)
  | succ n ih =>
    intro v1 v2 v3 σ hF H locs ls hW hl
    rw [f_X2_give_2] at hF
    refine lv_iload_n hx hb dX2_give_2 rfl (lv_at hl 3 rfl) ?_
    refine lv_aload_n hx hb dX2_give_3 rfl (lv_at hl 0 rfl) ?_
    refine gg_X2_29 G hW (by decide) dX2_give_4 ?_
    refine lv_icmp_ge (tgt := 39) hx hb dX2_give_7 (by decide) (fun hc => ?_) (fun hc => ?_)
    · replace hF := o_t hc hF
      exact g_vret G hW hF dX2_give_39
    · replace hF := o_f hc hF
      refine lv_aload_n hx hb dX2_give_10 rfl (lv_at hl 0 rfl) ?_
      refine gg_X2_19 G hW (by decide) dX2_give_11 ?_
      refine lv_iload_n hx hb dX2_give_14 rfl (lv_at hl 3 rfl) ?_
      obtain ⟨x1, hx1, hF⟩ := o_b hF
      refine g_aP (φ := 8) (ψ := 5) G rfl rfl (by decide) (ety := (.object "RegionRestarts$Channel")) rfl rfl (fun _ => rfl) hW (by decide) hx1 dX2_give_15 ?_
      refine gg_X2_74 G hW (aP_lt hx1) dX2_give_16 ?_
      refine lv_iload_n hx hb dX2_give_19 rfl (lv_at hl 1 rfl) ?_
      refine lv_icmp_ne (tgt := 33) hx hb dX2_give_20 (by decide) (fun hc => ?_) (fun hc => ?_)
      · replace hF := o_f hc hF
        exact w_X2_give_33 G (f_X2_give_2 n) ih _ _ _ _ hF H locs ls hW (lv_sub hl [0, 1, 2, 3] rfl)
      · replace hF := o_t hc hF
        refine lv_aload_n hx hb dX2_give_23 rfl (lv_at hl 0 rfl) ?_
        refine gg_X2_19 G hW (by decide) dX2_give_24 ?_
        refine lv_iload_n hx hb dX2_give_27 rfl (lv_at hl 3 rfl) ?_
        obtain ⟨x2, hx2, hF⟩ := o_b hF
        refine g_aP (φ := 8) (ψ := 5) G rfl rfl (by decide) (ety := (.object "RegionRestarts$Channel")) rfl rfl (fun _ => rfl) hW (by decide) hx2 dX2_give_28 ?_
        refine lv_iload_n hx hb dX2_give_29 rfl (lv_at hl 2 rfl) ?_
        obtain ⟨q3, hq3, hF⟩ := o_b hF
        refine kk_X2_86 G hW (aP_lt hx2) hq3 hl.1 ⟨Nat.le_of_ble_eq_true rfl, Nat.le_of_ble_eq_true rfl⟩ ⟨Nat.le_refl _, Nat.le_refl _⟩ (Nat.le_of_ble_eq_true rfl) dX2_give_30 (fun H locs hW => ?_)
        exact w_X2_give_33 G (f_X2_give_2 n) ih _ _ _ _ hF H locs ls hW (lv_sub hl [0, 1, 2, 3] rfl)
set_option maxHeartbeats 4000000 in
set_option maxRecDepth 100000 in
theorem w_X2_give_0 (G : gx p s m meth c args cX2_give 4 none RX2 "give" D dA) {σz : sm_M} : ∀ (v1 : Int32) (v2 : Int32) (σ : sm_M), f_X2_give v1 v2 σ = some σz → ∀ (H : Heap) (locs : List Loc) (ls : Array Slot), Wd D dA 0 α s.heap σ H locs → lv_has ls 4 [(0, .ref (α 1 0)), (1, .int v1), (2, .int v2)] → gW 1 p l e s m args below meth c D dA 0 α none σz H locs (F0 m 0 ls []) := by
  obtain ⟨hx, hb, hr, hlk, hml, hown, hnm, hts, hK, hNw⟩ := id G
  intro v1 v2 σ hF H locs ls hW hl
  rw [f_X2_give] at hF
  refine lv_iconst (v := 0) hx hb dX2_give_0 (by decide) ?_
  refine lv_istore_n (lv' := [(3, .int (0 : Int32)), (0, .ref (α 1 0)), (1, .int v1), (2, .int v2)]) hx hb dX2_give_1 rfl hl (by decide) rfl (fun ls hl => ?_)
  exact w_X2_give_2 G 1000 _ _ _ _ hF H locs ls hW (lv_sub hl [1, 2, 3, 0] rfl)
end WX2_give
theorem c_X2_give {l : Launch} {D : va_G} {dA : Nat → ClassId} {α : Nat → Nat → Nat} (hI : Inj 0 α) {v1 : Int32} {v2 : Int32} {σ σz : sm_M} (hF : f_X2_give v1 v2 σ = some σz) : gM l D dA 0 α yX2_give cX2_give 4 none 1 [.ref (α 1 0), .int v1, .int v2] σ none σz :=
  g_met hI (by decide +kernel) (Nat.le_of_ble_eq_true rfl) (fun p e s m below meth c ls G hW hl => w_X2_give_0 G _ _ _ hF _ _ _ hW hl)
section KX2_give
variable {p : Program} {l : Launch} {e : Env} {R : Room} {s : State} {m : MethodId} {args : Array Value} {below : List Frame} {meth : Method} {c : Code} {H : Heap} {locs : List Loc} {cells slots : Nat} {Q : State → Prop}
variable {cc : ByteArray} {pc nL Z : Nat} {ls : Array Slot} {rest : List Value} {D : va_G} {dA : Nat → ClassId} {α : Nat → Nat → Nat} {H0 : Heap} {σ σ' : sm_M} {ret : Option FieldType} {own nm : String}
theorem kk_X5_276 (G : gx p s m meth c args cc nL ret RX5 nm D dA) (hW : Wd D dA 0 α H0 σ H locs) {v1 : Int32} {v2 : Int32} {q : sm_M} (hq : f_X2_give v1 v2 σ = some q) (hls : ls.size = nL) (hR : 1 + 1 ≤ R.frames ∧ 8 + (4 + 11) + 44 * 1 ≤ R.locals) (hf : cells ≤ R.cells ∧ slots ≤ R.slots) (hcat : (rest.map fun v => v.category).sum ≤ 8) (hdg : decode cc pc = .ok (.invokevirtual 276, 3)) (kk : ∀ (H1 : Heap) (locs1 : List Loc), Wd D dA 0 α H0 q H1 locs1 → W p l e R s m args below meth c H1 locs1 cells slots Q (F0 m (pc + 3) ls rest)) : W p l e R s m args below meth c H locs cells slots Q (F0 m pc ls (.int v2 :: .int v1 :: .ref (α 1 0) :: rest)) :=
  g_cV (n := 2) G (c_X2_give (l := l) hW.2.2.2 hq) ⟨wm_19_5, wm_19_6, wm_19_7, wm_1_14, wm_19_8⟩ (by decide +kernel) hW (g_recv (φ := 1) (ci := 2) G.2.2.2.2.2.2.2.2.1 rfl rfl rfl (by decide) hW.1 rfl) hR hf rfl hls rfl hcat hdg kk
end KX2_give
section WX2_loseAllFrom
variable {p : Program} {l : Launch} {e : Env} {s : State} {m : MethodId} {args : Array Value} {below : List Frame} {meth : Method} {c : Code} {D : va_G} {dA : Nat → ClassId} {α : Nat → Nat → Nat}
set_option maxHeartbeats 4000000 in
set_option maxRecDepth 100000 in
theorem w_X2_loseAllFrom_47 (G : gx p s m meth c args cX2_loseAllFrom 3 none RX2 "loseAllFrom" D dA) {σz : sm_M} (k2 : Int32 → Int32 → sm_M → Option (sm_M)) (hk2 : ∀ (v1 : Int32) (v2 : Int32) (σ : sm_M), k2 v1 v2 σ = some σz → ∀ (H : Heap) (locs : List Loc) (ls : Array Slot), Wd D dA 0 α s.heap σ H locs → lv_has ls 3 [(0, .ref (α 1 0)), (1, .int v1), (2, .int v2)] → gW 1 p l e s m args below meth c D dA 0 α none σz H locs (F0 m 2 ls [])) : ∀ (v1 : Int32) (v2 : Int32) (σ : sm_M), f_X2_loseAllFrom_47 k2 v1 v2 σ = some σz → ∀ (H : Heap) (locs : List Loc) (ls : Array Slot), Wd D dA 0 α s.heap σ H locs → lv_has ls 3 [(0, .ref (α 1 0)), (1, .int v1), (2, .int v2)] → gW 1 p l e s m args below meth c D dA 0 α none σz H locs (F0 m 47 ls []) := by
  obtain ⟨hx, hb, hr, hlk, hml, hown, hnm, hts, hK, hNw⟩ := id G
  intro v1 v2 σ hF H locs ls hW hl
  rw [f_X2_loseAllFrom_47] at hF
  refine lv_iinc (v := (v2 + 1)) (lv' := [(2, .int (v2 + 1)), (0, .ref (α 1 0)), (1, .int v1)]) hx hb dX2_loseAllFrom_47 hl (k := 2) rfl rfl (by decide) rfl (fun ls hl => ?_)
  refine lv_goto (tgt := 2) hx hb dX2_loseAllFrom_50 (by decide) ?_
  exact hk2 _ _ _ hF H locs ls hW (lv_sub hl [1, 2, 0] rfl)
set_option maxHeartbeats 4000000 in
set_option maxRecDepth 100000 in
theorem w_X2_loseAllFrom_2 (G : gx p s m meth c args cX2_loseAllFrom 3 none RX2 "loseAllFrom" D dA) {σz : sm_M} : ∀ (n : Nat) (v1 : Int32) (v2 : Int32) (σ : sm_M), f_X2_loseAllFrom_2 n v1 v2 σ = some σz → ∀ (H : Heap) (locs : List Loc) (ls : Array Slot), Wd D dA 0 α s.heap σ H locs → lv_has ls 3 [(0, .ref (α 1 0)), (1, .int v1), (2, .int v2)] → gW 1 p l e s m args below meth c D dA 0 α none σz H locs (F0 m 2 ls []) := by
  obtain ⟨hx, hb, hr, hlk, hml, hown, hnm, hts, hK, hNw⟩ := id G
  intro n
  induction n with
  | zero => intro v1 v2 σ hF; exact absurd hF (by intro h; cases h)
  | succ n ih =>
    intro v1 v2 σ hF H locs ls hW hl
    rw [f_X2_loseAllFrom_2] at hF
    refine lv_iload_n hx hb dX2_loseAllFrom_2 rfl (lv_at hl 2 rfl) ?_
    refine lv_aload_n hx hb dX2_loseAllFrom_3 rfl (lv_at hl 0 rfl) ?_
    refine gg_X2_29 G hW (by decide) dX2_loseAllFrom_4 ?_
    refine lv_icmp_ge (tgt := 53) hx hb dX2_loseAllFrom_7 (by decide) (fun hc => ?_) (fun hc => ?_)
    · replace hF := o_t hc hF
      exact g_vret G hW hF dX2_loseAllFrom_53
    · replace hF := o_f hc hF
      refine lv_aload_n hx hb dX2_loseAllFrom_10 rfl (lv_at hl 0 rfl) ?_
      refine gg_X2_19 G hW (by decide) dX2_loseAllFrom_11 ?_
      refine lv_iload_n hx hb dX2_loseAllFrom_14 rfl (lv_at hl 2 rfl) ?_
      obtain ⟨x1, hx1, hF⟩ := o_b hF
      refine g_aP (φ := 8) (ψ := 5) G rfl rfl (by decide) (ety := (.object "RegionRestarts$Channel")) rfl rfl (fun _ => rfl) hW (by decide) hx1 dX2_loseAllFrom_15 ?_
      refine gg_X2_90 G hW (aP_lt hx1) dX2_loseAllFrom_16 ?_
      refine lv_if_eq (tgt := 47) hx hb dX2_loseAllFrom_19 (by decide) (fun hc => ?_) (fun hc => ?_)
      · replace hF := o_t hc hF
        exact w_X2_loseAllFrom_47 G (f_X2_loseAllFrom_2 n) ih _ _ _ hF H locs ls hW (lv_sub hl [0, 1, 2] rfl)
      · replace hF := o_f hc hF
        refine lv_iload_n hx hb dX2_loseAllFrom_22 rfl (lv_at hl 1 rfl) ?_
        refine lv_aload_n hx hb dX2_loseAllFrom_23 rfl (lv_at hl 0 rfl) ?_
        refine gg_X2_19 G hW (by decide) dX2_loseAllFrom_24 ?_
        refine lv_iload_n hx hb dX2_loseAllFrom_27 rfl (lv_at hl 2 rfl) ?_
        obtain ⟨x2, hx2, hF⟩ := o_b hF
        refine g_aP (φ := 8) (ψ := 5) G rfl rfl (by decide) (ety := (.object "RegionRestarts$Channel")) rfl rfl (fun _ => rfl) hW (by decide) hx2 dX2_loseAllFrom_28 ?_
        refine gg_X2_74 G hW (aP_lt hx2) dX2_loseAllFrom_29 ?_
        obtain ⟨q3, hq3, hF⟩ := o_b hF
        refine kk_X2_94 G hW hq3 hl.1 ⟨Nat.le_of_ble_eq_true rfl, Nat.le_of_ble_eq_true rfl⟩ ⟨Nat.le_refl _, Nat.le_refl _⟩ (Nat.le_of_ble_eq_true rfl) dX2_loseAllFrom_32 (fun H locs hW => ?_)
        refine lv_if_eq (tgt := 47) hx hb dX2_loseAllFrom_35 (by decide) (fun hc => ?_) (fun hc => ?_)
        · replace hF := o_t hc hF
          exact w_X2_loseAllFrom_47 G (f_X2_loseAllFrom_2 n) ih _ _ _ hF H locs ls hW (lv_sub hl [0, 1, 2] rfl)
        · replace hF := o_f hc hF
          refine lv_aload_n hx hb dX2_loseAllFrom_38 rfl (lv_at hl 0 rfl) ?_
          refine gg_X2_19 G hW (by decide) dX2_loseAllFrom_39 ?_
          refine lv_iload_n hx hb dX2_loseAllFrom_42 rfl (lv_at hl 2 rfl) ?_
          obtain ⟨x4, hx4, hF⟩ := o_b hF
          refine g_aP (φ := 8) (ψ := 5) G rfl rfl (by decide) (ety := (.object "RegionRestarts$Channel")) rfl rfl (fun _ => rfl) hW (by decide) hx4 dX2_loseAllFrom_43 ?_
          obtain ⟨q5, hq5, hF⟩ := o_b hF
          refine kk_X2_97 G hW (aP_lt hx4) hq5 hl.1 ⟨Nat.le_of_ble_eq_true rfl, Nat.le_of_ble_eq_true rfl⟩ ⟨Nat.le_refl _, Nat.le_refl _⟩ (Nat.le_of_ble_eq_true rfl) dX2_loseAllFrom_44 (fun H locs hW => ?_)
          exact w_X2_loseAllFrom_47 G (f_X2_loseAllFrom_2 n) ih _ _ _ hF H locs ls hW (lv_sub hl [0, 1, 2] rfl)
set_option maxHeartbeats 4000000 in
set_option maxRecDepth 100000 in
theorem w_X2_loseAllFrom_0 (G : gx p s m meth c args cX2_loseAllFrom 3 none RX2 "loseAllFrom" D dA) {σz : sm_M} : ∀ (v1 : Int32) (σ : sm_M), f_X2_loseAllFrom v1 σ = some σz → ∀ (H : Heap) (locs : List Loc) (ls : Array Slot), Wd D dA 0 α s.heap σ H locs → lv_has ls 3 [(0, .ref (α 1 0)), (1, .int v1)] → gW 1 p l e s m args below meth c D dA 0 α none σz H locs (F0 m 0 ls []) := by
  obtain ⟨hx, hb, hr, hlk, hml, hown, hnm, hts, hK, hNw⟩ := id G
  intro v1 σ hF H locs ls hW hl
  rw [f_X2_loseAllFrom] at hF
  refine lv_iconst (v := 0) hx hb dX2_loseAllFrom_0 (by decide) ?_
  refine lv_istore_n (lv' := [(2, .int (0 : Int32)), (0, .ref (α 1 0)), (1, .int v1)]) hx hb dX2_loseAllFrom_1 rfl hl (by decide) rfl (fun ls hl => ?_)
  exact w_X2_loseAllFrom_2 G 1000 _ _ _ hF H locs ls hW (lv_sub hl [1, 2, 0] rfl)
end WX2_loseAllFrom
theorem c_X2_loseAllFrom {l : Launch} {D : va_G} {dA : Nat → ClassId} {α : Nat → Nat → Nat} (hI : Inj 0 α) {v1 : Int32} {σ σz : sm_M} (hF : f_X2_loseAllFrom v1 σ = some σz) : gM l D dA 0 α yX2_loseAllFrom cX2_loseAllFrom 3 none 1 [.ref (α 1 0), .int v1] σ none σz :=
  g_met hI (by decide +kernel) (Nat.le_of_ble_eq_true rfl) (fun p e s m below meth c ls G hW hl => w_X2_loseAllFrom_0 G _ _ hF _ _ _ hW hl)
section KX2_loseAllFrom
variable {p : Program} {l : Launch} {e : Env} {R : Room} {s : State} {m : MethodId} {args : Array Value} {below : List Frame} {meth : Method} {c : Code} {H : Heap} {locs : List Loc} {cells slots : Nat} {Q : State → Prop}
variable {cc : ByteArray} {pc nL Z : Nat} {ls : Array Slot} {rest : List Value} {D : va_G} {dA : Nat → ClassId} {α : Nat → Nat → Nat} {H0 : Heap} {σ σ' : sm_M} {ret : Option FieldType} {own nm : String}
theorem kk_X5_133 (G : gx p s m meth c args cc nL ret RX5 nm D dA) (hW : Wd D dA 0 α H0 σ H locs) {v1 : Int32} {q : sm_M} (hq : f_X2_loseAllFrom v1 σ = some q) (hls : ls.size = nL) (hR : 1 + 1 ≤ R.frames ∧ 8 + (3 + 11) + 44 * 1 ≤ R.locals) (hf : cells ≤ R.cells ∧ slots ≤ R.slots) (hcat : (rest.map fun v => v.category).sum ≤ 8) (hdg : decode cc pc = .ok (.invokevirtual 133, 3)) (kk : ∀ (H1 : Heap) (locs1 : List Loc), Wd D dA 0 α H0 q H1 locs1 → W p l e R s m args below meth c H1 locs1 cells slots Q (F0 m (pc + 3) ls rest)) : W p l e R s m args below meth c H locs cells slots Q (F0 m pc ls (.int v1 :: .ref (α 1 0) :: rest)) :=
  g_cV (n := 1) G (c_X2_loseAllFrom (l := l) hW.2.2.2 hq) ⟨wm_24_2, wm_24_3, wm_24_4, wm_1_14, wm_24_5⟩ (by decide +kernel) hW (g_recv (φ := 1) (ci := 2) G.2.2.2.2.2.2.2.2.1 rfl rfl rfl (by decide) hW.1 rfl) hR hf rfl hls rfl hcat hdg kk
end KX2_loseAllFrom
section WX2_keepAsMark
variable {p : Program} {l : Launch} {e : Env} {s : State} {m : MethodId} {args : Array Value} {below : List Frame} {meth : Method} {c : Code} {D : va_G} {dA : Nat → ClassId} {α : Nat → Nat → Nat}
set_option maxHeartbeats 4000000 in
set_option maxRecDepth 100000 in
theorem w_X2_keepAsMark_27 (G : gx p s m meth c args cX2_keepAsMark 2 none RX2 "keepAsMark" D dA) {σz : sm_M} : ∀ (n : Nat) (v1 : Int32) (σ : sm_M), f_X2_keepAsMark_27 n v1 σ = some σz → ∀ (H : Heap) (locs : List Loc) (ls : Array Slot), Wd D dA 0 α s.heap σ H locs → lv_has ls 2 [(0, .ref (α 1 0)), (1, .int v1)] → gW 1 p l e s m args below meth c D dA 0 α none σz H locs (F0 m 27 ls []) := by
  obtain ⟨hx, hb, hr, hlk, hml, hown, hnm, hts, hK, hNw⟩ := id G
  intro n
  induction n with
  | zero => intro v1 σ hF; exact absurd hF (by intro h; cases h)
  | succ n ih =>
    intro v1 σ hF H locs ls hW hl
    rw [f_X2_keepAsMark_27] at hF
    refine lv_iload_n hx hb dX2_keepAsMark_27 rfl (lv_at hl 1 rfl) ?_
    refine lv_aload_n hx hb dX2_keepAsMark_28 rfl (lv_at hl 0 rfl) ?_
    refine gg_X2_29 G hW (by decide) dX2_keepAsMark_29 ?_
    refine lv_icmp_ge (tgt := 50) hx hb dX2_keepAsMark_32 (by decide) (fun hc => ?_) (fun hc => ?_)
    · replace hF := o_t hc hF
      exact g_vret G hW hF dX2_keepAsMark_50
    · replace hF := o_f hc hF
      refine lv_aload_n hx hb dX2_keepAsMark_35 rfl (lv_at hl 0 rfl) ?_
      refine gg_X2_19 G hW (by decide) dX2_keepAsMark_36 ?_
      refine lv_iload_n hx hb dX2_keepAsMark_39 rfl (lv_at hl 1 rfl) ?_
      obtain ⟨x1, hx1, hF⟩ := o_b hF
      refine g_aP (φ := 8) (ψ := 5) G rfl rfl (by decide) (ety := (.object "RegionRestarts$Channel")) rfl rfl (fun _ => rfl) hW (by decide) hx1 dX2_keepAsMark_40 ?_
      obtain ⟨q2, hq2, hF⟩ := o_b hF
      refine kk_X2_103 G hW (aP_lt hx1) hq2 hl.1 ⟨Nat.le_of_ble_eq_true rfl, Nat.le_of_ble_eq_true rfl⟩ ⟨Nat.le_refl _, Nat.le_refl _⟩ (Nat.le_of_ble_eq_true rfl) dX2_keepAsMark_41 (fun H locs hW => ?_)
      refine lv_iinc (v := (v1 + 1)) (lv' := [(1, .int (v1 + 1)), (0, .ref (α 1 0))]) hx hb dX2_keepAsMark_44 hl (k := 1) rfl rfl (by decide) rfl (fun ls hl => ?_)
      refine lv_goto (tgt := 27) hx hb dX2_keepAsMark_47 (by decide) ?_
      exact ih _ _ hF H locs ls hW (lv_sub hl [1, 0] rfl)
set_option maxHeartbeats 4000000 in
set_option maxRecDepth 100000 in
theorem w_X2_keepAsMark_25 (G : gx p s m meth c args cX2_keepAsMark 2 none RX2 "keepAsMark" D dA) {σz : sm_M} : ∀ (σ : sm_M), f_X2_keepAsMark_25 σ = some σz → ∀ (H : Heap) (locs : List Loc) (ls : Array Slot), Wd D dA 0 α s.heap σ H locs → lv_has ls 2 [(0, .ref (α 1 0))] → gW 1 p l e s m args below meth c D dA 0 α none σz H locs (F0 m 25 ls []) := by
  obtain ⟨hx, hb, hr, hlk, hml, hown, hnm, hts, hK, hNw⟩ := id G
  intro σ hF H locs ls hW hl
  rw [f_X2_keepAsMark_25] at hF
  refine lv_iconst (v := 0) hx hb dX2_keepAsMark_25 (by decide) ?_
  refine lv_istore_n (lv' := [(1, .int (0 : Int32)), (0, .ref (α 1 0))]) hx hb dX2_keepAsMark_26 rfl hl (by decide) rfl (fun ls hl => ?_)
  exact w_X2_keepAsMark_27 G 1000 _ _ hF H locs ls hW (lv_sub hl [1, 0] rfl)
set_option maxHeartbeats 4000000 in
set_option maxRecDepth 100000 in
theorem w_X2_keepAsMark_2 (G : gx p s m meth c args cX2_keepAsMark 2 none RX2 "keepAsMark" D dA) {σz : sm_M} : ∀ (n : Nat) (v1 : Int32) (σ : sm_M), f_X2_keepAsMark_2 n v1 σ = some σz → ∀ (H : Heap) (locs : List Loc) (ls : Array Slot), Wd D dA 0 α s.heap σ H locs → lv_has ls 2 [(0, .ref (α 1 0)), (1, .int v1)] → gW 1 p l e s m args below meth c D dA 0 α none σz H locs (F0 m 2 ls []) := by
  obtain ⟨hx, hb, hr, hlk, hml, hown, hnm, hts, hK, hNw⟩ := id G
  intro n
  induction n with
  | zero => intro v1 σ hF; exact absurd hF (by intro h; cases h)
  | succ n ih =>
    intro v1 σ hF H locs ls hW hl
    rw [f_X2_keepAsMark_2] at hF
    refine lv_iload_n hx hb dX2_keepAsMark_2 rfl (lv_at hl 1 rfl) ?_
    refine lv_aload_n hx hb dX2_keepAsMark_3 rfl (lv_at hl 0 rfl) ?_
    refine gg_X2_25 G hW (by decide) dX2_keepAsMark_4 ?_
    refine lv_icmp_ge (tgt := 25) hx hb dX2_keepAsMark_7 (by decide) (fun hc => ?_) (fun hc => ?_)
    · replace hF := o_t hc hF
      exact w_X2_keepAsMark_25 G  _ hF H locs ls hW (lv_sub hl [0] rfl)
    · replace hF := o_f hc hF
      refine lv_aload_n hx hb dX2_keepAsMark_10 rfl (lv_at hl 0 rfl) ?_
      refine gg_X2_11 G hW (by decide) dX2_keepAsMark_11 ?_
      refine lv_iload_n hx hb dX2_keepAsMark_14 rfl (lv_at hl 1 rfl) ?_
      obtain ⟨x1, hx1, hF⟩ := o_b hF
      refine g_aP (φ := 7) (ψ := 4) G rfl rfl (by decide) (ety := (.object "RegionRestarts$Task")) rfl rfl (fun _ => rfl) hW (by decide) hx1 dX2_keepAsMark_15 ?_
      obtain ⟨q2, hq2, hF⟩ := o_b hF
      refine kk_X2_100 G hW (aP_lt hx1) hq2 hl.1 ⟨Nat.le_of_ble_eq_true rfl, Nat.le_of_ble_eq_true rfl⟩ ⟨Nat.le_refl _, Nat.le_refl _⟩ (Nat.le_of_ble_eq_true rfl) dX2_keepAsMark_16 (fun H locs hW => ?_)
      refine lv_iinc (v := (v1 + 1)) (lv' := [(1, .int (v1 + 1)), (0, .ref (α 1 0))]) hx hb dX2_keepAsMark_19 hl (k := 1) rfl rfl (by decide) rfl (fun ls hl => ?_)
      refine lv_goto (tgt := 2) hx hb dX2_keepAsMark_22 (by decide) ?_
      exact ih _ _ hF H locs ls hW (lv_sub hl [1, 0] rfl)
set_option maxHeartbeats 4000000 in
set_option maxRecDepth 100000 in
theorem w_X2_keepAsMark_0 (G : gx p s m meth c args cX2_keepAsMark 2 none RX2 "keepAsMark" D dA) {σz : sm_M} : ∀ (σ : sm_M), f_X2_keepAsMark σ = some σz → ∀ (H : Heap) (locs : List Loc) (ls : Array Slot), Wd D dA 0 α s.heap σ H locs → lv_has ls 2 [(0, .ref (α 1 0))] → gW 1 p l e s m args below meth c D dA 0 α none σz H locs (F0 m 0 ls []) := by
  obtain ⟨hx, hb, hr, hlk, hml, hown, hnm, hts, hK, hNw⟩ := id G
  intro σ hF H locs ls hW hl
  rw [f_X2_keepAsMark] at hF
  refine lv_iconst (v := 0) hx hb dX2_keepAsMark_0 (by decide) ?_
  refine lv_istore_n (lv' := [(1, .int (0 : Int32)), (0, .ref (α 1 0))]) hx hb dX2_keepAsMark_1 rfl hl (by decide) rfl (fun ls hl => ?_)
  exact w_X2_keepAsMark_2 G 1000 _ _ hF H locs ls hW (lv_sub hl [1, 0] rfl)
end WX2_keepAsMark
theorem c_X2_keepAsMark {l : Launch} {D : va_G} {dA : Nat → ClassId} {α : Nat → Nat → Nat} (hI : Inj 0 α) {σ σz : sm_M} (hF : f_X2_keepAsMark σ = some σz) : gM l D dA 0 α yX2_keepAsMark cX2_keepAsMark 2 none 1 [.ref (α 1 0)] σ none σz :=
  g_met hI (by decide +kernel) (Nat.le_of_ble_eq_true rfl) (fun p e s m below meth c ls G hW hl => w_X2_keepAsMark_0 G  _ hF _ _ _ hW hl)
section KX2_keepAsMark
variable {p : Program} {l : Launch} {e : Env} {R : Room} {s : State} {m : MethodId} {args : Array Value} {below : List Frame} {meth : Method} {c : Code} {H : Heap} {locs : List Loc} {cells slots : Nat} {Q : State → Prop}
variable {cc : ByteArray} {pc nL Z : Nat} {ls : Array Slot} {rest : List Value} {D : va_G} {dA : Nat → ClassId} {α : Nat → Nat → Nat} {H0 : Heap} {σ σ' : sm_M} {ret : Option FieldType} {own nm : String}
theorem kk_X5_175 (G : gx p s m meth c args cc nL ret RX5 nm D dA) (hW : Wd D dA 0 α H0 σ H locs) {q : sm_M} (hq : f_X2_keepAsMark σ = some q) (hls : ls.size = nL) (hR : 1 + 1 ≤ R.frames ∧ 8 + (2 + 11) + 44 * 1 ≤ R.locals) (hf : cells ≤ R.cells ∧ slots ≤ R.slots) (hcat : (rest.map fun v => v.category).sum ≤ 8) (hdg : decode cc pc = .ok (.invokevirtual 175, 3)) (kk : ∀ (H1 : Heap) (locs1 : List Loc), Wd D dA 0 α H0 q H1 locs1 → W p l e R s m args below meth c H1 locs1 cells slots Q (F0 m (pc + 3) ls rest)) : W p l e R s m args below meth c H locs cells slots Q (F0 m pc ls (.ref (α 1 0) :: rest)) :=
  g_cV (n := 0) G (c_X2_keepAsMark (l := l) hW.2.2.2 hq) ⟨wm_26_11, wm_26_12, wm_26_13, wm_1_14, wm_26_14⟩ (by decide +kernel) hW (g_recv (φ := 1) (ci := 2) G.2.2.2.2.2.2.2.2.1 rfl rfl rfl (by decide) hW.1 rfl) hR hf rfl hls rfl hcat hdg kk
end KX2_keepAsMark
section WX2_unsteadyIn
variable {p : Program} {l : Launch} {e : Env} {s : State} {m : MethodId} {args : Array Value} {below : List Frame} {meth : Method} {c : Code} {D : va_G} {dA : Nat → ClassId} {α : Nat → Nat → Nat}
set_option maxHeartbeats 4000000 in
set_option maxRecDepth 100000 in
theorem w_X2_unsteadyIn_59 (G : gx p s m meth c args cX2_unsteadyIn 4 (some .int) RX2 "unsteadyIn" D dA) {r : Int32} {σz : sm_M} : ∀ (v2 : Int32) (σ : sm_M), f_X2_unsteadyIn_59 v2 σ = some (r, σz) → ∀ (H : Heap) (locs : List Loc) (ls : Array Slot), Wd D dA 0 α s.heap σ H locs → lv_has ls 4 [(2, .int v2)] → gW 1 p l e s m args below meth c D dA 0 α (some (.int r)) σz H locs (F0 m 59 ls []) := by
  obtain ⟨hx, hb, hr, hlk, hml, hown, hnm, hts, hK, hNw⟩ := id G
  intro v2 σ hF H locs ls hW hl
  rw [f_X2_unsteadyIn_59] at hF
  refine lv_iload_n hx hb dX2_unsteadyIn_59 rfl (lv_at hl 0 rfl) ?_
  exact g_iret G hW hF dX2_unsteadyIn_60
set_option maxHeartbeats 4000000 in
set_option maxRecDepth 100000 in
theorem w_X2_unsteadyIn_53 (G : gx p s m meth c args cX2_unsteadyIn 4 (some .int) RX2 "unsteadyIn" D dA) {r : Int32} {σz : sm_M} (k4 : Int32 → Int32 → Int32 → sm_M → Option (Int32 × sm_M)) (hk4 : ∀ (v1 : Int32) (v2 : Int32) (v3 : Int32) (σ : sm_M), k4 v1 v2 v3 σ = some (r, σz) → ∀ (H : Heap) (locs : List Loc) (ls : Array Slot), Wd D dA 0 α s.heap σ H locs → lv_has ls 4 [(0, .ref (α 1 0)), (1, .int v1), (2, .int v2), (3, .int v3)] → gW 1 p l e s m args below meth c D dA 0 α (some (.int r)) σz H locs (F0 m 4 ls [])) : ∀ (v1 : Int32) (v2 : Int32) (v3 : Int32) (σ : sm_M), f_X2_unsteadyIn_53 k4 v1 v2 v3 σ = some (r, σz) → ∀ (H : Heap) (locs : List Loc) (ls : Array Slot), Wd D dA 0 α s.heap σ H locs → lv_has ls 4 [(0, .ref (α 1 0)), (1, .int v1), (2, .int v2), (3, .int v3)] → gW 1 p l e s m args below meth c D dA 0 α (some (.int r)) σz H locs (F0 m 53 ls []) := by
  obtain ⟨hx, hb, hr, hlk, hml, hown, hnm, hts, hK, hNw⟩ := id G
  intro v1 v2 v3 σ hF H locs ls hW hl
  rw [f_X2_unsteadyIn_53] at hF
  refine lv_iinc (v := (v3 + 1)) (lv' := [(3, .int (v3 + 1)), (0, .ref (α 1 0)), (1, .int v1), (2, .int v2)]) hx hb dX2_unsteadyIn_53 hl (k := 3) rfl rfl (by decide) rfl (fun ls hl => ?_)
  refine lv_goto (tgt := 4) hx hb dX2_unsteadyIn_56 (by decide) ?_
  exact hk4 _ _ _ _ hF H locs ls hW (lv_sub hl [1, 2, 3, 0] rfl)
set_option maxHeartbeats 4000000 in
set_option maxRecDepth 100000 in
theorem w_X2_unsteadyIn_47 (G : gx p s m meth c args cX2_unsteadyIn 4 (some .int) RX2 "unsteadyIn" D dA) {r : Int32} {σz : sm_M} (k4 : Int32 → Int32 → Int32 → sm_M → Option (Int32 × sm_M)) (hk4 : ∀ (v1 : Int32) (v2 : Int32) (v3 : Int32) (σ : sm_M), k4 v1 v2 v3 σ = some (r, σz) → ∀ (H : Heap) (locs : List Loc) (ls : Array Slot), Wd D dA 0 α s.heap σ H locs → lv_has ls 4 [(0, .ref (α 1 0)), (1, .int v1), (2, .int v2), (3, .int v3)] → gW 1 p l e s m args below meth c D dA 0 α (some (.int r)) σz H locs (F0 m 4 ls [])) : ∀ (v1 : Int32) (v2 : Int32) (v3 : Int32) (σ : sm_M), f_X2_unsteadyIn_47 k4 v1 v2 v3 σ = some (r, σz) → ∀ (H : Heap) (locs : List Loc) (ls : Array Slot), Wd D dA 0 α s.heap σ H locs → lv_has ls 4 [(0, .ref (α 1 0)), (1, .int v1), (2, .int v2), (3, .int v3)] → gW 1 p l e s m args below meth c D dA 0 α (some (.int r)) σz H locs (F0 m 47 ls []) := by
  obtain ⟨hx, hb, hr, hlk, hml, hown, hnm, hts, hK, hNw⟩ := id G
  intro v1 v2 v3 σ hF H locs ls hW hl
  rw [f_X2_unsteadyIn_47] at hF
  refine lv_iload_n hx hb dX2_unsteadyIn_47 rfl (lv_at hl 2 rfl) ?_
  refine lv_iconst (v := 1) hx hb dX2_unsteadyIn_48 (by decide) ?_
  refine lv_iload_n hx hb dX2_unsteadyIn_49 rfl (lv_at hl 3 rfl) ?_
  refine lv_ishl hx hb dX2_unsteadyIn_50 ?_
  refine lv_ior hx hb dX2_unsteadyIn_51 ?_
  refine lv_istore_n (lv' := [(2, .int (v2 ||| ((1 : Int32) <<< (v3 &&& 31)))), (0, .ref (α 1 0)), (1, .int v1), (3, .int v3)]) hx hb dX2_unsteadyIn_52 rfl hl (by decide) rfl (fun ls hl => ?_)
  exact w_X2_unsteadyIn_53 G k4 hk4 _ _ _ _ hF H locs ls hW (lv_sub hl [1, 2, 0, 3] rfl)
set_option maxHeartbeats 4000000 in
set_option maxRecDepth 100000 in
theorem w_X2_unsteadyIn_4 (G : gx p s m meth c args cX2_unsteadyIn 4 (some .int) RX2 "unsteadyIn" D dA) {r : Int32} {σz : sm_M} : ∀ (n : Nat) (v1 : Int32) (v2 : Int32) (v3 : Int32) (σ : sm_M), f_X2_unsteadyIn_4 n v1 v2 v3 σ = some (r, σz) → ∀ (H : Heap) (locs : List Loc) (ls : Array Slot), Wd D dA 0 α s.heap σ H locs → lv_has ls 4 [(0, .ref (α 1 0)), (1, .int v1), (2, .int v2), (3, .int v3)] → gW 1 p l e s m args below meth c D dA 0 α (some (.int r)) σz H locs (F0 m 4 ls []) := by
  obtain ⟨hx, hb, hr, hlk, hml, hown, hnm, hts, hK, hNw⟩ := id G
  intro n
  induction n with
  | zero => intro v1 v2 v3 σ hF; exact absurd hF (by intro h; cases h)
  | succ n ih =>
    intro v1 v2 v3 σ hF H locs ls hW hl
    rw [f_X2_unsteadyIn_4] at hF
    refine lv_iload_n hx hb dX2_unsteadyIn_4 rfl (lv_at hl 3 rfl) ?_
    refine lv_aload_n hx hb dX2_unsteadyIn_5 rfl (lv_at hl 0 rfl) ?_
    refine gg_X2_25 G hW (by decide) dX2_unsteadyIn_6 ?_
    refine lv_icmp_ge (tgt := 59) hx hb dX2_unsteadyIn_9 (by decide) (fun hc => ?_) (fun hc => ?_)
    · replace hF := o_t hc hF
      exact w_X2_unsteadyIn_59 G _ _ hF H locs ls hW (lv_sub hl [2] rfl)
    · replace hF := o_f hc hF
      refine lv_iload_n hx hb dX2_unsteadyIn_12 rfl (lv_at hl 1 rfl) ?_
      refine lv_iload_n hx hb dX2_unsteadyIn_13 rfl (lv_at hl 3 rfl) ?_
      obtain ⟨q1, hq1, hF⟩ := o_b hF
      refine kk_X2_94 G hW hq1 hl.1 ⟨Nat.le_of_ble_eq_true rfl, Nat.le_of_ble_eq_true rfl⟩ ⟨Nat.le_refl _, Nat.le_refl _⟩ (Nat.le_of_ble_eq_true rfl) dX2_unsteadyIn_14 (fun H locs hW => ?_)
      refine lv_if_eq (tgt := 53) hx hb dX2_unsteadyIn_17 (by decide) (fun hc => ?_) (fun hc => ?_)
      · replace hF := o_t hc hF
        exact w_X2_unsteadyIn_53 G (f_X2_unsteadyIn_4 n) ih _ _ _ _ hF H locs ls hW (lv_sub hl [0, 1, 2, 3] rfl)
      · replace hF := o_f hc hF
        refine lv_aload_n hx hb dX2_unsteadyIn_20 rfl (lv_at hl 0 rfl) ?_
        refine gg_X2_11 G hW (by decide) dX2_unsteadyIn_21 ?_
        refine lv_iload_n hx hb dX2_unsteadyIn_24 rfl (lv_at hl 3 rfl) ?_
        obtain ⟨x2, hx2, hF⟩ := o_b hF
        refine g_aP (φ := 7) (ψ := 4) G rfl rfl (by decide) (ety := (.object "RegionRestarts$Task")) rfl rfl (fun _ => rfl) hW (by decide) hx2 dX2_unsteadyIn_25 ?_
        refine gg_X2_53 G hW (aP_lt hx2) dX2_unsteadyIn_26 ?_
        refine lv_iconst (v := 4) hx hb dX2_unsteadyIn_29 (by decide) ?_
        refine lv_icmp_eq (tgt := 47) hx hb dX2_unsteadyIn_30 (by decide) (fun hc => ?_) (fun hc => ?_)
        · replace hF := o_t hc hF
          exact w_X2_unsteadyIn_47 G (f_X2_unsteadyIn_4 n) ih _ _ _ _ hF H locs ls hW (lv_sub hl [0, 1, 2, 3] rfl)
        · replace hF := o_f hc hF
          refine lv_aload_n hx hb dX2_unsteadyIn_33 rfl (lv_at hl 0 rfl) ?_
          refine gg_X2_11 G hW (by decide) dX2_unsteadyIn_34 ?_
          refine lv_iload_n hx hb dX2_unsteadyIn_37 rfl (lv_at hl 3 rfl) ?_
          obtain ⟨x3, hx3, hF⟩ := o_b hF
          refine g_aP (φ := 7) (ψ := 4) G rfl rfl (by decide) (ety := (.object "RegionRestarts$Task")) rfl rfl (fun _ => rfl) hW (by decide) hx3 dX2_unsteadyIn_38 ?_
          refine gg_X2_39 G hW (aP_lt hx3) dX2_unsteadyIn_39 ?_
          refine lv_iload_n hx hb dX2_unsteadyIn_42 rfl (lv_at hl 2 rfl) ?_
          refine lv_iand hx hb dX2_unsteadyIn_43 ?_
          refine lv_if_eq (tgt := 53) hx hb dX2_unsteadyIn_44 (by decide) (fun hc => ?_) (fun hc => ?_)
          · replace hF := o_t hc hF
            exact w_X2_unsteadyIn_53 G (f_X2_unsteadyIn_4 n) ih _ _ _ _ hF H locs ls hW (lv_sub hl [0, 1, 2, 3] rfl)
          · replace hF := o_f hc hF
            exact w_X2_unsteadyIn_47 G (f_X2_unsteadyIn_4 n) ih _ _ _ _ hF H locs ls hW (lv_sub hl [0, 1, 2, 3] rfl)
set_option maxHeartbeats 4000000 in
set_option maxRecDepth 100000 in
theorem w_X2_unsteadyIn_0 (G : gx p s m meth c args cX2_unsteadyIn 4 (some .int) RX2 "unsteadyIn" D dA) {r : Int32} {σz : sm_M} : ∀ (v1 : Int32) (σ : sm_M), f_X2_unsteadyIn v1 σ = some (r, σz) → ∀ (H : Heap) (locs : List Loc) (ls : Array Slot), Wd D dA 0 α s.heap σ H locs → lv_has ls 4 [(0, .ref (α 1 0)), (1, .int v1)] → gW 1 p l e s m args below meth c D dA 0 α (some (.int r)) σz H locs (F0 m 0 ls []) := by
  obtain ⟨hx, hb, hr, hlk, hml, hown, hnm, hts, hK, hNw⟩ := id G
  intro v1 σ hF H locs ls hW hl
  rw [f_X2_unsteadyIn] at hF
  refine lv_iconst (v := 0) hx hb dX2_unsteadyIn_0 (by decide) ?_
  refine lv_istore_n (lv' := [(2, .int (0 : Int32)), (0, .ref (α 1 0)), (1, .int v1)]) hx hb dX2_unsteadyIn_1 rfl hl (by decide) rfl (fun ls hl => ?_)
  refine lv_iconst (v := 0) hx hb dX2_unsteadyIn_2 (by decide) ?_
  refine lv_istore_n (lv' := [(3, .int (0 : Int32)), (2, .int (0 : Int32)), (0, .ref (α 1 0)), (1, .int v1)]) hx hb dX2_unsteadyIn_3 rfl hl (by decide) rfl (fun ls hl => ?_)
  exact w_X2_unsteadyIn_4 G 1000 _ _ _ _ hF H locs ls hW (lv_sub hl [2, 3, 1, 0] rfl)
end WX2_unsteadyIn
theorem c_X2_unsteadyIn {l : Launch} {D : va_G} {dA : Nat → ClassId} {α : Nat → Nat → Nat} (hI : Inj 0 α) {v1 : Int32} {σ σz : sm_M} {r : Int32} (hF : f_X2_unsteadyIn v1 σ = some (r, σz)) : gM l D dA 0 α yX2_unsteadyIn cX2_unsteadyIn 4 (some .int) 1 [.ref (α 1 0), .int v1] σ (some (.int r)) σz :=
  g_met hI (by decide +kernel) (Nat.le_of_ble_eq_true rfl) (fun p e s m below meth c ls G hW hl => w_X2_unsteadyIn_0 G _ _ hF _ _ _ hW hl)
section KX2_unsteadyIn
variable {p : Program} {l : Launch} {e : Env} {R : Room} {s : State} {m : MethodId} {args : Array Value} {below : List Frame} {meth : Method} {c : Code} {H : Heap} {locs : List Loc} {cells slots : Nat} {Q : State → Prop}
variable {cc : ByteArray} {pc nL Z : Nat} {ls : Array Slot} {rest : List Value} {D : va_G} {dA : Nat → ClassId} {α : Nat → Nat → Nat} {H0 : Heap} {σ σ' : sm_M} {ret : Option FieldType} {own nm : String}
theorem kk_X2_107 (G : gx p s m meth c args cc nL ret RX2 nm D dA) (hW : Wd D dA 0 α H0 σ H locs) {v1 : Int32} {q : Int32 × sm_M} (hq : f_X2_unsteadyIn v1 σ = some q) (hls : ls.size = nL) (hR : 1 + 1 ≤ R.frames ∧ 8 + (4 + 11) + 44 * 1 ≤ R.locals) (hf : cells ≤ R.cells ∧ slots ≤ R.slots) (hcat : (rest.map fun v => v.category).sum ≤ 8) (hdg : decode cc pc = .ok (.invokevirtual 107, 3)) (kk : ∀ (H1 : Heap) (locs1 : List Loc), Wd D dA 0 α H0 q.2 H1 locs1 → W p l e R s m args below meth c H1 locs1 cells slots Q (F0 m (pc + 3) ls (.int q.1 :: rest))) : W p l e R s m args below meth c H locs cells slots Q (F0 m pc ls (.int v1 :: .ref (α 1 0) :: rest)) :=
  g_cV (n := 1) G (c_X2_unsteadyIn (l := l) hW.2.2.2 hq) ⟨wm_16_9, wm_16_10, wm_16_11, wm_1_14, wm_16_12⟩ (by decide +kernel) hW (g_recv (φ := 1) (ci := 2) G.2.2.2.2.2.2.2.2.1 rfl rfl rfl (by decide) hW.1 rfl) hR hf rfl hls rfl hcat hdg kk
end KX2_unsteadyIn
section WX2_widened
variable {p : Program} {l : Launch} {e : Env} {s : State} {m : MethodId} {args : Array Value} {below : List Frame} {meth : Method} {c : Code} {D : va_G} {dA : Nat → ClassId} {α : Nat → Nat → Nat}
set_option maxHeartbeats 4000000 in
set_option maxRecDepth 100000 in
theorem w_X2_widened_140 (G : gx p s m meth c args cX2_widened 7 (some .int) RX2 "widened" D dA) {r : Int32} {σz : sm_M} : ∀ (v3 : Int32) (σ : sm_M), f_X2_widened_140 v3 σ = some (r, σz) → ∀ (H : Heap) (locs : List Loc) (ls : Array Slot), Wd D dA 0 α s.heap σ H locs → lv_has ls 7 [(3, .int v3)] → gW 2 p l e s m args below meth c D dA 0 α (some (.int r)) σz H locs (F0 m 140 ls []) := by
  obtain ⟨hx, hb, hr, hlk, hml, hown, hnm, hts, hK, hNw⟩ := id G
  intro v3 σ hF H locs ls hW hl
  rw [f_X2_widened_140] at hF
  refine lv_iload_n hx hb dX2_widened_140 rfl (lv_at hl 0 rfl) ?_
  exact g_iret G hW hF dX2_widened_141
set_option maxHeartbeats 4000000 in
set_option maxRecDepth 100000 in
theorem w_X2_widened_134 (G : gx p s m meth c args cX2_widened 7 (some .int) RX2 "widened" D dA) {r : Int32} {σz : sm_M} (k11 : Int32 → Int32 → Int32 → Int32 → sm_M → Option (Int32 × sm_M)) (hk11 : ∀ (v1 : Int32) (v2 : Int32) (v3 : Int32) (v4 : Int32) (σ : sm_M), k11 v1 v2 v3 v4 σ = some (r, σz) → ∀ (H : Heap) (locs : List Loc) (ls : Array Slot), Wd D dA 0 α s.heap σ H locs → lv_has ls 7 [(0, .ref (α 1 0)), (1, .int v1), (2, .int v2), (3, .int v3), (4, .int v4)] → gW 2 p l e s m args below meth c D dA 0 α (some (.int r)) σz H locs (F0 m 11 ls [])) : ∀ (v1 : Int32) (v2 : Int32) (v3 : Int32) (v4 : Int32) (σ : sm_M), f_X2_widened_134 k11 v1 v2 v3 v4 σ = some (r, σz) → ∀ (H : Heap) (locs : List Loc) (ls : Array Slot), Wd D dA 0 α s.heap σ H locs → lv_has ls 7 [(0, .ref (α 1 0)), (1, .int v1), (2, .int v2), (3, .int v3), (4, .int v4)] → gW 2 p l e s m args below meth c D dA 0 α (some (.int r)) σz H locs (F0 m 134 ls []) := by
  obtain ⟨hx, hb, hr, hlk, hml, hown, hnm, hts, hK, hNw⟩ := id G
  intro v1 v2 v3 v4 σ hF H locs ls hW hl
  rw [f_X2_widened_134] at hF
  refine lv_iinc (v := (v4 + 1)) (lv' := [(4, .int (v4 + 1)), (0, .ref (α 1 0)), (1, .int v1), (2, .int v2), (3, .int v3)]) hx hb dX2_widened_134 hl (k := 4) rfl rfl (by decide) rfl (fun ls hl => ?_)
  refine lv_goto (tgt := 11) hx hb dX2_widened_137 (by decide) ?_
  exact hk11 _ _ _ _ _ hF H locs ls hW (lv_sub hl [1, 2, 3, 4, 0] rfl)
set_option maxHeartbeats 4000000 in
set_option maxRecDepth 100000 in
theorem w_X2_widened_124 (G : gx p s m meth c args cX2_widened 7 (some .int) RX2 "widened" D dA) {r : Int32} {σz : sm_M} (k11 : Int32 → Int32 → Int32 → Int32 → sm_M → Option (Int32 × sm_M)) (hk11 : ∀ (v1 : Int32) (v2 : Int32) (v3 : Int32) (v4 : Int32) (σ : sm_M), k11 v1 v2 v3 v4 σ = some (r, σz) → ∀ (H : Heap) (locs : List Loc) (ls : Array Slot), Wd D dA 0 α s.heap σ H locs → lv_has ls 7 [(0, .ref (α 1 0)), (1, .int v1), (2, .int v2), (3, .int v3), (4, .int v4)] → gW 2 p l e s m args below meth c D dA 0 α (some (.int r)) σz H locs (F0 m 11 ls [])) : ∀ (v1 : Int32) (v2 : Int32) (v3 : Int32) (v4 : Int32) (a5 : Nat) (ha5 : a5 < fN 5) (σ : sm_M), f_X2_widened_124 k11 v1 v2 v3 v4 a5 σ = some (r, σz) → ∀ (H : Heap) (locs : List Loc) (ls : Array Slot), Wd D dA 0 α s.heap σ H locs → lv_has ls 7 [(0, .ref (α 1 0)), (1, .int v1), (2, .int v2), (3, .int v3), (4, .int v4), (5, .ref (α 5 a5))] → gW 2 p l e s m args below meth c D dA 0 α (some (.int r)) σz H locs (F0 m 124 ls []) := by
  obtain ⟨hx, hb, hr, hlk, hml, hown, hnm, hts, hK, hNw⟩ := id G
  intro v1 v2 v3 v4 a5 ha5 σ hF H locs ls hW hl
  rw [f_X2_widened_124] at hF
  refine lv_iload_n hx hb dX2_widened_124 rfl (lv_at hl 3 rfl) ?_
  refine lv_iconst (v := 1) hx hb dX2_widened_125 (by decide) ?_
  refine lv_aload hx hb dX2_widened_126 (lv_at hl 5 rfl) ?_
  refine gg_X2_74 G hW ha5 dX2_widened_128 ?_
  refine lv_ishl hx hb dX2_widened_131 ?_
  refine lv_ior hx hb dX2_widened_132 ?_
  refine lv_istore_n (lv' := [(3, .int (v3 ||| ((1 : Int32) <<< ((σ.1 5 a5 1) &&& 31)))), (0, .ref (α 1 0)), (1, .int v1), (2, .int v2), (4, .int v4), (5, .ref (α 5 a5))]) hx hb dX2_widened_133 rfl hl (by decide) rfl (fun ls hl => ?_)
  exact w_X2_widened_134 G k11 hk11 _ _ _ _ _ hF H locs ls hW (lv_sub hl [1, 2, 3, 0, 4] rfl)
set_option maxHeartbeats 4000000 in
set_option maxRecDepth 100000 in
theorem w_X2_widened_96 (G : gx p s m meth c args cX2_widened 7 (some .int) RX2 "widened" D dA) {r : Int32} {σz : sm_M} (k11 : Int32 → Int32 → Int32 → Int32 → sm_M → Option (Int32 × sm_M)) (hk11 : ∀ (v1 : Int32) (v2 : Int32) (v3 : Int32) (v4 : Int32) (σ : sm_M), k11 v1 v2 v3 v4 σ = some (r, σz) → ∀ (H : Heap) (locs : List Loc) (ls : Array Slot), Wd D dA 0 α s.heap σ H locs → lv_has ls 7 [(0, .ref (α 1 0)), (1, .int v1), (2, .int v2), (3, .int v3), (4, .int v4)] → gW 2 p l e s m args below meth c D dA 0 α (some (.int r)) σz H locs (F0 m 11 ls [])) : ∀ (v1 : Int32) (v2 : Int32) (v3 : Int32) (v4 : Int32) (a5 : Nat) (ha5 : a5 < fN 5) (σ : sm_M), f_X2_widened_96 k11 v1 v2 v3 v4 a5 σ = some (r, σz) → ∀ (H : Heap) (locs : List Loc) (ls : Array Slot), Wd D dA 0 α s.heap σ H locs → lv_has ls 7 [(0, .ref (α 1 0)), (1, .int v1), (2, .int v2), (3, .int v3), (4, .int v4), (5, .ref (α 5 a5))] → gW 2 p l e s m args below meth c D dA 0 α (some (.int r)) σz H locs (F0 m 96 ls []) := by
  obtain ⟨hx, hb, hr, hlk, hml, hown, hnm, hts, hK, hNw⟩ := id G
  intro v1 v2 v3 v4 a5 ha5 σ hF H locs ls hW hl
  rw [f_X2_widened_96] at hF
  refine lv_iload_n hx hb dX2_widened_96 rfl (lv_at hl 1 rfl) ?_
  refine lv_aload hx hb dX2_widened_97 (lv_at hl 5 rfl) ?_
  refine gg_X2_62 G hW ha5 dX2_widened_99 ?_
  obtain ⟨q1, hq1, hF⟩ := o_b hF
  refine kk_X2_94 G hW hq1 hl.1 ⟨Nat.le_of_ble_eq_true rfl, Nat.le_of_ble_eq_true rfl⟩ ⟨Nat.le_refl _, Nat.le_refl _⟩ (Nat.le_of_ble_eq_true rfl) dX2_widened_102 (fun H locs hW => ?_)
  refine lv_if_eq (tgt := 134) hx hb dX2_widened_105 (by decide) (fun hc => ?_) (fun hc => ?_)
  · replace hF := o_t hc hF
    exact w_X2_widened_134 G k11 hk11 _ _ _ _ _ hF H locs ls hW (lv_sub hl [0, 1, 2, 3, 4] rfl)
  · replace hF := o_f hc hF
    refine lv_aload hx hb dX2_widened_108 (lv_at hl 5 rfl) ?_
    refine gg_X2_90 G hW ha5 dX2_widened_110 ?_
    refine lv_if_eq (tgt := 124) hx hb dX2_widened_113 (by decide) (fun hc => ?_) (fun hc => ?_)
    · replace hF := o_t hc hF
      exact w_X2_widened_124 G k11 hk11 _ _ _ _ _ ha5 _ hF H locs ls hW (lv_sub hl [0, 1, 2, 3, 4, 5] rfl)
    · replace hF := o_f hc hF
      refine lv_aload hx hb dX2_widened_116 (lv_at hl 5 rfl) ?_
      refine gg_X2_117 G hW ha5 dX2_widened_118 ?_
      refine lv_if_le (tgt := 134) hx hb dX2_widened_121 (by decide) (fun hc => ?_) (fun hc => ?_)
      · replace hF := o_t hc hF
        exact w_X2_widened_134 G k11 hk11 _ _ _ _ _ hF H locs ls hW (lv_sub hl [0, 1, 2, 3, 4] rfl)
      · replace hF := o_f hc hF
        exact w_X2_widened_124 G k11 hk11 _ _ _ _ _ ha5 _ hF H locs ls hW (lv_sub hl [0, 1, 2, 3, 4, 5] rfl)
set_option maxHeartbeats 4000000 in
set_option maxRecDepth 100000 in
theorem w_X2_widened_86 (G : gx p s m meth c args cX2_widened 7 (some .int) RX2 "widened" D dA) {r : Int32} {σz : sm_M} (k11 : Int32 → Int32 → Int32 → Int32 → sm_M → Option (Int32 × sm_M)) (hk11 : ∀ (v1 : Int32) (v2 : Int32) (v3 : Int32) (v4 : Int32) (σ : sm_M), k11 v1 v2 v3 v4 σ = some (r, σz) → ∀ (H : Heap) (locs : List Loc) (ls : Array Slot), Wd D dA 0 α s.heap σ H locs → lv_has ls 7 [(0, .ref (α 1 0)), (1, .int v1), (2, .int v2), (3, .int v3), (4, .int v4)] → gW 2 p l e s m args below meth c D dA 0 α (some (.int r)) σz H locs (F0 m 11 ls [])) : ∀ (v1 : Int32) (v2 : Int32) (v3 : Int32) (v4 : Int32) (a5 : Nat) (ha5 : a5 < fN 5) (σ : sm_M), f_X2_widened_86 k11 v1 v2 v3 v4 a5 σ = some (r, σz) → ∀ (H : Heap) (locs : List Loc) (ls : Array Slot), Wd D dA 0 α s.heap σ H locs → lv_has ls 7 [(0, .ref (α 1 0)), (1, .int v1), (2, .int v2), (3, .int v3), (4, .int v4), (5, .ref (α 5 a5))] → gW 2 p l e s m args below meth c D dA 0 α (some (.int r)) σz H locs (F0 m 86 ls []) := by
  obtain ⟨hx, hb, hr, hlk, hml, hown, hnm, hts, hK, hNw⟩ := id G
  intro v1 v2 v3 v4 a5 ha5 σ hF H locs ls hW hl
  rw [f_X2_widened_86] at hF
  refine lv_iload_n hx hb dX2_widened_86 rfl (lv_at hl 3 rfl) ?_
  refine lv_iconst (v := 1) hx hb dX2_widened_87 (by decide) ?_
  refine lv_aload hx hb dX2_widened_88 (lv_at hl 5 rfl) ?_
  refine gg_X2_62 G hW ha5 dX2_widened_90 ?_
  refine lv_ishl hx hb dX2_widened_93 ?_
  refine lv_ior hx hb dX2_widened_94 ?_
  refine lv_istore_n (lv' := [(3, .int (v3 ||| ((1 : Int32) <<< ((σ.1 5 a5 2) &&& 31)))), (0, .ref (α 1 0)), (1, .int v1), (2, .int v2), (4, .int v4), (5, .ref (α 5 a5))]) hx hb dX2_widened_95 rfl hl (by decide) rfl (fun ls hl => ?_)
  exact w_X2_widened_96 G k11 hk11 _ _ _ _ _ ha5 _ hF H locs ls hW (lv_sub hl [1, 2, 3, 0, 4, 5] rfl)
set_option maxHeartbeats 4000000 in
set_option maxRecDepth 100000 in
theorem w_X2_widened_59 (G : gx p s m meth c args cX2_widened 7 (some .int) RX2 "widened" D dA) {r : Int32} {σz : sm_M} (k11 : Int32 → Int32 → Int32 → Int32 → sm_M → Option (Int32 × sm_M)) (hk11 : ∀ (v1 : Int32) (v2 : Int32) (v3 : Int32) (v4 : Int32) (σ : sm_M), k11 v1 v2 v3 v4 σ = some (r, σz) → ∀ (H : Heap) (locs : List Loc) (ls : Array Slot), Wd D dA 0 α s.heap σ H locs → lv_has ls 7 [(0, .ref (α 1 0)), (1, .int v1), (2, .int v2), (3, .int v3), (4, .int v4)] → gW 2 p l e s m args below meth c D dA 0 α (some (.int r)) σz H locs (F0 m 11 ls [])) : ∀ (v1 : Int32) (v2 : Int32) (v3 : Int32) (v4 : Int32) (a5 : Nat) (ha5 : a5 < fN 5) (s0 : Int32) (σ : sm_M), f_X2_widened_59 k11 v1 v2 v3 v4 a5 s0 σ = some (r, σz) → ∀ (H : Heap) (locs : List Loc) (ls : Array Slot), Wd D dA 0 α s.heap σ H locs → lv_has ls 7 [(0, .ref (α 1 0)), (1, .int v1), (2, .int v2), (3, .int v3), (4, .int v4), (5, .ref (α 5 a5))] → gW 2 p l e s m args below meth c D dA 0 α (some (.int r)) σz H locs (F0 m 59 ls [.int s0]) := by
  obtain ⟨hx, hb, hr, hlk, hml, hown, hnm, hts, hK, hNw⟩ := id G
  intro v1 v2 v3 v4 a5 ha5 s0 σ hF H locs ls hW hl
  rw [f_X2_widened_59] at hF
  refine lv_istore (lv' := [(6, .int s0), (0, .ref (α 1 0)), (1, .int v1), (2, .int v2), (3, .int v3), (4, .int v4), (5, .ref (α 5 a5))]) hx hb dX2_widened_59 hl (by decide) rfl (fun ls hl => ?_)
  refine lv_iload_n hx hb dX2_widened_61 rfl (lv_at hl 2 rfl) ?_
  refine lv_aload hx hb dX2_widened_62 (lv_at hl 6 rfl) ?_
  refine gg_X2_74 G hW ha5 dX2_widened_64 ?_
  obtain ⟨q1, hq1, hF⟩ := o_b hF
  refine kk_X2_94 G hW hq1 hl.1 ⟨Nat.le_of_ble_eq_true rfl, Nat.le_of_ble_eq_true rfl⟩ ⟨Nat.le_refl _, Nat.le_refl _⟩ (Nat.le_of_ble_eq_true rfl) dX2_widened_67 (fun H locs hW => ?_)
  refine lv_if_eq (tgt := 96) hx hb dX2_widened_70 (by decide) (fun hc => ?_) (fun hc => ?_)
  · replace hF := o_t hc hF
    exact w_X2_widened_96 G k11 hk11 _ _ _ _ _ ha5 _ hF H locs ls hW (lv_sub hl [1, 2, 3, 4, 5, 6] rfl)
  · replace hF := o_f hc hF
    refine lv_aload hx hb dX2_widened_73 (lv_at hl 6 rfl) ?_
    refine gg_X2_90 G hW ha5 dX2_widened_75 ?_
    refine lv_if_eq (tgt := 86) hx hb dX2_widened_78 (by decide) (fun hc => ?_) (fun hc => ?_)
    · replace hF := o_t hc hF
      exact w_X2_widened_86 G k11 hk11 _ _ _ _ _ ha5 _ hF H locs ls hW (lv_sub hl [1, 2, 3, 4, 5, 6] rfl)
    · replace hF := o_f hc hF
      refine lv_iload hx hb dX2_widened_81 (lv_at hl 0 rfl) ?_
      refine lv_if_eq (tgt := 96) hx hb dX2_widened_83 (by decide) (fun hc => ?_) (fun hc => ?_)
      · replace hF := o_t hc hF
        exact w_X2_widened_96 G k11 hk11 _ _ _ _ _ ha5 _ hF H locs ls hW (lv_sub hl [1, 2, 3, 4, 5, 6] rfl)
      · replace hF := o_f hc hF
        exact w_X2_widened_86 G k11 hk11 _ _ _ _ _ ha5 _ hF H locs ls hW (lv_sub hl [1, 2, 3, 4, 5, 6] rfl)
set_option maxHeartbeats 4000000 in
set_option maxRecDepth 100000 in
theorem w_X2_widened_58 (G : gx p s m meth c args cX2_widened 7 (some .int) RX2 "widened" D dA) {r : Int32} {σz : sm_M} (k11 : Int32 → Int32 → Int32 → Int32 → sm_M → Option (Int32 × sm_M)) (hk11 : ∀ (v1 : Int32) (v2 : Int32) (v3 : Int32) (v4 : Int32) (σ : sm_M), k11 v1 v2 v3 v4 σ = some (r, σz) → ∀ (H : Heap) (locs : List Loc) (ls : Array Slot), Wd D dA 0 α s.heap σ H locs → lv_has ls 7 [(0, .ref (α 1 0)), (1, .int v1), (2, .int v2), (3, .int v3), (4, .int v4)] → gW 2 p l e s m args below meth c D dA 0 α (some (.int r)) σz H locs (F0 m 11 ls [])) : ∀ (v1 : Int32) (v2 : Int32) (v3 : Int32) (v4 : Int32) (a5 : Nat) (ha5 : a5 < fN 5) (σ : sm_M), f_X2_widened_58 k11 v1 v2 v3 v4 a5 σ = some (r, σz) → ∀ (H : Heap) (locs : List Loc) (ls : Array Slot), Wd D dA 0 α s.heap σ H locs → lv_has ls 7 [(0, .ref (α 1 0)), (1, .int v1), (2, .int v2), (3, .int v3), (4, .int v4), (5, .ref (α 5 a5))] → gW 2 p l e s m args below meth c D dA 0 α (some (.int r)) σz H locs (F0 m 58 ls []) := by
  obtain ⟨hx, hb, hr, hlk, hml, hown, hnm, hts, hK, hNw⟩ := id G
  intro v1 v2 v3 v4 a5 ha5 σ hF H locs ls hW hl
  rw [f_X2_widened_58] at hF
  refine lv_iconst (v := 0) hx hb dX2_widened_58 (by decide) ?_
  exact w_X2_widened_59 G k11 hk11 _ _ _ _ _ ha5 _ _ hF H locs ls hW (lv_sub hl [0, 1, 2, 3, 4, 5] rfl)
set_option maxHeartbeats 4000000 in
set_option maxRecDepth 100000 in
theorem w_X2_widened_11 (G : gx p s m meth c args cX2_widened 7 (some .int) RX2 "widened" D dA) {r : Int32} {σz : sm_M} : ∀ (n : Nat) (v1 : Int32) (v2 : Int32) (v3 : Int32) (v4 : Int32) (σ : sm_M), f_X2_widened_11 n v1 v2 v3 v4 σ = some (r, σz) → ∀ (H : Heap) (locs : List Loc) (ls : Array Slot), Wd D dA 0 α s.heap σ H locs → lv_has ls 7 [(0, .ref (α 1 0)), (1, .int v1), (2, .int v2), (3, .int v3), (4, .int v4)] → gW 2 p l e s m args below meth c D dA 0 α (some (.int r)) σz H locs (F0 m 11 ls []) := by
  obtain ⟨hx, hb, hr, hlk, hml, hown, hnm, hts, hK, hNw⟩ := id G
  intro n
  induction n with
  | zero => intro v1 v2 v3 v4 σ hF; exact absurd hF (by intro h; cases h)
  | succ n ih =>
    intro v1 v2 v3 v4 σ hF H locs ls hW hl
    rw [f_X2_widened_11] at hF
    refine lv_iload hx hb dX2_widened_11 (lv_at hl 4 rfl) ?_
    refine lv_aload_n hx hb dX2_widened_13 rfl (lv_at hl 0 rfl) ?_
    refine gg_X2_29 G hW (by decide) dX2_widened_14 ?_
    refine lv_icmp_ge (tgt := 140) hx hb dX2_widened_17 (by decide) (fun hc => ?_) (fun hc => ?_)
    · replace hF := o_t hc hF
      exact w_X2_widened_140 G _ _ hF H locs ls hW (lv_sub hl [3] rfl)
    · replace hF := o_f hc hF
      refine lv_aload_n hx hb dX2_widened_20 rfl (lv_at hl 0 rfl) ?_
      refine gg_X2_19 G hW (by decide) dX2_widened_21 ?_
      refine lv_iload hx hb dX2_widened_24 (lv_at hl 4 rfl) ?_
      obtain ⟨x1, hx1, hF⟩ := o_b hF
      refine g_aP (φ := 8) (ψ := 5) G rfl rfl (by decide) (ety := (.object "RegionRestarts$Channel")) rfl rfl (fun _ => rfl) hW (by decide) hx1 dX2_widened_26 ?_
      refine lv_astore (lv' := [(5, .ref (α 5 x1)), (0, .ref (α 1 0)), (1, .int v1), (2, .int v2), (3, .int v3), (4, .int v4)]) hx hb dX2_widened_27 hl (by decide) rfl (fun ls hl => ?_)
      refine lv_iload_n hx hb dX2_widened_29 rfl (lv_at hl 3 rfl) ?_
      refine lv_aload hx hb dX2_widened_30 (lv_at hl 0 rfl) ?_
      refine gg_X2_74 G hW (aP_lt hx1) dX2_widened_32 ?_
      obtain ⟨q2, hq2, hF⟩ := o_b hF
      refine kk_X2_94 G hW hq2 hl.1 ⟨Nat.le_of_ble_eq_true rfl, Nat.le_of_ble_eq_true rfl⟩ ⟨Nat.le_refl _, Nat.le_refl _⟩ (Nat.le_of_ble_eq_true rfl) dX2_widened_35 (fun H locs hW => ?_)
      refine lv_if_eq (tgt := 58) hx hb dX2_widened_38 (by decide) (fun hc => ?_) (fun hc => ?_)
      · replace hF := o_t hc hF
        exact w_X2_widened_58 G (f_X2_widened_11 n) ih _ _ _ _ _ (aP_lt hx1) _ hF H locs ls hW (lv_sub hl [1, 2, 3, 4, 5, 0] rfl)
      · replace hF := o_f hc hF
        refine lv_aload hx hb dX2_widened_41 (lv_at hl 0 rfl) ?_
        refine gg_X2_110 G hW (aP_lt hx1) dX2_widened_43 ?_
        refine lv_aload hx hb dX2_widened_46 (lv_at hl 0 rfl) ?_
        obtain ⟨q3, hq3, hF⟩ := o_b hF
        refine kk_X2_113 G hW (aP_lt hx1) hq3 hl.1 ⟨Nat.le_of_ble_eq_true rfl, Nat.le_of_ble_eq_true rfl⟩ ⟨Nat.le_refl _, Nat.le_refl _⟩ (Nat.le_of_ble_eq_true rfl) dX2_widened_48 (fun H locs hW => ?_)
        refine lv_icmp_le (tgt := 58) hx hb dX2_widened_51 (by decide) (fun hc => ?_) (fun hc => ?_)
        · replace hF := o_t hc hF
          exact w_X2_widened_58 G (f_X2_widened_11 n) ih _ _ _ _ _ (aP_lt hx1) _ hF H locs ls hW (lv_sub hl [1, 2, 3, 4, 5, 0] rfl)
        · replace hF := o_f hc hF
          refine lv_iconst (v := 1) hx hb dX2_widened_54 (by decide) ?_
          refine lv_goto (tgt := 59) hx hb dX2_widened_55 (by decide) ?_
          exact w_X2_widened_59 G (f_X2_widened_11 n) ih _ _ _ _ _ (aP_lt hx1) _ _ hF H locs ls hW (lv_sub hl [1, 2, 3, 4, 5, 0] rfl)
set_option maxHeartbeats 4000000 in
set_option maxRecDepth 100000 in
theorem w_X2_widened_0 (G : gx p s m meth c args cX2_widened 7 (some .int) RX2 "widened" D dA) {r : Int32} {σz : sm_M} : ∀ (v1 : Int32) (σ : sm_M), f_X2_widened v1 σ = some (r, σz) → ∀ (H : Heap) (locs : List Loc) (ls : Array Slot), Wd D dA 0 α s.heap σ H locs → lv_has ls 7 [(0, .ref (α 1 0)), (1, .int v1)] → gW 2 p l e s m args below meth c D dA 0 α (some (.int r)) σz H locs (F0 m 0 ls []) := by
  obtain ⟨hx, hb, hr, hlk, hml, hown, hnm, hts, hK, hNw⟩ := id G
  intro v1 σ hF H locs ls hW hl
  rw [f_X2_widened] at hF
  refine lv_aload_n hx hb dX2_widened_0 rfl (lv_at hl 0 rfl) ?_
  refine lv_iload_n hx hb dX2_widened_1 rfl (lv_at hl 1 rfl) ?_
  obtain ⟨q1, hq1, hF⟩ := o_b hF
  refine kk_X2_107 G hW hq1 hl.1 ⟨Nat.le_of_ble_eq_true rfl, Nat.le_of_ble_eq_true rfl⟩ ⟨Nat.le_refl _, Nat.le_refl _⟩ (Nat.le_of_ble_eq_true rfl) dX2_widened_2 (fun H locs hW => ?_)
  refine lv_istore_n (lv' := [(2, .int q1.1), (0, .ref (α 1 0)), (1, .int v1)]) hx hb dX2_widened_5 rfl hl (by decide) rfl (fun ls hl => ?_)
  refine lv_iload_n hx hb dX2_widened_6 rfl (lv_at hl 2 rfl) ?_
  refine lv_istore_n (lv' := [(3, .int v1), (2, .int q1.1), (0, .ref (α 1 0)), (1, .int v1)]) hx hb dX2_widened_7 rfl hl (by decide) rfl (fun ls hl => ?_)
  refine lv_iconst (v := 0) hx hb dX2_widened_8 (by decide) ?_
  refine lv_istore (lv' := [(4, .int (0 : Int32)), (3, .int v1), (2, .int q1.1), (0, .ref (α 1 0)), (1, .int v1)]) hx hb dX2_widened_9 hl (by decide) rfl (fun ls hl => ?_)
  exact w_X2_widened_11 G 1000 _ _ _ _ _ hF H locs ls hW (lv_sub hl [3, 4, 2, 1, 0] rfl)
end WX2_widened
theorem c_X2_widened {l : Launch} {D : va_G} {dA : Nat → ClassId} {α : Nat → Nat → Nat} (hI : Inj 0 α) {v1 : Int32} {σ σz : sm_M} {r : Int32} (hF : f_X2_widened v1 σ = some (r, σz)) : gM l D dA 0 α yX2_widened cX2_widened 7 (some .int) 2 [.ref (α 1 0), .int v1] σ (some (.int r)) σz :=
  g_met hI (by decide +kernel) (Nat.le_of_ble_eq_true rfl) (fun p e s m below meth c ls G hW hl => w_X2_widened_0 G _ _ hF _ _ _ hW hl)
section KX2_widened
variable {p : Program} {l : Launch} {e : Env} {R : Room} {s : State} {m : MethodId} {args : Array Value} {below : List Frame} {meth : Method} {c : Code} {H : Heap} {locs : List Loc} {cells slots : Nat} {Q : State → Prop}
variable {cc : ByteArray} {pc nL Z : Nat} {ls : Array Slot} {rest : List Value} {D : va_G} {dA : Nat → ClassId} {α : Nat → Nat → Nat} {H0 : Heap} {σ σ' : sm_M} {ret : Option FieldType} {own nm : String}
theorem kk_X2_104 (G : gx p s m meth c args cc nL ret RX2 nm D dA) (hW : Wd D dA 0 α H0 σ H locs) {v1 : Int32} {q : Int32 × sm_M} (hq : f_X2_widened v1 σ = some q) (hls : ls.size = nL) (hR : 2 + 1 ≤ R.frames ∧ 8 + (7 + 11) + 44 * 2 ≤ R.locals) (hf : cells ≤ R.cells ∧ slots ≤ R.slots) (hcat : (rest.map fun v => v.category).sum ≤ 8) (hdg : decode cc pc = .ok (.invokevirtual 104, 3)) (kk : ∀ (H1 : Heap) (locs1 : List Loc), Wd D dA 0 α H0 q.2 H1 locs1 → W p l e R s m args below meth c H1 locs1 cells slots Q (F0 m (pc + 3) ls (.int q.1 :: rest))) : W p l e R s m args below meth c H locs cells slots Q (F0 m pc ls (.int v1 :: .ref (α 1 0) :: rest)) :=
  g_cV (n := 1) G (c_X2_widened (l := l) hW.2.2.2 hq) ⟨wm_16_2, wm_16_3, wm_16_4, wm_1_14, wm_16_5⟩ (by decide +kernel) hW (g_recv (φ := 1) (ci := 2) G.2.2.2.2.2.2.2.2.1 rfl rfl rfl (by decide) hW.1 rfl) hR hf rfl hls rfl hcat hdg kk
end KX2_widened
section WX2_regionOf
variable {p : Program} {l : Launch} {e : Env} {s : State} {m : MethodId} {args : Array Value} {below : List Frame} {meth : Method} {c : Code} {D : va_G} {dA : Nat → ClassId} {α : Nat → Nat → Nat}
set_option maxHeartbeats 4000000 in
set_option maxRecDepth 100000 in
theorem w_X2_regionOf_34 (G : gx p s m meth c args cX2_regionOf 5 (some .int) RX2 "regionOf" D dA) {r : Int32} {σz : sm_M} : ∀ (v2 : Int32) (σ : sm_M), f_X2_regionOf_34 v2 σ = some (r, σz) → ∀ (H : Heap) (locs : List Loc) (ls : Array Slot), Wd D dA 0 α s.heap σ H locs → lv_has ls 5 [(2, .int v2)] → gW 3 p l e s m args below meth c D dA 0 α (some (.int r)) σz H locs (F0 m 34 ls []) := by
  obtain ⟨hx, hb, hr, hlk, hml, hown, hnm, hts, hK, hNw⟩ := id G
  intro v2 σ hF H locs ls hW hl
  rw [f_X2_regionOf_34] at hF
  refine lv_iload_n hx hb dX2_regionOf_34 rfl (lv_at hl 0 rfl) ?_
  exact g_iret G hW hF dX2_regionOf_35
set_option maxHeartbeats 4000000 in
set_option maxRecDepth 100000 in
theorem w_X2_regionOf_23 (G : gx p s m meth c args cX2_regionOf 5 (some .int) RX2 "regionOf" D dA) {r : Int32} {σz : sm_M} : ∀ (v2 : Int32) (σ : sm_M), f_X2_regionOf_23 v2 σ = some (r, σz) → ∀ (H : Heap) (locs : List Loc) (ls : Array Slot), Wd D dA 0 α s.heap σ H locs → lv_has ls 5 [(2, .int v2)] → gW 3 p l e s m args below meth c D dA 0 α (some (.int r)) σz H locs (F0 m 23 ls []) := by
  obtain ⟨hx, hb, hr, hlk, hml, hown, hnm, hts, hK, hNw⟩ := id G
  intro v2 σ hF H locs ls hW hl
  rw [f_X2_regionOf_23] at hF
  refine lv_iload_n hx hb dX2_regionOf_23 rfl (lv_at hl 0 rfl) ?_
  exact g_iret G hW hF dX2_regionOf_24
set_option maxHeartbeats 4000000 in
set_option maxRecDepth 100000 in
theorem w_X2_regionOf_4 (G : gx p s m meth c args cX2_regionOf 5 (some .int) RX2 "regionOf" D dA) {r : Int32} {σz : sm_M} : ∀ (n : Nat) (v2 : Int32) (v3 : Int32) (σ : sm_M), f_X2_regionOf_4 n v2 v3 σ = some (r, σz) → ∀ (H : Heap) (locs : List Loc) (ls : Array Slot), Wd D dA 0 α s.heap σ H locs → lv_has ls 5 [(0, .ref (α 1 0)), (2, .int v2), (3, .int v3)] → gW 3 p l e s m args below meth c D dA 0 α (some (.int r)) σz H locs (F0 m 4 ls []) := by
  obtain ⟨hx, hb, hr, hlk, hml, hown, hnm, hts, hK, hNw⟩ := id G
  intro n
  induction n with
  | zero => intro v2 v3 σ hF; exact absurd hF (by intro h; cases h)
  | succ n ih =>
    intro v2 v3 σ hF H locs ls hW hl
    rw [f_X2_regionOf_4] at hF
    refine lv_iload_n hx hb dX2_regionOf_4 rfl (lv_at hl 2 rfl) ?_
    refine lv_bipush (v := 16) hx hb dX2_regionOf_5 (by decide) ?_
    refine lv_icmp_ge (tgt := 34) hx hb dX2_regionOf_7 (by decide) (fun hc => ?_) (fun hc => ?_)
    · replace hF := o_t hc hF
      exact w_X2_regionOf_34 G _ _ hF H locs ls hW (lv_sub hl [1] rfl)
    · replace hF := o_f hc hF
      refine lv_aload_n hx hb dX2_regionOf_10 rfl (lv_at hl 0 rfl) ?_
      refine lv_iload_n hx hb dX2_regionOf_11 rfl (lv_at hl 1 rfl) ?_
      obtain ⟨q1, hq1, hF⟩ := o_b hF
      refine kk_X2_104 G hW hq1 hl.1 ⟨Nat.le_of_ble_eq_true rfl, Nat.le_of_ble_eq_true rfl⟩ ⟨Nat.le_refl _, Nat.le_refl _⟩ (Nat.le_of_ble_eq_true rfl) dX2_regionOf_12 (fun H locs hW => ?_)
      refine lv_istore (lv' := [(4, .int q1.1), (0, .ref (α 1 0)), (2, .int v2), (3, .int v3)]) hx hb dX2_regionOf_15 hl (by decide) rfl (fun ls hl => ?_)
      refine lv_iload hx hb dX2_regionOf_17 (lv_at hl 0 rfl) ?_
      refine lv_iload_n hx hb dX2_regionOf_19 rfl (lv_at hl 2 rfl) ?_
      refine lv_icmp_ne (tgt := 25) hx hb dX2_regionOf_20 (by decide) (fun hc => ?_) (fun hc => ?_)
      · replace hF := o_f hc hF
        refine lv_iload hx hb dX2_regionOf_25 (lv_at hl 0 rfl) ?_
        refine lv_istore_n (lv' := [(2, .int q1.1), (4, .int q1.1), (0, .ref (α 1 0)), (3, .int v3)]) hx hb dX2_regionOf_27 rfl hl (by decide) rfl (fun ls hl => ?_)
        refine lv_iinc (v := (v3 + 1)) (lv' := [(3, .int (v3 + 1)), (2, .int q1.1), (4, .int q1.1), (0, .ref (α 1 0))]) hx hb dX2_regionOf_28 hl (k := 3) rfl rfl (by decide) rfl (fun ls hl => ?_)
        refine lv_goto (tgt := 4) hx hb dX2_regionOf_31 (by decide) ?_
        exact ih _ _ _ hF H locs ls hW (lv_sub hl [3, 1, 0] rfl)
      · replace hF := o_t hc hF
        exact w_X2_regionOf_23 G _ _ hF H locs ls hW (lv_sub hl [2] rfl)
set_option maxHeartbeats 4000000 in
set_option maxRecDepth 100000 in
theorem w_X2_regionOf_0 (G : gx p s m meth c args cX2_regionOf 5 (some .int) RX2 "regionOf" D dA) {r : Int32} {σz : sm_M} : ∀ (v1 : Int32) (σ : sm_M), f_X2_regionOf v1 σ = some (r, σz) → ∀ (H : Heap) (locs : List Loc) (ls : Array Slot), Wd D dA 0 α s.heap σ H locs → lv_has ls 5 [(0, .ref (α 1 0)), (1, .int v1)] → gW 3 p l e s m args below meth c D dA 0 α (some (.int r)) σz H locs (F0 m 0 ls []) := by
  obtain ⟨hx, hb, hr, hlk, hml, hown, hnm, hts, hK, hNw⟩ := id G
  intro v1 σ hF H locs ls hW hl
  rw [f_X2_regionOf] at hF
  refine lv_iload_n hx hb dX2_regionOf_0 rfl (lv_at hl 1 rfl) ?_
  refine lv_istore_n (lv' := [(2, .int v1), (0, .ref (α 1 0)), (1, .int v1)]) hx hb dX2_regionOf_1 rfl hl (by decide) rfl (fun ls hl => ?_)
  refine lv_iconst (v := 0) hx hb dX2_regionOf_2 (by decide) ?_
  refine lv_istore_n (lv' := [(3, .int (0 : Int32)), (2, .int v1), (0, .ref (α 1 0)), (1, .int v1)]) hx hb dX2_regionOf_3 rfl hl (by decide) rfl (fun ls hl => ?_)
  exact w_X2_regionOf_4 G 1000 _ _ _ hF H locs ls hW (lv_sub hl [2, 1, 0] rfl)
end WX2_regionOf
theorem c_X2_regionOf {l : Launch} {D : va_G} {dA : Nat → ClassId} {α : Nat → Nat → Nat} (hI : Inj 0 α) {v1 : Int32} {σ σz : sm_M} {r : Int32} (hF : f_X2_regionOf v1 σ = some (r, σz)) : gM l D dA 0 α yX2_regionOf cX2_regionOf 5 (some .int) 3 [.ref (α 1 0), .int v1] σ (some (.int r)) σz :=
  g_met hI (by decide +kernel) (Nat.le_of_ble_eq_true rfl) (fun p e s m below meth c ls G hW hl => w_X2_regionOf_0 G _ _ hF _ _ _ hW hl)
section KX2_regionOf
variable {p : Program} {l : Launch} {e : Env} {R : Room} {s : State} {m : MethodId} {args : Array Value} {below : List Frame} {meth : Method} {c : Code} {H : Heap} {locs : List Loc} {cells slots : Nat} {Q : State → Prop}
variable {cc : ByteArray} {pc nL Z : Nat} {ls : Array Slot} {rest : List Value} {D : va_G} {dA : Nat → ClassId} {α : Nat → Nat → Nat} {H0 : Heap} {σ σ' : sm_M} {ret : Option FieldType} {own nm : String}
theorem kk_X5_181 (G : gx p s m meth c args cc nL ret RX5 nm D dA) (hW : Wd D dA 0 α H0 σ H locs) {v1 : Int32} {q : Int32 × sm_M} (hq : f_X2_regionOf v1 σ = some q) (hls : ls.size = nL) (hR : 3 + 1 ≤ R.frames ∧ 8 + (5 + 11) + 44 * 3 ≤ R.locals) (hf : cells ≤ R.cells ∧ slots ≤ R.slots) (hcat : (rest.map fun v => v.category).sum ≤ 8) (hdg : decode cc pc = .ok (.invokevirtual 181, 3)) (kk : ∀ (H1 : Heap) (locs1 : List Loc), Wd D dA 0 α H0 q.2 H1 locs1 → W p l e R s m args below meth c H1 locs1 cells slots Q (F0 m (pc + 3) ls (.int q.1 :: rest))) : W p l e R s m args below meth c H locs cells slots Q (F0 m pc ls (.int v1 :: .ref (α 1 0) :: rest)) :=
  g_cV (n := 1) G (c_X2_regionOf (l := l) hW.2.2.2 hq) ⟨wm_15_22, wm_15_23, wm_16_0, wm_1_14, wm_16_1⟩ (by decide +kernel) hW (g_recv (φ := 1) (ci := 2) G.2.2.2.2.2.2.2.2.1 rfl rfl rfl (by decide) hW.1 rfl) hR hf rfl hls rfl hcat hdg kk
end KX2_regionOf
section WX4_rewind
variable {p : Program} {l : Launch} {e : Env} {s : State} {m : MethodId} {args : Array Value} {below : List Frame} {meth : Method} {c : Code} {D : va_G} {dA : Nat → ClassId} {α : Nat → Nat → Nat}
set_option maxHeartbeats 4000000 in
set_option maxRecDepth 100000 in
theorem w_X4_rewind_0 (G : gx p s m meth c args cX4_rewind 2 none RX4 "rewind" D dA) {σz : sm_M} : ∀ (a0 : Nat) (ha0 : a0 < fN 4) (v1 : Int32) (σ : sm_M), f_X4_rewind a0 v1 σ = some σz → ∀ (H : Heap) (locs : List Loc) (ls : Array Slot), Wd D dA 0 α s.heap σ H locs → lv_has ls 2 [(0, .ref (α 4 a0)), (1, .int v1)] → gW 1 p l e s m args below meth c D dA 0 α none σz H locs (F0 m 0 ls []) := by
  obtain ⟨hx, hb, hr, hlk, hml, hown, hnm, hts, hK, hNw⟩ := id G
  intro a0 ha0 v1 σ hF H locs ls hW hl
  rw [f_X4_rewind] at hF
  refine lv_aload_n hx hb dX4_rewind_0 rfl (lv_at hl 0 rfl) ?_
  refine lv_aload_n hx hb dX4_rewind_1 rfl (lv_at hl 0 rfl) ?_
  refine gg_X4_58 G hW ha0 dX4_rewind_2 ?_
  obtain ⟨σ1, hσ1, hF⟩ := o_b hF
  refine pp_X4_46 G hW ha0 hσ1 dX4_rewind_5 (fun H locs hW => ?_)
  refine lv_aload_n hx hb dX4_rewind_8 rfl (lv_at hl 0 rfl) ?_
  refine lv_aload_n hx hb dX4_rewind_9 rfl (lv_at hl 0 rfl) ?_
  refine gg_X4_61 G hW ha0 dX4_rewind_10 ?_
  obtain ⟨σ2, hσ2, hF⟩ := o_b hF
  refine pp_X4_49 G hW ha0 hσ2 dX4_rewind_13 (fun H locs hW => ?_)
  refine lv_aload_n hx hb dX4_rewind_16 rfl (lv_at hl 0 rfl) ?_
  refine lv_aload_n hx hb dX4_rewind_17 rfl (lv_at hl 0 rfl) ?_
  refine gg_X4_64 G hW ha0 dX4_rewind_18 ?_
  obtain ⟨σ3, hσ3, hF⟩ := o_b hF
  refine pp_X4_52 G hW ha0 hσ3 dX4_rewind_21 (fun H locs hW => ?_)
  refine lv_aload_n hx hb dX4_rewind_24 rfl (lv_at hl 0 rfl) ?_
  refine lv_aload_n hx hb dX4_rewind_25 rfl (lv_at hl 0 rfl) ?_
  refine gg_X4_40 G hW ha0 dX4_rewind_26 ?_
  refine lv_iload_n hx hb dX4_rewind_29 rfl (lv_at hl 1 rfl) ?_
  refine g_max G hl.1 mm_X4_67 (Nat.le_of_ble_eq_true rfl) (Nat.le_of_ble_eq_true rfl) (Nat.le_refl _) (Nat.le_refl _) dX4_rewind_30 ?_
  obtain ⟨σ4, hσ4, hF⟩ := o_b hF
  refine pp_X4_40 G hW ha0 hσ4 dX4_rewind_33 (fun H locs hW => ?_)
  exact g_vret G hW hF dX4_rewind_36
end WX4_rewind
theorem c_X4_rewind {l : Launch} {D : va_G} {dA : Nat → ClassId} {α : Nat → Nat → Nat} (hI : Inj 0 α) {a0 : Nat} (ha0 : a0 < fN 4) {v1 : Int32} {σ σz : sm_M} (hF : f_X4_rewind a0 v1 σ = some σz) : gM l D dA 0 α yX4_rewind cX4_rewind 2 none 1 [.ref (α 4 a0), .int v1] σ none σz :=
  g_met hI (by decide +kernel) (Nat.le_of_ble_eq_true rfl) (fun p e s m below meth c ls G hW hl => w_X4_rewind_0 G _ ha0 _ _ hF _ _ _ hW hl)
section KX4_rewind
variable {p : Program} {l : Launch} {e : Env} {R : Room} {s : State} {m : MethodId} {args : Array Value} {below : List Frame} {meth : Method} {c : Code} {H : Heap} {locs : List Loc} {cells slots : Nat} {Q : State → Prop}
variable {cc : ByteArray} {pc nL Z : Nat} {ls : Array Slot} {rest : List Value} {D : va_G} {dA : Nat → ClassId} {α : Nat → Nat → Nat} {H0 : Heap} {σ σ' : sm_M} {ret : Option FieldType} {own nm : String}
theorem kk_X2_120 (G : gx p s m meth c args cc nL ret RX2 nm D dA) (hW : Wd D dA 0 α H0 σ H locs) {a0 : Nat} (ha0 : a0 < fN 4) {v1 : Int32} {q : sm_M} (hq : f_X4_rewind a0 v1 σ = some q) (hls : ls.size = nL) (hR : 1 + 1 ≤ R.frames ∧ 8 + (2 + 11) + 44 * 1 ≤ R.locals) (hf : cells ≤ R.cells ∧ slots ≤ R.slots) (hcat : (rest.map fun v => v.category).sum ≤ 8) (hdg : decode cc pc = .ok (.invokevirtual 120, 3)) (kk : ∀ (H1 : Heap) (locs1 : List Loc), Wd D dA 0 α H0 q H1 locs1 → W p l e R s m args below meth c H1 locs1 cells slots Q (F0 m (pc + 3) ls rest)) : W p l e R s m args below meth c H locs cells slots Q (F0 m pc ls (.int v1 :: .ref (α 4 a0) :: rest)) :=
  g_cV (n := 1) G (c_X4_rewind (l := l) hW.2.2.2 ha0 hq) ⟨wm_17_2, wm_17_3, wm_17_4, wm_2_11, wm_17_5⟩ (by decide +kernel) hW (g_recv (φ := 4) (ci := 4) G.2.2.2.2.2.2.2.2.1 rfl rfl rfl ha0 hW.1 rfl) hR hf rfl hls rfl hcat hdg kk
end KX4_rewind
section WX2_rewind
variable {p : Program} {l : Launch} {e : Env} {s : State} {m : MethodId} {args : Array Value} {below : List Frame} {meth : Method} {c : Code} {D : va_G} {dA : Nat → ClassId} {α : Nat → Nat → Nat}
set_option maxHeartbeats 4000000 in
set_option maxRecDepth 100000 in
theorem w_X2_rewind_108 (G : gx p s m meth c args cX2_rewind 6 none RX2 "rewind" D dA) {σz : sm_M} (k47 : Int32 → Int32 → Int32 → sm_M → Option (sm_M)) (hk47 : ∀ (v1 : Int32) (v3 : Int32) (v4 : Int32) (σ : sm_M), k47 v1 v3 v4 σ = some σz → ∀ (H : Heap) (locs : List Loc) (ls : Array Slot), Wd D dA 0 α s.heap σ H locs → lv_has ls 6 [(0, .ref (α 1 0)), (1, .int v1), (3, .int v3), (4, .int v4)] → gW 3 p l e s m args below meth c D dA 0 α none σz H locs (F0 m 47 ls [])) : ∀ (v1 : Int32) (v3 : Int32) (v4 : Int32) (σ : sm_M), f_X2_rewind_108 k47 v1 v3 v4 σ = some σz → ∀ (H : Heap) (locs : List Loc) (ls : Array Slot), Wd D dA 0 α s.heap σ H locs → lv_has ls 6 [(0, .ref (α 1 0)), (1, .int v1), (3, .int v3), (4, .int v4)] → gW 3 p l e s m args below meth c D dA 0 α none σz H locs (F0 m 108 ls []) := by
  obtain ⟨hx, hb, hr, hlk, hml, hown, hnm, hts, hK, hNw⟩ := id G
  intro v1 v3 v4 σ hF H locs ls hW hl
  rw [f_X2_rewind_108] at hF
  refine lv_iinc (v := (v4 + 1)) (lv' := [(4, .int (v4 + 1)), (0, .ref (α 1 0)), (1, .int v1), (3, .int v3)]) hx hb dX2_rewind_108 hl (k := 3) rfl rfl (by decide) rfl (fun ls hl => ?_)
  refine lv_goto (tgt := 47) hx hb dX2_rewind_111 (by decide) ?_
  exact hk47 _ _ _ _ hF H locs ls hW (lv_sub hl [1, 2, 3, 0] rfl)
set_option maxHeartbeats 4000000 in
set_option maxRecDepth 100000 in
theorem w_X2_rewind_82 (G : gx p s m meth c args cX2_rewind 6 none RX2 "rewind" D dA) {σz : sm_M} (k47 : Int32 → Int32 → Int32 → sm_M → Option (sm_M)) (hk47 : ∀ (v1 : Int32) (v3 : Int32) (v4 : Int32) (σ : sm_M), k47 v1 v3 v4 σ = some σz → ∀ (H : Heap) (locs : List Loc) (ls : Array Slot), Wd D dA 0 α s.heap σ H locs → lv_has ls 6 [(0, .ref (α 1 0)), (1, .int v1), (3, .int v3), (4, .int v4)] → gW 3 p l e s m args below meth c D dA 0 α none σz H locs (F0 m 47 ls [])) : ∀ (v1 : Int32) (v3 : Int32) (v4 : Int32) (a5 : Nat) (ha5 : a5 < fN 5) (σ : sm_M), f_X2_rewind_82 k47 v1 v3 v4 a5 σ = some σz → ∀ (H : Heap) (locs : List Loc) (ls : Array Slot), Wd D dA 0 α s.heap σ H locs → lv_has ls 6 [(0, .ref (α 1 0)), (1, .int v1), (3, .int v3), (4, .int v4), (5, .ref (α 5 a5))] → gW 3 p l e s m args below meth c D dA 0 α none σz H locs (F0 m 82 ls []) := by
  obtain ⟨hx, hb, hr, hlk, hml, hown, hnm, hts, hK, hNw⟩ := id G
  intro v1 v3 v4 a5 ha5 σ hF H locs ls hW hl
  rw [f_X2_rewind_82] at hF
  refine lv_iload_n hx hb dX2_rewind_82 rfl (lv_at hl 1 rfl) ?_
  refine lv_aload hx hb dX2_rewind_83 (lv_at hl 4 rfl) ?_
  refine gg_X2_74 G hW ha5 dX2_rewind_85 ?_
  obtain ⟨q1, hq1, hF⟩ := o_b hF
  refine kk_X2_94 G hW hq1 hl.1 ⟨Nat.le_of_ble_eq_true rfl, Nat.le_of_ble_eq_true rfl⟩ ⟨Nat.le_refl _, Nat.le_refl _⟩ (Nat.le_of_ble_eq_true rfl) dX2_rewind_88 (fun H locs hW => ?_)
  refine lv_if_eq (tgt := 108) hx hb dX2_rewind_91 (by decide) (fun hc => ?_) (fun hc => ?_)
  · replace hF := o_t hc hF
    exact w_X2_rewind_108 G k47 hk47 _ _ _ _ hF H locs ls hW (lv_sub hl [0, 1, 2, 3] rfl)
  · replace hF := o_f hc hF
    refine lv_aload hx hb dX2_rewind_94 (lv_at hl 4 rfl) ?_
    refine lv_iload_n hx hb dX2_rewind_96 rfl (lv_at hl 2 rfl) ?_
    refine lv_aload hx hb dX2_rewind_97 (lv_at hl 4 rfl) ?_
    refine gg_X2_74 G hW ha5 dX2_rewind_99 ?_
    obtain ⟨q2, hq2, hF⟩ := o_b hF
    refine kk_X2_94 G hW hq2 hl.1 ⟨Nat.le_of_ble_eq_true rfl, Nat.le_of_ble_eq_true rfl⟩ ⟨Nat.le_refl _, Nat.le_refl _⟩ (Nat.le_of_ble_eq_true rfl) dX2_rewind_102 (fun H locs hW => ?_)
    obtain ⟨q3, hq3, hF⟩ := o_b hF
    refine kk_X2_126 G hW ha5 hq3 hl.1 ⟨Nat.le_of_ble_eq_true rfl, Nat.le_of_ble_eq_true rfl⟩ ⟨Nat.le_refl _, Nat.le_refl _⟩ (Nat.le_of_ble_eq_true rfl) dX2_rewind_105 (fun H locs hW => ?_)
    exact w_X2_rewind_108 G k47 hk47 _ _ _ _ hF H locs ls hW (lv_sub hl [0, 1, 2, 3] rfl)
set_option maxHeartbeats 4000000 in
set_option maxRecDepth 100000 in
theorem w_X2_rewind_47 (G : gx p s m meth c args cX2_rewind 6 none RX2 "rewind" D dA) {σz : sm_M} : ∀ (n : Nat) (v1 : Int32) (v3 : Int32) (v4 : Int32) (σ : sm_M), f_X2_rewind_47 n v1 v3 v4 σ = some σz → ∀ (H : Heap) (locs : List Loc) (ls : Array Slot), Wd D dA 0 α s.heap σ H locs → lv_has ls 6 [(0, .ref (α 1 0)), (1, .int v1), (3, .int v3), (4, .int v4)] → gW 3 p l e s m args below meth c D dA 0 α none σz H locs (F0 m 47 ls []) := by
  obtain ⟨hx, hb, hr, hlk, hml, hown, hnm, hts, hK, hNw⟩ := id G
  intro n
  induction n with
  | zero => intro v1 v3 v4 σ hF; exact absurd hF (by intro h; cases h)
  | succ n ih =>
    intro v1 v3 v4 σ hF H locs ls hW hl
    rw [f_X2_rewind_47] at hF
    refine lv_iload hx hb dX2_rewind_47 (lv_at hl 3 rfl) ?_
    refine lv_aload_n hx hb dX2_rewind_49 rfl (lv_at hl 0 rfl) ?_
    refine gg_X2_29 G hW (by decide) dX2_rewind_50 ?_
    refine lv_icmp_ge (tgt := 114) hx hb dX2_rewind_53 (by decide) (fun hc => ?_) (fun hc => ?_)
    · replace hF := o_t hc hF
      exact g_vret G hW hF dX2_rewind_114
    · replace hF := o_f hc hF
      refine lv_aload_n hx hb dX2_rewind_56 rfl (lv_at hl 0 rfl) ?_
      refine gg_X2_19 G hW (by decide) dX2_rewind_57 ?_
      refine lv_iload hx hb dX2_rewind_60 (lv_at hl 3 rfl) ?_
      obtain ⟨x1, hx1, hF⟩ := o_b hF
      refine g_aP (φ := 8) (ψ := 5) G rfl rfl (by decide) (ety := (.object "RegionRestarts$Channel")) rfl rfl (fun _ => rfl) hW (by decide) hx1 dX2_rewind_62 ?_
      refine lv_astore (lv' := [(5, .ref (α 5 x1)), (0, .ref (α 1 0)), (1, .int v1), (3, .int v3), (4, .int v4)]) hx hb dX2_rewind_63 hl (by decide) rfl (fun ls hl => ?_)
      refine lv_iload_n hx hb dX2_rewind_65 rfl (lv_at hl 2 rfl) ?_
      refine lv_aload hx hb dX2_rewind_66 (lv_at hl 0 rfl) ?_
      refine gg_X2_62 G hW (aP_lt hx1) dX2_rewind_68 ?_
      obtain ⟨q2, hq2, hF⟩ := o_b hF
      refine kk_X2_94 G hW hq2 hl.1 ⟨Nat.le_of_ble_eq_true rfl, Nat.le_of_ble_eq_true rfl⟩ ⟨Nat.le_refl _, Nat.le_refl _⟩ (Nat.le_of_ble_eq_true rfl) dX2_rewind_71 (fun H locs hW => ?_)
      refine lv_if_eq (tgt := 82) hx hb dX2_rewind_74 (by decide) (fun hc => ?_) (fun hc => ?_)
      · replace hF := o_t hc hF
        exact w_X2_rewind_82 G (f_X2_rewind_47 n) ih _ _ _ _ (aP_lt hx1) _ hF H locs ls hW (lv_sub hl [1, 2, 3, 4, 0] rfl)
      · replace hF := o_f hc hF
        refine lv_aload hx hb dX2_rewind_77 (lv_at hl 0 rfl) ?_
        obtain ⟨q3, hq3, hF⟩ := o_b hF
        refine kk_X2_123 G hW (aP_lt hx1) hq3 hl.1 ⟨Nat.le_of_ble_eq_true rfl, Nat.le_of_ble_eq_true rfl⟩ ⟨Nat.le_refl _, Nat.le_refl _⟩ (Nat.le_of_ble_eq_true rfl) dX2_rewind_79 (fun H locs hW => ?_)
        exact w_X2_rewind_82 G (f_X2_rewind_47 n) ih _ _ _ _ (aP_lt hx1) _ hF H locs ls hW (lv_sub hl [1, 2, 3, 4, 0] rfl)
set_option maxHeartbeats 4000000 in
set_option maxRecDepth 100000 in
theorem w_X2_rewind_44 (G : gx p s m meth c args cX2_rewind 6 none RX2 "rewind" D dA) {σz : sm_M} : ∀ (v1 : Int32) (v3 : Int32) (σ : sm_M), f_X2_rewind_44 v1 v3 σ = some σz → ∀ (H : Heap) (locs : List Loc) (ls : Array Slot), Wd D dA 0 α s.heap σ H locs → lv_has ls 6 [(0, .ref (α 1 0)), (1, .int v1), (3, .int v3)] → gW 3 p l e s m args below meth c D dA 0 α none σz H locs (F0 m 44 ls []) := by
  obtain ⟨hx, hb, hr, hlk, hml, hown, hnm, hts, hK, hNw⟩ := id G
  intro v1 v3 σ hF H locs ls hW hl
  rw [f_X2_rewind_44] at hF
  refine lv_iconst (v := 0) hx hb dX2_rewind_44 (by decide) ?_
  refine lv_istore (lv' := [(4, .int (0 : Int32)), (0, .ref (α 1 0)), (1, .int v1), (3, .int v3)]) hx hb dX2_rewind_45 hl (by decide) rfl (fun ls hl => ?_)
  exact w_X2_rewind_47 G 1000 _ _ _ _ hF H locs ls hW (lv_sub hl [1, 2, 3, 0] rfl)
set_option maxHeartbeats 4000000 in
set_option maxRecDepth 100000 in
theorem w_X2_rewind_38 (G : gx p s m meth c args cX2_rewind 6 none RX2 "rewind" D dA) {σz : sm_M} (k9 : Int32 → Int32 → Int32 → Int32 → sm_M → Option (sm_M)) (hk9 : ∀ (v1 : Int32) (v2 : Int32) (v3 : Int32) (v4 : Int32) (σ : sm_M), k9 v1 v2 v3 v4 σ = some σz → ∀ (H : Heap) (locs : List Loc) (ls : Array Slot), Wd D dA 0 α s.heap σ H locs → lv_has ls 6 [(0, .ref (α 1 0)), (1, .int v1), (2, .int v2), (3, .int v3), (4, .int v4)] → gW 3 p l e s m args below meth c D dA 0 α none σz H locs (F0 m 9 ls [])) : ∀ (v1 : Int32) (v2 : Int32) (v3 : Int32) (v4 : Int32) (σ : sm_M), f_X2_rewind_38 k9 v1 v2 v3 v4 σ = some σz → ∀ (H : Heap) (locs : List Loc) (ls : Array Slot), Wd D dA 0 α s.heap σ H locs → lv_has ls 6 [(0, .ref (α 1 0)), (1, .int v1), (2, .int v2), (3, .int v3), (4, .int v4)] → gW 3 p l e s m args below meth c D dA 0 α none σz H locs (F0 m 38 ls []) := by
  obtain ⟨hx, hb, hr, hlk, hml, hown, hnm, hts, hK, hNw⟩ := id G
  intro v1 v2 v3 v4 σ hF H locs ls hW hl
  rw [f_X2_rewind_38] at hF
  refine lv_iinc (v := (v4 + 1)) (lv' := [(4, .int (v4 + 1)), (0, .ref (α 1 0)), (1, .int v1), (2, .int v2), (3, .int v3)]) hx hb dX2_rewind_38 hl (k := 4) rfl rfl (by decide) rfl (fun ls hl => ?_)
  refine lv_goto (tgt := 9) hx hb dX2_rewind_41 (by decide) ?_
  exact hk9 _ _ _ _ _ hF H locs ls hW (lv_sub hl [1, 2, 3, 4, 0] rfl)
set_option maxHeartbeats 4000000 in
set_option maxRecDepth 100000 in
theorem w_X2_rewind_9 (G : gx p s m meth c args cX2_rewind 6 none RX2 "rewind" D dA) {σz : sm_M} : ∀ (n : Nat) (v1 : Int32) (v2 : Int32) (v3 : Int32) (v4 : Int32) (σ : sm_M), f_X2_rewind_9 n v1 v2 v3 v4 σ = some σz → ∀ (H : Heap) (locs : List Loc) (ls : Array Slot), Wd D dA 0 α s.heap σ H locs → lv_has ls 6 [(0, .ref (α 1 0)), (1, .int v1), (2, .int v2), (3, .int v3), (4, .int v4)] → gW 3 p l e s m args below meth c D dA 0 α none σz H locs (F0 m 9 ls []) := by
  obtain ⟨hx, hb, hr, hlk, hml, hown, hnm, hts, hK, hNw⟩ := id G
  intro n
  induction n with
  | zero => intro v1 v2 v3 v4 σ hF; exact absurd hF (by intro h; cases h)
  | succ n ih =>
    intro v1 v2 v3 v4 σ hF H locs ls hW hl
    rw [f_X2_rewind_9] at hF
    refine lv_iload hx hb dX2_rewind_9 (lv_at hl 4 rfl) ?_
    refine lv_aload_n hx hb dX2_rewind_11 rfl (lv_at hl 0 rfl) ?_
    refine gg_X2_25 G hW (by decide) dX2_rewind_12 ?_
    refine lv_icmp_ge (tgt := 44) hx hb dX2_rewind_15 (by decide) (fun hc => ?_) (fun hc => ?_)
    · replace hF := o_t hc hF
      exact w_X2_rewind_44 G _ _ _ hF H locs ls hW (lv_sub hl [0, 1, 3] rfl)
    · replace hF := o_f hc hF
      refine lv_iload_n hx hb dX2_rewind_18 rfl (lv_at hl 1 rfl) ?_
      refine lv_iload hx hb dX2_rewind_19 (lv_at hl 4 rfl) ?_
      obtain ⟨q1, hq1, hF⟩ := o_b hF
      refine kk_X2_94 G hW hq1 hl.1 ⟨Nat.le_of_ble_eq_true rfl, Nat.le_of_ble_eq_true rfl⟩ ⟨Nat.le_refl _, Nat.le_refl _⟩ (Nat.le_of_ble_eq_true rfl) dX2_rewind_21 (fun H locs hW => ?_)
      refine lv_if_eq (tgt := 38) hx hb dX2_rewind_24 (by decide) (fun hc => ?_) (fun hc => ?_)
      · replace hF := o_t hc hF
        exact w_X2_rewind_38 G (f_X2_rewind_9 n) ih _ _ _ _ _ hF H locs ls hW (lv_sub hl [0, 1, 2, 3, 4] rfl)
      · replace hF := o_f hc hF
        refine lv_aload_n hx hb dX2_rewind_27 rfl (lv_at hl 0 rfl) ?_
        refine gg_X2_11 G hW (by decide) dX2_rewind_28 ?_
        refine lv_iload hx hb dX2_rewind_31 (lv_at hl 4 rfl) ?_
        obtain ⟨x2, hx2, hF⟩ := o_b hF
        refine g_aP (φ := 7) (ψ := 4) G rfl rfl (by decide) (ety := (.object "RegionRestarts$Task")) rfl rfl (fun _ => rfl) hW (by decide) hx2 dX2_rewind_33 ?_
        refine lv_iload_n hx hb dX2_rewind_34 rfl (lv_at hl 2 rfl) ?_
        obtain ⟨q3, hq3, hF⟩ := o_b hF
        refine kk_X2_120 G hW (aP_lt hx2) hq3 hl.1 ⟨Nat.le_of_ble_eq_true rfl, Nat.le_of_ble_eq_true rfl⟩ ⟨Nat.le_refl _, Nat.le_refl _⟩ (Nat.le_of_ble_eq_true rfl) dX2_rewind_35 (fun H locs hW => ?_)
        exact w_X2_rewind_38 G (f_X2_rewind_9 n) ih _ _ _ _ _ hF H locs ls hW (lv_sub hl [0, 1, 2, 3, 4] rfl)
set_option maxHeartbeats 4000000 in
set_option maxRecDepth 100000 in
theorem w_X2_rewind_0 (G : gx p s m meth c args cX2_rewind 6 none RX2 "rewind" D dA) {σz : sm_M} : ∀ (v1 : Int32) (v2 : Int32) (σ : sm_M), f_X2_rewind v1 v2 σ = some σz → ∀ (H : Heap) (locs : List Loc) (ls : Array Slot), Wd D dA 0 α s.heap σ H locs → lv_has ls 6 [(0, .ref (α 1 0)), (1, .int v1), (2, .int v2)] → gW 3 p l e s m args below meth c D dA 0 α none σz H locs (F0 m 0 ls []) := by
  obtain ⟨hx, hb, hr, hlk, hml, hown, hnm, hts, hK, hNw⟩ := id G
  intro v1 v2 σ hF H locs ls hW hl
  rw [f_X2_rewind] at hF
  refine lv_aload_n hx hb dX2_rewind_0 rfl (lv_at hl 0 rfl) ?_
  refine lv_iload_n hx hb dX2_rewind_1 rfl (lv_at hl 1 rfl) ?_
  obtain ⟨q1, hq1, hF⟩ := o_b hF
  refine kk_X2_107 G hW hq1 hl.1 ⟨Nat.le_of_ble_eq_true rfl, Nat.le_of_ble_eq_true rfl⟩ ⟨Nat.le_refl _, Nat.le_refl _⟩ (Nat.le_of_ble_eq_true rfl) dX2_rewind_2 (fun H locs hW => ?_)
  refine lv_istore_n (lv' := [(3, .int q1.1), (0, .ref (α 1 0)), (1, .int v1), (2, .int v2)]) hx hb dX2_rewind_5 rfl hl (by decide) rfl (fun ls hl => ?_)
  refine lv_iconst (v := 0) hx hb dX2_rewind_6 (by decide) ?_
  refine lv_istore (lv' := [(4, .int (0 : Int32)), (3, .int q1.1), (0, .ref (α 1 0)), (1, .int v1), (2, .int v2)]) hx hb dX2_rewind_7 hl (by decide) rfl (fun ls hl => ?_)
  exact w_X2_rewind_9 G 1000 _ _ _ _ _ hF H locs ls hW (lv_sub hl [2, 3, 4, 1, 0] rfl)
end WX2_rewind
theorem c_X2_rewind {l : Launch} {D : va_G} {dA : Nat → ClassId} {α : Nat → Nat → Nat} (hI : Inj 0 α) {v1 : Int32} {v2 : Int32} {σ σz : sm_M} (hF : f_X2_rewind v1 v2 σ = some σz) : gM l D dA 0 α yX2_rewind cX2_rewind 6 none 3 [.ref (α 1 0), .int v1, .int v2] σ none σz :=
  g_met hI (by decide +kernel) (Nat.le_of_ble_eq_true rfl) (fun p e s m below meth c ls G hW hl => w_X2_rewind_0 G _ _ _ hF _ _ _ hW hl)
section KX2_rewind
variable {p : Program} {l : Launch} {e : Env} {R : Room} {s : State} {m : MethodId} {args : Array Value} {below : List Frame} {meth : Method} {c : Code} {H : Heap} {locs : List Loc} {cells slots : Nat} {Q : State → Prop}
variable {cc : ByteArray} {pc nL Z : Nat} {ls : Array Slot} {rest : List Value} {D : va_G} {dA : Nat → ClassId} {α : Nat → Nat → Nat} {H0 : Heap} {σ σ' : sm_M} {ret : Option FieldType} {own nm : String}
theorem kk_X5_301 (G : gx p s m meth c args cc nL ret RX5 nm D dA) (hW : Wd D dA 0 α H0 σ H locs) {v1 : Int32} {v2 : Int32} {q : sm_M} (hq : f_X2_rewind v1 v2 σ = some q) (hls : ls.size = nL) (hR : 3 + 1 ≤ R.frames ∧ 8 + (6 + 11) + 44 * 3 ≤ R.locals) (hf : cells ≤ R.cells ∧ slots ≤ R.slots) (hcat : (rest.map fun v => v.category).sum ≤ 8) (hdg : decode cc pc = .ok (.invokevirtual 301, 3)) (kk : ∀ (H1 : Heap) (locs1 : List Loc), Wd D dA 0 α H0 q H1 locs1 → W p l e R s m args below meth c H1 locs1 cells slots Q (F0 m (pc + 3) ls rest)) : W p l e R s m args below meth c H locs cells slots Q (F0 m pc ls (.int v2 :: .int v1 :: .ref (α 1 0) :: rest)) :=
  g_cV (n := 2) G (c_X2_rewind (l := l) hW.2.2.2 hq) ⟨wm_16_22, wm_16_23, wm_17_0, wm_1_14, wm_17_1⟩ (by decide +kernel) hW (g_recv (φ := 1) (ci := 2) G.2.2.2.2.2.2.2.2.1 rfl rfl rfl (by decide) hW.1 rfl) hR hf rfl hls rfl hcat hdg kk
end KX2_rewind
section WX3_takesMore
variable {p : Program} {l : Launch} {e : Env} {s : State} {m : MethodId} {args : Array Value} {below : List Frame} {meth : Method} {c : Code} {D : va_G} {dA : Nat → ClassId} {α : Nat → Nat → Nat}
set_option maxHeartbeats 4000000 in
set_option maxRecDepth 100000 in
theorem w_X3_takesMore_39 (G : gx p s m meth c args cX3_takesMore 2 (some .boolean) RX3 "takesMore" D dA) {r : Int32} {σz : sm_M} : ∀ (s0 : Int32) (σ : sm_M), f_X3_takesMore_39 s0 σ = some (r, σz) → ∀ (H : Heap) (locs : List Loc) (ls : Array Slot), Wd D dA 0 α s.heap σ H locs → lv_has ls 2 [] → gW 0 p l e s m args below meth c D dA 0 α (some (.int r)) σz H locs (F0 m 39 ls [.int s0]) := by
  obtain ⟨hx, hb, hr, hlk, hml, hown, hnm, hts, hK, hNw⟩ := id G
  intro s0 σ hF H locs ls hW hl
  rw [f_X3_takesMore_39] at hF
  exact g_zret G hW hF dX3_takesMore_39
set_option maxHeartbeats 4000000 in
set_option maxRecDepth 100000 in
theorem w_X3_takesMore_38 (G : gx p s m meth c args cX3_takesMore 2 (some .boolean) RX3 "takesMore" D dA) {r : Int32} {σz : sm_M} : ∀ (σ : sm_M), f_X3_takesMore_38 σ = some (r, σz) → ∀ (H : Heap) (locs : List Loc) (ls : Array Slot), Wd D dA 0 α s.heap σ H locs → lv_has ls 2 [] → gW 0 p l e s m args below meth c D dA 0 α (some (.int r)) σz H locs (F0 m 38 ls []) := by
  obtain ⟨hx, hb, hr, hlk, hml, hown, hnm, hts, hK, hNw⟩ := id G
  intro σ hF H locs ls hW hl
  rw [f_X3_takesMore_38] at hF
  refine lv_iconst (v := 0) hx hb dX3_takesMore_38 (by decide) ?_
  exact w_X3_takesMore_39 G _ _ hF H locs ls hW (lv_sub hl [] rfl)
set_option maxHeartbeats 4000000 in
set_option maxRecDepth 100000 in
theorem w_X3_takesMore_0 (G : gx p s m meth c args cX3_takesMore 2 (some .boolean) RX3 "takesMore" D dA) {r : Int32} {σz : sm_M} : ∀ (a1 : Nat) (ha1 : a1 < fN 4) (σ : sm_M), f_X3_takesMore a1 σ = some (r, σz) → ∀ (H : Heap) (locs : List Loc) (ls : Array Slot), Wd D dA 0 α s.heap σ H locs → lv_has ls 2 [(0, .ref (α 2 0)), (1, .ref (α 4 a1))] → gW 0 p l e s m args below meth c D dA 0 α (some (.int r)) σz H locs (F0 m 0 ls []) := by
  obtain ⟨hx, hb, hr, hlk, hml, hown, hnm, hts, hK, hNw⟩ := id G
  intro a1 ha1 σ hF H locs ls hW hl
  rw [f_X3_takesMore] at hF
  refine lv_aload_n hx hb dX3_takesMore_0 rfl (lv_at hl 0 rfl) ?_
  refine gg_X3_22 G hW (by decide) dX3_takesMore_1 ?_
  refine lv_if_ne (tgt := 38) hx hb dX3_takesMore_4 (by decide) (fun hc => ?_) (fun hc => ?_)
  · replace hF := o_f hc hF
    exact w_X3_takesMore_38 G  _ hF H locs ls hW (lv_sub hl [] rfl)
  · replace hF := o_t hc hF
    refine lv_aload_n hx hb dX3_takesMore_7 rfl (lv_at hl 0 rfl) ?_
    refine gg_X3_18 G hW (by decide) dX3_takesMore_8 ?_
    refine lv_aload_n hx hb dX3_takesMore_11 rfl (lv_at hl 1 rfl) ?_
    refine gg_X3_94 G hW ha1 dX3_takesMore_12 ?_
    refine lv_icmp_ge (tgt := 38) hx hb dX3_takesMore_15 (by decide) (fun hc => ?_) (fun hc => ?_)
    · replace hF := o_t hc hF
      exact w_X3_takesMore_38 G  _ hF H locs ls hW (lv_sub hl [] rfl)
    · replace hF := o_f hc hF
      refine lv_aload_n hx hb dX3_takesMore_18 rfl (lv_at hl 0 rfl) ?_
      refine gg_X3_18 G hW (by decide) dX3_takesMore_19 ?_
      refine lv_bipush (v := 8) hx hb dX3_takesMore_22 (by decide) ?_
      refine lv_icmp_ge (tgt := 38) hx hb dX3_takesMore_24 (by decide) (fun hc => ?_) (fun hc => ?_)
      · replace hF := o_t hc hF
        exact w_X3_takesMore_38 G  _ hF H locs ls hW (lv_sub hl [] rfl)
      · replace hF := o_f hc hF
        refine lv_aload_n hx hb dX3_takesMore_27 rfl (lv_at hl 0 rfl) ?_
        refine gg_X3_32 G hW (by decide) dX3_takesMore_28 ?_
        refine lv_if_le (tgt := 38) hx hb dX3_takesMore_31 (by decide) (fun hc => ?_) (fun hc => ?_)
        · replace hF := o_t hc hF
          exact w_X3_takesMore_38 G  _ hF H locs ls hW (lv_sub hl [] rfl)
        · replace hF := o_f hc hF
          refine lv_iconst (v := 1) hx hb dX3_takesMore_34 (by decide) ?_
          refine lv_goto (tgt := 39) hx hb dX3_takesMore_35 (by decide) ?_
          exact w_X3_takesMore_39 G _ _ hF H locs ls hW (lv_sub hl [] rfl)
end WX3_takesMore
theorem c_X3_takesMore {l : Launch} {D : va_G} {dA : Nat → ClassId} {α : Nat → Nat → Nat} (hI : Inj 0 α) {a1 : Nat} (ha1 : a1 < fN 4) {σ σz : sm_M} {r : Int32} (hF : f_X3_takesMore a1 σ = some (r, σz)) : gM l D dA 0 α yX3_takesMore cX3_takesMore 2 (some .boolean) 0 [.ref (α 2 0), .ref (α 4 a1)] σ (some (.int r)) σz :=
  g_met hI (by decide +kernel) (Nat.le_of_ble_eq_true rfl) (fun p e s m below meth c ls G hW hl => w_X3_takesMore_0 G _ ha1 _ hF _ _ _ hW hl)
section KX3_takesMore
variable {p : Program} {l : Launch} {e : Env} {R : Room} {s : State} {m : MethodId} {args : Array Value} {below : List Frame} {meth : Method} {c : Code} {H : Heap} {locs : List Loc} {cells slots : Nat} {Q : State → Prop}
variable {cc : ByteArray} {pc nL Z : Nat} {ls : Array Slot} {rest : List Value} {D : va_G} {dA : Nat → ClassId} {α : Nat → Nat → Nat} {H0 : Heap} {σ σ' : sm_M} {ret : Option FieldType} {own nm : String}
theorem kk_X3_58 (G : gx p s m meth c args cc nL ret RX3 nm D dA) (hW : Wd D dA 0 α H0 σ H locs) {a1 : Nat} (ha1 : a1 < fN 4) {q : Int32 × sm_M} (hq : f_X3_takesMore a1 σ = some q) (hls : ls.size = nL) (hR : 0 + 1 ≤ R.frames ∧ 8 + (2 + 11) + 44 * 0 ≤ R.locals) (hf : cells ≤ R.cells ∧ slots ≤ R.slots) (hcat : (rest.map fun v => v.category).sum ≤ 8) (hdg : decode cc pc = .ok (.invokevirtual 58, 3)) (kk : ∀ (H1 : Heap) (locs1 : List Loc), Wd D dA 0 α H0 q.2 H1 locs1 → W p l e R s m args below meth c H1 locs1 cells slots Q (F0 m (pc + 3) ls (.int q.1 :: rest))) : W p l e R s m args below meth c H locs cells slots Q (F0 m pc ls (.ref (α 4 a1) :: .ref (α 2 0) :: rest)) :=
  g_cV (n := 1) G (c_X3_takesMore (l := l) hW.2.2.2 ha1 hq) ⟨wm_12_19, wm_12_20, wm_12_21, wm_1_18, wm_12_22⟩ (by decide +kernel) hW (g_recv (φ := 2) (ci := 3) G.2.2.2.2.2.2.2.2.1 rfl rfl rfl (by decide) hW.1 rfl) hR hf rfl hls rfl hcat hdg kk
end KX3_takesMore
section WX4_isAside
variable {p : Program} {l : Launch} {e : Env} {s : State} {m : MethodId} {args : Array Value} {below : List Frame} {meth : Method} {c : Code} {D : va_G} {dA : Nat → ClassId} {α : Nat → Nat → Nat}
set_option maxHeartbeats 4000000 in
set_option maxRecDepth 100000 in
theorem w_X4_isAside_2 (G : gx p s m meth c args cX4_isAside 3 (some .boolean) RX4 "isAside" D dA) {r : Int32} {σz : sm_M} : ∀ (n : Nat) (a0 : Nat) (ha0 : a0 < fN 4) (v1 : Int32) (v2 : Int32) (σ : sm_M), f_X4_isAside_2 n a0 v1 v2 σ = some (r, σz) → ∀ (H : Heap) (locs : List Loc) (ls : Array Slot), Wd D dA 0 α s.heap σ H locs → lv_has ls 3 [(0, .ref (α 4 a0)), (1, .int v1), (2, .int v2)] → gW 0 p l e s m args below meth c D dA 0 α (some (.int r)) σz H locs (F0 m 2 ls []) := by
  obtain ⟨hx, hb, hr, hlk, hml, hown, hnm, hts, hK, hNw⟩ := id G
  intro n
  induction n with
  | zero => intro a0 ha0 v1 v2 σ hF; exact absurd hF (by intro h; cases h)
  | succ n ih =>
    intro a0 ha0 v1 v2 σ hF H locs ls hW hl
    rw [f_X4_isAside_2] at hF
    refine lv_iload_n hx hb dX4_isAside_2 rfl (lv_at hl 2 rfl) ?_
    refine lv_aload_n hx hb dX4_isAside_3 rfl (lv_at hl 0 rfl) ?_
    refine gg_X4_43 G hW ha0 dX4_isAside_4 ?_
    refine lv_icmp_ge (tgt := 28) hx hb dX4_isAside_7 (by decide) (fun hc => ?_) (fun hc => ?_)
    · replace hF := o_t hc hF
      refine lv_iconst (v := 0) hx hb dX4_isAside_28 (by decide) ?_
      exact g_zret G hW hF dX4_isAside_29
    · replace hF := o_f hc hF
      refine lv_aload_n hx hb dX4_isAside_10 rfl (lv_at hl 0 rfl) ?_
      refine gg_X4_15 G hW ha0 dX4_isAside_11 ?_
      refine lv_iload_n hx hb dX4_isAside_14 rfl (lv_at hl 2 rfl) ?_
      obtain ⟨x1, hx1, hF⟩ := o_b hF
      refine g_aI (φ := 15) G rfl rfl (by decide) rfl hW ha0 hx1 dX4_isAside_15 ?_
      refine lv_iload_n hx hb dX4_isAside_16 rfl (lv_at hl 1 rfl) ?_
      refine lv_icmp_ne (tgt := 22) hx hb dX4_isAside_17 (by decide) (fun hc => ?_) (fun hc => ?_)
      · replace hF := o_f hc hF
        refine lv_iinc (v := (v2 + 1)) (lv' := [(2, .int (v2 + 1)), (0, .ref (α 4 a0)), (1, .int v1)]) hx hb dX4_isAside_22 hl (k := 2) rfl rfl (by decide) rfl (fun ls hl => ?_)
        refine lv_goto (tgt := 2) hx hb dX4_isAside_25 (by decide) ?_
        exact ih _ ha0 _ _ _ hF H locs ls hW (lv_sub hl [1, 2, 0] rfl)
      · replace hF := o_t hc hF
        refine lv_iconst (v := 1) hx hb dX4_isAside_20 (by decide) ?_
        exact g_zret G hW hF dX4_isAside_21
set_option maxHeartbeats 4000000 in
set_option maxRecDepth 100000 in
theorem w_X4_isAside_0 (G : gx p s m meth c args cX4_isAside 3 (some .boolean) RX4 "isAside" D dA) {r : Int32} {σz : sm_M} : ∀ (a0 : Nat) (ha0 : a0 < fN 4) (v1 : Int32) (σ : sm_M), f_X4_isAside a0 v1 σ = some (r, σz) → ∀ (H : Heap) (locs : List Loc) (ls : Array Slot), Wd D dA 0 α s.heap σ H locs → lv_has ls 3 [(0, .ref (α 4 a0)), (1, .int v1)] → gW 0 p l e s m args below meth c D dA 0 α (some (.int r)) σz H locs (F0 m 0 ls []) := by
  obtain ⟨hx, hb, hr, hlk, hml, hown, hnm, hts, hK, hNw⟩ := id G
  intro a0 ha0 v1 σ hF H locs ls hW hl
  rw [f_X4_isAside] at hF
  refine lv_iconst (v := 0) hx hb dX4_isAside_0 (by decide) ?_
  refine lv_istore_n (lv' := [(2, .int (0 : Int32)), (0, .ref (α 4 a0)), (1, .int v1)]) hx hb dX4_isAside_1 rfl hl (by decide) rfl (fun ls hl => ?_)
  exact w_X4_isAside_2 G 1000 _ ha0 _ _ _ hF H locs ls hW (lv_sub hl [1, 2, 0] rfl)
end WX4_isAside
theorem c_X4_isAside {l : Launch} {D : va_G} {dA : Nat → ClassId} {α : Nat → Nat → Nat} (hI : Inj 0 α) {a0 : Nat} (ha0 : a0 < fN 4) {v1 : Int32} {σ σz : sm_M} {r : Int32} (hF : f_X4_isAside a0 v1 σ = some (r, σz)) : gM l D dA 0 α yX4_isAside cX4_isAside 3 (some .boolean) 0 [.ref (α 4 a0), .int v1] σ (some (.int r)) σz :=
  g_met hI (by decide +kernel) (Nat.le_of_ble_eq_true rfl) (fun p e s m below meth c ls G hW hl => w_X4_isAside_0 G _ ha0 _ _ hF _ _ _ hW hl)
section KX4_isAside
variable {p : Program} {l : Launch} {e : Env} {R : Room} {s : State} {m : MethodId} {args : Array Value} {below : List Frame} {meth : Method} {c : Code} {H : Heap} {locs : List Loc} {cells slots : Nat} {Q : State → Prop}
variable {cc : ByteArray} {pc nL Z : Nat} {ls : Array Slot} {rest : List Value} {D : va_G} {dA : Nat → ClassId} {α : Nat → Nat → Nat} {H0 : Heap} {σ σ' : sm_M} {ret : Option FieldType} {own nm : String}
theorem kk_X5_263 (G : gx p s m meth c args cc nL ret RX5 nm D dA) (hW : Wd D dA 0 α H0 σ H locs) {a0 : Nat} (ha0 : a0 < fN 4) {v1 : Int32} {q : Int32 × sm_M} (hq : f_X4_isAside a0 v1 σ = some q) (hls : ls.size = nL) (hR : 0 + 1 ≤ R.frames ∧ 8 + (3 + 11) + 44 * 0 ≤ R.locals) (hf : cells ≤ R.cells ∧ slots ≤ R.slots) (hcat : (rest.map fun v => v.category).sum ≤ 8) (hdg : decode cc pc = .ok (.invokevirtual 263, 3)) (kk : ∀ (H1 : Heap) (locs1 : List Loc), Wd D dA 0 α H0 q.2 H1 locs1 → W p l e R s m args below meth c H1 locs1 cells slots Q (F0 m (pc + 3) ls (.int q.1 :: rest))) : W p l e R s m args below meth c H locs cells slots Q (F0 m pc ls (.int v1 :: .ref (α 4 a0) :: rest)) :=
  g_cV (n := 1) G (c_X4_isAside (l := l) hW.2.2.2 ha0 hq) ⟨wm_18_15, wm_13_9, wm_13_10, wm_2_11, wm_13_11⟩ (by decide +kernel) hW (g_recv (φ := 4) (ci := 4) G.2.2.2.2.2.2.2.2.1 rfl rfl rfl ha0 hW.1 rfl) hR hf rfl hls rfl hcat hdg kk
theorem kk_X3_100 (G : gx p s m meth c args cc nL ret RX3 nm D dA) (hW : Wd D dA 0 α H0 σ H locs) {a0 : Nat} (ha0 : a0 < fN 4) {v1 : Int32} {q : Int32 × sm_M} (hq : f_X4_isAside a0 v1 σ = some q) (hls : ls.size = nL) (hR : 0 + 1 ≤ R.frames ∧ 8 + (3 + 11) + 44 * 0 ≤ R.locals) (hf : cells ≤ R.cells ∧ slots ≤ R.slots) (hcat : (rest.map fun v => v.category).sum ≤ 8) (hdg : decode cc pc = .ok (.invokevirtual 100, 3)) (kk : ∀ (H1 : Heap) (locs1 : List Loc), Wd D dA 0 α H0 q.2 H1 locs1 → W p l e R s m args below meth c H1 locs1 cells slots Q (F0 m (pc + 3) ls (.int q.1 :: rest))) : W p l e R s m args below meth c H locs cells slots Q (F0 m pc ls (.int v1 :: .ref (α 4 a0) :: rest)) :=
  g_cV (n := 1) G (c_X4_isAside (l := l) hW.2.2.2 ha0 hq) ⟨wm_13_12, wm_13_9, wm_13_10, wm_2_11, wm_13_11⟩ (by decide +kernel) hW (g_recv (φ := 4) (ci := 4) G.2.2.2.2.2.2.2.2.1 rfl rfl rfl ha0 hW.1 rfl) hR hf rfl hls rfl hcat hdg kk
theorem kk_X4_73 (G : gx p s m meth c args cc nL ret RX4 nm D dA) (hW : Wd D dA 0 α H0 σ H locs) {a0 : Nat} (ha0 : a0 < fN 4) {v1 : Int32} {q : Int32 × sm_M} (hq : f_X4_isAside a0 v1 σ = some q) (hls : ls.size = nL) (hR : 0 + 1 ≤ R.frames ∧ 8 + (3 + 11) + 44 * 0 ≤ R.locals) (hf : cells ≤ R.cells ∧ slots ≤ R.slots) (hcat : (rest.map fun v => v.category).sum ≤ 8) (hdg : decode cc pc = .ok (.invokevirtual 73, 3)) (kk : ∀ (H1 : Heap) (locs1 : List Loc), Wd D dA 0 α H0 q.2 H1 locs1 → W p l e R s m args below meth c H1 locs1 cells slots Q (F0 m (pc + 3) ls (.int q.1 :: rest))) : W p l e R s m args below meth c H locs cells slots Q (F0 m pc ls (.int v1 :: .ref (α 4 a0) :: rest)) :=
  g_cV (n := 1) G (c_X4_isAside (l := l) hW.2.2.2 ha0 hq) ⟨wm_13_8, wm_13_9, wm_13_10, wm_2_11, wm_13_11⟩ (by decide +kernel) hW (g_recv (φ := 4) (ci := 4) G.2.2.2.2.2.2.2.2.1 rfl rfl rfl ha0 hW.1 rfl) hR hf rfl hls rfl hcat hdg kk
end KX4_isAside
section WX4_throwsAt
variable {p : Program} {l : Launch} {e : Env} {s : State} {m : MethodId} {args : Array Value} {below : List Frame} {meth : Method} {c : Code} {D : va_G} {dA : Nat → ClassId} {α : Nat → Nat → Nat}
set_option maxHeartbeats 4000000 in
set_option maxRecDepth 100000 in
theorem w_X4_throwsAt_31 (G : gx p s m meth c args cX4_throwsAt 3 (some .boolean) RX4 "throwsAt" D dA) {r : Int32} {σz : sm_M} : ∀ (s0 : Int32) (σ : sm_M), f_X4_throwsAt_31 s0 σ = some (r, σz) → ∀ (H : Heap) (locs : List Loc) (ls : Array Slot), Wd D dA 0 α s.heap σ H locs → lv_has ls 3 [] → gW 1 p l e s m args below meth c D dA 0 α (some (.int r)) σz H locs (F0 m 31 ls [.int s0]) := by
  obtain ⟨hx, hb, hr, hlk, hml, hown, hnm, hts, hK, hNw⟩ := id G
  intro s0 σ hF H locs ls hW hl
  rw [f_X4_throwsAt_31] at hF
  exact g_zret G hW hF dX4_throwsAt_31
set_option maxHeartbeats 4000000 in
set_option maxRecDepth 100000 in
theorem w_X4_throwsAt_30 (G : gx p s m meth c args cX4_throwsAt 3 (some .boolean) RX4 "throwsAt" D dA) {r : Int32} {σz : sm_M} : ∀ (σ : sm_M), f_X4_throwsAt_30 σ = some (r, σz) → ∀ (H : Heap) (locs : List Loc) (ls : Array Slot), Wd D dA 0 α s.heap σ H locs → lv_has ls 3 [] → gW 1 p l e s m args below meth c D dA 0 α (some (.int r)) σz H locs (F0 m 30 ls []) := by
  obtain ⟨hx, hb, hr, hlk, hml, hown, hnm, hts, hK, hNw⟩ := id G
  intro σ hF H locs ls hW hl
  rw [f_X4_throwsAt_30] at hF
  refine lv_iconst (v := 0) hx hb dX4_throwsAt_30 (by decide) ?_
  exact w_X4_throwsAt_31 G _ _ hF H locs ls hW (lv_sub hl [] rfl)
set_option maxHeartbeats 4000000 in
set_option maxRecDepth 100000 in
theorem w_X4_throwsAt_0 (G : gx p s m meth c args cX4_throwsAt 3 (some .boolean) RX4 "throwsAt" D dA) {r : Int32} {σz : sm_M} : ∀ (a0 : Nat) (ha0 : a0 < fN 4) (v1 : Int32) (v2 : Int32) (σ : sm_M), f_X4_throwsAt a0 v1 v2 σ = some (r, σz) → ∀ (H : Heap) (locs : List Loc) (ls : Array Slot), Wd D dA 0 α s.heap σ H locs → lv_has ls 3 [(0, .ref (α 4 a0)), (1, .int v1), (2, .int v2)] → gW 1 p l e s m args below meth c D dA 0 α (some (.int r)) σz H locs (F0 m 0 ls []) := by
  obtain ⟨hx, hb, hr, hlk, hml, hown, hnm, hts, hK, hNw⟩ := id G
  intro a0 ha0 v1 v2 σ hF H locs ls hW hl
  rw [f_X4_throwsAt] at hF
  refine lv_aload_n hx hb dX4_throwsAt_0 rfl (lv_at hl 0 rfl) ?_
  refine gg_X4_31 G hW ha0 dX4_throwsAt_1 ?_
  refine lv_sipush (v := 1001) hx hb dX4_throwsAt_4 (by decide) ?_
  refine lv_icmp_eq (tgt := 30) hx hb dX4_throwsAt_7 (by decide) (fun hc => ?_) (fun hc => ?_)
  · replace hF := o_t hc hF
    exact w_X4_throwsAt_30 G  _ hF H locs ls hW (lv_sub hl [] rfl)
  · replace hF := o_f hc hF
    refine lv_iload_n hx hb dX4_throwsAt_10 rfl (lv_at hl 2 rfl) ?_
    refine lv_aload_n hx hb dX4_throwsAt_11 rfl (lv_at hl 0 rfl) ?_
    refine gg_X4_31 G hW ha0 dX4_throwsAt_12 ?_
    refine lv_icmp_ne (tgt := 30) hx hb dX4_throwsAt_15 (by decide) (fun hc => ?_) (fun hc => ?_)
    · replace hF := o_f hc hF
      exact w_X4_throwsAt_30 G  _ hF H locs ls hW (lv_sub hl [] rfl)
    · replace hF := o_t hc hF
      refine lv_aload_n hx hb dX4_throwsAt_18 rfl (lv_at hl 0 rfl) ?_
      refine lv_iload_n hx hb dX4_throwsAt_19 rfl (lv_at hl 1 rfl) ?_
      obtain ⟨q1, hq1, hF⟩ := o_b hF
      refine kk_X4_73 G hW ha0 hq1 hl.1 ⟨Nat.le_of_ble_eq_true rfl, Nat.le_of_ble_eq_true rfl⟩ ⟨Nat.le_refl _, Nat.le_refl _⟩ (Nat.le_of_ble_eq_true rfl) dX4_throwsAt_20 (fun H locs hW => ?_)
      refine lv_if_ne (tgt := 30) hx hb dX4_throwsAt_23 (by decide) (fun hc => ?_) (fun hc => ?_)
      · replace hF := o_f hc hF
        exact w_X4_throwsAt_30 G  _ hF H locs ls hW (lv_sub hl [] rfl)
      · replace hF := o_t hc hF
        refine lv_iconst (v := 1) hx hb dX4_throwsAt_26 (by decide) ?_
        refine lv_goto (tgt := 31) hx hb dX4_throwsAt_27 (by decide) ?_
        exact w_X4_throwsAt_31 G _ _ hF H locs ls hW (lv_sub hl [] rfl)
end WX4_throwsAt
theorem c_X4_throwsAt {l : Launch} {D : va_G} {dA : Nat → ClassId} {α : Nat → Nat → Nat} (hI : Inj 0 α) {a0 : Nat} (ha0 : a0 < fN 4) {v1 : Int32} {v2 : Int32} {σ σz : sm_M} {r : Int32} (hF : f_X4_throwsAt a0 v1 v2 σ = some (r, σz)) : gM l D dA 0 α yX4_throwsAt cX4_throwsAt 3 (some .boolean) 1 [.ref (α 4 a0), .int v1, .int v2] σ (some (.int r)) σz :=
  g_met hI (by decide +kernel) (Nat.le_of_ble_eq_true rfl) (fun p e s m below meth c ls G hW hl => w_X4_throwsAt_0 G _ ha0 _ _ _ hF _ _ _ hW hl)
section KX4_throwsAt
variable {p : Program} {l : Launch} {e : Env} {R : Room} {s : State} {m : MethodId} {args : Array Value} {below : List Frame} {meth : Method} {c : Code} {H : Heap} {locs : List Loc} {cells slots : Nat} {Q : State → Prop}
variable {cc : ByteArray} {pc nL Z : Nat} {ls : Array Slot} {rest : List Value} {D : va_G} {dA : Nat → ClassId} {α : Nat → Nat → Nat} {H0 : Heap} {σ σ' : sm_M} {ret : Option FieldType} {own nm : String}
theorem kk_X3_97 (G : gx p s m meth c args cc nL ret RX3 nm D dA) (hW : Wd D dA 0 α H0 σ H locs) {a0 : Nat} (ha0 : a0 < fN 4) {v1 : Int32} {v2 : Int32} {q : Int32 × sm_M} (hq : f_X4_throwsAt a0 v1 v2 σ = some q) (hls : ls.size = nL) (hR : 1 + 1 ≤ R.frames ∧ 8 + (3 + 11) + 44 * 1 ≤ R.locals) (hf : cells ≤ R.cells ∧ slots ≤ R.slots) (hcat : (rest.map fun v => v.category).sum ≤ 8) (hdg : decode cc pc = .ok (.invokevirtual 97, 3)) (kk : ∀ (H1 : Heap) (locs1 : List Loc), Wd D dA 0 α H0 q.2 H1 locs1 → W p l e R s m args below meth c H1 locs1 cells slots Q (F0 m (pc + 3) ls (.int q.1 :: rest))) : W p l e R s m args below meth c H locs cells slots Q (F0 m pc ls (.int v2 :: .int v1 :: .ref (α 4 a0) :: rest)) :=
  g_cV (n := 2) G (c_X4_throwsAt (l := l) hW.2.2.2 ha0 hq) ⟨wm_13_4, wm_13_5, wm_13_6, wm_2_11, wm_13_7⟩ (by decide +kernel) hW (g_recv (φ := 4) (ci := 4) G.2.2.2.2.2.2.2.2.1 rfl rfl rfl ha0 hW.1 rfl) hR hf rfl hls rfl hcat hdg kk
end KX4_throwsAt
section WX4_givesFor
variable {p : Program} {l : Launch} {e : Env} {s : State} {m : MethodId} {args : Array Value} {below : List Frame} {meth : Method} {c : Code} {D : va_G} {dA : Nat → ClassId} {α : Nat → Nat → Nat}
set_option maxHeartbeats 4000000 in
set_option maxRecDepth 100000 in
theorem w_X4_givesFor_29 (G : gx p s m meth c args cX4_givesFor 2 (some .boolean) RX4 "givesFor" D dA) {r : Int32} {σz : sm_M} : ∀ (s0 : Int32) (σ : sm_M), f_X4_givesFor_29 s0 σ = some (r, σz) → ∀ (H : Heap) (locs : List Loc) (ls : Array Slot), Wd D dA 0 α s.heap σ H locs → lv_has ls 2 [] → gW 0 p l e s m args below meth c D dA 0 α (some (.int r)) σz H locs (F0 m 29 ls [.int s0]) := by
  obtain ⟨hx, hb, hr, hlk, hml, hown, hnm, hts, hK, hNw⟩ := id G
  intro s0 σ hF H locs ls hW hl
  rw [f_X4_givesFor_29] at hF
  exact g_zret G hW hF dX4_givesFor_29
set_option maxHeartbeats 4000000 in
set_option maxRecDepth 100000 in
theorem w_X4_givesFor_28 (G : gx p s m meth c args cX4_givesFor 2 (some .boolean) RX4 "givesFor" D dA) {r : Int32} {σz : sm_M} : ∀ (σ : sm_M), f_X4_givesFor_28 σ = some (r, σz) → ∀ (H : Heap) (locs : List Loc) (ls : Array Slot), Wd D dA 0 α s.heap σ H locs → lv_has ls 2 [] → gW 0 p l e s m args below meth c D dA 0 α (some (.int r)) σz H locs (F0 m 28 ls []) := by
  obtain ⟨hx, hb, hr, hlk, hml, hown, hnm, hts, hK, hNw⟩ := id G
  intro σ hF H locs ls hW hl
  rw [f_X4_givesFor_28] at hF
  refine lv_iconst (v := 0) hx hb dX4_givesFor_28 (by decide) ?_
  exact w_X4_givesFor_29 G _ _ hF H locs ls hW (lv_sub hl [] rfl)
set_option maxHeartbeats 4000000 in
set_option maxRecDepth 100000 in
theorem w_X4_givesFor_24 (G : gx p s m meth c args cX4_givesFor 2 (some .boolean) RX4 "givesFor" D dA) {r : Int32} {σz : sm_M} : ∀ (σ : sm_M), f_X4_givesFor_24 σ = some (r, σz) → ∀ (H : Heap) (locs : List Loc) (ls : Array Slot), Wd D dA 0 α s.heap σ H locs → lv_has ls 2 [] → gW 0 p l e s m args below meth c D dA 0 α (some (.int r)) σz H locs (F0 m 24 ls []) := by
  obtain ⟨hx, hb, hr, hlk, hml, hown, hnm, hts, hK, hNw⟩ := id G
  intro σ hF H locs ls hW hl
  rw [f_X4_givesFor_24] at hF
  refine lv_iconst (v := 1) hx hb dX4_givesFor_24 (by decide) ?_
  refine lv_goto (tgt := 29) hx hb dX4_givesFor_25 (by decide) ?_
  exact w_X4_givesFor_29 G _ _ hF H locs ls hW (lv_sub hl [] rfl)
set_option maxHeartbeats 4000000 in
set_option maxRecDepth 100000 in
theorem w_X4_givesFor_0 (G : gx p s m meth c args cX4_givesFor 2 (some .boolean) RX4 "givesFor" D dA) {r : Int32} {σz : sm_M} : ∀ (a0 : Nat) (ha0 : a0 < fN 4) (v1 : Int32) (σ : sm_M), f_X4_givesFor a0 v1 σ = some (r, σz) → ∀ (H : Heap) (locs : List Loc) (ls : Array Slot), Wd D dA 0 α s.heap σ H locs → lv_has ls 2 [(0, .ref (α 4 a0)), (1, .int v1)] → gW 0 p l e s m args below meth c D dA 0 α (some (.int r)) σz H locs (F0 m 0 ls []) := by
  obtain ⟨hx, hb, hr, hlk, hml, hown, hnm, hts, hK, hNw⟩ := id G
  intro a0 ha0 v1 σ hF H locs ls hW hl
  rw [f_X4_givesFor] at hF
  refine lv_aload_n hx hb dX4_givesFor_0 rfl (lv_at hl 0 rfl) ?_
  refine gg_X4_18 G hW ha0 dX4_givesFor_1 ?_
  refine lv_iconst (v := 2) hx hb dX4_givesFor_4 (by decide) ?_
  refine lv_icmp_ne (tgt := 24) hx hb dX4_givesFor_5 (by decide) (fun hc => ?_) (fun hc => ?_)
  · replace hF := o_f hc hF
    exact w_X4_givesFor_24 G  _ hF H locs ls hW (lv_sub hl [] rfl)
  · replace hF := o_t hc hF
    refine lv_aload_n hx hb dX4_givesFor_8 rfl (lv_at hl 0 rfl) ?_
    refine gg_X4_22 G hW ha0 dX4_givesFor_9 ?_
    refine lv_if_le (tgt := 28) hx hb dX4_givesFor_12 (by decide) (fun hc => ?_) (fun hc => ?_)
    · replace hF := o_t hc hF
      exact w_X4_givesFor_28 G  _ hF H locs ls hW (lv_sub hl [] rfl)
    · replace hF := o_f hc hF
      refine lv_iload_n hx hb dX4_givesFor_15 rfl (lv_at hl 1 rfl) ?_
      refine lv_aload_n hx hb dX4_givesFor_16 rfl (lv_at hl 0 rfl) ?_
      refine gg_X4_22 G hW ha0 dX4_givesFor_17 ?_
      obtain ⟨hd, hF⟩ := o_n hF
      refine lv_irem hx hb dX4_givesFor_20 hd ?_
      refine lv_if_ne (tgt := 28) hx hb dX4_givesFor_21 (by decide) (fun hc => ?_) (fun hc => ?_)
      · replace hF := o_f hc hF
        exact w_X4_givesFor_28 G  _ hF H locs ls hW (lv_sub hl [] rfl)
      · replace hF := o_t hc hF
        exact w_X4_givesFor_24 G  _ hF H locs ls hW (lv_sub hl [] rfl)
end WX4_givesFor
theorem c_X4_givesFor {l : Launch} {D : va_G} {dA : Nat → ClassId} {α : Nat → Nat → Nat} (hI : Inj 0 α) {a0 : Nat} (ha0 : a0 < fN 4) {v1 : Int32} {σ σz : sm_M} {r : Int32} (hF : f_X4_givesFor a0 v1 σ = some (r, σz)) : gM l D dA 0 α yX4_givesFor cX4_givesFor 2 (some .boolean) 0 [.ref (α 4 a0), .int v1] σ (some (.int r)) σz :=
  g_met hI (by decide +kernel) (Nat.le_of_ble_eq_true rfl) (fun p e s m below meth c ls G hW hl => w_X4_givesFor_0 G _ ha0 _ _ hF _ _ _ hW hl)
section KX4_givesFor
variable {p : Program} {l : Launch} {e : Env} {R : Room} {s : State} {m : MethodId} {args : Array Value} {below : List Frame} {meth : Method} {c : Code} {H : Heap} {locs : List Loc} {cells slots : Nat} {Q : State → Prop}
variable {cc : ByteArray} {pc nL Z : Nat} {ls : Array Slot} {rest : List Value} {D : va_G} {dA : Nat → ClassId} {α : Nat → Nat → Nat} {H0 : Heap} {σ σ' : sm_M} {ret : Option FieldType} {own nm : String}
theorem kk_X5_288 (G : gx p s m meth c args cc nL ret RX5 nm D dA) (hW : Wd D dA 0 α H0 σ H locs) {a0 : Nat} (ha0 : a0 < fN 4) {v1 : Int32} {q : Int32 × sm_M} (hq : f_X4_givesFor a0 v1 σ = some q) (hls : ls.size = nL) (hR : 0 + 1 ≤ R.frames ∧ 8 + (2 + 11) + 44 * 0 ≤ R.locals) (hf : cells ≤ R.cells ∧ slots ≤ R.slots) (hcat : (rest.map fun v => v.category).sum ≤ 8) (hdg : decode cc pc = .ok (.invokevirtual 288, 3)) (kk : ∀ (H1 : Heap) (locs1 : List Loc), Wd D dA 0 α H0 q.2 H1 locs1 → W p l e R s m args below meth c H1 locs1 cells slots Q (F0 m (pc + 3) ls (.int q.1 :: rest))) : W p l e R s m args below meth c H locs cells slots Q (F0 m pc ls (.int v1 :: .ref (α 4 a0) :: rest)) :=
  g_cV (n := 1) G (c_X4_givesFor (l := l) hW.2.2.2 ha0 hq) ⟨wm_19_13, wm_13_14, wm_13_15, wm_2_11, wm_13_16⟩ (by decide +kernel) hW (g_recv (φ := 4) (ci := 4) G.2.2.2.2.2.2.2.2.1 rfl rfl rfl ha0 hW.1 rfl) hR hf rfl hls rfl hcat hdg kk
theorem kk_X3_104 (G : gx p s m meth c args cc nL ret RX3 nm D dA) (hW : Wd D dA 0 α H0 σ H locs) {a0 : Nat} (ha0 : a0 < fN 4) {v1 : Int32} {q : Int32 × sm_M} (hq : f_X4_givesFor a0 v1 σ = some q) (hls : ls.size = nL) (hR : 0 + 1 ≤ R.frames ∧ 8 + (2 + 11) + 44 * 0 ≤ R.locals) (hf : cells ≤ R.cells ∧ slots ≤ R.slots) (hcat : (rest.map fun v => v.category).sum ≤ 8) (hdg : decode cc pc = .ok (.invokevirtual 104, 3)) (kk : ∀ (H1 : Heap) (locs1 : List Loc), Wd D dA 0 α H0 q.2 H1 locs1 → W p l e R s m args below meth c H1 locs1 cells slots Q (F0 m (pc + 3) ls (.int q.1 :: rest))) : W p l e R s m args below meth c H locs cells slots Q (F0 m pc ls (.int v1 :: .ref (α 4 a0) :: rest)) :=
  g_cV (n := 1) G (c_X4_givesFor (l := l) hW.2.2.2 ha0 hq) ⟨wm_13_13, wm_13_14, wm_13_15, wm_2_11, wm_13_16⟩ (by decide +kernel) hW (g_recv (φ := 4) (ci := 4) G.2.2.2.2.2.2.2.2.1 rfl rfl rfl ha0 hW.1 rfl) hR hf rfl hls rfl hcat hdg kk
end KX4_givesFor
