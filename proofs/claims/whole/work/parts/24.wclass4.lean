section WX5_aside
variable {p : Program} {l : Launch} {e : Env} {s : State} {m : MethodId} {args : Array Value} {below : List Frame} {meth : Method} {c : Code} {D : va_G} {dA : Nat → ClassId} {α : Nat → Nat → Nat}
set_option maxHeartbeats 4000000 in
set_option maxRecDepth 100000 in
theorem w_X5_aside_46 (G : gx p s m meth c args cX5_aside 4 (some .int) RX5 "aside" D dA) {r : Int32} {σz : sm_M} : ∀ (s0 : Int32) (σ : sm_M), f_X5_aside_46 s0 σ = some (r, σz) → ∀ (H : Heap) (locs : List Loc) (ls : Array Slot), Wd D dA 0 α s.heap σ H locs → lv_has ls 4 [] → gW 1 p l e s m args below meth c D dA 0 α (some (.int r)) σz H locs (F0 m 46 ls [.int s0]) := by
  obtain ⟨hx, hb, hr, hlk, hml, hown, hnm, hts, hK, hNw⟩ := id G
  intro s0 σ hF H locs ls hW hl
  rw [f_X5_aside_46] at hF
  exact g_iret G hW hF dX5_aside_46
set_option maxHeartbeats 4000000 in
set_option maxRecDepth 100000 in
theorem w_X5_aside_44 (G : gx p s m meth c args cX5_aside 4 (some .int) RX5 "aside" D dA) {r : Int32} {σz : sm_M} : ∀ (σ : sm_M), f_X5_aside_44 σ = some (r, σz) → ∀ (H : Heap) (locs : List Loc) (ls : Array Slot), Wd D dA 0 α s.heap σ H locs → lv_has ls 4 [] → gW 1 p l e s m args below meth c D dA 0 α (some (.int r)) σz H locs (F0 m 44 ls []) := by
  obtain ⟨hx, hb, hr, hlk, hml, hown, hnm, hts, hK, hNw⟩ := id G
  intro σ hF H locs ls hW hl
  rw [f_X5_aside_44] at hF
  refine lv_bipush (v := -9) hx hb dX5_aside_44 (by decide) ?_
  exact w_X5_aside_46 G _ _ hF H locs ls hW (lv_sub hl [] rfl)
set_option maxHeartbeats 4000000 in
set_option maxRecDepth 100000 in
theorem w_X5_aside_0 (G : gx p s m meth c args cX5_aside 4 (some .int) RX5 "aside" D dA) {r : Int32} {σz : sm_M} : ∀ (v1 : Int32) (v2 : Int32) (σ : sm_M), f_X5_aside v1 v2 σ = some (r, σz) → ∀ (H : Heap) (locs : List Loc) (ls : Array Slot), Wd D dA 0 α s.heap σ H locs → lv_has ls 4 [(0, .ref (α 0 0)), (1, .int v1), (2, .int v2)] → gW 1 p l e s m args below meth c D dA 0 α (some (.int r)) σz H locs (F0 m 0 ls []) := by
  obtain ⟨hx, hb, hr, hlk, hml, hown, hnm, hts, hK, hNw⟩ := id G
  intro v1 v2 σ hF H locs ls hW hl
  rw [f_X5_aside] at hF
  refine lv_aload_n hx hb dX5_aside_0 rfl (lv_at hl 0 rfl) ?_
  refine gg_X5_10 G hW (by decide) dX5_aside_1 ?_
  refine lv_iload_n hx hb dX5_aside_4 rfl (lv_at hl 1 rfl) ?_
  obtain ⟨q1, hq1, hF⟩ := o_b hF
  refine kk_X5_57 G hW hq1 hl.1 ⟨Nat.le_of_ble_eq_true rfl, Nat.le_of_ble_eq_true rfl⟩ ⟨Nat.le_refl _, Nat.le_refl _⟩ (Nat.le_of_ble_eq_true rfl) dX5_aside_5 (fun H locs hW => ?_)
  refine lv_if_ne (tgt := 13) hx hb dX5_aside_8 (by decide) (fun hc => ?_) (fun hc => ?_)
  · replace hF := o_f hc hF
    refine lv_aload_n hx hb dX5_aside_13 rfl (lv_at hl 0 rfl) ?_
    refine gg_X5_10 G hW (by decide) dX5_aside_14 ?_
    refine gg_X5_60 G hW (by decide) dX5_aside_17 ?_
    refine lv_iload_n hx hb dX5_aside_20 rfl (lv_at hl 1 rfl) ?_
    obtain ⟨x2, hx2, hF⟩ := o_b hF
    refine g_aP (φ := 7) (ψ := 4) G rfl rfl (by decide) (ety := (.object "RegionRestarts$Task")) rfl rfl (fun _ => rfl) hW (by decide) hx2 dX5_aside_21 ?_
    refine lv_astore_n (lv' := [(3, .ref (α 4 x2)), (0, .ref (α 0 0)), (1, .int v1), (2, .int v2)]) hx hb dX5_aside_22 rfl hl (by decide) rfl (fun ls hl => ?_)
    refine lv_iload_n hx hb dX5_aside_23 rfl (lv_at hl 3 rfl) ?_
    refine lv_if_lt (tgt := 44) hx hb dX5_aside_24 (by decide) (fun hc => ?_) (fun hc => ?_)
    · replace hF := o_t hc hF
      exact w_X5_aside_44 G  _ hF H locs ls hW (lv_sub hl [] rfl)
    · replace hF := o_f hc hF
      refine lv_iload_n hx hb dX5_aside_27 rfl (lv_at hl 3 rfl) ?_
      refine lv_aload_n hx hb dX5_aside_28 rfl (lv_at hl 0 rfl) ?_
      refine gg_X5_212 G hW (aP_lt hx2) dX5_aside_29 ?_
      refine lv_icmp_ge (tgt := 44) hx hb dX5_aside_32 (by decide) (fun hc => ?_) (fun hc => ?_)
      · replace hF := o_t hc hF
        exact w_X5_aside_44 G  _ hF H locs ls hW (lv_sub hl [] rfl)
      · replace hF := o_f hc hF
        refine lv_aload_n hx hb dX5_aside_35 rfl (lv_at hl 0 rfl) ?_
        refine gg_X5_234 G hW (aP_lt hx2) dX5_aside_36 ?_
        refine lv_iload_n hx hb dX5_aside_39 rfl (lv_at hl 3 rfl) ?_
        obtain ⟨x3, hx3, hF⟩ := o_b hF
        refine g_aI (φ := 15) G rfl rfl (by decide) rfl hW (aP_lt hx2) hx3 dX5_aside_40 ?_
        refine lv_goto (tgt := 46) hx hb dX5_aside_41 (by decide) ?_
        exact w_X5_aside_46 G _ _ hF H locs ls hW (lv_sub hl [] rfl)
  · replace hF := o_t hc hF
    refine lv_iconst (v := -1) hx hb dX5_aside_11 (by decide) ?_
    exact g_iret G hW hF dX5_aside_12
end WX5_aside
theorem c_X5_aside {l : Launch} {D : va_G} {dA : Nat → ClassId} {α : Nat → Nat → Nat} (hI : Inj 0 α) {v1 : Int32} {v2 : Int32} {σ σz : sm_M} {r : Int32} (hF : f_X5_aside v1 v2 σ = some (r, σz)) : gM l D dA 0 α yX5_aside cX5_aside 4 (some .int) 1 [.ref (α 0 0), .int v1, .int v2] σ (some (.int r)) σz :=
  g_met hI (by decide +kernel) (Nat.le_of_ble_eq_true rfl) (fun p e s m below meth c ls G hW hl => w_X5_aside_0 G _ _ _ hF _ _ _ hW hl)
section KX5_aside
variable {p : Program} {l : Launch} {e : Env} {R : Room} {s : State} {m : MethodId} {args : Array Value} {below : List Frame} {meth : Method} {c : Code} {H : Heap} {locs : List Loc} {cells slots : Nat} {Q : State → Prop}
variable {cc : ByteArray} {pc nL Z : Nat} {ls : Array Slot} {rest : List Value} {D : va_G} {dA : Nat → ClassId} {α : Nat → Nat → Nat} {H0 : Heap} {σ σ' : sm_M} {ret : Option FieldType} {own nm : String}
end KX5_aside
section WX5_cause
variable {p : Program} {l : Launch} {e : Env} {s : State} {m : MethodId} {args : Array Value} {below : List Frame} {meth : Method} {c : Code} {D : va_G} {dA : Nat → ClassId} {α : Nat → Nat → Nat}
set_option maxHeartbeats 4000000 in
set_option maxRecDepth 100000 in
theorem w_X5_cause_27 (G : gx p s m meth c args cX5_cause 3 (some .int) RX5 "cause" D dA) {r : Int32} {σz : sm_M} : ∀ (σ : sm_M), f_X5_cause_27 σ = some (r, σz) → ∀ (H : Heap) (locs : List Loc) (ls : Array Slot), Wd D dA 0 α s.heap σ H locs → lv_has ls 3 [] → gW 0 p l e s m args below meth c D dA 0 α (some (.int r)) σz H locs (F0 m 27 ls []) := by
  obtain ⟨hx, hb, hr, hlk, hml, hown, hnm, hts, hK, hNw⟩ := id G
  intro σ hF H locs ls hW hl
  rw [f_X5_cause_27] at hF
  refine lv_bipush (v := -9) hx hb dX5_cause_27 (by decide) ?_
  exact g_iret G hW hF dX5_cause_29
set_option maxHeartbeats 4000000 in
set_option maxRecDepth 100000 in
theorem w_X5_cause_9 (G : gx p s m meth c args cX5_cause 3 (some .int) RX5 "cause" D dA) {r : Int32} {σz : sm_M} : ∀ (σ : sm_M), f_X5_cause_9 σ = some (r, σz) → ∀ (H : Heap) (locs : List Loc) (ls : Array Slot), Wd D dA 0 α s.heap σ H locs → lv_has ls 3 [] → gW 0 p l e s m args below meth c D dA 0 α (some (.int r)) σz H locs (F0 m 9 ls []) := by
  obtain ⟨hx, hb, hr, hlk, hml, hown, hnm, hts, hK, hNw⟩ := id G
  intro σ hF H locs ls hW hl
  rw [f_X5_cause_9] at hF
  refine lv_bipush (v := -2) hx hb dX5_cause_9 (by decide) ?_
  exact g_iret G hW hF dX5_cause_11
set_option maxHeartbeats 4000000 in
set_option maxRecDepth 100000 in
theorem w_X5_cause_0 (G : gx p s m meth c args cX5_cause 3 (some .int) RX5 "cause" D dA) {r : Int32} {σz : sm_M} : ∀ (v1 : Int32) (v2 : Int32) (σ : sm_M), f_X5_cause v1 v2 σ = some (r, σz) → ∀ (H : Heap) (locs : List Loc) (ls : Array Slot), Wd D dA 0 α s.heap σ H locs → lv_has ls 3 [(0, .ref (α 0 0)), (1, .int v1), (2, .int v2)] → gW 0 p l e s m args below meth c D dA 0 α (some (.int r)) σz H locs (F0 m 0 ls []) := by
  obtain ⟨hx, hb, hr, hlk, hml, hown, hnm, hts, hK, hNw⟩ := id G
  intro v1 v2 σ hF H locs ls hW hl
  rw [f_X5_cause] at hF
  refine lv_iload_n hx hb dX5_cause_0 rfl (lv_at hl 2 rfl) ?_
  refine lv_if_lt (tgt := 9) hx hb dX5_cause_1 (by decide) (fun hc => ?_) (fun hc => ?_)
  · replace hF := o_t hc hF
    exact w_X5_cause_9 G  _ hF H locs ls hW (lv_sub hl [] rfl)
  · replace hF := o_f hc hF
    refine lv_iload_n hx hb dX5_cause_4 rfl (lv_at hl 2 rfl) ?_
    refine lv_iconst (v := 2) hx hb dX5_cause_5 (by decide) ?_
    refine lv_icmp_le (tgt := 12) hx hb dX5_cause_6 (by decide) (fun hc => ?_) (fun hc => ?_)
    · replace hF := o_t hc hF
      refine lv_iload_n hx hb dX5_cause_12 rfl (lv_at hl 1 rfl) ?_
      refine lv_if_lt (tgt := 27) hx hb dX5_cause_13 (by decide) (fun hc => ?_) (fun hc => ?_)
      · replace hF := o_t hc hF
        exact w_X5_cause_27 G  _ hF H locs ls hW (lv_sub hl [] rfl)
      · replace hF := o_f hc hF
        refine lv_iload_n hx hb dX5_cause_16 rfl (lv_at hl 1 rfl) ?_
        refine lv_aload_n hx hb dX5_cause_17 rfl (lv_at hl 0 rfl) ?_
        refine gg_X5_26 G hW (by decide) dX5_cause_18 ?_
        refine gg_X5_237 G hW (by decide) dX5_cause_21 ?_
        refine lv_icmp_lt (tgt := 30) hx hb dX5_cause_24 (by decide) (fun hc => ?_) (fun hc => ?_)
        · replace hF := o_t hc hF
          refine lv_iload_n hx hb dX5_cause_30 rfl (lv_at hl 2 rfl) ?_
          by_cases n0 : v2 = 0
          · replace hF := o_t n0 hF
            refine lv_lookup (tgt := 56) (off := 25) hx hb dX5_cause_31 (by decide) (by rw [n0]; decide) (by decide) ?_
            refine lv_aload_n hx hb dX5_cause_56 rfl (lv_at hl 0 rfl) ?_
            refine gg_X5_26 G hW (by decide) dX5_cause_57 ?_
            refine gg_X5_238 G hW (by decide) dX5_cause_60 ?_
            refine lv_iload_n hx hb dX5_cause_63 rfl (lv_at hl 1 rfl) ?_
            obtain ⟨x1, hx1, hF⟩ := o_b hF
            refine g_aI (φ := 11) G rfl rfl (by decide) rfl hW (by decide) hx1 dX5_cause_64 ?_
            exact g_iret G hW hF dX5_cause_65
          · replace hF := o_f n0 hF
            by_cases n1 : v2 = 1
            · replace hF := o_t n1 hF
              refine lv_lookup (tgt := 66) (off := 35) hx hb dX5_cause_31 (by decide) (by rw [n1]; decide) (by decide) ?_
              refine lv_aload_n hx hb dX5_cause_66 rfl (lv_at hl 0 rfl) ?_
              refine gg_X5_26 G hW (by decide) dX5_cause_67 ?_
              refine gg_X5_240 G hW (by decide) dX5_cause_70 ?_
              refine lv_iload_n hx hb dX5_cause_73 rfl (lv_at hl 1 rfl) ?_
              obtain ⟨x2, hx2, hF⟩ := o_b hF
              refine g_aI (φ := 12) G rfl rfl (by decide) rfl hW (by decide) hx2 dX5_cause_74 ?_
              exact g_iret G hW hF dX5_cause_75
            · replace hF := o_f n1 hF
              refine lv_lookup (tgt := 76) (off := 45) hx hb dX5_cause_31 (by decide) (t_look (fun q => n0 (Int32.toInt_inj.mp (q.trans (by decide)))) (fun q => n1 (Int32.toInt_inj.mp (q.trans (by decide))))) (by decide) ?_
              refine lv_aload_n hx hb dX5_cause_76 rfl (lv_at hl 0 rfl) ?_
              refine gg_X5_26 G hW (by decide) dX5_cause_77 ?_
              refine gg_X5_243 G hW (by decide) dX5_cause_80 ?_
              refine lv_iload_n hx hb dX5_cause_83 rfl (lv_at hl 1 rfl) ?_
              obtain ⟨x3, hx3, hF⟩ := o_b hF
              refine g_aI (φ := 13) G rfl rfl (by decide) rfl hW (by decide) hx3 dX5_cause_84 ?_
              exact g_iret G hW hF dX5_cause_85
        · replace hF := o_f hc hF
          exact w_X5_cause_27 G  _ hF H locs ls hW (lv_sub hl [] rfl)
    · replace hF := o_f hc hF
      exact w_X5_cause_9 G  _ hF H locs ls hW (lv_sub hl [] rfl)
end WX5_cause
theorem c_X5_cause {l : Launch} {D : va_G} {dA : Nat → ClassId} {α : Nat → Nat → Nat} (hI : Inj 0 α) {v1 : Int32} {v2 : Int32} {σ σz : sm_M} {r : Int32} (hF : f_X5_cause v1 v2 σ = some (r, σz)) : gM l D dA 0 α yX5_cause cX5_cause 3 (some .int) 0 [.ref (α 0 0), .int v1, .int v2] σ (some (.int r)) σz :=
  g_met hI (by decide +kernel) (Nat.le_of_ble_eq_true rfl) (fun p e s m below meth c ls G hW hl => w_X5_cause_0 G _ _ _ hF _ _ _ hW hl)
section KX5_cause
variable {p : Program} {l : Launch} {e : Env} {R : Room} {s : State} {m : MethodId} {args : Array Value} {below : List Frame} {meth : Method} {c : Code} {H : Heap} {locs : List Loc} {cells slots : Nat} {Q : State → Prop}
variable {cc : ByteArray} {pc nL Z : Nat} {ls : Array Slot} {rest : List Value} {D : va_G} {dA : Nat → ClassId} {α : Nat → Nat → Nat} {H0 : Heap} {σ σ' : sm_M} {ret : Option FieldType} {own nm : String}
end KX5_cause
section WX5_told
variable {p : Program} {l : Launch} {e : Env} {s : State} {m : MethodId} {args : Array Value} {below : List Frame} {meth : Method} {c : Code} {D : va_G} {dA : Nat → ClassId} {α : Nat → Nat → Nat}
set_option maxHeartbeats 4000000 in
set_option maxRecDepth 100000 in
theorem w_X5_told_0 (G : gx p s m meth c args cX5_told 2 (some .int) RX5 "told" D dA) {r : Int32} {σz : sm_M} : ∀ (v1 : Int32) (σ : sm_M), f_X5_told v1 σ = some (r, σz) → ∀ (H : Heap) (locs : List Loc) (ls : Array Slot), Wd D dA 0 α s.heap σ H locs → lv_has ls 2 [(0, .ref (α 0 0)), (1, .int v1)] → gW 4 p l e s m args below meth c D dA 0 α (some (.int r)) σz H locs (F0 m 0 ls []) := by
  obtain ⟨hx, hb, hr, hlk, hml, hown, hnm, hts, hK, hNw⟩ := id G
  intro v1 σ hF H locs ls hW hl
  rw [f_X5_told] at hF
  refine lv_iload_n hx hb dX5_told_0 rfl (lv_at hl 1 rfl) ?_
  by_cases n0 : v1 = 0
  · replace hF := o_t n0 hF
    refine lv_tableIn (tgt := 60) (off := 59) hx hb dX5_told_1 (by rw [n0]; decide) (by rw [n0]; decide) (by rw [n0]; rfl) (by decide) ?_
    refine lv_aload_n hx hb dX5_told_60 rfl (lv_at hl 0 rfl) ?_
    refine gg_X5_10 G hW (by decide) dX5_told_61 ?_
    refine gg_X5_49 G hW (by decide) dX5_told_64 ?_
    exact g_iret G hW hF dX5_told_67
  · replace hF := o_f n0 hF
    by_cases n1 : v1 = 1
    · replace hF := o_t n1 hF
      refine lv_tableIn (tgt := 68) (off := 67) hx hb dX5_told_1 (by rw [n1]; decide) (by rw [n1]; decide) (by rw [n1]; rfl) (by decide) ?_
      refine lv_aload_n hx hb dX5_told_68 rfl (lv_at hl 0 rfl) ?_
      refine gg_X5_10 G hW (by decide) dX5_told_69 ?_
      refine gg_X5_69 G hW (by decide) dX5_told_72 ?_
      exact g_iret G hW hF dX5_told_75
    · replace hF := o_f n1 hF
      by_cases n2 : v1 = 2
      · replace hF := o_t n2 hF
        refine lv_tableIn (tgt := 76) (off := 75) hx hb dX5_told_1 (by rw [n2]; decide) (by rw [n2]; decide) (by rw [n2]; rfl) (by decide) ?_
        refine lv_aload_n hx hb dX5_told_76 rfl (lv_at hl 0 rfl) ?_
        refine gg_X5_110 G hW (by decide) dX5_told_77 ?_
        exact g_iret G hW hF dX5_told_80
      · replace hF := o_f n2 hF
        by_cases n3 : v1 = 3
        · replace hF := o_t n3 hF
          refine lv_tableIn (tgt := 81) (off := 80) hx hb dX5_told_1 (by rw [n3]; decide) (by rw [n3]; decide) (by rw [n3]; rfl) (by decide) ?_
          refine lv_aload_n hx hb dX5_told_81 rfl (lv_at hl 0 rfl) ?_
          refine gg_X5_88 G hW (by decide) dX5_told_82 ?_
          exact g_iret G hW hF dX5_told_85
        · replace hF := o_f n3 hF
          by_cases n4 : v1 = 4
          · replace hF := o_t n4 hF
            refine lv_tableIn (tgt := 86) (off := 85) hx hb dX5_told_1 (by rw [n4]; decide) (by rw [n4]; decide) (by rw [n4]; rfl) (by decide) ?_
            refine lv_aload_n hx hb dX5_told_86 rfl (lv_at hl 0 rfl) ?_
            refine gg_X5_178 G hW (by decide) dX5_told_87 ?_
            exact g_iret G hW hF dX5_told_90
          · replace hF := o_f n4 hF
            by_cases n5 : v1 = 5
            · replace hF := o_t n5 hF
              refine lv_tableIn (tgt := 91) (off := 90) hx hb dX5_told_1 (by rw [n5]; decide) (by rw [n5]; decide) (by rw [n5]; rfl) (by decide) ?_
              refine lv_aload_n hx hb dX5_told_91 rfl (lv_at hl 0 rfl) ?_
              refine gg_X5_26 G hW (by decide) dX5_told_92 ?_
              refine gg_X5_237 G hW (by decide) dX5_told_95 ?_
              exact g_iret G hW hF dX5_told_98
            · replace hF := o_f n5 hF
              by_cases n6 : v1 = 6
              · replace hF := o_t n6 hF
                refine lv_tableIn (tgt := 99) (off := 98) hx hb dX5_told_1 (by rw [n6]; decide) (by rw [n6]; decide) (by rw [n6]; rfl) (by decide) ?_
                refine lv_aload_n hx hb dX5_told_99 rfl (lv_at hl 0 rfl) ?_
                refine gg_X5_85 G hW (by decide) dX5_told_100 ?_
                obtain ⟨q1, hq1, hF⟩ := o_b hF
                refine kk_X5_205 G hW hq1 hl.1 ⟨Nat.le_of_ble_eq_true rfl, Nat.le_of_ble_eq_true rfl⟩ ⟨Nat.le_refl _, Nat.le_refl _⟩ (Nat.le_of_ble_eq_true rfl) dX5_told_103 (fun H locs hW => ?_)
                exact g_iret G hW hF dX5_told_106
              · replace hF := o_f n6 hF
                by_cases n7 : v1 = 7
                · replace hF := o_t n7 hF
                  refine lv_tableIn (tgt := 107) (off := 106) hx hb dX5_told_1 (by rw [n7]; decide) (by rw [n7]; decide) (by rw [n7]; rfl) (by decide) ?_
                  refine lv_aload_n hx hb dX5_told_107 rfl (lv_at hl 0 rfl) ?_
                  refine gg_X5_10 G hW (by decide) dX5_told_108 ?_
                  refine lv_aload_n hx hb dX5_told_111 rfl (lv_at hl 0 rfl) ?_
                  refine gg_X5_88 G hW (by decide) dX5_told_112 ?_
                  obtain ⟨q2, hq2, hF⟩ := o_b hF
                  refine kk_X5_172 G hW hq2 hl.1 ⟨Nat.le_of_ble_eq_true rfl, Nat.le_of_ble_eq_true rfl⟩ ⟨Nat.le_refl _, Nat.le_refl _⟩ (Nat.le_of_ble_eq_true rfl) dX5_told_115 (fun H locs hW => ?_)
                  exact g_iret G hW hF dX5_told_118
                · replace hF := o_f n7 hF
                  by_cases n8 : v1 = 8
                  · replace hF := o_t n8 hF
                    refine lv_tableIn (tgt := 119) (off := 118) hx hb dX5_told_1 (by rw [n8]; decide) (by rw [n8]; decide) (by rw [n8]; rfl) (by decide) ?_
                    refine lv_aload_n hx hb dX5_told_119 rfl (lv_at hl 0 rfl) ?_
                    refine gg_X5_10 G hW (by decide) dX5_told_120 ?_
                    obtain ⟨q3, hq3, hF⟩ := o_b hF
                    refine kk_X5_199 G hW hq3 hl.1 ⟨Nat.le_of_ble_eq_true rfl, Nat.le_of_ble_eq_true rfl⟩ ⟨Nat.le_refl _, Nat.le_refl _⟩ (Nat.le_of_ble_eq_true rfl) dX5_told_123 (fun H locs hW => ?_)
                    obtain ⟨q4, hq4, hF⟩ := o_b hF
                    refine kk_X5_246 G hW hq4 hl.1 ⟨Nat.le_of_ble_eq_true rfl, Nat.le_of_ble_eq_true rfl⟩ ⟨Nat.le_refl _, Nat.le_refl _⟩ (Nat.le_of_ble_eq_true rfl) dX5_told_126 (fun H locs hW => ?_)
                    exact g_iret G hW hF dX5_told_129
                  · replace hF := o_f n8 hF
                    by_cases n9 : v1 = 9
                    · replace hF := o_t n9 hF
                      refine lv_tableIn (tgt := 130) (off := 129) hx hb dX5_told_1 (by rw [n9]; decide) (by rw [n9]; decide) (by rw [n9]; rfl) (by decide) ?_
                      refine lv_aload_n hx hb dX5_told_130 rfl (lv_at hl 0 rfl) ?_
                      obtain ⟨q5, hq5, hF⟩ := o_b hF
                      refine kk_X5_120 G hW hq5 hl.1 ⟨Nat.le_of_ble_eq_true rfl, Nat.le_of_ble_eq_true rfl⟩ ⟨Nat.le_refl _, Nat.le_refl _⟩ (Nat.le_of_ble_eq_true rfl) dX5_told_131 (fun H locs hW => ?_)
                      exact g_iret G hW hF dX5_told_134
                    · replace hF := o_f n9 hF
                      by_cases n10 : v1 = 10
                      · replace hF := o_t n10 hF
                        refine lv_tableIn (tgt := 135) (off := 134) hx hb dX5_told_1 (by rw [n10]; decide) (by rw [n10]; decide) (by rw [n10]; rfl) (by decide) ?_
                        refine lv_aload_n hx hb dX5_told_135 rfl (lv_at hl 0 rfl) ?_
                        refine gg_X5_251 G hW (by decide) dX5_told_136 ?_
                        exact g_iret G hW hF dX5_told_139
                      · replace hF := o_f n10 hF
                        refine lv_tableOut (tgt := 140) hx hb dX5_told_1 (t_out 0 10 (fun z h1 h2 => by have hz : z = 0 ∨ z = 1 ∨ z = 2 ∨ z = 3 ∨ z = 4 ∨ z = 5 ∨ z = 6 ∨ z = 7 ∨ z = 8 ∨ z = 9 ∨ z = 10 := (by omega); rcases hz with rfl | rfl | rfl | rfl | rfl | rfl | rfl | rfl | rfl | rfl | rfl <;> assumption)) (by decide) ?_
                        refine lv_bipush (v := -2) hx hb dX5_told_140 (by decide) ?_
                        exact g_iret G hW hF dX5_told_142
end WX5_told
theorem c_X5_told {l : Launch} {D : va_G} {dA : Nat → ClassId} {α : Nat → Nat → Nat} (hI : Inj 0 α) {v1 : Int32} {σ σz : sm_M} {r : Int32} (hF : f_X5_told v1 σ = some (r, σz)) : gM l D dA 0 α yX5_told cX5_told 2 (some .int) 4 [.ref (α 0 0), .int v1] σ (some (.int r)) σz :=
  g_met hI (by decide +kernel) (Nat.le_of_ble_eq_true rfl) (fun p e s m below meth c ls G hW hl => w_X5_told_0 G _ _ hF _ _ _ hW hl)
section KX5_told
variable {p : Program} {l : Launch} {e : Env} {R : Room} {s : State} {m : MethodId} {args : Array Value} {below : List Frame} {meth : Method} {c : Code} {H : Heap} {locs : List Loc} {cells slots : Nat} {Q : State → Prop}
variable {cc : ByteArray} {pc nL Z : Nat} {ls : Array Slot} {rest : List Value} {D : va_G} {dA : Nat → ClassId} {α : Nat → Nat → Nat} {H0 : Heap} {σ σ' : sm_M} {ret : Option FieldType} {own nm : String}
end KX5_told
section WX5_startAnew
variable {p : Program} {l : Launch} {e : Env} {s : State} {m : MethodId} {args : Array Value} {below : List Frame} {meth : Method} {c : Code} {D : va_G} {dA : Nat → ClassId} {α : Nat → Nat → Nat}
set_option maxHeartbeats 4000000 in
set_option maxRecDepth 100000 in
theorem w_X5_startAnew_44 (G : gx p s m meth c args cX5_startAnew 2 none RX5 "startAnew" D dA) {σz : sm_M} : ∀ (σ : sm_M), f_X5_startAnew_44 σ = some σz → ∀ (H : Heap) (locs : List Loc) (ls : Array Slot), Wd D dA 0 α s.heap σ H locs → lv_has ls 2 [(0, .ref (α 0 0))] → gW 0 p l e s m args below meth c D dA 0 α none σz H locs (F0 m 44 ls []) := by
  obtain ⟨hx, hb, hr, hlk, hml, hown, hnm, hts, hK, hNw⟩ := id G
  intro σ hF H locs ls hW hl
  rw [f_X5_startAnew_44] at hF
  refine lv_aload_n hx hb dX5_startAnew_44 rfl (lv_at hl 0 rfl) ?_
  refine lv_iconst (v := 3) hx hb dX5_startAnew_45 (by decide) ?_
  obtain ⟨σ1, hσ1, hF⟩ := o_b hF
  refine pp_X5_79 G hW (by decide) hσ1 dX5_startAnew_46 (fun H locs hW => ?_)
  refine lv_aload_n hx hb dX5_startAnew_49 rfl (lv_at hl 0 rfl) ?_
  refine lv_iconst (v := 0) hx hb dX5_startAnew_50 (by decide) ?_
  obtain ⟨σ2, hσ2, hF⟩ := o_b hF
  refine pp_X5_82 G hW (by decide) hσ2 dX5_startAnew_51 (fun H locs hW => ?_)
  refine lv_aload_n hx hb dX5_startAnew_54 rfl (lv_at hl 0 rfl) ?_
  refine lv_iconst (v := 0) hx hb dX5_startAnew_55 (by decide) ?_
  obtain ⟨σ3, hσ3, hF⟩ := o_b hF
  refine pp_X5_88 G hW (by decide) hσ3 dX5_startAnew_56 (fun H locs hW => ?_)
  refine lv_aload_n hx hb dX5_startAnew_59 rfl (lv_at hl 0 rfl) ?_
  refine lv_lconst (v := 1) hx hb dX5_startAnew_60 (by decide) ?_
  obtain ⟨σ4, hσ4, hF⟩ := o_b hF
  refine pp_X5_254 G hW (by decide) hσ4 dX5_startAnew_61 (fun H locs hW => ?_)
  refine lv_aload_n hx hb dX5_startAnew_64 rfl (lv_at hl 0 rfl) ?_
  refine lv_iconst (v := 0) hx hb dX5_startAnew_65 (by decide) ?_
  obtain ⟨σ5, hσ5, hF⟩ := o_b hF
  refine pp_X5_178 G hW (by decide) hσ5 dX5_startAnew_66 (fun H locs hW => ?_)
  refine lv_aload_n hx hb dX5_startAnew_69 rfl (lv_at hl 0 rfl) ?_
  refine lv_iconst (v := 0) hx hb dX5_startAnew_70 (by decide) ?_
  obtain ⟨σ6, hσ6, hF⟩ := o_b hF
  refine pp_X5_110 G hW (by decide) hσ6 dX5_startAnew_71 (fun H locs hW => ?_)
  refine lv_aload_n hx hb dX5_startAnew_74 rfl (lv_at hl 0 rfl) ?_
  refine lv_iconst (v := 0) hx hb dX5_startAnew_75 (by decide) ?_
  obtain ⟨σ7, hσ7, hF⟩ := o_b hF
  refine pp_X5_251 G hW (by decide) hσ7 dX5_startAnew_76 (fun H locs hW => ?_)
  refine lv_aload_n hx hb dX5_startAnew_79 rfl (lv_at hl 0 rfl) ?_
  refine lv_iconst (v := 0) hx hb dX5_startAnew_80 (by decide) ?_
  obtain ⟨σ8, hσ8, hF⟩ := o_b hF
  refine pp_X5_45 G hW (by decide) hσ8 dX5_startAnew_81 (fun H locs hW => ?_)
  refine lv_aload_n hx hb dX5_startAnew_84 rfl (lv_at hl 0 rfl) ?_
  refine lv_iconst (v := 0) hx hb dX5_startAnew_85 (by decide) ?_
  obtain ⟨σ9, hσ9, hF⟩ := o_b hF
  refine pp_X5_85 G hW (by decide) hσ9 dX5_startAnew_86 (fun H locs hW => ?_)
  exact g_vret G hW hF dX5_startAnew_89
set_option maxHeartbeats 4000000 in
set_option maxRecDepth 100000 in
theorem w_X5_startAnew_26 (G : gx p s m meth c args cX5_startAnew 2 none RX5 "startAnew" D dA) {σz : sm_M} : ∀ (n : Nat) (v1 : Int32) (σ : sm_M), f_X5_startAnew_26 n v1 σ = some σz → ∀ (H : Heap) (locs : List Loc) (ls : Array Slot), Wd D dA 0 α s.heap σ H locs → lv_has ls 2 [(0, .ref (α 0 0)), (1, .int v1)] → gW 0 p l e s m args below meth c D dA 0 α none σz H locs (F0 m 26 ls []) := by
  obtain ⟨hx, hb, hr, hlk, hml, hown, hnm, hts, hK, hNw⟩ := id G
  intro n
  induction n with
  | zero => intro v1 σ hF; exact absurd hF (by intro h; cases h)
  | succ n ih =>
    intro v1 σ hF H locs ls hW hl
    rw [f_X5_startAnew_26] at hF
    refine lv_iload_n hx hb dX5_startAnew_26 rfl (lv_at hl 1 rfl) ?_
    refine lv_iconst (v := 4) hx hb dX5_startAnew_27 (by decide) ?_
    refine lv_icmp_ge (tgt := 44) hx hb dX5_startAnew_28 (by decide) (fun hc => ?_) (fun hc => ?_)
    · replace hF := o_t hc hF
      exact w_X5_startAnew_44 G  _ hF H locs ls hW (lv_sub hl [0] rfl)
    · replace hF := o_f hc hF
      refine lv_aload_n hx hb dX5_startAnew_31 rfl (lv_at hl 0 rfl) ?_
      refine gg_X5_30 G hW (by decide) dX5_startAnew_32 ?_
      refine lv_iload_n hx hb dX5_startAnew_35 rfl (lv_at hl 1 rfl) ?_
      refine lv_iconst (v := 1) hx hb dX5_startAnew_36 (by decide) ?_
      obtain ⟨σ1, hσ1, hF⟩ := o_b hF
      refine g_uZ (φ := 6) G rfl rfl (by decide) rfl hW (by decide) hσ1 dX5_startAnew_37 (fun H locs hW => ?_)
      refine lv_iinc (v := (v1 + 1)) (lv' := [(1, .int (v1 + 1)), (0, .ref (α 0 0))]) hx hb dX5_startAnew_38 hl (k := 1) rfl rfl (by decide) rfl (fun ls hl => ?_)
      refine lv_goto (tgt := 26) hx hb dX5_startAnew_41 (by decide) ?_
      exact ih _ _ hF H locs ls hW (lv_sub hl [1, 0] rfl)
set_option maxHeartbeats 4000000 in
set_option maxRecDepth 100000 in
theorem w_X5_startAnew_0 (G : gx p s m meth c args cX5_startAnew 2 none RX5 "startAnew" D dA) {σz : sm_M} : ∀ (σ : sm_M), f_X5_startAnew σ = some σz → ∀ (H : Heap) (locs : List Loc) (ls : Array Slot), Wd D dA 0 α s.heap σ H locs → lv_has ls 2 [(0, .ref (α 0 0))] → gW 0 p l e s m args below meth c D dA 0 α none σz H locs (F0 m 0 ls []) := by
  obtain ⟨hx, hb, hr, hlk, hml, hown, hnm, hts, hK, hNw⟩ := id G
  intro σ hF H locs ls hW hl
  rw [f_X5_startAnew] at hF
  refine lv_aload_n hx hb dX5_startAnew_0 rfl (lv_at hl 0 rfl) ?_
  refine gg_X5_10 G hW (by decide) dX5_startAnew_1 ?_
  refine lv_iconst (v := 0) hx hb dX5_startAnew_4 (by decide) ?_
  obtain ⟨σ1, hσ1, hF⟩ := o_b hF
  refine pp_X5_49 G hW (by decide) hσ1 dX5_startAnew_5 (fun H locs hW => ?_)
  refine lv_aload_n hx hb dX5_startAnew_8 rfl (lv_at hl 0 rfl) ?_
  refine gg_X5_10 G hW (by decide) dX5_startAnew_9 ?_
  refine lv_iconst (v := 0) hx hb dX5_startAnew_12 (by decide) ?_
  obtain ⟨σ2, hσ2, hF⟩ := o_b hF
  refine pp_X5_69 G hW (by decide) hσ2 dX5_startAnew_13 (fun H locs hW => ?_)
  refine lv_aload_n hx hb dX5_startAnew_16 rfl (lv_at hl 0 rfl) ?_
  refine gg_X5_26 G hW (by decide) dX5_startAnew_17 ?_
  refine lv_iconst (v := 0) hx hb dX5_startAnew_20 (by decide) ?_
  obtain ⟨σ3, hσ3, hF⟩ := o_b hF
  refine pp_X5_237 G hW (by decide) hσ3 dX5_startAnew_21 (fun H locs hW => ?_)
  refine lv_iconst (v := 0) hx hb dX5_startAnew_24 (by decide) ?_
  refine lv_istore_n (lv' := [(1, .int (0 : Int32)), (0, .ref (α 0 0))]) hx hb dX5_startAnew_25 rfl hl (by decide) rfl (fun ls hl => ?_)
  exact w_X5_startAnew_26 G 1000 _ _ hF H locs ls hW (lv_sub hl [1, 0] rfl)
end WX5_startAnew
theorem c_X5_startAnew {l : Launch} {D : va_G} {dA : Nat → ClassId} {α : Nat → Nat → Nat} (hI : Inj 0 α) {σ σz : sm_M} (hF : f_X5_startAnew σ = some σz) : gM l D dA 0 α yX5_startAnew cX5_startAnew 2 none 0 [.ref (α 0 0)] σ none σz :=
  g_met hI (by decide +kernel) (Nat.le_of_ble_eq_true rfl) (fun p e s m below meth c ls G hW hl => w_X5_startAnew_0 G  _ hF _ _ _ hW hl)
section KX5_startAnew
variable {p : Program} {l : Launch} {e : Env} {R : Room} {s : State} {m : MethodId} {args : Array Value} {below : List Frame} {meth : Method} {c : Code} {H : Heap} {locs : List Loc} {cells slots : Nat} {Q : State → Prop}
variable {cc : ByteArray} {pc nL Z : Nat} {ls : Array Slot} {rest : List Value} {D : va_G} {dA : Nat → ClassId} {α : Nat → Nat → Nat} {H0 : Heap} {σ σ' : sm_M} {ret : Option FieldType} {own nm : String}
theorem kk_X5_34 (G : gx p s m meth c args cc nL ret RX5 nm D dA) (hW : Wd D dA 0 α H0 σ H locs) {q : sm_M} (hq : f_X5_startAnew σ = some q) (hls : ls.size = nL) (hR : 0 + 1 ≤ R.frames ∧ 8 + (2 + 11) + 44 * 0 ≤ R.locals) (hf : cells ≤ R.cells ∧ slots ≤ R.slots) (hcat : (rest.map fun v => v.category).sum ≤ 8) (hdg : decode cc pc = .ok (.invokevirtual 34, 3)) (kk : ∀ (H1 : Heap) (locs1 : List Loc), Wd D dA 0 α H0 q H1 locs1 → W p l e R s m args below meth c H1 locs1 cells slots Q (F0 m (pc + 3) ls rest)) : W p l e R s m args below meth c H locs cells slots Q (F0 m pc ls (.ref (α 0 0) :: rest)) :=
  g_cV (n := 0) G (c_X5_startAnew (l := l) hW.2.2.2 hq) ⟨wm_3_11, wm_3_12, wm_3_13, wm_1_2, wm_3_14⟩ (by decide +kernel) hW (g_recv (φ := 0) (ci := 5) G.2.2.2.2.2.2.2.2.1 rfl rfl rfl (by decide) hW.1 rfl) hR hf rfl hls rfl hcat hdg kk
end KX5_startAnew
section WX5_clear
variable {p : Program} {l : Launch} {e : Env} {s : State} {m : MethodId} {args : Array Value} {below : List Frame} {meth : Method} {c : Code} {D : va_G} {dA : Nat → ClassId} {α : Nat → Nat → Nat}
set_option maxHeartbeats 4000000 in
set_option maxRecDepth 100000 in
theorem w_X5_clear_0 (G : gx p s m meth c args cX5_clear 2 (some .int) RX5 "clear" D dA) {r : Int32} {σz : sm_M} : ∀ (σ : sm_M), f_X5_clear σ = some (r, σz) → ∀ (H : Heap) (locs : List Loc) (ls : Array Slot), Wd D dA 0 α s.heap σ H locs → lv_has ls 2 [(0, .ref (α 0 0))] → gW 1 p l e s m args below meth c D dA 0 α (some (.int r)) σz H locs (F0 m 0 ls []) := by
  obtain ⟨hx, hb, hr, hlk, hml, hown, hnm, hts, hK, hNw⟩ := id G
  intro σ hF H locs ls hW hl
  rw [f_X5_clear] at hF
  refine lv_aload_n hx hb dX5_clear_0 rfl (lv_at hl 0 rfl) ?_
  refine gg_X5_10 G hW (by decide) dX5_clear_1 ?_
  refine gg_X5_49 G hW (by decide) dX5_clear_4 ?_
  refine lv_istore_n (lv' := [(1, .int (σ.1 1 0 2)), (0, .ref (α 0 0))]) hx hb dX5_clear_7 rfl hl (by decide) rfl (fun ls hl => ?_)
  refine lv_aload_n hx hb dX5_clear_8 rfl (lv_at hl 1 rfl) ?_
  obtain ⟨q1, hq1, hF⟩ := o_b hF
  refine kk_X5_34 G hW hq1 hl.1 ⟨Nat.le_of_ble_eq_true rfl, Nat.le_of_ble_eq_true rfl⟩ ⟨Nat.le_refl _, Nat.le_refl _⟩ (Nat.le_of_ble_eq_true rfl) dX5_clear_9 (fun H locs hW => ?_)
  refine lv_iload_n hx hb dX5_clear_12 rfl (lv_at hl 0 rfl) ?_
  exact g_iret G hW hF dX5_clear_13
end WX5_clear
theorem c_X5_clear {l : Launch} {D : va_G} {dA : Nat → ClassId} {α : Nat → Nat → Nat} (hI : Inj 0 α) {σ σz : sm_M} {r : Int32} (hF : f_X5_clear σ = some (r, σz)) : gM l D dA 0 α yX5_clear cX5_clear 2 (some .int) 1 [.ref (α 0 0)] σ (some (.int r)) σz :=
  g_met hI (by decide +kernel) (Nat.le_of_ble_eq_true rfl) (fun p e s m below meth c ls G hW hl => w_X5_clear_0 G  _ hF _ _ _ hW hl)
section KX5_clear
variable {p : Program} {l : Launch} {e : Env} {R : Room} {s : State} {m : MethodId} {args : Array Value} {below : List Frame} {meth : Method} {c : Code} {H : Heap} {locs : List Loc} {cells slots : Nat} {Q : State → Prop}
variable {cc : ByteArray} {pc nL Z : Nat} {ls : Array Slot} {rest : List Value} {D : va_G} {dA : Nat → ClassId} {α : Nat → Nat → Nat} {H0 : Heap} {σ σ' : sm_M} {ret : Option FieldType} {own nm : String}
end KX5_clear
