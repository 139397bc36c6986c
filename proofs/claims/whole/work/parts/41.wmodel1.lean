section WX6_nextOf
variable {p : Program} {l : Launch} {e : Env} {s : State} {m : MethodId} {args : Array Value} {below : List Frame} {meth : Method} {c : Code} {D : va_G} {dA : Nat → ClassId} {α : Nat → Nat → Nat}
set_option maxHeartbeats 4000000 in
set_option maxRecDepth 100000 in
theorem w_X6_nextOf_101 (G : gx p s m meth c args cX6_nextOf 4 (some .int) RX6 "nextOf" D dA) {r : Int32} {σz : sm_M} : ∀ (s0 : Int32) (σ : sm_M), f_X6_nextOf_101 s0 σ = some (r, σz) → ∀ (H : Heap) (locs : List Loc) (ls : Array Slot), Wd D dA 1 α s.heap σ H locs → lv_has ls 4 [] → gW 1 p l e s m args below meth c D dA 1 α (some (.int r)) σz H locs (F0 m 101 ls [.int s0]) := by
  obtain ⟨hx, hb, hr, hlk, hml, hown, hnm, hts, hK, hNw⟩ := id G
  intro s0 σ hF H locs ls hW hl
  rw [f_X6_nextOf_101] at hF
  exact g_iret G hW hF dX6_nextOf_101
set_option maxHeartbeats 4000000 in
set_option maxRecDepth 100000 in
theorem w_X6_nextOf_99 (G : gx p s m meth c args cX6_nextOf 4 (some .int) RX6 "nextOf" D dA) {r : Int32} {σz : sm_M} : ∀ (σ : sm_M), f_X6_nextOf_99 σ = some (r, σz) → ∀ (H : Heap) (locs : List Loc) (ls : Array Slot), Wd D dA 1 α s.heap σ H locs → lv_has ls 4 [] → gW 1 p l e s m args below meth c D dA 1 α (some (.int r)) σz H locs (F0 m 99 ls []) := by
  obtain ⟨hx, hb, hr, hlk, hml, hown, hnm, hts, hK, hNw⟩ := id G
  intro σ hF H locs ls hW hl
  rw [f_X6_nextOf_99] at hF
  refine lv_bipush (v := -9) hx hb dX6_nextOf_99 (by decide) ?_
  exact w_X6_nextOf_101 G _ _ hF H locs ls hW (lv_sub hl [] rfl)
set_option maxHeartbeats 4000000 in
set_option maxRecDepth 100000 in
theorem w_X6_nextOf_75 (G : gx p s m meth c args cX6_nextOf 4 (some .int) RX6 "nextOf" D dA) {r : Int32} {σz : sm_M} : ∀ (v2 : Int32) (σ : sm_M), f_X6_nextOf_75 v2 σ = some (r, σz) → ∀ (H : Heap) (locs : List Loc) (ls : Array Slot), Wd D dA 1 α s.heap σ H locs → lv_has ls 4 [(0, .ref (α 20 0)), (2, .int v2)] → gW 1 p l e s m args below meth c D dA 1 α (some (.int r)) σz H locs (F0 m 75 ls []) := by
  obtain ⟨hx, hb, hr, hlk, hml, hown, hnm, hts, hK, hNw⟩ := id G
  intro v2 σ hF H locs ls hW hl
  rw [f_X6_nextOf_75] at hF
  refine lv_iload_n hx hb dX6_nextOf_75 rfl (lv_at hl 1 rfl) ?_
  refine lv_bipush (v := -9) hx hb dX6_nextOf_76 (by decide) ?_
  refine lv_icmp_eq (tgt := 99) hx hb dX6_nextOf_78 (by decide) (fun hc => ?_) (fun hc => ?_)
  · replace hF := o_t hc hF
    exact w_X6_nextOf_99 G  _ hF H locs ls hW (lv_sub hl [] rfl)
  · replace hF := o_f hc hF
    refine lv_aload_n hx hb dX6_nextOf_81 rfl (lv_at hl 0 rfl) ?_
    refine gg_X6_68 G hW (by decide) dX6_nextOf_82 ?_
    refine lv_iload_n hx hb dX6_nextOf_85 rfl (lv_at hl 1 rfl) ?_
    obtain ⟨x1, hx1, hF⟩ := o_b hF
    refine g_aI (φ := 40) G rfl rfl (by decide) rfl hW (by decide) hx1 dX6_nextOf_86 ?_
    refine lv_aload_n hx hb dX6_nextOf_87 rfl (lv_at hl 0 rfl) ?_
    refine lv_iload_n hx hb dX6_nextOf_88 rfl (lv_at hl 1 rfl) ?_
    obtain ⟨q2, hq2, hF⟩ := o_b hF
    refine kk_X6_183 G hW hq2 hl.1 ⟨Nat.le_of_ble_eq_true rfl, Nat.le_of_ble_eq_true rfl⟩ ⟨Nat.le_refl _, Nat.le_refl _⟩ (Nat.le_of_ble_eq_true rfl) dX6_nextOf_89 (fun H locs hW => ?_)
    refine lv_icmp_ge (tgt := 99) hx hb dX6_nextOf_92 (by decide) (fun hc => ?_) (fun hc => ?_)
    · replace hF := o_t hc hF
      exact w_X6_nextOf_99 G  _ hF H locs ls hW (lv_sub hl [] rfl)
    · replace hF := o_f hc hF
      refine lv_iload_n hx hb dX6_nextOf_95 rfl (lv_at hl 1 rfl) ?_
      refine lv_goto (tgt := 101) hx hb dX6_nextOf_96 (by decide) ?_
      exact w_X6_nextOf_101 G _ _ hF H locs ls hW (lv_sub hl [] rfl)
set_option maxHeartbeats 4000000 in
set_option maxRecDepth 100000 in
theorem w_X6_nextOf_68 (G : gx p s m meth c args cX6_nextOf 4 (some .int) RX6 "nextOf" D dA) {r : Int32} {σz : sm_M} (k41 : Int32 → Int32 → Int32 → sm_M → Option (Int32 × sm_M)) (hk41 : ∀ (v1 : Int32) (v2 : Int32) (v3 : Int32) (σ : sm_M), k41 v1 v2 v3 σ = some (r, σz) → ∀ (H : Heap) (locs : List Loc) (ls : Array Slot), Wd D dA 1 α s.heap σ H locs → lv_has ls 4 [(0, .ref (α 20 0)), (1, .int v1), (2, .int v2), (3, .int v3)] → gW 1 p l e s m args below meth c D dA 1 α (some (.int r)) σz H locs (F0 m 41 ls [])) : ∀ (v1 : Int32) (v3 : Int32) (s0 : Int32) (σ : sm_M), f_X6_nextOf_68 k41 v1 v3 s0 σ = some (r, σz) → ∀ (H : Heap) (locs : List Loc) (ls : Array Slot), Wd D dA 1 α s.heap σ H locs → lv_has ls 4 [(0, .ref (α 20 0)), (1, .int v1), (3, .int v3)] → gW 1 p l e s m args below meth c D dA 1 α (some (.int r)) σz H locs (F0 m 68 ls [.int s0]) := by
  obtain ⟨hx, hb, hr, hlk, hml, hown, hnm, hts, hK, hNw⟩ := id G
  intro v1 v3 s0 σ hF H locs ls hW hl
  rw [f_X6_nextOf_68] at hF
  refine lv_istore_n (lv' := [(2, .int s0), (0, .ref (α 20 0)), (1, .int v1), (3, .int v3)]) hx hb dX6_nextOf_68 rfl hl (by decide) rfl (fun ls hl => ?_)
  refine lv_iinc (v := (v3 + (-1))) (lv' := [(3, .int (v3 + (-1))), (2, .int s0), (0, .ref (α 20 0)), (1, .int v1)]) hx hb dX6_nextOf_69 hl (k := 3) rfl rfl (by decide) rfl (fun ls hl => ?_)
  refine lv_goto (tgt := 41) hx hb dX6_nextOf_72 (by decide) ?_
  exact hk41 _ _ _ _ hF H locs ls hW (lv_sub hl [2, 3, 1, 0] rfl)
set_option maxHeartbeats 4000000 in
set_option maxRecDepth 100000 in
theorem w_X6_nextOf_67 (G : gx p s m meth c args cX6_nextOf 4 (some .int) RX6 "nextOf" D dA) {r : Int32} {σz : sm_M} (k41 : Int32 → Int32 → Int32 → sm_M → Option (Int32 × sm_M)) (hk41 : ∀ (v1 : Int32) (v2 : Int32) (v3 : Int32) (σ : sm_M), k41 v1 v2 v3 σ = some (r, σz) → ∀ (H : Heap) (locs : List Loc) (ls : Array Slot), Wd D dA 1 α s.heap σ H locs → lv_has ls 4 [(0, .ref (α 20 0)), (1, .int v1), (2, .int v2), (3, .int v3)] → gW 1 p l e s m args below meth c D dA 1 α (some (.int r)) σz H locs (F0 m 41 ls [])) : ∀ (v1 : Int32) (v2 : Int32) (v3 : Int32) (σ : sm_M), f_X6_nextOf_67 k41 v1 v2 v3 σ = some (r, σz) → ∀ (H : Heap) (locs : List Loc) (ls : Array Slot), Wd D dA 1 α s.heap σ H locs → lv_has ls 4 [(0, .ref (α 20 0)), (1, .int v1), (2, .int v2), (3, .int v3)] → gW 1 p l e s m args below meth c D dA 1 α (some (.int r)) σz H locs (F0 m 67 ls []) := by
  obtain ⟨hx, hb, hr, hlk, hml, hown, hnm, hts, hK, hNw⟩ := id G
  intro v1 v2 v3 σ hF H locs ls hW hl
  rw [f_X6_nextOf_67] at hF
  refine lv_iload_n hx hb dX6_nextOf_67 rfl (lv_at hl 2 rfl) ?_
  exact w_X6_nextOf_68 G k41 hk41 _ _ _ _ hF H locs ls hW (lv_sub hl [0, 1, 3] rfl)
set_option maxHeartbeats 4000000 in
set_option maxRecDepth 100000 in
theorem w_X6_nextOf_41 (G : gx p s m meth c args cX6_nextOf 4 (some .int) RX6 "nextOf" D dA) {r : Int32} {σz : sm_M} : ∀ (n : Nat) (v1 : Int32) (v2 : Int32) (v3 : Int32) (σ : sm_M), f_X6_nextOf_41 n v1 v2 v3 σ = some (r, σz) → ∀ (H : Heap) (locs : List Loc) (ls : Array Slot), Wd D dA 1 α s.heap σ H locs → lv_has ls 4 [(0, .ref (α 20 0)), (1, .int v1), (2, .int v2), (3, .int v3)] → gW 1 p l e s m args below meth c D dA 1 α (some (.int r)) σz H locs (F0 m 41 ls []) := by
  obtain ⟨hx, hb, hr, hlk, hml, hown, hnm, hts, hK, hNw⟩ := id G
  intro n
  induction n with
  | zero => intro v1 v2 v3 σ hF; exact absurd hF (by intro h; cases h)
  | succ n ih =>
    intro v1 v2 v3 σ hF H locs ls hW hl
    rw [f_X6_nextOf_41] at hF
    refine lv_iload_n hx hb dX6_nextOf_41 rfl (lv_at hl 3 rfl) ?_
    refine lv_if_lt (tgt := 75) hx hb dX6_nextOf_42 (by decide) (fun hc => ?_) (fun hc => ?_)
    · replace hF := o_t hc hF
      exact w_X6_nextOf_75 G _ _ hF H locs ls hW (lv_sub hl [0, 2] rfl)
    · replace hF := o_f hc hF
      refine lv_aload_n hx hb dX6_nextOf_45 rfl (lv_at hl 0 rfl) ?_
      refine gg_X6_52 G hW (by decide) dX6_nextOf_46 ?_
      refine lv_iload_n hx hb dX6_nextOf_49 rfl (lv_at hl 3 rfl) ?_
      obtain ⟨x1, hx1, hF⟩ := o_b hF
      refine g_aI (φ := 35) G rfl rfl (by decide) rfl hW (by decide) hx1 dX6_nextOf_50 ?_
      refine lv_iload_n hx hb dX6_nextOf_51 rfl (lv_at hl 1 rfl) ?_
      refine lv_icmp_ne (tgt := 67) hx hb dX6_nextOf_52 (by decide) (fun hc => ?_) (fun hc => ?_)
      · replace hF := o_f hc hF
        exact w_X6_nextOf_67 G (f_X6_nextOf_41 n) ih _ _ _ _ hF H locs ls hW (lv_sub hl [0, 1, 2, 3] rfl)
      · replace hF := o_t hc hF
        refine lv_aload_n hx hb dX6_nextOf_55 rfl (lv_at hl 0 rfl) ?_
        refine lv_iload_n hx hb dX6_nextOf_56 rfl (lv_at hl 3 rfl) ?_
        obtain ⟨q2, hq2, hF⟩ := o_b hF
        refine kk_X6_180 G hW hq2 hl.1 ⟨Nat.le_of_ble_eq_true rfl, Nat.le_of_ble_eq_true rfl⟩ ⟨Nat.le_refl _, Nat.le_refl _⟩ (Nat.le_of_ble_eq_true rfl) dX6_nextOf_57 (fun H locs hW => ?_)
        refine lv_if_ne (tgt := 67) hx hb dX6_nextOf_60 (by decide) (fun hc => ?_) (fun hc => ?_)
        · replace hF := o_f hc hF
          exact w_X6_nextOf_67 G (f_X6_nextOf_41 n) ih _ _ _ _ hF H locs ls hW (lv_sub hl [0, 1, 2, 3] rfl)
        · replace hF := o_t hc hF
          refine lv_iload_n hx hb dX6_nextOf_63 rfl (lv_at hl 3 rfl) ?_
          refine lv_goto (tgt := 68) hx hb dX6_nextOf_64 (by decide) ?_
          exact w_X6_nextOf_68 G (f_X6_nextOf_41 n) ih _ _ _ _ hF H locs ls hW (lv_sub hl [0, 1, 3] rfl)
set_option maxHeartbeats 4000000 in
set_option maxRecDepth 100000 in
theorem w_X6_nextOf_30 (G : gx p s m meth c args cX6_nextOf 4 (some .int) RX6 "nextOf" D dA) {r : Int32} {σz : sm_M} : ∀ (s0 : Int32) (σ : sm_M), f_X6_nextOf_30 s0 σ = some (r, σz) → ∀ (H : Heap) (locs : List Loc) (ls : Array Slot), Wd D dA 1 α s.heap σ H locs → lv_has ls 4 [] → gW 1 p l e s m args below meth c D dA 1 α (some (.int r)) σz H locs (F0 m 30 ls [.int s0]) := by
  obtain ⟨hx, hb, hr, hlk, hml, hown, hnm, hts, hK, hNw⟩ := id G
  intro s0 σ hF H locs ls hW hl
  rw [f_X6_nextOf_30] at hF
  exact g_iret G hW hF dX6_nextOf_30
set_option maxHeartbeats 4000000 in
set_option maxRecDepth 100000 in
theorem w_X6_nextOf_0 (G : gx p s m meth c args cX6_nextOf 4 (some .int) RX6 "nextOf" D dA) {r : Int32} {σz : sm_M} : ∀ (v1 : Int32) (σ : sm_M), f_X6_nextOf v1 σ = some (r, σz) → ∀ (H : Heap) (locs : List Loc) (ls : Array Slot), Wd D dA 1 α s.heap σ H locs → lv_has ls 4 [(0, .ref (α 20 0)), (1, .int v1)] → gW 1 p l e s m args below meth c D dA 1 α (some (.int r)) σz H locs (F0 m 0 ls []) := by
  obtain ⟨hx, hb, hr, hlk, hml, hown, hnm, hts, hK, hNw⟩ := id G
  intro v1 σ hF H locs ls hW hl
  rw [f_X6_nextOf] at hF
  refine lv_aload_n hx hb dX6_nextOf_0 rfl (lv_at hl 0 rfl) ?_
  refine gg_X6_7 G hW (by decide) dX6_nextOf_1 ?_
  refine lv_iload_n hx hb dX6_nextOf_4 rfl (lv_at hl 1 rfl) ?_
  obtain ⟨x1, hx1, hF⟩ := o_b hF
  refine g_aI (φ := 21) G rfl rfl (by decide) rfl hW (by decide) hx1 dX6_nextOf_5 ?_
  refine lv_if_ne (tgt := 31) hx hb dX6_nextOf_6 (by decide) (fun hc => ?_) (fun hc => ?_)
  · replace hF := o_f hc hF
    refine lv_bipush (v := -9) hx hb dX6_nextOf_31 (by decide) ?_
    refine lv_istore_n (lv' := [(2, .int (-9 : Int32)), (0, .ref (α 20 0)), (1, .int v1)]) hx hb dX6_nextOf_33 rfl hl (by decide) rfl (fun ls hl => ?_)
    refine lv_aload_n hx hb dX6_nextOf_34 rfl (lv_at hl 1 rfl) ?_
    refine gg_X6_135 G hW (by decide) dX6_nextOf_35 ?_
    refine lv_iconst (v := 1) hx hb dX6_nextOf_38 (by decide) ?_
    refine lv_isub hx hb dX6_nextOf_39 ?_
    refine lv_istore_n (lv' := [(3, .int ((σ.1 20 0 14) - (1 : Int32))), (2, .int (-9 : Int32)), (0, .ref (α 20 0)), (1, .int v1)]) hx hb dX6_nextOf_40 rfl hl (by decide) rfl (fun ls hl => ?_)
    exact w_X6_nextOf_41 G 1000 _ _ _ _ hF H locs ls hW (lv_sub hl [2, 3, 1, 0] rfl)
  · replace hF := o_t hc hF
    refine lv_aload_n hx hb dX6_nextOf_9 rfl (lv_at hl 0 rfl) ?_
    refine gg_X6_19 G hW (by decide) dX6_nextOf_10 ?_
    refine lv_iload_n hx hb dX6_nextOf_13 rfl (lv_at hl 1 rfl) ?_
    obtain ⟨x2, hx2, hF⟩ := o_b hF
    refine g_aI (φ := 24) G rfl rfl (by decide) rfl hW (by decide) hx2 dX6_nextOf_14 ?_
    refine lv_aload_n hx hb dX6_nextOf_15 rfl (lv_at hl 0 rfl) ?_
    refine gg_X6_13 G hW (by decide) dX6_nextOf_16 ?_
    refine lv_iload_n hx hb dX6_nextOf_19 rfl (lv_at hl 1 rfl) ?_
    obtain ⟨x3, hx3, hF⟩ := o_b hF
    refine g_aI (φ := 22) G rfl rfl (by decide) rfl hW (by decide) hx3 dX6_nextOf_20 ?_
    refine lv_icmp_ge (tgt := 28) hx hb dX6_nextOf_21 (by decide) (fun hc => ?_) (fun hc => ?_)
    · replace hF := o_t hc hF
      refine lv_bipush (v := -9) hx hb dX6_nextOf_28 (by decide) ?_
      exact w_X6_nextOf_30 G _ _ hF H locs ls hW (lv_sub hl [] rfl)
    · replace hF := o_f hc hF
      refine lv_iconst (v := -1) hx hb dX6_nextOf_24 (by decide) ?_
      refine lv_goto (tgt := 30) hx hb dX6_nextOf_25 (by decide) ?_
      exact w_X6_nextOf_30 G _ _ hF H locs ls hW (lv_sub hl [] rfl)
end WX6_nextOf
theorem c_X6_nextOf {l : Launch} {D : va_G} {dA : Nat → ClassId} {α : Nat → Nat → Nat} (hI : Inj 1 α) {v1 : Int32} {σ σz : sm_M} {r : Int32} (hF : f_X6_nextOf v1 σ = some (r, σz)) : gM l D dA 1 α yX6_nextOf cX6_nextOf 4 (some .int) 1 [.ref (α 20 0), .int v1] σ (some (.int r)) σz :=
  g_met hI (by decide +kernel) (Nat.le_of_ble_eq_true rfl) (fun p e s m below meth c ls G hW hl => w_X6_nextOf_0 G _ _ hF _ _ _ hW hl)
section KX6_nextOf
variable {p : Program} {l : Launch} {e : Env} {R : Room} {s : State} {m : MethodId} {args : Array Value} {below : List Frame} {meth : Method} {c : Code} {H : Heap} {locs : List Loc} {cells slots : Nat} {Q : State → Prop}
variable {cc : ByteArray} {pc nL Z : Nat} {ls : Array Slot} {rest : List Value} {D : va_G} {dA : Nat → ClassId} {α : Nat → Nat → Nat} {H0 : Heap} {σ σ' : sm_M} {ret : Option FieldType} {own nm : String}
theorem kk_X6_201 (G : gx p s m meth c args cc nL ret RX6 nm D dA) (hW : Wd D dA 1 α H0 σ H locs) {v1 : Int32} {q : Int32 × sm_M} (hq : f_X6_nextOf v1 σ = some q) (hls : ls.size = nL) (hR : 1 + 1 ≤ R.frames ∧ 8 + (4 + 11) + 44 * 1 ≤ R.locals) (hf : cells ≤ R.cells ∧ slots ≤ R.slots) (hcat : (rest.map fun v => v.category).sum ≤ 8) (hdg : decode cc pc = .ok (.invokevirtual 201, 3)) (kk : ∀ (H1 : Heap) (locs1 : List Loc), Wd D dA 1 α H0 q.2 H1 locs1 → W p l e R s m args below meth c H1 locs1 cells slots Q (F0 m (pc + 3) ls (.int q.1 :: rest))) : W p l e R s m args below meth c H locs cells slots Q (F0 m pc ls (.int v1 :: .ref (α 20 0) :: rest)) :=
  g_cV (n := 1) G (c_X6_nextOf (l := l) hW.2.2.2 hq) ⟨wm_20_6, wm_20_7, wm_20_8, wm_1_5, wm_20_9⟩ (by decide +kernel) hW (g_recv (φ := 20) (ci := 6) G.2.2.2.2.2.2.2.2.1 rfl rfl rfl (by decide) hW.1 rfl) hR hf rfl hls rfl hcat hdg kk
end KX6_nextOf
section WX6_valueOf
variable {p : Program} {l : Launch} {e : Env} {s : State} {m : MethodId} {args : Array Value} {below : List Frame} {meth : Method} {c : Code} {D : va_G} {dA : Nat → ClassId} {α : Nat → Nat → Nat}
set_option maxHeartbeats 4000000 in
set_option maxRecDepth 100000 in
theorem w_X6_valueOf_39 (G : gx p s m meth c args cX6_valueOf 3 (some .int) RX6 "valueOf" D dA) {r : Int32} {σz : sm_M} : ∀ (s0 : Int32) (σ : sm_M), f_X6_valueOf_39 s0 σ = some (r, σz) → ∀ (H : Heap) (locs : List Loc) (ls : Array Slot), Wd D dA 1 α s.heap σ H locs → lv_has ls 3 [] → gW 0 p l e s m args below meth c D dA 1 α (some (.int r)) σz H locs (F0 m 39 ls [.int s0]) := by
  obtain ⟨hx, hb, hr, hlk, hml, hown, hnm, hts, hK, hNw⟩ := id G
  intro s0 σ hF H locs ls hW hl
  rw [f_X6_valueOf_39] at hF
  exact g_iret G hW hF dX6_valueOf_39
set_option maxHeartbeats 4000000 in
set_option maxRecDepth 100000 in
theorem w_X6_valueOf_0 (G : gx p s m meth c args cX6_valueOf 3 (some .int) RX6 "valueOf" D dA) {r : Int32} {σz : sm_M} : ∀ (v1 : Int32) (v2 : Int32) (σ : sm_M), f_X6_valueOf v1 v2 σ = some (r, σz) → ∀ (H : Heap) (locs : List Loc) (ls : Array Slot), Wd D dA 1 α s.heap σ H locs → lv_has ls 3 [(0, .ref (α 20 0)), (1, .int v1), (2, .int v2)] → gW 0 p l e s m args below meth c D dA 1 α (some (.int r)) σz H locs (F0 m 0 ls []) := by
  obtain ⟨hx, hb, hr, hlk, hml, hown, hnm, hts, hK, hNw⟩ := id G
  intro v1 v2 σ hF H locs ls hW hl
  rw [f_X6_valueOf] at hF
  refine lv_iload_n hx hb dX6_valueOf_0 rfl (lv_at hl 2 rfl) ?_
  refine lv_iconst (v := -1) hx hb dX6_valueOf_1 (by decide) ?_
  refine lv_icmp_ne (tgt := 23) hx hb dX6_valueOf_2 (by decide) (fun hc => ?_) (fun hc => ?_)
  · replace hF := o_f hc hF
    refine lv_aload_n hx hb dX6_valueOf_23 rfl (lv_at hl 0 rfl) ?_
    refine gg_X6_59 G hW (by decide) dX6_valueOf_24 ?_
    refine lv_bipush (v := 64) hx hb dX6_valueOf_27 (by decide) ?_
    refine lv_iload_n hx hb dX6_valueOf_29 rfl (lv_at hl 2 rfl) ?_
    refine lv_imul hx hb dX6_valueOf_30 ?_
    refine lv_aload_n hx hb dX6_valueOf_31 rfl (lv_at hl 0 rfl) ?_
    refine gg_X6_68 G hW (by decide) dX6_valueOf_32 ?_
    refine lv_iload_n hx hb dX6_valueOf_35 rfl (lv_at hl 2 rfl) ?_
    obtain ⟨x1, hx1, hF⟩ := o_b hF
    refine g_aI (φ := 40) G rfl rfl (by decide) rfl hW (by decide) hx1 dX6_valueOf_36 ?_
    refine lv_iadd hx hb dX6_valueOf_37 ?_
    obtain ⟨x2, hx2, hF⟩ := o_b hF
    refine g_aI (φ := 37) G rfl rfl (by decide) rfl hW (by decide) hx2 dX6_valueOf_38 ?_
    exact w_X6_valueOf_39 G _ _ hF H locs ls hW (lv_sub hl [] rfl)
  · replace hF := o_t hc hF
    refine lv_iconst (v := 5) hx hb dX6_valueOf_5 (by decide) ?_
    refine lv_iload_n hx hb dX6_valueOf_6 rfl (lv_at hl 1 rfl) ?_
    refine lv_imul hx hb dX6_valueOf_7 ?_
    refine lv_iconst (v := 3) hx hb dX6_valueOf_8 (by decide) ?_
    refine lv_aload_n hx hb dX6_valueOf_9 rfl (lv_at hl 0 rfl) ?_
    refine gg_X6_19 G hW (by decide) dX6_valueOf_10 ?_
    refine lv_iload_n hx hb dX6_valueOf_13 rfl (lv_at hl 1 rfl) ?_
    obtain ⟨x3, hx3, hF⟩ := o_b hF
    refine g_aI (φ := 24) G rfl rfl (by decide) rfl hW (by decide) hx3 dX6_valueOf_14 ?_
    refine lv_imul hx hb dX6_valueOf_15 ?_
    refine lv_iadd hx hb dX6_valueOf_16 ?_
    refine lv_bipush (v := 20) hx hb dX6_valueOf_17 (by decide) ?_
    obtain ⟨hd, hF⟩ := o_n hF
    refine lv_irem hx hb dX6_valueOf_19 hd ?_
    refine lv_goto (tgt := 39) hx hb dX6_valueOf_20 (by decide) ?_
    exact w_X6_valueOf_39 G _ _ hF H locs ls hW (lv_sub hl [] rfl)
end WX6_valueOf
theorem c_X6_valueOf {l : Launch} {D : va_G} {dA : Nat → ClassId} {α : Nat → Nat → Nat} (hI : Inj 1 α) {v1 : Int32} {v2 : Int32} {σ σz : sm_M} {r : Int32} (hF : f_X6_valueOf v1 v2 σ = some (r, σz)) : gM l D dA 1 α yX6_valueOf cX6_valueOf 3 (some .int) 0 [.ref (α 20 0), .int v1, .int v2] σ (some (.int r)) σz :=
  g_met hI (by decide +kernel) (Nat.le_of_ble_eq_true rfl) (fun p e s m below meth c ls G hW hl => w_X6_valueOf_0 G _ _ _ hF _ _ _ hW hl)
section KX6_valueOf
variable {p : Program} {l : Launch} {e : Env} {R : Room} {s : State} {m : MethodId} {args : Array Value} {below : List Frame} {meth : Method} {c : Code} {H : Heap} {locs : List Loc} {cells slots : Nat} {Q : State → Prop}
variable {cc : ByteArray} {pc nL Z : Nat} {ls : Array Slot} {rest : List Value} {D : va_G} {dA : Nat → ClassId} {α : Nat → Nat → Nat} {H0 : Heap} {σ σ' : sm_M} {ret : Option FieldType} {own nm : String}
theorem kk_X6_207 (G : gx p s m meth c args cc nL ret RX6 nm D dA) (hW : Wd D dA 1 α H0 σ H locs) {v1 : Int32} {v2 : Int32} {q : Int32 × sm_M} (hq : f_X6_valueOf v1 v2 σ = some q) (hls : ls.size = nL) (hR : 0 + 1 ≤ R.frames ∧ 8 + (3 + 11) + 44 * 0 ≤ R.locals) (hf : cells ≤ R.cells ∧ slots ≤ R.slots) (hcat : (rest.map fun v => v.category).sum ≤ 8) (hdg : decode cc pc = .ok (.invokevirtual 207, 3)) (kk : ∀ (H1 : Heap) (locs1 : List Loc), Wd D dA 1 α H0 q.2 H1 locs1 → W p l e R s m args below meth c H1 locs1 cells slots Q (F0 m (pc + 3) ls (.int q.1 :: rest))) : W p l e R s m args below meth c H locs cells slots Q (F0 m pc ls (.int v2 :: .int v1 :: .ref (α 20 0) :: rest)) :=
  g_cV (n := 2) G (c_X6_valueOf (l := l) hW.2.2.2 hq) ⟨wm_20_22, wm_20_23, wm_21_0, wm_1_5, wm_21_1⟩ (by decide +kernel) hW (g_recv (φ := 20) (ci := 6) G.2.2.2.2.2.2.2.2.1 rfl rfl rfl (by decide) hW.1 rfl) hR hf rfl hls rfl hcat hdg kk
end KX6_valueOf
section WX6_give
variable {p : Program} {l : Launch} {e : Env} {s : State} {m : MethodId} {args : Array Value} {below : List Frame} {meth : Method} {c : Code} {D : va_G} {dA : Nat → ClassId} {α : Nat → Nat → Nat}
set_option maxHeartbeats 4000000 in
set_option maxRecDepth 100000 in
theorem w_X6_give_72 (G : gx p s m meth c args cX6_give 4 none RX6 "give" D dA) {σz : sm_M} (k2 : Int32 → Int32 → Int32 → sm_M → Option (sm_M)) (hk2 : ∀ (v1 : Int32) (v2 : Int32) (v3 : Int32) (σ : sm_M), k2 v1 v2 v3 σ = some σz → ∀ (H : Heap) (locs : List Loc) (ls : Array Slot), Wd D dA 1 α s.heap σ H locs → lv_has ls 4 [(0, .ref (α 20 0)), (1, .int v1), (2, .int v2), (3, .int v3)] → gW 0 p l e s m args below meth c D dA 1 α none σz H locs (F0 m 2 ls [])) : ∀ (v1 : Int32) (v2 : Int32) (v3 : Int32) (σ : sm_M), f_X6_give_72 k2 v1 v2 v3 σ = some σz → ∀ (H : Heap) (locs : List Loc) (ls : Array Slot), Wd D dA 1 α s.heap σ H locs → lv_has ls 4 [(0, .ref (α 20 0)), (1, .int v1), (2, .int v2), (3, .int v3)] → gW 0 p l e s m args below meth c D dA 1 α none σz H locs (F0 m 72 ls []) := by
  obtain ⟨hx, hb, hr, hlk, hml, hown, hnm, hts, hK, hNw⟩ := id G
  intro v1 v2 v3 σ hF H locs ls hW hl
  rw [f_X6_give_72] at hF
  refine lv_iinc (v := (v3 + 1)) (lv' := [(3, .int (v3 + 1)), (0, .ref (α 20 0)), (1, .int v1), (2, .int v2)]) hx hb dX6_give_72 hl (k := 3) rfl rfl (by decide) rfl (fun ls hl => ?_)
  refine lv_goto (tgt := 2) hx hb dX6_give_75 (by decide) ?_
  exact hk2 _ _ _ _ hF H locs ls hW (lv_sub hl [1, 2, 3, 0] rfl)
set_option maxHeartbeats 4000000 in
set_option maxRecDepth 100000 in
theorem w_X6_give_62 (G : gx p s m meth c args cX6_give 4 none RX6 "give" D dA) {σz : sm_M} (k2 : Int32 → Int32 → Int32 → sm_M → Option (sm_M)) (hk2 : ∀ (v1 : Int32) (v2 : Int32) (v3 : Int32) (σ : sm_M), k2 v1 v2 v3 σ = some σz → ∀ (H : Heap) (locs : List Loc) (ls : Array Slot), Wd D dA 1 α s.heap σ H locs → lv_has ls 4 [(0, .ref (α 20 0)), (1, .int v1), (2, .int v2), (3, .int v3)] → gW 0 p l e s m args below meth c D dA 1 α none σz H locs (F0 m 2 ls [])) : ∀ (v1 : Int32) (v2 : Int32) (v3 : Int32) (σ : sm_M), f_X6_give_62 k2 v1 v2 v3 σ = some σz → ∀ (H : Heap) (locs : List Loc) (ls : Array Slot), Wd D dA 1 α s.heap σ H locs → lv_has ls 4 [(0, .ref (α 20 0)), (1, .int v1), (2, .int v2), (3, .int v3)] → gW 0 p l e s m args below meth c D dA 1 α none σz H locs (F0 m 62 ls []) := by
  obtain ⟨hx, hb, hr, hlk, hml, hown, hnm, hts, hK, hNw⟩ := id G
  intro v1 v2 v3 σ hF H locs ls hW hl
  rw [f_X6_give_62] at hF
  refine lv_aload_n hx hb dX6_give_62 rfl (lv_at hl 0 rfl) ?_
  refine gg_X6_65 G hW (by decide) dX6_give_63 ?_
  refine lv_iload_n hx hb dX6_give_66 rfl (lv_at hl 3 rfl) ?_
  refine lv_dup2_11 hx hb dX6_give_67 rfl rfl ?_
  obtain ⟨x1, hx1, hF⟩ := o_b hF
  refine g_aI (φ := 39) G rfl rfl (by decide) rfl hW (by decide) hx1 dX6_give_68 ?_
  refine lv_iconst (v := 1) hx hb dX6_give_69 (by decide) ?_
  refine lv_iadd hx hb dX6_give_70 ?_
  obtain ⟨σ2, hσ2, hF⟩ := o_b hF
  refine g_uI (φ := 39) G rfl rfl (by decide) rfl hW (by decide) hσ2 dX6_give_71 (fun H locs hW => ?_)
  exact w_X6_give_72 G k2 hk2 _ _ _ _ hF H locs ls hW (lv_sub hl [0, 1, 2, 3] rfl)
set_option maxHeartbeats 4000000 in
set_option maxRecDepth 100000 in
theorem w_X6_give_2 (G : gx p s m meth c args cX6_give 4 none RX6 "give" D dA) {σz : sm_M} : ∀ (n : Nat) (v1 : Int32) (v2 : Int32) (v3 : Int32) (σ : sm_M), f_X6_give_2 n v1 v2 v3 σ = some σz → ∀ (H : Heap) (locs : List Loc) (ls : Array Slot), Wd D dA 1 α s.heap σ H locs → lv_has ls 4 [(0, .ref (α 20 0)), (1, .int v1), (2, .int v2), (3, .int v3)] → gW 0 p l e s m args below meth c D dA 1 α none σz H locs (F0 m 2 ls []) := by
  obtain ⟨hx, hb, hr, hlk, hml, hown, hnm, hts, hK, hNw⟩ := id G
  intro n
  induction n with
  | zero => intro v1 v2 v3 σ hF; exact absurd hF (by intro h; cases h)
  | succ n ih =>
    intro v1 v2 v3 σ hF H locs ls hW hl
    rw [f_X6_give_2] at hF
    refine lv_iload_n hx hb dX6_give_2 rfl (lv_at hl 3 rfl) ?_
    refine lv_aload_n hx hb dX6_give_3 rfl (lv_at hl 0 rfl) ?_
    refine gg_X6_135 G hW (by decide) dX6_give_4 ?_
    refine lv_icmp_ge (tgt := 78) hx hb dX6_give_7 (by decide) (fun hc => ?_) (fun hc => ?_)
    · replace hF := o_t hc hF
      exact g_vret G hW hF dX6_give_78
    · replace hF := o_f hc hF
      refine lv_aload_n hx hb dX6_give_10 rfl (lv_at hl 0 rfl) ?_
      refine gg_X6_49 G hW (by decide) dX6_give_11 ?_
      refine lv_iload_n hx hb dX6_give_14 rfl (lv_at hl 3 rfl) ?_
      obtain ⟨x1, hx1, hF⟩ := o_b hF
      refine g_aI (φ := 34) G rfl rfl (by decide) rfl hW (by decide) hx1 dX6_give_15 ?_
      refine lv_iload_n hx hb dX6_give_16 rfl (lv_at hl 1 rfl) ?_
      refine lv_icmp_ne (tgt := 72) hx hb dX6_give_17 (by decide) (fun hc => ?_) (fun hc => ?_)
      · replace hF := o_f hc hF
        exact w_X6_give_72 G (f_X6_give_2 n) ih _ _ _ _ hF H locs ls hW (lv_sub hl [0, 1, 2, 3] rfl)
      · replace hF := o_t hc hF
        refine lv_aload_n hx hb dX6_give_20 rfl (lv_at hl 0 rfl) ?_
        refine gg_X6_65 G hW (by decide) dX6_give_21 ?_
        refine lv_iload_n hx hb dX6_give_24 rfl (lv_at hl 3 rfl) ?_
        obtain ⟨x2, hx2, hF⟩ := o_b hF
        refine g_aI (φ := 39) G rfl rfl (by decide) rfl hW (by decide) hx2 dX6_give_25 ?_
        refine lv_aload_n hx hb dX6_give_26 rfl (lv_at hl 0 rfl) ?_
        refine gg_X6_62 G hW (by decide) dX6_give_27 ?_
        refine lv_iload_n hx hb dX6_give_30 rfl (lv_at hl 3 rfl) ?_
        obtain ⟨x3, hx3, hF⟩ := o_b hF
        refine g_aI (φ := 38) G rfl rfl (by decide) rfl hW (by decide) hx3 dX6_give_31 ?_
        refine lv_icmp_lt (tgt := 62) hx hb dX6_give_32 (by decide) (fun hc => ?_) (fun hc => ?_)
        · replace hF := o_t hc hF
          exact w_X6_give_62 G (f_X6_give_2 n) ih _ _ _ _ hF H locs ls hW (lv_sub hl [0, 1, 2, 3] rfl)
        · replace hF := o_f hc hF
          refine lv_aload_n hx hb dX6_give_35 rfl (lv_at hl 0 rfl) ?_
          refine gg_X6_59 G hW (by decide) dX6_give_36 ?_
          refine lv_bipush (v := 64) hx hb dX6_give_39 (by decide) ?_
          refine lv_iload_n hx hb dX6_give_41 rfl (lv_at hl 3 rfl) ?_
          refine lv_imul hx hb dX6_give_42 ?_
          refine lv_aload_n hx hb dX6_give_43 rfl (lv_at hl 0 rfl) ?_
          refine gg_X6_62 G hW (by decide) dX6_give_44 ?_
          refine lv_iload_n hx hb dX6_give_47 rfl (lv_at hl 3 rfl) ?_
          obtain ⟨x4, hx4, hF⟩ := o_b hF
          refine g_aI (φ := 38) G rfl rfl (by decide) rfl hW (by decide) hx4 dX6_give_48 ?_
          refine lv_iadd hx hb dX6_give_49 ?_
          refine lv_iload_n hx hb dX6_give_50 rfl (lv_at hl 2 rfl) ?_
          obtain ⟨σ5, hσ5, hF⟩ := o_b hF
          refine g_uI (φ := 37) G rfl rfl (by decide) rfl hW (by decide) hσ5 dX6_give_51 (fun H locs hW => ?_)
          refine lv_aload_n hx hb dX6_give_52 rfl (lv_at hl 0 rfl) ?_
          refine gg_X6_62 G hW (by decide) dX6_give_53 ?_
          refine lv_iload_n hx hb dX6_give_56 rfl (lv_at hl 3 rfl) ?_
          refine lv_dup2_11 hx hb dX6_give_57 rfl rfl ?_
          obtain ⟨x6, hx6, hF⟩ := o_b hF
          refine g_aI (φ := 38) G rfl rfl (by decide) rfl hW (by decide) hx6 dX6_give_58 ?_
          refine lv_iconst (v := 1) hx hb dX6_give_59 (by decide) ?_
          refine lv_iadd hx hb dX6_give_60 ?_
          obtain ⟨σ7, hσ7, hF⟩ := o_b hF
          refine g_uI (φ := 38) G rfl rfl (by decide) rfl hW (by decide) hσ7 dX6_give_61 (fun H locs hW => ?_)
          exact w_X6_give_62 G (f_X6_give_2 n) ih _ _ _ _ hF H locs ls hW (lv_sub hl [0, 1, 2, 3] rfl)
set_option maxHeartbeats 4000000 in
set_option maxRecDepth 100000 in
theorem w_X6_give_0 (G : gx p s m meth c args cX6_give 4 none RX6 "give" D dA) {σz : sm_M} : ∀ (v1 : Int32) (v2 : Int32) (σ : sm_M), f_X6_give v1 v2 σ = some σz → ∀ (H : Heap) (locs : List Loc) (ls : Array Slot), Wd D dA 1 α s.heap σ H locs → lv_has ls 4 [(0, .ref (α 20 0)), (1, .int v1), (2, .int v2)] → gW 0 p l e s m args below meth c D dA 1 α none σz H locs (F0 m 0 ls []) := by
  obtain ⟨hx, hb, hr, hlk, hml, hown, hnm, hts, hK, hNw⟩ := id G
  intro v1 v2 σ hF H locs ls hW hl
  rw [f_X6_give] at hF
  refine lv_iconst (v := 0) hx hb dX6_give_0 (by decide) ?_
  refine lv_istore_n (lv' := [(3, .int (0 : Int32)), (0, .ref (α 20 0)), (1, .int v1), (2, .int v2)]) hx hb dX6_give_1 rfl hl (by decide) rfl (fun ls hl => ?_)
  exact w_X6_give_2 G 1000 _ _ _ _ hF H locs ls hW (lv_sub hl [1, 2, 3, 0] rfl)
end WX6_give
theorem c_X6_give {l : Launch} {D : va_G} {dA : Nat → ClassId} {α : Nat → Nat → Nat} (hI : Inj 1 α) {v1 : Int32} {v2 : Int32} {σ σz : sm_M} (hF : f_X6_give v1 v2 σ = some σz) : gM l D dA 1 α yX6_give cX6_give 4 none 0 [.ref (α 20 0), .int v1, .int v2] σ none σz :=
  g_met hI (by decide +kernel) (Nat.le_of_ble_eq_true rfl) (fun p e s m below meth c ls G hW hl => w_X6_give_0 G _ _ _ hF _ _ _ hW hl)
section KX6_give
variable {p : Program} {l : Launch} {e : Env} {R : Room} {s : State} {m : MethodId} {args : Array Value} {below : List Frame} {meth : Method} {c : Code} {H : Heap} {locs : List Loc} {cells slots : Nat} {Q : State → Prop}
variable {cc : ByteArray} {pc nL Z : Nat} {ls : Array Slot} {rest : List Value} {D : va_G} {dA : Nat → ClassId} {α : Nat → Nat → Nat} {H0 : Heap} {σ σ' : sm_M} {ret : Option FieldType} {own nm : String}
theorem kk_X6_187 (G : gx p s m meth c args cc nL ret RX6 nm D dA) (hW : Wd D dA 1 α H0 σ H locs) {v1 : Int32} {v2 : Int32} {q : sm_M} (hq : f_X6_give v1 v2 σ = some q) (hls : ls.size = nL) (hR : 0 + 1 ≤ R.frames ∧ 8 + (4 + 11) + 44 * 0 ≤ R.locals) (hf : cells ≤ R.cells ∧ slots ≤ R.slots) (hcat : (rest.map fun v => v.category).sum ≤ 8) (hdg : decode cc pc = .ok (.invokevirtual 187, 3)) (kk : ∀ (H1 : Heap) (locs1 : List Loc), Wd D dA 1 α H0 q H1 locs1 → W p l e R s m args below meth c H1 locs1 cells slots Q (F0 m (pc + 3) ls rest)) : W p l e R s m args below meth c H locs cells slots Q (F0 m pc ls (.int v2 :: .int v1 :: .ref (α 20 0) :: rest)) :=
  g_cV (n := 2) G (c_X6_give (l := l) hW.2.2.2 hq) ⟨wm_21_12, wm_21_13, wm_21_14, wm_1_5, wm_21_15⟩ (by decide +kernel) hW (g_recv (φ := 20) (ci := 6) G.2.2.2.2.2.2.2.2.1 rfl rfl rfl (by decide) hW.1 rfl) hR hf rfl hls rfl hcat hdg kk
end KX6_give
section WX6_work
variable {p : Program} {l : Launch} {e : Env} {s : State} {m : MethodId} {args : Array Value} {below : List Frame} {meth : Method} {c : Code} {D : va_G} {dA : Nat → ClassId} {α : Nat → Nat → Nat}
set_option maxHeartbeats 4000000 in
set_option maxRecDepth 100000 in
theorem w_X6_work_0 (G : gx p s m meth c args cX6_work 3 none RX6 "work" D dA) {σz : sm_M} : ∀ (v1 : Int32) (v2 : Int32) (σ : sm_M), f_X6_work v1 v2 σ = some σz → ∀ (H : Heap) (locs : List Loc) (ls : Array Slot), Wd D dA 1 α s.heap σ H locs → lv_has ls 3 [(0, .ref (α 20 0)), (1, .int v1), (2, .int v2)] → gW 1 p l e s m args below meth c D dA 1 α none σz H locs (F0 m 0 ls []) := by
  obtain ⟨hx, hb, hr, hlk, hml, hown, hnm, hts, hK, hNw⟩ := id G
  intro v1 v2 σ hF H locs ls hW hl
  rw [f_X6_work] at hF
  refine lv_aload_n hx hb dX6_work_0 rfl (lv_at hl 0 rfl) ?_
  refine gg_X6_7 G hW (by decide) dX6_work_1 ?_
  refine lv_iload_n hx hb dX6_work_4 rfl (lv_at hl 1 rfl) ?_
  obtain ⟨x1, hx1, hF⟩ := o_b hF
  refine g_aI (φ := 21) G rfl rfl (by decide) rfl hW (by decide) hx1 dX6_work_5 ?_
  by_cases n0 : x1 = 1
  · replace hF := o_t n0 hF
    refine lv_tableIn (tgt := 40) (off := 34) hx hb dX6_work_6 (by rw [n0]; decide) (by rw [n0]; decide) (by rw [n0]; rfl) (by decide) ?_
    refine lv_aload_n hx hb dX6_work_40 rfl (lv_at hl 0 rfl) ?_
    refine lv_iload_n hx hb dX6_work_41 rfl (lv_at hl 1 rfl) ?_
    refine lv_iload_n hx hb dX6_work_42 rfl (lv_at hl 2 rfl) ?_
    refine lv_aload_n hx hb dX6_work_43 rfl (lv_at hl 0 rfl) ?_
    refine gg_X6_13 G hW (by decide) dX6_work_44 ?_
    refine lv_iload_n hx hb dX6_work_47 rfl (lv_at hl 1 rfl) ?_
    obtain ⟨x2, hx2, hF⟩ := o_b hF
    refine g_aI (φ := 22) G rfl rfl (by decide) rfl hW (by decide) hx2 dX6_work_48 ?_
    refine lv_iadd hx hb dX6_work_49 ?_
    obtain ⟨q3, hq3, hF⟩ := o_b hF
    refine kk_X6_187 G hW hq3 hl.1 ⟨Nat.le_of_ble_eq_true rfl, Nat.le_of_ble_eq_true rfl⟩ ⟨Nat.le_refl _, Nat.le_refl _⟩ (Nat.le_of_ble_eq_true rfl) dX6_work_50 (fun H locs hW => ?_)
    refine lv_goto (tgt := 172) hx hb dX6_work_53 (by decide) ?_
    exact g_vret G hW hF dX6_work_172
  · replace hF := o_f n0 hF
    by_cases n1 : x1 = 2
    · replace hF := o_t n1 hF
      refine lv_tableIn (tgt := 56) (off := 50) hx hb dX6_work_6 (by rw [n1]; decide) (by rw [n1]; decide) (by rw [n1]; rfl) (by decide) ?_
      refine lv_iload_n hx hb dX6_work_56 rfl (lv_at hl 2 rfl) ?_
      refine lv_aload_n hx hb dX6_work_57 rfl (lv_at hl 0 rfl) ?_
      refine gg_X6_13 G hW (by decide) dX6_work_58 ?_
      refine lv_iload_n hx hb dX6_work_61 rfl (lv_at hl 1 rfl) ?_
      obtain ⟨x4, hx4, hF⟩ := o_b hF
      refine g_aI (φ := 22) G rfl rfl (by decide) rfl hW (by decide) hx4 dX6_work_62 ?_
      obtain ⟨hd, hF⟩ := o_n hF
      refine lv_irem hx hb dX6_work_63 hd ?_
      refine lv_if_ne (tgt := 172) hx hb dX6_work_64 (by decide) (fun hc => ?_) (fun hc => ?_)
      · replace hF := o_f hc hF
        exact g_vret G hW hF dX6_work_172
      · replace hF := o_t hc hF
        refine lv_aload_n hx hb dX6_work_67 rfl (lv_at hl 0 rfl) ?_
        refine lv_iload_n hx hb dX6_work_68 rfl (lv_at hl 1 rfl) ?_
        refine lv_iload_n hx hb dX6_work_69 rfl (lv_at hl 2 rfl) ?_
        obtain ⟨q5, hq5, hF⟩ := o_b hF
        refine kk_X6_187 G hW hq5 hl.1 ⟨Nat.le_of_ble_eq_true rfl, Nat.le_of_ble_eq_true rfl⟩ ⟨Nat.le_refl _, Nat.le_refl _⟩ (Nat.le_of_ble_eq_true rfl) dX6_work_70 (fun H locs hW => ?_)
        refine lv_goto (tgt := 172) hx hb dX6_work_73 (by decide) ?_
        exact g_vret G hW hF dX6_work_172
    · replace hF := o_f n1 hF
      by_cases n2 : x1 = 3
      · replace hF := o_t n2 hF
        refine lv_tableIn (tgt := 76) (off := 70) hx hb dX6_work_6 (by rw [n2]; decide) (by rw [n2]; decide) (by rw [n2]; rfl) (by decide) ?_
        refine lv_aload_n hx hb dX6_work_76 rfl (lv_at hl 0 rfl) ?_
        refine gg_X6_22 G hW (by decide) dX6_work_77 ?_
        refine lv_iload_n hx hb dX6_work_80 rfl (lv_at hl 1 rfl) ?_
        refine lv_dup2_11 hx hb dX6_work_81 rfl rfl ?_
        obtain ⟨x6, hx6, hF⟩ := o_b hF
        refine g_aI (φ := 25) G rfl rfl (by decide) rfl hW (by decide) hx6 dX6_work_82 ?_
        refine lv_iload_n hx hb dX6_work_83 rfl (lv_at hl 2 rfl) ?_
        refine lv_iadd hx hb dX6_work_84 ?_
        obtain ⟨σ7, hσ7, hF⟩ := o_b hF
        refine g_uI (φ := 25) G rfl rfl (by decide) rfl hW (by decide) hσ7 dX6_work_85 (fun H locs hW => ?_)
        refine lv_aload_n hx hb dX6_work_86 rfl (lv_at hl 0 rfl) ?_
        refine lv_iload_n hx hb dX6_work_87 rfl (lv_at hl 1 rfl) ?_
        refine lv_aload_n hx hb dX6_work_88 rfl (lv_at hl 0 rfl) ?_
        refine gg_X6_22 G hW (by decide) dX6_work_89 ?_
        refine lv_iload_n hx hb dX6_work_92 rfl (lv_at hl 1 rfl) ?_
        obtain ⟨x8, hx8, hF⟩ := o_b hF
        refine g_aI (φ := 25) G rfl rfl (by decide) rfl hW (by decide) hx8 dX6_work_93 ?_
        obtain ⟨q9, hq9, hF⟩ := o_b hF
        refine kk_X6_187 G hW hq9 hl.1 ⟨Nat.le_of_ble_eq_true rfl, Nat.le_of_ble_eq_true rfl⟩ ⟨Nat.le_refl _, Nat.le_refl _⟩ (Nat.le_of_ble_eq_true rfl) dX6_work_94 (fun H locs hW => ?_)
        refine lv_goto (tgt := 172) hx hb dX6_work_97 (by decide) ?_
        exact g_vret G hW hF dX6_work_172
      · replace hF := o_f n2 hF
        by_cases n3 : x1 = 4
        · replace hF := o_t n3 hF
          refine lv_tableIn (tgt := 100) (off := 94) hx hb dX6_work_6 (by rw [n3]; decide) (by rw [n3]; decide) (by rw [n3]; rfl) (by decide) ?_
          refine lv_aload_n hx hb dX6_work_100 rfl (lv_at hl 0 rfl) ?_
          refine lv_ldc2 (v := 16807) hx hb hown (hts _ cc_X6_191) dX6_work_101 ?_
          refine lv_aload_n hx hb dX6_work_104 rfl (lv_at hl 0 rfl) ?_
          refine gg_X6_145 G hW (by decide) dX6_work_105 ?_
          refine lv_i2l hx hb dX6_work_108 rfl ?_
          refine lv_lmul hx hb dX6_work_109 ?_
          refine lv_ldc2 (v := 2147483647) hx hb hown (hts _ cc_X6_193) dX6_work_110 ?_
          obtain ⟨hd, hF⟩ := o_n hF
          refine lv_lrem hx hb dX6_work_113 hd ?_
          refine lv_l2i hx hb dX6_work_114 rfl ?_
          obtain ⟨σ10, hσ10, hF⟩ := o_b hF
          refine pp_X6_145 G hW (by decide) hσ10 dX6_work_115 (fun H locs hW => ?_)
          refine lv_aload_n hx hb dX6_work_118 rfl (lv_at hl 0 rfl) ?_
          refine lv_iload_n hx hb dX6_work_119 rfl (lv_at hl 1 rfl) ?_
          refine lv_iload_n hx hb dX6_work_120 rfl (lv_at hl 2 rfl) ?_
          refine lv_aload_n hx hb dX6_work_121 rfl (lv_at hl 0 rfl) ?_
          refine gg_X6_145 G hW (by decide) dX6_work_122 ?_
          refine lv_bipush (v := 10) hx hb dX6_work_125 (by decide) ?_
          obtain ⟨hd, hF⟩ := o_n hF
          refine lv_irem hx hb dX6_work_127 hd ?_
          refine lv_iadd hx hb dX6_work_128 ?_
          obtain ⟨q11, hq11, hF⟩ := o_b hF
          refine kk_X6_187 G hW hq11 hl.1 ⟨Nat.le_of_ble_eq_true rfl, Nat.le_of_ble_eq_true rfl⟩ ⟨Nat.le_refl _, Nat.le_refl _⟩ (Nat.le_of_ble_eq_true rfl) dX6_work_129 (fun H locs hW => ?_)
          refine lv_goto (tgt := 172) hx hb dX6_work_132 (by decide) ?_
          exact g_vret G hW hF dX6_work_172
        · replace hF := o_f n3 hF
          by_cases n4 : x1 = 5
          · replace hF := o_t n4 hF
            refine lv_tableIn (tgt := 135) (off := 129) hx hb dX6_work_6 (by rw [n4]; decide) (by rw [n4]; decide) (by rw [n4]; rfl) (by decide) ?_
            refine lv_aload_n hx hb dX6_work_135 rfl (lv_at hl 0 rfl) ?_
            refine gg_X6_28 G hW (by decide) dX6_work_136 ?_
            refine lv_sipush (v := 200) hx hb dX6_work_139 (by decide) ?_
            refine lv_iload_n hx hb dX6_work_142 rfl (lv_at hl 1 rfl) ?_
            refine lv_imul hx hb dX6_work_143 ?_
            refine lv_aload_n hx hb dX6_work_144 rfl (lv_at hl 0 rfl) ?_
            refine gg_X6_25 G hW (by decide) dX6_work_145 ?_
            refine lv_iload_n hx hb dX6_work_148 rfl (lv_at hl 1 rfl) ?_
            obtain ⟨x12, hx12, hF⟩ := o_b hF
            refine g_aI (φ := 26) G rfl rfl (by decide) rfl hW (by decide) hx12 dX6_work_149 ?_
            refine lv_iadd hx hb dX6_work_150 ?_
            refine lv_iload_n hx hb dX6_work_151 rfl (lv_at hl 2 rfl) ?_
            obtain ⟨σ13, hσ13, hF⟩ := o_b hF
            refine g_uI (φ := 27) G rfl rfl (by decide) rfl hW (by decide) hσ13 dX6_work_152 (fun H locs hW => ?_)
            refine lv_aload_n hx hb dX6_work_153 rfl (lv_at hl 0 rfl) ?_
            refine gg_X6_25 G hW (by decide) dX6_work_154 ?_
            refine lv_iload_n hx hb dX6_work_157 rfl (lv_at hl 1 rfl) ?_
            refine lv_dup2_11 hx hb dX6_work_158 rfl rfl ?_
            obtain ⟨x14, hx14, hF⟩ := o_b hF
            refine g_aI (φ := 26) G rfl rfl (by decide) rfl hW (by decide) hx14 dX6_work_159 ?_
            refine lv_iconst (v := 1) hx hb dX6_work_160 (by decide) ?_
            refine lv_iadd hx hb dX6_work_161 ?_
            obtain ⟨σ15, hσ15, hF⟩ := o_b hF
            refine g_uI (φ := 26) G rfl rfl (by decide) rfl hW (by decide) hσ15 dX6_work_162 (fun H locs hW => ?_)
            refine lv_goto (tgt := 172) hx hb dX6_work_163 (by decide) ?_
            exact g_vret G hW hF dX6_work_172
          · replace hF := o_f n4 hF
            refine lv_tableOut (tgt := 166) hx hb dX6_work_6 (t_out 1 5 (fun z h1 h2 => by have hz : z = 1 ∨ z = 2 ∨ z = 3 ∨ z = 4 ∨ z = 5 := (by omega); rcases hz with rfl | rfl | rfl | rfl | rfl <;> assumption)) (by decide) ?_
            refine lv_aload_n hx hb dX6_work_166 rfl (lv_at hl 0 rfl) ?_
            refine lv_iload_n hx hb dX6_work_167 rfl (lv_at hl 1 rfl) ?_
            refine lv_iload_n hx hb dX6_work_168 rfl (lv_at hl 2 rfl) ?_
            obtain ⟨q16, hq16, hF⟩ := o_b hF
            refine kk_X6_187 G hW hq16 hl.1 ⟨Nat.le_of_ble_eq_true rfl, Nat.le_of_ble_eq_true rfl⟩ ⟨Nat.le_refl _, Nat.le_refl _⟩ (Nat.le_of_ble_eq_true rfl) dX6_work_169 (fun H locs hW => ?_)
            exact g_vret G hW hF dX6_work_172
end WX6_work
theorem c_X6_work {l : Launch} {D : va_G} {dA : Nat → ClassId} {α : Nat → Nat → Nat} (hI : Inj 1 α) {v1 : Int32} {v2 : Int32} {σ σz : sm_M} (hF : f_X6_work v1 v2 σ = some σz) : gM l D dA 1 α yX6_work cX6_work 3 none 1 [.ref (α 20 0), .int v1, .int v2] σ none σz :=
  g_met hI (by decide +kernel) (Nat.le_of_ble_eq_true rfl) (fun p e s m below meth c ls G hW hl => w_X6_work_0 G _ _ _ hF _ _ _ hW hl)
section KX6_work
variable {p : Program} {l : Launch} {e : Env} {R : Room} {s : State} {m : MethodId} {args : Array Value} {below : List Frame} {meth : Method} {c : Code} {H : Heap} {locs : List Loc} {cells slots : Nat} {Q : State → Prop}
variable {cc : ByteArray} {pc nL Z : Nat} {ls : Array Slot} {rest : List Value} {D : va_G} {dA : Nat → ClassId} {α : Nat → Nat → Nat} {H0 : Heap} {σ σ' : sm_M} {ret : Option FieldType} {own nm : String}
theorem kk_X6_215 (G : gx p s m meth c args cc nL ret RX6 nm D dA) (hW : Wd D dA 1 α H0 σ H locs) {v1 : Int32} {v2 : Int32} {q : sm_M} (hq : f_X6_work v1 v2 σ = some q) (hls : ls.size = nL) (hR : 1 + 1 ≤ R.frames ∧ 8 + (3 + 11) + 44 * 1 ≤ R.locals) (hf : cells ≤ R.cells ∧ slots ≤ R.slots) (hcat : (rest.map fun v => v.category).sum ≤ 8) (hdg : decode cc pc = .ok (.invokevirtual 215, 3)) (kk : ∀ (H1 : Heap) (locs1 : List Loc), Wd D dA 1 α H0 q H1 locs1 → W p l e R s m args below meth c H1 locs1 cells slots Q (F0 m (pc + 3) ls rest)) : W p l e R s m args below meth c H locs cells slots Q (F0 m pc ls (.int v2 :: .int v1 :: .ref (α 20 0) :: rest)) :=
  g_cV (n := 2) G (c_X6_work (l := l) hW.2.2.2 hq) ⟨wm_21_6, wm_21_7, wm_21_8, wm_1_5, wm_21_9⟩ (by decide +kernel) hW (g_recv (φ := 20) (ci := 6) G.2.2.2.2.2.2.2.2.1 rfl rfl rfl (by decide) hW.1 rfl) hR hf rfl hls rfl hcat hdg kk
end KX6_work
section WX6_holdAll
variable {p : Program} {l : Launch} {e : Env} {s : State} {m : MethodId} {args : Array Value} {below : List Frame} {meth : Method} {c : Code} {D : va_G} {dA : Nat → ClassId} {α : Nat → Nat → Nat}
set_option maxHeartbeats 4000000 in
set_option maxRecDepth 100000 in
theorem w_X6_holdAll_2 (G : gx p s m meth c args cX6_holdAll 2 none RX6 "holdAll" D dA) {σz : sm_M} : ∀ (n : Nat) (v1 : Int32) (σ : sm_M), f_X6_holdAll_2 n v1 σ = some σz → ∀ (H : Heap) (locs : List Loc) (ls : Array Slot), Wd D dA 1 α s.heap σ H locs → lv_has ls 2 [(0, .ref (α 20 0)), (1, .int v1)] → gW 0 p l e s m args below meth c D dA 1 α none σz H locs (F0 m 2 ls []) := by
  obtain ⟨hx, hb, hr, hlk, hml, hown, hnm, hts, hK, hNw⟩ := id G
  intro n
  induction n with
  | zero => intro v1 σ hF; exact absurd hF (by intro h; cases h)
  | succ n ih =>
    intro v1 σ hF H locs ls hW hl
    rw [f_X6_holdAll_2] at hF
    refine lv_iload_n hx hb dX6_holdAll_2 rfl (lv_at hl 1 rfl) ?_
    refine lv_aload_n hx hb dX6_holdAll_3 rfl (lv_at hl 0 rfl) ?_
    refine gg_X6_135 G hW (by decide) dX6_holdAll_4 ?_
    refine lv_icmp_ge (tgt := 52) hx hb dX6_holdAll_7 (by decide) (fun hc => ?_) (fun hc => ?_)
    · replace hF := o_t hc hF
      exact g_vret G hW hF dX6_holdAll_52
    · replace hF := o_f hc hF
      refine lv_aload_n hx hb dX6_holdAll_10 rfl (lv_at hl 0 rfl) ?_
      refine gg_X6_113 G hW (by decide) dX6_holdAll_11 ?_
      refine lv_iload_n hx hb dX6_holdAll_14 rfl (lv_at hl 1 rfl) ?_
      refine lv_aload_n hx hb dX6_holdAll_15 rfl (lv_at hl 0 rfl) ?_
      refine gg_X6_62 G hW (by decide) dX6_holdAll_16 ?_
      refine lv_iload_n hx hb dX6_holdAll_19 rfl (lv_at hl 1 rfl) ?_
      obtain ⟨x1, hx1, hF⟩ := o_b hF
      refine g_aI (φ := 38) G rfl rfl (by decide) rfl hW (by decide) hx1 dX6_holdAll_20 ?_
      obtain ⟨σ2, hσ2, hF⟩ := o_b hF
      refine g_uI (φ := 55) G rfl rfl (by decide) rfl hW (by decide) hσ2 dX6_holdAll_21 (fun H locs hW => ?_)
      refine lv_aload_n hx hb dX6_holdAll_22 rfl (lv_at hl 0 rfl) ?_
      refine gg_X6_116 G hW (by decide) dX6_holdAll_23 ?_
      refine lv_iload_n hx hb dX6_holdAll_26 rfl (lv_at hl 1 rfl) ?_
      refine lv_aload_n hx hb dX6_holdAll_27 rfl (lv_at hl 0 rfl) ?_
      refine gg_X6_65 G hW (by decide) dX6_holdAll_28 ?_
      refine lv_iload_n hx hb dX6_holdAll_31 rfl (lv_at hl 1 rfl) ?_
      obtain ⟨x3, hx3, hF⟩ := o_b hF
      refine g_aI (φ := 39) G rfl rfl (by decide) rfl hW (by decide) hx3 dX6_holdAll_32 ?_
      obtain ⟨σ4, hσ4, hF⟩ := o_b hF
      refine g_uI (φ := 56) G rfl rfl (by decide) rfl hW (by decide) hσ4 dX6_holdAll_33 (fun H locs hW => ?_)
      refine lv_aload_n hx hb dX6_holdAll_34 rfl (lv_at hl 0 rfl) ?_
      refine gg_X6_119 G hW (by decide) dX6_holdAll_35 ?_
      refine lv_iload_n hx hb dX6_holdAll_38 rfl (lv_at hl 1 rfl) ?_
      refine lv_aload_n hx hb dX6_holdAll_39 rfl (lv_at hl 0 rfl) ?_
      refine gg_X6_68 G hW (by decide) dX6_holdAll_40 ?_
      refine lv_iload_n hx hb dX6_holdAll_43 rfl (lv_at hl 1 rfl) ?_
      obtain ⟨x5, hx5, hF⟩ := o_b hF
      refine g_aI (φ := 40) G rfl rfl (by decide) rfl hW (by decide) hx5 dX6_holdAll_44 ?_
      obtain ⟨σ6, hσ6, hF⟩ := o_b hF
      refine g_uI (φ := 57) G rfl rfl (by decide) rfl hW (by decide) hσ6 dX6_holdAll_45 (fun H locs hW => ?_)
      refine lv_iinc (v := (v1 + 1)) (lv' := [(1, .int (v1 + 1)), (0, .ref (α 20 0))]) hx hb dX6_holdAll_46 hl (k := 1) rfl rfl (by decide) rfl (fun ls hl => ?_)
      refine lv_goto (tgt := 2) hx hb dX6_holdAll_49 (by decide) ?_
      exact ih _ _ hF H locs ls hW (lv_sub hl [1, 0] rfl)
set_option maxHeartbeats 4000000 in
set_option maxRecDepth 100000 in
theorem w_X6_holdAll_0 (G : gx p s m meth c args cX6_holdAll 2 none RX6 "holdAll" D dA) {σz : sm_M} : ∀ (σ : sm_M), f_X6_holdAll σ = some σz → ∀ (H : Heap) (locs : List Loc) (ls : Array Slot), Wd D dA 1 α s.heap σ H locs → lv_has ls 2 [(0, .ref (α 20 0))] → gW 0 p l e s m args below meth c D dA 1 α none σz H locs (F0 m 0 ls []) := by
  obtain ⟨hx, hb, hr, hlk, hml, hown, hnm, hts, hK, hNw⟩ := id G
  intro σ hF H locs ls hW hl
  rw [f_X6_holdAll] at hF
  refine lv_iconst (v := 0) hx hb dX6_holdAll_0 (by decide) ?_
  refine lv_istore_n (lv' := [(1, .int (0 : Int32)), (0, .ref (α 20 0))]) hx hb dX6_holdAll_1 rfl hl (by decide) rfl (fun ls hl => ?_)
  exact w_X6_holdAll_2 G 1000 _ _ hF H locs ls hW (lv_sub hl [1, 0] rfl)
end WX6_holdAll
theorem c_X6_holdAll {l : Launch} {D : va_G} {dA : Nat → ClassId} {α : Nat → Nat → Nat} (hI : Inj 1 α) {σ σz : sm_M} (hF : f_X6_holdAll σ = some σz) : gM l D dA 1 α yX6_holdAll cX6_holdAll 2 none 0 [.ref (α 20 0)] σ none σz :=
  g_met hI (by decide +kernel) (Nat.le_of_ble_eq_true rfl) (fun p e s m below meth c ls G hW hl => w_X6_holdAll_0 G  _ hF _ _ _ hW hl)
section KX6_holdAll
variable {p : Program} {l : Launch} {e : Env} {R : Room} {s : State} {m : MethodId} {args : Array Value} {below : List Frame} {meth : Method} {c : Code} {H : Heap} {locs : List Loc} {cells slots : Nat} {Q : State → Prop}
variable {cc : ByteArray} {pc nL Z : Nat} {ls : Array Slot} {rest : List Value} {D : va_G} {dA : Nat → ClassId} {α : Nat → Nat → Nat} {H0 : Heap} {σ σ' : sm_M} {ret : Option FieldType} {own nm : String}
theorem kk_X6_195 (G : gx p s m meth c args cc nL ret RX6 nm D dA) (hW : Wd D dA 1 α H0 σ H locs) {q : sm_M} (hq : f_X6_holdAll σ = some q) (hls : ls.size = nL) (hR : 0 + 1 ≤ R.frames ∧ 8 + (2 + 11) + 44 * 0 ≤ R.locals) (hf : cells ≤ R.cells ∧ slots ≤ R.slots) (hcat : (rest.map fun v => v.category).sum ≤ 8) (hdg : decode cc pc = .ok (.invokevirtual 195, 3)) (kk : ∀ (H1 : Heap) (locs1 : List Loc), Wd D dA 1 α H0 q H1 locs1 → W p l e R s m args below meth c H1 locs1 cells slots Q (F0 m (pc + 3) ls rest)) : W p l e R s m args below meth c H locs cells slots Q (F0 m pc ls (.ref (α 20 0) :: rest)) :=
  g_cV (n := 0) G (c_X6_holdAll (l := l) hW.2.2.2 hq) ⟨wm_19_22, wm_19_23, wm_20_0, wm_1_5, wm_20_1⟩ (by decide +kernel) hW (g_recv (φ := 20) (ci := 6) G.2.2.2.2.2.2.2.2.1 rfl rfl rfl (by decide) hW.1 rfl) hR hf rfl hls rfl hcat hdg kk
end KX6_holdAll
section WX6_undoAll
variable {p : Program} {l : Launch} {e : Env} {s : State} {m : MethodId} {args : Array Value} {below : List Frame} {meth : Method} {c : Code} {D : va_G} {dA : Nat → ClassId} {α : Nat → Nat → Nat}
set_option maxHeartbeats 4000000 in
set_option maxRecDepth 100000 in
theorem w_X6_undoAll_2 (G : gx p s m meth c args cX6_undoAll 2 none RX6 "undoAll" D dA) {σz : sm_M} : ∀ (n : Nat) (v1 : Int32) (σ : sm_M), f_X6_undoAll_2 n v1 σ = some σz → ∀ (H : Heap) (locs : List Loc) (ls : Array Slot), Wd D dA 1 α s.heap σ H locs → lv_has ls 2 [(0, .ref (α 20 0)), (1, .int v1)] → gW 0 p l e s m args below meth c D dA 1 α none σz H locs (F0 m 2 ls []) := by
  obtain ⟨hx, hb, hr, hlk, hml, hown, hnm, hts, hK, hNw⟩ := id G
  intro n
  induction n with
  | zero => intro v1 σ hF; exact absurd hF (by intro h; cases h)
  | succ n ih =>
    intro v1 σ hF H locs ls hW hl
    rw [f_X6_undoAll_2] at hF
    refine lv_iload_n hx hb dX6_undoAll_2 rfl (lv_at hl 1 rfl) ?_
    refine lv_aload_n hx hb dX6_undoAll_3 rfl (lv_at hl 0 rfl) ?_
    refine gg_X6_135 G hW (by decide) dX6_undoAll_4 ?_
    refine lv_icmp_ge (tgt := 52) hx hb dX6_undoAll_7 (by decide) (fun hc => ?_) (fun hc => ?_)
    · replace hF := o_t hc hF
      exact g_vret G hW hF dX6_undoAll_52
    · replace hF := o_f hc hF
      refine lv_aload_n hx hb dX6_undoAll_10 rfl (lv_at hl 0 rfl) ?_
      refine gg_X6_62 G hW (by decide) dX6_undoAll_11 ?_
      refine lv_iload_n hx hb dX6_undoAll_14 rfl (lv_at hl 1 rfl) ?_
      refine lv_aload_n hx hb dX6_undoAll_15 rfl (lv_at hl 0 rfl) ?_
      refine gg_X6_113 G hW (by decide) dX6_undoAll_16 ?_
      refine lv_iload_n hx hb dX6_undoAll_19 rfl (lv_at hl 1 rfl) ?_
      obtain ⟨x1, hx1, hF⟩ := o_b hF
      refine g_aI (φ := 55) G rfl rfl (by decide) rfl hW (by decide) hx1 dX6_undoAll_20 ?_
      obtain ⟨σ2, hσ2, hF⟩ := o_b hF
      refine g_uI (φ := 38) G rfl rfl (by decide) rfl hW (by decide) hσ2 dX6_undoAll_21 (fun H locs hW => ?_)
      refine lv_aload_n hx hb dX6_undoAll_22 rfl (lv_at hl 0 rfl) ?_
      refine gg_X6_65 G hW (by decide) dX6_undoAll_23 ?_
      refine lv_iload_n hx hb dX6_undoAll_26 rfl (lv_at hl 1 rfl) ?_
      refine lv_aload_n hx hb dX6_undoAll_27 rfl (lv_at hl 0 rfl) ?_
      refine gg_X6_116 G hW (by decide) dX6_undoAll_28 ?_
      refine lv_iload_n hx hb dX6_undoAll_31 rfl (lv_at hl 1 rfl) ?_
      obtain ⟨x3, hx3, hF⟩ := o_b hF
      refine g_aI (φ := 56) G rfl rfl (by decide) rfl hW (by decide) hx3 dX6_undoAll_32 ?_
      obtain ⟨σ4, hσ4, hF⟩ := o_b hF
      refine g_uI (φ := 39) G rfl rfl (by decide) rfl hW (by decide) hσ4 dX6_undoAll_33 (fun H locs hW => ?_)
      refine lv_aload_n hx hb dX6_undoAll_34 rfl (lv_at hl 0 rfl) ?_
      refine gg_X6_68 G hW (by decide) dX6_undoAll_35 ?_
      refine lv_iload_n hx hb dX6_undoAll_38 rfl (lv_at hl 1 rfl) ?_
      refine lv_aload_n hx hb dX6_undoAll_39 rfl (lv_at hl 0 rfl) ?_
      refine gg_X6_119 G hW (by decide) dX6_undoAll_40 ?_
      refine lv_iload_n hx hb dX6_undoAll_43 rfl (lv_at hl 1 rfl) ?_
      obtain ⟨x5, hx5, hF⟩ := o_b hF
      refine g_aI (φ := 57) G rfl rfl (by decide) rfl hW (by decide) hx5 dX6_undoAll_44 ?_
      obtain ⟨σ6, hσ6, hF⟩ := o_b hF
      refine g_uI (φ := 40) G rfl rfl (by decide) rfl hW (by decide) hσ6 dX6_undoAll_45 (fun H locs hW => ?_)
      refine lv_iinc (v := (v1 + 1)) (lv' := [(1, .int (v1 + 1)), (0, .ref (α 20 0))]) hx hb dX6_undoAll_46 hl (k := 1) rfl rfl (by decide) rfl (fun ls hl => ?_)
      refine lv_goto (tgt := 2) hx hb dX6_undoAll_49 (by decide) ?_
      exact ih _ _ hF H locs ls hW (lv_sub hl [1, 0] rfl)
set_option maxHeartbeats 4000000 in
set_option maxRecDepth 100000 in
theorem w_X6_undoAll_0 (G : gx p s m meth c args cX6_undoAll 2 none RX6 "undoAll" D dA) {σz : sm_M} : ∀ (σ : sm_M), f_X6_undoAll σ = some σz → ∀ (H : Heap) (locs : List Loc) (ls : Array Slot), Wd D dA 1 α s.heap σ H locs → lv_has ls 2 [(0, .ref (α 20 0))] → gW 0 p l e s m args below meth c D dA 1 α none σz H locs (F0 m 0 ls []) := by
  obtain ⟨hx, hb, hr, hlk, hml, hown, hnm, hts, hK, hNw⟩ := id G
  intro σ hF H locs ls hW hl
  rw [f_X6_undoAll] at hF
  refine lv_iconst (v := 0) hx hb dX6_undoAll_0 (by decide) ?_
  refine lv_istore_n (lv' := [(1, .int (0 : Int32)), (0, .ref (α 20 0))]) hx hb dX6_undoAll_1 rfl hl (by decide) rfl (fun ls hl => ?_)
  exact w_X6_undoAll_2 G 1000 _ _ hF H locs ls hW (lv_sub hl [1, 0] rfl)
end WX6_undoAll
theorem c_X6_undoAll {l : Launch} {D : va_G} {dA : Nat → ClassId} {α : Nat → Nat → Nat} (hI : Inj 1 α) {σ σz : sm_M} (hF : f_X6_undoAll σ = some σz) : gM l D dA 1 α yX6_undoAll cX6_undoAll 2 none 0 [.ref (α 20 0)] σ none σz :=
  g_met hI (by decide +kernel) (Nat.le_of_ble_eq_true rfl) (fun p e s m below meth c ls G hW hl => w_X6_undoAll_0 G  _ hF _ _ _ hW hl)
section KX6_undoAll
variable {p : Program} {l : Launch} {e : Env} {R : Room} {s : State} {m : MethodId} {args : Array Value} {below : List Frame} {meth : Method} {c : Code} {H : Heap} {locs : List Loc} {cells slots : Nat} {Q : State → Prop}
variable {cc : ByteArray} {pc nL Z : Nat} {ls : Array Slot} {rest : List Value} {D : va_G} {dA : Nat → ClassId} {α : Nat → Nat → Nat} {H0 : Heap} {σ σ' : sm_M} {ret : Option FieldType} {own nm : String}
theorem kk_X6_218 (G : gx p s m meth c args cc nL ret RX6 nm D dA) (hW : Wd D dA 1 α H0 σ H locs) {q : sm_M} (hq : f_X6_undoAll σ = some q) (hls : ls.size = nL) (hR : 0 + 1 ≤ R.frames ∧ 8 + (2 + 11) + 44 * 0 ≤ R.locals) (hf : cells ≤ R.cells ∧ slots ≤ R.slots) (hcat : (rest.map fun v => v.category).sum ≤ 8) (hdg : decode cc pc = .ok (.invokevirtual 218, 3)) (kk : ∀ (H1 : Heap) (locs1 : List Loc), Wd D dA 1 α H0 q H1 locs1 → W p l e R s m args below meth c H1 locs1 cells slots Q (F0 m (pc + 3) ls rest)) : W p l e R s m args below meth c H locs cells slots Q (F0 m pc ls (.ref (α 20 0) :: rest)) :=
  g_cV (n := 0) G (c_X6_undoAll (l := l) hW.2.2.2 hq) ⟨wm_21_16, wm_21_17, wm_21_18, wm_1_5, wm_21_19⟩ (by decide +kernel) hW (g_recv (φ := 20) (ci := 6) G.2.2.2.2.2.2.2.2.1 rfl rfl rfl (by decide) hW.1 rfl) hR hf rfl hls rfl hcat hdg kk
end KX6_undoAll
section WX6_takeRows
variable {p : Program} {l : Launch} {e : Env} {s : State} {m : MethodId} {args : Array Value} {below : List Frame} {meth : Method} {c : Code} {D : va_G} {dA : Nat → ClassId} {α : Nat → Nat → Nat}
set_option maxHeartbeats 4000000 in
set_option maxRecDepth 100000 in
theorem w_X6_takeRows_254 (G : gx p s m meth c args cX6_takeRows 10 (some .int) RX6 "takeRows" D dA) {r : Int32} {σz : sm_M} : ∀ (s0 : Int32) (σ : sm_M), f_X6_takeRows_254 s0 σ = some (r, σz) → ∀ (H : Heap) (locs : List Loc) (ls : Array Slot), Wd D dA 1 α s.heap σ H locs → lv_has ls 10 [] → gW 2 p l e s m args below meth c D dA 1 α (some (.int r)) σz H locs (F0 m 254 ls [.int s0]) := by
  obtain ⟨hx, hb, hr, hlk, hml, hown, hnm, hts, hK, hNw⟩ := id G
  intro s0 σ hF H locs ls hW hl
  rw [f_X6_takeRows_254] at hF
  exact g_iret G hW hF dX6_takeRows_254
set_option maxHeartbeats 4000000 in
set_option maxRecDepth 100000 in
theorem w_X6_takeRows_240 (G : gx p s m meth c args cX6_takeRows 10 (some .int) RX6 "takeRows" D dA) {r : Int32} {σz : sm_M} : ∀ (v7 : Int32) (v8 : Int32) (σ : sm_M), f_X6_takeRows_240 v7 v8 σ = some (r, σz) → ∀ (H : Heap) (locs : List Loc) (ls : Array Slot), Wd D dA 1 α s.heap σ H locs → lv_has ls 10 [(7, .int v7), (8, .int v8)] → gW 2 p l e s m args below meth c D dA 1 α (some (.int r)) σz H locs (F0 m 240 ls []) := by
  obtain ⟨hx, hb, hr, hlk, hml, hown, hnm, hts, hK, hNw⟩ := id G
  intro v7 v8 σ hF H locs ls hW hl
  rw [f_X6_takeRows_240] at hF
  refine lv_iload hx hb dX6_takeRows_240 (lv_at hl 0 rfl) ?_
  refine lv_if_eq (tgt := 252) hx hb dX6_takeRows_242 (by decide) (fun hc => ?_) (fun hc => ?_)
  · replace hF := o_t hc hF
    refine lv_iload hx hb dX6_takeRows_252 (lv_at hl 1 rfl) ?_
    exact w_X6_takeRows_254 G _ _ hF H locs ls hW (lv_sub hl [] rfl)
  · replace hF := o_f hc hF
    refine lv_iconst (v := -1) hx hb dX6_takeRows_245 (by decide) ?_
    refine lv_iload hx hb dX6_takeRows_246 (lv_at hl 1 rfl) ?_
    refine lv_isub hx hb dX6_takeRows_248 ?_
    refine lv_goto (tgt := 254) hx hb dX6_takeRows_249 (by decide) ?_
    exact w_X6_takeRows_254 G _ _ hF H locs ls hW (lv_sub hl [] rfl)
set_option maxHeartbeats 4000000 in
set_option maxRecDepth 100000 in
theorem w_X6_takeRows_193 (G : gx p s m meth c args cX6_takeRows 10 (some .int) RX6 "takeRows" D dA) {r : Int32} {σz : sm_M} : ∀ (v1 : Int32) (v2 : Int32) (v3 : Int32) (v4 : Int32) (v5 : Int32) (v7 : Int32) (σ : sm_M), f_X6_takeRows_193 v1 v2 v3 v4 v5 v7 σ = some (r, σz) → ∀ (H : Heap) (locs : List Loc) (ls : Array Slot), Wd D dA 1 α s.heap σ H locs → lv_has ls 10 [(0, .ref (α 20 0)), (1, .int v1), (2, .int v2), (3, .int v3), (4, .int v4), (5, .int v5), (7, .int v7)] → gW 2 p l e s m args below meth c D dA 1 α (some (.int r)) σz H locs (F0 m 193 ls []) := by
  obtain ⟨hx, hb, hr, hlk, hml, hown, hnm, hts, hK, hNw⟩ := id G
  intro v1 v2 v3 v4 v5 v7 σ hF H locs ls hW hl
  rw [f_X6_takeRows_193] at hF
  refine lv_aload_n hx hb dX6_takeRows_193 rfl (lv_at hl 0 rfl) ?_
  refine gg_X6_19 G hW (by decide) dX6_takeRows_194 ?_
  refine lv_iload_n hx hb dX6_takeRows_197 rfl (lv_at hl 1 rfl) ?_
  obtain ⟨x1, hx1, hF⟩ := o_b hF
  refine g_aI (φ := 24) G rfl rfl (by decide) rfl hW (by decide) hx1 dX6_takeRows_198 ?_
  refine lv_iload_n hx hb dX6_takeRows_199 rfl (lv_at hl 2 rfl) ?_
  refine lv_isub hx hb dX6_takeRows_200 ?_
  refine lv_istore (lv' := [(8, .int (x1 - v2)), (0, .ref (α 20 0)), (1, .int v1), (2, .int v2), (3, .int v3), (4, .int v4), (5, .int v5), (7, .int v7)]) hx hb dX6_takeRows_201 hl (by decide) rfl (fun ls hl => ?_)
  refine lv_iload hx hb dX6_takeRows_203 (lv_at hl 7 rfl) ?_
  refine lv_if_eq (tgt := 240) hx hb dX6_takeRows_205 (by decide) (fun hc => ?_) (fun hc => ?_)
  · replace hF := o_t hc hF
    exact w_X6_takeRows_240 G _ _ _ hF H locs ls hW (lv_sub hl [7, 0] rfl)
  · replace hF := o_f hc hF
    refine lv_aload_n hx hb dX6_takeRows_208 rfl (lv_at hl 1 rfl) ?_
    refine gg_X6_19 G hW (by decide) dX6_takeRows_209 ?_
    refine lv_iload_n hx hb dX6_takeRows_212 rfl (lv_at hl 2 rfl) ?_
    refine lv_iload_n hx hb dX6_takeRows_213 rfl (lv_at hl 3 rfl) ?_
    obtain ⟨σ2, hσ2, hF⟩ := o_b hF
    refine g_uI (φ := 24) G rfl rfl (by decide) rfl hW (by decide) hσ2 dX6_takeRows_214 (fun H locs hW => ?_)
    refine lv_aload_n hx hb dX6_takeRows_215 rfl (lv_at hl 1 rfl) ?_
    refine gg_X6_22 G hW (by decide) dX6_takeRows_216 ?_
    refine lv_iload_n hx hb dX6_takeRows_219 rfl (lv_at hl 2 rfl) ?_
    refine lv_iload_n hx hb dX6_takeRows_220 rfl (lv_at hl 4 rfl) ?_
    obtain ⟨σ3, hσ3, hF⟩ := o_b hF
    refine g_uI (φ := 25) G rfl rfl (by decide) rfl hW (by decide) hσ3 dX6_takeRows_221 (fun H locs hW => ?_)
    refine lv_aload_n hx hb dX6_takeRows_222 rfl (lv_at hl 1 rfl) ?_
    refine gg_X6_25 G hW (by decide) dX6_takeRows_223 ?_
    refine lv_iload_n hx hb dX6_takeRows_226 rfl (lv_at hl 2 rfl) ?_
    refine lv_iload hx hb dX6_takeRows_227 (lv_at hl 5 rfl) ?_
    obtain ⟨σ4, hσ4, hF⟩ := o_b hF
    refine g_uI (φ := 26) G rfl rfl (by decide) rfl hW (by decide) hσ4 dX6_takeRows_229 (fun H locs hW => ?_)
    refine lv_aload_n hx hb dX6_takeRows_230 rfl (lv_at hl 1 rfl) ?_
    refine lv_iload hx hb dX6_takeRows_231 (lv_at hl 6 rfl) ?_
    obtain ⟨σ5, hσ5, hF⟩ := o_b hF
    refine pp_X6_145 G hW (by decide) hσ5 dX6_takeRows_233 (fun H locs hW => ?_)
    refine lv_aload_n hx hb dX6_takeRows_236 rfl (lv_at hl 1 rfl) ?_
    obtain ⟨q6, hq6, hF⟩ := o_b hF
    refine kk_X6_218 G hW hq6 hl.1 ⟨Nat.le_of_ble_eq_true rfl, Nat.le_of_ble_eq_true rfl⟩ ⟨Nat.le_refl _, Nat.le_refl _⟩ (Nat.le_of_ble_eq_true rfl) dX6_takeRows_237 (fun H locs hW => ?_)
    exact w_X6_takeRows_240 G _ _ _ hF H locs ls hW (lv_sub hl [7, 0] rfl)
set_option maxHeartbeats 4000000 in
set_option maxRecDepth 100000 in
theorem w_X6_takeRows_190 (G : gx p s m meth c args cX6_takeRows 10 (some .int) RX6 "takeRows" D dA) {r : Int32} {σz : sm_M} (k46 : Int32 → Int32 → Int32 → Int32 → Int32 → Int32 → Int32 → sm_M → Option (Int32 × sm_M)) (hk46 : ∀ (v1 : Int32) (v2 : Int32) (v3 : Int32) (v4 : Int32) (v5 : Int32) (v6 : Int32) (v7 : Int32) (σ : sm_M), k46 v1 v2 v3 v4 v5 v6 v7 σ = some (r, σz) → ∀ (H : Heap) (locs : List Loc) (ls : Array Slot), Wd D dA 1 α s.heap σ H locs → lv_has ls 10 [(0, .ref (α 20 0)), (1, .int v1), (2, .int v2), (3, .int v3), (4, .int v4), (5, .int v5), (6, .int v6), (7, .int v7)] → gW 2 p l e s m args below meth c D dA 1 α (some (.int r)) σz H locs (F0 m 46 ls [])) : ∀ (v1 : Int32) (v2 : Int32) (v3 : Int32) (v4 : Int32) (v5 : Int32) (v6 : Int32) (v7 : Int32) (σ : sm_M), f_X6_takeRows_190 k46 v1 v2 v3 v4 v5 v6 v7 σ = some (r, σz) → ∀ (H : Heap) (locs : List Loc) (ls : Array Slot), Wd D dA 1 α s.heap σ H locs → lv_has ls 10 [(0, .ref (α 20 0)), (1, .int v1), (2, .int v2), (3, .int v3), (4, .int v4), (5, .int v5), (6, .int v6), (7, .int v7)] → gW 2 p l e s m args below meth c D dA 1 α (some (.int r)) σz H locs (F0 m 190 ls []) := by
  obtain ⟨hx, hb, hr, hlk, hml, hown, hnm, hts, hK, hNw⟩ := id G
  intro v1 v2 v3 v4 v5 v6 v7 σ hF H locs ls hW hl
  rw [f_X6_takeRows_190] at hF
  refine lv_goto (tgt := 46) hx hb dX6_takeRows_190 (by decide) ?_
  exact hk46 _ _ _ _ _ _ _ _ hF H locs ls hW (lv_sub hl [0, 1, 2, 3, 4, 5, 6, 7] rfl)
set_option maxHeartbeats 4000000 in
set_option maxRecDepth 100000 in
theorem w_X6_takeRows_179 (G : gx p s m meth c args cX6_takeRows 10 (some .int) RX6 "takeRows" D dA) {r : Int32} {σz : sm_M} (k46 : Int32 → Int32 → Int32 → Int32 → Int32 → Int32 → Int32 → sm_M → Option (Int32 × sm_M)) (hk46 : ∀ (v1 : Int32) (v2 : Int32) (v3 : Int32) (v4 : Int32) (v5 : Int32) (v6 : Int32) (v7 : Int32) (σ : sm_M), k46 v1 v2 v3 v4 v5 v6 v7 σ = some (r, σz) → ∀ (H : Heap) (locs : List Loc) (ls : Array Slot), Wd D dA 1 α s.heap σ H locs → lv_has ls 10 [(0, .ref (α 20 0)), (1, .int v1), (2, .int v2), (3, .int v3), (4, .int v4), (5, .int v5), (6, .int v6), (7, .int v7)] → gW 2 p l e s m args below meth c D dA 1 α (some (.int r)) σz H locs (F0 m 46 ls [])) : ∀ (v1 : Int32) (v2 : Int32) (v3 : Int32) (v4 : Int32) (v5 : Int32) (v7 : Int32) (σ : sm_M), f_X6_takeRows_179 k46 v1 v2 v3 v4 v5 v7 σ = some (r, σz) → ∀ (H : Heap) (locs : List Loc) (ls : Array Slot), Wd D dA 1 α s.heap σ H locs → lv_has ls 10 [(0, .ref (α 20 0)), (1, .int v1), (2, .int v2), (3, .int v3), (4, .int v4), (5, .int v5), (7, .int v7)] → gW 2 p l e s m args below meth c D dA 1 α (some (.int r)) σz H locs (F0 m 179 ls []) := by
  obtain ⟨hx, hb, hr, hlk, hml, hown, hnm, hts, hK, hNw⟩ := id G
  intro v1 v2 v3 v4 v5 v7 σ hF H locs ls hW hl
  rw [f_X6_takeRows_179] at hF
  refine lv_aload_n hx hb dX6_takeRows_179 rfl (lv_at hl 0 rfl) ?_
  obtain ⟨q1, hq1, hF⟩ := o_b hF
  refine kk_X6_198 G hW hq1 hl.1 ⟨Nat.le_of_ble_eq_true rfl, Nat.le_of_ble_eq_true rfl⟩ ⟨Nat.le_refl _, Nat.le_refl _⟩ (Nat.le_of_ble_eq_true rfl) dX6_takeRows_180 (fun H locs hW => ?_)
  refine lv_aload_n hx hb dX6_takeRows_183 rfl (lv_at hl 0 rfl) ?_
  refine lv_iload_n hx hb dX6_takeRows_184 rfl (lv_at hl 1 rfl) ?_
  obtain ⟨q2, hq2, hF⟩ := o_b hF
  refine kk_X6_201 G hW hq2 hl.1 ⟨Nat.le_of_ble_eq_true rfl, Nat.le_of_ble_eq_true rfl⟩ ⟨Nat.le_refl _, Nat.le_refl _⟩ (Nat.le_of_ble_eq_true rfl) dX6_takeRows_185 (fun H locs hW => ?_)
  refine lv_istore (lv' := [(6, .int q2.1), (0, .ref (α 20 0)), (1, .int v1), (2, .int v2), (3, .int v3), (4, .int v4), (5, .int v5), (7, .int v7)]) hx hb dX6_takeRows_188 hl (by decide) rfl (fun ls hl => ?_)
  exact w_X6_takeRows_190 G k46 hk46 _ _ _ _ _ _ _ _ hF H locs ls hW (lv_sub hl [1, 2, 3, 4, 5, 6, 0, 7] rfl)
set_option maxHeartbeats 4000000 in
set_option maxRecDepth 100000 in
theorem w_X6_takeRows_153 (G : gx p s m meth c args cX6_takeRows 10 (some .int) RX6 "takeRows" D dA) {r : Int32} {σz : sm_M} (k46 : Int32 → Int32 → Int32 → Int32 → Int32 → Int32 → Int32 → sm_M → Option (Int32 × sm_M)) (hk46 : ∀ (v1 : Int32) (v2 : Int32) (v3 : Int32) (v4 : Int32) (v5 : Int32) (v6 : Int32) (v7 : Int32) (σ : sm_M), k46 v1 v2 v3 v4 v5 v6 v7 σ = some (r, σz) → ∀ (H : Heap) (locs : List Loc) (ls : Array Slot), Wd D dA 1 α s.heap σ H locs → lv_has ls 10 [(0, .ref (α 20 0)), (1, .int v1), (2, .int v2), (3, .int v3), (4, .int v4), (5, .int v5), (6, .int v6), (7, .int v7)] → gW 2 p l e s m args below meth c D dA 1 α (some (.int r)) σz H locs (F0 m 46 ls [])) : ∀ (v1 : Int32) (v2 : Int32) (v3 : Int32) (v4 : Int32) (v5 : Int32) (v6 : Int32) (v7 : Int32) (σ : sm_M), f_X6_takeRows_153 k46 v1 v2 v3 v4 v5 v6 v7 σ = some (r, σz) → ∀ (H : Heap) (locs : List Loc) (ls : Array Slot), Wd D dA 1 α s.heap σ H locs → lv_has ls 10 [(0, .ref (α 20 0)), (1, .int v1), (2, .int v2), (3, .int v3), (4, .int v4), (5, .int v5), (6, .int v6), (7, .int v7)] → gW 2 p l e s m args below meth c D dA 1 α (some (.int r)) σz H locs (F0 m 153 ls []) := by
  obtain ⟨hx, hb, hr, hlk, hml, hown, hnm, hts, hK, hNw⟩ := id G
  intro v1 v2 v3 v4 v5 v6 v7 σ hF H locs ls hW hl
  rw [f_X6_takeRows_153] at hF
  refine lv_aload_n hx hb dX6_takeRows_153 rfl (lv_at hl 0 rfl) ?_
  refine gg_X6_19 G hW (by decide) dX6_takeRows_154 ?_
  refine lv_iload_n hx hb dX6_takeRows_157 rfl (lv_at hl 1 rfl) ?_
  refine lv_dup2_11 hx hb dX6_takeRows_158 rfl rfl ?_
  obtain ⟨x1, hx1, hF⟩ := o_b hF
  refine g_aI (φ := 24) G rfl rfl (by decide) rfl hW (by decide) hx1 dX6_takeRows_159 ?_
  refine lv_iconst (v := 1) hx hb dX6_takeRows_160 (by decide) ?_
  refine lv_iadd hx hb dX6_takeRows_161 ?_
  obtain ⟨σ2, hσ2, hF⟩ := o_b hF
  refine g_uI (φ := 24) G rfl rfl (by decide) rfl hW (by decide) hσ2 dX6_takeRows_162 (fun H locs hW => ?_)
  refine lv_iload hx hb dX6_takeRows_163 (lv_at hl 6 rfl) ?_
  refine lv_if_lt (tgt := 179) hx hb dX6_takeRows_165 (by decide) (fun hc => ?_) (fun hc => ?_)
  · replace hF := o_t hc hF
    exact w_X6_takeRows_179 G k46 hk46 _ _ _ _ _ _ _ hF H locs ls hW (lv_sub hl [0, 1, 2, 3, 4, 5, 7] rfl)
  · replace hF := o_f hc hF
    refine lv_aload_n hx hb dX6_takeRows_168 rfl (lv_at hl 0 rfl) ?_
    refine gg_X6_68 G hW (by decide) dX6_takeRows_169 ?_
    refine lv_iload hx hb dX6_takeRows_172 (lv_at hl 6 rfl) ?_
    refine lv_dup2_11 hx hb dX6_takeRows_174 rfl rfl ?_
    obtain ⟨x3, hx3, hF⟩ := o_b hF
    refine g_aI (φ := 40) G rfl rfl (by decide) rfl hW (by decide) hx3 dX6_takeRows_175 ?_
    refine lv_iconst (v := 1) hx hb dX6_takeRows_176 (by decide) ?_
    refine lv_iadd hx hb dX6_takeRows_177 ?_
    obtain ⟨σ4, hσ4, hF⟩ := o_b hF
    refine g_uI (φ := 40) G rfl rfl (by decide) rfl hW (by decide) hσ4 dX6_takeRows_178 (fun H locs hW => ?_)
    exact w_X6_takeRows_179 G k46 hk46 _ _ _ _ _ _ _ hF H locs ls hW (lv_sub hl [0, 1, 2, 3, 4, 5, 7] rfl)
set_option maxHeartbeats 4000000 in
set_option maxRecDepth 100000 in
theorem w_X6_takeRows_134 (G : gx p s m meth c args cX6_takeRows 10 (some .int) RX6 "takeRows" D dA) {r : Int32} {σz : sm_M} (k46 : Int32 → Int32 → Int32 → Int32 → Int32 → Int32 → Int32 → sm_M → Option (Int32 × sm_M)) (hk46 : ∀ (v1 : Int32) (v2 : Int32) (v3 : Int32) (v4 : Int32) (v5 : Int32) (v6 : Int32) (v7 : Int32) (σ : sm_M), k46 v1 v2 v3 v4 v5 v6 v7 σ = some (r, σz) → ∀ (H : Heap) (locs : List Loc) (ls : Array Slot), Wd D dA 1 α s.heap σ H locs → lv_has ls 10 [(0, .ref (α 20 0)), (1, .int v1), (2, .int v2), (3, .int v3), (4, .int v4), (5, .int v5), (6, .int v6), (7, .int v7)] → gW 2 p l e s m args below meth c D dA 1 α (some (.int r)) σz H locs (F0 m 46 ls [])) : ∀ (v1 : Int32) (v2 : Int32) (v3 : Int32) (v4 : Int32) (v5 : Int32) (v6 : Int32) (v8 : Int32) (v9 : Int32) (s0 : Int32) (σ : sm_M), f_X6_takeRows_134 k46 v1 v2 v3 v4 v5 v6 v8 v9 s0 σ = some (r, σz) → ∀ (H : Heap) (locs : List Loc) (ls : Array Slot), Wd D dA 1 α s.heap σ H locs → lv_has ls 10 [(0, .ref (α 20 0)), (1, .int v1), (2, .int v2), (3, .int v3), (4, .int v4), (5, .int v5), (6, .int v6), (8, .int v8), (9, .int v9)] → gW 2 p l e s m args below meth c D dA 1 α (some (.int r)) σz H locs (F0 m 134 ls [.int s0]) := by
  obtain ⟨hx, hb, hr, hlk, hml, hown, hnm, hts, hK, hNw⟩ := id G
  intro v1 v2 v3 v4 v5 v6 v8 v9 s0 σ hF H locs ls hW hl
  rw [f_X6_takeRows_134] at hF
  refine lv_istore (lv' := [(7, .int s0), (0, .ref (α 20 0)), (1, .int v1), (2, .int v2), (3, .int v3), (4, .int v4), (5, .int v5), (6, .int v6), (8, .int v8), (9, .int v9)]) hx hb dX6_takeRows_134 hl (by decide) rfl (fun ls hl => ?_)
  refine lv_iload hx hb dX6_takeRows_136 (lv_at hl 0 rfl) ?_
  refine lv_if_ne (tgt := 190) hx hb dX6_takeRows_138 (by decide) (fun hc => ?_) (fun hc => ?_)
  · replace hF := o_f hc hF
    exact w_X6_takeRows_190 G k46 hk46 _ _ _ _ _ _ _ _ hF H locs ls hW (lv_sub hl [1, 2, 3, 4, 5, 6, 7, 0] rfl)
  · replace hF := o_t hc hF
    refine lv_iload hx hb dX6_takeRows_141 (lv_at hl 9 rfl) ?_
    refine lv_if_ne (tgt := 153) hx hb dX6_takeRows_143 (by decide) (fun hc => ?_) (fun hc => ?_)
    · replace hF := o_f hc hF
      exact w_X6_takeRows_153 G k46 hk46 _ _ _ _ _ _ _ _ hF H locs ls hW (lv_sub hl [1, 2, 3, 4, 5, 6, 7, 0] rfl)
    · replace hF := o_t hc hF
      refine lv_aload_n hx hb dX6_takeRows_146 rfl (lv_at hl 1 rfl) ?_
      refine lv_iload_n hx hb dX6_takeRows_147 rfl (lv_at hl 2 rfl) ?_
      refine lv_iload hx hb dX6_takeRows_148 (lv_at hl 8 rfl) ?_
      obtain ⟨q1, hq1, hF⟩ := o_b hF
      refine kk_X6_215 G hW hq1 hl.1 ⟨Nat.le_of_ble_eq_true rfl, Nat.le_of_ble_eq_true rfl⟩ ⟨Nat.le_refl _, Nat.le_refl _⟩ (Nat.le_of_ble_eq_true rfl) dX6_takeRows_150 (fun H locs hW => ?_)
      exact w_X6_takeRows_153 G k46 hk46 _ _ _ _ _ _ _ _ hF H locs ls hW (lv_sub hl [1, 2, 3, 4, 5, 6, 7, 0] rfl)
set_option maxHeartbeats 4000000 in
set_option maxRecDepth 100000 in
theorem w_X6_takeRows_133 (G : gx p s m meth c args cX6_takeRows 10 (some .int) RX6 "takeRows" D dA) {r : Int32} {σz : sm_M} (k46 : Int32 → Int32 → Int32 → Int32 → Int32 → Int32 → Int32 → sm_M → Option (Int32 × sm_M)) (hk46 : ∀ (v1 : Int32) (v2 : Int32) (v3 : Int32) (v4 : Int32) (v5 : Int32) (v6 : Int32) (v7 : Int32) (σ : sm_M), k46 v1 v2 v3 v4 v5 v6 v7 σ = some (r, σz) → ∀ (H : Heap) (locs : List Loc) (ls : Array Slot), Wd D dA 1 α s.heap σ H locs → lv_has ls 10 [(0, .ref (α 20 0)), (1, .int v1), (2, .int v2), (3, .int v3), (4, .int v4), (5, .int v5), (6, .int v6), (7, .int v7)] → gW 2 p l e s m args below meth c D dA 1 α (some (.int r)) σz H locs (F0 m 46 ls [])) : ∀ (v1 : Int32) (v2 : Int32) (v3 : Int32) (v4 : Int32) (v5 : Int32) (v6 : Int32) (v8 : Int32) (v9 : Int32) (σ : sm_M), f_X6_takeRows_133 k46 v1 v2 v3 v4 v5 v6 v8 v9 σ = some (r, σz) → ∀ (H : Heap) (locs : List Loc) (ls : Array Slot), Wd D dA 1 α s.heap σ H locs → lv_has ls 10 [(0, .ref (α 20 0)), (1, .int v1), (2, .int v2), (3, .int v3), (4, .int v4), (5, .int v5), (6, .int v6), (8, .int v8), (9, .int v9)] → gW 2 p l e s m args below meth c D dA 1 α (some (.int r)) σz H locs (F0 m 133 ls []) := by
  obtain ⟨hx, hb, hr, hlk, hml, hown, hnm, hts, hK, hNw⟩ := id G
  intro v1 v2 v3 v4 v5 v6 v8 v9 σ hF H locs ls hW hl
  rw [f_X6_takeRows_133] at hF
  refine lv_iconst (v := 0) hx hb dX6_takeRows_133 (by decide) ?_
  exact w_X6_takeRows_134 G k46 hk46 _ _ _ _ _ _ _ _ _ _ hF H locs ls hW (lv_sub hl [0, 1, 2, 3, 4, 5, 6, 7, 8] rfl)
set_option maxHeartbeats 4000000 in
set_option maxRecDepth 100000 in
theorem w_X6_takeRows_46 (G : gx p s m meth c args cX6_takeRows 10 (some .int) RX6 "takeRows" D dA) {r : Int32} {σz : sm_M} : ∀ (n : Nat) (v1 : Int32) (v2 : Int32) (v3 : Int32) (v4 : Int32) (v5 : Int32) (v6 : Int32) (v7 : Int32) (σ : sm_M), f_X6_takeRows_46 n v1 v2 v3 v4 v5 v6 v7 σ = some (r, σz) → ∀ (H : Heap) (locs : List Loc) (ls : Array Slot), Wd D dA 1 α s.heap σ H locs → lv_has ls 10 [(0, .ref (α 20 0)), (1, .int v1), (2, .int v2), (3, .int v3), (4, .int v4), (5, .int v5), (6, .int v6), (7, .int v7)] → gW 2 p l e s m args below meth c D dA 1 α (some (.int r)) σz H locs (F0 m 46 ls []) := by
  obtain ⟨hx, hb, hr, hlk, hml, hown, hnm, hts, hK, hNw⟩ := id G
  intro n
  induction n with
  | zero => intro v1 v2 v3 v4 v5 v6 v7 σ hF; exact absurd hF (by intro h; cases h)
  | succ n ih =>
    intro v1 v2 v3 v4 v5 v6 v7 σ hF H locs ls hW hl
    rw [f_X6_takeRows_46] at hF
    refine lv_iload hx hb dX6_takeRows_46 (lv_at hl 6 rfl) ?_
    refine lv_bipush (v := -9) hx hb dX6_takeRows_48 (by decide) ?_
    refine lv_icmp_eq (tgt := 193) hx hb dX6_takeRows_50 (by decide) (fun hc => ?_) (fun hc => ?_)
    · replace hF := o_t hc hF
      exact w_X6_takeRows_193 G _ _ _ _ _ _ _ hF H locs ls hW (lv_sub hl [0, 1, 2, 3, 4, 5, 7] rfl)
    · replace hF := o_f hc hF
      refine lv_aload_n hx hb dX6_takeRows_53 rfl (lv_at hl 0 rfl) ?_
      refine gg_X6_19 G hW (by decide) dX6_takeRows_54 ?_
      refine lv_iload_n hx hb dX6_takeRows_57 rfl (lv_at hl 1 rfl) ?_
      obtain ⟨x1, hx1, hF⟩ := o_b hF
      refine g_aI (φ := 24) G rfl rfl (by decide) rfl hW (by decide) hx1 dX6_takeRows_58 ?_
      refine lv_iload_n hx hb dX6_takeRows_59 rfl (lv_at hl 2 rfl) ?_
      refine lv_isub hx hb dX6_takeRows_60 ?_
      refine lv_aload_n hx hb dX6_takeRows_61 rfl (lv_at hl 0 rfl) ?_
      refine gg_X6_34 G hW (by decide) dX6_takeRows_62 ?_
      refine lv_iload_n hx hb dX6_takeRows_65 rfl (lv_at hl 1 rfl) ?_
      obtain ⟨x2, hx2, hF⟩ := o_b hF
      refine g_aI (φ := 29) G rfl rfl (by decide) rfl hW (by decide) hx2 dX6_takeRows_66 ?_
      refine lv_icmp_ge (tgt := 193) hx hb dX6_takeRows_67 (by decide) (fun hc => ?_) (fun hc => ?_)
      · replace hF := o_t hc hF
        exact w_X6_takeRows_193 G _ _ _ _ _ _ _ hF H locs ls hW (lv_sub hl [0, 1, 2, 3, 4, 5, 7] rfl)
      · replace hF := o_f hc hF
        refine lv_aload_n hx hb dX6_takeRows_70 rfl (lv_at hl 0 rfl) ?_
        refine lv_iload_n hx hb dX6_takeRows_71 rfl (lv_at hl 1 rfl) ?_
        obtain ⟨q3, hq3, hF⟩ := o_b hF
        refine kk_X6_204 G hW hq3 hl.1 ⟨Nat.le_of_ble_eq_true rfl, Nat.le_of_ble_eq_true rfl⟩ ⟨Nat.le_refl _, Nat.le_refl _⟩ (Nat.le_of_ble_eq_true rfl) dX6_takeRows_72 (fun H locs hW => ?_)
        refine lv_if_eq (tgt := 193) hx hb dX6_takeRows_75 (by decide) (fun hc => ?_) (fun hc => ?_)
        · replace hF := o_t hc hF
          exact w_X6_takeRows_193 G _ _ _ _ _ _ _ hF H locs ls hW (lv_sub hl [0, 1, 2, 3, 4, 5, 7] rfl)
        · replace hF := o_f hc hF
          refine lv_iload hx hb dX6_takeRows_78 (lv_at hl 7 rfl) ?_
          refine lv_if_ne (tgt := 193) hx hb dX6_takeRows_80 (by decide) (fun hc => ?_) (fun hc => ?_)
          · replace hF := o_f hc hF
            exact w_X6_takeRows_193 G _ _ _ _ _ _ _ hF H locs ls hW (lv_sub hl [0, 1, 2, 3, 4, 5, 7] rfl)
          · replace hF := o_t hc hF
            refine lv_aload_n hx hb dX6_takeRows_83 rfl (lv_at hl 0 rfl) ?_
            refine lv_iload_n hx hb dX6_takeRows_84 rfl (lv_at hl 1 rfl) ?_
            refine lv_iload hx hb dX6_takeRows_85 (lv_at hl 6 rfl) ?_
            obtain ⟨q4, hq4, hF⟩ := o_b hF
            refine kk_X6_207 G hW hq4 hl.1 ⟨Nat.le_of_ble_eq_true rfl, Nat.le_of_ble_eq_true rfl⟩ ⟨Nat.le_refl _, Nat.le_refl _⟩ (Nat.le_of_ble_eq_true rfl) dX6_takeRows_87 (fun H locs hW => ?_)
            refine lv_istore (lv' := [(8, .int q4.1), (0, .ref (α 20 0)), (1, .int v1), (2, .int v2), (3, .int v3), (4, .int v4), (5, .int v5), (6, .int v6), (7, .int v7)]) hx hb dX6_takeRows_90 hl (by decide) rfl (fun ls hl => ?_)
            refine lv_aload_n hx hb dX6_takeRows_92 rfl (lv_at hl 1 rfl) ?_
            refine lv_iload_n hx hb dX6_takeRows_93 rfl (lv_at hl 2 rfl) ?_
            refine lv_aload_n hx hb dX6_takeRows_94 rfl (lv_at hl 1 rfl) ?_
            refine gg_X6_19 G hW (by decide) dX6_takeRows_95 ?_
            refine lv_iload_n hx hb dX6_takeRows_98 rfl (lv_at hl 2 rfl) ?_
            obtain ⟨x5, hx5, hF⟩ := o_b hF
            refine g_aI (φ := 24) G rfl rfl (by decide) rfl hW (by decide) hx5 dX6_takeRows_99 ?_
            obtain ⟨q6, hq6, hF⟩ := o_b hF
            refine kk_X6_211 G hW hq6 hl.1 ⟨Nat.le_of_ble_eq_true rfl, Nat.le_of_ble_eq_true rfl⟩ ⟨Nat.le_refl _, Nat.le_refl _⟩ (Nat.le_of_ble_eq_true rfl) dX6_takeRows_100 (fun H locs hW => ?_)
            refine lv_istore (lv' := [(9, .int q6.1), (8, .int q4.1), (0, .ref (α 20 0)), (1, .int v1), (2, .int v2), (3, .int v3), (4, .int v4), (5, .int v5), (6, .int v6), (7, .int v7)]) hx hb dX6_takeRows_103 hl (by decide) rfl (fun ls hl => ?_)
            refine lv_iload hx hb dX6_takeRows_105 (lv_at hl 1 rfl) ?_
            refine lv_aload_n hx hb dX6_takeRows_107 rfl (lv_at hl 2 rfl) ?_
            refine gg_X6_31 G hW (by decide) dX6_takeRows_108 ?_
            refine lv_iload_n hx hb dX6_takeRows_111 rfl (lv_at hl 3 rfl) ?_
            obtain ⟨x7, hx7, hF⟩ := o_b hF
            refine g_aI (φ := 28) G rfl rfl (by decide) rfl hW (by decide) hx7 dX6_takeRows_112 ?_
            refine lv_icmp_ne (tgt := 133) hx hb dX6_takeRows_113 (by decide) (fun hc => ?_) (fun hc => ?_)
            · replace hF := o_f hc hF
              exact w_X6_takeRows_133 G (f_X6_takeRows_46 n) ih _ _ _ _ _ _ _ _ _ hF H locs ls hW (lv_sub hl [2, 3, 4, 5, 6, 7, 8, 1, 0] rfl)
            · replace hF := o_t hc hF
              refine lv_iload hx hb dX6_takeRows_116 (lv_at hl 1 rfl) ?_
              refine lv_sipush (v := 1001) hx hb dX6_takeRows_118 (by decide) ?_
              refine lv_icmp_eq (tgt := 133) hx hb dX6_takeRows_121 (by decide) (fun hc => ?_) (fun hc => ?_)
              · replace hF := o_t hc hF
                exact w_X6_takeRows_133 G (f_X6_takeRows_46 n) ih _ _ _ _ _ _ _ _ _ hF H locs ls hW (lv_sub hl [2, 3, 4, 5, 6, 7, 8, 1, 0] rfl)
              · replace hF := o_f hc hF
                refine lv_iload hx hb dX6_takeRows_124 (lv_at hl 0 rfl) ?_
                refine lv_if_ne (tgt := 133) hx hb dX6_takeRows_126 (by decide) (fun hc => ?_) (fun hc => ?_)
                · replace hF := o_f hc hF
                  exact w_X6_takeRows_133 G (f_X6_takeRows_46 n) ih _ _ _ _ _ _ _ _ _ hF H locs ls hW (lv_sub hl [2, 3, 4, 5, 6, 7, 8, 1, 0] rfl)
                · replace hF := o_t hc hF
                  refine lv_iconst (v := 1) hx hb dX6_takeRows_129 (by decide) ?_
                  refine lv_goto (tgt := 134) hx hb dX6_takeRows_130 (by decide) ?_
                  exact w_X6_takeRows_134 G (f_X6_takeRows_46 n) ih _ _ _ _ _ _ _ _ _ _ hF H locs ls hW (lv_sub hl [2, 3, 4, 5, 6, 7, 8, 1, 0] rfl)
set_option maxHeartbeats 4000000 in
set_option maxRecDepth 100000 in
theorem w_X6_takeRows_0 (G : gx p s m meth c args cX6_takeRows 10 (some .int) RX6 "takeRows" D dA) {r : Int32} {σz : sm_M} : ∀ (v1 : Int32) (σ : sm_M), f_X6_takeRows v1 σ = some (r, σz) → ∀ (H : Heap) (locs : List Loc) (ls : Array Slot), Wd D dA 1 α s.heap σ H locs → lv_has ls 10 [(0, .ref (α 20 0)), (1, .int v1)] → gW 2 p l e s m args below meth c D dA 1 α (some (.int r)) σz H locs (F0 m 0 ls []) := by
  obtain ⟨hx, hb, hr, hlk, hml, hown, hnm, hts, hK, hNw⟩ := id G
  intro v1 σ hF H locs ls hW hl
  rw [f_X6_takeRows] at hF
  refine lv_aload_n hx hb dX6_takeRows_0 rfl (lv_at hl 0 rfl) ?_
  refine gg_X6_19 G hW (by decide) dX6_takeRows_1 ?_
  refine lv_iload_n hx hb dX6_takeRows_4 rfl (lv_at hl 1 rfl) ?_
  obtain ⟨x1, hx1, hF⟩ := o_b hF
  refine g_aI (φ := 24) G rfl rfl (by decide) rfl hW (by decide) hx1 dX6_takeRows_5 ?_
  refine lv_istore_n (lv' := [(2, .int x1), (0, .ref (α 20 0)), (1, .int v1)]) hx hb dX6_takeRows_6 rfl hl (by decide) rfl (fun ls hl => ?_)
  refine lv_aload_n hx hb dX6_takeRows_7 rfl (lv_at hl 1 rfl) ?_
  refine gg_X6_22 G hW (by decide) dX6_takeRows_8 ?_
  refine lv_iload_n hx hb dX6_takeRows_11 rfl (lv_at hl 2 rfl) ?_
  obtain ⟨x2, hx2, hF⟩ := o_b hF
  refine g_aI (φ := 25) G rfl rfl (by decide) rfl hW (by decide) hx2 dX6_takeRows_12 ?_
  refine lv_istore_n (lv' := [(3, .int x2), (2, .int x1), (0, .ref (α 20 0)), (1, .int v1)]) hx hb dX6_takeRows_13 rfl hl (by decide) rfl (fun ls hl => ?_)
  refine lv_aload_n hx hb dX6_takeRows_14 rfl (lv_at hl 2 rfl) ?_
  refine gg_X6_25 G hW (by decide) dX6_takeRows_15 ?_
  refine lv_iload_n hx hb dX6_takeRows_18 rfl (lv_at hl 3 rfl) ?_
  obtain ⟨x3, hx3, hF⟩ := o_b hF
  refine g_aI (φ := 26) G rfl rfl (by decide) rfl hW (by decide) hx3 dX6_takeRows_19 ?_
  refine lv_istore (lv' := [(4, .int x3), (3, .int x2), (2, .int x1), (0, .ref (α 20 0)), (1, .int v1)]) hx hb dX6_takeRows_20 hl (by decide) rfl (fun ls hl => ?_)
  refine lv_aload_n hx hb dX6_takeRows_22 rfl (lv_at hl 3 rfl) ?_
  refine gg_X6_145 G hW (by decide) dX6_takeRows_23 ?_
  refine lv_istore (lv' := [(5, .int (σ.1 20 0 34)), (4, .int x3), (3, .int x2), (2, .int x1), (0, .ref (α 20 0)), (1, .int v1)]) hx hb dX6_takeRows_26 hl (by decide) rfl (fun ls hl => ?_)
  refine lv_aload_n hx hb dX6_takeRows_28 rfl (lv_at hl 4 rfl) ?_
  obtain ⟨q4, hq4, hF⟩ := o_b hF
  refine kk_X6_195 G hW hq4 hl.1 ⟨Nat.le_of_ble_eq_true rfl, Nat.le_of_ble_eq_true rfl⟩ ⟨Nat.le_refl _, Nat.le_refl _⟩ (Nat.le_of_ble_eq_true rfl) dX6_takeRows_29 (fun H locs hW => ?_)
  refine lv_aload_n hx hb dX6_takeRows_32 rfl (lv_at hl 4 rfl) ?_
  obtain ⟨q5, hq5, hF⟩ := o_b hF
  refine kk_X6_198 G hW hq5 hl.1 ⟨Nat.le_of_ble_eq_true rfl, Nat.le_of_ble_eq_true rfl⟩ ⟨Nat.le_refl _, Nat.le_refl _⟩ (Nat.le_of_ble_eq_true rfl) dX6_takeRows_33 (fun H locs hW => ?_)
  refine lv_aload_n hx hb dX6_takeRows_36 rfl (lv_at hl 4 rfl) ?_
  refine lv_iload_n hx hb dX6_takeRows_37 rfl (lv_at hl 5 rfl) ?_
  obtain ⟨q6, hq6, hF⟩ := o_b hF
  refine kk_X6_201 G hW hq6 hl.1 ⟨Nat.le_of_ble_eq_true rfl, Nat.le_of_ble_eq_true rfl⟩ ⟨Nat.le_refl _, Nat.le_refl _⟩ (Nat.le_of_ble_eq_true rfl) dX6_takeRows_38 (fun H locs hW => ?_)
  refine lv_istore (lv' := [(6, .int q6.1), (5, .int (σ.1 20 0 34)), (4, .int x3), (3, .int x2), (2, .int x1), (0, .ref (α 20 0)), (1, .int v1)]) hx hb dX6_takeRows_41 hl (by decide) rfl (fun ls hl => ?_)
  refine lv_iconst (v := 0) hx hb dX6_takeRows_43 (by decide) ?_
  refine lv_istore (lv' := [(7, .int (0 : Int32)), (6, .int q6.1), (5, .int (σ.1 20 0 34)), (4, .int x3), (3, .int x2), (2, .int x1), (0, .ref (α 20 0)), (1, .int v1)]) hx hb dX6_takeRows_44 hl (by decide) rfl (fun ls hl => ?_)
  exact w_X6_takeRows_46 G 1000 _ _ _ _ _ _ _ _ hF H locs ls hW (lv_sub hl [6, 7, 5, 4, 3, 2, 1, 0] rfl)
end WX6_takeRows
theorem c_X6_takeRows {l : Launch} {D : va_G} {dA : Nat → ClassId} {α : Nat → Nat → Nat} (hI : Inj 1 α) {v1 : Int32} {σ σz : sm_M} {r : Int32} (hF : f_X6_takeRows v1 σ = some (r, σz)) : gM l D dA 1 α yX6_takeRows cX6_takeRows 10 (some .int) 2 [.ref (α 20 0), .int v1] σ (some (.int r)) σz :=
  g_met hI (by decide +kernel) (Nat.le_of_ble_eq_true rfl) (fun p e s m below meth c ls G hW hl => w_X6_takeRows_0 G _ _ hF _ _ _ hW hl)
section KX6_takeRows
variable {p : Program} {l : Launch} {e : Env} {R : Room} {s : State} {m : MethodId} {args : Array Value} {below : List Frame} {meth : Method} {c : Code} {H : Heap} {locs : List Loc} {cells slots : Nat} {Q : State → Prop}
variable {cc : ByteArray} {pc nL Z : Nat} {ls : Array Slot} {rest : List Value} {D : va_G} {dA : Nat → ClassId} {α : Nat → Nat → Nat} {H0 : Heap} {σ σ' : sm_M} {ret : Option FieldType} {own nm : String}
theorem kk_X6_221 (G : gx p s m meth c args cc nL ret RX6 nm D dA) (hW : Wd D dA 1 α H0 σ H locs) {v1 : Int32} {q : Int32 × sm_M} (hq : f_X6_takeRows v1 σ = some q) (hls : ls.size = nL) (hR : 2 + 1 ≤ R.frames ∧ 8 + (10 + 11) + 44 * 2 ≤ R.locals) (hf : cells ≤ R.cells ∧ slots ≤ R.slots) (hcat : (rest.map fun v => v.category).sum ≤ 8) (hdg : decode cc pc = .ok (.invokevirtual 221, 3)) (kk : ∀ (H1 : Heap) (locs1 : List Loc), Wd D dA 1 α H0 q.2 H1 locs1 → W p l e R s m args below meth c H1 locs1 cells slots Q (F0 m (pc + 3) ls (.int q.1 :: rest))) : W p l e R s m args below meth c H locs cells slots Q (F0 m pc ls (.int v1 :: .ref (α 20 0) :: rest)) :=
  g_cV (n := 1) G (c_X6_takeRows (l := l) hW.2.2.2 hq) ⟨wm_19_18, wm_19_19, wm_19_20, wm_1_5, wm_19_21⟩ (by decide +kernel) hW (g_recv (φ := 20) (ci := 6) G.2.2.2.2.2.2.2.2.1 rfl rfl rfl (by decide) hW.1 rfl) hR hf rfl hls rfl hcat hdg kk
end KX6_takeRows
section WX6_blame
variable {p : Program} {l : Launch} {e : Env} {s : State} {m : MethodId} {args : Array Value} {below : List Frame} {meth : Method} {c : Code} {D : va_G} {dA : Nat → ClassId} {α : Nat → Nat → Nat}
set_option maxHeartbeats 4000000 in
set_option maxRecDepth 100000 in
theorem w_X6_blame_0 (G : gx p s m meth c args cX6_blame 3 none RX6 "blame" D dA) {σz : sm_M} : ∀ (v1 : Int32) (v2 : Int32) (σ : sm_M), f_X6_blame v1 v2 σ = some σz → ∀ (H : Heap) (locs : List Loc) (ls : Array Slot), Wd D dA 1 α s.heap σ H locs → lv_has ls 3 [(0, .ref (α 20 0)), (1, .int v1), (2, .int v2)] → gW 0 p l e s m args below meth c D dA 1 α none σz H locs (F0 m 0 ls []) := by
  obtain ⟨hx, hb, hr, hlk, hml, hown, hnm, hts, hK, hNw⟩ := id G
  intro v1 v2 σ hF H locs ls hW hl
  rw [f_X6_blame] at hF
  refine lv_aload_n hx hb dX6_blame_0 rfl (lv_at hl 0 rfl) ?_
  refine gg_X6_37 G hW (by decide) dX6_blame_1 ?_
  refine lv_iload_n hx hb dX6_blame_4 rfl (lv_at hl 1 rfl) ?_
  refine lv_dup2_11 hx hb dX6_blame_5 rfl rfl ?_
  obtain ⟨x1, hx1, hF⟩ := o_b hF
  refine g_aI (φ := 30) G rfl rfl (by decide) rfl hW (by decide) hx1 dX6_blame_6 ?_
  refine lv_iconst (v := 1) hx hb dX6_blame_7 (by decide) ?_
  refine lv_iadd hx hb dX6_blame_8 ?_
  obtain ⟨σ2, hσ2, hF⟩ := o_b hF
  refine g_uI (φ := 30) G rfl rfl (by decide) rfl hW (by decide) hσ2 dX6_blame_9 (fun H locs hW => ?_)
  refine lv_aload_n hx hb dX6_blame_10 rfl (lv_at hl 0 rfl) ?_
  refine gg_X6_160 G hW (by decide) dX6_blame_11 ?_
  refine lv_bipush (v := 64) hx hb dX6_blame_14 (by decide) ?_
  refine lv_icmp_ge (tgt := 62) hx hb dX6_blame_16 (by decide) (fun hc => ?_) (fun hc => ?_)
  · replace hF := o_t hc hF
    exact g_vret G hW hF dX6_blame_62
  · replace hF := o_f hc hF
    refine lv_aload_n hx hb dX6_blame_19 rfl (lv_at hl 0 rfl) ?_
    refine gg_X6_101 G hW (by decide) dX6_blame_20 ?_
    refine lv_aload_n hx hb dX6_blame_23 rfl (lv_at hl 0 rfl) ?_
    refine gg_X6_160 G hW (by decide) dX6_blame_24 ?_
    refine lv_iload_n hx hb dX6_blame_27 rfl (lv_at hl 1 rfl) ?_
    obtain ⟨σ3, hσ3, hF⟩ := o_b hF
    refine g_uI (φ := 51) G rfl rfl (by decide) rfl hW (by decide) hσ3 dX6_blame_28 (fun H locs hW => ?_)
    refine lv_aload_n hx hb dX6_blame_29 rfl (lv_at hl 0 rfl) ?_
    refine gg_X6_104 G hW (by decide) dX6_blame_30 ?_
    refine lv_aload_n hx hb dX6_blame_33 rfl (lv_at hl 0 rfl) ?_
    refine gg_X6_160 G hW (by decide) dX6_blame_34 ?_
    refine lv_aload_n hx hb dX6_blame_37 rfl (lv_at hl 0 rfl) ?_
    refine gg_X6_148 G hW (by decide) dX6_blame_38 ?_
    obtain ⟨σ4, hσ4, hF⟩ := o_b hF
    refine g_uI (φ := 52) G rfl rfl (by decide) rfl hW (by decide) hσ4 dX6_blame_41 (fun H locs hW => ?_)
    refine lv_aload_n hx hb dX6_blame_42 rfl (lv_at hl 0 rfl) ?_
    refine gg_X6_107 G hW (by decide) dX6_blame_43 ?_
    refine lv_aload_n hx hb dX6_blame_46 rfl (lv_at hl 0 rfl) ?_
    refine gg_X6_160 G hW (by decide) dX6_blame_47 ?_
    refine lv_iload_n hx hb dX6_blame_50 rfl (lv_at hl 2 rfl) ?_
    obtain ⟨σ5, hσ5, hF⟩ := o_b hF
    refine g_uI (φ := 53) G rfl rfl (by decide) rfl hW (by decide) hσ5 dX6_blame_51 (fun H locs hW => ?_)
    refine lv_aload_n hx hb dX6_blame_52 rfl (lv_at hl 0 rfl) ?_
    refine lv_dup hx hb dX6_blame_53 rfl ?_
    refine gg_X6_160 G hW (by decide) dX6_blame_54 ?_
    refine lv_iconst (v := 1) hx hb dX6_blame_57 (by decide) ?_
    refine lv_iadd hx hb dX6_blame_58 ?_
    obtain ⟨σ6, hσ6, hF⟩ := o_b hF
    refine pp_X6_160 G hW (by decide) hσ6 dX6_blame_59 (fun H locs hW => ?_)
    exact g_vret G hW hF dX6_blame_62
end WX6_blame
theorem c_X6_blame {l : Launch} {D : va_G} {dA : Nat → ClassId} {α : Nat → Nat → Nat} (hI : Inj 1 α) {v1 : Int32} {v2 : Int32} {σ σz : sm_M} (hF : f_X6_blame v1 v2 σ = some σz) : gM l D dA 1 α yX6_blame cX6_blame 3 none 0 [.ref (α 20 0), .int v1, .int v2] σ none σz :=
  g_met hI (by decide +kernel) (Nat.le_of_ble_eq_true rfl) (fun p e s m below meth c ls G hW hl => w_X6_blame_0 G _ _ _ hF _ _ _ hW hl)
section KX6_blame
variable {p : Program} {l : Launch} {e : Env} {R : Room} {s : State} {m : MethodId} {args : Array Value} {below : List Frame} {meth : Method} {c : Code} {H : Heap} {locs : List Loc} {cells slots : Nat} {Q : State → Prop}
variable {cc : ByteArray} {pc nL Z : Nat} {ls : Array Slot} {rest : List Value} {D : va_G} {dA : Nat → ClassId} {α : Nat → Nat → Nat} {H0 : Heap} {σ σ' : sm_M} {ret : Option FieldType} {own nm : String}
theorem kk_X6_230 (G : gx p s m meth c args cc nL ret RX6 nm D dA) (hW : Wd D dA 1 α H0 σ H locs) {v1 : Int32} {v2 : Int32} {q : sm_M} (hq : f_X6_blame v1 v2 σ = some q) (hls : ls.size = nL) (hR : 0 + 1 ≤ R.frames ∧ 8 + (3 + 11) + 44 * 0 ≤ R.locals) (hf : cells ≤ R.cells ∧ slots ≤ R.slots) (hcat : (rest.map fun v => v.category).sum ≤ 8) (hdg : decode cc pc = .ok (.invokevirtual 230, 3)) (kk : ∀ (H1 : Heap) (locs1 : List Loc), Wd D dA 1 α H0 q H1 locs1 → W p l e R s m args below meth c H1 locs1 cells slots Q (F0 m (pc + 3) ls rest)) : W p l e R s m args below meth c H locs cells slots Q (F0 m pc ls (.int v2 :: .int v1 :: .ref (α 20 0) :: rest)) :=
  g_cV (n := 2) G (c_X6_blame (l := l) hW.2.2.2 hq) ⟨wm_22_0, wm_22_1, wm_22_2, wm_1_5, wm_22_3⟩ (by decide +kernel) hW (g_recv (φ := 20) (ci := 6) G.2.2.2.2.2.2.2.2.1 rfl rfl rfl (by decide) hW.1 rfl) hR hf rfl hls rfl hcat hdg kk
end KX6_blame
section WX6_noRegion
variable {p : Program} {l : Launch} {e : Env} {s : State} {m : MethodId} {args : Array Value} {below : List Frame} {meth : Method} {c : Code} {D : va_G} {dA : Nat → ClassId} {α : Nat → Nat → Nat}
set_option maxHeartbeats 4000000 in
set_option maxRecDepth 100000 in
theorem w_X6_noRegion_2 (G : gx p s m meth c args cX6_noRegion 2 none RX6 "noRegion" D dA) {σz : sm_M} : ∀ (n : Nat) (v1 : Int32) (σ : sm_M), f_X6_noRegion_2 n v1 σ = some σz → ∀ (H : Heap) (locs : List Loc) (ls : Array Slot), Wd D dA 1 α s.heap σ H locs → lv_has ls 2 [(0, .ref (α 20 0)), (1, .int v1)] → gW 0 p l e s m args below meth c D dA 1 α none σz H locs (F0 m 2 ls []) := by
  obtain ⟨hx, hb, hr, hlk, hml, hown, hnm, hts, hK, hNw⟩ := id G
  intro n
  induction n with
  | zero => intro v1 σ hF; exact absurd hF (by intro h; cases h)
  | succ n ih =>
    intro v1 σ hF H locs ls hW hl
    rw [f_X6_noRegion_2] at hF
    refine lv_iload_n hx hb dX6_noRegion_2 rfl (lv_at hl 1 rfl) ?_
    refine lv_bipush (v := 16) hx hb dX6_noRegion_3 (by decide) ?_
    refine lv_icmp_ge (tgt := 28) hx hb dX6_noRegion_5 (by decide) (fun hc => ?_) (fun hc => ?_)
    · replace hF := o_t hc hF
      exact g_vret G hW hF dX6_noRegion_28
    · replace hF := o_f hc hF
      refine lv_aload_n hx hb dX6_noRegion_8 rfl (lv_at hl 0 rfl) ?_
      refine gg_X6_122 G hW (by decide) dX6_noRegion_9 ?_
      refine lv_iload_n hx hb dX6_noRegion_12 rfl (lv_at hl 1 rfl) ?_
      refine lv_iconst (v := 0) hx hb dX6_noRegion_13 (by decide) ?_
      obtain ⟨σ1, hσ1, hF⟩ := o_b hF
      refine g_uZ (φ := 58) G rfl rfl (by decide) rfl hW (by decide) hσ1 dX6_noRegion_14 (fun H locs hW => ?_)
      refine lv_aload_n hx hb dX6_noRegion_15 rfl (lv_at hl 0 rfl) ?_
      refine gg_X6_125 G hW (by decide) dX6_noRegion_16 ?_
      refine lv_iload_n hx hb dX6_noRegion_19 rfl (lv_at hl 1 rfl) ?_
      refine lv_iconst (v := 0) hx hb dX6_noRegion_20 (by decide) ?_
      obtain ⟨σ2, hσ2, hF⟩ := o_b hF
      refine g_uZ (φ := 59) G rfl rfl (by decide) rfl hW (by decide) hσ2 dX6_noRegion_21 (fun H locs hW => ?_)
      refine lv_iinc (v := (v1 + 1)) (lv' := [(1, .int (v1 + 1)), (0, .ref (α 20 0))]) hx hb dX6_noRegion_22 hl (k := 1) rfl rfl (by decide) rfl (fun ls hl => ?_)
      refine lv_goto (tgt := 2) hx hb dX6_noRegion_25 (by decide) ?_
      exact ih _ _ hF H locs ls hW (lv_sub hl [1, 0] rfl)
set_option maxHeartbeats 4000000 in
set_option maxRecDepth 100000 in
theorem w_X6_noRegion_0 (G : gx p s m meth c args cX6_noRegion 2 none RX6 "noRegion" D dA) {σz : sm_M} : ∀ (σ : sm_M), f_X6_noRegion σ = some σz → ∀ (H : Heap) (locs : List Loc) (ls : Array Slot), Wd D dA 1 α s.heap σ H locs → lv_has ls 2 [(0, .ref (α 20 0))] → gW 0 p l e s m args below meth c D dA 1 α none σz H locs (F0 m 0 ls []) := by
  obtain ⟨hx, hb, hr, hlk, hml, hown, hnm, hts, hK, hNw⟩ := id G
  intro σ hF H locs ls hW hl
  rw [f_X6_noRegion] at hF
  refine lv_iconst (v := 0) hx hb dX6_noRegion_0 (by decide) ?_
  refine lv_istore_n (lv' := [(1, .int (0 : Int32)), (0, .ref (α 20 0))]) hx hb dX6_noRegion_1 rfl hl (by decide) rfl (fun ls hl => ?_)
  exact w_X6_noRegion_2 G 1000 _ _ hF H locs ls hW (lv_sub hl [1, 0] rfl)
end WX6_noRegion
theorem c_X6_noRegion {l : Launch} {D : va_G} {dA : Nat → ClassId} {α : Nat → Nat → Nat} (hI : Inj 1 α) {σ σz : sm_M} (hF : f_X6_noRegion σ = some σz) : gM l D dA 1 α yX6_noRegion cX6_noRegion 2 none 0 [.ref (α 20 0)] σ none σz :=
  g_met hI (by decide +kernel) (Nat.le_of_ble_eq_true rfl) (fun p e s m below meth c ls G hW hl => w_X6_noRegion_0 G  _ hF _ _ _ hW hl)
section KX6_noRegion
variable {p : Program} {l : Launch} {e : Env} {R : Room} {s : State} {m : MethodId} {args : Array Value} {below : List Frame} {meth : Method} {c : Code} {H : Heap} {locs : List Loc} {cells slots : Nat} {Q : State → Prop}
variable {cc : ByteArray} {pc nL Z : Nat} {ls : Array Slot} {rest : List Value} {D : va_G} {dA : Nat → ClassId} {α : Nat → Nat → Nat} {H0 : Heap} {σ σ' : sm_M} {ret : Option FieldType} {own nm : String}
theorem kk_X6_233 (G : gx p s m meth c args cc nL ret RX6 nm D dA) (hW : Wd D dA 1 α H0 σ H locs) {q : sm_M} (hq : f_X6_noRegion σ = some q) (hls : ls.size = nL) (hR : 0 + 1 ≤ R.frames ∧ 8 + (2 + 11) + 44 * 0 ≤ R.locals) (hf : cells ≤ R.cells ∧ slots ≤ R.slots) (hcat : (rest.map fun v => v.category).sum ≤ 8) (hdg : decode cc pc = .ok (.invokevirtual 233, 3)) (kk : ∀ (H1 : Heap) (locs1 : List Loc), Wd D dA 1 α H0 q H1 locs1 → W p l e R s m args below meth c H1 locs1 cells slots Q (F0 m (pc + 3) ls rest)) : W p l e R s m args below meth c H locs cells slots Q (F0 m pc ls (.ref (α 20 0) :: rest)) :=
  g_cV (n := 0) G (c_X6_noRegion (l := l) hW.2.2.2 hq) ⟨wm_22_4, wm_22_5, wm_22_6, wm_1_5, wm_22_7⟩ (by decide +kernel) hW (g_recv (φ := 20) (ci := 6) G.2.2.2.2.2.2.2.2.1 rfl rfl rfl (by decide) hW.1 rfl) hR hf rfl hls rfl hcat hdg kk
end KX6_noRegion
section WX6_isUnsteady
variable {p : Program} {l : Launch} {e : Env} {s : State} {m : MethodId} {args : Array Value} {below : List Frame} {meth : Method} {c : Code} {D : va_G} {dA : Nat → ClassId} {α : Nat → Nat → Nat}
set_option maxHeartbeats 4000000 in
set_option maxRecDepth 100000 in
theorem w_X6_isUnsteady_66 (G : gx p s m meth c args cX6_isUnsteady 4 (some .boolean) RX6 "isUnsteady" D dA) {r : Int32} {σz : sm_M} : ∀ (v2 : Int32) (σ : sm_M), f_X6_isUnsteady_66 v2 σ = some (r, σz) → ∀ (H : Heap) (locs : List Loc) (ls : Array Slot), Wd D dA 1 α s.heap σ H locs → lv_has ls 4 [(2, .int v2)] → gW 0 p l e s m args below meth c D dA 1 α (some (.int r)) σz H locs (F0 m 66 ls []) := by
  obtain ⟨hx, hb, hr, hlk, hml, hown, hnm, hts, hK, hNw⟩ := id G
  intro v2 σ hF H locs ls hW hl
  rw [f_X6_isUnsteady_66] at hF
  refine lv_iload_n hx hb dX6_isUnsteady_66 rfl (lv_at hl 0 rfl) ?_
  exact g_zret G hW hF dX6_isUnsteady_67
set_option maxHeartbeats 4000000 in
set_option maxRecDepth 100000 in
theorem w_X6_isUnsteady_59 (G : gx p s m meth c args cX6_isUnsteady 4 (some .boolean) RX6 "isUnsteady" D dA) {r : Int32} {σz : sm_M} (k18 : Int32 → Int32 → Int32 → sm_M → Option (Int32 × sm_M)) (hk18 : ∀ (v1 : Int32) (v2 : Int32) (v3 : Int32) (σ : sm_M), k18 v1 v2 v3 σ = some (r, σz) → ∀ (H : Heap) (locs : List Loc) (ls : Array Slot), Wd D dA 1 α s.heap σ H locs → lv_has ls 4 [(0, .ref (α 20 0)), (1, .int v1), (2, .int v2), (3, .int v3)] → gW 0 p l e s m args below meth c D dA 1 α (some (.int r)) σz H locs (F0 m 18 ls [])) : ∀ (v1 : Int32) (v3 : Int32) (s0 : Int32) (σ : sm_M), f_X6_isUnsteady_59 k18 v1 v3 s0 σ = some (r, σz) → ∀ (H : Heap) (locs : List Loc) (ls : Array Slot), Wd D dA 1 α s.heap σ H locs → lv_has ls 4 [(0, .ref (α 20 0)), (1, .int v1), (3, .int v3)] → gW 0 p l e s m args below meth c D dA 1 α (some (.int r)) σz H locs (F0 m 59 ls [.int s0]) := by
  obtain ⟨hx, hb, hr, hlk, hml, hown, hnm, hts, hK, hNw⟩ := id G
  intro v1 v3 s0 σ hF H locs ls hW hl
  rw [f_X6_isUnsteady_59] at hF
  refine lv_istore_n (lv' := [(2, .int s0), (0, .ref (α 20 0)), (1, .int v1), (3, .int v3)]) hx hb dX6_isUnsteady_59 rfl hl (by decide) rfl (fun ls hl => ?_)
  refine lv_iinc (v := (v3 + 1)) (lv' := [(3, .int (v3 + 1)), (2, .int s0), (0, .ref (α 20 0)), (1, .int v1)]) hx hb dX6_isUnsteady_60 hl (k := 3) rfl rfl (by decide) rfl (fun ls hl => ?_)
  refine lv_goto (tgt := 18) hx hb dX6_isUnsteady_63 (by decide) ?_
  exact hk18 _ _ _ _ hF H locs ls hW (lv_sub hl [2, 3, 1, 0] rfl)
set_option maxHeartbeats 4000000 in
set_option maxRecDepth 100000 in
theorem w_X6_isUnsteady_58 (G : gx p s m meth c args cX6_isUnsteady 4 (some .boolean) RX6 "isUnsteady" D dA) {r : Int32} {σz : sm_M} (k18 : Int32 → Int32 → Int32 → sm_M → Option (Int32 × sm_M)) (hk18 : ∀ (v1 : Int32) (v2 : Int32) (v3 : Int32) (σ : sm_M), k18 v1 v2 v3 σ = some (r, σz) → ∀ (H : Heap) (locs : List Loc) (ls : Array Slot), Wd D dA 1 α s.heap σ H locs → lv_has ls 4 [(0, .ref (α 20 0)), (1, .int v1), (2, .int v2), (3, .int v3)] → gW 0 p l e s m args below meth c D dA 1 α (some (.int r)) σz H locs (F0 m 18 ls [])) : ∀ (v1 : Int32) (v3 : Int32) (σ : sm_M), f_X6_isUnsteady_58 k18 v1 v3 σ = some (r, σz) → ∀ (H : Heap) (locs : List Loc) (ls : Array Slot), Wd D dA 1 α s.heap σ H locs → lv_has ls 4 [(0, .ref (α 20 0)), (1, .int v1), (3, .int v3)] → gW 0 p l e s m args below meth c D dA 1 α (some (.int r)) σz H locs (F0 m 58 ls []) := by
  obtain ⟨hx, hb, hr, hlk, hml, hown, hnm, hts, hK, hNw⟩ := id G
  intro v1 v3 σ hF H locs ls hW hl
  rw [f_X6_isUnsteady_58] at hF
  refine lv_iconst (v := 0) hx hb dX6_isUnsteady_58 (by decide) ?_
  exact w_X6_isUnsteady_59 G k18 hk18 _ _ _ _ hF H locs ls hW (lv_sub hl [0, 1, 2] rfl)
set_option maxHeartbeats 4000000 in
set_option maxRecDepth 100000 in
theorem w_X6_isUnsteady_54 (G : gx p s m meth c args cX6_isUnsteady 4 (some .boolean) RX6 "isUnsteady" D dA) {r : Int32} {σz : sm_M} (k18 : Int32 → Int32 → Int32 → sm_M → Option (Int32 × sm_M)) (hk18 : ∀ (v1 : Int32) (v2 : Int32) (v3 : Int32) (σ : sm_M), k18 v1 v2 v3 σ = some (r, σz) → ∀ (H : Heap) (locs : List Loc) (ls : Array Slot), Wd D dA 1 α s.heap σ H locs → lv_has ls 4 [(0, .ref (α 20 0)), (1, .int v1), (2, .int v2), (3, .int v3)] → gW 0 p l e s m args below meth c D dA 1 α (some (.int r)) σz H locs (F0 m 18 ls [])) : ∀ (v1 : Int32) (v3 : Int32) (σ : sm_M), f_X6_isUnsteady_54 k18 v1 v3 σ = some (r, σz) → ∀ (H : Heap) (locs : List Loc) (ls : Array Slot), Wd D dA 1 α s.heap σ H locs → lv_has ls 4 [(0, .ref (α 20 0)), (1, .int v1), (3, .int v3)] → gW 0 p l e s m args below meth c D dA 1 α (some (.int r)) σz H locs (F0 m 54 ls []) := by
  obtain ⟨hx, hb, hr, hlk, hml, hown, hnm, hts, hK, hNw⟩ := id G
  intro v1 v3 σ hF H locs ls hW hl
  rw [f_X6_isUnsteady_54] at hF
  refine lv_iconst (v := 1) hx hb dX6_isUnsteady_54 (by decide) ?_
  refine lv_goto (tgt := 59) hx hb dX6_isUnsteady_55 (by decide) ?_
  exact w_X6_isUnsteady_59 G k18 hk18 _ _ _ _ hF H locs ls hW (lv_sub hl [0, 1, 2] rfl)
set_option maxHeartbeats 4000000 in
set_option maxRecDepth 100000 in
theorem w_X6_isUnsteady_18 (G : gx p s m meth c args cX6_isUnsteady 4 (some .boolean) RX6 "isUnsteady" D dA) {r : Int32} {σz : sm_M} : ∀ (n : Nat) (v1 : Int32) (v2 : Int32) (v3 : Int32) (σ : sm_M), f_X6_isUnsteady_18 n v1 v2 v3 σ = some (r, σz) → ∀ (H : Heap) (locs : List Loc) (ls : Array Slot), Wd D dA 1 α s.heap σ H locs → lv_has ls 4 [(0, .ref (α 20 0)), (1, .int v1), (2, .int v2), (3, .int v3)] → gW 0 p l e s m args below meth c D dA 1 α (some (.int r)) σz H locs (F0 m 18 ls []) := by
  obtain ⟨hx, hb, hr, hlk, hml, hown, hnm, hts, hK, hNw⟩ := id G
  intro n
  induction n with
  | zero => intro v1 v2 v3 σ hF; exact absurd hF (by intro h; cases h)
  | succ n ih =>
    intro v1 v2 v3 σ hF H locs ls hW hl
    rw [f_X6_isUnsteady_18] at hF
    refine lv_iload_n hx hb dX6_isUnsteady_18 rfl (lv_at hl 3 rfl) ?_
    refine lv_aload_n hx hb dX6_isUnsteady_19 rfl (lv_at hl 0 rfl) ?_
    refine gg_X6_135 G hW (by decide) dX6_isUnsteady_20 ?_
    refine lv_icmp_ge (tgt := 66) hx hb dX6_isUnsteady_23 (by decide) (fun hc => ?_) (fun hc => ?_)
    · replace hF := o_t hc hF
      exact w_X6_isUnsteady_66 G _ _ hF H locs ls hW (lv_sub hl [2] rfl)
    · replace hF := o_f hc hF
      refine lv_iload_n hx hb dX6_isUnsteady_26 rfl (lv_at hl 2 rfl) ?_
      refine lv_if_ne (tgt := 54) hx hb dX6_isUnsteady_27 (by decide) (fun hc => ?_) (fun hc => ?_)
      · replace hF := o_f hc hF
        exact w_X6_isUnsteady_54 G (f_X6_isUnsteady_18 n) ih _ _ _ hF H locs ls hW (lv_sub hl [0, 1, 3] rfl)
      · replace hF := o_t hc hF
        refine lv_aload_n hx hb dX6_isUnsteady_30 rfl (lv_at hl 0 rfl) ?_
        refine gg_X6_52 G hW (by decide) dX6_isUnsteady_31 ?_
        refine lv_iload_n hx hb dX6_isUnsteady_34 rfl (lv_at hl 3 rfl) ?_
        obtain ⟨x1, hx1, hF⟩ := o_b hF
        refine g_aI (φ := 35) G rfl rfl (by decide) rfl hW (by decide) hx1 dX6_isUnsteady_35 ?_
        refine lv_iload_n hx hb dX6_isUnsteady_36 rfl (lv_at hl 1 rfl) ?_
        refine lv_icmp_ne (tgt := 58) hx hb dX6_isUnsteady_37 (by decide) (fun hc => ?_) (fun hc => ?_)
        · replace hF := o_f hc hF
          exact w_X6_isUnsteady_58 G (f_X6_isUnsteady_18 n) ih _ _ _ hF H locs ls hW (lv_sub hl [0, 1, 3] rfl)
        · replace hF := o_t hc hF
          refine lv_aload_n hx hb dX6_isUnsteady_40 rfl (lv_at hl 0 rfl) ?_
          refine gg_X6_125 G hW (by decide) dX6_isUnsteady_41 ?_
          refine lv_aload_n hx hb dX6_isUnsteady_44 rfl (lv_at hl 0 rfl) ?_
          refine gg_X6_49 G hW (by decide) dX6_isUnsteady_45 ?_
          refine lv_iload_n hx hb dX6_isUnsteady_48 rfl (lv_at hl 3 rfl) ?_
          obtain ⟨x2, hx2, hF⟩ := o_b hF
          refine g_aI (φ := 34) G rfl rfl (by decide) rfl hW (by decide) hx2 dX6_isUnsteady_49 ?_
          obtain ⟨x3, hx3, hF⟩ := o_b hF
          refine g_aZ (φ := 59) G rfl rfl (by decide) rfl hW (by decide) hx3 dX6_isUnsteady_50 ?_
          refine lv_if_eq (tgt := 58) hx hb dX6_isUnsteady_51 (by decide) (fun hc => ?_) (fun hc => ?_)
          · replace hF := o_t hc hF
            exact w_X6_isUnsteady_58 G (f_X6_isUnsteady_18 n) ih _ _ _ hF H locs ls hW (lv_sub hl [0, 1, 3] rfl)
          · replace hF := o_f hc hF
            exact w_X6_isUnsteady_54 G (f_X6_isUnsteady_18 n) ih _ _ _ hF H locs ls hW (lv_sub hl [0, 1, 3] rfl)
set_option maxHeartbeats 4000000 in
set_option maxRecDepth 100000 in
theorem w_X6_isUnsteady_15 (G : gx p s m meth c args cX6_isUnsteady 4 (some .boolean) RX6 "isUnsteady" D dA) {r : Int32} {σz : sm_M} : ∀ (v1 : Int32) (s0 : Int32) (σ : sm_M), f_X6_isUnsteady_15 v1 s0 σ = some (r, σz) → ∀ (H : Heap) (locs : List Loc) (ls : Array Slot), Wd D dA 1 α s.heap σ H locs → lv_has ls 4 [(0, .ref (α 20 0)), (1, .int v1)] → gW 0 p l e s m args below meth c D dA 1 α (some (.int r)) σz H locs (F0 m 15 ls [.int s0]) := by
  obtain ⟨hx, hb, hr, hlk, hml, hown, hnm, hts, hK, hNw⟩ := id G
  intro v1 s0 σ hF H locs ls hW hl
  rw [f_X6_isUnsteady_15] at hF
  refine lv_istore_n (lv' := [(2, .int s0), (0, .ref (α 20 0)), (1, .int v1)]) hx hb dX6_isUnsteady_15 rfl hl (by decide) rfl (fun ls hl => ?_)
  refine lv_iconst (v := 0) hx hb dX6_isUnsteady_16 (by decide) ?_
  refine lv_istore_n (lv' := [(3, .int (0 : Int32)), (2, .int s0), (0, .ref (α 20 0)), (1, .int v1)]) hx hb dX6_isUnsteady_17 rfl hl (by decide) rfl (fun ls hl => ?_)
  exact w_X6_isUnsteady_18 G 1000 _ _ _ _ hF H locs ls hW (lv_sub hl [2, 3, 1, 0] rfl)
set_option maxHeartbeats 4000000 in
set_option maxRecDepth 100000 in
theorem w_X6_isUnsteady_0 (G : gx p s m meth c args cX6_isUnsteady 4 (some .boolean) RX6 "isUnsteady" D dA) {r : Int32} {σz : sm_M} : ∀ (v1 : Int32) (σ : sm_M), f_X6_isUnsteady v1 σ = some (r, σz) → ∀ (H : Heap) (locs : List Loc) (ls : Array Slot), Wd D dA 1 α s.heap σ H locs → lv_has ls 4 [(0, .ref (α 20 0)), (1, .int v1)] → gW 0 p l e s m args below meth c D dA 1 α (some (.int r)) σz H locs (F0 m 0 ls []) := by
  obtain ⟨hx, hb, hr, hlk, hml, hown, hnm, hts, hK, hNw⟩ := id G
  intro v1 σ hF H locs ls hW hl
  rw [f_X6_isUnsteady] at hF
  refine lv_aload_n hx hb dX6_isUnsteady_0 rfl (lv_at hl 0 rfl) ?_
  refine gg_X6_7 G hW (by decide) dX6_isUnsteady_1 ?_
  refine lv_iload_n hx hb dX6_isUnsteady_4 rfl (lv_at hl 1 rfl) ?_
  obtain ⟨x1, hx1, hF⟩ := o_b hF
  refine g_aI (φ := 21) G rfl rfl (by decide) rfl hW (by decide) hx1 dX6_isUnsteady_5 ?_
  refine lv_iconst (v := 4) hx hb dX6_isUnsteady_6 (by decide) ?_
  refine lv_icmp_ne (tgt := 14) hx hb dX6_isUnsteady_7 (by decide) (fun hc => ?_) (fun hc => ?_)
  · replace hF := o_f hc hF
    refine lv_iconst (v := 0) hx hb dX6_isUnsteady_14 (by decide) ?_
    exact w_X6_isUnsteady_15 G _ _ _ hF H locs ls hW (lv_sub hl [0, 1] rfl)
  · replace hF := o_t hc hF
    refine lv_iconst (v := 1) hx hb dX6_isUnsteady_10 (by decide) ?_
    refine lv_goto (tgt := 15) hx hb dX6_isUnsteady_11 (by decide) ?_
    exact w_X6_isUnsteady_15 G _ _ _ hF H locs ls hW (lv_sub hl [0, 1] rfl)
end WX6_isUnsteady
theorem c_X6_isUnsteady {l : Launch} {D : va_G} {dA : Nat → ClassId} {α : Nat → Nat → Nat} (hI : Inj 1 α) {v1 : Int32} {σ σz : sm_M} {r : Int32} (hF : f_X6_isUnsteady v1 σ = some (r, σz)) : gM l D dA 1 α yX6_isUnsteady cX6_isUnsteady 4 (some .boolean) 0 [.ref (α 20 0), .int v1] σ (some (.int r)) σz :=
  g_met hI (by decide +kernel) (Nat.le_of_ble_eq_true rfl) (fun p e s m below meth c ls G hW hl => w_X6_isUnsteady_0 G _ _ hF _ _ _ hW hl)
section KX6_isUnsteady
variable {p : Program} {l : Launch} {e : Env} {R : Room} {s : State} {m : MethodId} {args : Array Value} {below : List Frame} {meth : Method} {c : Code} {H : Heap} {locs : List Loc} {cells slots : Nat} {Q : State → Prop}
variable {cc : ByteArray} {pc nL Z : Nat} {ls : Array Slot} {rest : List Value} {D : va_G} {dA : Nat → ClassId} {α : Nat → Nat → Nat} {H0 : Heap} {σ σ' : sm_M} {ret : Option FieldType} {own nm : String}
theorem kk_X6_227 (G : gx p s m meth c args cc nL ret RX6 nm D dA) (hW : Wd D dA 1 α H0 σ H locs) {v1 : Int32} {q : Int32 × sm_M} (hq : f_X6_isUnsteady v1 σ = some q) (hls : ls.size = nL) (hR : 0 + 1 ≤ R.frames ∧ 8 + (4 + 11) + 44 * 0 ≤ R.locals) (hf : cells ≤ R.cells ∧ slots ≤ R.slots) (hcat : (rest.map fun v => v.category).sum ≤ 8) (hdg : decode cc pc = .ok (.invokevirtual 227, 3)) (kk : ∀ (H1 : Heap) (locs1 : List Loc), Wd D dA 1 α H0 q.2 H1 locs1 → W p l e R s m args below meth c H1 locs1 cells slots Q (F0 m (pc + 3) ls (.int q.1 :: rest))) : W p l e R s m args below meth c H locs cells slots Q (F0 m pc ls (.int v1 :: .ref (α 20 0) :: rest)) :=
  g_cV (n := 1) G (c_X6_isUnsteady (l := l) hW.2.2.2 hq) ⟨wm_22_12, wm_22_13, wm_22_14, wm_1_5, wm_22_15⟩ (by decide +kernel) hW (g_recv (φ := 20) (ci := 6) G.2.2.2.2.2.2.2.2.1 rfl rfl rfl (by decide) hW.1 rfl) hR hf rfl hls rfl hcat hdg kk
end KX6_isUnsteady
