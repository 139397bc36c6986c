section WX6_emptiest
variable {p : Program} {l : Launch} {e : Env} {s : State} {m : MethodId} {args : Array Value} {below : List Frame} {meth : Method} {c : Code} {D : va_G} {dA : Nat → ClassId} {α : Nat → Nat → Nat}
set_option maxHeartbeats 4000000 in
set_option maxRecDepth 100000 in
theorem w_X6_emptiest_81 (G : gx p s m meth c args cX6_emptiest 6 (some .int) RX6 "emptiest" D dA) {r : Int32} {σz : sm_M} : ∀ (v1 : Int32) (σ : sm_M), f_X6_emptiest_81 v1 σ = some (r, σz) → ∀ (H : Heap) (locs : List Loc) (ls : Array Slot), Wd D dA 1 α s.heap σ H locs → lv_has ls 6 [(1, .int v1)] → gW 0 p l e s m args below meth c D dA 1 α (some (.int r)) σz H locs (F0 m 81 ls []) := by
  obtain ⟨hx, hb, hr, hlk, hml, hown, hnm, hts, hK, hNw⟩ := id G
  intro v1 σ hF H locs ls hW hl
  rw [f_X6_emptiest_81] at hF
  refine lv_iload_n hx hb dX6_emptiest_81 rfl (lv_at hl 0 rfl) ?_
  exact g_iret G hW hF dX6_emptiest_82
set_option maxHeartbeats 4000000 in
set_option maxRecDepth 100000 in
theorem w_X6_emptiest_75 (G : gx p s m meth c args cX6_emptiest 6 (some .int) RX6 "emptiest" D dA) {r : Int32} {σz : sm_M} (k8 : Int32 → Int32 → Int32 → sm_M → Option (Int32 × sm_M)) (hk8 : ∀ (v1 : Int32) (v2 : Int32) (v3 : Int32) (σ : sm_M), k8 v1 v2 v3 σ = some (r, σz) → ∀ (H : Heap) (locs : List Loc) (ls : Array Slot), Wd D dA 1 α s.heap σ H locs → lv_has ls 6 [(0, .ref (α 20 0)), (1, .int v1), (2, .int v2), (3, .int v3)] → gW 0 p l e s m args below meth c D dA 1 α (some (.int r)) σz H locs (F0 m 8 ls [])) : ∀ (v1 : Int32) (v2 : Int32) (v3 : Int32) (σ : sm_M), f_X6_emptiest_75 k8 v1 v2 v3 σ = some (r, σz) → ∀ (H : Heap) (locs : List Loc) (ls : Array Slot), Wd D dA 1 α s.heap σ H locs → lv_has ls 6 [(0, .ref (α 20 0)), (1, .int v1), (2, .int v2), (3, .int v3)] → gW 0 p l e s m args below meth c D dA 1 α (some (.int r)) σz H locs (F0 m 75 ls []) := by
  obtain ⟨hx, hb, hr, hlk, hml, hown, hnm, hts, hK, hNw⟩ := id G
  intro v1 v2 v3 σ hF H locs ls hW hl
  rw [f_X6_emptiest_75] at hF
  refine lv_iinc (v := (v3 + 1)) (lv' := [(3, .int (v3 + 1)), (0, .ref (α 20 0)), (1, .int v1), (2, .int v2)]) hx hb dX6_emptiest_75 hl (k := 3) rfl rfl (by decide) rfl (fun ls hl => ?_)
  refine lv_goto (tgt := 8) hx hb dX6_emptiest_78 (by decide) ?_
  exact hk8 _ _ _ _ hF H locs ls hW (lv_sub hl [1, 2, 3, 0] rfl)
set_option maxHeartbeats 4000000 in
set_option maxRecDepth 100000 in
theorem w_X6_emptiest_55 (G : gx p s m meth c args cX6_emptiest 6 (some .int) RX6 "emptiest" D dA) {r : Int32} {σz : sm_M} (k8 : Int32 → Int32 → Int32 → sm_M → Option (Int32 × sm_M)) (hk8 : ∀ (v1 : Int32) (v2 : Int32) (v3 : Int32) (σ : sm_M), k8 v1 v2 v3 σ = some (r, σz) → ∀ (H : Heap) (locs : List Loc) (ls : Array Slot), Wd D dA 1 α s.heap σ H locs → lv_has ls 6 [(0, .ref (α 20 0)), (1, .int v1), (2, .int v2), (3, .int v3)] → gW 0 p l e s m args below meth c D dA 1 α (some (.int r)) σz H locs (F0 m 8 ls [])) : ∀ (v1 : Int32) (v2 : Int32) (v3 : Int32) (v4 : Int32) (σ : sm_M), f_X6_emptiest_55 k8 v1 v2 v3 v4 σ = some (r, σz) → ∀ (H : Heap) (locs : List Loc) (ls : Array Slot), Wd D dA 1 α s.heap σ H locs → lv_has ls 6 [(0, .ref (α 20 0)), (1, .int v1), (2, .int v2), (3, .int v3), (4, .int v4)] → gW 0 p l e s m args below meth c D dA 1 α (some (.int r)) σz H locs (F0 m 55 ls []) := by
  obtain ⟨hx, hb, hr, hlk, hml, hown, hnm, hts, hK, hNw⟩ := id G
  intro v1 v2 v3 v4 σ hF H locs ls hW hl
  rw [f_X6_emptiest_55] at hF
  refine lv_aload_n hx hb dX6_emptiest_55 rfl (lv_at hl 0 rfl) ?_
  refine gg_X6_98 G hW (by decide) dX6_emptiest_56 ?_
  refine lv_iload_n hx hb dX6_emptiest_59 rfl (lv_at hl 3 rfl) ?_
  obtain ⟨x1, hx1, hF⟩ := o_b hF
  refine g_aZ (φ := 50) G rfl rfl (by decide) rfl hW (by decide) hx1 dX6_emptiest_60 ?_
  refine lv_if_ne (tgt := 75) hx hb dX6_emptiest_61 (by decide) (fun hc => ?_) (fun hc => ?_)
  · replace hF := o_f hc hF
    exact w_X6_emptiest_75 G k8 hk8 _ _ _ _ hF H locs ls hW (lv_sub hl [0, 1, 2, 3] rfl)
  · replace hF := o_t hc hF
    refine lv_iload hx hb dX6_emptiest_64 (lv_at hl 4 rfl) ?_
    refine lv_iload_n hx hb dX6_emptiest_66 rfl (lv_at hl 2 rfl) ?_
    refine lv_icmp_ge (tgt := 75) hx hb dX6_emptiest_67 (by decide) (fun hc => ?_) (fun hc => ?_)
    · replace hF := o_t hc hF
      exact w_X6_emptiest_75 G k8 hk8 _ _ _ _ hF H locs ls hW (lv_sub hl [0, 1, 2, 3] rfl)
    · replace hF := o_f hc hF
      refine lv_iload_n hx hb dX6_emptiest_70 rfl (lv_at hl 3 rfl) ?_
      refine lv_istore_n (lv' := [(1, .int v3), (0, .ref (α 20 0)), (2, .int v2), (3, .int v3), (4, .int v4)]) hx hb dX6_emptiest_71 rfl hl (by decide) rfl (fun ls hl => ?_)
      refine lv_iload hx hb dX6_emptiest_72 (lv_at hl 4 rfl) ?_
      refine lv_istore_n (lv' := [(2, .int v4), (1, .int v3), (0, .ref (α 20 0)), (3, .int v3), (4, .int v4)]) hx hb dX6_emptiest_74 rfl hl (by decide) rfl (fun ls hl => ?_)
      exact w_X6_emptiest_75 G k8 hk8 _ _ _ _ hF H locs ls hW (lv_sub hl [2, 1, 0, 3] rfl)
set_option maxHeartbeats 4000000 in
set_option maxRecDepth 100000 in
theorem w_X6_emptiest_46 (G : gx p s m meth c args cX6_emptiest 6 (some .int) RX6 "emptiest" D dA) {r : Int32} {σz : sm_M} (k8 : Int32 → Int32 → Int32 → sm_M → Option (Int32 × sm_M)) (hk8 : ∀ (v1 : Int32) (v2 : Int32) (v3 : Int32) (σ : sm_M), k8 v1 v2 v3 σ = some (r, σz) → ∀ (H : Heap) (locs : List Loc) (ls : Array Slot), Wd D dA 1 α s.heap σ H locs → lv_has ls 6 [(0, .ref (α 20 0)), (1, .int v1), (2, .int v2), (3, .int v3)] → gW 0 p l e s m args below meth c D dA 1 α (some (.int r)) σz H locs (F0 m 8 ls [])) (k19 : Int32 → Int32 → Int32 → Int32 → Int32 → sm_M → Option (Int32 × sm_M)) (hk19 : ∀ (v1 : Int32) (v2 : Int32) (v3 : Int32) (v4 : Int32) (v5 : Int32) (σ : sm_M), k19 v1 v2 v3 v4 v5 σ = some (r, σz) → ∀ (H : Heap) (locs : List Loc) (ls : Array Slot), Wd D dA 1 α s.heap σ H locs → lv_has ls 6 [(0, .ref (α 20 0)), (1, .int v1), (2, .int v2), (3, .int v3), (4, .int v4), (5, .int v5)] → gW 0 p l e s m args below meth c D dA 1 α (some (.int r)) σz H locs (F0 m 19 ls [])) : ∀ (v1 : Int32) (v2 : Int32) (v3 : Int32) (v5 : Int32) (s0 : Int32) (s1 : Int32) (σ : sm_M), f_X6_emptiest_46 k8 k19 v1 v2 v3 v5 s0 s1 σ = some (r, σz) → ∀ (H : Heap) (locs : List Loc) (ls : Array Slot), Wd D dA 1 α s.heap σ H locs → lv_has ls 6 [(0, .ref (α 20 0)), (1, .int v1), (2, .int v2), (3, .int v3), (5, .int v5)] → gW 0 p l e s m args below meth c D dA 1 α (some (.int r)) σz H locs (F0 m 46 ls [.int s1, .int s0]) := by
  obtain ⟨hx, hb, hr, hlk, hml, hown, hnm, hts, hK, hNw⟩ := id G
  intro v1 v2 v3 v5 s0 s1 σ hF H locs ls hW hl
  rw [f_X6_emptiest_46] at hF
  refine lv_iadd hx hb dX6_emptiest_46 ?_
  refine lv_istore (lv' := [(4, .int (s0 + s1)), (0, .ref (α 20 0)), (1, .int v1), (2, .int v2), (3, .int v3), (5, .int v5)]) hx hb dX6_emptiest_47 hl (by decide) rfl (fun ls hl => ?_)
  refine lv_iinc (v := (v5 + 1)) (lv' := [(5, .int (v5 + 1)), (4, .int (s0 + s1)), (0, .ref (α 20 0)), (1, .int v1), (2, .int v2), (3, .int v3)]) hx hb dX6_emptiest_49 hl (k := 5) rfl rfl (by decide) rfl (fun ls hl => ?_)
  refine lv_goto (tgt := 19) hx hb dX6_emptiest_52 (by decide) ?_
  exact hk19 _ _ _ _ _ _ hF H locs ls hW (lv_sub hl [2, 3, 4, 5, 1, 0] rfl)
set_option maxHeartbeats 4000000 in
set_option maxRecDepth 100000 in
theorem w_X6_emptiest_19 (G : gx p s m meth c args cX6_emptiest 6 (some .int) RX6 "emptiest" D dA) {r : Int32} {σz : sm_M} (k8 : Int32 → Int32 → Int32 → sm_M → Option (Int32 × sm_M)) (hk8 : ∀ (v1 : Int32) (v2 : Int32) (v3 : Int32) (σ : sm_M), k8 v1 v2 v3 σ = some (r, σz) → ∀ (H : Heap) (locs : List Loc) (ls : Array Slot), Wd D dA 1 α s.heap σ H locs → lv_has ls 6 [(0, .ref (α 20 0)), (1, .int v1), (2, .int v2), (3, .int v3)] → gW 0 p l e s m args below meth c D dA 1 α (some (.int r)) σz H locs (F0 m 8 ls [])) : ∀ (n : Nat) (v1 : Int32) (v2 : Int32) (v3 : Int32) (v4 : Int32) (v5 : Int32) (σ : sm_M), f_X6_emptiest_19 k8 n v1 v2 v3 v4 v5 σ = some (r, σz) → ∀ (H : Heap) (locs : List Loc) (ls : Array Slot), Wd D dA 1 α s.heap σ H locs → lv_has ls 6 [(0, .ref (α 20 0)), (1, .int v1), (2, .int v2), (3, .int v3), (4, .int v4), (5, .int v5)] → gW 0 p l e s m args below meth c D dA 1 α (some (.int r)) σz H locs (F0 m 19 ls []) := by
  obtain ⟨hx, hb, hr, hlk, hml, hown, hnm, hts, hK, hNw⟩ := id G
  intro n
  induction n with
  | zero => intro v1 v2 v3 v4 v5 σ hF; exact absurd hF (by intro h; cases h)
  | succ n ih =>
    intro v1 v2 v3 v4 v5 σ hF H locs ls hW hl
    rw [f_X6_emptiest_19] at hF
    refine lv_iload hx hb dX6_emptiest_19 (lv_at hl 5 rfl) ?_
    refine lv_aload_n hx hb dX6_emptiest_21 rfl (lv_at hl 0 rfl) ?_
    refine gg_X6_131 G hW (by decide) dX6_emptiest_22 ?_
    refine lv_icmp_ge (tgt := 55) hx hb dX6_emptiest_25 (by decide) (fun hc => ?_) (fun hc => ?_)
    · replace hF := o_t hc hF
      exact w_X6_emptiest_55 G k8 hk8 _ _ _ _ _ hF H locs ls hW (lv_sub hl [0, 1, 2, 3, 4] rfl)
    · replace hF := o_f hc hF
      refine lv_iload hx hb dX6_emptiest_28 (lv_at hl 4 rfl) ?_
      refine lv_aload_n hx hb dX6_emptiest_30 rfl (lv_at hl 0 rfl) ?_
      refine gg_X6_16 G hW (by decide) dX6_emptiest_31 ?_
      refine lv_iload hx hb dX6_emptiest_34 (lv_at hl 5 rfl) ?_
      obtain ⟨x1, hx1, hF⟩ := o_b hF
      refine g_aI (φ := 23) G rfl rfl (by decide) rfl hW (by decide) hx1 dX6_emptiest_36 ?_
      refine lv_iload_n hx hb dX6_emptiest_37 rfl (lv_at hl 3 rfl) ?_
      refine lv_icmp_ne (tgt := 45) hx hb dX6_emptiest_38 (by decide) (fun hc => ?_) (fun hc => ?_)
      · replace hF := o_f hc hF
        refine lv_iconst (v := 0) hx hb dX6_emptiest_45 (by decide) ?_
        exact w_X6_emptiest_46 G k8 hk8 (f_X6_emptiest_19 k8 n) ih _ _ _ _ _ _ _ hF H locs ls hW (lv_sub hl [0, 1, 2, 3, 5] rfl)
      · replace hF := o_t hc hF
        refine lv_iconst (v := 1) hx hb dX6_emptiest_41 (by decide) ?_
        refine lv_goto (tgt := 46) hx hb dX6_emptiest_42 (by decide) ?_
        exact w_X6_emptiest_46 G k8 hk8 (f_X6_emptiest_19 k8 n) ih _ _ _ _ _ _ _ hF H locs ls hW (lv_sub hl [0, 1, 2, 3, 5] rfl)
set_option maxHeartbeats 4000000 in
set_option maxRecDepth 100000 in
theorem w_X6_emptiest_8 (G : gx p s m meth c args cX6_emptiest 6 (some .int) RX6 "emptiest" D dA) {r : Int32} {σz : sm_M} : ∀ (n : Nat) (v1 : Int32) (v2 : Int32) (v3 : Int32) (σ : sm_M), f_X6_emptiest_8 n v1 v2 v3 σ = some (r, σz) → ∀ (H : Heap) (locs : List Loc) (ls : Array Slot), Wd D dA 1 α s.heap σ H locs → lv_has ls 6 [(0, .ref (α 20 0)), (1, .int v1), (2, .int v2), (3, .int v3)] → gW 0 p l e s m args below meth c D dA 1 α (some (.int r)) σz H locs (F0 m 8 ls []) := by
  obtain ⟨hx, hb, hr, hlk, hml, hown, hnm, hts, hK, hNw⟩ := id G
  intro n
  induction n with
  | zero => intro v1 v2 v3 σ hF; exact absurd hF (by intro h; cases h)
  | succ n ih =>
    intro v1 v2 v3 σ hF H locs ls hW hl
    rw [f_X6_emptiest_8] at hF
    refine lv_iload_n hx hb dX6_emptiest_8 rfl (lv_at hl 3 rfl) ?_
    refine lv_iconst (v := 4) hx hb dX6_emptiest_9 (by decide) ?_
    refine lv_icmp_ge (tgt := 81) hx hb dX6_emptiest_10 (by decide) (fun hc => ?_) (fun hc => ?_)
    · replace hF := o_t hc hF
      exact w_X6_emptiest_81 G _ _ hF H locs ls hW (lv_sub hl [1] rfl)
    · replace hF := o_f hc hF
      refine lv_iconst (v := 0) hx hb dX6_emptiest_13 (by decide) ?_
      refine lv_istore (lv' := [(4, .int (0 : Int32)), (0, .ref (α 20 0)), (1, .int v1), (2, .int v2), (3, .int v3)]) hx hb dX6_emptiest_14 hl (by decide) rfl (fun ls hl => ?_)
      refine lv_iconst (v := 0) hx hb dX6_emptiest_16 (by decide) ?_
      refine lv_istore (lv' := [(5, .int (0 : Int32)), (4, .int (0 : Int32)), (0, .ref (α 20 0)), (1, .int v1), (2, .int v2), (3, .int v3)]) hx hb dX6_emptiest_17 hl (by decide) rfl (fun ls hl => ?_)
      exact w_X6_emptiest_19 G (f_X6_emptiest_8 n) ih 1000 _ _ _ _ _ _ hF H locs ls hW (lv_sub hl [2, 3, 4, 5, 1, 0] rfl)
set_option maxHeartbeats 4000000 in
set_option maxRecDepth 100000 in
theorem w_X6_emptiest_0 (G : gx p s m meth c args cX6_emptiest 6 (some .int) RX6 "emptiest" D dA) {r : Int32} {σz : sm_M} : ∀ (σ : sm_M), f_X6_emptiest σ = some (r, σz) → ∀ (H : Heap) (locs : List Loc) (ls : Array Slot), Wd D dA 1 α s.heap σ H locs → lv_has ls 6 [(0, .ref (α 20 0))] → gW 0 p l e s m args below meth c D dA 1 α (some (.int r)) σz H locs (F0 m 0 ls []) := by
  obtain ⟨hx, hb, hr, hlk, hml, hown, hnm, hts, hK, hNw⟩ := id G
  intro σ hF H locs ls hW hl
  rw [f_X6_emptiest] at hF
  refine lv_bipush (v := -9) hx hb dX6_emptiest_0 (by decide) ?_
  refine lv_istore_n (lv' := [(1, .int (-9 : Int32)), (0, .ref (α 20 0))]) hx hb dX6_emptiest_2 rfl hl (by decide) rfl (fun ls hl => ?_)
  refine lv_bipush (v := 17) hx hb dX6_emptiest_3 (by decide) ?_
  refine lv_istore_n (lv' := [(2, .int (17 : Int32)), (1, .int (-9 : Int32)), (0, .ref (α 20 0))]) hx hb dX6_emptiest_5 rfl hl (by decide) rfl (fun ls hl => ?_)
  refine lv_iconst (v := 0) hx hb dX6_emptiest_6 (by decide) ?_
  refine lv_istore_n (lv' := [(3, .int (0 : Int32)), (2, .int (17 : Int32)), (1, .int (-9 : Int32)), (0, .ref (α 20 0))]) hx hb dX6_emptiest_7 rfl hl (by decide) rfl (fun ls hl => ?_)
  exact w_X6_emptiest_8 G 1000 _ _ _ _ hF H locs ls hW (lv_sub hl [3, 2, 1, 0] rfl)
end WX6_emptiest
theorem c_X6_emptiest {l : Launch} {D : va_G} {dA : Nat → ClassId} {α : Nat → Nat → Nat} (hI : Inj 1 α) {σ σz : sm_M} {r : Int32} (hF : f_X6_emptiest σ = some (r, σz)) : gM l D dA 1 α yX6_emptiest cX6_emptiest 6 (some .int) 0 [.ref (α 20 0)] σ (some (.int r)) σz :=
  g_met hI (by decide +kernel) (Nat.le_of_ble_eq_true rfl) (fun p e s m below meth c ls G hW hl => w_X6_emptiest_0 G  _ hF _ _ _ hW hl)
section KX6_emptiest
variable {p : Program} {l : Launch} {e : Env} {R : Room} {s : State} {m : MethodId} {args : Array Value} {below : List Frame} {meth : Method} {c : Code} {H : Heap} {locs : List Loc} {cells slots : Nat} {Q : State → Prop}
variable {cc : ByteArray} {pc nL Z : Nat} {ls : Array Slot} {rest : List Value} {D : va_G} {dA : Nat → ClassId} {α : Nat → Nat → Nat} {H0 : Heap} {σ σ' : sm_M} {ret : Option FieldType} {own nm : String}
theorem kk_X6_246 (G : gx p s m meth c args cc nL ret RX6 nm D dA) (hW : Wd D dA 1 α H0 σ H locs) {q : Int32 × sm_M} (hq : f_X6_emptiest σ = some q) (hls : ls.size = nL) (hR : 0 + 1 ≤ R.frames ∧ 8 + (6 + 11) + 44 * 0 ≤ R.locals) (hf : cells ≤ R.cells ∧ slots ≤ R.slots) (hcat : (rest.map fun v => v.category).sum ≤ 8) (hdg : decode cc pc = .ok (.invokevirtual 246, 3)) (kk : ∀ (H1 : Heap) (locs1 : List Loc), Wd D dA 1 α H0 q.2 H1 locs1 → W p l e R s m args below meth c H1 locs1 cells slots Q (F0 m (pc + 3) ls (.int q.1 :: rest))) : W p l e R s m args below meth c H locs cells slots Q (F0 m pc ls (.ref (α 20 0) :: rest)) :=
  g_cV (n := 0) G (c_X6_emptiest (l := l) hW.2.2.2 hq) ⟨wm_24_18, wm_24_19, wm_24_20, wm_1_5, wm_24_21⟩ (by decide +kernel) hW (g_recv (φ := 20) (ci := 6) G.2.2.2.2.2.2.2.2.1 rfl rfl rfl (by decide) hW.1 rfl) hR hf rfl hls rfl hcat hdg kk
end KX6_emptiest
section WX6_gone
variable {p : Program} {l : Launch} {e : Env} {s : State} {m : MethodId} {args : Array Value} {below : List Frame} {meth : Method} {c : Code} {D : va_G} {dA : Nat → ClassId} {α : Nat → Nat → Nat}
set_option maxHeartbeats 4000000 in
set_option maxRecDepth 100000 in
theorem w_X6_gone_248 (G : gx p s m meth c args cX6_gone 4 (some .int) RX6 "gone" D dA) {r : Int32} {σz : sm_M} : ∀ (v2 : Int32) (σ : sm_M), f_X6_gone_248 v2 σ = some (r, σz) → ∀ (H : Heap) (locs : List Loc) (ls : Array Slot), Wd D dA 1 α s.heap σ H locs → lv_has ls 4 [(0, .ref (α 20 0)), (2, .int v2)] → gW 2 p l e s m args below meth c D dA 1 α (some (.int r)) σz H locs (F0 m 248 ls []) := by
  obtain ⟨hx, hb, hr, hlk, hml, hown, hnm, hts, hK, hNw⟩ := id G
  intro v2 σ hF H locs ls hW hl
  rw [f_X6_gone_248] at hF
  refine lv_aload_n hx hb dX6_gone_248 rfl (lv_at hl 0 rfl) ?_
  obtain ⟨q1, hq1, hF⟩ := o_b hF
  refine kk_X6_236 G hW hq1 hl.1 ⟨Nat.le_of_ble_eq_true rfl, Nat.le_of_ble_eq_true rfl⟩ ⟨Nat.le_refl _, Nat.le_refl _⟩ (Nat.le_of_ble_eq_true rfl) dX6_gone_249 (fun H locs hW => ?_)
  refine lv_aload_n hx hb dX6_gone_252 rfl (lv_at hl 0 rfl) ?_
  refine lv_iload_n hx hb dX6_gone_253 rfl (lv_at hl 1 rfl) ?_
  obtain ⟨q2, hq2, hF⟩ := o_b hF
  refine kk_X6_239 G hW hq2 hl.1 ⟨Nat.le_of_ble_eq_true rfl, Nat.le_of_ble_eq_true rfl⟩ ⟨Nat.le_refl _, Nat.le_refl _⟩ (Nat.le_of_ble_eq_true rfl) dX6_gone_254 (fun H locs hW => ?_)
  exact g_iret G hW hF dX6_gone_257
set_option maxHeartbeats 4000000 in
set_option maxRecDepth 100000 in
theorem w_X6_gone_242 (G : gx p s m meth c args cX6_gone 4 (some .int) RX6 "gone" D dA) {r : Int32} {σz : sm_M} (k177 : Int32 → Int32 → sm_M → Option (Int32 × sm_M)) (hk177 : ∀ (v2 : Int32) (v3 : Int32) (σ : sm_M), k177 v2 v3 σ = some (r, σz) → ∀ (H : Heap) (locs : List Loc) (ls : Array Slot), Wd D dA 1 α s.heap σ H locs → lv_has ls 4 [(0, .ref (α 20 0)), (2, .int v2), (3, .int v3)] → gW 2 p l e s m args below meth c D dA 1 α (some (.int r)) σz H locs (F0 m 177 ls [])) : ∀ (v2 : Int32) (v3 : Int32) (σ : sm_M), f_X6_gone_242 k177 v2 v3 σ = some (r, σz) → ∀ (H : Heap) (locs : List Loc) (ls : Array Slot), Wd D dA 1 α s.heap σ H locs → lv_has ls 4 [(0, .ref (α 20 0)), (2, .int v2), (3, .int v3)] → gW 2 p l e s m args below meth c D dA 1 α (some (.int r)) σz H locs (F0 m 242 ls []) := by
  obtain ⟨hx, hb, hr, hlk, hml, hown, hnm, hts, hK, hNw⟩ := id G
  intro v2 v3 σ hF H locs ls hW hl
  rw [f_X6_gone_242] at hF
  refine lv_iinc (v := (v3 + 1)) (lv' := [(3, .int (v3 + 1)), (0, .ref (α 20 0)), (2, .int v2)]) hx hb dX6_gone_242 hl (k := 2) rfl rfl (by decide) rfl (fun ls hl => ?_)
  refine lv_goto (tgt := 177) hx hb dX6_gone_245 (by decide) ?_
  exact hk177 _ _ _ hF H locs ls hW (lv_sub hl [1, 2, 0] rfl)
set_option maxHeartbeats 4000000 in
set_option maxRecDepth 100000 in
theorem w_X6_gone_177 (G : gx p s m meth c args cX6_gone 4 (some .int) RX6 "gone" D dA) {r : Int32} {σz : sm_M} : ∀ (n : Nat) (v2 : Int32) (v3 : Int32) (σ : sm_M), f_X6_gone_177 n v2 v3 σ = some (r, σz) → ∀ (H : Heap) (locs : List Loc) (ls : Array Slot), Wd D dA 1 α s.heap σ H locs → lv_has ls 4 [(0, .ref (α 20 0)), (2, .int v2), (3, .int v3)] → gW 2 p l e s m args below meth c D dA 1 α (some (.int r)) σz H locs (F0 m 177 ls []) := by
  obtain ⟨hx, hb, hr, hlk, hml, hown, hnm, hts, hK, hNw⟩ := id G
  intro n
  induction n with
  | zero => intro v2 v3 σ hF; exact absurd hF (by intro h; cases h)
  | succ n ih =>
    intro v2 v3 σ hF H locs ls hW hl
    rw [f_X6_gone_177] at hF
    refine lv_iload_n hx hb dX6_gone_177 rfl (lv_at hl 2 rfl) ?_
    refine lv_aload_n hx hb dX6_gone_178 rfl (lv_at hl 0 rfl) ?_
    refine gg_X6_135 G hW (by decide) dX6_gone_179 ?_
    refine lv_icmp_ge (tgt := 248) hx hb dX6_gone_182 (by decide) (fun hc => ?_) (fun hc => ?_)
    · replace hF := o_t hc hF
      exact w_X6_gone_248 G _ _ hF H locs ls hW (lv_sub hl [0, 1] rfl)
    · replace hF := o_f hc hF
      refine lv_aload_n hx hb dX6_gone_185 rfl (lv_at hl 0 rfl) ?_
      refine gg_X6_55 G hW (by decide) dX6_gone_186 ?_
      refine lv_iload_n hx hb dX6_gone_189 rfl (lv_at hl 2 rfl) ?_
      obtain ⟨x1, hx1, hF⟩ := o_b hF
      refine g_aZ (φ := 36) G rfl rfl (by decide) rfl hW (by decide) hx1 dX6_gone_190 ?_
      refine lv_if_eq (tgt := 242) hx hb dX6_gone_191 (by decide) (fun hc => ?_) (fun hc => ?_)
      · replace hF := o_t hc hF
        exact w_X6_gone_242 G (f_X6_gone_177 n) ih _ _ _ hF H locs ls hW (lv_sub hl [0, 1, 2] rfl)
      · replace hF := o_f hc hF
        refine lv_aload_n hx hb dX6_gone_194 rfl (lv_at hl 0 rfl) ?_
        refine gg_X6_122 G hW (by decide) dX6_gone_195 ?_
        refine lv_aload_n hx hb dX6_gone_198 rfl (lv_at hl 0 rfl) ?_
        refine gg_X6_49 G hW (by decide) dX6_gone_199 ?_
        refine lv_iload_n hx hb dX6_gone_202 rfl (lv_at hl 2 rfl) ?_
        obtain ⟨x2, hx2, hF⟩ := o_b hF
        refine g_aI (φ := 34) G rfl rfl (by decide) rfl hW (by decide) hx2 dX6_gone_203 ?_
        obtain ⟨x3, hx3, hF⟩ := o_b hF
        refine g_aZ (φ := 58) G rfl rfl (by decide) rfl hW (by decide) hx3 dX6_gone_204 ?_
        refine lv_if_eq (tgt := 242) hx hb dX6_gone_205 (by decide) (fun hc => ?_) (fun hc => ?_)
        · replace hF := o_t hc hF
          exact w_X6_gone_242 G (f_X6_gone_177 n) ih _ _ _ hF H locs ls hW (lv_sub hl [0, 1, 2] rfl)
        · replace hF := o_f hc hF
          refine lv_aload_n hx hb dX6_gone_208 rfl (lv_at hl 0 rfl) ?_
          refine gg_X6_62 G hW (by decide) dX6_gone_209 ?_
          refine lv_iload_n hx hb dX6_gone_212 rfl (lv_at hl 2 rfl) ?_
          obtain ⟨x4, hx4, hF⟩ := o_b hF
          refine g_aI (φ := 38) G rfl rfl (by decide) rfl hW (by decide) hx4 dX6_gone_213 ?_
          refine lv_aload_n hx hb dX6_gone_214 rfl (lv_at hl 0 rfl) ?_
          refine gg_X6_89 G hW (by decide) dX6_gone_215 ?_
          refine lv_iload_n hx hb dX6_gone_218 rfl (lv_at hl 2 rfl) ?_
          obtain ⟨x5, hx5, hF⟩ := o_b hF
          refine g_aI (φ := 47) G rfl rfl (by decide) rfl hW (by decide) hx5 dX6_gone_219 ?_
          refine lv_icmp_le (tgt := 242) hx hb dX6_gone_220 (by decide) (fun hc => ?_) (fun hc => ?_)
          · replace hF := o_t hc hF
            exact w_X6_gone_242 G (f_X6_gone_177 n) ih _ _ _ hF H locs ls hW (lv_sub hl [0, 1, 2] rfl)
          · replace hF := o_f hc hF
            refine lv_aload_n hx hb dX6_gone_223 rfl (lv_at hl 0 rfl) ?_
            refine gg_X6_74 G hW (by decide) dX6_gone_224 ?_
            refine lv_iload_n hx hb dX6_gone_227 rfl (lv_at hl 2 rfl) ?_
            refine lv_iconst (v := 1) hx hb dX6_gone_228 (by decide) ?_
            obtain ⟨σ6, hσ6, hF⟩ := o_b hF
            refine g_uZ (φ := 42) G rfl rfl (by decide) rfl hW (by decide) hσ6 dX6_gone_229 (fun H locs hW => ?_)
            refine lv_aload_n hx hb dX6_gone_230 rfl (lv_at hl 0 rfl) ?_
            refine gg_X6_77 G hW (by decide) dX6_gone_231 ?_
            refine lv_iload_n hx hb dX6_gone_234 rfl (lv_at hl 2 rfl) ?_
            refine lv_aload_n hx hb dX6_gone_235 rfl (lv_at hl 0 rfl) ?_
            refine gg_X6_62 G hW (by decide) dX6_gone_236 ?_
            refine lv_iload_n hx hb dX6_gone_239 rfl (lv_at hl 2 rfl) ?_
            obtain ⟨x7, hx7, hF⟩ := o_b hF
            refine g_aI (φ := 38) G rfl rfl (by decide) rfl hW (by decide) hx7 dX6_gone_240 ?_
            obtain ⟨σ8, hσ8, hF⟩ := o_b hF
            refine g_uI (φ := 43) G rfl rfl (by decide) rfl hW (by decide) hσ8 dX6_gone_241 (fun H locs hW => ?_)
            exact w_X6_gone_242 G (f_X6_gone_177 n) ih _ _ _ hF H locs ls hW (lv_sub hl [0, 1, 2] rfl)
set_option maxHeartbeats 4000000 in
set_option maxRecDepth 100000 in
theorem w_X6_gone_175 (G : gx p s m meth c args cX6_gone 4 (some .int) RX6 "gone" D dA) {r : Int32} {σz : sm_M} : ∀ (v2 : Int32) (σ : sm_M), f_X6_gone_175 v2 σ = some (r, σz) → ∀ (H : Heap) (locs : List Loc) (ls : Array Slot), Wd D dA 1 α s.heap σ H locs → lv_has ls 4 [(0, .ref (α 20 0)), (2, .int v2)] → gW 2 p l e s m args below meth c D dA 1 α (some (.int r)) σz H locs (F0 m 175 ls []) := by
  obtain ⟨hx, hb, hr, hlk, hml, hown, hnm, hts, hK, hNw⟩ := id G
  intro v2 σ hF H locs ls hW hl
  rw [f_X6_gone_175] at hF
  refine lv_iconst (v := 0) hx hb dX6_gone_175 (by decide) ?_
  refine lv_istore_n (lv' := [(3, .int (0 : Int32)), (0, .ref (α 20 0)), (2, .int v2)]) hx hb dX6_gone_176 rfl hl (by decide) rfl (fun ls hl => ?_)
  exact w_X6_gone_177 G 1000 _ _ _ hF H locs ls hW (lv_sub hl [1, 2, 0] rfl)
set_option maxHeartbeats 4000000 in
set_option maxRecDepth 100000 in
theorem w_X6_gone_168 (G : gx p s m meth c args cX6_gone 4 (some .int) RX6 "gone" D dA) {r : Int32} {σz : sm_M} (k133 : Int32 → Int32 → sm_M → Option (Int32 × sm_M)) (hk133 : ∀ (v2 : Int32) (v3 : Int32) (σ : sm_M), k133 v2 v3 σ = some (r, σz) → ∀ (H : Heap) (locs : List Loc) (ls : Array Slot), Wd D dA 1 α s.heap σ H locs → lv_has ls 4 [(0, .ref (α 20 0)), (2, .int v2), (3, .int v3)] → gW 2 p l e s m args below meth c D dA 1 α (some (.int r)) σz H locs (F0 m 133 ls [])) : ∀ (v2 : Int32) (v3 : Int32) (s1 : Int32) (s2 : Int32) (σ : sm_M), f_X6_gone_168 k133 v2 v3 s1 s2 σ = some (r, σz) → ∀ (H : Heap) (locs : List Loc) (ls : Array Slot), Wd D dA 1 α s.heap σ H locs → lv_has ls 4 [(0, .ref (α 20 0)), (2, .int v2), (3, .int v3)] → gW 2 p l e s m args below meth c D dA 1 α (some (.int r)) σz H locs (F0 m 168 ls [.int s2, .int s1, .ref (α 23 0)]) := by
  obtain ⟨hx, hb, hr, hlk, hml, hown, hnm, hts, hK, hNw⟩ := id G
  intro v2 v3 s1 s2 σ hF H locs ls hW hl
  rw [f_X6_gone_168] at hF
  obtain ⟨σ1, hσ1, hF⟩ := o_b hF
  refine g_uI (φ := 23) G rfl rfl (by decide) rfl hW (by decide) hσ1 dX6_gone_168 (fun H locs hW => ?_)
  refine lv_iinc (v := (v3 + 1)) (lv' := [(3, .int (v3 + 1)), (0, .ref (α 20 0)), (2, .int v2)]) hx hb dX6_gone_169 hl (k := 2) rfl rfl (by decide) rfl (fun ls hl => ?_)
  refine lv_goto (tgt := 133) hx hb dX6_gone_172 (by decide) ?_
  exact hk133 _ _ _ hF H locs ls hW (lv_sub hl [1, 2, 0] rfl)
set_option maxHeartbeats 4000000 in
set_option maxRecDepth 100000 in
theorem w_X6_gone_133 (G : gx p s m meth c args cX6_gone 4 (some .int) RX6 "gone" D dA) {r : Int32} {σz : sm_M} : ∀ (n : Nat) (v2 : Int32) (v3 : Int32) (σ : sm_M), f_X6_gone_133 n v2 v3 σ = some (r, σz) → ∀ (H : Heap) (locs : List Loc) (ls : Array Slot), Wd D dA 1 α s.heap σ H locs → lv_has ls 4 [(0, .ref (α 20 0)), (2, .int v2), (3, .int v3)] → gW 2 p l e s m args below meth c D dA 1 α (some (.int r)) σz H locs (F0 m 133 ls []) := by
  obtain ⟨hx, hb, hr, hlk, hml, hown, hnm, hts, hK, hNw⟩ := id G
  intro n
  induction n with
  | zero => intro v2 v3 σ hF; exact absurd hF (by intro h; cases h)
  | succ n ih =>
    intro v2 v3 σ hF H locs ls hW hl
    rw [f_X6_gone_133] at hF
    refine lv_iload_n hx hb dX6_gone_133 rfl (lv_at hl 2 rfl) ?_
    refine lv_aload_n hx hb dX6_gone_134 rfl (lv_at hl 0 rfl) ?_
    refine gg_X6_131 G hW (by decide) dX6_gone_135 ?_
    refine lv_icmp_ge (tgt := 175) hx hb dX6_gone_138 (by decide) (fun hc => ?_) (fun hc => ?_)
    · replace hF := o_t hc hF
      exact w_X6_gone_175 G _ _ hF H locs ls hW (lv_sub hl [0, 1] rfl)
    · replace hF := o_f hc hF
      refine lv_aload_n hx hb dX6_gone_141 rfl (lv_at hl 0 rfl) ?_
      refine gg_X6_16 G hW (by decide) dX6_gone_142 ?_
      refine lv_iload_n hx hb dX6_gone_145 rfl (lv_at hl 2 rfl) ?_
      refine lv_aload_n hx hb dX6_gone_146 rfl (lv_at hl 0 rfl) ?_
      refine gg_X6_122 G hW (by decide) dX6_gone_147 ?_
      refine lv_iload_n hx hb dX6_gone_150 rfl (lv_at hl 2 rfl) ?_
      obtain ⟨x1, hx1, hF⟩ := o_b hF
      refine g_aZ (φ := 58) G rfl rfl (by decide) rfl hW (by decide) hx1 dX6_gone_151 ?_
      refine lv_if_eq (tgt := 162) hx hb dX6_gone_152 (by decide) (fun hc => ?_) (fun hc => ?_)
      · replace hF := o_t hc hF
        refine lv_aload_n hx hb dX6_gone_162 rfl (lv_at hl 0 rfl) ?_
        refine gg_X6_16 G hW (by decide) dX6_gone_163 ?_
        refine lv_iload_n hx hb dX6_gone_166 rfl (lv_at hl 2 rfl) ?_
        obtain ⟨x2, hx2, hF⟩ := o_b hF
        refine g_aI (φ := 23) G rfl rfl (by decide) rfl hW (by decide) hx2 dX6_gone_167 ?_
        exact w_X6_gone_168 G (f_X6_gone_133 n) ih _ _ _ _ _ hF H locs ls hW (lv_sub hl [0, 1, 2] rfl)
      · replace hF := o_f hc hF
        refine lv_aload_n hx hb dX6_gone_155 rfl (lv_at hl 0 rfl) ?_
        obtain ⟨q3, hq3, hF⟩ := o_b hF
        refine kk_X6_246 G hW hq3 hl.1 ⟨Nat.le_of_ble_eq_true rfl, Nat.le_of_ble_eq_true rfl⟩ ⟨Nat.le_refl _, Nat.le_refl _⟩ (Nat.le_of_ble_eq_true rfl) dX6_gone_156 (fun H locs hW => ?_)
        refine lv_goto (tgt := 168) hx hb dX6_gone_159 (by decide) ?_
        exact w_X6_gone_168 G (f_X6_gone_133 n) ih _ _ _ _ _ hF H locs ls hW (lv_sub hl [0, 1, 2] rfl)
set_option maxHeartbeats 4000000 in
set_option maxRecDepth 100000 in
theorem w_X6_gone_110 (G : gx p s m meth c args cX6_gone 4 (some .int) RX6 "gone" D dA) {r : Int32} {σz : sm_M} : ∀ (v2 : Int32) (σ : sm_M), f_X6_gone_110 v2 σ = some (r, σz) → ∀ (H : Heap) (locs : List Loc) (ls : Array Slot), Wd D dA 1 α s.heap σ H locs → lv_has ls 4 [(0, .ref (α 20 0)), (2, .int v2)] → gW 2 p l e s m args below meth c D dA 1 α (some (.int r)) σz H locs (F0 m 110 ls []) := by
  obtain ⟨hx, hb, hr, hlk, hml, hown, hnm, hts, hK, hNw⟩ := id G
  intro v2 σ hF H locs ls hW hl
  rw [f_X6_gone_110] at hF
  refine lv_iload_n hx hb dX6_gone_110 rfl (lv_at hl 1 rfl) ?_
  refine lv_if_ne (tgt := 116) hx hb dX6_gone_111 (by decide) (fun hc => ?_) (fun hc => ?_)
  · replace hF := o_f hc hF
    refine lv_iload_n hx hb dX6_gone_116 rfl (lv_at hl 1 rfl) ?_
    refine lv_aload_n hx hb dX6_gone_117 rfl (lv_at hl 0 rfl) ?_
    refine gg_X6_138 G hW (by decide) dX6_gone_118 ?_
    refine lv_icmp_le (tgt := 131) hx hb dX6_gone_121 (by decide) (fun hc => ?_) (fun hc => ?_)
    · replace hF := o_t hc hF
      refine lv_iconst (v := 0) hx hb dX6_gone_131 (by decide) ?_
      refine lv_istore_n (lv' := [(3, .int (0 : Int32)), (0, .ref (α 20 0)), (2, .int v2)]) hx hb dX6_gone_132 rfl hl (by decide) rfl (fun ls hl => ?_)
      exact w_X6_gone_133 G 1000 _ _ _ hF H locs ls hW (lv_sub hl [1, 2, 0] rfl)
    · replace hF := o_f hc hF
      refine lv_aload_n hx hb dX6_gone_124 rfl (lv_at hl 0 rfl) ?_
      refine lv_iconst (v := 1) hx hb dX6_gone_125 (by decide) ?_
      obtain ⟨σ1, hσ1, hF⟩ := o_b hF
      refine pp_X6_163 G hW (by decide) hσ1 dX6_gone_126 (fun H locs hW => ?_)
      refine lv_iconst (v := 0) hx hb dX6_gone_129 (by decide) ?_
      exact g_iret G hW hF dX6_gone_130
  · replace hF := o_t hc hF
    refine lv_iconst (v := 0) hx hb dX6_gone_114 (by decide) ?_
    exact g_iret G hW hF dX6_gone_115
set_option maxHeartbeats 4000000 in
set_option maxRecDepth 100000 in
theorem w_X6_gone_104 (G : gx p s m meth c args cX6_gone 4 (some .int) RX6 "gone" D dA) {r : Int32} {σz : sm_M} (k52 : Int32 → Int32 → Int32 → sm_M → Option (Int32 × sm_M)) (hk52 : ∀ (v1 : Int32) (v2 : Int32) (v3 : Int32) (σ : sm_M), k52 v1 v2 v3 σ = some (r, σz) → ∀ (H : Heap) (locs : List Loc) (ls : Array Slot), Wd D dA 1 α s.heap σ H locs → lv_has ls 4 [(0, .ref (α 20 0)), (1, .int v1), (2, .int v2), (3, .int v3)] → gW 2 p l e s m args below meth c D dA 1 α (some (.int r)) σz H locs (F0 m 52 ls [])) : ∀ (v1 : Int32) (v2 : Int32) (v3 : Int32) (σ : sm_M), f_X6_gone_104 k52 v1 v2 v3 σ = some (r, σz) → ∀ (H : Heap) (locs : List Loc) (ls : Array Slot), Wd D dA 1 α s.heap σ H locs → lv_has ls 4 [(0, .ref (α 20 0)), (1, .int v1), (2, .int v2), (3, .int v3)] → gW 2 p l e s m args below meth c D dA 1 α (some (.int r)) σz H locs (F0 m 104 ls []) := by
  obtain ⟨hx, hb, hr, hlk, hml, hown, hnm, hts, hK, hNw⟩ := id G
  intro v1 v2 v3 σ hF H locs ls hW hl
  rw [f_X6_gone_104] at hF
  refine lv_iinc (v := (v3 + 1)) (lv' := [(3, .int (v3 + 1)), (0, .ref (α 20 0)), (1, .int v1), (2, .int v2)]) hx hb dX6_gone_104 hl (k := 3) rfl rfl (by decide) rfl (fun ls hl => ?_)
  refine lv_goto (tgt := 52) hx hb dX6_gone_107 (by decide) ?_
  exact hk52 _ _ _ _ hF H locs ls hW (lv_sub hl [1, 2, 3, 0] rfl)
set_option maxHeartbeats 4000000 in
set_option maxRecDepth 100000 in
theorem w_X6_gone_96 (G : gx p s m meth c args cX6_gone 4 (some .int) RX6 "gone" D dA) {r : Int32} {σz : sm_M} (k52 : Int32 → Int32 → Int32 → sm_M → Option (Int32 × sm_M)) (hk52 : ∀ (v1 : Int32) (v2 : Int32) (v3 : Int32) (σ : sm_M), k52 v1 v2 v3 σ = some (r, σz) → ∀ (H : Heap) (locs : List Loc) (ls : Array Slot), Wd D dA 1 α s.heap σ H locs → lv_has ls 4 [(0, .ref (α 20 0)), (1, .int v1), (2, .int v2), (3, .int v3)] → gW 2 p l e s m args below meth c D dA 1 α (some (.int r)) σz H locs (F0 m 52 ls [])) : ∀ (v1 : Int32) (v3 : Int32) (s0 : Int32) (σ : sm_M), f_X6_gone_96 k52 v1 v3 s0 σ = some (r, σz) → ∀ (H : Heap) (locs : List Loc) (ls : Array Slot), Wd D dA 1 α s.heap σ H locs → lv_has ls 4 [(0, .ref (α 20 0)), (1, .int v1), (3, .int v3)] → gW 2 p l e s m args below meth c D dA 1 α (some (.int r)) σz H locs (F0 m 96 ls [.int s0]) := by
  obtain ⟨hx, hb, hr, hlk, hml, hown, hnm, hts, hK, hNw⟩ := id G
  intro v1 v3 s0 σ hF H locs ls hW hl
  rw [f_X6_gone_96] at hF
  refine lv_istore_n (lv' := [(2, .int s0), (0, .ref (α 20 0)), (1, .int v1), (3, .int v3)]) hx hb dX6_gone_96 rfl hl (by decide) rfl (fun ls hl => ?_)
  refine lv_aload_n hx hb dX6_gone_97 rfl (lv_at hl 1 rfl) ?_
  refine gg_X6_122 G hW (by decide) dX6_gone_98 ?_
  refine lv_iload_n hx hb dX6_gone_101 rfl (lv_at hl 3 rfl) ?_
  refine lv_iconst (v := 1) hx hb dX6_gone_102 (by decide) ?_
  obtain ⟨σ1, hσ1, hF⟩ := o_b hF
  refine g_uZ (φ := 58) G rfl rfl (by decide) rfl hW (by decide) hσ1 dX6_gone_103 (fun H locs hW => ?_)
  exact w_X6_gone_104 G k52 hk52 _ _ _ _ hF H locs ls hW (lv_sub hl [1, 2, 0, 3] rfl)
set_option maxHeartbeats 4000000 in
set_option maxRecDepth 100000 in
theorem w_X6_gone_52 (G : gx p s m meth c args cX6_gone 4 (some .int) RX6 "gone" D dA) {r : Int32} {σz : sm_M} : ∀ (n : Nat) (v1 : Int32) (v2 : Int32) (v3 : Int32) (σ : sm_M), f_X6_gone_52 n v1 v2 v3 σ = some (r, σz) → ∀ (H : Heap) (locs : List Loc) (ls : Array Slot), Wd D dA 1 α s.heap σ H locs → lv_has ls 4 [(0, .ref (α 20 0)), (1, .int v1), (2, .int v2), (3, .int v3)] → gW 2 p l e s m args below meth c D dA 1 α (some (.int r)) σz H locs (F0 m 52 ls []) := by
  obtain ⟨hx, hb, hr, hlk, hml, hown, hnm, hts, hK, hNw⟩ := id G
  intro n
  induction n with
  | zero => intro v1 v2 v3 σ hF; exact absurd hF (by intro h; cases h)
  | succ n ih =>
    intro v1 v2 v3 σ hF H locs ls hW hl
    rw [f_X6_gone_52] at hF
    refine lv_iload_n hx hb dX6_gone_52 rfl (lv_at hl 3 rfl) ?_
    refine lv_aload_n hx hb dX6_gone_53 rfl (lv_at hl 0 rfl) ?_
    refine gg_X6_131 G hW (by decide) dX6_gone_54 ?_
    refine lv_icmp_ge (tgt := 110) hx hb dX6_gone_57 (by decide) (fun hc => ?_) (fun hc => ?_)
    · replace hF := o_t hc hF
      exact w_X6_gone_110 G _ _ hF H locs ls hW (lv_sub hl [0, 2] rfl)
    · replace hF := o_f hc hF
      refine lv_aload_n hx hb dX6_gone_60 rfl (lv_at hl 0 rfl) ?_
      refine gg_X6_16 G hW (by decide) dX6_gone_61 ?_
      refine lv_iload_n hx hb dX6_gone_64 rfl (lv_at hl 3 rfl) ?_
      obtain ⟨x1, hx1, hF⟩ := o_b hF
      refine g_aI (φ := 23) G rfl rfl (by decide) rfl hW (by decide) hx1 dX6_gone_65 ?_
      refine lv_iload_n hx hb dX6_gone_66 rfl (lv_at hl 1 rfl) ?_
      refine lv_icmp_ne (tgt := 104) hx hb dX6_gone_67 (by decide) (fun hc => ?_) (fun hc => ?_)
      · replace hF := o_f hc hF
        exact w_X6_gone_104 G (f_X6_gone_52 n) ih _ _ _ _ hF H locs ls hW (lv_sub hl [0, 1, 2, 3] rfl)
      · replace hF := o_t hc hF
        refine lv_aload_n hx hb dX6_gone_70 rfl (lv_at hl 0 rfl) ?_
        refine lv_iload_n hx hb dX6_gone_71 rfl (lv_at hl 3 rfl) ?_
        refine lv_iconst (v := 2) hx hb dX6_gone_72 (by decide) ?_
        obtain ⟨q2, hq2, hF⟩ := o_b hF
        refine kk_X6_230 G hW hq2 hl.1 ⟨Nat.le_of_ble_eq_true rfl, Nat.le_of_ble_eq_true rfl⟩ ⟨Nat.le_refl _, Nat.le_refl _⟩ (Nat.le_of_ble_eq_true rfl) dX6_gone_73 (fun H locs hW => ?_)
        refine lv_aload_n hx hb dX6_gone_76 rfl (lv_at hl 0 rfl) ?_
        refine gg_X6_37 G hW (by decide) dX6_gone_77 ?_
        refine lv_iload_n hx hb dX6_gone_80 rfl (lv_at hl 3 rfl) ?_
        obtain ⟨x3, hx3, hF⟩ := o_b hF
        refine g_aI (φ := 30) G rfl rfl (by decide) rfl hW (by decide) hx3 dX6_gone_81 ?_
        refine lv_iload_n hx hb dX6_gone_82 rfl (lv_at hl 2 rfl) ?_
        refine lv_icmp_le (tgt := 95) hx hb dX6_gone_83 (by decide) (fun hc => ?_) (fun hc => ?_)
        · replace hF := o_t hc hF
          refine lv_iload_n hx hb dX6_gone_95 rfl (lv_at hl 2 rfl) ?_
          exact w_X6_gone_96 G (f_X6_gone_52 n) ih _ _ _ _ hF H locs ls hW (lv_sub hl [0, 1, 3] rfl)
        · replace hF := o_f hc hF
          refine lv_aload_n hx hb dX6_gone_86 rfl (lv_at hl 0 rfl) ?_
          refine gg_X6_37 G hW (by decide) dX6_gone_87 ?_
          refine lv_iload_n hx hb dX6_gone_90 rfl (lv_at hl 3 rfl) ?_
          obtain ⟨x4, hx4, hF⟩ := o_b hF
          refine g_aI (φ := 30) G rfl rfl (by decide) rfl hW (by decide) hx4 dX6_gone_91 ?_
          refine lv_goto (tgt := 96) hx hb dX6_gone_92 (by decide) ?_
          exact w_X6_gone_96 G (f_X6_gone_52 n) ih _ _ _ _ hF H locs ls hW (lv_sub hl [0, 1, 3] rfl)
set_option maxHeartbeats 4000000 in
set_option maxRecDepth 100000 in
theorem w_X6_gone_34 (G : gx p s m meth c args cX6_gone 4 (some .int) RX6 "gone" D dA) {r : Int32} {σz : sm_M} : ∀ (σ : sm_M), f_X6_gone_34 σ = some (r, σz) → ∀ (H : Heap) (locs : List Loc) (ls : Array Slot), Wd D dA 1 α s.heap σ H locs → lv_has ls 4 [] → gW 2 p l e s m args below meth c D dA 1 α (some (.int r)) σz H locs (F0 m 34 ls []) := by
  obtain ⟨hx, hb, hr, hlk, hml, hown, hnm, hts, hK, hNw⟩ := id G
  intro σ hF H locs ls hW hl
  rw [f_X6_gone_34] at hF
  refine lv_bipush (v := -3) hx hb dX6_gone_34 (by decide) ?_
  exact g_iret G hW hF dX6_gone_36
set_option maxHeartbeats 4000000 in
set_option maxRecDepth 100000 in
theorem w_X6_gone_0 (G : gx p s m meth c args cX6_gone 4 (some .int) RX6 "gone" D dA) {r : Int32} {σz : sm_M} : ∀ (v1 : Int32) (σ : sm_M), f_X6_gone v1 σ = some (r, σz) → ∀ (H : Heap) (locs : List Loc) (ls : Array Slot), Wd D dA 1 α s.heap σ H locs → lv_has ls 4 [(0, .ref (α 20 0)), (1, .int v1)] → gW 2 p l e s m args below meth c D dA 1 α (some (.int r)) σz H locs (F0 m 0 ls []) := by
  obtain ⟨hx, hb, hr, hlk, hml, hown, hnm, hts, hK, hNw⟩ := id G
  intro v1 σ hF H locs ls hW hl
  rw [f_X6_gone] at hF
  refine lv_aload_n hx hb dX6_gone_0 rfl (lv_at hl 0 rfl) ?_
  refine lv_iload_n hx hb dX6_gone_1 rfl (lv_at hl 1 rfl) ?_
  obtain ⟨q1, hq1, hF⟩ := o_b hF
  refine kk_X6_173 G hW hq1 hl.1 ⟨Nat.le_of_ble_eq_true rfl, Nat.le_of_ble_eq_true rfl⟩ ⟨Nat.le_refl _, Nat.le_refl _⟩ (Nat.le_of_ble_eq_true rfl) dX6_gone_2 (fun H locs hW => ?_)
  refine lv_if_eq (tgt := 10) hx hb dX6_gone_5 (by decide) (fun hc => ?_) (fun hc => ?_)
  · replace hF := o_t hc hF
    refine lv_aload_n hx hb dX6_gone_10 rfl (lv_at hl 0 rfl) ?_
    refine gg_X6_98 G hW (by decide) dX6_gone_11 ?_
    refine lv_iload_n hx hb dX6_gone_14 rfl (lv_at hl 1 rfl) ?_
    obtain ⟨x2, hx2, hF⟩ := o_b hF
    refine g_aZ (φ := 50) G rfl rfl (by decide) rfl hW (by decide) hx2 dX6_gone_15 ?_
    refine lv_if_ne (tgt := 34) hx hb dX6_gone_16 (by decide) (fun hc => ?_) (fun hc => ?_)
    · replace hF := o_f hc hF
      exact w_X6_gone_34 G  _ hF H locs ls hW (lv_sub hl [] rfl)
    · replace hF := o_t hc hF
      refine lv_aload_n hx hb dX6_gone_19 rfl (lv_at hl 0 rfl) ?_
      obtain ⟨q3, hq3, hF⟩ := o_b hF
      refine kk_X6_242 G hW hq3 hl.1 ⟨Nat.le_of_ble_eq_true rfl, Nat.le_of_ble_eq_true rfl⟩ ⟨Nat.le_refl _, Nat.le_refl _⟩ (Nat.le_of_ble_eq_true rfl) dX6_gone_20 (fun H locs hW => ?_)
      refine lv_iconst (v := 1) hx hb dX6_gone_23 (by decide) ?_
      refine lv_icmp_eq (tgt := 34) hx hb dX6_gone_24 (by decide) (fun hc => ?_) (fun hc => ?_)
      · replace hF := o_t hc hF
        exact w_X6_gone_34 G  _ hF H locs ls hW (lv_sub hl [] rfl)
      · replace hF := o_f hc hF
        refine lv_aload_n hx hb dX6_gone_27 rfl (lv_at hl 0 rfl) ?_
        refine gg_X6_163 G hW (by decide) dX6_gone_28 ?_
        refine lv_if_eq (tgt := 37) hx hb dX6_gone_31 (by decide) (fun hc => ?_) (fun hc => ?_)
        · replace hF := o_t hc hF
          refine lv_aload_n hx hb dX6_gone_37 rfl (lv_at hl 0 rfl) ?_
          refine gg_X6_98 G hW (by decide) dX6_gone_38 ?_
          refine lv_iload_n hx hb dX6_gone_41 rfl (lv_at hl 1 rfl) ?_
          refine lv_iconst (v := 1) hx hb dX6_gone_42 (by decide) ?_
          obtain ⟨σ4, hσ4, hF⟩ := o_b hF
          refine g_uZ (φ := 50) G rfl rfl (by decide) rfl hW (by decide) hσ4 dX6_gone_43 (fun H locs hW => ?_)
          refine lv_iconst (v := 0) hx hb dX6_gone_44 (by decide) ?_
          refine lv_istore_n (lv' := [(2, .int (0 : Int32)), (0, .ref (α 20 0)), (1, .int v1)]) hx hb dX6_gone_45 rfl hl (by decide) rfl (fun ls hl => ?_)
          refine lv_aload_n hx hb dX6_gone_46 rfl (lv_at hl 1 rfl) ?_
          obtain ⟨q5, hq5, hF⟩ := o_b hF
          refine kk_X6_233 G hW hq5 hl.1 ⟨Nat.le_of_ble_eq_true rfl, Nat.le_of_ble_eq_true rfl⟩ ⟨Nat.le_refl _, Nat.le_refl _⟩ (Nat.le_of_ble_eq_true rfl) dX6_gone_47 (fun H locs hW => ?_)
          refine lv_iconst (v := 0) hx hb dX6_gone_50 (by decide) ?_
          refine lv_istore_n (lv' := [(3, .int (0 : Int32)), (2, .int (0 : Int32)), (0, .ref (α 20 0)), (1, .int v1)]) hx hb dX6_gone_51 rfl hl (by decide) rfl (fun ls hl => ?_)
          exact w_X6_gone_52 G 1000 _ _ _ _ hF H locs ls hW (lv_sub hl [2, 3, 1, 0] rfl)
        · replace hF := o_f hc hF
          exact w_X6_gone_34 G  _ hF H locs ls hW (lv_sub hl [] rfl)
  · replace hF := o_f hc hF
    refine lv_iconst (v := -1) hx hb dX6_gone_8 (by decide) ?_
    exact g_iret G hW hF dX6_gone_9
end WX6_gone
theorem c_X6_gone {l : Launch} {D : va_G} {dA : Nat → ClassId} {α : Nat → Nat → Nat} (hI : Inj 1 α) {v1 : Int32} {σ σz : sm_M} {r : Int32} (hF : f_X6_gone v1 σ = some (r, σz)) : gM l D dA 1 α yX6_gone cX6_gone 4 (some .int) 2 [.ref (α 20 0), .int v1] σ (some (.int r)) σz :=
  g_met hI (by decide +kernel) (Nat.le_of_ble_eq_true rfl) (fun p e s m below meth c ls G hW hl => w_X6_gone_0 G _ _ hF _ _ _ hW hl)
section KX6_gone
variable {p : Program} {l : Launch} {e : Env} {R : Room} {s : State} {m : MethodId} {args : Array Value} {below : List Frame} {meth : Method} {c : Code} {H : Heap} {locs : List Loc} {cells slots : Nat} {Q : State → Prop}
variable {cc : ByteArray} {pc nL Z : Nat} {ls : Array Slot} {rest : List Value} {D : va_G} {dA : Nat → ClassId} {α : Nat → Nat → Nat} {H0 : Heap} {σ σ' : sm_M} {ret : Option FieldType} {own nm : String}
end KX6_gone
section WX6_lose
variable {p : Program} {l : Launch} {e : Env} {s : State} {m : MethodId} {args : Array Value} {below : List Frame} {meth : Method} {c : Code} {D : va_G} {dA : Nat → ClassId} {α : Nat → Nat → Nat}
set_option maxHeartbeats 4000000 in
set_option maxRecDepth 100000 in
theorem w_X6_lose_95 (G : gx p s m meth c args cX6_lose 2 (some .int) RX6 "lose" D dA) {r : Int32} {σz : sm_M} : ∀ (s0 : Int32) (σ : sm_M), f_X6_lose_95 s0 σ = some (r, σz) → ∀ (H : Heap) (locs : List Loc) (ls : Array Slot), Wd D dA 1 α s.heap σ H locs → lv_has ls 2 [] → gW 3 p l e s m args below meth c D dA 1 α (some (.int r)) σz H locs (F0 m 95 ls [.int s0]) := by
  obtain ⟨hx, hb, hr, hlk, hml, hown, hnm, hts, hK, hNw⟩ := id G
  intro s0 σ hF H locs ls hW hl
  rw [f_X6_lose_95] at hF
  exact g_iret G hW hF dX6_lose_95
set_option maxHeartbeats 4000000 in
set_option maxRecDepth 100000 in
theorem w_X6_lose_26 (G : gx p s m meth c args cX6_lose 2 (some .int) RX6 "lose" D dA) {r : Int32} {σz : sm_M} : ∀ (σ : sm_M), f_X6_lose_26 σ = some (r, σz) → ∀ (H : Heap) (locs : List Loc) (ls : Array Slot), Wd D dA 1 α s.heap σ H locs → lv_has ls 2 [] → gW 3 p l e s m args below meth c D dA 1 α (some (.int r)) σz H locs (F0 m 26 ls []) := by
  obtain ⟨hx, hb, hr, hlk, hml, hown, hnm, hts, hK, hNw⟩ := id G
  intro σ hF H locs ls hW hl
  rw [f_X6_lose_26] at hF
  refine lv_bipush (v := -3) hx hb dX6_lose_26 (by decide) ?_
  exact g_iret G hW hF dX6_lose_28
set_option maxHeartbeats 4000000 in
set_option maxRecDepth 100000 in
theorem w_X6_lose_0 (G : gx p s m meth c args cX6_lose 2 (some .int) RX6 "lose" D dA) {r : Int32} {σz : sm_M} : ∀ (v1 : Int32) (σ : sm_M), f_X6_lose v1 σ = some (r, σz) → ∀ (H : Heap) (locs : List Loc) (ls : Array Slot), Wd D dA 1 α s.heap σ H locs → lv_has ls 2 [(0, .ref (α 20 0)), (1, .int v1)] → gW 3 p l e s m args below meth c D dA 1 α (some (.int r)) σz H locs (F0 m 0 ls []) := by
  obtain ⟨hx, hb, hr, hlk, hml, hown, hnm, hts, hK, hNw⟩ := id G
  intro v1 σ hF H locs ls hW hl
  rw [f_X6_lose] at hF
  refine lv_aload_n hx hb dX6_lose_0 rfl (lv_at hl 0 rfl) ?_
  refine lv_iload_n hx hb dX6_lose_1 rfl (lv_at hl 1 rfl) ?_
  obtain ⟨q1, hq1, hF⟩ := o_b hF
  refine kk_X6_249 G hW hq1 hl.1 ⟨Nat.le_of_ble_eq_true rfl, Nat.le_of_ble_eq_true rfl⟩ ⟨Nat.le_refl _, Nat.le_refl _⟩ (Nat.le_of_ble_eq_true rfl) dX6_lose_2 (fun H locs hW => ?_)
  refine lv_if_eq (tgt := 10) hx hb dX6_lose_5 (by decide) (fun hc => ?_) (fun hc => ?_)
  · replace hF := o_t hc hF
    refine lv_aload_n hx hb dX6_lose_10 rfl (lv_at hl 0 rfl) ?_
    refine gg_X6_55 G hW (by decide) dX6_lose_11 ?_
    refine lv_iload_n hx hb dX6_lose_14 rfl (lv_at hl 1 rfl) ?_
    obtain ⟨x2, hx2, hF⟩ := o_b hF
    refine g_aZ (φ := 36) G rfl rfl (by decide) rfl hW (by decide) hx2 dX6_lose_15 ?_
    refine lv_if_eq (tgt := 26) hx hb dX6_lose_16 (by decide) (fun hc => ?_) (fun hc => ?_)
    · replace hF := o_t hc hF
      exact w_X6_lose_26 G  _ hF H locs ls hW (lv_sub hl [] rfl)
    · replace hF := o_f hc hF
      refine lv_aload_n hx hb dX6_lose_19 rfl (lv_at hl 0 rfl) ?_
      refine gg_X6_163 G hW (by decide) dX6_lose_20 ?_
      refine lv_if_eq (tgt := 29) hx hb dX6_lose_23 (by decide) (fun hc => ?_) (fun hc => ?_)
      · replace hF := o_t hc hF
        refine lv_aload_n hx hb dX6_lose_29 rfl (lv_at hl 0 rfl) ?_
        refine gg_X6_62 G hW (by decide) dX6_lose_30 ?_
        refine lv_iload_n hx hb dX6_lose_33 rfl (lv_at hl 1 rfl) ?_
        obtain ⟨x3, hx3, hF⟩ := o_b hF
        refine g_aI (φ := 38) G rfl rfl (by decide) rfl hW (by decide) hx3 dX6_lose_34 ?_
        refine lv_aload_n hx hb dX6_lose_35 rfl (lv_at hl 0 rfl) ?_
        refine gg_X6_89 G hW (by decide) dX6_lose_36 ?_
        refine lv_iload_n hx hb dX6_lose_39 rfl (lv_at hl 1 rfl) ?_
        obtain ⟨x4, hx4, hF⟩ := o_b hF
        refine g_aI (φ := 47) G rfl rfl (by decide) rfl hW (by decide) hx4 dX6_lose_40 ?_
        refine lv_icmp_gt (tgt := 46) hx hb dX6_lose_41 (by decide) (fun hc => ?_) (fun hc => ?_)
        · replace hF := o_t hc hF
          refine lv_aload_n hx hb dX6_lose_46 rfl (lv_at hl 0 rfl) ?_
          refine gg_X6_74 G hW (by decide) dX6_lose_47 ?_
          refine lv_iload_n hx hb dX6_lose_50 rfl (lv_at hl 1 rfl) ?_
          refine lv_iconst (v := 1) hx hb dX6_lose_51 (by decide) ?_
          obtain ⟨σ5, hσ5, hF⟩ := o_b hF
          refine g_uZ (φ := 42) G rfl rfl (by decide) rfl hW (by decide) hσ5 dX6_lose_52 (fun H locs hW => ?_)
          refine lv_aload_n hx hb dX6_lose_53 rfl (lv_at hl 0 rfl) ?_
          refine gg_X6_77 G hW (by decide) dX6_lose_54 ?_
          refine lv_iload_n hx hb dX6_lose_57 rfl (lv_at hl 1 rfl) ?_
          refine lv_aload_n hx hb dX6_lose_58 rfl (lv_at hl 0 rfl) ?_
          refine gg_X6_62 G hW (by decide) dX6_lose_59 ?_
          refine lv_iload_n hx hb dX6_lose_62 rfl (lv_at hl 1 rfl) ?_
          obtain ⟨x6, hx6, hF⟩ := o_b hF
          refine g_aI (φ := 38) G rfl rfl (by decide) rfl hW (by decide) hx6 dX6_lose_63 ?_
          obtain ⟨σ7, hσ7, hF⟩ := o_b hF
          refine g_uI (φ := 43) G rfl rfl (by decide) rfl hW (by decide) hσ7 dX6_lose_64 (fun H locs hW => ?_)
          refine lv_aload_n hx hb dX6_lose_65 rfl (lv_at hl 0 rfl) ?_
          refine gg_X6_68 G hW (by decide) dX6_lose_66 ?_
          refine lv_iload_n hx hb dX6_lose_69 rfl (lv_at hl 1 rfl) ?_
          obtain ⟨x8, hx8, hF⟩ := o_b hF
          refine g_aI (φ := 40) G rfl rfl (by decide) rfl hW (by decide) hx8 dX6_lose_70 ?_
          refine lv_aload_n hx hb dX6_lose_71 rfl (lv_at hl 0 rfl) ?_
          refine gg_X6_62 G hW (by decide) dX6_lose_72 ?_
          refine lv_iload_n hx hb dX6_lose_75 rfl (lv_at hl 1 rfl) ?_
          obtain ⟨x9, hx9, hF⟩ := o_b hF
          refine g_aI (φ := 38) G rfl rfl (by decide) rfl hW (by decide) hx9 dX6_lose_76 ?_
          refine lv_icmp_ge (tgt := 94) hx hb dX6_lose_77 (by decide) (fun hc => ?_) (fun hc => ?_)
          · replace hF := o_t hc hF
            refine lv_iconst (v := 0) hx hb dX6_lose_94 (by decide) ?_
            exact w_X6_lose_95 G _ _ hF H locs ls hW (lv_sub hl [] rfl)
          · replace hF := o_f hc hF
            refine lv_aload_n hx hb dX6_lose_80 rfl (lv_at hl 0 rfl) ?_
            refine lv_aload_n hx hb dX6_lose_81 rfl (lv_at hl 0 rfl) ?_
            refine gg_X6_49 G hW (by decide) dX6_lose_82 ?_
            refine lv_iload_n hx hb dX6_lose_85 rfl (lv_at hl 1 rfl) ?_
            obtain ⟨x10, hx10, hF⟩ := o_b hF
            refine g_aI (φ := 34) G rfl rfl (by decide) rfl hW (by decide) hx10 dX6_lose_86 ?_
            refine lv_iconst (v := 3) hx hb dX6_lose_87 (by decide) ?_
            obtain ⟨q11, hq11, hF⟩ := o_b hF
            refine kk_X6_224 G hW hq11 hl.1 ⟨Nat.le_of_ble_eq_true rfl, Nat.le_of_ble_eq_true rfl⟩ ⟨Nat.le_refl _, Nat.le_refl _⟩ (Nat.le_of_ble_eq_true rfl) dX6_lose_88 (fun H locs hW => ?_)
            refine lv_goto (tgt := 95) hx hb dX6_lose_91 (by decide) ?_
            exact w_X6_lose_95 G _ _ hF H locs ls hW (lv_sub hl [] rfl)
        · replace hF := o_f hc hF
          refine lv_iconst (v := 0) hx hb dX6_lose_44 (by decide) ?_
          exact g_iret G hW hF dX6_lose_45
      · replace hF := o_f hc hF
        exact w_X6_lose_26 G  _ hF H locs ls hW (lv_sub hl [] rfl)
  · replace hF := o_f hc hF
    refine lv_iconst (v := -1) hx hb dX6_lose_8 (by decide) ?_
    exact g_iret G hW hF dX6_lose_9
end WX6_lose
theorem c_X6_lose {l : Launch} {D : va_G} {dA : Nat → ClassId} {α : Nat → Nat → Nat} (hI : Inj 1 α) {v1 : Int32} {σ σz : sm_M} {r : Int32} (hF : f_X6_lose v1 σ = some (r, σz)) : gM l D dA 1 α yX6_lose cX6_lose 2 (some .int) 3 [.ref (α 20 0), .int v1] σ (some (.int r)) σz :=
  g_met hI (by decide +kernel) (Nat.le_of_ble_eq_true rfl) (fun p e s m below meth c ls G hW hl => w_X6_lose_0 G _ _ hF _ _ _ hW hl)
section KX6_lose
variable {p : Program} {l : Launch} {e : Env} {R : Room} {s : State} {m : MethodId} {args : Array Value} {below : List Frame} {meth : Method} {c : Code} {H : Heap} {locs : List Loc} {cells slots : Nat} {Q : State → Prop}
variable {cc : ByteArray} {pc nL Z : Nat} {ls : Array Slot} {rest : List Value} {D : va_G} {dA : Nat → ClassId} {α : Nat → Nat → Nat} {H0 : Heap} {σ σ' : sm_M} {ret : Option FieldType} {own nm : String}
end KX6_lose
section WX6_tick
variable {p : Program} {l : Launch} {e : Env} {s : State} {m : MethodId} {args : Array Value} {below : List Frame} {meth : Method} {c : Code} {D : va_G} {dA : Nat → ClassId} {α : Nat → Nat → Nat}
set_option maxHeartbeats 4000000 in
set_option maxRecDepth 100000 in
theorem w_X6_tick_36 (G : gx p s m meth c args cX6_tick 2 (some .int) RX6 "tick" D dA) {r : Int32} {σz : sm_M} : ∀ (s1 : Int32) (σ : sm_M), f_X6_tick_36 s1 σ = some (r, σz) → ∀ (H : Heap) (locs : List Loc) (ls : Array Slot), Wd D dA 1 α s.heap σ H locs → lv_has ls 2 [(0, .ref (α 20 0))] → gW 1 p l e s m args below meth c D dA 1 α (some (.int r)) σz H locs (F0 m 36 ls [.int s1, .ref (α 20 0)]) := by
  obtain ⟨hx, hb, hr, hlk, hml, hown, hnm, hts, hK, hNw⟩ := id G
  intro s1 σ hF H locs ls hW hl
  rw [f_X6_tick_36] at hF
  obtain ⟨σ1, hσ1, hF⟩ := o_b hF
  refine pp_X6_148 G hW (by decide) hσ1 dX6_tick_36 (fun H locs hW => ?_)
  refine lv_aload_n hx hb dX6_tick_39 rfl (lv_at hl 0 rfl) ?_
  refine gg_X6_148 G hW (by decide) dX6_tick_40 ?_
  exact g_iret G hW hF dX6_tick_43
set_option maxHeartbeats 4000000 in
set_option maxRecDepth 100000 in
theorem w_X6_tick_0 (G : gx p s m meth c args cX6_tick 2 (some .int) RX6 "tick" D dA) {r : Int32} {σz : sm_M} : ∀ (v1 : Int32) (σ : sm_M), f_X6_tick v1 σ = some (r, σz) → ∀ (H : Heap) (locs : List Loc) (ls : Array Slot), Wd D dA 1 α s.heap σ H locs → lv_has ls 2 [(0, .ref (α 20 0)), (1, .int v1)] → gW 1 p l e s m args below meth c D dA 1 α (some (.int r)) σz H locs (F0 m 0 ls []) := by
  obtain ⟨hx, hb, hr, hlk, hml, hown, hnm, hts, hK, hNw⟩ := id G
  intro v1 σ hF H locs ls hW hl
  rw [f_X6_tick] at hF
  refine lv_iload_n hx hb dX6_tick_0 rfl (lv_at hl 1 rfl) ?_
  refine lv_iconst (v := 1) hx hb dX6_tick_1 (by decide) ?_
  refine lv_bipush (v := 100) hx hb dX6_tick_2 (by decide) ?_
  obtain ⟨q1, hq1, hF⟩ := o_b hF
  refine kk_X6_169 G hW hq1 hl.1 ⟨Nat.le_of_ble_eq_true rfl, Nat.le_of_ble_eq_true rfl⟩ ⟨Nat.le_refl _, Nat.le_refl _⟩ (Nat.le_of_ble_eq_true rfl) dX6_tick_4 (fun H locs hW => ?_)
  refine lv_if_ne (tgt := 13) hx hb dX6_tick_7 (by decide) (fun hc => ?_) (fun hc => ?_)
  · replace hF := o_f hc hF
    refine lv_aload_n hx hb dX6_tick_13 rfl (lv_at hl 0 rfl) ?_
    refine lv_aload_n hx hb dX6_tick_14 rfl (lv_at hl 0 rfl) ?_
    refine gg_X6_148 G hW (by decide) dX6_tick_15 ?_
    refine lv_iload_n hx hb dX6_tick_18 rfl (lv_at hl 1 rfl) ?_
    refine lv_iadd hx hb dX6_tick_19 ?_
    refine lv_ldc (v := 1000000) hx hb hown (hts _ cc_X6_252) dX6_tick_20 ?_
    refine lv_icmp_le (tgt := 30) hx hb dX6_tick_22 (by decide) (fun hc => ?_) (fun hc => ?_)
    · replace hF := o_t hc hF
      refine lv_aload_n hx hb dX6_tick_30 rfl (lv_at hl 0 rfl) ?_
      refine gg_X6_148 G hW (by decide) dX6_tick_31 ?_
      refine lv_iload_n hx hb dX6_tick_34 rfl (lv_at hl 1 rfl) ?_
      refine lv_iadd hx hb dX6_tick_35 ?_
      exact w_X6_tick_36 G _ _ hF H locs ls hW (lv_sub hl [0] rfl)
    · replace hF := o_f hc hF
      refine lv_ldc (v := 1000000) hx hb hown (hts _ cc_X6_252) dX6_tick_25 ?_
      refine lv_goto (tgt := 36) hx hb dX6_tick_27 (by decide) ?_
      exact w_X6_tick_36 G _ _ hF H locs ls hW (lv_sub hl [0] rfl)
  · replace hF := o_t hc hF
    refine lv_bipush (v := -2) hx hb dX6_tick_10 (by decide) ?_
    exact g_iret G hW hF dX6_tick_12
end WX6_tick
theorem c_X6_tick {l : Launch} {D : va_G} {dA : Nat → ClassId} {α : Nat → Nat → Nat} (hI : Inj 1 α) {v1 : Int32} {σ σz : sm_M} {r : Int32} (hF : f_X6_tick v1 σ = some (r, σz)) : gM l D dA 1 α yX6_tick cX6_tick 2 (some .int) 1 [.ref (α 20 0), .int v1] σ (some (.int r)) σz :=
  g_met hI (by decide +kernel) (Nat.le_of_ble_eq_true rfl) (fun p e s m below meth c ls G hW hl => w_X6_tick_0 G _ _ hF _ _ _ hW hl)
section KX6_tick
variable {p : Program} {l : Launch} {e : Env} {R : Room} {s : State} {m : MethodId} {args : Array Value} {below : List Frame} {meth : Method} {c : Code} {H : Heap} {locs : List Loc} {cells slots : Nat} {Q : State → Prop}
variable {cc : ByteArray} {pc nL Z : Nat} {ls : Array Slot} {rest : List Value} {D : va_G} {dA : Nat → ClassId} {α : Nat → Nat → Nat} {H0 : Heap} {σ σ' : sm_M} {ret : Option FieldType} {own nm : String}
end KX6_tick
section WX6_waiting
variable {p : Program} {l : Launch} {e : Env} {s : State} {m : MethodId} {args : Array Value} {below : List Frame} {meth : Method} {c : Code} {D : va_G} {dA : Nat → ClassId} {α : Nat → Nat → Nat}
set_option maxHeartbeats 4000000 in
set_option maxRecDepth 100000 in
theorem w_X6_waiting_39 (G : gx p s m meth c args cX6_waiting 3 (some .int) RX6 "waiting" D dA) {r : Int32} {σz : sm_M} : ∀ (v1 : Int32) (σ : sm_M), f_X6_waiting_39 v1 σ = some (r, σz) → ∀ (H : Heap) (locs : List Loc) (ls : Array Slot), Wd D dA 1 α s.heap σ H locs → lv_has ls 3 [(1, .int v1)] → gW 0 p l e s m args below meth c D dA 1 α (some (.int r)) σz H locs (F0 m 39 ls []) := by
  obtain ⟨hx, hb, hr, hlk, hml, hown, hnm, hts, hK, hNw⟩ := id G
  intro v1 σ hF H locs ls hW hl
  rw [f_X6_waiting_39] at hF
  refine lv_iload_n hx hb dX6_waiting_39 rfl (lv_at hl 0 rfl) ?_
  exact g_iret G hW hF dX6_waiting_40
set_option maxHeartbeats 4000000 in
set_option maxRecDepth 100000 in
theorem w_X6_waiting_31 (G : gx p s m meth c args cX6_waiting 3 (some .int) RX6 "waiting" D dA) {r : Int32} {σz : sm_M} (k4 : Int32 → Int32 → sm_M → Option (Int32 × sm_M)) (hk4 : ∀ (v1 : Int32) (v2 : Int32) (σ : sm_M), k4 v1 v2 σ = some (r, σz) → ∀ (H : Heap) (locs : List Loc) (ls : Array Slot), Wd D dA 1 α s.heap σ H locs → lv_has ls 3 [(0, .ref (α 20 0)), (1, .int v1), (2, .int v2)] → gW 0 p l e s m args below meth c D dA 1 α (some (.int r)) σz H locs (F0 m 4 ls [])) : ∀ (v2 : Int32) (s0 : Int32) (s1 : Int32) (σ : sm_M), f_X6_waiting_31 k4 v2 s0 s1 σ = some (r, σz) → ∀ (H : Heap) (locs : List Loc) (ls : Array Slot), Wd D dA 1 α s.heap σ H locs → lv_has ls 3 [(0, .ref (α 20 0)), (2, .int v2)] → gW 0 p l e s m args below meth c D dA 1 α (some (.int r)) σz H locs (F0 m 31 ls [.int s1, .int s0]) := by
  obtain ⟨hx, hb, hr, hlk, hml, hown, hnm, hts, hK, hNw⟩ := id G
  intro v2 s0 s1 σ hF H locs ls hW hl
  rw [f_X6_waiting_31] at hF
  refine lv_iadd hx hb dX6_waiting_31 ?_
  refine lv_istore_n (lv' := [(1, .int (s0 + s1)), (0, .ref (α 20 0)), (2, .int v2)]) hx hb dX6_waiting_32 rfl hl (by decide) rfl (fun ls hl => ?_)
  refine lv_iinc (v := (v2 + 1)) (lv' := [(2, .int (v2 + 1)), (1, .int (s0 + s1)), (0, .ref (α 20 0))]) hx hb dX6_waiting_33 hl (k := 2) rfl rfl (by decide) rfl (fun ls hl => ?_)
  refine lv_goto (tgt := 4) hx hb dX6_waiting_36 (by decide) ?_
  exact hk4 _ _ _ hF H locs ls hW (lv_sub hl [2, 1, 0] rfl)
set_option maxHeartbeats 4000000 in
set_option maxRecDepth 100000 in
theorem w_X6_waiting_4 (G : gx p s m meth c args cX6_waiting 3 (some .int) RX6 "waiting" D dA) {r : Int32} {σz : sm_M} : ∀ (n : Nat) (v1 : Int32) (v2 : Int32) (σ : sm_M), f_X6_waiting_4 n v1 v2 σ = some (r, σz) → ∀ (H : Heap) (locs : List Loc) (ls : Array Slot), Wd D dA 1 α s.heap σ H locs → lv_has ls 3 [(0, .ref (α 20 0)), (1, .int v1), (2, .int v2)] → gW 0 p l e s m args below meth c D dA 1 α (some (.int r)) σz H locs (F0 m 4 ls []) := by
  obtain ⟨hx, hb, hr, hlk, hml, hown, hnm, hts, hK, hNw⟩ := id G
  intro n
  induction n with
  | zero => intro v1 v2 σ hF; exact absurd hF (by intro h; cases h)
  | succ n ih =>
    intro v1 v2 σ hF H locs ls hW hl
    rw [f_X6_waiting_4] at hF
    refine lv_iload_n hx hb dX6_waiting_4 rfl (lv_at hl 2 rfl) ?_
    refine lv_aload_n hx hb dX6_waiting_5 rfl (lv_at hl 0 rfl) ?_
    refine gg_X6_131 G hW (by decide) dX6_waiting_6 ?_
    refine lv_icmp_ge (tgt := 39) hx hb dX6_waiting_9 (by decide) (fun hc => ?_) (fun hc => ?_)
    · replace hF := o_t hc hF
      exact w_X6_waiting_39 G _ _ hF H locs ls hW (lv_sub hl [1] rfl)
    · replace hF := o_f hc hF
      refine lv_iload_n hx hb dX6_waiting_12 rfl (lv_at hl 1 rfl) ?_
      refine lv_aload_n hx hb dX6_waiting_13 rfl (lv_at hl 0 rfl) ?_
      refine gg_X6_40 G hW (by decide) dX6_waiting_14 ?_
      refine lv_iload_n hx hb dX6_waiting_17 rfl (lv_at hl 2 rfl) ?_
      obtain ⟨x1, hx1, hF⟩ := o_b hF
      refine g_aI (φ := 31) G rfl rfl (by decide) rfl hW (by decide) hx1 dX6_waiting_18 ?_
      refine lv_aload_n hx hb dX6_waiting_19 rfl (lv_at hl 0 rfl) ?_
      refine gg_X6_148 G hW (by decide) dX6_waiting_20 ?_
      refine lv_icmp_le (tgt := 30) hx hb dX6_waiting_23 (by decide) (fun hc => ?_) (fun hc => ?_)
      · replace hF := o_t hc hF
        refine lv_iconst (v := 0) hx hb dX6_waiting_30 (by decide) ?_
        exact w_X6_waiting_31 G (f_X6_waiting_4 n) ih _ _ _ _ hF H locs ls hW (lv_sub hl [0, 2] rfl)
      · replace hF := o_f hc hF
        refine lv_iconst (v := 1) hx hb dX6_waiting_26 (by decide) ?_
        refine lv_goto (tgt := 31) hx hb dX6_waiting_27 (by decide) ?_
        exact w_X6_waiting_31 G (f_X6_waiting_4 n) ih _ _ _ _ hF H locs ls hW (lv_sub hl [0, 2] rfl)
set_option maxHeartbeats 4000000 in
set_option maxRecDepth 100000 in
theorem w_X6_waiting_0 (G : gx p s m meth c args cX6_waiting 3 (some .int) RX6 "waiting" D dA) {r : Int32} {σz : sm_M} : ∀ (σ : sm_M), f_X6_waiting σ = some (r, σz) → ∀ (H : Heap) (locs : List Loc) (ls : Array Slot), Wd D dA 1 α s.heap σ H locs → lv_has ls 3 [(0, .ref (α 20 0))] → gW 0 p l e s m args below meth c D dA 1 α (some (.int r)) σz H locs (F0 m 0 ls []) := by
  obtain ⟨hx, hb, hr, hlk, hml, hown, hnm, hts, hK, hNw⟩ := id G
  intro σ hF H locs ls hW hl
  rw [f_X6_waiting] at hF
  refine lv_iconst (v := 0) hx hb dX6_waiting_0 (by decide) ?_
  refine lv_istore_n (lv' := [(1, .int (0 : Int32)), (0, .ref (α 20 0))]) hx hb dX6_waiting_1 rfl hl (by decide) rfl (fun ls hl => ?_)
  refine lv_iconst (v := 0) hx hb dX6_waiting_2 (by decide) ?_
  refine lv_istore_n (lv' := [(2, .int (0 : Int32)), (1, .int (0 : Int32)), (0, .ref (α 20 0))]) hx hb dX6_waiting_3 rfl hl (by decide) rfl (fun ls hl => ?_)
  exact w_X6_waiting_4 G 1000 _ _ _ hF H locs ls hW (lv_sub hl [2, 1, 0] rfl)
end WX6_waiting
theorem c_X6_waiting {l : Launch} {D : va_G} {dA : Nat → ClassId} {α : Nat → Nat → Nat} (hI : Inj 1 α) {σ σz : sm_M} {r : Int32} (hF : f_X6_waiting σ = some (r, σz)) : gM l D dA 1 α yX6_waiting cX6_waiting 3 (some .int) 0 [.ref (α 20 0)] σ (some (.int r)) σz :=
  g_met hI (by decide +kernel) (Nat.le_of_ble_eq_true rfl) (fun p e s m below meth c ls G hW hl => w_X6_waiting_0 G  _ hF _ _ _ hW hl)
section KX6_waiting
variable {p : Program} {l : Launch} {e : Env} {R : Room} {s : State} {m : MethodId} {args : Array Value} {below : List Frame} {meth : Method} {c : Code} {H : Heap} {locs : List Loc} {cells slots : Nat} {Q : State → Prop}
variable {cc : ByteArray} {pc nL Z : Nat} {ls : Array Slot} {rest : List Value} {D : va_G} {dA : Nat → ClassId} {α : Nat → Nat → Nat} {H0 : Heap} {σ σ' : sm_M} {ret : Option FieldType} {own nm : String}
theorem kk_X6_253 (G : gx p s m meth c args cc nL ret RX6 nm D dA) (hW : Wd D dA 1 α H0 σ H locs) {q : Int32 × sm_M} (hq : f_X6_waiting σ = some q) (hls : ls.size = nL) (hR : 0 + 1 ≤ R.frames ∧ 8 + (3 + 11) + 44 * 0 ≤ R.locals) (hf : cells ≤ R.cells ∧ slots ≤ R.slots) (hcat : (rest.map fun v => v.category).sum ≤ 8) (hdg : decode cc pc = .ok (.invokevirtual 253, 3)) (kk : ∀ (H1 : Heap) (locs1 : List Loc), Wd D dA 1 α H0 q.2 H1 locs1 → W p l e R s m args below meth c H1 locs1 cells slots Q (F0 m (pc + 3) ls (.int q.1 :: rest))) : W p l e R s m args below meth c H locs cells slots Q (F0 m pc ls (.ref (α 20 0) :: rest)) :=
  g_cV (n := 0) G (c_X6_waiting (l := l) hW.2.2.2 hq) ⟨wm_26_21, wm_26_22, wm_26_23, wm_1_5, wm_27_0⟩ (by decide +kernel) hW (g_recv (φ := 20) (ci := 6) G.2.2.2.2.2.2.2.2.1 rfl rfl rfl (by decide) hW.1 rfl) hR hf rfl hls rfl hcat hdg kk
end KX6_waiting
section WX6_mark
variable {p : Program} {l : Launch} {e : Env} {s : State} {m : MethodId} {args : Array Value} {below : List Frame} {meth : Method} {c : Code} {D : va_G} {dA : Nat → ClassId} {α : Nat → Nat → Nat}
set_option maxHeartbeats 4000000 in
set_option maxRecDepth 100000 in
theorem w_X6_mark_128 (G : gx p s m meth c args cX6_mark 2 (some .int) RX6 "mark" D dA) {r : Int32} {σz : sm_M} : ∀ (σ : sm_M), f_X6_mark_128 σ = some (r, σz) → ∀ (H : Heap) (locs : List Loc) (ls : Array Slot), Wd D dA 1 α s.heap σ H locs → lv_has ls 2 [(0, .ref (α 20 0))] → gW 1 p l e s m args below meth c D dA 1 α (some (.int r)) σz H locs (F0 m 128 ls []) := by
  obtain ⟨hx, hb, hr, hlk, hml, hown, hnm, hts, hK, hNw⟩ := id G
  intro σ hF H locs ls hW hl
  rw [f_X6_mark_128] at hF
  refine lv_aload_n hx hb dX6_mark_128 rfl (lv_at hl 0 rfl) ?_
  refine lv_dup hx hb dX6_mark_129 rfl ?_
  refine gg_X6_157 G hW (by decide) dX6_mark_130 ?_
  refine lv_iconst (v := 1) hx hb dX6_mark_133 (by decide) ?_
  refine lv_iadd hx hb dX6_mark_134 ?_
  obtain ⟨σ1, hσ1, hF⟩ := o_b hF
  refine pp_X6_157 G hW (by decide) hσ1 dX6_mark_135 (fun H locs hW => ?_)
  refine lv_aload_n hx hb dX6_mark_138 rfl (lv_at hl 0 rfl) ?_
  refine gg_X6_157 G hW (by decide) dX6_mark_139 ?_
  exact g_iret G hW hF dX6_mark_142
set_option maxHeartbeats 4000000 in
set_option maxRecDepth 100000 in
theorem w_X6_mark_71 (G : gx p s m meth c args cX6_mark 2 (some .int) RX6 "mark" D dA) {r : Int32} {σz : sm_M} : ∀ (n : Nat) (v1 : Int32) (σ : sm_M), f_X6_mark_71 n v1 σ = some (r, σz) → ∀ (H : Heap) (locs : List Loc) (ls : Array Slot), Wd D dA 1 α s.heap σ H locs → lv_has ls 2 [(0, .ref (α 20 0)), (1, .int v1)] → gW 1 p l e s m args below meth c D dA 1 α (some (.int r)) σz H locs (F0 m 71 ls []) := by
  obtain ⟨hx, hb, hr, hlk, hml, hown, hnm, hts, hK, hNw⟩ := id G
  intro n
  induction n with
  | zero => intro v1 σ hF; exact absurd hF (by intro h; cases h)
  | succ n ih =>
    intro v1 σ hF H locs ls hW hl
    rw [f_X6_mark_71] at hF
    refine lv_iload_n hx hb dX6_mark_71 rfl (lv_at hl 1 rfl) ?_
    refine lv_aload_n hx hb dX6_mark_72 rfl (lv_at hl 0 rfl) ?_
    refine gg_X6_135 G hW (by decide) dX6_mark_73 ?_
    refine lv_icmp_ge (tgt := 128) hx hb dX6_mark_76 (by decide) (fun hc => ?_) (fun hc => ?_)
    · replace hF := o_t hc hF
      exact w_X6_mark_128 G  _ hF H locs ls hW (lv_sub hl [0] rfl)
    · replace hF := o_f hc hF
      refine lv_aload_n hx hb dX6_mark_79 rfl (lv_at hl 0 rfl) ?_
      refine gg_X6_89 G hW (by decide) dX6_mark_80 ?_
      refine lv_iload_n hx hb dX6_mark_83 rfl (lv_at hl 1 rfl) ?_
      refine lv_aload_n hx hb dX6_mark_84 rfl (lv_at hl 0 rfl) ?_
      refine gg_X6_62 G hW (by decide) dX6_mark_85 ?_
      refine lv_iload_n hx hb dX6_mark_88 rfl (lv_at hl 1 rfl) ?_
      obtain ⟨x1, hx1, hF⟩ := o_b hF
      refine g_aI (φ := 38) G rfl rfl (by decide) rfl hW (by decide) hx1 dX6_mark_89 ?_
      obtain ⟨σ2, hσ2, hF⟩ := o_b hF
      refine g_uI (φ := 47) G rfl rfl (by decide) rfl hW (by decide) hσ2 dX6_mark_90 (fun H locs hW => ?_)
      refine lv_aload_n hx hb dX6_mark_91 rfl (lv_at hl 0 rfl) ?_
      refine gg_X6_92 G hW (by decide) dX6_mark_92 ?_
      refine lv_iload_n hx hb dX6_mark_95 rfl (lv_at hl 1 rfl) ?_
      refine lv_aload_n hx hb dX6_mark_96 rfl (lv_at hl 0 rfl) ?_
      refine gg_X6_65 G hW (by decide) dX6_mark_97 ?_
      refine lv_iload_n hx hb dX6_mark_100 rfl (lv_at hl 1 rfl) ?_
      obtain ⟨x3, hx3, hF⟩ := o_b hF
      refine g_aI (φ := 39) G rfl rfl (by decide) rfl hW (by decide) hx3 dX6_mark_101 ?_
      obtain ⟨σ4, hσ4, hF⟩ := o_b hF
      refine g_uI (φ := 48) G rfl rfl (by decide) rfl hW (by decide) hσ4 dX6_mark_102 (fun H locs hW => ?_)
      refine lv_aload_n hx hb dX6_mark_103 rfl (lv_at hl 0 rfl) ?_
      refine gg_X6_95 G hW (by decide) dX6_mark_104 ?_
      refine lv_iload_n hx hb dX6_mark_107 rfl (lv_at hl 1 rfl) ?_
      refine lv_aload_n hx hb dX6_mark_108 rfl (lv_at hl 0 rfl) ?_
      refine gg_X6_68 G hW (by decide) dX6_mark_109 ?_
      refine lv_iload_n hx hb dX6_mark_112 rfl (lv_at hl 1 rfl) ?_
      obtain ⟨x5, hx5, hF⟩ := o_b hF
      refine g_aI (φ := 40) G rfl rfl (by decide) rfl hW (by decide) hx5 dX6_mark_113 ?_
      obtain ⟨σ6, hσ6, hF⟩ := o_b hF
      refine g_uI (φ := 49) G rfl rfl (by decide) rfl hW (by decide) hσ6 dX6_mark_114 (fun H locs hW => ?_)
      refine lv_aload_n hx hb dX6_mark_115 rfl (lv_at hl 0 rfl) ?_
      refine gg_X6_74 G hW (by decide) dX6_mark_116 ?_
      refine lv_iload_n hx hb dX6_mark_119 rfl (lv_at hl 1 rfl) ?_
      refine lv_iconst (v := 0) hx hb dX6_mark_120 (by decide) ?_
      obtain ⟨σ7, hσ7, hF⟩ := o_b hF
      refine g_uZ (φ := 42) G rfl rfl (by decide) rfl hW (by decide) hσ7 dX6_mark_121 (fun H locs hW => ?_)
      refine lv_iinc (v := (v1 + 1)) (lv' := [(1, .int (v1 + 1)), (0, .ref (α 20 0))]) hx hb dX6_mark_122 hl (k := 1) rfl rfl (by decide) rfl (fun ls hl => ?_)
      refine lv_goto (tgt := 71) hx hb dX6_mark_125 (by decide) ?_
      exact ih _ _ hF H locs ls hW (lv_sub hl [1, 0] rfl)
set_option maxHeartbeats 4000000 in
set_option maxRecDepth 100000 in
theorem w_X6_mark_69 (G : gx p s m meth c args cX6_mark 2 (some .int) RX6 "mark" D dA) {r : Int32} {σz : sm_M} : ∀ (σ : sm_M), f_X6_mark_69 σ = some (r, σz) → ∀ (H : Heap) (locs : List Loc) (ls : Array Slot), Wd D dA 1 α s.heap σ H locs → lv_has ls 2 [(0, .ref (α 20 0))] → gW 1 p l e s m args below meth c D dA 1 α (some (.int r)) σz H locs (F0 m 69 ls []) := by
  obtain ⟨hx, hb, hr, hlk, hml, hown, hnm, hts, hK, hNw⟩ := id G
  intro σ hF H locs ls hW hl
  rw [f_X6_mark_69] at hF
  refine lv_iconst (v := 0) hx hb dX6_mark_69 (by decide) ?_
  refine lv_istore_n (lv' := [(1, .int (0 : Int32)), (0, .ref (α 20 0))]) hx hb dX6_mark_70 rfl hl (by decide) rfl (fun ls hl => ?_)
  exact w_X6_mark_71 G 1000 _ _ hF H locs ls hW (lv_sub hl [1, 0] rfl)
set_option maxHeartbeats 4000000 in
set_option maxRecDepth 100000 in
theorem w_X6_mark_19 (G : gx p s m meth c args cX6_mark 2 (some .int) RX6 "mark" D dA) {r : Int32} {σz : sm_M} : ∀ (n : Nat) (v1 : Int32) (σ : sm_M), f_X6_mark_19 n v1 σ = some (r, σz) → ∀ (H : Heap) (locs : List Loc) (ls : Array Slot), Wd D dA 1 α s.heap σ H locs → lv_has ls 2 [(0, .ref (α 20 0)), (1, .int v1)] → gW 1 p l e s m args below meth c D dA 1 α (some (.int r)) σz H locs (F0 m 19 ls []) := by
  obtain ⟨hx, hb, hr, hlk, hml, hown, hnm, hts, hK, hNw⟩ := id G
  intro n
  induction n with
  | zero => intro v1 σ hF; exact absurd hF (by intro h; cases h)
  | succ n ih =>
    intro v1 σ hF H locs ls hW hl
    rw [f_X6_mark_19] at hF
    refine lv_iload_n hx hb dX6_mark_19 rfl (lv_at hl 1 rfl) ?_
    refine lv_aload_n hx hb dX6_mark_20 rfl (lv_at hl 0 rfl) ?_
    refine gg_X6_131 G hW (by decide) dX6_mark_21 ?_
    refine lv_icmp_ge (tgt := 69) hx hb dX6_mark_24 (by decide) (fun hc => ?_) (fun hc => ?_)
    · replace hF := o_t hc hF
      exact w_X6_mark_69 G  _ hF H locs ls hW (lv_sub hl [0] rfl)
    · replace hF := o_f hc hF
      refine lv_aload_n hx hb dX6_mark_27 rfl (lv_at hl 0 rfl) ?_
      refine gg_X6_80 G hW (by decide) dX6_mark_28 ?_
      refine lv_iload_n hx hb dX6_mark_31 rfl (lv_at hl 1 rfl) ?_
      refine lv_aload_n hx hb dX6_mark_32 rfl (lv_at hl 0 rfl) ?_
      refine gg_X6_19 G hW (by decide) dX6_mark_33 ?_
      refine lv_iload_n hx hb dX6_mark_36 rfl (lv_at hl 1 rfl) ?_
      obtain ⟨x1, hx1, hF⟩ := o_b hF
      refine g_aI (φ := 24) G rfl rfl (by decide) rfl hW (by decide) hx1 dX6_mark_37 ?_
      obtain ⟨σ2, hσ2, hF⟩ := o_b hF
      refine g_uI (φ := 44) G rfl rfl (by decide) rfl hW (by decide) hσ2 dX6_mark_38 (fun H locs hW => ?_)
      refine lv_aload_n hx hb dX6_mark_39 rfl (lv_at hl 0 rfl) ?_
      refine gg_X6_83 G hW (by decide) dX6_mark_40 ?_
      refine lv_iload_n hx hb dX6_mark_43 rfl (lv_at hl 1 rfl) ?_
      refine lv_aload_n hx hb dX6_mark_44 rfl (lv_at hl 0 rfl) ?_
      refine gg_X6_22 G hW (by decide) dX6_mark_45 ?_
      refine lv_iload_n hx hb dX6_mark_48 rfl (lv_at hl 1 rfl) ?_
      obtain ⟨x3, hx3, hF⟩ := o_b hF
      refine g_aI (φ := 25) G rfl rfl (by decide) rfl hW (by decide) hx3 dX6_mark_49 ?_
      obtain ⟨σ4, hσ4, hF⟩ := o_b hF
      refine g_uI (φ := 45) G rfl rfl (by decide) rfl hW (by decide) hσ4 dX6_mark_50 (fun H locs hW => ?_)
      refine lv_aload_n hx hb dX6_mark_51 rfl (lv_at hl 0 rfl) ?_
      refine gg_X6_86 G hW (by decide) dX6_mark_52 ?_
      refine lv_iload_n hx hb dX6_mark_55 rfl (lv_at hl 1 rfl) ?_
      refine lv_aload_n hx hb dX6_mark_56 rfl (lv_at hl 0 rfl) ?_
      refine gg_X6_25 G hW (by decide) dX6_mark_57 ?_
      refine lv_iload_n hx hb dX6_mark_60 rfl (lv_at hl 1 rfl) ?_
      obtain ⟨x5, hx5, hF⟩ := o_b hF
      refine g_aI (φ := 26) G rfl rfl (by decide) rfl hW (by decide) hx5 dX6_mark_61 ?_
      obtain ⟨σ6, hσ6, hF⟩ := o_b hF
      refine g_uI (φ := 46) G rfl rfl (by decide) rfl hW (by decide) hσ6 dX6_mark_62 (fun H locs hW => ?_)
      refine lv_iinc (v := (v1 + 1)) (lv' := [(1, .int (v1 + 1)), (0, .ref (α 20 0))]) hx hb dX6_mark_63 hl (k := 1) rfl rfl (by decide) rfl (fun ls hl => ?_)
      refine lv_goto (tgt := 19) hx hb dX6_mark_66 (by decide) ?_
      exact ih _ _ hF H locs ls hW (lv_sub hl [1, 0] rfl)
set_option maxHeartbeats 4000000 in
set_option maxRecDepth 100000 in
theorem w_X6_mark_14 (G : gx p s m meth c args cX6_mark 2 (some .int) RX6 "mark" D dA) {r : Int32} {σz : sm_M} : ∀ (σ : sm_M), f_X6_mark_14 σ = some (r, σz) → ∀ (H : Heap) (locs : List Loc) (ls : Array Slot), Wd D dA 1 α s.heap σ H locs → lv_has ls 2 [] → gW 1 p l e s m args below meth c D dA 1 α (some (.int r)) σz H locs (F0 m 14 ls []) := by
  obtain ⟨hx, hb, hr, hlk, hml, hown, hnm, hts, hK, hNw⟩ := id G
  intro σ hF H locs ls hW hl
  rw [f_X6_mark_14] at hF
  refine lv_bipush (v := -3) hx hb dX6_mark_14 (by decide) ?_
  exact g_iret G hW hF dX6_mark_16
set_option maxHeartbeats 4000000 in
set_option maxRecDepth 100000 in
theorem w_X6_mark_0 (G : gx p s m meth c args cX6_mark 2 (some .int) RX6 "mark" D dA) {r : Int32} {σz : sm_M} : ∀ (σ : sm_M), f_X6_mark σ = some (r, σz) → ∀ (H : Heap) (locs : List Loc) (ls : Array Slot), Wd D dA 1 α s.heap σ H locs → lv_has ls 2 [(0, .ref (α 20 0))] → gW 1 p l e s m args below meth c D dA 1 α (some (.int r)) σz H locs (F0 m 0 ls []) := by
  obtain ⟨hx, hb, hr, hlk, hml, hown, hnm, hts, hK, hNw⟩ := id G
  intro σ hF H locs ls hW hl
  rw [f_X6_mark] at hF
  refine lv_aload_n hx hb dX6_mark_0 rfl (lv_at hl 0 rfl) ?_
  obtain ⟨q1, hq1, hF⟩ := o_b hF
  refine kk_X6_253 G hW hq1 hl.1 ⟨Nat.le_of_ble_eq_true rfl, Nat.le_of_ble_eq_true rfl⟩ ⟨Nat.le_refl _, Nat.le_refl _⟩ (Nat.le_of_ble_eq_true rfl) dX6_mark_1 (fun H locs hW => ?_)
  refine lv_if_gt (tgt := 14) hx hb dX6_mark_4 (by decide) (fun hc => ?_) (fun hc => ?_)
  · replace hF := o_t hc hF
    exact w_X6_mark_14 G  _ hF H locs ls hW (lv_sub hl [] rfl)
  · replace hF := o_f hc hF
    refine lv_aload_n hx hb dX6_mark_7 rfl (lv_at hl 0 rfl) ?_
    refine gg_X6_163 G hW (by decide) dX6_mark_8 ?_
    refine lv_if_eq (tgt := 17) hx hb dX6_mark_11 (by decide) (fun hc => ?_) (fun hc => ?_)
    · replace hF := o_t hc hF
      refine lv_iconst (v := 0) hx hb dX6_mark_17 (by decide) ?_
      refine lv_istore_n (lv' := [(1, .int (0 : Int32)), (0, .ref (α 20 0))]) hx hb dX6_mark_18 rfl hl (by decide) rfl (fun ls hl => ?_)
      exact w_X6_mark_19 G 1000 _ _ hF H locs ls hW (lv_sub hl [1, 0] rfl)
    · replace hF := o_f hc hF
      exact w_X6_mark_14 G  _ hF H locs ls hW (lv_sub hl [] rfl)
end WX6_mark
theorem c_X6_mark {l : Launch} {D : va_G} {dA : Nat → ClassId} {α : Nat → Nat → Nat} (hI : Inj 1 α) {σ σz : sm_M} {r : Int32} (hF : f_X6_mark σ = some (r, σz)) : gM l D dA 1 α yX6_mark cX6_mark 2 (some .int) 1 [.ref (α 20 0)] σ (some (.int r)) σz :=
  g_met hI (by decide +kernel) (Nat.le_of_ble_eq_true rfl) (fun p e s m below meth c ls G hW hl => w_X6_mark_0 G  _ hF _ _ _ hW hl)
section KX6_mark
variable {p : Program} {l : Launch} {e : Env} {R : Room} {s : State} {m : MethodId} {args : Array Value} {below : List Frame} {meth : Method} {c : Code} {H : Heap} {locs : List Loc} {cells slots : Nat} {Q : State → Prop}
variable {cc : ByteArray} {pc nL Z : Nat} {ls : Array Slot} {rest : List Value} {D : va_G} {dA : Nat → ClassId} {α : Nat → Nat → Nat} {H0 : Heap} {σ σ' : sm_M} {ret : Option FieldType} {own nm : String}
end KX6_mark
section WX6_region
variable {p : Program} {l : Launch} {e : Env} {s : State} {m : MethodId} {args : Array Value} {below : List Frame} {meth : Method} {c : Code} {D : va_G} {dA : Nat → ClassId} {α : Nat → Nat → Nat}
set_option maxHeartbeats 4000000 in
set_option maxRecDepth 100000 in
theorem w_X6_region_62 (G : gx p s m meth c args cX6_region 4 (some .int) RX6 "region" D dA) {r : Int32} {σz : sm_M} : ∀ (v2 : Int32) (σ : sm_M), f_X6_region_62 v2 σ = some (r, σz) → ∀ (H : Heap) (locs : List Loc) (ls : Array Slot), Wd D dA 1 α s.heap σ H locs → lv_has ls 4 [(2, .int v2)] → gW 2 p l e s m args below meth c D dA 1 α (some (.int r)) σz H locs (F0 m 62 ls []) := by
  obtain ⟨hx, hb, hr, hlk, hml, hown, hnm, hts, hK, hNw⟩ := id G
  intro v2 σ hF H locs ls hW hl
  rw [f_X6_region_62] at hF
  refine lv_iload_n hx hb dX6_region_62 rfl (lv_at hl 0 rfl) ?_
  exact g_iret G hW hF dX6_region_63
set_option maxHeartbeats 4000000 in
set_option maxRecDepth 100000 in
theorem w_X6_region_54 (G : gx p s m meth c args cX6_region 4 (some .int) RX6 "region" D dA) {r : Int32} {σz : sm_M} (k29 : Int32 → Int32 → sm_M → Option (Int32 × sm_M)) (hk29 : ∀ (v2 : Int32) (v3 : Int32) (σ : sm_M), k29 v2 v3 σ = some (r, σz) → ∀ (H : Heap) (locs : List Loc) (ls : Array Slot), Wd D dA 1 α s.heap σ H locs → lv_has ls 4 [(0, .ref (α 20 0)), (2, .int v2), (3, .int v3)] → gW 2 p l e s m args below meth c D dA 1 α (some (.int r)) σz H locs (F0 m 29 ls [])) : ∀ (v3 : Int32) (s0 : Int32) (s1 : Int32) (σ : sm_M), f_X6_region_54 k29 v3 s0 s1 σ = some (r, σz) → ∀ (H : Heap) (locs : List Loc) (ls : Array Slot), Wd D dA 1 α s.heap σ H locs → lv_has ls 4 [(0, .ref (α 20 0)), (3, .int v3)] → gW 2 p l e s m args below meth c D dA 1 α (some (.int r)) σz H locs (F0 m 54 ls [.int s1, .int s0]) := by
  obtain ⟨hx, hb, hr, hlk, hml, hown, hnm, hts, hK, hNw⟩ := id G
  intro v3 s0 s1 σ hF H locs ls hW hl
  rw [f_X6_region_54] at hF
  refine lv_ior hx hb dX6_region_54 ?_
  refine lv_istore_n (lv' := [(2, .int (s0 ||| s1)), (0, .ref (α 20 0)), (3, .int v3)]) hx hb dX6_region_55 rfl hl (by decide) rfl (fun ls hl => ?_)
  refine lv_iinc (v := (v3 + 1)) (lv' := [(3, .int (v3 + 1)), (2, .int (s0 ||| s1)), (0, .ref (α 20 0))]) hx hb dX6_region_56 hl (k := 2) rfl rfl (by decide) rfl (fun ls hl => ?_)
  refine lv_goto (tgt := 29) hx hb dX6_region_59 (by decide) ?_
  exact hk29 _ _ _ hF H locs ls hW (lv_sub hl [2, 1, 0] rfl)
set_option maxHeartbeats 4000000 in
set_option maxRecDepth 100000 in
theorem w_X6_region_29 (G : gx p s m meth c args cX6_region 4 (some .int) RX6 "region" D dA) {r : Int32} {σz : sm_M} : ∀ (n : Nat) (v2 : Int32) (v3 : Int32) (σ : sm_M), f_X6_region_29 n v2 v3 σ = some (r, σz) → ∀ (H : Heap) (locs : List Loc) (ls : Array Slot), Wd D dA 1 α s.heap σ H locs → lv_has ls 4 [(0, .ref (α 20 0)), (2, .int v2), (3, .int v3)] → gW 2 p l e s m args below meth c D dA 1 α (some (.int r)) σz H locs (F0 m 29 ls []) := by
  obtain ⟨hx, hb, hr, hlk, hml, hown, hnm, hts, hK, hNw⟩ := id G
  intro n
  induction n with
  | zero => intro v2 v3 σ hF; exact absurd hF (by intro h; cases h)
  | succ n ih =>
    intro v2 v3 σ hF H locs ls hW hl
    rw [f_X6_region_29] at hF
    refine lv_iload_n hx hb dX6_region_29 rfl (lv_at hl 2 rfl) ?_
    refine lv_aload_n hx hb dX6_region_30 rfl (lv_at hl 0 rfl) ?_
    refine gg_X6_131 G hW (by decide) dX6_region_31 ?_
    refine lv_icmp_ge (tgt := 62) hx hb dX6_region_34 (by decide) (fun hc => ?_) (fun hc => ?_)
    · replace hF := o_t hc hF
      exact w_X6_region_62 G _ _ hF H locs ls hW (lv_sub hl [1] rfl)
    · replace hF := o_f hc hF
      refine lv_iload_n hx hb dX6_region_37 rfl (lv_at hl 1 rfl) ?_
      refine lv_aload_n hx hb dX6_region_38 rfl (lv_at hl 0 rfl) ?_
      refine gg_X6_122 G hW (by decide) dX6_region_39 ?_
      refine lv_iload_n hx hb dX6_region_42 rfl (lv_at hl 2 rfl) ?_
      obtain ⟨x1, hx1, hF⟩ := o_b hF
      refine g_aZ (φ := 58) G rfl rfl (by decide) rfl hW (by decide) hx1 dX6_region_43 ?_
      refine lv_if_eq (tgt := 53) hx hb dX6_region_44 (by decide) (fun hc => ?_) (fun hc => ?_)
      · replace hF := o_t hc hF
        refine lv_iconst (v := 0) hx hb dX6_region_53 (by decide) ?_
        exact w_X6_region_54 G (f_X6_region_29 n) ih _ _ _ _ hF H locs ls hW (lv_sub hl [0, 2] rfl)
      · replace hF := o_f hc hF
        refine lv_iconst (v := 1) hx hb dX6_region_47 (by decide) ?_
        refine lv_iload_n hx hb dX6_region_48 rfl (lv_at hl 2 rfl) ?_
        refine lv_ishl hx hb dX6_region_49 ?_
        refine lv_goto (tgt := 54) hx hb dX6_region_50 (by decide) ?_
        exact w_X6_region_54 G (f_X6_region_29 n) ih _ _ _ _ hF H locs ls hW (lv_sub hl [0, 2] rfl)
set_option maxHeartbeats 4000000 in
set_option maxRecDepth 100000 in
theorem w_X6_region_0 (G : gx p s m meth c args cX6_region 4 (some .int) RX6 "region" D dA) {r : Int32} {σz : sm_M} : ∀ (v1 : Int32) (σ : sm_M), f_X6_region v1 σ = some (r, σz) → ∀ (H : Heap) (locs : List Loc) (ls : Array Slot), Wd D dA 1 α s.heap σ H locs → lv_has ls 4 [(0, .ref (α 20 0)), (1, .int v1)] → gW 2 p l e s m args below meth c D dA 1 α (some (.int r)) σz H locs (F0 m 0 ls []) := by
  obtain ⟨hx, hb, hr, hlk, hml, hown, hnm, hts, hK, hNw⟩ := id G
  intro v1 σ hF H locs ls hW hl
  rw [f_X6_region] at hF
  refine lv_aload_n hx hb dX6_region_0 rfl (lv_at hl 0 rfl) ?_
  refine lv_iload_n hx hb dX6_region_1 rfl (lv_at hl 1 rfl) ?_
  obtain ⟨q1, hq1, hF⟩ := o_b hF
  refine kk_X6_177 G hW hq1 hl.1 ⟨Nat.le_of_ble_eq_true rfl, Nat.le_of_ble_eq_true rfl⟩ ⟨Nat.le_refl _, Nat.le_refl _⟩ (Nat.le_of_ble_eq_true rfl) dX6_region_2 (fun H locs hW => ?_)
  refine lv_if_eq (tgt := 10) hx hb dX6_region_5 (by decide) (fun hc => ?_) (fun hc => ?_)
  · replace hF := o_t hc hF
    refine lv_aload_n hx hb dX6_region_10 rfl (lv_at hl 0 rfl) ?_
    obtain ⟨q2, hq2, hF⟩ := o_b hF
    refine kk_X6_233 G hW hq2 hl.1 ⟨Nat.le_of_ble_eq_true rfl, Nat.le_of_ble_eq_true rfl⟩ ⟨Nat.le_refl _, Nat.le_refl _⟩ (Nat.le_of_ble_eq_true rfl) dX6_region_11 (fun H locs hW => ?_)
    refine lv_aload_n hx hb dX6_region_14 rfl (lv_at hl 0 rfl) ?_
    refine gg_X6_122 G hW (by decide) dX6_region_15 ?_
    refine lv_iload_n hx hb dX6_region_18 rfl (lv_at hl 1 rfl) ?_
    refine lv_iconst (v := 1) hx hb dX6_region_19 (by decide) ?_
    obtain ⟨σ3, hσ3, hF⟩ := o_b hF
    refine g_uZ (φ := 58) G rfl rfl (by decide) rfl hW (by decide) hσ3 dX6_region_20 (fun H locs hW => ?_)
    refine lv_aload_n hx hb dX6_region_21 rfl (lv_at hl 0 rfl) ?_
    obtain ⟨q4, hq4, hF⟩ := o_b hF
    refine kk_X6_236 G hW hq4 hl.1 ⟨Nat.le_of_ble_eq_true rfl, Nat.le_of_ble_eq_true rfl⟩ ⟨Nat.le_refl _, Nat.le_refl _⟩ (Nat.le_of_ble_eq_true rfl) dX6_region_22 (fun H locs hW => ?_)
    refine lv_iconst (v := 0) hx hb dX6_region_25 (by decide) ?_
    refine lv_istore_n (lv' := [(2, .int (0 : Int32)), (0, .ref (α 20 0)), (1, .int v1)]) hx hb dX6_region_26 rfl hl (by decide) rfl (fun ls hl => ?_)
    refine lv_iconst (v := 0) hx hb dX6_region_27 (by decide) ?_
    refine lv_istore_n (lv' := [(3, .int (0 : Int32)), (2, .int (0 : Int32)), (0, .ref (α 20 0)), (1, .int v1)]) hx hb dX6_region_28 rfl hl (by decide) rfl (fun ls hl => ?_)
    exact w_X6_region_29 G 1000 _ _ _ hF H locs ls hW (lv_sub hl [2, 1, 0] rfl)
  · replace hF := o_f hc hF
    refine lv_iconst (v := -1) hx hb dX6_region_8 (by decide) ?_
    exact g_iret G hW hF dX6_region_9
end WX6_region
theorem c_X6_region {l : Launch} {D : va_G} {dA : Nat → ClassId} {α : Nat → Nat → Nat} (hI : Inj 1 α) {v1 : Int32} {σ σz : sm_M} {r : Int32} (hF : f_X6_region v1 σ = some (r, σz)) : gM l D dA 1 α yX6_region cX6_region 4 (some .int) 2 [.ref (α 20 0), .int v1] σ (some (.int r)) σz :=
  g_met hI (by decide +kernel) (Nat.le_of_ble_eq_true rfl) (fun p e s m below meth c ls G hW hl => w_X6_region_0 G _ _ hF _ _ _ hW hl)
section KX6_region
variable {p : Program} {l : Launch} {e : Env} {R : Room} {s : State} {m : MethodId} {args : Array Value} {below : List Frame} {meth : Method} {c : Code} {H : Heap} {locs : List Loc} {cells slots : Nat} {Q : State → Prop}
variable {cc : ByteArray} {pc nL Z : Nat} {ls : Array Slot} {rest : List Value} {D : va_G} {dA : Nat → ClassId} {α : Nat → Nat → Nat} {H0 : Heap} {σ σ' : sm_M} {ret : Option FieldType} {own nm : String}
end KX6_region
section WX6_taskAt
variable {p : Program} {l : Launch} {e : Env} {s : State} {m : MethodId} {args : Array Value} {below : List Frame} {meth : Method} {c : Code} {D : va_G} {dA : Nat → ClassId} {α : Nat → Nat → Nat}
set_option maxHeartbeats 4000000 in
set_option maxRecDepth 100000 in
theorem w_X6_taskAt_153 (G : gx p s m meth c args cX6_taskAt 3 (some .int) RX6 "taskAt" D dA) {r : Int32} {σz : sm_M} : ∀ (s0 : Int32) (σ : sm_M), f_X6_taskAt_153 s0 σ = some (r, σz) → ∀ (H : Heap) (locs : List Loc) (ls : Array Slot), Wd D dA 1 α s.heap σ H locs → lv_has ls 3 [] → gW 2 p l e s m args below meth c D dA 1 α (some (.int r)) σz H locs (F0 m 153 ls [.int s0]) := by
  obtain ⟨hx, hb, hr, hlk, hml, hown, hnm, hts, hK, hNw⟩ := id G
  intro s0 σ hF H locs ls hW hl
  rw [f_X6_taskAt_153] at hF
  exact g_iret G hW hF dX6_taskAt_153
set_option maxHeartbeats 4000000 in
set_option maxRecDepth 100000 in
theorem w_X6_taskAt_134 (G : gx p s m meth c args cX6_taskAt 3 (some .int) RX6 "taskAt" D dA) {r : Int32} {σz : sm_M} : ∀ (s0 : Int32) (σ : sm_M), f_X6_taskAt_134 s0 σ = some (r, σz) → ∀ (H : Heap) (locs : List Loc) (ls : Array Slot), Wd D dA 1 α s.heap σ H locs → lv_has ls 3 [] → gW 2 p l e s m args below meth c D dA 1 α (some (.int r)) σz H locs (F0 m 134 ls [.int s0]) := by
  obtain ⟨hx, hb, hr, hlk, hml, hown, hnm, hts, hK, hNw⟩ := id G
  intro s0 σ hF H locs ls hW hl
  rw [f_X6_taskAt_134] at hF
  exact g_iret G hW hF dX6_taskAt_134
set_option maxHeartbeats 4000000 in
set_option maxRecDepth 100000 in
theorem w_X6_taskAt_0 (G : gx p s m meth c args cX6_taskAt 3 (some .int) RX6 "taskAt" D dA) {r : Int32} {σz : sm_M} : ∀ (v1 : Int32) (v2 : Int32) (σ : sm_M), f_X6_taskAt v1 v2 σ = some (r, σz) → ∀ (H : Heap) (locs : List Loc) (ls : Array Slot), Wd D dA 1 α s.heap σ H locs → lv_has ls 3 [(0, .ref (α 20 0)), (1, .int v1), (2, .int v2)] → gW 2 p l e s m args below meth c D dA 1 α (some (.int r)) σz H locs (F0 m 0 ls []) := by
  obtain ⟨hx, hb, hr, hlk, hml, hown, hnm, hts, hK, hNw⟩ := id G
  intro v1 v2 σ hF H locs ls hW hl
  rw [f_X6_taskAt] at hF
  refine lv_aload_n hx hb dX6_taskAt_0 rfl (lv_at hl 0 rfl) ?_
  refine lv_iload_n hx hb dX6_taskAt_1 rfl (lv_at hl 1 rfl) ?_
  obtain ⟨q1, hq1, hF⟩ := o_b hF
  refine kk_X6_177 G hW hq1 hl.1 ⟨Nat.le_of_ble_eq_true rfl, Nat.le_of_ble_eq_true rfl⟩ ⟨Nat.le_refl _, Nat.le_refl _⟩ (Nat.le_of_ble_eq_true rfl) dX6_taskAt_2 (fun H locs hW => ?_)
  refine lv_if_eq (tgt := 10) hx hb dX6_taskAt_5 (by decide) (fun hc => ?_) (fun hc => ?_)
  · replace hF := o_t hc hF
    refine lv_iload_n hx hb dX6_taskAt_10 rfl (lv_at hl 2 rfl) ?_
    by_cases n0 : v2 = 0
    · replace hF := o_t n0 hF
      refine lv_tableIn (tgt := 64) (off := 53) hx hb dX6_taskAt_11 (by rw [n0]; decide) (by rw [n0]; decide) (by rw [n0]; rfl) (by decide) ?_
      refine lv_aload_n hx hb dX6_taskAt_64 rfl (lv_at hl 0 rfl) ?_
      refine gg_X6_7 G hW (by decide) dX6_taskAt_65 ?_
      refine lv_iload_n hx hb dX6_taskAt_68 rfl (lv_at hl 1 rfl) ?_
      obtain ⟨x2, hx2, hF⟩ := o_b hF
      refine g_aI (φ := 21) G rfl rfl (by decide) rfl hW (by decide) hx2 dX6_taskAt_69 ?_
      exact g_iret G hW hF dX6_taskAt_70
    · replace hF := o_f n0 hF
      by_cases n1 : v2 = 1
      · replace hF := o_t n1 hF
        refine lv_tableIn (tgt := 71) (off := 60) hx hb dX6_taskAt_11 (by rw [n1]; decide) (by rw [n1]; decide) (by rw [n1]; rfl) (by decide) ?_
        refine lv_aload_n hx hb dX6_taskAt_71 rfl (lv_at hl 0 rfl) ?_
        refine gg_X6_16 G hW (by decide) dX6_taskAt_72 ?_
        refine lv_iload_n hx hb dX6_taskAt_75 rfl (lv_at hl 1 rfl) ?_
        obtain ⟨x3, hx3, hF⟩ := o_b hF
        refine g_aI (φ := 23) G rfl rfl (by decide) rfl hW (by decide) hx3 dX6_taskAt_76 ?_
        exact g_iret G hW hF dX6_taskAt_77
      · replace hF := o_f n1 hF
        by_cases n2 : v2 = 2
        · replace hF := o_t n2 hF
          refine lv_tableIn (tgt := 78) (off := 67) hx hb dX6_taskAt_11 (by rw [n2]; decide) (by rw [n2]; decide) (by rw [n2]; rfl) (by decide) ?_
          refine lv_aload_n hx hb dX6_taskAt_78 rfl (lv_at hl 0 rfl) ?_
          refine gg_X6_19 G hW (by decide) dX6_taskAt_79 ?_
          refine lv_iload_n hx hb dX6_taskAt_82 rfl (lv_at hl 1 rfl) ?_
          obtain ⟨x4, hx4, hF⟩ := o_b hF
          refine g_aI (φ := 24) G rfl rfl (by decide) rfl hW (by decide) hx4 dX6_taskAt_83 ?_
          exact g_iret G hW hF dX6_taskAt_84
        · replace hF := o_f n2 hF
          by_cases n3 : v2 = 3
          · replace hF := o_t n3 hF
            refine lv_tableIn (tgt := 85) (off := 74) hx hb dX6_taskAt_11 (by rw [n3]; decide) (by rw [n3]; decide) (by rw [n3]; rfl) (by decide) ?_
            refine lv_aload_n hx hb dX6_taskAt_85 rfl (lv_at hl 0 rfl) ?_
            refine gg_X6_22 G hW (by decide) dX6_taskAt_86 ?_
            refine lv_iload_n hx hb dX6_taskAt_89 rfl (lv_at hl 1 rfl) ?_
            obtain ⟨x5, hx5, hF⟩ := o_b hF
            refine g_aI (φ := 25) G rfl rfl (by decide) rfl hW (by decide) hx5 dX6_taskAt_90 ?_
            exact g_iret G hW hF dX6_taskAt_91
          · replace hF := o_f n3 hF
            by_cases n4 : v2 = 4
            · replace hF := o_t n4 hF
              refine lv_tableIn (tgt := 92) (off := 81) hx hb dX6_taskAt_11 (by rw [n4]; decide) (by rw [n4]; decide) (by rw [n4]; rfl) (by decide) ?_
              refine lv_aload_n hx hb dX6_taskAt_92 rfl (lv_at hl 0 rfl) ?_
              refine gg_X6_34 G hW (by decide) dX6_taskAt_93 ?_
              refine lv_iload_n hx hb dX6_taskAt_96 rfl (lv_at hl 1 rfl) ?_
              obtain ⟨x6, hx6, hF⟩ := o_b hF
              refine g_aI (φ := 29) G rfl rfl (by decide) rfl hW (by decide) hx6 dX6_taskAt_97 ?_
              exact g_iret G hW hF dX6_taskAt_98
            · replace hF := o_f n4 hF
              by_cases n5 : v2 = 5
              · replace hF := o_t n5 hF
                refine lv_tableIn (tgt := 99) (off := 88) hx hb dX6_taskAt_11 (by rw [n5]; decide) (by rw [n5]; decide) (by rw [n5]; rfl) (by decide) ?_
                refine lv_aload_n hx hb dX6_taskAt_99 rfl (lv_at hl 0 rfl) ?_
                refine gg_X6_37 G hW (by decide) dX6_taskAt_100 ?_
                refine lv_iload_n hx hb dX6_taskAt_103 rfl (lv_at hl 1 rfl) ?_
                obtain ⟨x7, hx7, hF⟩ := o_b hF
                refine g_aI (φ := 30) G rfl rfl (by decide) rfl hW (by decide) hx7 dX6_taskAt_104 ?_
                exact g_iret G hW hF dX6_taskAt_105
              · replace hF := o_f n5 hF
                by_cases n6 : v2 = 6
                · replace hF := o_t n6 hF
                  refine lv_tableIn (tgt := 106) (off := 95) hx hb dX6_taskAt_11 (by rw [n6]; decide) (by rw [n6]; decide) (by rw [n6]; rfl) (by decide) ?_
                  refine lv_aload_n hx hb dX6_taskAt_106 rfl (lv_at hl 0 rfl) ?_
                  refine gg_X6_40 G hW (by decide) dX6_taskAt_107 ?_
                  refine lv_iload_n hx hb dX6_taskAt_110 rfl (lv_at hl 1 rfl) ?_
                  obtain ⟨x8, hx8, hF⟩ := o_b hF
                  refine g_aI (φ := 31) G rfl rfl (by decide) rfl hW (by decide) hx8 dX6_taskAt_111 ?_
                  refine lv_aload_n hx hb dX6_taskAt_112 rfl (lv_at hl 0 rfl) ?_
                  refine gg_X6_148 G hW (by decide) dX6_taskAt_113 ?_
                  refine lv_icmp_le (tgt := 133) hx hb dX6_taskAt_116 (by decide) (fun hc => ?_) (fun hc => ?_)
                  · replace hF := o_t hc hF
                    refine lv_iconst (v := 0) hx hb dX6_taskAt_133 (by decide) ?_
                    exact w_X6_taskAt_134 G _ _ hF H locs ls hW (lv_sub hl [] rfl)
                  · replace hF := o_f hc hF
                    refine lv_aload_n hx hb dX6_taskAt_119 rfl (lv_at hl 0 rfl) ?_
                    refine gg_X6_40 G hW (by decide) dX6_taskAt_120 ?_
                    refine lv_iload_n hx hb dX6_taskAt_123 rfl (lv_at hl 1 rfl) ?_
                    obtain ⟨x9, hx9, hF⟩ := o_b hF
                    refine g_aI (φ := 31) G rfl rfl (by decide) rfl hW (by decide) hx9 dX6_taskAt_124 ?_
                    refine lv_aload_n hx hb dX6_taskAt_125 rfl (lv_at hl 0 rfl) ?_
                    refine gg_X6_148 G hW (by decide) dX6_taskAt_126 ?_
                    refine lv_isub hx hb dX6_taskAt_129 ?_
                    refine lv_goto (tgt := 134) hx hb dX6_taskAt_130 (by decide) ?_
                    exact w_X6_taskAt_134 G _ _ hF H locs ls hW (lv_sub hl [] rfl)
                · replace hF := o_f n6 hF
                  by_cases n7 : v2 = 7
                  · replace hF := o_t n7 hF
                    refine lv_tableIn (tgt := 135) (off := 124) hx hb dX6_taskAt_11 (by rw [n7]; decide) (by rw [n7]; decide) (by rw [n7]; rfl) (by decide) ?_
                    refine lv_aload_n hx hb dX6_taskAt_135 rfl (lv_at hl 0 rfl) ?_
                    obtain ⟨q10, hq10, hF⟩ := o_b hF
                    refine kk_X6_198 G hW hq10 hl.1 ⟨Nat.le_of_ble_eq_true rfl, Nat.le_of_ble_eq_true rfl⟩ ⟨Nat.le_refl _, Nat.le_refl _⟩ (Nat.le_of_ble_eq_true rfl) dX6_taskAt_136 (fun H locs hW => ?_)
                    refine lv_aload_n hx hb dX6_taskAt_139 rfl (lv_at hl 0 rfl) ?_
                    refine gg_X6_110 G hW (by decide) dX6_taskAt_140 ?_
                    refine lv_iload_n hx hb dX6_taskAt_143 rfl (lv_at hl 1 rfl) ?_
                    obtain ⟨x11, hx11, hF⟩ := o_b hF
                    refine g_aZ (φ := 54) G rfl rfl (by decide) rfl hW (by decide) hx11 dX6_taskAt_144 ?_
                    refine lv_if_eq (tgt := 152) hx hb dX6_taskAt_145 (by decide) (fun hc => ?_) (fun hc => ?_)
                    · replace hF := o_t hc hF
                      refine lv_iconst (v := 0) hx hb dX6_taskAt_152 (by decide) ?_
                      exact w_X6_taskAt_153 G _ _ hF H locs ls hW (lv_sub hl [] rfl)
                    · replace hF := o_f hc hF
                      refine lv_iconst (v := 1) hx hb dX6_taskAt_148 (by decide) ?_
                      refine lv_goto (tgt := 153) hx hb dX6_taskAt_149 (by decide) ?_
                      exact w_X6_taskAt_153 G _ _ hF H locs ls hW (lv_sub hl [] rfl)
                  · replace hF := o_f n7 hF
                    by_cases n8 : v2 = 8
                    · replace hF := o_t n8 hF
                      refine lv_tableIn (tgt := 154) (off := 143) hx hb dX6_taskAt_11 (by rw [n8]; decide) (by rw [n8]; decide) (by rw [n8]; rfl) (by decide) ?_
                      refine lv_aload_n hx hb dX6_taskAt_154 rfl (lv_at hl 0 rfl) ?_
                      refine gg_X6_25 G hW (by decide) dX6_taskAt_155 ?_
                      refine lv_iload_n hx hb dX6_taskAt_158 rfl (lv_at hl 1 rfl) ?_
                      obtain ⟨x12, hx12, hF⟩ := o_b hF
                      refine g_aI (φ := 26) G rfl rfl (by decide) rfl hW (by decide) hx12 dX6_taskAt_159 ?_
                      exact g_iret G hW hF dX6_taskAt_160
                    · replace hF := o_f n8 hF
                      by_cases n9 : v2 = 9
                      · replace hF := o_t n9 hF
                        refine lv_tableIn (tgt := 161) (off := 150) hx hb dX6_taskAt_11 (by rw [n9]; decide) (by rw [n9]; decide) (by rw [n9]; rfl) (by decide) ?_
                        refine lv_aload_n hx hb dX6_taskAt_161 rfl (lv_at hl 0 rfl) ?_
                        refine gg_X6_43 G hW (by decide) dX6_taskAt_162 ?_
                        refine lv_iload_n hx hb dX6_taskAt_165 rfl (lv_at hl 1 rfl) ?_
                        obtain ⟨x13, hx13, hF⟩ := o_b hF
                        refine g_aI (φ := 32) G rfl rfl (by decide) rfl hW (by decide) hx13 dX6_taskAt_166 ?_
                        exact g_iret G hW hF dX6_taskAt_167
                      · replace hF := o_f n9 hF
                        refine lv_tableOut (tgt := 168) hx hb dX6_taskAt_11 (t_out 0 9 (fun z h1 h2 => by have hz : z = 0 ∨ z = 1 ∨ z = 2 ∨ z = 3 ∨ z = 4 ∨ z = 5 ∨ z = 6 ∨ z = 7 ∨ z = 8 ∨ z = 9 := (by omega); rcases hz with rfl | rfl | rfl | rfl | rfl | rfl | rfl | rfl | rfl | rfl <;> assumption)) (by decide) ?_
                        refine lv_bipush (v := -2) hx hb dX6_taskAt_168 (by decide) ?_
                        exact g_iret G hW hF dX6_taskAt_170
  · replace hF := o_f hc hF
    refine lv_iconst (v := -1) hx hb dX6_taskAt_8 (by decide) ?_
    exact g_iret G hW hF dX6_taskAt_9
end WX6_taskAt
theorem c_X6_taskAt {l : Launch} {D : va_G} {dA : Nat → ClassId} {α : Nat → Nat → Nat} (hI : Inj 1 α) {v1 : Int32} {v2 : Int32} {σ σz : sm_M} {r : Int32} (hF : f_X6_taskAt v1 v2 σ = some (r, σz)) : gM l D dA 1 α yX6_taskAt cX6_taskAt 3 (some .int) 2 [.ref (α 20 0), .int v1, .int v2] σ (some (.int r)) σz :=
  g_met hI (by decide +kernel) (Nat.le_of_ble_eq_true rfl) (fun p e s m below meth c ls G hW hl => w_X6_taskAt_0 G _ _ _ hF _ _ _ hW hl)
section KX6_taskAt
variable {p : Program} {l : Launch} {e : Env} {R : Room} {s : State} {m : MethodId} {args : Array Value} {below : List Frame} {meth : Method} {c : Code} {H : Heap} {locs : List Loc} {cells slots : Nat} {Q : State → Prop}
variable {cc : ByteArray} {pc nL Z : Nat} {ls : Array Slot} {rest : List Value} {D : va_G} {dA : Nat → ClassId} {α : Nat → Nat → Nat} {H0 : Heap} {σ σ' : sm_M} {ret : Option FieldType} {own nm : String}
end KX6_taskAt
section WX6_channelAt
variable {p : Program} {l : Launch} {e : Env} {s : State} {m : MethodId} {args : Array Value} {below : List Frame} {meth : Method} {c : Code} {D : va_G} {dA : Nat → ClassId} {α : Nat → Nat → Nat}
set_option maxHeartbeats 4000000 in
set_option maxRecDepth 100000 in
theorem w_X6_channelAt_154 (G : gx p s m meth c args cX6_channelAt 3 (some .int) RX6 "channelAt" D dA) {r : Int32} {σz : sm_M} : ∀ (s0 : Int32) (σ : sm_M), f_X6_channelAt_154 s0 σ = some (r, σz) → ∀ (H : Heap) (locs : List Loc) (ls : Array Slot), Wd D dA 1 α s.heap σ H locs → lv_has ls 3 [] → gW 2 p l e s m args below meth c D dA 1 α (some (.int r)) σz H locs (F0 m 154 ls [.int s0]) := by
  obtain ⟨hx, hb, hr, hlk, hml, hown, hnm, hts, hK, hNw⟩ := id G
  intro s0 σ hF H locs ls hW hl
  rw [f_X6_channelAt_154] at hF
  exact g_iret G hW hF dX6_channelAt_154
set_option maxHeartbeats 4000000 in
set_option maxRecDepth 100000 in
theorem w_X6_channelAt_136 (G : gx p s m meth c args cX6_channelAt 3 (some .int) RX6 "channelAt" D dA) {r : Int32} {σz : sm_M} : ∀ (s0 : Int32) (σ : sm_M), f_X6_channelAt_136 s0 σ = some (r, σz) → ∀ (H : Heap) (locs : List Loc) (ls : Array Slot), Wd D dA 1 α s.heap σ H locs → lv_has ls 3 [] → gW 2 p l e s m args below meth c D dA 1 α (some (.int r)) σz H locs (F0 m 136 ls [.int s0]) := by
  obtain ⟨hx, hb, hr, hlk, hml, hown, hnm, hts, hK, hNw⟩ := id G
  intro s0 σ hF H locs ls hW hl
  rw [f_X6_channelAt_136] at hF
  exact g_iret G hW hF dX6_channelAt_136
set_option maxHeartbeats 4000000 in
set_option maxRecDepth 100000 in
theorem w_X6_channelAt_88 (G : gx p s m meth c args cX6_channelAt 3 (some .int) RX6 "channelAt" D dA) {r : Int32} {σz : sm_M} : ∀ (s0 : Int32) (σ : sm_M), f_X6_channelAt_88 s0 σ = some (r, σz) → ∀ (H : Heap) (locs : List Loc) (ls : Array Slot), Wd D dA 1 α s.heap σ H locs → lv_has ls 3 [] → gW 2 p l e s m args below meth c D dA 1 α (some (.int r)) σz H locs (F0 m 88 ls [.int s0]) := by
  obtain ⟨hx, hb, hr, hlk, hml, hown, hnm, hts, hK, hNw⟩ := id G
  intro s0 σ hF H locs ls hW hl
  rw [f_X6_channelAt_88] at hF
  exact g_iret G hW hF dX6_channelAt_88
set_option maxHeartbeats 4000000 in
set_option maxRecDepth 100000 in
theorem w_X6_channelAt_0 (G : gx p s m meth c args cX6_channelAt 3 (some .int) RX6 "channelAt" D dA) {r : Int32} {σz : sm_M} : ∀ (v1 : Int32) (v2 : Int32) (σ : sm_M), f_X6_channelAt v1 v2 σ = some (r, σz) → ∀ (H : Heap) (locs : List Loc) (ls : Array Slot), Wd D dA 1 α s.heap σ H locs → lv_has ls 3 [(0, .ref (α 20 0)), (1, .int v1), (2, .int v2)] → gW 2 p l e s m args below meth c D dA 1 α (some (.int r)) σz H locs (F0 m 0 ls []) := by
  obtain ⟨hx, hb, hr, hlk, hml, hown, hnm, hts, hK, hNw⟩ := id G
  intro v1 v2 σ hF H locs ls hW hl
  rw [f_X6_channelAt] at hF
  refine lv_aload_n hx hb dX6_channelAt_0 rfl (lv_at hl 0 rfl) ?_
  refine lv_iload_n hx hb dX6_channelAt_1 rfl (lv_at hl 1 rfl) ?_
  obtain ⟨q1, hq1, hF⟩ := o_b hF
  refine kk_X6_249 G hW hq1 hl.1 ⟨Nat.le_of_ble_eq_true rfl, Nat.le_of_ble_eq_true rfl⟩ ⟨Nat.le_refl _, Nat.le_refl _⟩ (Nat.le_of_ble_eq_true rfl) dX6_channelAt_2 (fun H locs hW => ?_)
  refine lv_if_eq (tgt := 10) hx hb dX6_channelAt_5 (by decide) (fun hc => ?_) (fun hc => ?_)
  · replace hF := o_t hc hF
    refine lv_iload_n hx hb dX6_channelAt_10 rfl (lv_at hl 2 rfl) ?_
    by_cases n0 : v2 = 0
    · replace hF := o_t n0 hF
      refine lv_tableIn (tgt := 60) (off := 49) hx hb dX6_channelAt_11 (by rw [n0]; decide) (by rw [n0]; decide) (by rw [n0]; rfl) (by decide) ?_
      refine lv_aload_n hx hb dX6_channelAt_60 rfl (lv_at hl 0 rfl) ?_
      refine gg_X6_49 G hW (by decide) dX6_channelAt_61 ?_
      refine lv_iload_n hx hb dX6_channelAt_64 rfl (lv_at hl 1 rfl) ?_
      obtain ⟨x2, hx2, hF⟩ := o_b hF
      refine g_aI (φ := 34) G rfl rfl (by decide) rfl hW (by decide) hx2 dX6_channelAt_65 ?_
      exact g_iret G hW hF dX6_channelAt_66
    · replace hF := o_f n0 hF
      by_cases n1 : v2 = 1
      · replace hF := o_t n1 hF
        refine lv_tableIn (tgt := 67) (off := 56) hx hb dX6_channelAt_11 (by rw [n1]; decide) (by rw [n1]; decide) (by rw [n1]; rfl) (by decide) ?_
        refine lv_aload_n hx hb dX6_channelAt_67 rfl (lv_at hl 0 rfl) ?_
        refine gg_X6_52 G hW (by decide) dX6_channelAt_68 ?_
        refine lv_iload_n hx hb dX6_channelAt_71 rfl (lv_at hl 1 rfl) ?_
        obtain ⟨x3, hx3, hF⟩ := o_b hF
        refine g_aI (φ := 35) G rfl rfl (by decide) rfl hW (by decide) hx3 dX6_channelAt_72 ?_
        exact g_iret G hW hF dX6_channelAt_73
      · replace hF := o_f n1 hF
        by_cases n2 : v2 = 2
        · replace hF := o_t n2 hF
          refine lv_tableIn (tgt := 74) (off := 63) hx hb dX6_channelAt_11 (by rw [n2]; decide) (by rw [n2]; decide) (by rw [n2]; rfl) (by decide) ?_
          refine lv_aload_n hx hb dX6_channelAt_74 rfl (lv_at hl 0 rfl) ?_
          refine gg_X6_55 G hW (by decide) dX6_channelAt_75 ?_
          refine lv_iload_n hx hb dX6_channelAt_78 rfl (lv_at hl 1 rfl) ?_
          obtain ⟨x4, hx4, hF⟩ := o_b hF
          refine g_aZ (φ := 36) G rfl rfl (by decide) rfl hW (by decide) hx4 dX6_channelAt_79 ?_
          refine lv_if_eq (tgt := 87) hx hb dX6_channelAt_80 (by decide) (fun hc => ?_) (fun hc => ?_)
          · replace hF := o_t hc hF
            refine lv_iconst (v := 0) hx hb dX6_channelAt_87 (by decide) ?_
            exact w_X6_channelAt_88 G _ _ hF H locs ls hW (lv_sub hl [] rfl)
          · replace hF := o_f hc hF
            refine lv_iconst (v := 1) hx hb dX6_channelAt_83 (by decide) ?_
            refine lv_goto (tgt := 88) hx hb dX6_channelAt_84 (by decide) ?_
            exact w_X6_channelAt_88 G _ _ hF H locs ls hW (lv_sub hl [] rfl)
        · replace hF := o_f n2 hF
          by_cases n3 : v2 = 3
          · replace hF := o_t n3 hF
            refine lv_tableIn (tgt := 89) (off := 78) hx hb dX6_channelAt_11 (by rw [n3]; decide) (by rw [n3]; decide) (by rw [n3]; rfl) (by decide) ?_
            refine lv_aload_n hx hb dX6_channelAt_89 rfl (lv_at hl 0 rfl) ?_
            refine gg_X6_62 G hW (by decide) dX6_channelAt_90 ?_
            refine lv_iload_n hx hb dX6_channelAt_93 rfl (lv_at hl 1 rfl) ?_
            obtain ⟨x5, hx5, hF⟩ := o_b hF
            refine g_aI (φ := 38) G rfl rfl (by decide) rfl hW (by decide) hx5 dX6_channelAt_94 ?_
            exact g_iret G hW hF dX6_channelAt_95
          · replace hF := o_f n3 hF
            by_cases n4 : v2 = 4
            · replace hF := o_t n4 hF
              refine lv_tableIn (tgt := 96) (off := 85) hx hb dX6_channelAt_11 (by rw [n4]; decide) (by rw [n4]; decide) (by rw [n4]; rfl) (by decide) ?_
              refine lv_aload_n hx hb dX6_channelAt_96 rfl (lv_at hl 0 rfl) ?_
              refine gg_X6_65 G hW (by decide) dX6_channelAt_97 ?_
              refine lv_iload_n hx hb dX6_channelAt_100 rfl (lv_at hl 1 rfl) ?_
              obtain ⟨x6, hx6, hF⟩ := o_b hF
              refine g_aI (φ := 39) G rfl rfl (by decide) rfl hW (by decide) hx6 dX6_channelAt_101 ?_
              exact g_iret G hW hF dX6_channelAt_102
            · replace hF := o_f n4 hF
              by_cases n5 : v2 = 5
              · replace hF := o_t n5 hF
                refine lv_tableIn (tgt := 103) (off := 92) hx hb dX6_channelAt_11 (by rw [n5]; decide) (by rw [n5]; decide) (by rw [n5]; rfl) (by decide) ?_
                refine lv_aload_n hx hb dX6_channelAt_103 rfl (lv_at hl 0 rfl) ?_
                refine gg_X6_68 G hW (by decide) dX6_channelAt_104 ?_
                refine lv_iload_n hx hb dX6_channelAt_107 rfl (lv_at hl 1 rfl) ?_
                obtain ⟨x7, hx7, hF⟩ := o_b hF
                refine g_aI (φ := 40) G rfl rfl (by decide) rfl hW (by decide) hx7 dX6_channelAt_108 ?_
                exact g_iret G hW hF dX6_channelAt_109
              · replace hF := o_f n5 hF
                by_cases n6 : v2 = 6
                · replace hF := o_t n6 hF
                  refine lv_tableIn (tgt := 110) (off := 99) hx hb dX6_channelAt_11 (by rw [n6]; decide) (by rw [n6]; decide) (by rw [n6]; rfl) (by decide) ?_
                  refine lv_aload_n hx hb dX6_channelAt_110 rfl (lv_at hl 0 rfl) ?_
                  refine gg_X6_74 G hW (by decide) dX6_channelAt_111 ?_
                  refine lv_iload_n hx hb dX6_channelAt_114 rfl (lv_at hl 1 rfl) ?_
                  obtain ⟨x8, hx8, hF⟩ := o_b hF
                  refine g_aZ (φ := 42) G rfl rfl (by decide) rfl hW (by decide) hx8 dX6_channelAt_115 ?_
                  refine lv_if_eq (tgt := 135) hx hb dX6_channelAt_116 (by decide) (fun hc => ?_) (fun hc => ?_)
                  · replace hF := o_t hc hF
                    refine lv_iconst (v := 0) hx hb dX6_channelAt_135 (by decide) ?_
                    exact w_X6_channelAt_136 G _ _ hF H locs ls hW (lv_sub hl [] rfl)
                  · replace hF := o_f hc hF
                    refine lv_aload_n hx hb dX6_channelAt_119 rfl (lv_at hl 0 rfl) ?_
                    refine gg_X6_77 G hW (by decide) dX6_channelAt_120 ?_
                    refine lv_iload_n hx hb dX6_channelAt_123 rfl (lv_at hl 1 rfl) ?_
                    obtain ⟨x9, hx9, hF⟩ := o_b hF
                    refine g_aI (φ := 43) G rfl rfl (by decide) rfl hW (by decide) hx9 dX6_channelAt_124 ?_
                    refine lv_aload_n hx hb dX6_channelAt_125 rfl (lv_at hl 0 rfl) ?_
                    refine gg_X6_89 G hW (by decide) dX6_channelAt_126 ?_
                    refine lv_iload_n hx hb dX6_channelAt_129 rfl (lv_at hl 1 rfl) ?_
                    obtain ⟨x10, hx10, hF⟩ := o_b hF
                    refine g_aI (φ := 47) G rfl rfl (by decide) rfl hW (by decide) hx10 dX6_channelAt_130 ?_
                    refine lv_isub hx hb dX6_channelAt_131 ?_
                    refine lv_goto (tgt := 136) hx hb dX6_channelAt_132 (by decide) ?_
                    exact w_X6_channelAt_136 G _ _ hF H locs ls hW (lv_sub hl [] rfl)
                · replace hF := o_f n6 hF
                  by_cases n7 : v2 = 7
                  · replace hF := o_t n7 hF
                    refine lv_tableIn (tgt := 137) (off := 126) hx hb dX6_channelAt_11 (by rw [n7]; decide) (by rw [n7]; decide) (by rw [n7]; rfl) (by decide) ?_
                    refine lv_aload_n hx hb dX6_channelAt_137 rfl (lv_at hl 0 rfl) ?_
                    obtain ⟨q11, hq11, hF⟩ := o_b hF
                    refine kk_X6_198 G hW hq11 hl.1 ⟨Nat.le_of_ble_eq_true rfl, Nat.le_of_ble_eq_true rfl⟩ ⟨Nat.le_refl _, Nat.le_refl _⟩ (Nat.le_of_ble_eq_true rfl) dX6_channelAt_138 (fun H locs hW => ?_)
                    refine lv_aload_n hx hb dX6_channelAt_141 rfl (lv_at hl 0 rfl) ?_
                    refine lv_iload_n hx hb dX6_channelAt_142 rfl (lv_at hl 1 rfl) ?_
                    obtain ⟨q12, hq12, hF⟩ := o_b hF
                    refine kk_X6_180 G hW hq12 hl.1 ⟨Nat.le_of_ble_eq_true rfl, Nat.le_of_ble_eq_true rfl⟩ ⟨Nat.le_refl _, Nat.le_refl _⟩ (Nat.le_of_ble_eq_true rfl) dX6_channelAt_143 (fun H locs hW => ?_)
                    refine lv_if_eq (tgt := 153) hx hb dX6_channelAt_146 (by decide) (fun hc => ?_) (fun hc => ?_)
                    · replace hF := o_t hc hF
                      refine lv_iconst (v := 0) hx hb dX6_channelAt_153 (by decide) ?_
                      exact w_X6_channelAt_154 G _ _ hF H locs ls hW (lv_sub hl [] rfl)
                    · replace hF := o_f hc hF
                      refine lv_iconst (v := 1) hx hb dX6_channelAt_149 (by decide) ?_
                      refine lv_goto (tgt := 154) hx hb dX6_channelAt_150 (by decide) ?_
                      exact w_X6_channelAt_154 G _ _ hF H locs ls hW (lv_sub hl [] rfl)
                  · replace hF := o_f n7 hF
                    by_cases n8 : v2 = 8
                    · replace hF := o_t n8 hF
                      refine lv_tableIn (tgt := 155) (off := 144) hx hb dX6_channelAt_11 (by rw [n8]; decide) (by rw [n8]; decide) (by rw [n8]; rfl) (by decide) ?_
                      refine lv_aload_n hx hb dX6_channelAt_155 rfl (lv_at hl 0 rfl) ?_
                      refine gg_X6_71 G hW (by decide) dX6_channelAt_156 ?_
                      refine lv_iload_n hx hb dX6_channelAt_159 rfl (lv_at hl 1 rfl) ?_
                      obtain ⟨x13, hx13, hF⟩ := o_b hF
                      refine g_aI (φ := 41) G rfl rfl (by decide) rfl hW (by decide) hx13 dX6_channelAt_160 ?_
                      exact g_iret G hW hF dX6_channelAt_161
                    · replace hF := o_f n8 hF
                      refine lv_tableOut (tgt := 162) hx hb dX6_channelAt_11 (t_out 0 8 (fun z h1 h2 => by have hz : z = 0 ∨ z = 1 ∨ z = 2 ∨ z = 3 ∨ z = 4 ∨ z = 5 ∨ z = 6 ∨ z = 7 ∨ z = 8 := (by omega); rcases hz with rfl | rfl | rfl | rfl | rfl | rfl | rfl | rfl | rfl <;> assumption)) (by decide) ?_
                      refine lv_bipush (v := -2) hx hb dX6_channelAt_162 (by decide) ?_
                      exact g_iret G hW hF dX6_channelAt_164
  · replace hF := o_f hc hF
    refine lv_iconst (v := -1) hx hb dX6_channelAt_8 (by decide) ?_
    exact g_iret G hW hF dX6_channelAt_9
end WX6_channelAt
theorem c_X6_channelAt {l : Launch} {D : va_G} {dA : Nat → ClassId} {α : Nat → Nat → Nat} (hI : Inj 1 α) {v1 : Int32} {v2 : Int32} {σ σz : sm_M} {r : Int32} (hF : f_X6_channelAt v1 v2 σ = some (r, σz)) : gM l D dA 1 α yX6_channelAt cX6_channelAt 3 (some .int) 2 [.ref (α 20 0), .int v1, .int v2] σ (some (.int r)) σz :=
  g_met hI (by decide +kernel) (Nat.le_of_ble_eq_true rfl) (fun p e s m below meth c ls G hW hl => w_X6_channelAt_0 G _ _ _ hF _ _ _ hW hl)
section KX6_channelAt
variable {p : Program} {l : Launch} {e : Env} {R : Room} {s : State} {m : MethodId} {args : Array Value} {below : List Frame} {meth : Method} {c : Code} {H : Heap} {locs : List Loc} {cells slots : Nat} {Q : State → Prop}
variable {cc : ByteArray} {pc nL Z : Nat} {ls : Array Slot} {rest : List Value} {D : va_G} {dA : Nat → ClassId} {α : Nat → Nat → Nat} {H0 : Heap} {σ σ' : sm_M} {ret : Option FieldType} {own nm : String}
end KX6_channelAt
section WX6_row
variable {p : Program} {l : Launch} {e : Env} {s : State} {m : MethodId} {args : Array Value} {below : List Frame} {meth : Method} {c : Code} {D : va_G} {dA : Nat → ClassId} {α : Nat → Nat → Nat}
set_option maxHeartbeats 4000000 in
set_option maxRecDepth 100000 in
theorem w_X6_row_42 (G : gx p s m meth c args cX6_row 3 (some .int) RX6 "row" D dA) {r : Int32} {σz : sm_M} : ∀ (s0 : Int32) (σ : sm_M), f_X6_row_42 s0 σ = some (r, σz) → ∀ (H : Heap) (locs : List Loc) (ls : Array Slot), Wd D dA 1 α s.heap σ H locs → lv_has ls 3 [] → gW 2 p l e s m args below meth c D dA 1 α (some (.int r)) σz H locs (F0 m 42 ls [.int s0]) := by
  obtain ⟨hx, hb, hr, hlk, hml, hown, hnm, hts, hK, hNw⟩ := id G
  intro s0 σ hF H locs ls hW hl
  rw [f_X6_row_42] at hF
  exact g_iret G hW hF dX6_row_42
set_option maxHeartbeats 4000000 in
set_option maxRecDepth 100000 in
theorem w_X6_row_0 (G : gx p s m meth c args cX6_row 3 (some .int) RX6 "row" D dA) {r : Int32} {σz : sm_M} : ∀ (v1 : Int32) (v2 : Int32) (σ : sm_M), f_X6_row v1 v2 σ = some (r, σz) → ∀ (H : Heap) (locs : List Loc) (ls : Array Slot), Wd D dA 1 α s.heap σ H locs → lv_has ls 3 [(0, .ref (α 20 0)), (1, .int v1), (2, .int v2)] → gW 2 p l e s m args below meth c D dA 1 α (some (.int r)) σz H locs (F0 m 0 ls []) := by
  obtain ⟨hx, hb, hr, hlk, hml, hown, hnm, hts, hK, hNw⟩ := id G
  intro v1 v2 σ hF H locs ls hW hl
  rw [f_X6_row] at hF
  refine lv_aload_n hx hb dX6_row_0 rfl (lv_at hl 0 rfl) ?_
  refine lv_iload_n hx hb dX6_row_1 rfl (lv_at hl 1 rfl) ?_
  obtain ⟨q1, hq1, hF⟩ := o_b hF
  refine kk_X6_249 G hW hq1 hl.1 ⟨Nat.le_of_ble_eq_true rfl, Nat.le_of_ble_eq_true rfl⟩ ⟨Nat.le_refl _, Nat.le_refl _⟩ (Nat.le_of_ble_eq_true rfl) dX6_row_2 (fun H locs hW => ?_)
  refine lv_if_eq (tgt := 10) hx hb dX6_row_5 (by decide) (fun hc => ?_) (fun hc => ?_)
  · replace hF := o_t hc hF
    refine lv_iload_n hx hb dX6_row_10 rfl (lv_at hl 2 rfl) ?_
    refine lv_iconst (v := 0) hx hb dX6_row_11 (by decide) ?_
    refine lv_aload_n hx hb dX6_row_12 rfl (lv_at hl 0 rfl) ?_
    refine gg_X6_62 G hW (by decide) dX6_row_13 ?_
    refine lv_iload_n hx hb dX6_row_16 rfl (lv_at hl 1 rfl) ?_
    obtain ⟨x2, hx2, hF⟩ := o_b hF
    refine g_aI (φ := 38) G rfl rfl (by decide) rfl hW (by decide) hx2 dX6_row_17 ?_
    refine lv_iconst (v := 1) hx hb dX6_row_18 (by decide) ?_
    refine lv_isub hx hb dX6_row_19 ?_
    obtain ⟨q3, hq3, hF⟩ := o_b hF
    refine kk_X6_169 G hW hq3 hl.1 ⟨Nat.le_of_ble_eq_true rfl, Nat.le_of_ble_eq_true rfl⟩ ⟨Nat.le_refl _, Nat.le_refl _⟩ (Nat.le_of_ble_eq_true rfl) dX6_row_20 (fun H locs hW => ?_)
    refine lv_if_eq (tgt := 40) hx hb dX6_row_23 (by decide) (fun hc => ?_) (fun hc => ?_)
    · replace hF := o_t hc hF
      refine lv_bipush (v := -9) hx hb dX6_row_40 (by decide) ?_
      exact w_X6_row_42 G _ _ hF H locs ls hW (lv_sub hl [] rfl)
    · replace hF := o_f hc hF
      refine lv_aload_n hx hb dX6_row_26 rfl (lv_at hl 0 rfl) ?_
      refine gg_X6_59 G hW (by decide) dX6_row_27 ?_
      refine lv_bipush (v := 64) hx hb dX6_row_30 (by decide) ?_
      refine lv_iload_n hx hb dX6_row_32 rfl (lv_at hl 1 rfl) ?_
      refine lv_imul hx hb dX6_row_33 ?_
      refine lv_iload_n hx hb dX6_row_34 rfl (lv_at hl 2 rfl) ?_
      refine lv_iadd hx hb dX6_row_35 ?_
      obtain ⟨x4, hx4, hF⟩ := o_b hF
      refine g_aI (φ := 37) G rfl rfl (by decide) rfl hW (by decide) hx4 dX6_row_36 ?_
      refine lv_goto (tgt := 42) hx hb dX6_row_37 (by decide) ?_
      exact w_X6_row_42 G _ _ hF H locs ls hW (lv_sub hl [] rfl)
  · replace hF := o_f hc hF
    refine lv_iconst (v := -1) hx hb dX6_row_8 (by decide) ?_
    exact g_iret G hW hF dX6_row_9
end WX6_row
theorem c_X6_row {l : Launch} {D : va_G} {dA : Nat → ClassId} {α : Nat → Nat → Nat} (hI : Inj 1 α) {v1 : Int32} {v2 : Int32} {σ σz : sm_M} {r : Int32} (hF : f_X6_row v1 v2 σ = some (r, σz)) : gM l D dA 1 α yX6_row cX6_row 3 (some .int) 2 [.ref (α 20 0), .int v1, .int v2] σ (some (.int r)) σz :=
  g_met hI (by decide +kernel) (Nat.le_of_ble_eq_true rfl) (fun p e s m below meth c ls G hW hl => w_X6_row_0 G _ _ _ hF _ _ _ hW hl)
section KX6_row
variable {p : Program} {l : Launch} {e : Env} {R : Room} {s : State} {m : MethodId} {args : Array Value} {below : List Frame} {meth : Method} {c : Code} {H : Heap} {locs : List Loc} {cells slots : Nat} {Q : State → Prop}
variable {cc : ByteArray} {pc nL Z : Nat} {ls : Array Slot} {rest : List Value} {D : va_G} {dA : Nat → ClassId} {α : Nat → Nat → Nat} {H0 : Heap} {σ σ' : sm_M} {ret : Option FieldType} {own nm : String}
end KX6_row
section WX6_out
variable {p : Program} {l : Launch} {e : Env} {s : State} {m : MethodId} {args : Array Value} {below : List Frame} {meth : Method} {c : Code} {D : va_G} {dA : Nat → ClassId} {α : Nat → Nat → Nat}
set_option maxHeartbeats 4000000 in
set_option maxRecDepth 100000 in
theorem w_X6_out_43 (G : gx p s m meth c args cX6_out 3 (some .int) RX6 "out" D dA) {r : Int32} {σz : sm_M} : ∀ (s0 : Int32) (σ : sm_M), f_X6_out_43 s0 σ = some (r, σz) → ∀ (H : Heap) (locs : List Loc) (ls : Array Slot), Wd D dA 1 α s.heap σ H locs → lv_has ls 3 [] → gW 2 p l e s m args below meth c D dA 1 α (some (.int r)) σz H locs (F0 m 43 ls [.int s0]) := by
  obtain ⟨hx, hb, hr, hlk, hml, hown, hnm, hts, hK, hNw⟩ := id G
  intro s0 σ hF H locs ls hW hl
  rw [f_X6_out_43] at hF
  exact g_iret G hW hF dX6_out_43
set_option maxHeartbeats 4000000 in
set_option maxRecDepth 100000 in
theorem w_X6_out_0 (G : gx p s m meth c args cX6_out 3 (some .int) RX6 "out" D dA) {r : Int32} {σz : sm_M} : ∀ (v1 : Int32) (v2 : Int32) (σ : sm_M), f_X6_out v1 v2 σ = some (r, σz) → ∀ (H : Heap) (locs : List Loc) (ls : Array Slot), Wd D dA 1 α s.heap σ H locs → lv_has ls 3 [(0, .ref (α 20 0)), (1, .int v1), (2, .int v2)] → gW 2 p l e s m args below meth c D dA 1 α (some (.int r)) σz H locs (F0 m 0 ls []) := by
  obtain ⟨hx, hb, hr, hlk, hml, hown, hnm, hts, hK, hNw⟩ := id G
  intro v1 v2 σ hF H locs ls hW hl
  rw [f_X6_out] at hF
  refine lv_aload_n hx hb dX6_out_0 rfl (lv_at hl 0 rfl) ?_
  refine lv_iload_n hx hb dX6_out_1 rfl (lv_at hl 1 rfl) ?_
  obtain ⟨q1, hq1, hF⟩ := o_b hF
  refine kk_X6_177 G hW hq1 hl.1 ⟨Nat.le_of_ble_eq_true rfl, Nat.le_of_ble_eq_true rfl⟩ ⟨Nat.le_refl _, Nat.le_refl _⟩ (Nat.le_of_ble_eq_true rfl) dX6_out_2 (fun H locs hW => ?_)
  refine lv_if_eq (tgt := 10) hx hb dX6_out_5 (by decide) (fun hc => ?_) (fun hc => ?_)
  · replace hF := o_t hc hF
    refine lv_iload_n hx hb dX6_out_10 rfl (lv_at hl 2 rfl) ?_
    refine lv_iconst (v := 0) hx hb dX6_out_11 (by decide) ?_
    refine lv_aload_n hx hb dX6_out_12 rfl (lv_at hl 0 rfl) ?_
    refine gg_X6_25 G hW (by decide) dX6_out_13 ?_
    refine lv_iload_n hx hb dX6_out_16 rfl (lv_at hl 1 rfl) ?_
    obtain ⟨x2, hx2, hF⟩ := o_b hF
    refine g_aI (φ := 26) G rfl rfl (by decide) rfl hW (by decide) hx2 dX6_out_17 ?_
    refine lv_iconst (v := 1) hx hb dX6_out_18 (by decide) ?_
    refine lv_isub hx hb dX6_out_19 ?_
    obtain ⟨q3, hq3, hF⟩ := o_b hF
    refine kk_X6_169 G hW hq3 hl.1 ⟨Nat.le_of_ble_eq_true rfl, Nat.le_of_ble_eq_true rfl⟩ ⟨Nat.le_refl _, Nat.le_refl _⟩ (Nat.le_of_ble_eq_true rfl) dX6_out_20 (fun H locs hW => ?_)
    refine lv_if_eq (tgt := 41) hx hb dX6_out_23 (by decide) (fun hc => ?_) (fun hc => ?_)
    · replace hF := o_t hc hF
      refine lv_bipush (v := -9) hx hb dX6_out_41 (by decide) ?_
      exact w_X6_out_43 G _ _ hF H locs ls hW (lv_sub hl [] rfl)
    · replace hF := o_f hc hF
      refine lv_aload_n hx hb dX6_out_26 rfl (lv_at hl 0 rfl) ?_
      refine gg_X6_28 G hW (by decide) dX6_out_27 ?_
      refine lv_sipush (v := 200) hx hb dX6_out_30 (by decide) ?_
      refine lv_iload_n hx hb dX6_out_33 rfl (lv_at hl 1 rfl) ?_
      refine lv_imul hx hb dX6_out_34 ?_
      refine lv_iload_n hx hb dX6_out_35 rfl (lv_at hl 2 rfl) ?_
      refine lv_iadd hx hb dX6_out_36 ?_
      obtain ⟨x4, hx4, hF⟩ := o_b hF
      refine g_aI (φ := 27) G rfl rfl (by decide) rfl hW (by decide) hx4 dX6_out_37 ?_
      refine lv_goto (tgt := 43) hx hb dX6_out_38 (by decide) ?_
      exact w_X6_out_43 G _ _ hF H locs ls hW (lv_sub hl [] rfl)
  · replace hF := o_f hc hF
    refine lv_iconst (v := -1) hx hb dX6_out_8 (by decide) ?_
    exact g_iret G hW hF dX6_out_9
end WX6_out
theorem c_X6_out {l : Launch} {D : va_G} {dA : Nat → ClassId} {α : Nat → Nat → Nat} (hI : Inj 1 α) {v1 : Int32} {v2 : Int32} {σ σz : sm_M} {r : Int32} (hF : f_X6_out v1 v2 σ = some (r, σz)) : gM l D dA 1 α yX6_out cX6_out 3 (some .int) 2 [.ref (α 20 0), .int v1, .int v2] σ (some (.int r)) σz :=
  g_met hI (by decide +kernel) (Nat.le_of_ble_eq_true rfl) (fun p e s m below meth c ls G hW hl => w_X6_out_0 G _ _ _ hF _ _ _ hW hl)
section KX6_out
variable {p : Program} {l : Launch} {e : Env} {R : Room} {s : State} {m : MethodId} {args : Array Value} {below : List Frame} {meth : Method} {c : Code} {H : Heap} {locs : List Loc} {cells slots : Nat} {Q : State → Prop}
variable {cc : ByteArray} {pc nL Z : Nat} {ls : Array Slot} {rest : List Value} {D : va_G} {dA : Nat → ClassId} {α : Nat → Nat → Nat} {H0 : Heap} {σ σ' : sm_M} {ret : Option FieldType} {own nm : String}
end KX6_out
