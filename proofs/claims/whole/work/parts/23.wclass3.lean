section WX5_failAlone
variable {p : Program} {l : Launch} {e : Env} {s : State} {m : MethodId} {args : Array Value} {below : List Frame} {meth : Method} {c : Code} {D : va_G} {dA : Nat → ClassId} {α : Nat → Nat → Nat}
set_option maxHeartbeats 4000000 in
set_option maxRecDepth 100000 in
theorem w_X5_failAlone_28 (G : gx p s m meth c args cX5_failAlone 4 (some .int) RX5 "failAlone" D dA) {r : Int32} {σz : sm_M} : ∀ (s0 : Int32) (σ : sm_M), f_X5_failAlone_28 s0 σ = some (r, σz) → ∀ (H : Heap) (locs : List Loc) (ls : Array Slot), Wd D dA 0 α s.heap σ H locs → lv_has ls 4 [] → gW 5 p l e s m args below meth c D dA 0 α (some (.int r)) σz H locs (F0 m 28 ls [.int s0]) := by
  obtain ⟨hx, hb, hr, hlk, hml, hown, hnm, hts, hK, hNw⟩ := id G
  intro s0 σ hF H locs ls hW hl
  rw [f_X5_failAlone_28] at hF
  exact g_iret G hW hF dX5_failAlone_28
set_option maxHeartbeats 4000000 in
set_option maxRecDepth 100000 in
theorem w_X5_failAlone_0 (G : gx p s m meth c args cX5_failAlone 4 (some .int) RX5 "failAlone" D dA) {r : Int32} {σz : sm_M} : ∀ (v1 : Int32) (v2 : Int32) (σ : sm_M), f_X5_failAlone v1 v2 σ = some (r, σz) → ∀ (H : Heap) (locs : List Loc) (ls : Array Slot), Wd D dA 0 α s.heap σ H locs → lv_has ls 4 [(0, .ref (α 0 0)), (1, .int v1), (2, .int v2)] → gW 5 p l e s m args below meth c D dA 0 α (some (.int r)) σz H locs (F0 m 0 ls []) := by
  obtain ⟨hx, hb, hr, hlk, hml, hown, hnm, hts, hK, hNw⟩ := id G
  intro v1 v2 σ hF H locs ls hW hl
  rw [f_X5_failAlone] at hF
  refine lv_aload_n hx hb dX5_failAlone_0 rfl (lv_at hl 0 rfl) ?_
  refine lv_iconst (v := 1) hx hb dX5_failAlone_1 (by decide) ?_
  refine lv_iload_n hx hb dX5_failAlone_2 rfl (lv_at hl 1 rfl) ?_
  refine lv_ishl hx hb dX5_failAlone_3 ?_
  refine lv_iload_n hx hb dX5_failAlone_4 rfl (lv_at hl 2 rfl) ?_
  obtain ⟨q1, hq1, hF⟩ := o_b hF
  refine kk_X5_127 G hW hq1 hl.1 ⟨Nat.le_of_ble_eq_true rfl, Nat.le_of_ble_eq_true rfl⟩ ⟨Nat.le_refl _, Nat.le_refl _⟩ (Nat.le_of_ble_eq_true rfl) dX5_failAlone_5 (fun H locs hW => ?_)
  refine lv_istore_n (lv' := [(3, .int q1.1), (0, .ref (α 0 0)), (1, .int v1), (2, .int v2)]) hx hb dX5_failAlone_8 rfl hl (by decide) rfl (fun ls hl => ?_)
  refine lv_aload_n hx hb dX5_failAlone_9 rfl (lv_at hl 1 rfl) ?_
  refine gg_X5_85 G hW (by decide) dX5_failAlone_10 ?_
  refine lv_if_eq (tgt := 20) hx hb dX5_failAlone_13 (by decide) (fun hc => ?_) (fun hc => ?_)
  · replace hF := o_t hc hF
    refine lv_aload_n hx hb dX5_failAlone_20 rfl (lv_at hl 1 rfl) ?_
    refine lv_iconst (v := 1) hx hb dX5_failAlone_21 (by decide) ?_
    refine lv_iload_n hx hb dX5_failAlone_22 rfl (lv_at hl 2 rfl) ?_
    refine lv_ishl hx hb dX5_failAlone_23 ?_
    refine lv_iload_n hx hb dX5_failAlone_24 rfl (lv_at hl 0 rfl) ?_
    obtain ⟨q2, hq2, hF⟩ := o_b hF
    refine kk_X5_136 G hW hq2 hl.1 ⟨Nat.le_of_ble_eq_true rfl, Nat.le_of_ble_eq_true rfl⟩ ⟨Nat.le_refl _, Nat.le_refl _⟩ (Nat.le_of_ble_eq_true rfl) dX5_failAlone_25 (fun H locs hW => ?_)
    exact w_X5_failAlone_28 G _ _ hF H locs ls hW (lv_sub hl [] rfl)
  · replace hF := o_f hc hF
    refine lv_iconst (v := 0) hx hb dX5_failAlone_16 (by decide) ?_
    refine lv_goto (tgt := 28) hx hb dX5_failAlone_17 (by decide) ?_
    exact w_X5_failAlone_28 G _ _ hF H locs ls hW (lv_sub hl [] rfl)
end WX5_failAlone
theorem c_X5_failAlone {l : Launch} {D : va_G} {dA : Nat → ClassId} {α : Nat → Nat → Nat} (hI : Inj 0 α) {v1 : Int32} {v2 : Int32} {σ σz : sm_M} {r : Int32} (hF : f_X5_failAlone v1 v2 σ = some (r, σz)) : gM l D dA 0 α yX5_failAlone cX5_failAlone 4 (some .int) 5 [.ref (α 0 0), .int v1, .int v2] σ (some (.int r)) σz :=
  g_met hI (by decide +kernel) (Nat.le_of_ble_eq_true rfl) (fun p e s m below meth c ls G hW hl => w_X5_failAlone_0 G _ _ _ hF _ _ _ hW hl)
section KX5_failAlone
variable {p : Program} {l : Launch} {e : Env} {R : Room} {s : State} {m : MethodId} {args : Array Value} {below : List Frame} {meth : Method} {c : Code} {H : Heap} {locs : List Loc} {cells slots : Nat} {Q : State → Prop}
variable {cc : ByteArray} {pc nL Z : Nat} {ls : Array Slot} {rest : List Value} {D : va_G} {dA : Nat → ClassId} {α : Nat → Nat → Nat} {H0 : Heap} {σ σ' : sm_M} {ret : Option FieldType} {own nm : String}
theorem kk_X5_106 (G : gx p s m meth c args cc nL ret RX5 nm D dA) (hW : Wd D dA 0 α H0 σ H locs) {v1 : Int32} {v2 : Int32} {q : Int32 × sm_M} (hq : f_X5_failAlone v1 v2 σ = some q) (hls : ls.size = nL) (hR : 5 + 1 ≤ R.frames ∧ 8 + (4 + 11) + 44 * 5 ≤ R.locals) (hf : cells ≤ R.cells ∧ slots ≤ R.slots) (hcat : (rest.map fun v => v.category).sum ≤ 8) (hdg : decode cc pc = .ok (.invokevirtual 106, 3)) (kk : ∀ (H1 : Heap) (locs1 : List Loc), Wd D dA 0 α H0 q.2 H1 locs1 → W p l e R s m args below meth c H1 locs1 cells slots Q (F0 m (pc + 3) ls (.int q.1 :: rest))) : W p l e R s m args below meth c H locs cells slots Q (F0 m pc ls (.int v2 :: .int v1 :: .ref (α 0 0) :: rest)) :=
  g_cV (n := 2) G (c_X5_failAlone (l := l) hW.2.2.2 hq) ⟨wm_15_2, wm_15_3, wm_15_4, wm_1_2, wm_15_5⟩ (by decide +kernel) hW (g_recv (φ := 0) (ci := 5) G.2.2.2.2.2.2.2.2.1 rfl rfl rfl (by decide) hW.1 rfl) hR hf rfl hls rfl hcat hdg kk
end KX5_failAlone
section WX5_work
variable {p : Program} {l : Launch} {e : Env} {s : State} {m : MethodId} {args : Array Value} {below : List Frame} {meth : Method} {c : Code} {D : va_G} {dA : Nat → ClassId} {α : Nat → Nat → Nat}
set_option maxHeartbeats 4000000 in
set_option maxRecDepth 100000 in
theorem w_X5_work_136 (G : gx p s m meth c args cX5_work 4 none RX5 "work" D dA) {σz : sm_M} : ∀ (v1 : Int32) (v2 : Int32) (a3 : Nat) (ha3 : a3 < fN 4) (σ : sm_M), f_X5_work_136 v1 v2 a3 σ = some σz → ∀ (H : Heap) (locs : List Loc) (ls : Array Slot), Wd D dA 0 α s.heap σ H locs → lv_has ls 4 [(0, .ref (α 0 0)), (1, .int v1), (2, .int v2), (3, .ref (α 4 a3))] → gW 2 p l e s m args below meth c D dA 0 α none σz H locs (F0 m 136 ls []) := by
  obtain ⟨hx, hb, hr, hlk, hml, hown, hnm, hts, hK, hNw⟩ := id G
  intro v1 v2 a3 ha3 σ hF H locs ls hW hl
  rw [f_X5_work_136] at hF
  refine lv_aload_n hx hb dX5_work_136 rfl (lv_at hl 3 rfl) ?_
  refine lv_iload_n hx hb dX5_work_137 rfl (lv_at hl 2 rfl) ?_
  obtain ⟨q1, hq1, hF⟩ := o_b hF
  refine kk_X5_288 G hW ha3 hq1 hl.1 ⟨Nat.le_of_ble_eq_true rfl, Nat.le_of_ble_eq_true rfl⟩ ⟨Nat.le_refl _, Nat.le_refl _⟩ (Nat.le_of_ble_eq_true rfl) dX5_work_138 (fun H locs hW => ?_)
  refine lv_if_eq (tgt := 153) hx hb dX5_work_141 (by decide) (fun hc => ?_) (fun hc => ?_)
  · replace hF := o_t hc hF
    exact g_vret G hW hF dX5_work_153
  · replace hF := o_f hc hF
    refine lv_aload_n hx hb dX5_work_144 rfl (lv_at hl 0 rfl) ?_
    refine gg_X5_10 G hW (by decide) dX5_work_145 ?_
    refine lv_iload_n hx hb dX5_work_148 rfl (lv_at hl 1 rfl) ?_
    refine lv_iload_n hx hb dX5_work_149 rfl (lv_at hl 2 rfl) ?_
    obtain ⟨q2, hq2, hF⟩ := o_b hF
    refine kk_X5_276 G hW hq2 hl.1 ⟨Nat.le_of_ble_eq_true rfl, Nat.le_of_ble_eq_true rfl⟩ ⟨Nat.le_refl _, Nat.le_refl _⟩ (Nat.le_of_ble_eq_true rfl) dX5_work_150 (fun H locs hW => ?_)
    exact g_vret G hW hF dX5_work_153
set_option maxHeartbeats 4000000 in
set_option maxRecDepth 100000 in
theorem w_X5_work_0 (G : gx p s m meth c args cX5_work 4 none RX5 "work" D dA) {σz : sm_M} : ∀ (v1 : Int32) (v2 : Int32) (σ : sm_M), f_X5_work v1 v2 σ = some σz → ∀ (H : Heap) (locs : List Loc) (ls : Array Slot), Wd D dA 0 α s.heap σ H locs → lv_has ls 4 [(0, .ref (α 0 0)), (1, .int v1), (2, .int v2)] → gW 2 p l e s m args below meth c D dA 0 α none σz H locs (F0 m 0 ls []) := by
  obtain ⟨hx, hb, hr, hlk, hml, hown, hnm, hts, hK, hNw⟩ := id G
  intro v1 v2 σ hF H locs ls hW hl
  rw [f_X5_work] at hF
  refine lv_aload_n hx hb dX5_work_0 rfl (lv_at hl 0 rfl) ?_
  refine gg_X5_10 G hW (by decide) dX5_work_1 ?_
  refine gg_X5_60 G hW (by decide) dX5_work_4 ?_
  refine lv_iload_n hx hb dX5_work_7 rfl (lv_at hl 1 rfl) ?_
  obtain ⟨x1, hx1, hF⟩ := o_b hF
  refine g_aP (φ := 7) (ψ := 4) G rfl rfl (by decide) (ety := (.object "RegionRestarts$Task")) rfl rfl (fun _ => rfl) hW (by decide) hx1 dX5_work_8 ?_
  refine lv_astore_n (lv' := [(3, .ref (α 4 x1)), (0, .ref (α 0 0)), (1, .int v1), (2, .int v2)]) hx hb dX5_work_9 rfl hl (by decide) rfl (fun ls hl => ?_)
  refine lv_aload_n hx hb dX5_work_10 rfl (lv_at hl 0 rfl) ?_
  refine gg_X5_64 G hW (aP_lt hx1) dX5_work_11 ?_
  by_cases n0 : (σ.1 4 x1 2) = 1
  · replace hF := o_t n0 hF
    refine lv_tableIn (tgt := 119) (off := 105) hx hb dX5_work_14 (by rw [n0]; decide) (by rw [n0]; decide) (by rw [n0]; rfl) (by decide) ?_
    refine lv_aload_n hx hb dX5_work_119 rfl (lv_at hl 1 rfl) ?_
    refine gg_X5_10 G hW (by decide) dX5_work_120 ?_
    refine lv_iload_n hx hb dX5_work_123 rfl (lv_at hl 2 rfl) ?_
    refine lv_iload_n hx hb dX5_work_124 rfl (lv_at hl 3 rfl) ?_
    refine lv_aload_n hx hb dX5_work_125 rfl (lv_at hl 0 rfl) ?_
    refine gg_X5_285 G hW (aP_lt hx1) dX5_work_126 ?_
    refine lv_iadd hx hb dX5_work_129 ?_
    obtain ⟨q2, hq2, hF⟩ := o_b hF
    refine kk_X5_276 G hW hq2 hl.1 ⟨Nat.le_of_ble_eq_true rfl, Nat.le_of_ble_eq_true rfl⟩ ⟨Nat.le_refl _, Nat.le_refl _⟩ (Nat.le_of_ble_eq_true rfl) dX5_work_130 (fun H locs hW => ?_)
    refine lv_goto (tgt := 153) hx hb dX5_work_133 (by decide) ?_
    exact g_vret G hW hF dX5_work_153
  · replace hF := o_f n0 hF
    by_cases n1 : (σ.1 4 x1 2) = 2
    · replace hF := o_t n1 hF
      refine lv_tableIn (tgt := 136) (off := 122) hx hb dX5_work_14 (by rw [n1]; decide) (by rw [n1]; decide) (by rw [n1]; rfl) (by decide) ?_
      exact w_X5_work_136 G _ _ _ (aP_lt hx1) _ hF H locs ls hW (lv_sub hl [1, 2, 3, 0] rfl)
    · replace hF := o_f n1 hF
      by_cases n2 : (σ.1 4 x1 2) = 3
      · replace hF := o_t n2 hF
        refine lv_tableIn (tgt := 56) (off := 42) hx hb dX5_work_14 (by rw [n2]; decide) (by rw [n2]; decide) (by rw [n2]; rfl) (by decide) ?_
        refine lv_aload_n hx hb dX5_work_56 rfl (lv_at hl 0 rfl) ?_
        refine lv_dup hx hb dX5_work_57 rfl ?_
        refine gg_X5_190 G hW (aP_lt hx1) dX5_work_58 ?_
        refine lv_iload_n hx hb dX5_work_61 rfl (lv_at hl 3 rfl) ?_
        refine lv_iadd hx hb dX5_work_62 ?_
        obtain ⟨σ3, hσ3, hF⟩ := o_b hF
        refine pp_X5_190 G hW (aP_lt hx1) hσ3 dX5_work_63 (fun H locs hW => ?_)
        refine lv_aload_n hx hb dX5_work_66 rfl (lv_at hl 1 rfl) ?_
        refine gg_X5_10 G hW (by decide) dX5_work_67 ?_
        refine lv_iload_n hx hb dX5_work_70 rfl (lv_at hl 2 rfl) ?_
        refine lv_aload_n hx hb dX5_work_71 rfl (lv_at hl 0 rfl) ?_
        refine gg_X5_190 G hW (aP_lt hx1) dX5_work_72 ?_
        obtain ⟨q4, hq4, hF⟩ := o_b hF
        refine kk_X5_276 G hW hq4 hl.1 ⟨Nat.le_of_ble_eq_true rfl, Nat.le_of_ble_eq_true rfl⟩ ⟨Nat.le_refl _, Nat.le_refl _⟩ (Nat.le_of_ble_eq_true rfl) dX5_work_75 (fun H locs hW => ?_)
        refine lv_goto (tgt := 153) hx hb dX5_work_78 (by decide) ?_
        exact g_vret G hW hF dX5_work_153
      · replace hF := o_f n2 hF
        by_cases n3 : (σ.1 4 x1 2) = 4
        · replace hF := o_t n3 hF
          refine lv_tableIn (tgt := 81) (off := 67) hx hb dX5_work_14 (by rw [n3]; decide) (by rw [n3]; decide) (by rw [n3]; rfl) (by decide) ?_
          refine lv_aload_n hx hb dX5_work_81 rfl (lv_at hl 1 rfl) ?_
          refine lv_aload_n hx hb dX5_work_82 rfl (lv_at hl 1 rfl) ?_
          refine gg_X5_254 G hW (by decide) dX5_work_83 ?_
          refine lv_ldc2 (v := 16807) hx hb hown (hts _ cc_X5_279) dX5_work_86 ?_
          refine lv_lmul hx hb dX5_work_89 ?_
          refine lv_ldc2 (v := 2147483647) hx hb hown (hts _ cc_X5_281) dX5_work_90 ?_
          obtain ⟨hd, hF⟩ := o_n hF
          refine lv_lrem hx hb dX5_work_93 hd ?_
          obtain ⟨σ5, hσ5, hF⟩ := o_b hF
          refine pp_X5_254 G hW (by decide) hσ5 dX5_work_94 (fun H locs hW => ?_)
          refine lv_aload_n hx hb dX5_work_97 rfl (lv_at hl 1 rfl) ?_
          refine gg_X5_10 G hW (by decide) dX5_work_98 ?_
          refine lv_iload_n hx hb dX5_work_101 rfl (lv_at hl 2 rfl) ?_
          refine lv_iload_n hx hb dX5_work_102 rfl (lv_at hl 3 rfl) ?_
          refine lv_aload_n hx hb dX5_work_103 rfl (lv_at hl 1 rfl) ?_
          refine gg_X5_254 G hW (by decide) dX5_work_104 ?_
          refine lv_ldc2 (v := 10) hx hb hown (hts _ cc_X5_283) dX5_work_107 ?_
          obtain ⟨hd, hF⟩ := o_n hF
          refine lv_lrem hx hb dX5_work_110 hd ?_
          refine lv_l2i hx hb dX5_work_111 rfl ?_
          refine lv_iadd hx hb dX5_work_112 ?_
          obtain ⟨q6, hq6, hF⟩ := o_b hF
          refine kk_X5_276 G hW hq6 hl.1 ⟨Nat.le_of_ble_eq_true rfl, Nat.le_of_ble_eq_true rfl⟩ ⟨Nat.le_refl _, Nat.le_refl _⟩ (Nat.le_of_ble_eq_true rfl) dX5_work_113 (fun H locs hW => ?_)
          refine lv_goto (tgt := 153) hx hb dX5_work_116 (by decide) ?_
          exact g_vret G hW hF dX5_work_153
        · replace hF := o_f n3 hF
          by_cases n4 : (σ.1 4 x1 2) = 5
          · replace hF := o_t n4 hF
            refine lv_tableIn (tgt := 48) (off := 34) hx hb dX5_work_14 (by rw [n4]; decide) (by rw [n4]; decide) (by rw [n4]; rfl) (by decide) ?_
            refine lv_aload_n hx hb dX5_work_48 rfl (lv_at hl 0 rfl) ?_
            refine lv_iload_n hx hb dX5_work_49 rfl (lv_at hl 3 rfl) ?_
            obtain ⟨q7, hq7, hF⟩ := o_b hF
            refine kk_X5_273 G hW (aP_lt hx1) hq7 hl.1 ⟨Nat.le_of_ble_eq_true rfl, Nat.le_of_ble_eq_true rfl⟩ ⟨Nat.le_refl _, Nat.le_refl _⟩ (Nat.le_of_ble_eq_true rfl) dX5_work_50 (fun H locs hW => ?_)
            refine lv_goto (tgt := 153) hx hb dX5_work_53 (by decide) ?_
            exact g_vret G hW hF dX5_work_153
          · replace hF := o_f n4 hF
            refine lv_tableOut (tgt := 136) hx hb dX5_work_14 (t_out 1 5 (fun z h1 h2 => by have hz : z = 1 ∨ z = 2 ∨ z = 3 ∨ z = 4 ∨ z = 5 := (by omega); rcases hz with rfl | rfl | rfl | rfl | rfl <;> assumption)) (by decide) ?_
            exact w_X5_work_136 G _ _ _ (aP_lt hx1) _ hF H locs ls hW (lv_sub hl [1, 2, 3, 0] rfl)
end WX5_work
theorem c_X5_work {l : Launch} {D : va_G} {dA : Nat → ClassId} {α : Nat → Nat → Nat} (hI : Inj 0 α) {v1 : Int32} {v2 : Int32} {σ σz : sm_M} (hF : f_X5_work v1 v2 σ = some σz) : gM l D dA 0 α yX5_work cX5_work 4 none 2 [.ref (α 0 0), .int v1, .int v2] σ none σz :=
  g_met hI (by decide +kernel) (Nat.le_of_ble_eq_true rfl) (fun p e s m below meth c ls G hW hl => w_X5_work_0 G _ _ _ hF _ _ _ hW hl)
section KX5_work
variable {p : Program} {l : Launch} {e : Env} {R : Room} {s : State} {m : MethodId} {args : Array Value} {below : List Frame} {meth : Method} {c : Code} {H : Heap} {locs : List Loc} {cells slots : Nat} {Q : State → Prop}
variable {cc : ByteArray} {pc nL Z : Nat} {ls : Array Slot} {rest : List Value} {D : va_G} {dA : Nat → ClassId} {α : Nat → Nat → Nat} {H0 : Heap} {σ σ' : sm_M} {ret : Option FieldType} {own nm : String}
theorem kk_X5_269 (G : gx p s m meth c args cc nL ret RX5 nm D dA) (hW : Wd D dA 0 α H0 σ H locs) {v1 : Int32} {v2 : Int32} {q : sm_M} (hq : f_X5_work v1 v2 σ = some q) (hls : ls.size = nL) (hR : 2 + 1 ≤ R.frames ∧ 8 + (4 + 11) + 44 * 2 ≤ R.locals) (hf : cells ≤ R.cells ∧ slots ≤ R.slots) (hcat : (rest.map fun v => v.category).sum ≤ 8) (hdg : decode cc pc = .ok (.invokevirtual 269, 3)) (kk : ∀ (H1 : Heap) (locs1 : List Loc), Wd D dA 0 α H0 q H1 locs1 → W p l e R s m args below meth c H1 locs1 cells slots Q (F0 m (pc + 3) ls rest)) : W p l e R s m args below meth c H locs cells slots Q (F0 m pc ls (.int v2 :: .int v1 :: .ref (α 0 0) :: rest)) :=
  g_cV (n := 2) G (c_X5_work (l := l) hW.2.2.2 hq) ⟨wm_18_16, wm_18_17, wm_18_18, wm_1_2, wm_18_19⟩ (by decide +kernel) hW (g_recv (φ := 0) (ci := 5) G.2.2.2.2.2.2.2.2.1 rfl rfl rfl (by decide) hW.1 rfl) hR hf rfl hls rfl hcat hdg kk
end KX5_work
section WX5_carryOut
variable {p : Program} {l : Launch} {e : Env} {s : State} {m : MethodId} {args : Array Value} {below : List Frame} {meth : Method} {c : Code} {D : va_G} {dA : Nat → ClassId} {α : Nat → Nat → Nat}
set_option maxHeartbeats 4000000 in
set_option maxRecDepth 100000 in
theorem w_X5_carryOut_106 (G : gx p s m meth c args cX5_carryOut 6 none RX5 "carryOut" D dA) {σz : sm_M} (k12 : Int32 → Nat → Int32 → sm_M → Option (sm_M)) (hk12 : ∀ (v1 : Int32) (a2 : Nat) (ha2 : a2 < fN 4) (v3 : Int32) (σ : sm_M), k12 v1 a2 v3 σ = some σz → ∀ (H : Heap) (locs : List Loc) (ls : Array Slot), Wd D dA 0 α s.heap σ H locs → lv_has ls 6 [(0, .ref (α 0 0)), (1, .int v1), (2, .ref (α 4 a2)), (3, .int v3)] → gW 3 p l e s m args below meth c D dA 0 α none σz H locs (F0 m 12 ls [])) : ∀ (v1 : Int32) (a2 : Nat) (ha2 : a2 < fN 4) (v3 : Int32) (σ : sm_M), f_X5_carryOut_106 k12 v1 a2 v3 σ = some σz → ∀ (H : Heap) (locs : List Loc) (ls : Array Slot), Wd D dA 0 α s.heap σ H locs → lv_has ls 6 [(0, .ref (α 0 0)), (1, .int v1), (2, .ref (α 4 a2)), (3, .int v3)] → gW 3 p l e s m args below meth c D dA 0 α none σz H locs (F0 m 106 ls []) := by
  obtain ⟨hx, hb, hr, hlk, hml, hown, hnm, hts, hK, hNw⟩ := id G
  intro v1 a2 ha2 v3 σ hF H locs ls hW hl
  rw [f_X5_carryOut_106] at hF
  refine lv_iinc (v := (v3 + 1)) (lv' := [(3, .int (v3 + 1)), (0, .ref (α 0 0)), (1, .int v1), (2, .ref (α 4 a2))]) hx hb dX5_carryOut_106 hl (k := 3) rfl rfl (by decide) rfl (fun ls hl => ?_)
  refine lv_goto (tgt := 12) hx hb dX5_carryOut_109 (by decide) ?_
  exact hk12 _ _ ha2 _ _ hF H locs ls hW (lv_sub hl [1, 2, 3, 0] rfl)
set_option maxHeartbeats 4000000 in
set_option maxRecDepth 100000 in
theorem w_X5_carryOut_75 (G : gx p s m meth c args cX5_carryOut 6 none RX5 "carryOut" D dA) {σz : sm_M} (k12 : Int32 → Nat → Int32 → sm_M → Option (sm_M)) (hk12 : ∀ (v1 : Int32) (a2 : Nat) (ha2 : a2 < fN 4) (v3 : Int32) (σ : sm_M), k12 v1 a2 v3 σ = some σz → ∀ (H : Heap) (locs : List Loc) (ls : Array Slot), Wd D dA 0 α s.heap σ H locs → lv_has ls 6 [(0, .ref (α 0 0)), (1, .int v1), (2, .ref (α 4 a2)), (3, .int v3)] → gW 3 p l e s m args below meth c D dA 0 α none σz H locs (F0 m 12 ls [])) : ∀ (v1 : Int32) (a2 : Nat) (ha2 : a2 < fN 4) (v3 : Int32) (s0 : Int32) (σ : sm_M), f_X5_carryOut_75 k12 v1 a2 v3 s0 σ = some σz → ∀ (H : Heap) (locs : List Loc) (ls : Array Slot), Wd D dA 0 α s.heap σ H locs → lv_has ls 6 [(0, .ref (α 0 0)), (1, .int v1), (2, .ref (α 4 a2)), (3, .int v3)] → gW 3 p l e s m args below meth c D dA 0 α none σz H locs (F0 m 75 ls [.int s0]) := by
  obtain ⟨hx, hb, hr, hlk, hml, hown, hnm, hts, hK, hNw⟩ := id G
  intro v1 a2 ha2 v3 s0 σ hF H locs ls hW hl
  rw [f_X5_carryOut_75] at hF
  refine lv_istore (lv' := [(5, .int s0), (0, .ref (α 0 0)), (1, .int v1), (2, .ref (α 4 a2)), (3, .int v3)]) hx hb dX5_carryOut_75 hl (by decide) rfl (fun ls hl => ?_)
  refine lv_aload_n hx hb dX5_carryOut_77 rfl (lv_at hl 3 rfl) ?_
  refine lv_dup hx hb dX5_carryOut_78 rfl ?_
  refine gg_X5_187 G hW ha2 dX5_carryOut_79 ?_
  refine lv_iconst (v := 1) hx hb dX5_carryOut_82 (by decide) ?_
  refine lv_iadd hx hb dX5_carryOut_83 ?_
  obtain ⟨σ1, hσ1, hF⟩ := o_b hF
  refine pp_X5_187 G hW ha2 hσ1 dX5_carryOut_84 (fun H locs hW => ?_)
  refine lv_iload hx hb dX5_carryOut_87 (lv_at hl 0 rfl) ?_
  refine lv_if_eq (tgt := 106) hx hb dX5_carryOut_89 (by decide) (fun hc => ?_) (fun hc => ?_)
  · replace hF := o_t hc hF
    exact w_X5_carryOut_106 G k12 hk12 _ _ ha2 _ _ hF H locs ls hW (lv_sub hl [1, 2, 3, 4] rfl)
  · replace hF := o_f hc hF
    refine lv_aload_n hx hb dX5_carryOut_92 rfl (lv_at hl 1 rfl) ?_
    refine lv_iload_n hx hb dX5_carryOut_93 rfl (lv_at hl 2 rfl) ?_
    refine lv_aload_n hx hb dX5_carryOut_94 rfl (lv_at hl 1 rfl) ?_
    refine gg_X5_19 G hW (by decide) dX5_carryOut_95 ?_
    refine gg_X5_266 G hW (by decide) dX5_carryOut_98 ?_
    refine lv_iload_n hx hb dX5_carryOut_101 rfl (lv_at hl 4 rfl) ?_
    obtain ⟨x2, hx2, hF⟩ := o_b hF
    refine g_aI (φ := 9) G rfl rfl (by decide) rfl hW (by decide) hx2 dX5_carryOut_102 ?_
    obtain ⟨q3, hq3, hF⟩ := o_b hF
    refine kk_X5_269 G hW hq3 hl.1 ⟨Nat.le_of_ble_eq_true rfl, Nat.le_of_ble_eq_true rfl⟩ ⟨Nat.le_refl _, Nat.le_refl _⟩ (Nat.le_of_ble_eq_true rfl) dX5_carryOut_103 (fun H locs hW => ?_)
    exact w_X5_carryOut_106 G k12 hk12 _ _ ha2 _ _ hF H locs ls hW (lv_sub hl [1, 2, 3, 4] rfl)
set_option maxHeartbeats 4000000 in
set_option maxRecDepth 100000 in
theorem w_X5_carryOut_59 (G : gx p s m meth c args cX5_carryOut 6 none RX5 "carryOut" D dA) {σz : sm_M} (k12 : Int32 → Nat → Int32 → sm_M → Option (sm_M)) (hk12 : ∀ (v1 : Int32) (a2 : Nat) (ha2 : a2 < fN 4) (v3 : Int32) (σ : sm_M), k12 v1 a2 v3 σ = some σz → ∀ (H : Heap) (locs : List Loc) (ls : Array Slot), Wd D dA 0 α s.heap σ H locs → lv_has ls 6 [(0, .ref (α 0 0)), (1, .int v1), (2, .ref (α 4 a2)), (3, .int v3)] → gW 3 p l e s m args below meth c D dA 0 α none σz H locs (F0 m 12 ls [])) : ∀ (v1 : Int32) (a2 : Nat) (ha2 : a2 < fN 4) (v3 : Int32) (σ : sm_M), f_X5_carryOut_59 k12 v1 a2 v3 σ = some σz → ∀ (H : Heap) (locs : List Loc) (ls : Array Slot), Wd D dA 0 α s.heap σ H locs → lv_has ls 6 [(0, .ref (α 0 0)), (1, .int v1), (2, .ref (α 4 a2)), (3, .int v3)] → gW 3 p l e s m args below meth c D dA 0 α none σz H locs (F0 m 59 ls []) := by
  obtain ⟨hx, hb, hr, hlk, hml, hown, hnm, hts, hK, hNw⟩ := id G
  intro v1 a2 ha2 v3 σ hF H locs ls hW hl
  rw [f_X5_carryOut_59] at hF
  refine lv_aload_n hx hb dX5_carryOut_59 rfl (lv_at hl 2 rfl) ?_
  refine lv_aload_n hx hb dX5_carryOut_60 rfl (lv_at hl 2 rfl) ?_
  refine gg_X5_187 G hW ha2 dX5_carryOut_61 ?_
  obtain ⟨q1, hq1, hF⟩ := o_b hF
  refine kk_X5_263 G hW ha2 hq1 hl.1 ⟨Nat.le_of_ble_eq_true rfl, Nat.le_of_ble_eq_true rfl⟩ ⟨Nat.le_refl _, Nat.le_refl _⟩ (Nat.le_of_ble_eq_true rfl) dX5_carryOut_64 (fun H locs hW => ?_)
  refine lv_if_ne (tgt := 74) hx hb dX5_carryOut_67 (by decide) (fun hc => ?_) (fun hc => ?_)
  · replace hF := o_f hc hF
    refine lv_iconst (v := 0) hx hb dX5_carryOut_74 (by decide) ?_
    exact w_X5_carryOut_75 G k12 hk12 _ _ ha2 _ _ _ hF H locs ls hW (lv_sub hl [0, 1, 2, 3] rfl)
  · replace hF := o_t hc hF
    refine lv_iconst (v := 1) hx hb dX5_carryOut_70 (by decide) ?_
    refine lv_goto (tgt := 75) hx hb dX5_carryOut_71 (by decide) ?_
    exact w_X5_carryOut_75 G k12 hk12 _ _ ha2 _ _ _ hF H locs ls hW (lv_sub hl [0, 1, 2, 3] rfl)
set_option maxHeartbeats 4000000 in
set_option maxRecDepth 100000 in
theorem w_X5_carryOut_12 (G : gx p s m meth c args cX5_carryOut 6 none RX5 "carryOut" D dA) {σz : sm_M} : ∀ (n : Nat) (v1 : Int32) (a2 : Nat) (ha2 : a2 < fN 4) (v3 : Int32) (σ : sm_M), f_X5_carryOut_12 n v1 a2 v3 σ = some σz → ∀ (H : Heap) (locs : List Loc) (ls : Array Slot), Wd D dA 0 α s.heap σ H locs → lv_has ls 6 [(0, .ref (α 0 0)), (1, .int v1), (2, .ref (α 4 a2)), (3, .int v3)] → gW 3 p l e s m args below meth c D dA 0 α none σz H locs (F0 m 12 ls []) := by
  obtain ⟨hx, hb, hr, hlk, hml, hown, hnm, hts, hK, hNw⟩ := id G
  intro n
  induction n with
  | zero => intro v1 a2 ha2 v3 σ hF; exact absurd hF (by intro h; cases h)
  | succ n ih =>
    intro v1 a2 ha2 v3 σ hF H locs ls hW hl
    rw [f_X5_carryOut_12] at hF
    refine lv_iload_n hx hb dX5_carryOut_12 rfl (lv_at hl 3 rfl) ?_
    refine lv_aload_n hx hb dX5_carryOut_13 rfl (lv_at hl 0 rfl) ?_
    refine gg_X5_19 G hW (by decide) dX5_carryOut_14 ?_
    refine gg_X5_117 G hW (by decide) dX5_carryOut_17 ?_
    refine lv_icmp_ge (tgt := 112) hx hb dX5_carryOut_20 (by decide) (fun hc => ?_) (fun hc => ?_)
    · replace hF := o_t hc hF
      exact g_vret G hW hF dX5_carryOut_112
    · replace hF := o_f hc hF
      refine lv_aload_n hx hb dX5_carryOut_23 rfl (lv_at hl 0 rfl) ?_
      refine gg_X5_19 G hW (by decide) dX5_carryOut_24 ?_
      refine gg_X5_258 G hW (by decide) dX5_carryOut_27 ?_
      refine lv_iload_n hx hb dX5_carryOut_30 rfl (lv_at hl 3 rfl) ?_
      obtain ⟨x1, hx1, hF⟩ := o_b hF
      refine g_aI (φ := 10) G rfl rfl (by decide) rfl hW (by decide) hx1 dX5_carryOut_31 ?_
      refine lv_istore (lv' := [(4, .int x1), (0, .ref (α 0 0)), (1, .int v1), (2, .ref (α 4 a2)), (3, .int v3)]) hx hb dX5_carryOut_32 hl (by decide) rfl (fun ls hl => ?_)
      refine lv_aload_n hx hb dX5_carryOut_34 rfl (lv_at hl 1 rfl) ?_
      refine gg_X5_10 G hW (by decide) dX5_carryOut_35 ?_
      refine lv_iload hx hb dX5_carryOut_38 (lv_at hl 0 rfl) ?_
      obtain ⟨q2, hq2, hF⟩ := o_b hF
      refine kk_X5_139 G hW hq2 hl.1 ⟨Nat.le_of_ble_eq_true rfl, Nat.le_of_ble_eq_true rfl⟩ ⟨Nat.le_refl _, Nat.le_refl _⟩ (Nat.le_of_ble_eq_true rfl) dX5_carryOut_40 (fun H locs hW => ?_)
      refine lv_if_eq (tgt := 59) hx hb dX5_carryOut_43 (by decide) (fun hc => ?_) (fun hc => ?_)
      · replace hF := o_t hc hF
        exact w_X5_carryOut_59 G (f_X5_carryOut_12 n) ih _ _ ha2 _ _ hF H locs ls hW (lv_sub hl [1, 2, 3, 4] rfl)
      · replace hF := o_f hc hF
        refine lv_aload_n hx hb dX5_carryOut_46 rfl (lv_at hl 1 rfl) ?_
        refine gg_X5_10 G hW (by decide) dX5_carryOut_47 ?_
        refine gg_X5_142 G hW (by decide) dX5_carryOut_50 ?_
        refine lv_iload hx hb dX5_carryOut_53 (lv_at hl 0 rfl) ?_
        obtain ⟨x3, hx3, hF⟩ := o_b hF
        refine g_aP (φ := 8) (ψ := 5) G rfl rfl (by decide) (ety := (.object "RegionRestarts$Channel")) rfl rfl (fun _ => rfl) hW (by decide) hx3 dX5_carryOut_55 ?_
        obtain ⟨q4, hq4, hF⟩ := o_b hF
        refine kk_X5_260 G hW (aP_lt hx3) hq4 hl.1 ⟨Nat.le_of_ble_eq_true rfl, Nat.le_of_ble_eq_true rfl⟩ ⟨Nat.le_refl _, Nat.le_refl _⟩ (Nat.le_of_ble_eq_true rfl) dX5_carryOut_56 (fun H locs hW => ?_)
        exact w_X5_carryOut_59 G (f_X5_carryOut_12 n) ih _ _ ha2 _ _ hF H locs ls hW (lv_sub hl [1, 2, 3, 4] rfl)
set_option maxHeartbeats 4000000 in
set_option maxRecDepth 100000 in
theorem w_X5_carryOut_0 (G : gx p s m meth c args cX5_carryOut 6 none RX5 "carryOut" D dA) {σz : sm_M} : ∀ (v1 : Int32) (σ : sm_M), f_X5_carryOut v1 σ = some σz → ∀ (H : Heap) (locs : List Loc) (ls : Array Slot), Wd D dA 0 α s.heap σ H locs → lv_has ls 6 [(0, .ref (α 0 0)), (1, .int v1)] → gW 3 p l e s m args below meth c D dA 0 α none σz H locs (F0 m 0 ls []) := by
  obtain ⟨hx, hb, hr, hlk, hml, hown, hnm, hts, hK, hNw⟩ := id G
  intro v1 σ hF H locs ls hW hl
  rw [f_X5_carryOut] at hF
  refine lv_aload_n hx hb dX5_carryOut_0 rfl (lv_at hl 0 rfl) ?_
  refine gg_X5_10 G hW (by decide) dX5_carryOut_1 ?_
  refine gg_X5_60 G hW (by decide) dX5_carryOut_4 ?_
  refine lv_iload_n hx hb dX5_carryOut_7 rfl (lv_at hl 1 rfl) ?_
  obtain ⟨x1, hx1, hF⟩ := o_b hF
  refine g_aP (φ := 7) (ψ := 4) G rfl rfl (by decide) (ety := (.object "RegionRestarts$Task")) rfl rfl (fun _ => rfl) hW (by decide) hx1 dX5_carryOut_8 ?_
  refine lv_astore_n (lv' := [(2, .ref (α 4 x1)), (0, .ref (α 0 0)), (1, .int v1)]) hx hb dX5_carryOut_9 rfl hl (by decide) rfl (fun ls hl => ?_)
  refine lv_iconst (v := 0) hx hb dX5_carryOut_10 (by decide) ?_
  refine lv_istore_n (lv' := [(3, .int (0 : Int32)), (2, .ref (α 4 x1)), (0, .ref (α 0 0)), (1, .int v1)]) hx hb dX5_carryOut_11 rfl hl (by decide) rfl (fun ls hl => ?_)
  exact w_X5_carryOut_12 G 1000 _ _ (aP_lt hx1) _ _ hF H locs ls hW (lv_sub hl [2, 3, 1, 0] rfl)
end WX5_carryOut
theorem c_X5_carryOut {l : Launch} {D : va_G} {dA : Nat → ClassId} {α : Nat → Nat → Nat} (hI : Inj 0 α) {v1 : Int32} {σ σz : sm_M} (hF : f_X5_carryOut v1 σ = some σz) : gM l D dA 0 α yX5_carryOut cX5_carryOut 6 none 3 [.ref (α 0 0), .int v1] σ none σz :=
  g_met hI (by decide +kernel) (Nat.le_of_ble_eq_true rfl) (fun p e s m below meth c ls G hW hl => w_X5_carryOut_0 G _ _ hF _ _ _ hW hl)
section KX5_carryOut
variable {p : Program} {l : Launch} {e : Env} {R : Room} {s : State} {m : MethodId} {args : Array Value} {below : List Frame} {meth : Method} {c : Code} {H : Heap} {locs : List Loc} {cells slots : Nat} {Q : State → Prop}
variable {cc : ByteArray} {pc nL Z : Nat} {ls : Array Slot} {rest : List Value} {D : va_G} {dA : Nat → ClassId} {α : Nat → Nat → Nat} {H0 : Heap} {σ σ' : sm_M} {ret : Option FieldType} {own nm : String}
theorem kk_X5_113 (G : gx p s m meth c args cc nL ret RX5 nm D dA) (hW : Wd D dA 0 α H0 σ H locs) {v1 : Int32} {q : sm_M} (hq : f_X5_carryOut v1 σ = some q) (hls : ls.size = nL) (hR : 3 + 1 ≤ R.frames ∧ 8 + (6 + 11) + 44 * 3 ≤ R.locals) (hf : cells ≤ R.cells ∧ slots ≤ R.slots) (hcat : (rest.map fun v => v.category).sum ≤ 8) (hdg : decode cc pc = .ok (.invokevirtual 113, 3)) (kk : ∀ (H1 : Heap) (locs1 : List Loc), Wd D dA 0 α H0 q H1 locs1 → W p l e R s m args below meth c H1 locs1 cells slots Q (F0 m (pc + 3) ls rest)) : W p l e R s m args below meth c H locs cells slots Q (F0 m pc ls (.int v1 :: .ref (α 0 0) :: rest)) :=
  g_cV (n := 1) G (c_X5_carryOut (l := l) hW.2.2.2 hq) ⟨wm_17_23, wm_18_0, wm_18_1, wm_1_2, wm_18_2⟩ (by decide +kernel) hW (g_recv (φ := 0) (ci := 5) G.2.2.2.2.2.2.2.2.1 rfl rfl rfl (by decide) hW.1 rfl) hR hf rfl hls rfl hcat hdg kk
end KX5_carryOut
section WX5_step
variable {p : Program} {l : Launch} {e : Env} {s : State} {m : MethodId} {args : Array Value} {below : List Frame} {meth : Method} {c : Code} {D : va_G} {dA : Nat → ClassId} {α : Nat → Nat → Nat}
set_option maxHeartbeats 4000000 in
set_option maxRecDepth 100000 in
theorem w_X5_step_39 (G : gx p s m meth c args cX5_step 2 (some .int) RX5 "step" D dA) {r : Int32} {σz : sm_M} : ∀ (σ : sm_M), f_X5_step_39 σ = some (r, σz) → ∀ (H : Heap) (locs : List Loc) (ls : Array Slot), Wd D dA 0 α s.heap σ H locs → lv_has ls 2 [] → gW 6 p l e s m args below meth c D dA 0 α (some (.int r)) σz H locs (F0 m 39 ls []) := by
  obtain ⟨hx, hb, hr, hlk, hml, hown, hnm, hts, hK, hNw⟩ := id G
  intro σ hF H locs ls hW hl
  rw [f_X5_step_39] at hF
  refine lv_bipush (v := -3) hx hb dX5_step_39 (by decide) ?_
  exact g_iret G hW hF dX5_step_41
set_option maxHeartbeats 4000000 in
set_option maxRecDepth 100000 in
theorem w_X5_step_0 (G : gx p s m meth c args cX5_step 2 (some .int) RX5 "step" D dA) {r : Int32} {σz : sm_M} : ∀ (v1 : Int32) (σ : sm_M), f_X5_step v1 σ = some (r, σz) → ∀ (H : Heap) (locs : List Loc) (ls : Array Slot), Wd D dA 0 α s.heap σ H locs → lv_has ls 2 [(0, .ref (α 0 0)), (1, .int v1)] → gW 6 p l e s m args below meth c D dA 0 α (some (.int r)) σz H locs (F0 m 0 ls []) := by
  obtain ⟨hx, hb, hr, hlk, hml, hown, hnm, hts, hK, hNw⟩ := id G
  intro v1 σ hF H locs ls hW hl
  rw [f_X5_step] at hF
  refine lv_aload_n hx hb dX5_step_0 rfl (lv_at hl 0 rfl) ?_
  refine gg_X5_10 G hW (by decide) dX5_step_1 ?_
  refine lv_iload_n hx hb dX5_step_4 rfl (lv_at hl 1 rfl) ?_
  obtain ⟨q1, hq1, hF⟩ := o_b hF
  refine kk_X5_57 G hW hq1 hl.1 ⟨Nat.le_of_ble_eq_true rfl, Nat.le_of_ble_eq_true rfl⟩ ⟨Nat.le_refl _, Nat.le_refl _⟩ (Nat.le_of_ble_eq_true rfl) dX5_step_5 (fun H locs hW => ?_)
  refine lv_if_ne (tgt := 13) hx hb dX5_step_8 (by decide) (fun hc => ?_) (fun hc => ?_)
  · replace hF := o_f hc hF
    refine lv_aload_n hx hb dX5_step_13 rfl (lv_at hl 0 rfl) ?_
    refine gg_X5_85 G hW (by decide) dX5_step_14 ?_
    refine lv_if_ne (tgt := 39) hx hb dX5_step_17 (by decide) (fun hc => ?_) (fun hc => ?_)
    · replace hF := o_f hc hF
      exact w_X5_step_39 G  _ hF H locs ls hW (lv_sub hl [] rfl)
    · replace hF := o_t hc hF
      refine lv_aload_n hx hb dX5_step_20 rfl (lv_at hl 0 rfl) ?_
      refine gg_X5_10 G hW (by decide) dX5_step_21 ?_
      refine gg_X5_60 G hW (by decide) dX5_step_24 ?_
      refine lv_iload_n hx hb dX5_step_27 rfl (lv_at hl 1 rfl) ?_
      obtain ⟨x2, hx2, hF⟩ := o_b hF
      refine g_aP (φ := 7) (ψ := 4) G rfl rfl (by decide) (ety := (.object "RegionRestarts$Task")) rfl rfl (fun _ => rfl) hW (by decide) hx2 dX5_step_28 ?_
      refine lv_aload_n hx hb dX5_step_29 rfl (lv_at hl 0 rfl) ?_
      refine gg_X5_88 G hW (by decide) dX5_step_30 ?_
      obtain ⟨q3, hq3, hF⟩ := o_b hF
      refine kk_X5_91 G hW (aP_lt hx2) hq3 hl.1 ⟨Nat.le_of_ble_eq_true rfl, Nat.le_of_ble_eq_true rfl⟩ ⟨Nat.le_refl _, Nat.le_refl _⟩ (Nat.le_of_ble_eq_true rfl) dX5_step_33 (fun H locs hW => ?_)
      refine lv_if_le (tgt := 42) hx hb dX5_step_36 (by decide) (fun hc => ?_) (fun hc => ?_)
      · replace hF := o_t hc hF
        refine lv_aload_n hx hb dX5_step_42 rfl (lv_at hl 0 rfl) ?_
        refine lv_iconst (v := 1) hx hb dX5_step_43 (by decide) ?_
        obtain ⟨σ4, hσ4, hF⟩ := o_b hF
        refine pp_X5_45 G hW (by decide) hσ4 dX5_step_44 (fun H locs hW => ?_)
        refine lv_aload_n hx hb dX5_step_47 rfl (lv_at hl 0 rfl) ?_
        refine gg_X5_19 G hW (by decide) dX5_step_48 ?_
        refine lv_aload_n hx hb dX5_step_51 rfl (lv_at hl 0 rfl) ?_
        refine gg_X5_10 G hW (by decide) dX5_step_52 ?_
        refine lv_iload_n hx hb dX5_step_55 rfl (lv_at hl 1 rfl) ?_
        obtain ⟨q5, hq5, hF⟩ := o_b hF
        refine kk_X5_95 G hW hq5 hl.1 ⟨Nat.le_of_ble_eq_true rfl, Nat.le_of_ble_eq_true rfl⟩ ⟨Nat.le_refl _, Nat.le_refl _⟩ (Nat.le_of_ble_eq_true rfl) dX5_step_56 (fun H locs hW => ?_)
        refine lv_aload_n hx hb dX5_step_59 rfl (lv_at hl 0 rfl) ?_
        refine gg_X5_19 G hW (by decide) dX5_step_60 ?_
        refine gg_X5_99 G hW (by decide) dX5_step_63 ?_
        refine lv_if_eq (tgt := 95) hx hb dX5_step_66 (by decide) (fun hc => ?_) (fun hc => ?_)
        · replace hF := o_t hc hF
          refine lv_aload_n hx hb dX5_step_95 rfl (lv_at hl 0 rfl) ?_
          refine lv_dup hx hb dX5_step_96 rfl ?_
          refine gg_X5_110 G hW (by decide) dX5_step_97 ?_
          refine lv_iconst (v := 1) hx hb dX5_step_100 (by decide) ?_
          refine lv_iadd hx hb dX5_step_101 ?_
          obtain ⟨σ6, hσ6, hF⟩ := o_b hF
          refine pp_X5_110 G hW (by decide) hσ6 dX5_step_102 (fun H locs hW => ?_)
          refine lv_aload_n hx hb dX5_step_105 rfl (lv_at hl 0 rfl) ?_
          refine lv_iload_n hx hb dX5_step_106 rfl (lv_at hl 1 rfl) ?_
          obtain ⟨q7, hq7, hF⟩ := o_b hF
          refine kk_X5_113 G hW hq7 hl.1 ⟨Nat.le_of_ble_eq_true rfl, Nat.le_of_ble_eq_true rfl⟩ ⟨Nat.le_refl _, Nat.le_refl _⟩ (Nat.le_of_ble_eq_true rfl) dX5_step_107 (fun H locs hW => ?_)
          refine lv_aload_n hx hb dX5_step_110 rfl (lv_at hl 0 rfl) ?_
          refine gg_X5_19 G hW (by decide) dX5_step_111 ?_
          refine gg_X5_117 G hW (by decide) dX5_step_114 ?_
          exact g_iret G hW hF dX5_step_117
        · replace hF := o_f hc hF
          refine lv_aload_n hx hb dX5_step_69 rfl (lv_at hl 0 rfl) ?_
          refine gg_X5_10 G hW (by decide) dX5_step_70 ?_
          refine gg_X5_60 G hW (by decide) dX5_step_73 ?_
          refine lv_iload_n hx hb dX5_step_76 rfl (lv_at hl 1 rfl) ?_
          obtain ⟨x8, hx8, hF⟩ := o_b hF
          refine g_aP (φ := 7) (ψ := 4) G rfl rfl (by decide) (ety := (.object "RegionRestarts$Task")) rfl rfl (fun _ => rfl) hW (by decide) hx8 dX5_step_77 ?_
          refine lv_aload_n hx hb dX5_step_78 rfl (lv_at hl 0 rfl) ?_
          refine gg_X5_82 G hW (by decide) dX5_step_79 ?_
          obtain ⟨q9, hq9, hF⟩ := o_b hF
          refine kk_X5_102 G hW (aP_lt hx8) hq9 hl.1 ⟨Nat.le_of_ble_eq_true rfl, Nat.le_of_ble_eq_true rfl⟩ ⟨Nat.le_refl _, Nat.le_refl _⟩ (Nat.le_of_ble_eq_true rfl) dX5_step_82 (fun H locs hW => ?_)
          refine lv_aload_n hx hb dX5_step_85 rfl (lv_at hl 0 rfl) ?_
          refine lv_iload_n hx hb dX5_step_86 rfl (lv_at hl 1 rfl) ?_
          refine lv_iconst (v := 0) hx hb dX5_step_87 (by decide) ?_
          obtain ⟨q10, hq10, hF⟩ := o_b hF
          refine kk_X5_106 G hW hq10 hl.1 ⟨Nat.le_of_ble_eq_true rfl, Nat.le_of_ble_eq_true rfl⟩ ⟨Nat.le_refl _, Nat.le_refl _⟩ (Nat.le_of_ble_eq_true rfl) dX5_step_88 (fun H locs hW => ?_)
          refine lv_pop hx hb dX5_step_91 rfl ?_
          refine lv_bipush (v := -5) hx hb dX5_step_92 (by decide) ?_
          exact g_iret G hW hF dX5_step_94
      · replace hF := o_f hc hF
        exact w_X5_step_39 G  _ hF H locs ls hW (lv_sub hl [] rfl)
  · replace hF := o_t hc hF
    refine lv_iconst (v := -1) hx hb dX5_step_11 (by decide) ?_
    exact g_iret G hW hF dX5_step_12
end WX5_step
theorem c_X5_step {l : Launch} {D : va_G} {dA : Nat → ClassId} {α : Nat → Nat → Nat} (hI : Inj 0 α) {v1 : Int32} {σ σz : sm_M} {r : Int32} (hF : f_X5_step v1 σ = some (r, σz)) : gM l D dA 0 α yX5_step cX5_step 2 (some .int) 6 [.ref (α 0 0), .int v1] σ (some (.int r)) σz :=
  g_met hI (by decide +kernel) (Nat.le_of_ble_eq_true rfl) (fun p e s m below meth c ls G hW hl => w_X5_step_0 G _ _ hF _ _ _ hW hl)
section KX5_step
variable {p : Program} {l : Launch} {e : Env} {R : Room} {s : State} {m : MethodId} {args : Array Value} {below : List Frame} {meth : Method} {c : Code} {H : Heap} {locs : List Loc} {cells slots : Nat} {Q : State → Prop}
variable {cc : ByteArray} {pc nL Z : Nat} {ls : Array Slot} {rest : List Value} {D : va_G} {dA : Nat → ClassId} {α : Nat → Nat → Nat} {H0 : Heap} {σ σ' : sm_M} {ret : Option FieldType} {own nm : String}
end KX5_step
section WX5_fail
variable {p : Program} {l : Launch} {e : Env} {s : State} {m : MethodId} {args : Array Value} {below : List Frame} {meth : Method} {c : Code} {D : va_G} {dA : Nat → ClassId} {α : Nat → Nat → Nat}
set_option maxHeartbeats 4000000 in
set_option maxRecDepth 100000 in
theorem w_X5_fail_0 (G : gx p s m meth c args cX5_fail 2 (some .int) RX5 "fail" D dA) {r : Int32} {σz : sm_M} : ∀ (v1 : Int32) (σ : sm_M), f_X5_fail v1 σ = some (r, σz) → ∀ (H : Heap) (locs : List Loc) (ls : Array Slot), Wd D dA 0 α s.heap σ H locs → lv_has ls 2 [(0, .ref (α 0 0)), (1, .int v1)] → gW 6 p l e s m args below meth c D dA 0 α (some (.int r)) σz H locs (F0 m 0 ls []) := by
  obtain ⟨hx, hb, hr, hlk, hml, hown, hnm, hts, hK, hNw⟩ := id G
  intro v1 σ hF H locs ls hW hl
  rw [f_X5_fail] at hF
  refine lv_aload_n hx hb dX5_fail_0 rfl (lv_at hl 0 rfl) ?_
  refine gg_X5_10 G hW (by decide) dX5_fail_1 ?_
  refine lv_iload_n hx hb dX5_fail_4 rfl (lv_at hl 1 rfl) ?_
  obtain ⟨q1, hq1, hF⟩ := o_b hF
  refine kk_X5_57 G hW hq1 hl.1 ⟨Nat.le_of_ble_eq_true rfl, Nat.le_of_ble_eq_true rfl⟩ ⟨Nat.le_refl _, Nat.le_refl _⟩ (Nat.le_of_ble_eq_true rfl) dX5_fail_5 (fun H locs hW => ?_)
  refine lv_if_ne (tgt := 13) hx hb dX5_fail_8 (by decide) (fun hc => ?_) (fun hc => ?_)
  · replace hF := o_f hc hF
    refine lv_aload_n hx hb dX5_fail_13 rfl (lv_at hl 0 rfl) ?_
    refine gg_X5_85 G hW (by decide) dX5_fail_14 ?_
    refine lv_if_eq (tgt := 23) hx hb dX5_fail_17 (by decide) (fun hc => ?_) (fun hc => ?_)
    · replace hF := o_t hc hF
      refine lv_aload_n hx hb dX5_fail_23 rfl (lv_at hl 0 rfl) ?_
      refine lv_iload_n hx hb dX5_fail_24 rfl (lv_at hl 1 rfl) ?_
      refine lv_iconst (v := 1) hx hb dX5_fail_25 (by decide) ?_
      obtain ⟨q2, hq2, hF⟩ := o_b hF
      refine kk_X5_106 G hW hq2 hl.1 ⟨Nat.le_of_ble_eq_true rfl, Nat.le_of_ble_eq_true rfl⟩ ⟨Nat.le_refl _, Nat.le_refl _⟩ (Nat.le_of_ble_eq_true rfl) dX5_fail_26 (fun H locs hW => ?_)
      exact g_iret G hW hF dX5_fail_29
    · replace hF := o_f hc hF
      refine lv_bipush (v := -3) hx hb dX5_fail_20 (by decide) ?_
      exact g_iret G hW hF dX5_fail_22
  · replace hF := o_t hc hF
    refine lv_iconst (v := -1) hx hb dX5_fail_11 (by decide) ?_
    exact g_iret G hW hF dX5_fail_12
end WX5_fail
theorem c_X5_fail {l : Launch} {D : va_G} {dA : Nat → ClassId} {α : Nat → Nat → Nat} (hI : Inj 0 α) {v1 : Int32} {σ σz : sm_M} {r : Int32} (hF : f_X5_fail v1 σ = some (r, σz)) : gM l D dA 0 α yX5_fail cX5_fail 2 (some .int) 6 [.ref (α 0 0), .int v1] σ (some (.int r)) σz :=
  g_met hI (by decide +kernel) (Nat.le_of_ble_eq_true rfl) (fun p e s m below meth c ls G hW hl => w_X5_fail_0 G _ _ hF _ _ _ hW hl)
section KX5_fail
variable {p : Program} {l : Launch} {e : Env} {R : Room} {s : State} {m : MethodId} {args : Array Value} {below : List Frame} {meth : Method} {c : Code} {H : Heap} {locs : List Loc} {cells slots : Nat} {Q : State → Prop}
variable {cc : ByteArray} {pc nL Z : Nat} {ls : Array Slot} {rest : List Value} {D : va_G} {dA : Nat → ClassId} {α : Nat → Nat → Nat} {H0 : Heap} {σ σ' : sm_M} {ret : Option FieldType} {own nm : String}
end KX5_fail
section WX5_nodesThere
variable {p : Program} {l : Launch} {e : Env} {s : State} {m : MethodId} {args : Array Value} {below : List Frame} {meth : Method} {c : Code} {D : va_G} {dA : Nat → ClassId} {α : Nat → Nat → Nat}
set_option maxHeartbeats 4000000 in
set_option maxRecDepth 100000 in
theorem w_X5_nodesThere_27 (G : gx p s m meth c args cX5_nodesThere 3 (some .int) RX5 "nodesThere" D dA) {r : Int32} {σz : sm_M} : ∀ (v1 : Int32) (σ : sm_M), f_X5_nodesThere_27 v1 σ = some (r, σz) → ∀ (H : Heap) (locs : List Loc) (ls : Array Slot), Wd D dA 0 α s.heap σ H locs → lv_has ls 3 [(1, .int v1)] → gW 0 p l e s m args below meth c D dA 0 α (some (.int r)) σz H locs (F0 m 27 ls []) := by
  obtain ⟨hx, hb, hr, hlk, hml, hown, hnm, hts, hK, hNw⟩ := id G
  intro v1 σ hF H locs ls hW hl
  rw [f_X5_nodesThere_27] at hF
  refine lv_iload_n hx hb dX5_nodesThere_27 rfl (lv_at hl 0 rfl) ?_
  exact g_iret G hW hF dX5_nodesThere_28
set_option maxHeartbeats 4000000 in
set_option maxRecDepth 100000 in
theorem w_X5_nodesThere_21 (G : gx p s m meth c args cX5_nodesThere 3 (some .int) RX5 "nodesThere" D dA) {r : Int32} {σz : sm_M} (k4 : Int32 → Int32 → sm_M → Option (Int32 × sm_M)) (hk4 : ∀ (v1 : Int32) (v2 : Int32) (σ : sm_M), k4 v1 v2 σ = some (r, σz) → ∀ (H : Heap) (locs : List Loc) (ls : Array Slot), Wd D dA 0 α s.heap σ H locs → lv_has ls 3 [(0, .ref (α 0 0)), (1, .int v1), (2, .int v2)] → gW 0 p l e s m args below meth c D dA 0 α (some (.int r)) σz H locs (F0 m 4 ls [])) : ∀ (v1 : Int32) (v2 : Int32) (σ : sm_M), f_X5_nodesThere_21 k4 v1 v2 σ = some (r, σz) → ∀ (H : Heap) (locs : List Loc) (ls : Array Slot), Wd D dA 0 α s.heap σ H locs → lv_has ls 3 [(0, .ref (α 0 0)), (1, .int v1), (2, .int v2)] → gW 0 p l e s m args below meth c D dA 0 α (some (.int r)) σz H locs (F0 m 21 ls []) := by
  obtain ⟨hx, hb, hr, hlk, hml, hown, hnm, hts, hK, hNw⟩ := id G
  intro v1 v2 σ hF H locs ls hW hl
  rw [f_X5_nodesThere_21] at hF
  refine lv_iinc (v := (v2 + 1)) (lv' := [(2, .int (v2 + 1)), (0, .ref (α 0 0)), (1, .int v1)]) hx hb dX5_nodesThere_21 hl (k := 2) rfl rfl (by decide) rfl (fun ls hl => ?_)
  refine lv_goto (tgt := 4) hx hb dX5_nodesThere_24 (by decide) ?_
  exact hk4 _ _ _ hF H locs ls hW (lv_sub hl [1, 2, 0] rfl)
set_option maxHeartbeats 4000000 in
set_option maxRecDepth 100000 in
theorem w_X5_nodesThere_4 (G : gx p s m meth c args cX5_nodesThere 3 (some .int) RX5 "nodesThere" D dA) {r : Int32} {σz : sm_M} : ∀ (n : Nat) (v1 : Int32) (v2 : Int32) (σ : sm_M), f_X5_nodesThere_4 n v1 v2 σ = some (r, σz) → ∀ (H : Heap) (locs : List Loc) (ls : Array Slot), Wd D dA 0 α s.heap σ H locs → lv_has ls 3 [(0, .ref (α 0 0)), (1, .int v1), (2, .int v2)] → gW 0 p l e s m args below meth c D dA 0 α (some (.int r)) σz H locs (F0 m 4 ls []) := by
  obtain ⟨hx, hb, hr, hlk, hml, hown, hnm, hts, hK, hNw⟩ := id G
  intro n
  induction n with
  | zero => intro v1 v2 σ hF; exact absurd hF (by intro h; cases h)
  | succ n ih =>
    intro v1 v2 σ hF H locs ls hW hl
    rw [f_X5_nodesThere_4] at hF
    refine lv_iload_n hx hb dX5_nodesThere_4 rfl (lv_at hl 2 rfl) ?_
    refine lv_iconst (v := 4) hx hb dX5_nodesThere_5 (by decide) ?_
    refine lv_icmp_ge (tgt := 27) hx hb dX5_nodesThere_6 (by decide) (fun hc => ?_) (fun hc => ?_)
    · replace hF := o_t hc hF
      exact w_X5_nodesThere_27 G _ _ hF H locs ls hW (lv_sub hl [1] rfl)
    · replace hF := o_f hc hF
      refine lv_aload_n hx hb dX5_nodesThere_9 rfl (lv_at hl 0 rfl) ?_
      refine gg_X5_30 G hW (by decide) dX5_nodesThere_10 ?_
      refine lv_iload_n hx hb dX5_nodesThere_13 rfl (lv_at hl 2 rfl) ?_
      obtain ⟨x1, hx1, hF⟩ := o_b hF
      refine g_aZ (φ := 6) G rfl rfl (by decide) rfl hW (by decide) hx1 dX5_nodesThere_14 ?_
      refine lv_if_eq (tgt := 21) hx hb dX5_nodesThere_15 (by decide) (fun hc => ?_) (fun hc => ?_)
      · replace hF := o_t hc hF
        exact w_X5_nodesThere_21 G (f_X5_nodesThere_4 n) ih _ _ _ hF H locs ls hW (lv_sub hl [0, 1, 2] rfl)
      · replace hF := o_f hc hF
        refine lv_iinc (v := (v1 + 1)) (lv' := [(1, .int (v1 + 1)), (0, .ref (α 0 0)), (2, .int v2)]) hx hb dX5_nodesThere_18 hl (k := 1) rfl rfl (by decide) rfl (fun ls hl => ?_)
        exact w_X5_nodesThere_21 G (f_X5_nodesThere_4 n) ih _ _ _ hF H locs ls hW (lv_sub hl [1, 0, 2] rfl)
set_option maxHeartbeats 4000000 in
set_option maxRecDepth 100000 in
theorem w_X5_nodesThere_0 (G : gx p s m meth c args cX5_nodesThere 3 (some .int) RX5 "nodesThere" D dA) {r : Int32} {σz : sm_M} : ∀ (σ : sm_M), f_X5_nodesThere σ = some (r, σz) → ∀ (H : Heap) (locs : List Loc) (ls : Array Slot), Wd D dA 0 α s.heap σ H locs → lv_has ls 3 [(0, .ref (α 0 0))] → gW 0 p l e s m args below meth c D dA 0 α (some (.int r)) σz H locs (F0 m 0 ls []) := by
  obtain ⟨hx, hb, hr, hlk, hml, hown, hnm, hts, hK, hNw⟩ := id G
  intro σ hF H locs ls hW hl
  rw [f_X5_nodesThere] at hF
  refine lv_iconst (v := 0) hx hb dX5_nodesThere_0 (by decide) ?_
  refine lv_istore_n (lv' := [(1, .int (0 : Int32)), (0, .ref (α 0 0))]) hx hb dX5_nodesThere_1 rfl hl (by decide) rfl (fun ls hl => ?_)
  refine lv_iconst (v := 0) hx hb dX5_nodesThere_2 (by decide) ?_
  refine lv_istore_n (lv' := [(2, .int (0 : Int32)), (1, .int (0 : Int32)), (0, .ref (α 0 0))]) hx hb dX5_nodesThere_3 rfl hl (by decide) rfl (fun ls hl => ?_)
  exact w_X5_nodesThere_4 G 1000 _ _ _ hF H locs ls hW (lv_sub hl [2, 1, 0] rfl)
end WX5_nodesThere
theorem c_X5_nodesThere {l : Launch} {D : va_G} {dA : Nat → ClassId} {α : Nat → Nat → Nat} (hI : Inj 0 α) {σ σz : sm_M} {r : Int32} (hF : f_X5_nodesThere σ = some (r, σz)) : gM l D dA 0 α yX5_nodesThere cX5_nodesThere 3 (some .int) 0 [.ref (α 0 0)] σ (some (.int r)) σz :=
  g_met hI (by decide +kernel) (Nat.le_of_ble_eq_true rfl) (fun p e s m below meth c ls G hW hl => w_X5_nodesThere_0 G  _ hF _ _ _ hW hl)
section KX5_nodesThere
variable {p : Program} {l : Launch} {e : Env} {R : Room} {s : State} {m : MethodId} {args : Array Value} {below : List Frame} {meth : Method} {c : Code} {H : Heap} {locs : List Loc} {cells slots : Nat} {Q : State → Prop}
variable {cc : ByteArray} {pc nL Z : Nat} {ls : Array Slot} {rest : List Value} {D : va_G} {dA : Nat → ClassId} {α : Nat → Nat → Nat} {H0 : Heap} {σ σ' : sm_M} {ret : Option FieldType} {own nm : String}
theorem kk_X5_120 (G : gx p s m meth c args cc nL ret RX5 nm D dA) (hW : Wd D dA 0 α H0 σ H locs) {q : Int32 × sm_M} (hq : f_X5_nodesThere σ = some q) (hls : ls.size = nL) (hR : 0 + 1 ≤ R.frames ∧ 8 + (3 + 11) + 44 * 0 ≤ R.locals) (hf : cells ≤ R.cells ∧ slots ≤ R.slots) (hcat : (rest.map fun v => v.category).sum ≤ 8) (hdg : decode cc pc = .ok (.invokevirtual 120, 3)) (kk : ∀ (H1 : Heap) (locs1 : List Loc), Wd D dA 0 α H0 q.2 H1 locs1 → W p l e R s m args below meth c H1 locs1 cells slots Q (F0 m (pc + 3) ls (.int q.1 :: rest))) : W p l e R s m args below meth c H locs cells slots Q (F0 m pc ls (.ref (α 0 0) :: rest)) :=
  g_cV (n := 0) G (c_X5_nodesThere (l := l) hW.2.2.2 hq) ⟨wm_23_8, wm_23_9, wm_23_10, wm_1_2, wm_23_11⟩ (by decide +kernel) hW (g_recv (φ := 0) (ci := 5) G.2.2.2.2.2.2.2.2.1 rfl rfl rfl (by decide) hW.1 rfl) hR hf rfl hls rfl hcat hdg kk
end KX5_nodesThere
section WX5_emptiestNode
variable {p : Program} {l : Launch} {e : Env} {s : State} {m : MethodId} {args : Array Value} {below : List Frame} {meth : Method} {c : Code} {D : va_G} {dA : Nat → ClassId} {α : Nat → Nat → Nat}
set_option maxHeartbeats 4000000 in
set_option maxRecDepth 100000 in
theorem w_X5_emptiestNode_56 (G : gx p s m meth c args cX5_emptiestNode 6 (some .int) RX5 "emptiestNode" D dA) {r : Int32} {σz : sm_M} : ∀ (v2 : Int32) (σ : sm_M), f_X5_emptiestNode_56 v2 σ = some (r, σz) → ∀ (H : Heap) (locs : List Loc) (ls : Array Slot), Wd D dA 0 α s.heap σ H locs → lv_has ls 6 [(2, .int v2)] → gW 1 p l e s m args below meth c D dA 0 α (some (.int r)) σz H locs (F0 m 56 ls []) := by
  obtain ⟨hx, hb, hr, hlk, hml, hown, hnm, hts, hK, hNw⟩ := id G
  intro v2 σ hF H locs ls hW hl
  rw [f_X5_emptiestNode_56] at hF
  refine lv_iload_n hx hb dX5_emptiestNode_56 rfl (lv_at hl 0 rfl) ?_
  exact g_iret G hW hF dX5_emptiestNode_57
set_option maxHeartbeats 4000000 in
set_option maxRecDepth 100000 in
theorem w_X5_emptiestNode_50 (G : gx p s m meth c args cX5_emptiestNode 6 (some .int) RX5 "emptiestNode" D dA) {r : Int32} {σz : sm_M} (k8 : Int32 → Int32 → Int32 → sm_M → Option (Int32 × sm_M)) (hk8 : ∀ (v2 : Int32) (v3 : Int32) (v4 : Int32) (σ : sm_M), k8 v2 v3 v4 σ = some (r, σz) → ∀ (H : Heap) (locs : List Loc) (ls : Array Slot), Wd D dA 0 α s.heap σ H locs → lv_has ls 6 [(0, .ref (α 0 0)), (2, .int v2), (3, .int v3), (4, .int v4)] → gW 1 p l e s m args below meth c D dA 0 α (some (.int r)) σz H locs (F0 m 8 ls [])) : ∀ (v2 : Int32) (v3 : Int32) (v4 : Int32) (σ : sm_M), f_X5_emptiestNode_50 k8 v2 v3 v4 σ = some (r, σz) → ∀ (H : Heap) (locs : List Loc) (ls : Array Slot), Wd D dA 0 α s.heap σ H locs → lv_has ls 6 [(0, .ref (α 0 0)), (2, .int v2), (3, .int v3), (4, .int v4)] → gW 1 p l e s m args below meth c D dA 0 α (some (.int r)) σz H locs (F0 m 50 ls []) := by
  obtain ⟨hx, hb, hr, hlk, hml, hown, hnm, hts, hK, hNw⟩ := id G
  intro v2 v3 v4 σ hF H locs ls hW hl
  rw [f_X5_emptiestNode_50] at hF
  refine lv_iinc (v := (v4 + 1)) (lv' := [(4, .int (v4 + 1)), (0, .ref (α 0 0)), (2, .int v2), (3, .int v3)]) hx hb dX5_emptiestNode_50 hl (k := 3) rfl rfl (by decide) rfl (fun ls hl => ?_)
  refine lv_goto (tgt := 8) hx hb dX5_emptiestNode_53 (by decide) ?_
  exact hk8 _ _ _ _ hF H locs ls hW (lv_sub hl [1, 2, 3, 0] rfl)
set_option maxHeartbeats 4000000 in
set_option maxRecDepth 100000 in
theorem w_X5_emptiestNode_8 (G : gx p s m meth c args cX5_emptiestNode 6 (some .int) RX5 "emptiestNode" D dA) {r : Int32} {σz : sm_M} : ∀ (n : Nat) (v2 : Int32) (v3 : Int32) (v4 : Int32) (σ : sm_M), f_X5_emptiestNode_8 n v2 v3 v4 σ = some (r, σz) → ∀ (H : Heap) (locs : List Loc) (ls : Array Slot), Wd D dA 0 α s.heap σ H locs → lv_has ls 6 [(0, .ref (α 0 0)), (2, .int v2), (3, .int v3), (4, .int v4)] → gW 1 p l e s m args below meth c D dA 0 α (some (.int r)) σz H locs (F0 m 8 ls []) := by
  obtain ⟨hx, hb, hr, hlk, hml, hown, hnm, hts, hK, hNw⟩ := id G
  intro n
  induction n with
  | zero => intro v2 v3 v4 σ hF; exact absurd hF (by intro h; cases h)
  | succ n ih =>
    intro v2 v3 v4 σ hF H locs ls hW hl
    rw [f_X5_emptiestNode_8] at hF
    refine lv_iload hx hb dX5_emptiestNode_8 (lv_at hl 3 rfl) ?_
    refine lv_iconst (v := 4) hx hb dX5_emptiestNode_10 (by decide) ?_
    refine lv_icmp_ge (tgt := 56) hx hb dX5_emptiestNode_11 (by decide) (fun hc => ?_) (fun hc => ?_)
    · replace hF := o_t hc hF
      exact w_X5_emptiestNode_56 G _ _ hF H locs ls hW (lv_sub hl [1] rfl)
    · replace hF := o_f hc hF
      refine lv_aload_n hx hb dX5_emptiestNode_14 rfl (lv_at hl 0 rfl) ?_
      refine gg_X5_10 G hW (by decide) dX5_emptiestNode_15 ?_
      refine lv_iload hx hb dX5_emptiestNode_18 (lv_at hl 3 rfl) ?_
      obtain ⟨q1, hq1, hF⟩ := o_b hF
      refine kk_X5_124 G hW hq1 hl.1 ⟨Nat.le_of_ble_eq_true rfl, Nat.le_of_ble_eq_true rfl⟩ ⟨Nat.le_refl _, Nat.le_refl _⟩ (Nat.le_of_ble_eq_true rfl) dX5_emptiestNode_20 (fun H locs hW => ?_)
      obtain ⟨q2, hq2, hF⟩ := o_b hF
      refine kk_X5_246 G hW hq2 hl.1 ⟨Nat.le_of_ble_eq_true rfl, Nat.le_of_ble_eq_true rfl⟩ ⟨Nat.le_refl _, Nat.le_refl _⟩ (Nat.le_of_ble_eq_true rfl) dX5_emptiestNode_23 (fun H locs hW => ?_)
      refine lv_istore (lv' := [(5, .int q2.1), (0, .ref (α 0 0)), (2, .int v2), (3, .int v3), (4, .int v4)]) hx hb dX5_emptiestNode_26 hl (by decide) rfl (fun ls hl => ?_)
      refine lv_aload_n hx hb dX5_emptiestNode_28 rfl (lv_at hl 1 rfl) ?_
      refine gg_X5_30 G hW (by decide) dX5_emptiestNode_29 ?_
      refine lv_iload hx hb dX5_emptiestNode_32 (lv_at hl 4 rfl) ?_
      obtain ⟨x3, hx3, hF⟩ := o_b hF
      refine g_aZ (φ := 6) G rfl rfl (by decide) rfl hW (by decide) hx3 dX5_emptiestNode_34 ?_
      refine lv_if_eq (tgt := 50) hx hb dX5_emptiestNode_35 (by decide) (fun hc => ?_) (fun hc => ?_)
      · replace hF := o_t hc hF
        exact w_X5_emptiestNode_50 G (f_X5_emptiestNode_8 n) ih _ _ _ _ hF H locs ls hW (lv_sub hl [1, 2, 3, 4] rfl)
      · replace hF := o_f hc hF
        refine lv_iload hx hb dX5_emptiestNode_38 (lv_at hl 0 rfl) ?_
        refine lv_iload_n hx hb dX5_emptiestNode_40 rfl (lv_at hl 3 rfl) ?_
        refine lv_icmp_ge (tgt := 50) hx hb dX5_emptiestNode_41 (by decide) (fun hc => ?_) (fun hc => ?_)
        · replace hF := o_t hc hF
          exact w_X5_emptiestNode_50 G (f_X5_emptiestNode_8 n) ih _ _ _ _ hF H locs ls hW (lv_sub hl [1, 2, 3, 4] rfl)
        · replace hF := o_f hc hF
          refine lv_iload hx hb dX5_emptiestNode_44 (lv_at hl 4 rfl) ?_
          refine lv_istore_n (lv' := [(2, .int v4), (5, .int q2.1), (0, .ref (α 0 0)), (3, .int v3), (4, .int v4)]) hx hb dX5_emptiestNode_46 rfl hl (by decide) rfl (fun ls hl => ?_)
          refine lv_iload hx hb dX5_emptiestNode_47 (lv_at hl 1 rfl) ?_
          refine lv_istore_n (lv' := [(3, .int q2.1), (2, .int v4), (5, .int q2.1), (0, .ref (α 0 0)), (4, .int v4)]) hx hb dX5_emptiestNode_49 rfl hl (by decide) rfl (fun ls hl => ?_)
          exact w_X5_emptiestNode_50 G (f_X5_emptiestNode_8 n) ih _ _ _ _ hF H locs ls hW (lv_sub hl [3, 1, 0, 4] rfl)
set_option maxHeartbeats 4000000 in
set_option maxRecDepth 100000 in
theorem w_X5_emptiestNode_0 (G : gx p s m meth c args cX5_emptiestNode 6 (some .int) RX5 "emptiestNode" D dA) {r : Int32} {σz : sm_M} : ∀ (v1 : Int32) (σ : sm_M), f_X5_emptiestNode v1 σ = some (r, σz) → ∀ (H : Heap) (locs : List Loc) (ls : Array Slot), Wd D dA 0 α s.heap σ H locs → lv_has ls 6 [(0, .ref (α 0 0)), (1, .int v1)] → gW 1 p l e s m args below meth c D dA 0 α (some (.int r)) σz H locs (F0 m 0 ls []) := by
  obtain ⟨hx, hb, hr, hlk, hml, hown, hnm, hts, hK, hNw⟩ := id G
  intro v1 σ hF H locs ls hW hl
  rw [f_X5_emptiestNode] at hF
  refine lv_iload_n hx hb dX5_emptiestNode_0 rfl (lv_at hl 1 rfl) ?_
  refine lv_istore_n (lv' := [(2, .int v1), (0, .ref (α 0 0)), (1, .int v1)]) hx hb dX5_emptiestNode_1 rfl hl (by decide) rfl (fun ls hl => ?_)
  refine lv_bipush (v := 17) hx hb dX5_emptiestNode_2 (by decide) ?_
  refine lv_istore_n (lv' := [(3, .int (17 : Int32)), (2, .int v1), (0, .ref (α 0 0)), (1, .int v1)]) hx hb dX5_emptiestNode_4 rfl hl (by decide) rfl (fun ls hl => ?_)
  refine lv_iconst (v := 0) hx hb dX5_emptiestNode_5 (by decide) ?_
  refine lv_istore (lv' := [(4, .int (0 : Int32)), (3, .int (17 : Int32)), (2, .int v1), (0, .ref (α 0 0)), (1, .int v1)]) hx hb dX5_emptiestNode_6 hl (by decide) rfl (fun ls hl => ?_)
  exact w_X5_emptiestNode_8 G 1000 _ _ _ _ hF H locs ls hW (lv_sub hl [3, 2, 1, 0] rfl)
end WX5_emptiestNode
theorem c_X5_emptiestNode {l : Launch} {D : va_G} {dA : Nat → ClassId} {α : Nat → Nat → Nat} (hI : Inj 0 α) {v1 : Int32} {σ σz : sm_M} {r : Int32} (hF : f_X5_emptiestNode v1 σ = some (r, σz)) : gM l D dA 0 α yX5_emptiestNode cX5_emptiestNode 6 (some .int) 1 [.ref (α 0 0), .int v1] σ (some (.int r)) σz :=
  g_met hI (by decide +kernel) (Nat.le_of_ble_eq_true rfl) (fun p e s m below meth c ls G hW hl => w_X5_emptiestNode_0 G _ _ hF _ _ _ hW hl)
section KX5_emptiestNode
variable {p : Program} {l : Launch} {e : Env} {R : Room} {s : State} {m : MethodId} {args : Array Value} {below : List Frame} {meth : Method} {c : Code} {H : Heap} {locs : List Loc} {cells slots : Nat} {Q : State → Prop}
variable {cc : ByteArray} {pc nL Z : Nat} {ls : Array Slot} {rest : List Value} {D : va_G} {dA : Nat → ClassId} {α : Nat → Nat → Nat} {H0 : Heap} {σ σ' : sm_M} {ret : Option FieldType} {own nm : String}
theorem kk_X5_304 (G : gx p s m meth c args cc nL ret RX5 nm D dA) (hW : Wd D dA 0 α H0 σ H locs) {v1 : Int32} {q : Int32 × sm_M} (hq : f_X5_emptiestNode v1 σ = some q) (hls : ls.size = nL) (hR : 1 + 1 ≤ R.frames ∧ 8 + (6 + 11) + 44 * 1 ≤ R.locals) (hf : cells ≤ R.cells ∧ slots ≤ R.slots) (hcat : (rest.map fun v => v.category).sum ≤ 8) (hdg : decode cc pc = .ok (.invokevirtual 304, 3)) (kk : ∀ (H1 : Heap) (locs1 : List Loc), Wd D dA 0 α H0 q.2 H1 locs1 → W p l e R s m args below meth c H1 locs1 cells slots Q (F0 m (pc + 3) ls (.int q.1 :: rest))) : W p l e R s m args below meth c H locs cells slots Q (F0 m pc ls (.int v1 :: .ref (α 0 0) :: rest)) :=
  g_cV (n := 1) G (c_X5_emptiestNode (l := l) hW.2.2.2 hq) ⟨wm_23_22, wm_23_23, wm_24_0, wm_1_2, wm_24_1⟩ (by decide +kernel) hW (g_recv (φ := 0) (ci := 5) G.2.2.2.2.2.2.2.2.1 rfl rfl rfl (by decide) hW.1 rfl) hR hf rfl hls rfl hcat hdg kk
end KX5_emptiestNode
section WX5_moveAway
variable {p : Program} {l : Launch} {e : Env} {s : State} {m : MethodId} {args : Array Value} {below : List Frame} {meth : Method} {c : Code} {D : va_G} {dA : Nat → ClassId} {α : Nat → Nat → Nat}
set_option maxHeartbeats 4000000 in
set_option maxRecDepth 100000 in
theorem w_X5_moveAway_49 (G : gx p s m meth c args cX5_moveAway 3 none RX5 "moveAway" D dA) {σz : sm_M} (k2 : Int32 → Int32 → sm_M → Option (sm_M)) (hk2 : ∀ (v1 : Int32) (v2 : Int32) (σ : sm_M), k2 v1 v2 σ = some σz → ∀ (H : Heap) (locs : List Loc) (ls : Array Slot), Wd D dA 0 α s.heap σ H locs → lv_has ls 3 [(0, .ref (α 0 0)), (1, .int v1), (2, .int v2)] → gW 2 p l e s m args below meth c D dA 0 α none σz H locs (F0 m 2 ls [])) : ∀ (v1 : Int32) (v2 : Int32) (σ : sm_M), f_X5_moveAway_49 k2 v1 v2 σ = some σz → ∀ (H : Heap) (locs : List Loc) (ls : Array Slot), Wd D dA 0 α s.heap σ H locs → lv_has ls 3 [(0, .ref (α 0 0)), (1, .int v1), (2, .int v2)] → gW 2 p l e s m args below meth c D dA 0 α none σz H locs (F0 m 49 ls []) := by
  obtain ⟨hx, hb, hr, hlk, hml, hown, hnm, hts, hK, hNw⟩ := id G
  intro v1 v2 σ hF H locs ls hW hl
  rw [f_X5_moveAway_49] at hF
  refine lv_iinc (v := (v2 + 1)) (lv' := [(2, .int (v2 + 1)), (0, .ref (α 0 0)), (1, .int v1)]) hx hb dX5_moveAway_49 hl (k := 2) rfl rfl (by decide) rfl (fun ls hl => ?_)
  refine lv_goto (tgt := 2) hx hb dX5_moveAway_52 (by decide) ?_
  exact hk2 _ _ _ hF H locs ls hW (lv_sub hl [1, 2, 0] rfl)
set_option maxHeartbeats 4000000 in
set_option maxRecDepth 100000 in
theorem w_X5_moveAway_2 (G : gx p s m meth c args cX5_moveAway 3 none RX5 "moveAway" D dA) {σz : sm_M} : ∀ (n : Nat) (v1 : Int32) (v2 : Int32) (σ : sm_M), f_X5_moveAway_2 n v1 v2 σ = some σz → ∀ (H : Heap) (locs : List Loc) (ls : Array Slot), Wd D dA 0 α s.heap σ H locs → lv_has ls 3 [(0, .ref (α 0 0)), (1, .int v1), (2, .int v2)] → gW 2 p l e s m args below meth c D dA 0 α none σz H locs (F0 m 2 ls []) := by
  obtain ⟨hx, hb, hr, hlk, hml, hown, hnm, hts, hK, hNw⟩ := id G
  intro n
  induction n with
  | zero => intro v1 v2 σ hF; exact absurd hF (by intro h; cases h)
  | succ n ih =>
    intro v1 v2 σ hF H locs ls hW hl
    rw [f_X5_moveAway_2] at hF
    refine lv_iload_n hx hb dX5_moveAway_2 rfl (lv_at hl 2 rfl) ?_
    refine lv_aload_n hx hb dX5_moveAway_3 rfl (lv_at hl 0 rfl) ?_
    refine gg_X5_10 G hW (by decide) dX5_moveAway_4 ?_
    refine gg_X5_49 G hW (by decide) dX5_moveAway_7 ?_
    refine lv_icmp_ge (tgt := 55) hx hb dX5_moveAway_10 (by decide) (fun hc => ?_) (fun hc => ?_)
    · replace hF := o_t hc hF
      exact g_vret G hW hF dX5_moveAway_55
    · replace hF := o_f hc hF
      refine lv_iload_n hx hb dX5_moveAway_13 rfl (lv_at hl 1 rfl) ?_
      refine lv_iload_n hx hb dX5_moveAway_14 rfl (lv_at hl 2 rfl) ?_
      obtain ⟨q1, hq1, hF⟩ := o_b hF
      refine kk_X5_202 G hW hq1 hl.1 ⟨Nat.le_of_ble_eq_true rfl, Nat.le_of_ble_eq_true rfl⟩ ⟨Nat.le_refl _, Nat.le_refl _⟩ (Nat.le_of_ble_eq_true rfl) dX5_moveAway_15 (fun H locs hW => ?_)
      refine lv_if_eq (tgt := 49) hx hb dX5_moveAway_18 (by decide) (fun hc => ?_) (fun hc => ?_)
      · replace hF := o_t hc hF
        exact w_X5_moveAway_49 G (f_X5_moveAway_2 n) ih _ _ _ hF H locs ls hW (lv_sub hl [0, 1, 2] rfl)
      · replace hF := o_f hc hF
        refine lv_aload_n hx hb dX5_moveAway_21 rfl (lv_at hl 0 rfl) ?_
        refine gg_X5_10 G hW (by decide) dX5_moveAway_22 ?_
        refine gg_X5_60 G hW (by decide) dX5_moveAway_25 ?_
        refine lv_iload_n hx hb dX5_moveAway_28 rfl (lv_at hl 2 rfl) ?_
        obtain ⟨x2, hx2, hF⟩ := o_b hF
        refine g_aP (φ := 7) (ψ := 4) G rfl rfl (by decide) (ety := (.object "RegionRestarts$Task")) rfl rfl (fun _ => rfl) hW (by decide) hx2 dX5_moveAway_29 ?_
        refine lv_aload_n hx hb dX5_moveAway_30 rfl (lv_at hl 0 rfl) ?_
        refine lv_aload_n hx hb dX5_moveAway_31 rfl (lv_at hl 0 rfl) ?_
        refine gg_X5_10 G hW (by decide) dX5_moveAway_32 ?_
        refine gg_X5_60 G hW (by decide) dX5_moveAway_35 ?_
        refine lv_iload_n hx hb dX5_moveAway_38 rfl (lv_at hl 2 rfl) ?_
        obtain ⟨x3, hx3, hF⟩ := o_b hF
        refine g_aP (φ := 7) (ψ := 4) G rfl rfl (by decide) (ety := (.object "RegionRestarts$Task")) rfl rfl (fun _ => rfl) hW (by decide) hx3 dX5_moveAway_39 ?_
        refine gg_X5_184 G hW (aP_lt hx3) dX5_moveAway_40 ?_
        obtain ⟨q4, hq4, hF⟩ := o_b hF
        refine kk_X5_304 G hW hq4 hl.1 ⟨Nat.le_of_ble_eq_true rfl, Nat.le_of_ble_eq_true rfl⟩ ⟨Nat.le_refl _, Nat.le_refl _⟩ (Nat.le_of_ble_eq_true rfl) dX5_moveAway_43 (fun H locs hW => ?_)
        obtain ⟨σ5, hσ5, hF⟩ := o_b hF
        refine pp_X5_184 G hW (aP_lt hx2) hσ5 dX5_moveAway_46 (fun H locs hW => ?_)
        exact w_X5_moveAway_49 G (f_X5_moveAway_2 n) ih _ _ _ hF H locs ls hW (lv_sub hl [0, 1, 2] rfl)
set_option maxHeartbeats 4000000 in
set_option maxRecDepth 100000 in
theorem w_X5_moveAway_0 (G : gx p s m meth c args cX5_moveAway 3 none RX5 "moveAway" D dA) {σz : sm_M} : ∀ (v1 : Int32) (σ : sm_M), f_X5_moveAway v1 σ = some σz → ∀ (H : Heap) (locs : List Loc) (ls : Array Slot), Wd D dA 0 α s.heap σ H locs → lv_has ls 3 [(0, .ref (α 0 0)), (1, .int v1)] → gW 2 p l e s m args below meth c D dA 0 α none σz H locs (F0 m 0 ls []) := by
  obtain ⟨hx, hb, hr, hlk, hml, hown, hnm, hts, hK, hNw⟩ := id G
  intro v1 σ hF H locs ls hW hl
  rw [f_X5_moveAway] at hF
  refine lv_iconst (v := 0) hx hb dX5_moveAway_0 (by decide) ?_
  refine lv_istore_n (lv' := [(2, .int (0 : Int32)), (0, .ref (α 0 0)), (1, .int v1)]) hx hb dX5_moveAway_1 rfl hl (by decide) rfl (fun ls hl => ?_)
  exact w_X5_moveAway_2 G 1000 _ _ _ hF H locs ls hW (lv_sub hl [1, 2, 0] rfl)
end WX5_moveAway
theorem c_X5_moveAway {l : Launch} {D : va_G} {dA : Nat → ClassId} {α : Nat → Nat → Nat} (hI : Inj 0 α) {v1 : Int32} {σ σz : sm_M} (hF : f_X5_moveAway v1 σ = some σz) : gM l D dA 0 α yX5_moveAway cX5_moveAway 3 none 2 [.ref (α 0 0), .int v1] σ none σz :=
  g_met hI (by decide +kernel) (Nat.le_of_ble_eq_true rfl) (fun p e s m below meth c ls G hW hl => w_X5_moveAway_0 G _ _ hF _ _ _ hW hl)
section KX5_moveAway
variable {p : Program} {l : Launch} {e : Env} {R : Room} {s : State} {m : MethodId} {args : Array Value} {below : List Frame} {meth : Method} {c : Code} {H : Heap} {locs : List Loc} {cells slots : Nat} {Q : State → Prop}
variable {cc : ByteArray} {pc nL Z : Nat} {ls : Array Slot} {rest : List Value} {D : va_G} {dA : Nat → ClassId} {α : Nat → Nat → Nat} {H0 : Heap} {σ σ' : sm_M} {ret : Option FieldType} {own nm : String}
theorem kk_X5_130 (G : gx p s m meth c args cc nL ret RX5 nm D dA) (hW : Wd D dA 0 α H0 σ H locs) {v1 : Int32} {q : sm_M} (hq : f_X5_moveAway v1 σ = some q) (hls : ls.size = nL) (hR : 2 + 1 ≤ R.frames ∧ 8 + (3 + 11) + 44 * 2 ≤ R.locals) (hf : cells ≤ R.cells ∧ slots ≤ R.slots) (hcat : (rest.map fun v => v.category).sum ≤ 8) (hdg : decode cc pc = .ok (.invokevirtual 130, 3)) (kk : ∀ (H1 : Heap) (locs1 : List Loc), Wd D dA 0 α H0 q H1 locs1 → W p l e R s m args below meth c H1 locs1 cells slots Q (F0 m (pc + 3) ls rest)) : W p l e R s m args below meth c H locs cells slots Q (F0 m pc ls (.int v1 :: .ref (α 0 0) :: rest)) :=
  g_cV (n := 1) G (c_X5_moveAway (l := l) hW.2.2.2 hq) ⟨wm_23_17, wm_23_18, wm_23_19, wm_1_2, wm_23_20⟩ (by decide +kernel) hW (g_recv (φ := 0) (ci := 5) G.2.2.2.2.2.2.2.2.1 rfl rfl rfl (by decide) hW.1 rfl) hR hf rfl hls rfl hcat hdg kk
end KX5_moveAway
section WX5_gone
variable {p : Program} {l : Launch} {e : Env} {s : State} {m : MethodId} {args : Array Value} {below : List Frame} {meth : Method} {c : Code} {D : va_G} {dA : Nat → ClassId} {α : Nat → Nat → Nat}
set_option maxHeartbeats 4000000 in
set_option maxRecDepth 100000 in
theorem w_X5_gone_33 (G : gx p s m meth c args cX5_gone 4 (some .int) RX5 "gone" D dA) {r : Int32} {σz : sm_M} : ∀ (σ : sm_M), f_X5_gone_33 σ = some (r, σz) → ∀ (H : Heap) (locs : List Loc) (ls : Array Slot), Wd D dA 0 α s.heap σ H locs → lv_has ls 4 [] → gW 5 p l e s m args below meth c D dA 0 α (some (.int r)) σz H locs (F0 m 33 ls []) := by
  obtain ⟨hx, hb, hr, hlk, hml, hown, hnm, hts, hK, hNw⟩ := id G
  intro σ hF H locs ls hW hl
  rw [f_X5_gone_33] at hF
  refine lv_bipush (v := -3) hx hb dX5_gone_33 (by decide) ?_
  exact g_iret G hW hF dX5_gone_35
set_option maxHeartbeats 4000000 in
set_option maxRecDepth 100000 in
theorem w_X5_gone_0 (G : gx p s m meth c args cX5_gone 4 (some .int) RX5 "gone" D dA) {r : Int32} {σz : sm_M} : ∀ (v1 : Int32) (σ : sm_M), f_X5_gone v1 σ = some (r, σz) → ∀ (H : Heap) (locs : List Loc) (ls : Array Slot), Wd D dA 0 α s.heap σ H locs → lv_has ls 4 [(0, .ref (α 0 0)), (1, .int v1)] → gW 5 p l e s m args below meth c D dA 0 α (some (.int r)) σz H locs (F0 m 0 ls []) := by
  obtain ⟨hx, hb, hr, hlk, hml, hown, hnm, hts, hK, hNw⟩ := id G
  intro v1 σ hF H locs ls hW hl
  rw [f_X5_gone] at hF
  refine lv_iload_n hx hb dX5_gone_0 rfl (lv_at hl 1 rfl) ?_
  obtain ⟨q1, hq1, hF⟩ := o_b hF
  refine kk_X5_37 G hW hq1 hl.1 ⟨Nat.le_of_ble_eq_true rfl, Nat.le_of_ble_eq_true rfl⟩ ⟨Nat.le_refl _, Nat.le_refl _⟩ (Nat.le_of_ble_eq_true rfl) dX5_gone_1 (fun H locs hW => ?_)
  refine lv_if_ne (tgt := 9) hx hb dX5_gone_4 (by decide) (fun hc => ?_) (fun hc => ?_)
  · replace hF := o_f hc hF
    refine lv_aload_n hx hb dX5_gone_9 rfl (lv_at hl 0 rfl) ?_
    refine gg_X5_30 G hW (by decide) dX5_gone_10 ?_
    refine lv_iload_n hx hb dX5_gone_13 rfl (lv_at hl 1 rfl) ?_
    obtain ⟨x2, hx2, hF⟩ := o_b hF
    refine g_aZ (φ := 6) G rfl rfl (by decide) rfl hW (by decide) hx2 dX5_gone_14 ?_
    refine lv_if_eq (tgt := 33) hx hb dX5_gone_15 (by decide) (fun hc => ?_) (fun hc => ?_)
    · replace hF := o_t hc hF
      exact w_X5_gone_33 G  _ hF H locs ls hW (lv_sub hl [] rfl)
    · replace hF := o_f hc hF
      refine lv_aload_n hx hb dX5_gone_18 rfl (lv_at hl 0 rfl) ?_
      obtain ⟨q3, hq3, hF⟩ := o_b hF
      refine kk_X5_120 G hW hq3 hl.1 ⟨Nat.le_of_ble_eq_true rfl, Nat.le_of_ble_eq_true rfl⟩ ⟨Nat.le_refl _, Nat.le_refl _⟩ (Nat.le_of_ble_eq_true rfl) dX5_gone_19 (fun H locs hW => ?_)
      refine lv_iconst (v := 1) hx hb dX5_gone_22 (by decide) ?_
      refine lv_icmp_le (tgt := 33) hx hb dX5_gone_23 (by decide) (fun hc => ?_) (fun hc => ?_)
      · replace hF := o_t hc hF
        exact w_X5_gone_33 G  _ hF H locs ls hW (lv_sub hl [] rfl)
      · replace hF := o_f hc hF
        refine lv_aload_n hx hb dX5_gone_26 rfl (lv_at hl 0 rfl) ?_
        refine gg_X5_85 G hW (by decide) dX5_gone_27 ?_
        refine lv_if_eq (tgt := 36) hx hb dX5_gone_30 (by decide) (fun hc => ?_) (fun hc => ?_)
        · replace hF := o_t hc hF
          refine lv_aload_n hx hb dX5_gone_36 rfl (lv_at hl 0 rfl) ?_
          refine gg_X5_30 G hW (by decide) dX5_gone_37 ?_
          refine lv_iload_n hx hb dX5_gone_40 rfl (lv_at hl 1 rfl) ?_
          refine lv_iconst (v := 0) hx hb dX5_gone_41 (by decide) ?_
          obtain ⟨σ4, hσ4, hF⟩ := o_b hF
          refine g_uZ (φ := 6) G rfl rfl (by decide) rfl hW (by decide) hσ4 dX5_gone_42 (fun H locs hW => ?_)
          refine lv_aload_n hx hb dX5_gone_43 rfl (lv_at hl 0 rfl) ?_
          refine gg_X5_10 G hW (by decide) dX5_gone_44 ?_
          refine lv_iload_n hx hb dX5_gone_47 rfl (lv_at hl 1 rfl) ?_
          obtain ⟨q5, hq5, hF⟩ := o_b hF
          refine kk_X5_124 G hW hq5 hl.1 ⟨Nat.le_of_ble_eq_true rfl, Nat.le_of_ble_eq_true rfl⟩ ⟨Nat.le_refl _, Nat.le_refl _⟩ (Nat.le_of_ble_eq_true rfl) dX5_gone_48 (fun H locs hW => ?_)
          refine lv_istore_n (lv' := [(2, .int q5.1), (0, .ref (α 0 0)), (1, .int v1)]) hx hb dX5_gone_51 rfl hl (by decide) rfl (fun ls hl => ?_)
          refine lv_aload_n hx hb dX5_gone_52 rfl (lv_at hl 1 rfl) ?_
          refine lv_iload_n hx hb dX5_gone_53 rfl (lv_at hl 0 rfl) ?_
          refine lv_iconst (v := 2) hx hb dX5_gone_54 (by decide) ?_
          obtain ⟨q6, hq6, hF⟩ := o_b hF
          refine kk_X5_127 G hW hq6 hl.1 ⟨Nat.le_of_ble_eq_true rfl, Nat.le_of_ble_eq_true rfl⟩ ⟨Nat.le_refl _, Nat.le_refl _⟩ (Nat.le_of_ble_eq_true rfl) dX5_gone_55 (fun H locs hW => ?_)
          refine lv_istore_n (lv' := [(3, .int q6.1), (2, .int q5.1), (0, .ref (α 0 0)), (1, .int v1)]) hx hb dX5_gone_58 rfl hl (by decide) rfl (fun ls hl => ?_)
          refine lv_aload_n hx hb dX5_gone_59 rfl (lv_at hl 2 rfl) ?_
          refine gg_X5_85 G hW (by decide) dX5_gone_60 ?_
          refine lv_if_eq (tgt := 68) hx hb dX5_gone_63 (by decide) (fun hc => ?_) (fun hc => ?_)
          · replace hF := o_t hc hF
            refine lv_aload_n hx hb dX5_gone_68 rfl (lv_at hl 2 rfl) ?_
            refine lv_iload_n hx hb dX5_gone_69 rfl (lv_at hl 1 rfl) ?_
            obtain ⟨q7, hq7, hF⟩ := o_b hF
            refine kk_X5_130 G hW hq7 hl.1 ⟨Nat.le_of_ble_eq_true rfl, Nat.le_of_ble_eq_true rfl⟩ ⟨Nat.le_refl _, Nat.le_refl _⟩ (Nat.le_of_ble_eq_true rfl) dX5_gone_70 (fun H locs hW => ?_)
            refine lv_aload_n hx hb dX5_gone_73 rfl (lv_at hl 2 rfl) ?_
            refine gg_X5_10 G hW (by decide) dX5_gone_74 ?_
            refine lv_iload_n hx hb dX5_gone_77 rfl (lv_at hl 1 rfl) ?_
            obtain ⟨q8, hq8, hF⟩ := o_b hF
            refine kk_X5_133 G hW hq8 hl.1 ⟨Nat.le_of_ble_eq_true rfl, Nat.le_of_ble_eq_true rfl⟩ ⟨Nat.le_refl _, Nat.le_refl _⟩ (Nat.le_of_ble_eq_true rfl) dX5_gone_78 (fun H locs hW => ?_)
            refine lv_aload_n hx hb dX5_gone_81 rfl (lv_at hl 2 rfl) ?_
            refine lv_iload_n hx hb dX5_gone_82 rfl (lv_at hl 1 rfl) ?_
            refine lv_iload_n hx hb dX5_gone_83 rfl (lv_at hl 0 rfl) ?_
            obtain ⟨q9, hq9, hF⟩ := o_b hF
            refine kk_X5_136 G hW hq9 hl.1 ⟨Nat.le_of_ble_eq_true rfl, Nat.le_of_ble_eq_true rfl⟩ ⟨Nat.le_refl _, Nat.le_refl _⟩ (Nat.le_of_ble_eq_true rfl) dX5_gone_84 (fun H locs hW => ?_)
            exact g_iret G hW hF dX5_gone_87
          · replace hF := o_f hc hF
            refine lv_iconst (v := 0) hx hb dX5_gone_66 (by decide) ?_
            exact g_iret G hW hF dX5_gone_67
        · replace hF := o_f hc hF
          exact w_X5_gone_33 G  _ hF H locs ls hW (lv_sub hl [] rfl)
  · replace hF := o_t hc hF
    refine lv_iconst (v := -1) hx hb dX5_gone_7 (by decide) ?_
    exact g_iret G hW hF dX5_gone_8
end WX5_gone
theorem c_X5_gone {l : Launch} {D : va_G} {dA : Nat → ClassId} {α : Nat → Nat → Nat} (hI : Inj 0 α) {v1 : Int32} {σ σz : sm_M} {r : Int32} (hF : f_X5_gone v1 σ = some (r, σz)) : gM l D dA 0 α yX5_gone cX5_gone 4 (some .int) 5 [.ref (α 0 0), .int v1] σ (some (.int r)) σz :=
  g_met hI (by decide +kernel) (Nat.le_of_ble_eq_true rfl) (fun p e s m below meth c ls G hW hl => w_X5_gone_0 G _ _ hF _ _ _ hW hl)
section KX5_gone
variable {p : Program} {l : Launch} {e : Env} {R : Room} {s : State} {m : MethodId} {args : Array Value} {below : List Frame} {meth : Method} {c : Code} {H : Heap} {locs : List Loc} {cells slots : Nat} {Q : State → Prop}
variable {cc : ByteArray} {pc nL Z : Nat} {ls : Array Slot} {rest : List Value} {D : va_G} {dA : Nat → ClassId} {α : Nat → Nat → Nat} {H0 : Heap} {σ σ' : sm_M} {ret : Option FieldType} {own nm : String}
end KX5_gone
section WX5_lose
variable {p : Program} {l : Launch} {e : Env} {s : State} {m : MethodId} {args : Array Value} {below : List Frame} {meth : Method} {c : Code} {D : va_G} {dA : Nat → ClassId} {α : Nat → Nat → Nat}
set_option maxHeartbeats 4000000 in
set_option maxRecDepth 100000 in
theorem w_X5_lose_37 (G : gx p s m meth c args cX5_lose 3 (some .int) RX5 "lose" D dA) {r : Int32} {σz : sm_M} : ∀ (σ : sm_M), f_X5_lose_37 σ = some (r, σz) → ∀ (H : Heap) (locs : List Loc) (ls : Array Slot), Wd D dA 0 α s.heap σ H locs → lv_has ls 3 [] → gW 6 p l e s m args below meth c D dA 0 α (some (.int r)) σz H locs (F0 m 37 ls []) := by
  obtain ⟨hx, hb, hr, hlk, hml, hown, hnm, hts, hK, hNw⟩ := id G
  intro σ hF H locs ls hW hl
  rw [f_X5_lose_37] at hF
  refine lv_bipush (v := -3) hx hb dX5_lose_37 (by decide) ?_
  exact g_iret G hW hF dX5_lose_39
set_option maxHeartbeats 4000000 in
set_option maxRecDepth 100000 in
theorem w_X5_lose_0 (G : gx p s m meth c args cX5_lose 3 (some .int) RX5 "lose" D dA) {r : Int32} {σz : sm_M} : ∀ (v1 : Int32) (σ : sm_M), f_X5_lose v1 σ = some (r, σz) → ∀ (H : Heap) (locs : List Loc) (ls : Array Slot), Wd D dA 0 α s.heap σ H locs → lv_has ls 3 [(0, .ref (α 0 0)), (1, .int v1)] → gW 6 p l e s m args below meth c D dA 0 α (some (.int r)) σz H locs (F0 m 0 ls []) := by
  obtain ⟨hx, hb, hr, hlk, hml, hown, hnm, hts, hK, hNw⟩ := id G
  intro v1 σ hF H locs ls hW hl
  rw [f_X5_lose] at hF
  refine lv_aload_n hx hb dX5_lose_0 rfl (lv_at hl 0 rfl) ?_
  refine gg_X5_10 G hW (by decide) dX5_lose_1 ?_
  refine lv_iload_n hx hb dX5_lose_4 rfl (lv_at hl 1 rfl) ?_
  obtain ⟨q1, hq1, hF⟩ := o_b hF
  refine kk_X5_139 G hW hq1 hl.1 ⟨Nat.le_of_ble_eq_true rfl, Nat.le_of_ble_eq_true rfl⟩ ⟨Nat.le_refl _, Nat.le_refl _⟩ (Nat.le_of_ble_eq_true rfl) dX5_lose_5 (fun H locs hW => ?_)
  refine lv_if_ne (tgt := 13) hx hb dX5_lose_8 (by decide) (fun hc => ?_) (fun hc => ?_)
  · replace hF := o_f hc hF
    refine lv_aload_n hx hb dX5_lose_13 rfl (lv_at hl 0 rfl) ?_
    refine gg_X5_10 G hW (by decide) dX5_lose_14 ?_
    refine gg_X5_142 G hW (by decide) dX5_lose_17 ?_
    refine lv_iload_n hx hb dX5_lose_20 rfl (lv_at hl 1 rfl) ?_
    obtain ⟨x2, hx2, hF⟩ := o_b hF
    refine g_aP (φ := 8) (ψ := 5) G rfl rfl (by decide) (ety := (.object "RegionRestarts$Channel")) rfl rfl (fun _ => rfl) hW (by decide) hx2 dX5_lose_21 ?_
    refine lv_astore_n (lv' := [(2, .ref (α 5 x2)), (0, .ref (α 0 0)), (1, .int v1)]) hx hb dX5_lose_22 rfl hl (by decide) rfl (fun ls hl => ?_)
    refine lv_aload_n hx hb dX5_lose_23 rfl (lv_at hl 0 rfl) ?_
    refine gg_X5_146 G hW (aP_lt hx2) dX5_lose_24 ?_
    refine lv_if_eq (tgt := 37) hx hb dX5_lose_27 (by decide) (fun hc => ?_) (fun hc => ?_)
    · replace hF := o_t hc hF
      exact w_X5_lose_37 G  _ hF H locs ls hW (lv_sub hl [] rfl)
    · replace hF := o_f hc hF
      refine lv_aload_n hx hb dX5_lose_30 rfl (lv_at hl 1 rfl) ?_
      refine gg_X5_85 G hW (by decide) dX5_lose_31 ?_
      refine lv_if_eq (tgt := 40) hx hb dX5_lose_34 (by decide) (fun hc => ?_) (fun hc => ?_)
      · replace hF := o_t hc hF
        refine lv_aload_n hx hb dX5_lose_40 rfl (lv_at hl 0 rfl) ?_
        obtain ⟨q3, hq3, hF⟩ := o_b hF
        refine kk_X5_151 G hW (aP_lt hx2) hq3 hl.1 ⟨Nat.le_of_ble_eq_true rfl, Nat.le_of_ble_eq_true rfl⟩ ⟨Nat.le_refl _, Nat.le_refl _⟩ (Nat.le_of_ble_eq_true rfl) dX5_lose_41 (fun H locs hW => ?_)
        refine lv_aload_n hx hb dX5_lose_44 rfl (lv_at hl 0 rfl) ?_
        refine gg_X5_154 G hW (aP_lt hx2) dX5_lose_45 ?_
        refine lv_if_eq (tgt := 62) hx hb dX5_lose_48 (by decide) (fun hc => ?_) (fun hc => ?_)
        · replace hF := o_t hc hF
          refine lv_iconst (v := 0) hx hb dX5_lose_62 (by decide) ?_
          exact g_iret G hW hF dX5_lose_63
        · replace hF := o_f hc hF
          refine lv_aload_n hx hb dX5_lose_51 rfl (lv_at hl 0 rfl) ?_
          refine gg_X5_157 G hW (aP_lt hx2) dX5_lose_52 ?_
          refine lv_aload_n hx hb dX5_lose_55 rfl (lv_at hl 0 rfl) ?_
          refine gg_X5_160 G hW (aP_lt hx2) dX5_lose_56 ?_
          refine lv_icmp_lt (tgt := 64) hx hb dX5_lose_59 (by decide) (fun hc => ?_) (fun hc => ?_)
          · replace hF := o_t hc hF
            refine lv_aload_n hx hb dX5_lose_64 rfl (lv_at hl 1 rfl) ?_
            refine lv_aload_n hx hb dX5_lose_65 rfl (lv_at hl 0 rfl) ?_
            refine gg_X5_163 G hW (aP_lt hx2) dX5_lose_66 ?_
            refine lv_iconst (v := 3) hx hb dX5_lose_69 (by decide) ?_
            obtain ⟨q4, hq4, hF⟩ := o_b hF
            refine kk_X5_106 G hW hq4 hl.1 ⟨Nat.le_of_ble_eq_true rfl, Nat.le_of_ble_eq_true rfl⟩ ⟨Nat.le_refl _, Nat.le_refl _⟩ (Nat.le_of_ble_eq_true rfl) dX5_lose_70 (fun H locs hW => ?_)
            exact g_iret G hW hF dX5_lose_73
          · replace hF := o_f hc hF
            refine lv_iconst (v := 0) hx hb dX5_lose_62 (by decide) ?_
            exact g_iret G hW hF dX5_lose_63
      · replace hF := o_f hc hF
        exact w_X5_lose_37 G  _ hF H locs ls hW (lv_sub hl [] rfl)
  · replace hF := o_t hc hF
    refine lv_iconst (v := -1) hx hb dX5_lose_11 (by decide) ?_
    exact g_iret G hW hF dX5_lose_12
end WX5_lose
theorem c_X5_lose {l : Launch} {D : va_G} {dA : Nat → ClassId} {α : Nat → Nat → Nat} (hI : Inj 0 α) {v1 : Int32} {σ σz : sm_M} {r : Int32} (hF : f_X5_lose v1 σ = some (r, σz)) : gM l D dA 0 α yX5_lose cX5_lose 3 (some .int) 6 [.ref (α 0 0), .int v1] σ (some (.int r)) σz :=
  g_met hI (by decide +kernel) (Nat.le_of_ble_eq_true rfl) (fun p e s m below meth c ls G hW hl => w_X5_lose_0 G _ _ hF _ _ _ hW hl)
section KX5_lose
variable {p : Program} {l : Launch} {e : Env} {R : Room} {s : State} {m : MethodId} {args : Array Value} {below : List Frame} {meth : Method} {c : Code} {H : Heap} {locs : List Loc} {cells slots : Nat} {Q : State → Prop}
variable {cc : ByteArray} {pc nL Z : Nat} {ls : Array Slot} {rest : List Value} {D : va_G} {dA : Nat → ClassId} {α : Nat → Nat → Nat} {H0 : Heap} {σ σ' : sm_M} {ret : Option FieldType} {own nm : String}
end KX5_lose
section WX5_tick
variable {p : Program} {l : Launch} {e : Env} {s : State} {m : MethodId} {args : Array Value} {below : List Frame} {meth : Method} {c : Code} {D : va_G} {dA : Nat → ClassId} {α : Nat → Nat → Nat}
set_option maxHeartbeats 4000000 in
set_option maxRecDepth 100000 in
theorem w_X5_tick_11 (G : gx p s m meth c args cX5_tick 2 (some .int) RX5 "tick" D dA) {r : Int32} {σz : sm_M} : ∀ (σ : sm_M), f_X5_tick_11 σ = some (r, σz) → ∀ (H : Heap) (locs : List Loc) (ls : Array Slot), Wd D dA 0 α s.heap σ H locs → lv_has ls 2 [] → gW 1 p l e s m args below meth c D dA 0 α (some (.int r)) σz H locs (F0 m 11 ls []) := by
  obtain ⟨hx, hb, hr, hlk, hml, hown, hnm, hts, hK, hNw⟩ := id G
  intro σ hF H locs ls hW hl
  rw [f_X5_tick_11] at hF
  refine lv_bipush (v := -2) hx hb dX5_tick_11 (by decide) ?_
  exact g_iret G hW hF dX5_tick_13
set_option maxHeartbeats 4000000 in
set_option maxRecDepth 100000 in
theorem w_X5_tick_0 (G : gx p s m meth c args cX5_tick 2 (some .int) RX5 "tick" D dA) {r : Int32} {σz : sm_M} : ∀ (v1 : Int32) (σ : sm_M), f_X5_tick v1 σ = some (r, σz) → ∀ (H : Heap) (locs : List Loc) (ls : Array Slot), Wd D dA 0 α s.heap σ H locs → lv_has ls 2 [(0, .ref (α 0 0)), (1, .int v1)] → gW 1 p l e s m args below meth c D dA 0 α (some (.int r)) σz H locs (F0 m 0 ls []) := by
  obtain ⟨hx, hb, hr, hlk, hml, hown, hnm, hts, hK, hNw⟩ := id G
  intro v1 σ hF H locs ls hW hl
  rw [f_X5_tick] at hF
  refine lv_iload_n hx hb dX5_tick_0 rfl (lv_at hl 1 rfl) ?_
  refine lv_iconst (v := 1) hx hb dX5_tick_1 (by decide) ?_
  refine lv_icmp_lt (tgt := 11) hx hb dX5_tick_2 (by decide) (fun hc => ?_) (fun hc => ?_)
  · replace hF := o_t hc hF
    exact w_X5_tick_11 G  _ hF H locs ls hW (lv_sub hl [] rfl)
  · replace hF := o_f hc hF
    refine lv_iload_n hx hb dX5_tick_5 rfl (lv_at hl 1 rfl) ?_
    refine lv_bipush (v := 100) hx hb dX5_tick_6 (by decide) ?_
    refine lv_icmp_le (tgt := 14) hx hb dX5_tick_8 (by decide) (fun hc => ?_) (fun hc => ?_)
    · replace hF := o_t hc hF
      refine lv_aload_n hx hb dX5_tick_14 rfl (lv_at hl 0 rfl) ?_
      refine lv_ldc (v := 1000000) hx hb hown (hts _ cc_X5_166) dX5_tick_15 ?_
      refine lv_aload_n hx hb dX5_tick_17 rfl (lv_at hl 0 rfl) ?_
      refine gg_X5_88 G hW (by decide) dX5_tick_18 ?_
      refine lv_iload_n hx hb dX5_tick_21 rfl (lv_at hl 1 rfl) ?_
      refine lv_iadd hx hb dX5_tick_22 ?_
      refine g_min G hl.1 mm_X5_167 (Nat.le_of_ble_eq_true rfl) (Nat.le_of_ble_eq_true rfl) (Nat.le_refl _) (Nat.le_refl _) dX5_tick_23 ?_
      obtain ⟨σ1, hσ1, hF⟩ := o_b hF
      refine pp_X5_88 G hW (by decide) hσ1 dX5_tick_26 (fun H locs hW => ?_)
      refine lv_aload_n hx hb dX5_tick_29 rfl (lv_at hl 0 rfl) ?_
      refine gg_X5_88 G hW (by decide) dX5_tick_30 ?_
      exact g_iret G hW hF dX5_tick_33
    · replace hF := o_f hc hF
      exact w_X5_tick_11 G  _ hF H locs ls hW (lv_sub hl [] rfl)
end WX5_tick
theorem c_X5_tick {l : Launch} {D : va_G} {dA : Nat → ClassId} {α : Nat → Nat → Nat} (hI : Inj 0 α) {v1 : Int32} {σ σz : sm_M} {r : Int32} (hF : f_X5_tick v1 σ = some (r, σz)) : gM l D dA 0 α yX5_tick cX5_tick 2 (some .int) 1 [.ref (α 0 0), .int v1] σ (some (.int r)) σz :=
  g_met hI (by decide +kernel) (Nat.le_of_ble_eq_true rfl) (fun p e s m below meth c ls G hW hl => w_X5_tick_0 G _ _ hF _ _ _ hW hl)
section KX5_tick
variable {p : Program} {l : Launch} {e : Env} {R : Room} {s : State} {m : MethodId} {args : Array Value} {below : List Frame} {meth : Method} {c : Code} {H : Heap} {locs : List Loc} {cells slots : Nat} {Q : State → Prop}
variable {cc : ByteArray} {pc nL Z : Nat} {ls : Array Slot} {rest : List Value} {D : va_G} {dA : Nat → ClassId} {α : Nat → Nat → Nat} {H0 : Heap} {σ σ' : sm_M} {ret : Option FieldType} {own nm : String}
end KX5_tick
section WX5_mark
variable {p : Program} {l : Launch} {e : Env} {s : State} {m : MethodId} {args : Array Value} {below : List Frame} {meth : Method} {c : Code} {D : va_G} {dA : Nat → ClassId} {α : Nat → Nat → Nat}
set_option maxHeartbeats 4000000 in
set_option maxRecDepth 100000 in
theorem w_X5_mark_21 (G : gx p s m meth c args cX5_mark 1 (some .int) RX5 "mark" D dA) {r : Int32} {σz : sm_M} : ∀ (σ : sm_M), f_X5_mark_21 σ = some (r, σz) → ∀ (H : Heap) (locs : List Loc) (ls : Array Slot), Wd D dA 0 α s.heap σ H locs → lv_has ls 1 [] → gW 3 p l e s m args below meth c D dA 0 α (some (.int r)) σz H locs (F0 m 21 ls []) := by
  obtain ⟨hx, hb, hr, hlk, hml, hown, hnm, hts, hK, hNw⟩ := id G
  intro σ hF H locs ls hW hl
  rw [f_X5_mark_21] at hF
  refine lv_bipush (v := -3) hx hb dX5_mark_21 (by decide) ?_
  exact g_iret G hW hF dX5_mark_23
set_option maxHeartbeats 4000000 in
set_option maxRecDepth 100000 in
theorem w_X5_mark_0 (G : gx p s m meth c args cX5_mark 1 (some .int) RX5 "mark" D dA) {r : Int32} {σz : sm_M} : ∀ (σ : sm_M), f_X5_mark σ = some (r, σz) → ∀ (H : Heap) (locs : List Loc) (ls : Array Slot), Wd D dA 0 α s.heap σ H locs → lv_has ls 1 [(0, .ref (α 0 0))] → gW 3 p l e s m args below meth c D dA 0 α (some (.int r)) σz H locs (F0 m 0 ls []) := by
  obtain ⟨hx, hb, hr, hlk, hml, hown, hnm, hts, hK, hNw⟩ := id G
  intro σ hF H locs ls hW hl
  rw [f_X5_mark] at hF
  refine lv_aload_n hx hb dX5_mark_0 rfl (lv_at hl 0 rfl) ?_
  refine gg_X5_85 G hW (by decide) dX5_mark_1 ?_
  refine lv_if_ne (tgt := 21) hx hb dX5_mark_4 (by decide) (fun hc => ?_) (fun hc => ?_)
  · replace hF := o_f hc hF
    exact w_X5_mark_21 G  _ hF H locs ls hW (lv_sub hl [] rfl)
  · replace hF := o_t hc hF
    refine lv_aload_n hx hb dX5_mark_7 rfl (lv_at hl 0 rfl) ?_
    refine gg_X5_10 G hW (by decide) dX5_mark_8 ?_
    refine lv_aload_n hx hb dX5_mark_11 rfl (lv_at hl 0 rfl) ?_
    refine gg_X5_88 G hW (by decide) dX5_mark_12 ?_
    obtain ⟨q1, hq1, hF⟩ := o_b hF
    refine kk_X5_172 G hW hq1 hl.1 ⟨Nat.le_of_ble_eq_true rfl, Nat.le_of_ble_eq_true rfl⟩ ⟨Nat.le_refl _, Nat.le_refl _⟩ (Nat.le_of_ble_eq_true rfl) dX5_mark_15 (fun H locs hW => ?_)
    refine lv_if_le (tgt := 24) hx hb dX5_mark_18 (by decide) (fun hc => ?_) (fun hc => ?_)
    · replace hF := o_t hc hF
      refine lv_aload_n hx hb dX5_mark_24 rfl (lv_at hl 0 rfl) ?_
      refine gg_X5_10 G hW (by decide) dX5_mark_25 ?_
      obtain ⟨q2, hq2, hF⟩ := o_b hF
      refine kk_X5_175 G hW hq2 hl.1 ⟨Nat.le_of_ble_eq_true rfl, Nat.le_of_ble_eq_true rfl⟩ ⟨Nat.le_refl _, Nat.le_refl _⟩ (Nat.le_of_ble_eq_true rfl) dX5_mark_28 (fun H locs hW => ?_)
      refine lv_aload_n hx hb dX5_mark_31 rfl (lv_at hl 0 rfl) ?_
      refine lv_dup hx hb dX5_mark_32 rfl ?_
      refine gg_X5_178 G hW (by decide) dX5_mark_33 ?_
      refine lv_iconst (v := 1) hx hb dX5_mark_36 (by decide) ?_
      refine lv_iadd hx hb dX5_mark_37 ?_
      obtain ⟨σ3, hσ3, hF⟩ := o_b hF
      refine pp_X5_178 G hW (by decide) hσ3 dX5_mark_38 (fun H locs hW => ?_)
      refine lv_aload_n hx hb dX5_mark_41 rfl (lv_at hl 0 rfl) ?_
      refine gg_X5_178 G hW (by decide) dX5_mark_42 ?_
      exact g_iret G hW hF dX5_mark_45
    · replace hF := o_f hc hF
      exact w_X5_mark_21 G  _ hF H locs ls hW (lv_sub hl [] rfl)
end WX5_mark
theorem c_X5_mark {l : Launch} {D : va_G} {dA : Nat → ClassId} {α : Nat → Nat → Nat} (hI : Inj 0 α) {σ σz : sm_M} {r : Int32} (hF : f_X5_mark σ = some (r, σz)) : gM l D dA 0 α yX5_mark cX5_mark 1 (some .int) 3 [.ref (α 0 0)] σ (some (.int r)) σz :=
  g_met hI (by decide +kernel) (Nat.le_of_ble_eq_true rfl) (fun p e s m below meth c ls G hW hl => w_X5_mark_0 G  _ hF _ _ _ hW hl)
section KX5_mark
variable {p : Program} {l : Launch} {e : Env} {R : Room} {s : State} {m : MethodId} {args : Array Value} {below : List Frame} {meth : Method} {c : Code} {H : Heap} {locs : List Loc} {cells slots : Nat} {Q : State → Prop}
variable {cc : ByteArray} {pc nL Z : Nat} {ls : Array Slot} {rest : List Value} {D : va_G} {dA : Nat → ClassId} {α : Nat → Nat → Nat} {H0 : Heap} {σ σ' : sm_M} {ret : Option FieldType} {own nm : String}
end KX5_mark
section WX5_region
variable {p : Program} {l : Launch} {e : Env} {s : State} {m : MethodId} {args : Array Value} {below : List Frame} {meth : Method} {c : Code} {D : va_G} {dA : Nat → ClassId} {α : Nat → Nat → Nat}
set_option maxHeartbeats 4000000 in
set_option maxRecDepth 100000 in
theorem w_X5_region_0 (G : gx p s m meth c args cX5_region 2 (some .int) RX5 "region" D dA) {r : Int32} {σz : sm_M} : ∀ (v1 : Int32) (σ : sm_M), f_X5_region v1 σ = some (r, σz) → ∀ (H : Heap) (locs : List Loc) (ls : Array Slot), Wd D dA 0 α s.heap σ H locs → lv_has ls 2 [(0, .ref (α 0 0)), (1, .int v1)] → gW 4 p l e s m args below meth c D dA 0 α (some (.int r)) σz H locs (F0 m 0 ls []) := by
  obtain ⟨hx, hb, hr, hlk, hml, hown, hnm, hts, hK, hNw⟩ := id G
  intro v1 σ hF H locs ls hW hl
  rw [f_X5_region] at hF
  refine lv_aload_n hx hb dX5_region_0 rfl (lv_at hl 0 rfl) ?_
  refine gg_X5_10 G hW (by decide) dX5_region_1 ?_
  refine lv_iload_n hx hb dX5_region_4 rfl (lv_at hl 1 rfl) ?_
  obtain ⟨q1, hq1, hF⟩ := o_b hF
  refine kk_X5_57 G hW hq1 hl.1 ⟨Nat.le_of_ble_eq_true rfl, Nat.le_of_ble_eq_true rfl⟩ ⟨Nat.le_refl _, Nat.le_refl _⟩ (Nat.le_of_ble_eq_true rfl) dX5_region_5 (fun H locs hW => ?_)
  refine lv_if_ne (tgt := 13) hx hb dX5_region_8 (by decide) (fun hc => ?_) (fun hc => ?_)
  · replace hF := o_f hc hF
    refine lv_aload_n hx hb dX5_region_13 rfl (lv_at hl 0 rfl) ?_
    refine gg_X5_10 G hW (by decide) dX5_region_14 ?_
    refine lv_iconst (v := 1) hx hb dX5_region_17 (by decide) ?_
    refine lv_iload_n hx hb dX5_region_18 rfl (lv_at hl 1 rfl) ?_
    refine lv_ishl hx hb dX5_region_19 ?_
    obtain ⟨q2, hq2, hF⟩ := o_b hF
    refine kk_X5_181 G hW hq2 hl.1 ⟨Nat.le_of_ble_eq_true rfl, Nat.le_of_ble_eq_true rfl⟩ ⟨Nat.le_refl _, Nat.le_refl _⟩ (Nat.le_of_ble_eq_true rfl) dX5_region_20 (fun H locs hW => ?_)
    exact g_iret G hW hF dX5_region_23
  · replace hF := o_t hc hF
    refine lv_iconst (v := -1) hx hb dX5_region_11 (by decide) ?_
    exact g_iret G hW hF dX5_region_12
end WX5_region
theorem c_X5_region {l : Launch} {D : va_G} {dA : Nat → ClassId} {α : Nat → Nat → Nat} (hI : Inj 0 α) {v1 : Int32} {σ σz : sm_M} {r : Int32} (hF : f_X5_region v1 σ = some (r, σz)) : gM l D dA 0 α yX5_region cX5_region 2 (some .int) 4 [.ref (α 0 0), .int v1] σ (some (.int r)) σz :=
  g_met hI (by decide +kernel) (Nat.le_of_ble_eq_true rfl) (fun p e s m below meth c ls G hW hl => w_X5_region_0 G _ _ hF _ _ _ hW hl)
section KX5_region
variable {p : Program} {l : Launch} {e : Env} {R : Room} {s : State} {m : MethodId} {args : Array Value} {below : List Frame} {meth : Method} {c : Code} {H : Heap} {locs : List Loc} {cells slots : Nat} {Q : State → Prop}
variable {cc : ByteArray} {pc nL Z : Nat} {ls : Array Slot} {rest : List Value} {D : va_G} {dA : Nat → ClassId} {α : Nat → Nat → Nat} {H0 : Heap} {σ σ' : sm_M} {ret : Option FieldType} {own nm : String}
end KX5_region
section WX5_asNumber
variable {p : Program} {l : Launch} {e : Env} {s : State} {m : MethodId} {args : Array Value} {below : List Frame} {meth : Method} {c : Code} {D : va_G} {dA : Nat → ClassId} {α : Nat → Nat → Nat}
set_option maxHeartbeats 4000000 in
set_option maxRecDepth 100000 in
theorem w_X5_asNumber_9 (G : gx p s m meth c args cX5_asNumber 1 (some .int) RX5 "asNumber" D dA) {r : Int32} {σz : sm_M} : ∀ (s0 : Int32) (σ : sm_M), f_X5_asNumber_9 s0 σ = some (r, σz) → ∀ (H : Heap) (locs : List Loc) (ls : Array Slot), Wd D dA 0 α s.heap σ H locs → lv_has ls 1 [] → gW 0 p l e s m args below meth c D dA 0 α (some (.int r)) σz H locs (F0 m 9 ls [.int s0]) := by
  obtain ⟨hx, hb, hr, hlk, hml, hown, hnm, hts, hK, hNw⟩ := id G
  intro s0 σ hF H locs ls hW hl
  rw [f_X5_asNumber_9] at hF
  exact g_iret G hW hF dX5_asNumber_9
set_option maxHeartbeats 4000000 in
set_option maxRecDepth 100000 in
theorem w_X5_asNumber_0 (G : gx p s m meth c args cX5_asNumber 1 (some .int) RX5 "asNumber" D dA) {r : Int32} {σz : sm_M} : ∀ (v0 : Int32) (σ : sm_M), f_X5_asNumber v0 σ = some (r, σz) → ∀ (H : Heap) (locs : List Loc) (ls : Array Slot), Wd D dA 0 α s.heap σ H locs → lv_has ls 1 [(0, .int v0)] → gW 0 p l e s m args below meth c D dA 0 α (some (.int r)) σz H locs (F0 m 0 ls []) := by
  obtain ⟨hx, hb, hr, hlk, hml, hown, hnm, hts, hK, hNw⟩ := id G
  intro v0 σ hF H locs ls hW hl
  rw [f_X5_asNumber] at hF
  refine lv_iload_n hx hb dX5_asNumber_0 rfl (lv_at hl 0 rfl) ?_
  refine lv_if_eq (tgt := 8) hx hb dX5_asNumber_1 (by decide) (fun hc => ?_) (fun hc => ?_)
  · replace hF := o_t hc hF
    refine lv_iconst (v := 0) hx hb dX5_asNumber_8 (by decide) ?_
    exact w_X5_asNumber_9 G _ _ hF H locs ls hW (lv_sub hl [] rfl)
  · replace hF := o_f hc hF
    refine lv_iconst (v := 1) hx hb dX5_asNumber_4 (by decide) ?_
    refine lv_goto (tgt := 9) hx hb dX5_asNumber_5 (by decide) ?_
    exact w_X5_asNumber_9 G _ _ hF H locs ls hW (lv_sub hl [] rfl)
end WX5_asNumber
theorem c_X5_asNumber {l : Launch} {D : va_G} {dA : Nat → ClassId} {α : Nat → Nat → Nat} (hI : Inj 0 α) {v0 : Int32} {σ σz : sm_M} {r : Int32} (hF : f_X5_asNumber v0 σ = some (r, σz)) : gM l D dA 0 α yX5_asNumber cX5_asNumber 1 (some .int) 0 [.int v0] σ (some (.int r)) σz :=
  g_met hI (by decide +kernel) (Nat.le_of_ble_eq_true rfl) (fun p e s m below meth c ls G hW hl => w_X5_asNumber_0 G _ _ hF _ _ _ hW hl)
section KX5_asNumber
variable {p : Program} {l : Launch} {e : Env} {R : Room} {s : State} {m : MethodId} {args : Array Value} {below : List Frame} {meth : Method} {c : Code} {H : Heap} {locs : List Loc} {cells slots : Nat} {Q : State → Prop}
variable {cc : ByteArray} {pc nL Z : Nat} {ls : Array Slot} {rest : List Value} {D : va_G} {dA : Nat → ClassId} {α : Nat → Nat → Nat} {H0 : Heap} {σ σ' : sm_M} {ret : Option FieldType} {own nm : String}
theorem kk_X5_205 (G : gx p s m meth c args cc nL ret RX5 nm D dA) (hW : Wd D dA 0 α H0 σ H locs) {v0 : Int32} {q : Int32 × sm_M} (hq : f_X5_asNumber v0 σ = some q) (hls : ls.size = nL) (hR : 0 + 1 ≤ R.frames ∧ 8 + (1 + 11) + 44 * 0 ≤ R.locals) (hf : cells ≤ R.cells ∧ slots ≤ R.slots) (hcat : (rest.map fun v => v.category).sum ≤ 8) (hdg : decode cc pc = .ok (.invokestatic 205, 3)) (kk : ∀ (H1 : Heap) (locs1 : List Loc), Wd D dA 0 α H0 q.2 H1 locs1 → W p l e R s m args below meth c H1 locs1 cells slots Q (F0 m (pc + 3) ls (.int q.1 :: rest))) : W p l e R s m args below meth c H locs cells slots Q (F0 m pc ls (.int v0 :: rest)) :=
  g_cS (n := 1) G (c_X5_asNumber (l := l) hW.2.2.2 hq) ⟨wm_27_17, wm_27_18, wm_1_2, wm_27_19⟩ (by decide +kernel) hW hR hf rfl hls rfl hcat hdg kk
end KX5_asNumber
section WX5_taskAt
variable {p : Program} {l : Launch} {e : Env} {s : State} {m : MethodId} {args : Array Value} {below : List Frame} {meth : Method} {c : Code} {D : va_G} {dA : Nat → ClassId} {α : Nat → Nat → Nat}
set_option maxHeartbeats 4000000 in
set_option maxRecDepth 100000 in
theorem w_X5_taskAt_0 (G : gx p s m meth c args cX5_taskAt 4 (some .int) RX5 "taskAt" D dA) {r : Int32} {σz : sm_M} : ∀ (v1 : Int32) (v2 : Int32) (σ : sm_M), f_X5_taskAt v1 v2 σ = some (r, σz) → ∀ (H : Heap) (locs : List Loc) (ls : Array Slot), Wd D dA 0 α s.heap σ H locs → lv_has ls 4 [(0, .ref (α 0 0)), (1, .int v1), (2, .int v2)] → gW 4 p l e s m args below meth c D dA 0 α (some (.int r)) σz H locs (F0 m 0 ls []) := by
  obtain ⟨hx, hb, hr, hlk, hml, hown, hnm, hts, hK, hNw⟩ := id G
  intro v1 v2 σ hF H locs ls hW hl
  rw [f_X5_taskAt] at hF
  refine lv_aload_n hx hb dX5_taskAt_0 rfl (lv_at hl 0 rfl) ?_
  refine gg_X5_10 G hW (by decide) dX5_taskAt_1 ?_
  refine lv_iload_n hx hb dX5_taskAt_4 rfl (lv_at hl 1 rfl) ?_
  obtain ⟨q1, hq1, hF⟩ := o_b hF
  refine kk_X5_57 G hW hq1 hl.1 ⟨Nat.le_of_ble_eq_true rfl, Nat.le_of_ble_eq_true rfl⟩ ⟨Nat.le_refl _, Nat.le_refl _⟩ (Nat.le_of_ble_eq_true rfl) dX5_taskAt_5 (fun H locs hW => ?_)
  refine lv_if_ne (tgt := 13) hx hb dX5_taskAt_8 (by decide) (fun hc => ?_) (fun hc => ?_)
  · replace hF := o_f hc hF
    refine lv_aload_n hx hb dX5_taskAt_13 rfl (lv_at hl 0 rfl) ?_
    refine gg_X5_10 G hW (by decide) dX5_taskAt_14 ?_
    refine gg_X5_60 G hW (by decide) dX5_taskAt_17 ?_
    refine lv_iload_n hx hb dX5_taskAt_20 rfl (lv_at hl 1 rfl) ?_
    obtain ⟨x2, hx2, hF⟩ := o_b hF
    refine g_aP (φ := 7) (ψ := 4) G rfl rfl (by decide) (ety := (.object "RegionRestarts$Task")) rfl rfl (fun _ => rfl) hW (by decide) hx2 dX5_taskAt_21 ?_
    refine lv_astore_n (lv' := [(3, .ref (α 4 x2)), (0, .ref (α 0 0)), (1, .int v1), (2, .int v2)]) hx hb dX5_taskAt_22 rfl hl (by decide) rfl (fun ls hl => ?_)
    refine lv_iload_n hx hb dX5_taskAt_23 rfl (lv_at hl 3 rfl) ?_
    by_cases n0 : v2 = 0
    · replace hF := o_t n0 hF
      refine lv_tableIn (tgt := 80) (off := 56) hx hb dX5_taskAt_24 (by rw [n0]; decide) (by rw [n0]; decide) (by rw [n0]; rfl) (by decide) ?_
      refine lv_aload_n hx hb dX5_taskAt_80 rfl (lv_at hl 0 rfl) ?_
      refine gg_X5_64 G hW (aP_lt hx2) dX5_taskAt_81 ?_
      exact g_iret G hW hF dX5_taskAt_84
    · replace hF := o_f n0 hF
      by_cases n1 : v2 = 1
      · replace hF := o_t n1 hF
        refine lv_tableIn (tgt := 85) (off := 61) hx hb dX5_taskAt_24 (by rw [n1]; decide) (by rw [n1]; decide) (by rw [n1]; rfl) (by decide) ?_
        refine lv_aload_n hx hb dX5_taskAt_85 rfl (lv_at hl 0 rfl) ?_
        refine gg_X5_184 G hW (aP_lt hx2) dX5_taskAt_86 ?_
        exact g_iret G hW hF dX5_taskAt_89
      · replace hF := o_f n1 hF
        by_cases n2 : v2 = 2
        · replace hF := o_t n2 hF
          refine lv_tableIn (tgt := 90) (off := 66) hx hb dX5_taskAt_24 (by rw [n2]; decide) (by rw [n2]; decide) (by rw [n2]; rfl) (by decide) ?_
          refine lv_aload_n hx hb dX5_taskAt_90 rfl (lv_at hl 0 rfl) ?_
          refine gg_X5_187 G hW (aP_lt hx2) dX5_taskAt_91 ?_
          exact g_iret G hW hF dX5_taskAt_94
        · replace hF := o_f n2 hF
          by_cases n3 : v2 = 3
          · replace hF := o_t n3 hF
            refine lv_tableIn (tgt := 95) (off := 71) hx hb dX5_taskAt_24 (by rw [n3]; decide) (by rw [n3]; decide) (by rw [n3]; rfl) (by decide) ?_
            refine lv_aload_n hx hb dX5_taskAt_95 rfl (lv_at hl 0 rfl) ?_
            refine gg_X5_190 G hW (aP_lt hx2) dX5_taskAt_96 ?_
            exact g_iret G hW hF dX5_taskAt_99
          · replace hF := o_f n3 hF
            by_cases n4 : v2 = 4
            · replace hF := o_t n4 hF
              refine lv_tableIn (tgt := 100) (off := 76) hx hb dX5_taskAt_24 (by rw [n4]; decide) (by rw [n4]; decide) (by rw [n4]; rfl) (by decide) ?_
              refine lv_aload_n hx hb dX5_taskAt_100 rfl (lv_at hl 0 rfl) ?_
              refine gg_X5_193 G hW (aP_lt hx2) dX5_taskAt_101 ?_
              exact g_iret G hW hF dX5_taskAt_104
            · replace hF := o_f n4 hF
              by_cases n5 : v2 = 5
              · replace hF := o_t n5 hF
                refine lv_tableIn (tgt := 105) (off := 81) hx hb dX5_taskAt_24 (by rw [n5]; decide) (by rw [n5]; decide) (by rw [n5]; rfl) (by decide) ?_
                refine lv_aload_n hx hb dX5_taskAt_105 rfl (lv_at hl 0 rfl) ?_
                refine gg_X5_196 G hW (aP_lt hx2) dX5_taskAt_106 ?_
                exact g_iret G hW hF dX5_taskAt_109
              · replace hF := o_f n5 hF
                by_cases n6 : v2 = 6
                · replace hF := o_t n6 hF
                  refine lv_tableIn (tgt := 110) (off := 86) hx hb dX5_taskAt_24 (by rw [n6]; decide) (by rw [n6]; decide) (by rw [n6]; rfl) (by decide) ?_
                  refine lv_aload_n hx hb dX5_taskAt_110 rfl (lv_at hl 0 rfl) ?_
                  refine lv_aload_n hx hb dX5_taskAt_111 rfl (lv_at hl 1 rfl) ?_
                  refine gg_X5_88 G hW (by decide) dX5_taskAt_112 ?_
                  obtain ⟨q3, hq3, hF⟩ := o_b hF
                  refine kk_X5_91 G hW (aP_lt hx2) hq3 hl.1 ⟨Nat.le_of_ble_eq_true rfl, Nat.le_of_ble_eq_true rfl⟩ ⟨Nat.le_refl _, Nat.le_refl _⟩ (Nat.le_of_ble_eq_true rfl) dX5_taskAt_115 (fun H locs hW => ?_)
                  exact g_iret G hW hF dX5_taskAt_118
                · replace hF := o_f n6 hF
                  by_cases n7 : v2 = 7
                  · replace hF := o_t n7 hF
                    refine lv_tableIn (tgt := 119) (off := 95) hx hb dX5_taskAt_24 (by rw [n7]; decide) (by rw [n7]; decide) (by rw [n7]; rfl) (by decide) ?_
                    refine lv_aload_n hx hb dX5_taskAt_119 rfl (lv_at hl 1 rfl) ?_
                    refine gg_X5_10 G hW (by decide) dX5_taskAt_120 ?_
                    obtain ⟨q4, hq4, hF⟩ := o_b hF
                    refine kk_X5_199 G hW hq4 hl.1 ⟨Nat.le_of_ble_eq_true rfl, Nat.le_of_ble_eq_true rfl⟩ ⟨Nat.le_refl _, Nat.le_refl _⟩ (Nat.le_of_ble_eq_true rfl) dX5_taskAt_123 (fun H locs hW => ?_)
                    refine lv_iload_n hx hb dX5_taskAt_126 rfl (lv_at hl 2 rfl) ?_
                    obtain ⟨q5, hq5, hF⟩ := o_b hF
                    refine kk_X5_202 G hW hq5 hl.1 ⟨Nat.le_of_ble_eq_true rfl, Nat.le_of_ble_eq_true rfl⟩ ⟨Nat.le_refl _, Nat.le_refl _⟩ (Nat.le_of_ble_eq_true rfl) dX5_taskAt_127 (fun H locs hW => ?_)
                    obtain ⟨q6, hq6, hF⟩ := o_b hF
                    refine kk_X5_205 G hW hq6 hl.1 ⟨Nat.le_of_ble_eq_true rfl, Nat.le_of_ble_eq_true rfl⟩ ⟨Nat.le_refl _, Nat.le_refl _⟩ (Nat.le_of_ble_eq_true rfl) dX5_taskAt_130 (fun H locs hW => ?_)
                    exact g_iret G hW hF dX5_taskAt_133
                  · replace hF := o_f n7 hF
                    by_cases n8 : v2 = 8
                    · replace hF := o_t n8 hF
                      refine lv_tableIn (tgt := 134) (off := 110) hx hb dX5_taskAt_24 (by rw [n8]; decide) (by rw [n8]; decide) (by rw [n8]; rfl) (by decide) ?_
                      refine lv_aload_n hx hb dX5_taskAt_134 rfl (lv_at hl 0 rfl) ?_
                      refine gg_X5_209 G hW (aP_lt hx2) dX5_taskAt_135 ?_
                      exact g_iret G hW hF dX5_taskAt_138
                    · replace hF := o_f n8 hF
                      by_cases n9 : v2 = 9
                      · replace hF := o_t n9 hF
                        refine lv_tableIn (tgt := 139) (off := 115) hx hb dX5_taskAt_24 (by rw [n9]; decide) (by rw [n9]; decide) (by rw [n9]; rfl) (by decide) ?_
                        refine lv_aload_n hx hb dX5_taskAt_139 rfl (lv_at hl 0 rfl) ?_
                        refine gg_X5_212 G hW (aP_lt hx2) dX5_taskAt_140 ?_
                        exact g_iret G hW hF dX5_taskAt_143
                      · replace hF := o_f n9 hF
                        refine lv_tableOut (tgt := 144) hx hb dX5_taskAt_24 (t_out 0 9 (fun z h1 h2 => by have hz : z = 0 ∨ z = 1 ∨ z = 2 ∨ z = 3 ∨ z = 4 ∨ z = 5 ∨ z = 6 ∨ z = 7 ∨ z = 8 ∨ z = 9 := (by omega); rcases hz with rfl | rfl | rfl | rfl | rfl | rfl | rfl | rfl | rfl | rfl <;> assumption)) (by decide) ?_
                        refine lv_bipush (v := -2) hx hb dX5_taskAt_144 (by decide) ?_
                        exact g_iret G hW hF dX5_taskAt_146
  · replace hF := o_t hc hF
    refine lv_iconst (v := -1) hx hb dX5_taskAt_11 (by decide) ?_
    exact g_iret G hW hF dX5_taskAt_12
end WX5_taskAt
theorem c_X5_taskAt {l : Launch} {D : va_G} {dA : Nat → ClassId} {α : Nat → Nat → Nat} (hI : Inj 0 α) {v1 : Int32} {v2 : Int32} {σ σz : sm_M} {r : Int32} (hF : f_X5_taskAt v1 v2 σ = some (r, σz)) : gM l D dA 0 α yX5_taskAt cX5_taskAt 4 (some .int) 4 [.ref (α 0 0), .int v1, .int v2] σ (some (.int r)) σz :=
  g_met hI (by decide +kernel) (Nat.le_of_ble_eq_true rfl) (fun p e s m below meth c ls G hW hl => w_X5_taskAt_0 G _ _ _ hF _ _ _ hW hl)
section KX5_taskAt
variable {p : Program} {l : Launch} {e : Env} {R : Room} {s : State} {m : MethodId} {args : Array Value} {below : List Frame} {meth : Method} {c : Code} {H : Heap} {locs : List Loc} {cells slots : Nat} {Q : State → Prop}
variable {cc : ByteArray} {pc nL Z : Nat} {ls : Array Slot} {rest : List Value} {D : va_G} {dA : Nat → ClassId} {α : Nat → Nat → Nat} {H0 : Heap} {σ σ' : sm_M} {ret : Option FieldType} {own nm : String}
end KX5_taskAt
section WX5_channelAt
variable {p : Program} {l : Launch} {e : Env} {s : State} {m : MethodId} {args : Array Value} {below : List Frame} {meth : Method} {c : Code} {D : va_G} {dA : Nat → ClassId} {α : Nat → Nat → Nat}
set_option maxHeartbeats 4000000 in
set_option maxRecDepth 100000 in
theorem w_X5_channelAt_0 (G : gx p s m meth c args cX5_channelAt 4 (some .int) RX5 "channelAt" D dA) {r : Int32} {σz : sm_M} : ∀ (v1 : Int32) (v2 : Int32) (σ : sm_M), f_X5_channelAt v1 v2 σ = some (r, σz) → ∀ (H : Heap) (locs : List Loc) (ls : Array Slot), Wd D dA 0 α s.heap σ H locs → lv_has ls 4 [(0, .ref (α 0 0)), (1, .int v1), (2, .int v2)] → gW 4 p l e s m args below meth c D dA 0 α (some (.int r)) σz H locs (F0 m 0 ls []) := by
  obtain ⟨hx, hb, hr, hlk, hml, hown, hnm, hts, hK, hNw⟩ := id G
  intro v1 v2 σ hF H locs ls hW hl
  rw [f_X5_channelAt] at hF
  refine lv_aload_n hx hb dX5_channelAt_0 rfl (lv_at hl 0 rfl) ?_
  refine gg_X5_10 G hW (by decide) dX5_channelAt_1 ?_
  refine lv_iload_n hx hb dX5_channelAt_4 rfl (lv_at hl 1 rfl) ?_
  obtain ⟨q1, hq1, hF⟩ := o_b hF
  refine kk_X5_139 G hW hq1 hl.1 ⟨Nat.le_of_ble_eq_true rfl, Nat.le_of_ble_eq_true rfl⟩ ⟨Nat.le_refl _, Nat.le_refl _⟩ (Nat.le_of_ble_eq_true rfl) dX5_channelAt_5 (fun H locs hW => ?_)
  refine lv_if_ne (tgt := 13) hx hb dX5_channelAt_8 (by decide) (fun hc => ?_) (fun hc => ?_)
  · replace hF := o_f hc hF
    refine lv_aload_n hx hb dX5_channelAt_13 rfl (lv_at hl 0 rfl) ?_
    refine gg_X5_10 G hW (by decide) dX5_channelAt_14 ?_
    refine gg_X5_142 G hW (by decide) dX5_channelAt_17 ?_
    refine lv_iload_n hx hb dX5_channelAt_20 rfl (lv_at hl 1 rfl) ?_
    obtain ⟨x2, hx2, hF⟩ := o_b hF
    refine g_aP (φ := 8) (ψ := 5) G rfl rfl (by decide) (ety := (.object "RegionRestarts$Channel")) rfl rfl (fun _ => rfl) hW (by decide) hx2 dX5_channelAt_21 ?_
    refine lv_astore_n (lv' := [(3, .ref (α 5 x2)), (0, .ref (α 0 0)), (1, .int v1), (2, .int v2)]) hx hb dX5_channelAt_22 rfl hl (by decide) rfl (fun ls hl => ?_)
    refine lv_iload_n hx hb dX5_channelAt_23 rfl (lv_at hl 3 rfl) ?_
    by_cases n0 : v2 = 0
    · replace hF := o_t n0 hF
      refine lv_tableIn (tgt := 76) (off := 52) hx hb dX5_channelAt_24 (by rw [n0]; decide) (by rw [n0]; decide) (by rw [n0]; rfl) (by decide) ?_
      refine lv_aload_n hx hb dX5_channelAt_76 rfl (lv_at hl 0 rfl) ?_
      refine gg_X5_163 G hW (aP_lt hx2) dX5_channelAt_77 ?_
      exact g_iret G hW hF dX5_channelAt_80
    · replace hF := o_f n0 hF
      by_cases n1 : v2 = 1
      · replace hF := o_t n1 hF
        refine lv_tableIn (tgt := 81) (off := 57) hx hb dX5_channelAt_24 (by rw [n1]; decide) (by rw [n1]; decide) (by rw [n1]; rfl) (by decide) ?_
        refine lv_aload_n hx hb dX5_channelAt_81 rfl (lv_at hl 0 rfl) ?_
        refine gg_X5_215 G hW (aP_lt hx2) dX5_channelAt_82 ?_
        exact g_iret G hW hF dX5_channelAt_85
      · replace hF := o_f n1 hF
        by_cases n2 : v2 = 2
        · replace hF := o_t n2 hF
          refine lv_tableIn (tgt := 86) (off := 62) hx hb dX5_channelAt_24 (by rw [n2]; decide) (by rw [n2]; decide) (by rw [n2]; rfl) (by decide) ?_
          refine lv_aload_n hx hb dX5_channelAt_86 rfl (lv_at hl 0 rfl) ?_
          refine gg_X5_146 G hW (aP_lt hx2) dX5_channelAt_87 ?_
          obtain ⟨q3, hq3, hF⟩ := o_b hF
          refine kk_X5_205 G hW hq3 hl.1 ⟨Nat.le_of_ble_eq_true rfl, Nat.le_of_ble_eq_true rfl⟩ ⟨Nat.le_refl _, Nat.le_refl _⟩ (Nat.le_of_ble_eq_true rfl) dX5_channelAt_90 (fun H locs hW => ?_)
          exact g_iret G hW hF dX5_channelAt_93
        · replace hF := o_f n2 hF
          by_cases n3 : v2 = 3
          · replace hF := o_t n3 hF
            refine lv_tableIn (tgt := 94) (off := 70) hx hb dX5_channelAt_24 (by rw [n3]; decide) (by rw [n3]; decide) (by rw [n3]; rfl) (by decide) ?_
            refine lv_aload_n hx hb dX5_channelAt_94 rfl (lv_at hl 0 rfl) ?_
            refine gg_X5_160 G hW (aP_lt hx2) dX5_channelAt_95 ?_
            exact g_iret G hW hF dX5_channelAt_98
          · replace hF := o_f n3 hF
            by_cases n4 : v2 = 4
            · replace hF := o_t n4 hF
              refine lv_tableIn (tgt := 99) (off := 75) hx hb dX5_channelAt_24 (by rw [n4]; decide) (by rw [n4]; decide) (by rw [n4]; rfl) (by decide) ?_
              refine lv_aload_n hx hb dX5_channelAt_99 rfl (lv_at hl 0 rfl) ?_
              refine gg_X5_218 G hW (aP_lt hx2) dX5_channelAt_100 ?_
              exact g_iret G hW hF dX5_channelAt_103
            · replace hF := o_f n4 hF
              by_cases n5 : v2 = 5
              · replace hF := o_t n5 hF
                refine lv_tableIn (tgt := 104) (off := 80) hx hb dX5_channelAt_24 (by rw [n5]; decide) (by rw [n5]; decide) (by rw [n5]; rfl) (by decide) ?_
                refine lv_aload_n hx hb dX5_channelAt_104 rfl (lv_at hl 0 rfl) ?_
                refine gg_X5_157 G hW (aP_lt hx2) dX5_channelAt_105 ?_
                exact g_iret G hW hF dX5_channelAt_108
              · replace hF := o_f n5 hF
                by_cases n6 : v2 = 6
                · replace hF := o_t n6 hF
                  refine lv_tableIn (tgt := 109) (off := 85) hx hb dX5_channelAt_24 (by rw [n6]; decide) (by rw [n6]; decide) (by rw [n6]; rfl) (by decide) ?_
                  refine lv_aload_n hx hb dX5_channelAt_109 rfl (lv_at hl 0 rfl) ?_
                  refine gg_X5_154 G hW (aP_lt hx2) dX5_channelAt_110 ?_
                  exact g_iret G hW hF dX5_channelAt_113
                · replace hF := o_f n6 hF
                  by_cases n7 : v2 = 7
                  · replace hF := o_t n7 hF
                    refine lv_tableIn (tgt := 114) (off := 90) hx hb dX5_channelAt_24 (by rw [n7]; decide) (by rw [n7]; decide) (by rw [n7]; rfl) (by decide) ?_
                    refine lv_aload_n hx hb dX5_channelAt_114 rfl (lv_at hl 0 rfl) ?_
                    refine lv_aload_n hx hb dX5_channelAt_115 rfl (lv_at hl 0 rfl) ?_
                    refine gg_X5_157 G hW (aP_lt hx2) dX5_channelAt_116 ?_
                    refine lv_aload_n hx hb dX5_channelAt_119 rfl (lv_at hl 1 rfl) ?_
                    refine gg_X5_10 G hW (by decide) dX5_channelAt_120 ?_
                    obtain ⟨q4, hq4, hF⟩ := o_b hF
                    refine kk_X5_199 G hW hq4 hl.1 ⟨Nat.le_of_ble_eq_true rfl, Nat.le_of_ble_eq_true rfl⟩ ⟨Nat.le_refl _, Nat.le_refl _⟩ (Nat.le_of_ble_eq_true rfl) dX5_channelAt_123 (fun H locs hW => ?_)
                    obtain ⟨q5, hq5, hF⟩ := o_b hF
                    refine kk_X5_221 G hW (aP_lt hx2) hq5 hl.1 ⟨Nat.le_of_ble_eq_true rfl, Nat.le_of_ble_eq_true rfl⟩ ⟨Nat.le_refl _, Nat.le_refl _⟩ (Nat.le_of_ble_eq_true rfl) dX5_channelAt_126 (fun H locs hW => ?_)
                    obtain ⟨q6, hq6, hF⟩ := o_b hF
                    refine kk_X5_205 G hW hq6 hl.1 ⟨Nat.le_of_ble_eq_true rfl, Nat.le_of_ble_eq_true rfl⟩ ⟨Nat.le_refl _, Nat.le_refl _⟩ (Nat.le_of_ble_eq_true rfl) dX5_channelAt_129 (fun H locs hW => ?_)
                    exact g_iret G hW hF dX5_channelAt_132
                  · replace hF := o_f n7 hF
                    by_cases n8 : v2 = 8
                    · replace hF := o_t n8 hF
                      refine lv_tableIn (tgt := 133) (off := 109) hx hb dX5_channelAt_24 (by rw [n8]; decide) (by rw [n8]; decide) (by rw [n8]; rfl) (by decide) ?_
                      refine lv_aload_n hx hb dX5_channelAt_133 rfl (lv_at hl 0 rfl) ?_
                      refine gg_X5_224 G hW (aP_lt hx2) dX5_channelAt_134 ?_
                      exact g_iret G hW hF dX5_channelAt_137
                    · replace hF := o_f n8 hF
                      refine lv_tableOut (tgt := 138) hx hb dX5_channelAt_24 (t_out 0 8 (fun z h1 h2 => by have hz : z = 0 ∨ z = 1 ∨ z = 2 ∨ z = 3 ∨ z = 4 ∨ z = 5 ∨ z = 6 ∨ z = 7 ∨ z = 8 := (by omega); rcases hz with rfl | rfl | rfl | rfl | rfl | rfl | rfl | rfl | rfl <;> assumption)) (by decide) ?_
                      refine lv_bipush (v := -2) hx hb dX5_channelAt_138 (by decide) ?_
                      exact g_iret G hW hF dX5_channelAt_140
  · replace hF := o_t hc hF
    refine lv_iconst (v := -1) hx hb dX5_channelAt_11 (by decide) ?_
    exact g_iret G hW hF dX5_channelAt_12
end WX5_channelAt
theorem c_X5_channelAt {l : Launch} {D : va_G} {dA : Nat → ClassId} {α : Nat → Nat → Nat} (hI : Inj 0 α) {v1 : Int32} {v2 : Int32} {σ σz : sm_M} {r : Int32} (hF : f_X5_channelAt v1 v2 σ = some (r, σz)) : gM l D dA 0 α yX5_channelAt cX5_channelAt 4 (some .int) 4 [.ref (α 0 0), .int v1, .int v2] σ (some (.int r)) σz :=
  g_met hI (by decide +kernel) (Nat.le_of_ble_eq_true rfl) (fun p e s m below meth c ls G hW hl => w_X5_channelAt_0 G _ _ _ hF _ _ _ hW hl)
section KX5_channelAt
variable {p : Program} {l : Launch} {e : Env} {R : Room} {s : State} {m : MethodId} {args : Array Value} {below : List Frame} {meth : Method} {c : Code} {H : Heap} {locs : List Loc} {cells slots : Nat} {Q : State → Prop}
variable {cc : ByteArray} {pc nL Z : Nat} {ls : Array Slot} {rest : List Value} {D : va_G} {dA : Nat → ClassId} {α : Nat → Nat → Nat} {H0 : Heap} {σ σ' : sm_M} {ret : Option FieldType} {own nm : String}
end KX5_channelAt
section WX5_row
variable {p : Program} {l : Launch} {e : Env} {s : State} {m : MethodId} {args : Array Value} {below : List Frame} {meth : Method} {c : Code} {D : va_G} {dA : Nat → ClassId} {α : Nat → Nat → Nat}
set_option maxHeartbeats 4000000 in
set_option maxRecDepth 100000 in
theorem w_X5_row_46 (G : gx p s m meth c args cX5_row 4 (some .int) RX5 "row" D dA) {r : Int32} {σz : sm_M} : ∀ (s0 : Int32) (σ : sm_M), f_X5_row_46 s0 σ = some (r, σz) → ∀ (H : Heap) (locs : List Loc) (ls : Array Slot), Wd D dA 0 α s.heap σ H locs → lv_has ls 4 [] → gW 1 p l e s m args below meth c D dA 0 α (some (.int r)) σz H locs (F0 m 46 ls [.int s0]) := by
  obtain ⟨hx, hb, hr, hlk, hml, hown, hnm, hts, hK, hNw⟩ := id G
  intro s0 σ hF H locs ls hW hl
  rw [f_X5_row_46] at hF
  exact g_iret G hW hF dX5_row_46
set_option maxHeartbeats 4000000 in
set_option maxRecDepth 100000 in
theorem w_X5_row_44 (G : gx p s m meth c args cX5_row 4 (some .int) RX5 "row" D dA) {r : Int32} {σz : sm_M} : ∀ (σ : sm_M), f_X5_row_44 σ = some (r, σz) → ∀ (H : Heap) (locs : List Loc) (ls : Array Slot), Wd D dA 0 α s.heap σ H locs → lv_has ls 4 [] → gW 1 p l e s m args below meth c D dA 0 α (some (.int r)) σz H locs (F0 m 44 ls []) := by
  obtain ⟨hx, hb, hr, hlk, hml, hown, hnm, hts, hK, hNw⟩ := id G
  intro σ hF H locs ls hW hl
  rw [f_X5_row_44] at hF
  refine lv_bipush (v := -9) hx hb dX5_row_44 (by decide) ?_
  exact w_X5_row_46 G _ _ hF H locs ls hW (lv_sub hl [] rfl)
set_option maxHeartbeats 4000000 in
set_option maxRecDepth 100000 in
theorem w_X5_row_0 (G : gx p s m meth c args cX5_row 4 (some .int) RX5 "row" D dA) {r : Int32} {σz : sm_M} : ∀ (v1 : Int32) (v2 : Int32) (σ : sm_M), f_X5_row v1 v2 σ = some (r, σz) → ∀ (H : Heap) (locs : List Loc) (ls : Array Slot), Wd D dA 0 α s.heap σ H locs → lv_has ls 4 [(0, .ref (α 0 0)), (1, .int v1), (2, .int v2)] → gW 1 p l e s m args below meth c D dA 0 α (some (.int r)) σz H locs (F0 m 0 ls []) := by
  obtain ⟨hx, hb, hr, hlk, hml, hown, hnm, hts, hK, hNw⟩ := id G
  intro v1 v2 σ hF H locs ls hW hl
  rw [f_X5_row] at hF
  refine lv_aload_n hx hb dX5_row_0 rfl (lv_at hl 0 rfl) ?_
  refine gg_X5_10 G hW (by decide) dX5_row_1 ?_
  refine lv_iload_n hx hb dX5_row_4 rfl (lv_at hl 1 rfl) ?_
  obtain ⟨q1, hq1, hF⟩ := o_b hF
  refine kk_X5_139 G hW hq1 hl.1 ⟨Nat.le_of_ble_eq_true rfl, Nat.le_of_ble_eq_true rfl⟩ ⟨Nat.le_refl _, Nat.le_refl _⟩ (Nat.le_of_ble_eq_true rfl) dX5_row_5 (fun H locs hW => ?_)
  refine lv_if_ne (tgt := 13) hx hb dX5_row_8 (by decide) (fun hc => ?_) (fun hc => ?_)
  · replace hF := o_f hc hF
    refine lv_aload_n hx hb dX5_row_13 rfl (lv_at hl 0 rfl) ?_
    refine gg_X5_10 G hW (by decide) dX5_row_14 ?_
    refine gg_X5_142 G hW (by decide) dX5_row_17 ?_
    refine lv_iload_n hx hb dX5_row_20 rfl (lv_at hl 1 rfl) ?_
    obtain ⟨x2, hx2, hF⟩ := o_b hF
    refine g_aP (φ := 8) (ψ := 5) G rfl rfl (by decide) (ety := (.object "RegionRestarts$Channel")) rfl rfl (fun _ => rfl) hW (by decide) hx2 dX5_row_21 ?_
    refine lv_astore_n (lv' := [(3, .ref (α 5 x2)), (0, .ref (α 0 0)), (1, .int v1), (2, .int v2)]) hx hb dX5_row_22 rfl hl (by decide) rfl (fun ls hl => ?_)
    refine lv_iload_n hx hb dX5_row_23 rfl (lv_at hl 3 rfl) ?_
    refine lv_if_lt (tgt := 44) hx hb dX5_row_24 (by decide) (fun hc => ?_) (fun hc => ?_)
    · replace hF := o_t hc hF
      exact w_X5_row_44 G  _ hF H locs ls hW (lv_sub hl [] rfl)
    · replace hF := o_f hc hF
      refine lv_iload_n hx hb dX5_row_27 rfl (lv_at hl 3 rfl) ?_
      refine lv_aload_n hx hb dX5_row_28 rfl (lv_at hl 0 rfl) ?_
      refine gg_X5_160 G hW (aP_lt hx2) dX5_row_29 ?_
      refine lv_icmp_ge (tgt := 44) hx hb dX5_row_32 (by decide) (fun hc => ?_) (fun hc => ?_)
      · replace hF := o_t hc hF
        exact w_X5_row_44 G  _ hF H locs ls hW (lv_sub hl [] rfl)
      · replace hF := o_f hc hF
        refine lv_aload_n hx hb dX5_row_35 rfl (lv_at hl 0 rfl) ?_
        refine gg_X5_227 G hW (aP_lt hx2) dX5_row_36 ?_
        refine lv_iload_n hx hb dX5_row_39 rfl (lv_at hl 3 rfl) ?_
        obtain ⟨x3, hx3, hF⟩ := o_b hF
        refine g_aI (φ := 16) G rfl rfl (by decide) rfl hW (aP_lt hx2) hx3 dX5_row_40 ?_
        refine lv_goto (tgt := 46) hx hb dX5_row_41 (by decide) ?_
        exact w_X5_row_46 G _ _ hF H locs ls hW (lv_sub hl [] rfl)
  · replace hF := o_t hc hF
    refine lv_iconst (v := -1) hx hb dX5_row_11 (by decide) ?_
    exact g_iret G hW hF dX5_row_12
end WX5_row
theorem c_X5_row {l : Launch} {D : va_G} {dA : Nat → ClassId} {α : Nat → Nat → Nat} (hI : Inj 0 α) {v1 : Int32} {v2 : Int32} {σ σz : sm_M} {r : Int32} (hF : f_X5_row v1 v2 σ = some (r, σz)) : gM l D dA 0 α yX5_row cX5_row 4 (some .int) 1 [.ref (α 0 0), .int v1, .int v2] σ (some (.int r)) σz :=
  g_met hI (by decide +kernel) (Nat.le_of_ble_eq_true rfl) (fun p e s m below meth c ls G hW hl => w_X5_row_0 G _ _ _ hF _ _ _ hW hl)
section KX5_row
variable {p : Program} {l : Launch} {e : Env} {R : Room} {s : State} {m : MethodId} {args : Array Value} {below : List Frame} {meth : Method} {c : Code} {H : Heap} {locs : List Loc} {cells slots : Nat} {Q : State → Prop}
variable {cc : ByteArray} {pc nL Z : Nat} {ls : Array Slot} {rest : List Value} {D : va_G} {dA : Nat → ClassId} {α : Nat → Nat → Nat} {H0 : Heap} {σ σ' : sm_M} {ret : Option FieldType} {own nm : String}
end KX5_row
section WX5_out
variable {p : Program} {l : Launch} {e : Env} {s : State} {m : MethodId} {args : Array Value} {below : List Frame} {meth : Method} {c : Code} {D : va_G} {dA : Nat → ClassId} {α : Nat → Nat → Nat}
set_option maxHeartbeats 4000000 in
set_option maxRecDepth 100000 in
theorem w_X5_out_46 (G : gx p s m meth c args cX5_out 4 (some .int) RX5 "out" D dA) {r : Int32} {σz : sm_M} : ∀ (s0 : Int32) (σ : sm_M), f_X5_out_46 s0 σ = some (r, σz) → ∀ (H : Heap) (locs : List Loc) (ls : Array Slot), Wd D dA 0 α s.heap σ H locs → lv_has ls 4 [] → gW 1 p l e s m args below meth c D dA 0 α (some (.int r)) σz H locs (F0 m 46 ls [.int s0]) := by
  obtain ⟨hx, hb, hr, hlk, hml, hown, hnm, hts, hK, hNw⟩ := id G
  intro s0 σ hF H locs ls hW hl
  rw [f_X5_out_46] at hF
  exact g_iret G hW hF dX5_out_46
set_option maxHeartbeats 4000000 in
set_option maxRecDepth 100000 in
theorem w_X5_out_44 (G : gx p s m meth c args cX5_out 4 (some .int) RX5 "out" D dA) {r : Int32} {σz : sm_M} : ∀ (σ : sm_M), f_X5_out_44 σ = some (r, σz) → ∀ (H : Heap) (locs : List Loc) (ls : Array Slot), Wd D dA 0 α s.heap σ H locs → lv_has ls 4 [] → gW 1 p l e s m args below meth c D dA 0 α (some (.int r)) σz H locs (F0 m 44 ls []) := by
  obtain ⟨hx, hb, hr, hlk, hml, hown, hnm, hts, hK, hNw⟩ := id G
  intro σ hF H locs ls hW hl
  rw [f_X5_out_44] at hF
  refine lv_bipush (v := -9) hx hb dX5_out_44 (by decide) ?_
  exact w_X5_out_46 G _ _ hF H locs ls hW (lv_sub hl [] rfl)
set_option maxHeartbeats 4000000 in
set_option maxRecDepth 100000 in
theorem w_X5_out_0 (G : gx p s m meth c args cX5_out 4 (some .int) RX5 "out" D dA) {r : Int32} {σz : sm_M} : ∀ (v1 : Int32) (v2 : Int32) (σ : sm_M), f_X5_out v1 v2 σ = some (r, σz) → ∀ (H : Heap) (locs : List Loc) (ls : Array Slot), Wd D dA 0 α s.heap σ H locs → lv_has ls 4 [(0, .ref (α 0 0)), (1, .int v1), (2, .int v2)] → gW 1 p l e s m args below meth c D dA 0 α (some (.int r)) σz H locs (F0 m 0 ls []) := by
  obtain ⟨hx, hb, hr, hlk, hml, hown, hnm, hts, hK, hNw⟩ := id G
  intro v1 v2 σ hF H locs ls hW hl
  rw [f_X5_out] at hF
  refine lv_aload_n hx hb dX5_out_0 rfl (lv_at hl 0 rfl) ?_
  refine gg_X5_10 G hW (by decide) dX5_out_1 ?_
  refine lv_iload_n hx hb dX5_out_4 rfl (lv_at hl 1 rfl) ?_
  obtain ⟨q1, hq1, hF⟩ := o_b hF
  refine kk_X5_57 G hW hq1 hl.1 ⟨Nat.le_of_ble_eq_true rfl, Nat.le_of_ble_eq_true rfl⟩ ⟨Nat.le_refl _, Nat.le_refl _⟩ (Nat.le_of_ble_eq_true rfl) dX5_out_5 (fun H locs hW => ?_)
  refine lv_if_ne (tgt := 13) hx hb dX5_out_8 (by decide) (fun hc => ?_) (fun hc => ?_)
  · replace hF := o_f hc hF
    refine lv_aload_n hx hb dX5_out_13 rfl (lv_at hl 0 rfl) ?_
    refine gg_X5_10 G hW (by decide) dX5_out_14 ?_
    refine gg_X5_60 G hW (by decide) dX5_out_17 ?_
    refine lv_iload_n hx hb dX5_out_20 rfl (lv_at hl 1 rfl) ?_
    obtain ⟨x2, hx2, hF⟩ := o_b hF
    refine g_aP (φ := 7) (ψ := 4) G rfl rfl (by decide) (ety := (.object "RegionRestarts$Task")) rfl rfl (fun _ => rfl) hW (by decide) hx2 dX5_out_21 ?_
    refine lv_astore_n (lv' := [(3, .ref (α 4 x2)), (0, .ref (α 0 0)), (1, .int v1), (2, .int v2)]) hx hb dX5_out_22 rfl hl (by decide) rfl (fun ls hl => ?_)
    refine lv_iload_n hx hb dX5_out_23 rfl (lv_at hl 3 rfl) ?_
    refine lv_if_lt (tgt := 44) hx hb dX5_out_24 (by decide) (fun hc => ?_) (fun hc => ?_)
    · replace hF := o_t hc hF
      exact w_X5_out_44 G  _ hF H locs ls hW (lv_sub hl [] rfl)
    · replace hF := o_f hc hF
      refine lv_iload_n hx hb dX5_out_27 rfl (lv_at hl 3 rfl) ?_
      refine lv_aload_n hx hb dX5_out_28 rfl (lv_at hl 0 rfl) ?_
      refine gg_X5_209 G hW (aP_lt hx2) dX5_out_29 ?_
      refine lv_icmp_ge (tgt := 44) hx hb dX5_out_32 (by decide) (fun hc => ?_) (fun hc => ?_)
      · replace hF := o_t hc hF
        exact w_X5_out_44 G  _ hF H locs ls hW (lv_sub hl [] rfl)
      · replace hF := o_f hc hF
        refine lv_aload_n hx hb dX5_out_35 rfl (lv_at hl 0 rfl) ?_
        refine gg_X5_231 G hW (aP_lt hx2) dX5_out_36 ?_
        refine lv_iload_n hx hb dX5_out_39 rfl (lv_at hl 3 rfl) ?_
        obtain ⟨x3, hx3, hF⟩ := o_b hF
        refine g_aI (φ := 14) G rfl rfl (by decide) rfl hW (aP_lt hx2) hx3 dX5_out_40 ?_
        refine lv_goto (tgt := 46) hx hb dX5_out_41 (by decide) ?_
        exact w_X5_out_46 G _ _ hF H locs ls hW (lv_sub hl [] rfl)
  · replace hF := o_t hc hF
    refine lv_iconst (v := -1) hx hb dX5_out_11 (by decide) ?_
    exact g_iret G hW hF dX5_out_12
end WX5_out
theorem c_X5_out {l : Launch} {D : va_G} {dA : Nat → ClassId} {α : Nat → Nat → Nat} (hI : Inj 0 α) {v1 : Int32} {v2 : Int32} {σ σz : sm_M} {r : Int32} (hF : f_X5_out v1 v2 σ = some (r, σz)) : gM l D dA 0 α yX5_out cX5_out 4 (some .int) 1 [.ref (α 0 0), .int v1, .int v2] σ (some (.int r)) σz :=
  g_met hI (by decide +kernel) (Nat.le_of_ble_eq_true rfl) (fun p e s m below meth c ls G hW hl => w_X5_out_0 G _ _ _ hF _ _ _ hW hl)
section KX5_out
variable {p : Program} {l : Launch} {e : Env} {R : Room} {s : State} {m : MethodId} {args : Array Value} {below : List Frame} {meth : Method} {c : Code} {H : Heap} {locs : List Loc} {cells slots : Nat} {Q : State → Prop}
variable {cc : ByteArray} {pc nL Z : Nat} {ls : Array Slot} {rest : List Value} {D : va_G} {dA : Nat → ClassId} {α : Nat → Nat → Nat} {H0 : Heap} {σ σ' : sm_M} {ret : Option FieldType} {own nm : String}
end KX5_out
