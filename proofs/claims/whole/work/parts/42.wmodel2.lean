section WX6_grow
variable {p : Program} {l : Launch} {e : Env} {s : State} {m : MethodId} {args : Array Value} {below : List Frame} {meth : Method} {c : Code} {D : va_G} {dA : Nat → ClassId} {α : Nat → Nat → Nat}
set_option maxHeartbeats 4000000 in
set_option maxRecDepth 100000 in
theorem w_X6_grow_261 (G : gx p s m meth c args cX6_grow 5 none RX6 "grow" D dA) {σz : sm_M} (k2 : Int32 → sm_M → Option (sm_M)) (hk2 : ∀ (v1 : Int32) (σ : sm_M), k2 v1 σ = some σz → ∀ (H : Heap) (locs : List Loc) (ls : Array Slot), Wd D dA 1 α s.heap σ H locs → lv_has ls 5 [(0, .ref (α 20 0)), (1, .int v1)] → gW 1 p l e s m args below meth c D dA 1 α none σz H locs (F0 m 2 ls [])) : ∀ (v1 : Int32) (σ : sm_M), f_X6_grow_261 k2 v1 σ = some σz → ∀ (H : Heap) (locs : List Loc) (ls : Array Slot), Wd D dA 1 α s.heap σ H locs → lv_has ls 5 [(0, .ref (α 20 0)), (1, .int v1)] → gW 1 p l e s m args below meth c D dA 1 α none σz H locs (F0 m 261 ls []) := by
  obtain ⟨hx, hb, hr, hlk, hml, hown, hnm, hts, hK, hNw⟩ := id G
  intro v1 σ hF H locs ls hW hl
  rw [f_X6_grow_261] at hF
  refine lv_goto (tgt := 2) hx hb dX6_grow_261 (by decide) ?_
  exact hk2 _ _ hF H locs ls hW (lv_sub hl [0, 1] rfl)
set_option maxHeartbeats 4000000 in
set_option maxRecDepth 100000 in
theorem w_X6_grow_255 (G : gx p s m meth c args cX6_grow 5 none RX6 "grow" D dA) {σz : sm_M} (k2 : Int32 → sm_M → Option (sm_M)) (hk2 : ∀ (v1 : Int32) (σ : sm_M), k2 v1 σ = some σz → ∀ (H : Heap) (locs : List Loc) (ls : Array Slot), Wd D dA 1 α s.heap σ H locs → lv_has ls 5 [(0, .ref (α 20 0)), (1, .int v1)] → gW 1 p l e s m args below meth c D dA 1 α none σz H locs (F0 m 2 ls [])) (k61 : Int32 → Int32 → sm_M → Option (sm_M)) (hk61 : ∀ (v1 : Int32) (v2 : Int32) (σ : sm_M), k61 v1 v2 σ = some σz → ∀ (H : Heap) (locs : List Loc) (ls : Array Slot), Wd D dA 1 α s.heap σ H locs → lv_has ls 5 [(0, .ref (α 20 0)), (1, .int v1), (2, .int v2)] → gW 1 p l e s m args below meth c D dA 1 α none σz H locs (F0 m 61 ls [])) : ∀ (v1 : Int32) (v2 : Int32) (σ : sm_M), f_X6_grow_255 k2 k61 v1 v2 σ = some σz → ∀ (H : Heap) (locs : List Loc) (ls : Array Slot), Wd D dA 1 α s.heap σ H locs → lv_has ls 5 [(0, .ref (α 20 0)), (1, .int v1), (2, .int v2)] → gW 1 p l e s m args below meth c D dA 1 α none σz H locs (F0 m 255 ls []) := by
  obtain ⟨hx, hb, hr, hlk, hml, hown, hnm, hts, hK, hNw⟩ := id G
  intro v1 v2 σ hF H locs ls hW hl
  rw [f_X6_grow_255] at hF
  refine lv_iinc (v := (v2 + 1)) (lv' := [(2, .int (v2 + 1)), (0, .ref (α 20 0)), (1, .int v1)]) hx hb dX6_grow_255 hl (k := 2) rfl rfl (by decide) rfl (fun ls hl => ?_)
  refine lv_goto (tgt := 61) hx hb dX6_grow_258 (by decide) ?_
  exact hk61 _ _ _ hF H locs ls hW (lv_sub hl [1, 2, 0] rfl)
set_option maxHeartbeats 4000000 in
set_option maxRecDepth 100000 in
theorem w_X6_grow_222 (G : gx p s m meth c args cX6_grow 5 none RX6 "grow" D dA) {σz : sm_M} (k2 : Int32 → sm_M → Option (sm_M)) (hk2 : ∀ (v1 : Int32) (σ : sm_M), k2 v1 σ = some σz → ∀ (H : Heap) (locs : List Loc) (ls : Array Slot), Wd D dA 1 α s.heap σ H locs → lv_has ls 5 [(0, .ref (α 20 0)), (1, .int v1)] → gW 1 p l e s m args below meth c D dA 1 α none σz H locs (F0 m 2 ls [])) (k61 : Int32 → Int32 → sm_M → Option (sm_M)) (hk61 : ∀ (v1 : Int32) (v2 : Int32) (σ : sm_M), k61 v1 v2 σ = some σz → ∀ (H : Heap) (locs : List Loc) (ls : Array Slot), Wd D dA 1 α s.heap σ H locs → lv_has ls 5 [(0, .ref (α 20 0)), (1, .int v1), (2, .int v2)] → gW 1 p l e s m args below meth c D dA 1 α none σz H locs (F0 m 61 ls [])) : ∀ (v1 : Int32) (v2 : Int32) (v4 : Int32) (σ : sm_M), f_X6_grow_222 k2 k61 v1 v2 v4 σ = some σz → ∀ (H : Heap) (locs : List Loc) (ls : Array Slot), Wd D dA 1 α s.heap σ H locs → lv_has ls 5 [(0, .ref (α 20 0)), (1, .int v1), (2, .int v2), (4, .int v4)] → gW 1 p l e s m args below meth c D dA 1 α none σz H locs (F0 m 222 ls []) := by
  obtain ⟨hx, hb, hr, hlk, hml, hown, hnm, hts, hK, hNw⟩ := id G
  intro v1 v2 v4 σ hF H locs ls hW hl
  rw [f_X6_grow_222] at hF
  refine lv_iload hx hb dX6_grow_222 (lv_at hl 3 rfl) ?_
  refine lv_if_eq (tgt := 255) hx hb dX6_grow_224 (by decide) (fun hc => ?_) (fun hc => ?_)
  · replace hF := o_t hc hF
    exact w_X6_grow_255 G k2 hk2 k61 hk61 _ _ _ hF H locs ls hW (lv_sub hl [0, 1, 2] rfl)
  · replace hF := o_f hc hF
    refine lv_aload_n hx hb dX6_grow_227 rfl (lv_at hl 0 rfl) ?_
    refine gg_X6_122 G hW (by decide) dX6_grow_228 ?_
    refine lv_aload_n hx hb dX6_grow_231 rfl (lv_at hl 0 rfl) ?_
    refine gg_X6_52 G hW (by decide) dX6_grow_232 ?_
    refine lv_iload_n hx hb dX6_grow_235 rfl (lv_at hl 2 rfl) ?_
    obtain ⟨x1, hx1, hF⟩ := o_b hF
    refine g_aI (φ := 35) G rfl rfl (by decide) rfl hW (by decide) hx1 dX6_grow_236 ?_
    obtain ⟨x2, hx2, hF⟩ := o_b hF
    refine g_aZ (φ := 58) G rfl rfl (by decide) rfl hW (by decide) hx2 dX6_grow_237 ?_
    refine lv_if_ne (tgt := 255) hx hb dX6_grow_238 (by decide) (fun hc => ?_) (fun hc => ?_)
    · replace hF := o_f hc hF
      exact w_X6_grow_255 G k2 hk2 k61 hk61 _ _ _ hF H locs ls hW (lv_sub hl [0, 1, 2] rfl)
    · replace hF := o_t hc hF
      refine lv_aload_n hx hb dX6_grow_241 rfl (lv_at hl 0 rfl) ?_
      refine gg_X6_122 G hW (by decide) dX6_grow_242 ?_
      refine lv_aload_n hx hb dX6_grow_245 rfl (lv_at hl 0 rfl) ?_
      refine gg_X6_52 G hW (by decide) dX6_grow_246 ?_
      refine lv_iload_n hx hb dX6_grow_249 rfl (lv_at hl 2 rfl) ?_
      obtain ⟨x3, hx3, hF⟩ := o_b hF
      refine g_aI (φ := 35) G rfl rfl (by decide) rfl hW (by decide) hx3 dX6_grow_250 ?_
      refine lv_iconst (v := 1) hx hb dX6_grow_251 (by decide) ?_
      obtain ⟨σ4, hσ4, hF⟩ := o_b hF
      refine g_uZ (φ := 58) G rfl rfl (by decide) rfl hW (by decide) hσ4 dX6_grow_252 (fun H locs hW => ?_)
      refine lv_iconst (v := 1) hx hb dX6_grow_253 (by decide) ?_
      refine lv_istore_n (lv' := [(1, .int (1 : Int32)), (0, .ref (α 20 0)), (2, .int v2), (4, .int v4)]) hx hb dX6_grow_254 rfl hl (by decide) rfl (fun ls hl => ?_)
      exact w_X6_grow_255 G k2 hk2 k61 hk61 _ _ _ hF H locs ls hW (lv_sub hl [1, 0, 2] rfl)
set_option maxHeartbeats 4000000 in
set_option maxRecDepth 100000 in
theorem w_X6_grow_188 (G : gx p s m meth c args cX6_grow 5 none RX6 "grow" D dA) {σz : sm_M} (k2 : Int32 → sm_M → Option (sm_M)) (hk2 : ∀ (v1 : Int32) (σ : sm_M), k2 v1 σ = some σz → ∀ (H : Heap) (locs : List Loc) (ls : Array Slot), Wd D dA 1 α s.heap σ H locs → lv_has ls 5 [(0, .ref (α 20 0)), (1, .int v1)] → gW 1 p l e s m args below meth c D dA 1 α none σz H locs (F0 m 2 ls [])) (k61 : Int32 → Int32 → sm_M → Option (sm_M)) (hk61 : ∀ (v1 : Int32) (v2 : Int32) (σ : sm_M), k61 v1 v2 σ = some σz → ∀ (H : Heap) (locs : List Loc) (ls : Array Slot), Wd D dA 1 α s.heap σ H locs → lv_has ls 5 [(0, .ref (α 20 0)), (1, .int v1), (2, .int v2)] → gW 1 p l e s m args below meth c D dA 1 α none σz H locs (F0 m 61 ls [])) : ∀ (v1 : Int32) (v2 : Int32) (v3 : Int32) (s0 : Int32) (σ : sm_M), f_X6_grow_188 k2 k61 v1 v2 v3 s0 σ = some σz → ∀ (H : Heap) (locs : List Loc) (ls : Array Slot), Wd D dA 1 α s.heap σ H locs → lv_has ls 5 [(0, .ref (α 20 0)), (1, .int v1), (2, .int v2), (3, .int v3)] → gW 1 p l e s m args below meth c D dA 1 α none σz H locs (F0 m 188 ls [.int s0]) := by
  obtain ⟨hx, hb, hr, hlk, hml, hown, hnm, hts, hK, hNw⟩ := id G
  intro v1 v2 v3 s0 σ hF H locs ls hW hl
  rw [f_X6_grow_188] at hF
  refine lv_istore (lv' := [(4, .int s0), (0, .ref (α 20 0)), (1, .int v1), (2, .int v2), (3, .int v3)]) hx hb dX6_grow_188 hl (by decide) rfl (fun ls hl => ?_)
  refine lv_iload_n hx hb dX6_grow_190 rfl (lv_at hl 4 rfl) ?_
  refine lv_if_eq (tgt := 222) hx hb dX6_grow_191 (by decide) (fun hc => ?_) (fun hc => ?_)
  · replace hF := o_t hc hF
    exact w_X6_grow_222 G k2 hk2 k61 hk61 _ _ _ _ hF H locs ls hW (lv_sub hl [1, 2, 3, 0] rfl)
  · replace hF := o_f hc hF
    refine lv_aload_n hx hb dX6_grow_194 rfl (lv_at hl 1 rfl) ?_
    refine gg_X6_122 G hW (by decide) dX6_grow_195 ?_
    refine lv_aload_n hx hb dX6_grow_198 rfl (lv_at hl 1 rfl) ?_
    refine gg_X6_49 G hW (by decide) dX6_grow_199 ?_
    refine lv_iload_n hx hb dX6_grow_202 rfl (lv_at hl 3 rfl) ?_
    obtain ⟨x1, hx1, hF⟩ := o_b hF
    refine g_aI (φ := 34) G rfl rfl (by decide) rfl hW (by decide) hx1 dX6_grow_203 ?_
    obtain ⟨x2, hx2, hF⟩ := o_b hF
    refine g_aZ (φ := 58) G rfl rfl (by decide) rfl hW (by decide) hx2 dX6_grow_204 ?_
    refine lv_if_ne (tgt := 222) hx hb dX6_grow_205 (by decide) (fun hc => ?_) (fun hc => ?_)
    · replace hF := o_f hc hF
      exact w_X6_grow_222 G k2 hk2 k61 hk61 _ _ _ _ hF H locs ls hW (lv_sub hl [1, 2, 3, 0] rfl)
    · replace hF := o_t hc hF
      refine lv_aload_n hx hb dX6_grow_208 rfl (lv_at hl 1 rfl) ?_
      refine gg_X6_122 G hW (by decide) dX6_grow_209 ?_
      refine lv_aload_n hx hb dX6_grow_212 rfl (lv_at hl 1 rfl) ?_
      refine gg_X6_49 G hW (by decide) dX6_grow_213 ?_
      refine lv_iload_n hx hb dX6_grow_216 rfl (lv_at hl 3 rfl) ?_
      obtain ⟨x3, hx3, hF⟩ := o_b hF
      refine g_aI (φ := 34) G rfl rfl (by decide) rfl hW (by decide) hx3 dX6_grow_217 ?_
      refine lv_iconst (v := 1) hx hb dX6_grow_218 (by decide) ?_
      obtain ⟨σ4, hσ4, hF⟩ := o_b hF
      refine g_uZ (φ := 58) G rfl rfl (by decide) rfl hW (by decide) hσ4 dX6_grow_219 (fun H locs hW => ?_)
      refine lv_iconst (v := 1) hx hb dX6_grow_220 (by decide) ?_
      refine lv_istore_n (lv' := [(1, .int (1 : Int32)), (4, .int s0), (0, .ref (α 20 0)), (2, .int v2), (3, .int v3)]) hx hb dX6_grow_221 rfl hl (by decide) rfl (fun ls hl => ?_)
      exact w_X6_grow_222 G k2 hk2 k61 hk61 _ _ _ _ hF H locs ls hW (lv_sub hl [2, 0, 3, 1] rfl)
set_option maxHeartbeats 4000000 in
set_option maxRecDepth 100000 in
theorem w_X6_grow_187 (G : gx p s m meth c args cX6_grow 5 none RX6 "grow" D dA) {σz : sm_M} (k2 : Int32 → sm_M → Option (sm_M)) (hk2 : ∀ (v1 : Int32) (σ : sm_M), k2 v1 σ = some σz → ∀ (H : Heap) (locs : List Loc) (ls : Array Slot), Wd D dA 1 α s.heap σ H locs → lv_has ls 5 [(0, .ref (α 20 0)), (1, .int v1)] → gW 1 p l e s m args below meth c D dA 1 α none σz H locs (F0 m 2 ls [])) (k61 : Int32 → Int32 → sm_M → Option (sm_M)) (hk61 : ∀ (v1 : Int32) (v2 : Int32) (σ : sm_M), k61 v1 v2 σ = some σz → ∀ (H : Heap) (locs : List Loc) (ls : Array Slot), Wd D dA 1 α s.heap σ H locs → lv_has ls 5 [(0, .ref (α 20 0)), (1, .int v1), (2, .int v2)] → gW 1 p l e s m args below meth c D dA 1 α none σz H locs (F0 m 61 ls [])) : ∀ (v1 : Int32) (v2 : Int32) (v3 : Int32) (σ : sm_M), f_X6_grow_187 k2 k61 v1 v2 v3 σ = some σz → ∀ (H : Heap) (locs : List Loc) (ls : Array Slot), Wd D dA 1 α s.heap σ H locs → lv_has ls 5 [(0, .ref (α 20 0)), (1, .int v1), (2, .int v2), (3, .int v3)] → gW 1 p l e s m args below meth c D dA 1 α none σz H locs (F0 m 187 ls []) := by
  obtain ⟨hx, hb, hr, hlk, hml, hown, hnm, hts, hK, hNw⟩ := id G
  intro v1 v2 v3 σ hF H locs ls hW hl
  rw [f_X6_grow_187] at hF
  refine lv_iconst (v := 0) hx hb dX6_grow_187 (by decide) ?_
  exact w_X6_grow_188 G k2 hk2 k61 hk61 _ _ _ _ _ hF H locs ls hW (lv_sub hl [0, 1, 2, 3] rfl)
set_option maxHeartbeats 4000000 in
set_option maxRecDepth 100000 in
theorem w_X6_grow_183 (G : gx p s m meth c args cX6_grow 5 none RX6 "grow" D dA) {σz : sm_M} (k2 : Int32 → sm_M → Option (sm_M)) (hk2 : ∀ (v1 : Int32) (σ : sm_M), k2 v1 σ = some σz → ∀ (H : Heap) (locs : List Loc) (ls : Array Slot), Wd D dA 1 α s.heap σ H locs → lv_has ls 5 [(0, .ref (α 20 0)), (1, .int v1)] → gW 1 p l e s m args below meth c D dA 1 α none σz H locs (F0 m 2 ls [])) (k61 : Int32 → Int32 → sm_M → Option (sm_M)) (hk61 : ∀ (v1 : Int32) (v2 : Int32) (σ : sm_M), k61 v1 v2 σ = some σz → ∀ (H : Heap) (locs : List Loc) (ls : Array Slot), Wd D dA 1 α s.heap σ H locs → lv_has ls 5 [(0, .ref (α 20 0)), (1, .int v1), (2, .int v2)] → gW 1 p l e s m args below meth c D dA 1 α none σz H locs (F0 m 61 ls [])) : ∀ (v1 : Int32) (v2 : Int32) (v3 : Int32) (σ : sm_M), f_X6_grow_183 k2 k61 v1 v2 v3 σ = some σz → ∀ (H : Heap) (locs : List Loc) (ls : Array Slot), Wd D dA 1 α s.heap σ H locs → lv_has ls 5 [(0, .ref (α 20 0)), (1, .int v1), (2, .int v2), (3, .int v3)] → gW 1 p l e s m args below meth c D dA 1 α none σz H locs (F0 m 183 ls []) := by
  obtain ⟨hx, hb, hr, hlk, hml, hown, hnm, hts, hK, hNw⟩ := id G
  intro v1 v2 v3 σ hF H locs ls hW hl
  rw [f_X6_grow_183] at hF
  refine lv_iconst (v := 1) hx hb dX6_grow_183 (by decide) ?_
  refine lv_goto (tgt := 188) hx hb dX6_grow_184 (by decide) ?_
  exact w_X6_grow_188 G k2 hk2 k61 hk61 _ _ _ _ _ hF H locs ls hW (lv_sub hl [0, 1, 2, 3] rfl)
set_option maxHeartbeats 4000000 in
set_option maxRecDepth 100000 in
theorem w_X6_grow_180 (G : gx p s m meth c args cX6_grow 5 none RX6 "grow" D dA) {σz : sm_M} (k2 : Int32 → sm_M → Option (sm_M)) (hk2 : ∀ (v1 : Int32) (σ : sm_M), k2 v1 σ = some σz → ∀ (H : Heap) (locs : List Loc) (ls : Array Slot), Wd D dA 1 α s.heap σ H locs → lv_has ls 5 [(0, .ref (α 20 0)), (1, .int v1)] → gW 1 p l e s m args below meth c D dA 1 α none σz H locs (F0 m 2 ls [])) (k61 : Int32 → Int32 → sm_M → Option (sm_M)) (hk61 : ∀ (v1 : Int32) (v2 : Int32) (σ : sm_M), k61 v1 v2 σ = some σz → ∀ (H : Heap) (locs : List Loc) (ls : Array Slot), Wd D dA 1 α s.heap σ H locs → lv_has ls 5 [(0, .ref (α 20 0)), (1, .int v1), (2, .int v2)] → gW 1 p l e s m args below meth c D dA 1 α none σz H locs (F0 m 61 ls [])) : ∀ (v1 : Int32) (v2 : Int32) (v3 : Int32) (s0 : Int32) (s1 : Int32) (σ : sm_M), f_X6_grow_180 k2 k61 v1 v2 v3 s0 s1 σ = some σz → ∀ (H : Heap) (locs : List Loc) (ls : Array Slot), Wd D dA 1 α s.heap σ H locs → lv_has ls 5 [(0, .ref (α 20 0)), (1, .int v1), (2, .int v2), (3, .int v3)] → gW 1 p l e s m args below meth c D dA 1 α none σz H locs (F0 m 180 ls [.int s1, .int s0]) := by
  obtain ⟨hx, hb, hr, hlk, hml, hown, hnm, hts, hK, hNw⟩ := id G
  intro v1 v2 v3 s0 s1 σ hF H locs ls hW hl
  rw [f_X6_grow_180] at hF
  refine lv_icmp_le (tgt := 187) hx hb dX6_grow_180 (by decide) (fun hc => ?_) (fun hc => ?_)
  · replace hF := o_t hc hF
    exact w_X6_grow_187 G k2 hk2 k61 hk61 _ _ _ _ hF H locs ls hW (lv_sub hl [0, 1, 2, 3] rfl)
  · replace hF := o_f hc hF
    exact w_X6_grow_183 G k2 hk2 k61 hk61 _ _ _ _ hF H locs ls hW (lv_sub hl [0, 1, 2, 3] rfl)
set_option maxHeartbeats 4000000 in
set_option maxRecDepth 100000 in
theorem w_X6_grow_106 (G : gx p s m meth c args cX6_grow 5 none RX6 "grow" D dA) {σz : sm_M} (k2 : Int32 → sm_M → Option (sm_M)) (hk2 : ∀ (v1 : Int32) (σ : sm_M), k2 v1 σ = some σz → ∀ (H : Heap) (locs : List Loc) (ls : Array Slot), Wd D dA 1 α s.heap σ H locs → lv_has ls 5 [(0, .ref (α 20 0)), (1, .int v1)] → gW 1 p l e s m args below meth c D dA 1 α none σz H locs (F0 m 2 ls [])) (k61 : Int32 → Int32 → sm_M → Option (sm_M)) (hk61 : ∀ (v1 : Int32) (v2 : Int32) (σ : sm_M), k61 v1 v2 σ = some σz → ∀ (H : Heap) (locs : List Loc) (ls : Array Slot), Wd D dA 1 α s.heap σ H locs → lv_has ls 5 [(0, .ref (α 20 0)), (1, .int v1), (2, .int v2)] → gW 1 p l e s m args below meth c D dA 1 α none σz H locs (F0 m 61 ls [])) : ∀ (v1 : Int32) (v2 : Int32) (s0 : Int32) (σ : sm_M), f_X6_grow_106 k2 k61 v1 v2 s0 σ = some σz → ∀ (H : Heap) (locs : List Loc) (ls : Array Slot), Wd D dA 1 α s.heap σ H locs → lv_has ls 5 [(0, .ref (α 20 0)), (1, .int v1), (2, .int v2)] → gW 1 p l e s m args below meth c D dA 1 α none σz H locs (F0 m 106 ls [.int s0]) := by
  obtain ⟨hx, hb, hr, hlk, hml, hown, hnm, hts, hK, hNw⟩ := id G
  intro v1 v2 s0 σ hF H locs ls hW hl
  rw [f_X6_grow_106] at hF
  refine lv_istore_n (lv' := [(3, .int s0), (0, .ref (α 20 0)), (1, .int v1), (2, .int v2)]) hx hb dX6_grow_106 rfl hl (by decide) rfl (fun ls hl => ?_)
  refine lv_aload_n hx hb dX6_grow_107 rfl (lv_at hl 1 rfl) ?_
  refine gg_X6_122 G hW (by decide) dX6_grow_108 ?_
  refine lv_aload_n hx hb dX6_grow_111 rfl (lv_at hl 1 rfl) ?_
  refine gg_X6_49 G hW (by decide) dX6_grow_112 ?_
  refine lv_iload_n hx hb dX6_grow_115 rfl (lv_at hl 3 rfl) ?_
  obtain ⟨x1, hx1, hF⟩ := o_b hF
  refine g_aI (φ := 34) G rfl rfl (by decide) rfl hW (by decide) hx1 dX6_grow_116 ?_
  obtain ⟨x2, hx2, hF⟩ := o_b hF
  refine g_aZ (φ := 58) G rfl rfl (by decide) rfl hW (by decide) hx2 dX6_grow_117 ?_
  refine lv_if_eq (tgt := 187) hx hb dX6_grow_118 (by decide) (fun hc => ?_) (fun hc => ?_)
  · replace hF := o_t hc hF
    exact w_X6_grow_187 G k2 hk2 k61 hk61 _ _ _ _ hF H locs ls hW (lv_sub hl [1, 2, 3, 0] rfl)
  · replace hF := o_f hc hF
    refine lv_aload_n hx hb dX6_grow_121 rfl (lv_at hl 1 rfl) ?_
    refine gg_X6_55 G hW (by decide) dX6_grow_122 ?_
    refine lv_iload_n hx hb dX6_grow_125 rfl (lv_at hl 3 rfl) ?_
    obtain ⟨x3, hx3, hF⟩ := o_b hF
    refine g_aZ (φ := 36) G rfl rfl (by decide) rfl hW (by decide) hx3 dX6_grow_126 ?_
    refine lv_if_eq (tgt := 183) hx hb dX6_grow_127 (by decide) (fun hc => ?_) (fun hc => ?_)
    · replace hF := o_t hc hF
      exact w_X6_grow_183 G k2 hk2 k61 hk61 _ _ _ _ hF H locs ls hW (lv_sub hl [1, 2, 3, 0] rfl)
    · replace hF := o_f hc hF
      refine lv_aload_n hx hb dX6_grow_130 rfl (lv_at hl 1 rfl) ?_
      refine gg_X6_125 G hW (by decide) dX6_grow_131 ?_
      refine lv_aload_n hx hb dX6_grow_134 rfl (lv_at hl 1 rfl) ?_
      refine gg_X6_49 G hW (by decide) dX6_grow_135 ?_
      refine lv_iload_n hx hb dX6_grow_138 rfl (lv_at hl 3 rfl) ?_
      obtain ⟨x4, hx4, hF⟩ := o_b hF
      refine g_aI (φ := 34) G rfl rfl (by decide) rfl hW (by decide) hx4 dX6_grow_139 ?_
      obtain ⟨x5, hx5, hF⟩ := o_b hF
      refine g_aZ (φ := 59) G rfl rfl (by decide) rfl hW (by decide) hx5 dX6_grow_140 ?_
      refine lv_if_eq (tgt := 187) hx hb dX6_grow_141 (by decide) (fun hc => ?_) (fun hc => ?_)
      · replace hF := o_t hc hF
        exact w_X6_grow_187 G k2 hk2 k61 hk61 _ _ _ _ hF H locs ls hW (lv_sub hl [1, 2, 3, 0] rfl)
      · replace hF := o_f hc hF
        refine lv_aload_n hx hb dX6_grow_144 rfl (lv_at hl 1 rfl) ?_
        refine gg_X6_71 G hW (by decide) dX6_grow_145 ?_
        refine lv_iload_n hx hb dX6_grow_148 rfl (lv_at hl 3 rfl) ?_
        obtain ⟨x6, hx6, hF⟩ := o_b hF
        refine g_aI (φ := 41) G rfl rfl (by decide) rfl hW (by decide) hx6 dX6_grow_149 ?_
        refine lv_aload_n hx hb dX6_grow_150 rfl (lv_at hl 1 rfl) ?_
        refine gg_X6_89 G hW (by decide) dX6_grow_151 ?_
        refine lv_iload_n hx hb dX6_grow_154 rfl (lv_at hl 3 rfl) ?_
        obtain ⟨x7, hx7, hF⟩ := o_b hF
        refine g_aI (φ := 47) G rfl rfl (by decide) rfl hW (by decide) hx7 dX6_grow_155 ?_
        refine lv_aload_n hx hb dX6_grow_156 rfl (lv_at hl 1 rfl) ?_
        refine gg_X6_95 G hW (by decide) dX6_grow_157 ?_
        refine lv_iload_n hx hb dX6_grow_160 rfl (lv_at hl 3 rfl) ?_
        obtain ⟨x8, hx8, hF⟩ := o_b hF
        refine g_aI (φ := 49) G rfl rfl (by decide) rfl hW (by decide) hx8 dX6_grow_161 ?_
        refine lv_icmp_le (tgt := 174) hx hb dX6_grow_162 (by decide) (fun hc => ?_) (fun hc => ?_)
        · replace hF := o_t hc hF
          refine lv_aload_n hx hb dX6_grow_174 rfl (lv_at hl 1 rfl) ?_
          refine gg_X6_95 G hW (by decide) dX6_grow_175 ?_
          refine lv_iload_n hx hb dX6_grow_178 rfl (lv_at hl 3 rfl) ?_
          obtain ⟨x9, hx9, hF⟩ := o_b hF
          refine g_aI (φ := 49) G rfl rfl (by decide) rfl hW (by decide) hx9 dX6_grow_179 ?_
          exact w_X6_grow_180 G k2 hk2 k61 hk61 _ _ _ _ _ _ hF H locs ls hW (lv_sub hl [1, 2, 3, 0] rfl)
        · replace hF := o_f hc hF
          refine lv_aload_n hx hb dX6_grow_165 rfl (lv_at hl 1 rfl) ?_
          refine gg_X6_89 G hW (by decide) dX6_grow_166 ?_
          refine lv_iload_n hx hb dX6_grow_169 rfl (lv_at hl 3 rfl) ?_
          obtain ⟨x10, hx10, hF⟩ := o_b hF
          refine g_aI (φ := 47) G rfl rfl (by decide) rfl hW (by decide) hx10 dX6_grow_170 ?_
          refine lv_goto (tgt := 180) hx hb dX6_grow_171 (by decide) ?_
          exact w_X6_grow_180 G k2 hk2 k61 hk61 _ _ _ _ _ _ hF H locs ls hW (lv_sub hl [1, 2, 3, 0] rfl)
set_option maxHeartbeats 4000000 in
set_option maxRecDepth 100000 in
theorem w_X6_grow_105 (G : gx p s m meth c args cX6_grow 5 none RX6 "grow" D dA) {σz : sm_M} (k2 : Int32 → sm_M → Option (sm_M)) (hk2 : ∀ (v1 : Int32) (σ : sm_M), k2 v1 σ = some σz → ∀ (H : Heap) (locs : List Loc) (ls : Array Slot), Wd D dA 1 α s.heap σ H locs → lv_has ls 5 [(0, .ref (α 20 0)), (1, .int v1)] → gW 1 p l e s m args below meth c D dA 1 α none σz H locs (F0 m 2 ls [])) (k61 : Int32 → Int32 → sm_M → Option (sm_M)) (hk61 : ∀ (v1 : Int32) (v2 : Int32) (σ : sm_M), k61 v1 v2 σ = some σz → ∀ (H : Heap) (locs : List Loc) (ls : Array Slot), Wd D dA 1 α s.heap σ H locs → lv_has ls 5 [(0, .ref (α 20 0)), (1, .int v1), (2, .int v2)] → gW 1 p l e s m args below meth c D dA 1 α none σz H locs (F0 m 61 ls [])) : ∀ (v1 : Int32) (v2 : Int32) (σ : sm_M), f_X6_grow_105 k2 k61 v1 v2 σ = some σz → ∀ (H : Heap) (locs : List Loc) (ls : Array Slot), Wd D dA 1 α s.heap σ H locs → lv_has ls 5 [(0, .ref (α 20 0)), (1, .int v1), (2, .int v2)] → gW 1 p l e s m args below meth c D dA 1 α none σz H locs (F0 m 105 ls []) := by
  obtain ⟨hx, hb, hr, hlk, hml, hown, hnm, hts, hK, hNw⟩ := id G
  intro v1 v2 σ hF H locs ls hW hl
  rw [f_X6_grow_105] at hF
  refine lv_iconst (v := 0) hx hb dX6_grow_105 (by decide) ?_
  exact w_X6_grow_106 G k2 hk2 k61 hk61 _ _ _ _ hF H locs ls hW (lv_sub hl [0, 1, 2] rfl)
set_option maxHeartbeats 4000000 in
set_option maxRecDepth 100000 in
theorem w_X6_grow_101 (G : gx p s m meth c args cX6_grow 5 none RX6 "grow" D dA) {σz : sm_M} (k2 : Int32 → sm_M → Option (sm_M)) (hk2 : ∀ (v1 : Int32) (σ : sm_M), k2 v1 σ = some σz → ∀ (H : Heap) (locs : List Loc) (ls : Array Slot), Wd D dA 1 α s.heap σ H locs → lv_has ls 5 [(0, .ref (α 20 0)), (1, .int v1)] → gW 1 p l e s m args below meth c D dA 1 α none σz H locs (F0 m 2 ls [])) (k61 : Int32 → Int32 → sm_M → Option (sm_M)) (hk61 : ∀ (v1 : Int32) (v2 : Int32) (σ : sm_M), k61 v1 v2 σ = some σz → ∀ (H : Heap) (locs : List Loc) (ls : Array Slot), Wd D dA 1 α s.heap σ H locs → lv_has ls 5 [(0, .ref (α 20 0)), (1, .int v1), (2, .int v2)] → gW 1 p l e s m args below meth c D dA 1 α none σz H locs (F0 m 61 ls [])) : ∀ (v1 : Int32) (v2 : Int32) (σ : sm_M), f_X6_grow_101 k2 k61 v1 v2 σ = some σz → ∀ (H : Heap) (locs : List Loc) (ls : Array Slot), Wd D dA 1 α s.heap σ H locs → lv_has ls 5 [(0, .ref (α 20 0)), (1, .int v1), (2, .int v2)] → gW 1 p l e s m args below meth c D dA 1 α none σz H locs (F0 m 101 ls []) := by
  obtain ⟨hx, hb, hr, hlk, hml, hown, hnm, hts, hK, hNw⟩ := id G
  intro v1 v2 σ hF H locs ls hW hl
  rw [f_X6_grow_101] at hF
  refine lv_iconst (v := 1) hx hb dX6_grow_101 (by decide) ?_
  refine lv_goto (tgt := 106) hx hb dX6_grow_102 (by decide) ?_
  exact w_X6_grow_106 G k2 hk2 k61 hk61 _ _ _ _ hF H locs ls hW (lv_sub hl [0, 1, 2] rfl)
set_option maxHeartbeats 4000000 in
set_option maxRecDepth 100000 in
theorem w_X6_grow_61 (G : gx p s m meth c args cX6_grow 5 none RX6 "grow" D dA) {σz : sm_M} (k2 : Int32 → sm_M → Option (sm_M)) (hk2 : ∀ (v1 : Int32) (σ : sm_M), k2 v1 σ = some σz → ∀ (H : Heap) (locs : List Loc) (ls : Array Slot), Wd D dA 1 α s.heap σ H locs → lv_has ls 5 [(0, .ref (α 20 0)), (1, .int v1)] → gW 1 p l e s m args below meth c D dA 1 α none σz H locs (F0 m 2 ls [])) : ∀ (n : Nat) (v1 : Int32) (v2 : Int32) (σ : sm_M), f_X6_grow_61 k2 n v1 v2 σ = some σz → ∀ (H : Heap) (locs : List Loc) (ls : Array Slot), Wd D dA 1 α s.heap σ H locs → lv_has ls 5 [(0, .ref (α 20 0)), (1, .int v1), (2, .int v2)] → gW 1 p l e s m args below meth c D dA 1 α none σz H locs (F0 m 61 ls []) := by
  obtain ⟨hx, hb, hr, hlk, hml, hown, hnm, hts, hK, hNw⟩ := id G
  intro n
  induction n with
  | zero => intro v1 v2 σ hF; exact absurd hF (by intro h; cases h)
  | succ n ih =>
    intro v1 v2 σ hF H locs ls hW hl
    rw [f_X6_grow_61] at hF
    refine lv_iload_n hx hb dX6_grow_61 rfl (lv_at hl 2 rfl) ?_
    refine lv_aload_n hx hb dX6_grow_62 rfl (lv_at hl 0 rfl) ?_
    refine gg_X6_135 G hW (by decide) dX6_grow_63 ?_
    refine lv_icmp_ge (tgt := 261) hx hb dX6_grow_66 (by decide) (fun hc => ?_) (fun hc => ?_)
    · replace hF := o_t hc hF
      exact w_X6_grow_261 G k2 hk2 _ _ hF H locs ls hW (lv_sub hl [0, 1] rfl)
    · replace hF := o_f hc hF
      refine lv_aload_n hx hb dX6_grow_69 rfl (lv_at hl 0 rfl) ?_
      refine gg_X6_122 G hW (by decide) dX6_grow_70 ?_
      refine lv_aload_n hx hb dX6_grow_73 rfl (lv_at hl 0 rfl) ?_
      refine gg_X6_52 G hW (by decide) dX6_grow_74 ?_
      refine lv_iload_n hx hb dX6_grow_77 rfl (lv_at hl 2 rfl) ?_
      obtain ⟨x1, hx1, hF⟩ := o_b hF
      refine g_aI (φ := 35) G rfl rfl (by decide) rfl hW (by decide) hx1 dX6_grow_78 ?_
      obtain ⟨x2, hx2, hF⟩ := o_b hF
      refine g_aZ (φ := 58) G rfl rfl (by decide) rfl hW (by decide) hx2 dX6_grow_79 ?_
      refine lv_if_eq (tgt := 105) hx hb dX6_grow_80 (by decide) (fun hc => ?_) (fun hc => ?_)
      · replace hF := o_t hc hF
        exact w_X6_grow_105 G k2 hk2 (f_X6_grow_61 k2 n) ih _ _ _ hF H locs ls hW (lv_sub hl [0, 1, 2] rfl)
      · replace hF := o_f hc hF
        refine lv_aload_n hx hb dX6_grow_83 rfl (lv_at hl 0 rfl) ?_
        refine gg_X6_55 G hW (by decide) dX6_grow_84 ?_
        refine lv_iload_n hx hb dX6_grow_87 rfl (lv_at hl 2 rfl) ?_
        obtain ⟨x3, hx3, hF⟩ := o_b hF
        refine g_aZ (φ := 36) G rfl rfl (by decide) rfl hW (by decide) hx3 dX6_grow_88 ?_
        refine lv_if_eq (tgt := 101) hx hb dX6_grow_89 (by decide) (fun hc => ?_) (fun hc => ?_)
        · replace hF := o_t hc hF
          exact w_X6_grow_101 G k2 hk2 (f_X6_grow_61 k2 n) ih _ _ _ hF H locs ls hW (lv_sub hl [0, 1, 2] rfl)
        · replace hF := o_f hc hF
          refine lv_aload_n hx hb dX6_grow_92 rfl (lv_at hl 0 rfl) ?_
          refine gg_X6_74 G hW (by decide) dX6_grow_93 ?_
          refine lv_iload_n hx hb dX6_grow_96 rfl (lv_at hl 2 rfl) ?_
          obtain ⟨x4, hx4, hF⟩ := o_b hF
          refine g_aZ (φ := 42) G rfl rfl (by decide) rfl hW (by decide) hx4 dX6_grow_97 ?_
          refine lv_if_eq (tgt := 105) hx hb dX6_grow_98 (by decide) (fun hc => ?_) (fun hc => ?_)
          · replace hF := o_t hc hF
            exact w_X6_grow_105 G k2 hk2 (f_X6_grow_61 k2 n) ih _ _ _ hF H locs ls hW (lv_sub hl [0, 1, 2] rfl)
          · replace hF := o_f hc hF
            exact w_X6_grow_101 G k2 hk2 (f_X6_grow_61 k2 n) ih _ _ _ hF H locs ls hW (lv_sub hl [0, 1, 2] rfl)
set_option maxHeartbeats 4000000 in
set_option maxRecDepth 100000 in
theorem w_X6_grow_59 (G : gx p s m meth c args cX6_grow 5 none RX6 "grow" D dA) {σz : sm_M} (k2 : Int32 → sm_M → Option (sm_M)) (hk2 : ∀ (v1 : Int32) (σ : sm_M), k2 v1 σ = some σz → ∀ (H : Heap) (locs : List Loc) (ls : Array Slot), Wd D dA 1 α s.heap σ H locs → lv_has ls 5 [(0, .ref (α 20 0)), (1, .int v1)] → gW 1 p l e s m args below meth c D dA 1 α none σz H locs (F0 m 2 ls [])) : ∀ (v1 : Int32) (σ : sm_M), f_X6_grow_59 k2 v1 σ = some σz → ∀ (H : Heap) (locs : List Loc) (ls : Array Slot), Wd D dA 1 α s.heap σ H locs → lv_has ls 5 [(0, .ref (α 20 0)), (1, .int v1)] → gW 1 p l e s m args below meth c D dA 1 α none σz H locs (F0 m 59 ls []) := by
  obtain ⟨hx, hb, hr, hlk, hml, hown, hnm, hts, hK, hNw⟩ := id G
  intro v1 σ hF H locs ls hW hl
  rw [f_X6_grow_59] at hF
  refine lv_iconst (v := 0) hx hb dX6_grow_59 (by decide) ?_
  refine lv_istore_n (lv' := [(2, .int (0 : Int32)), (0, .ref (α 20 0)), (1, .int v1)]) hx hb dX6_grow_60 rfl hl (by decide) rfl (fun ls hl => ?_)
  exact w_X6_grow_61 G k2 hk2 1000 _ _ _ hF H locs ls hW (lv_sub hl [1, 2, 0] rfl)
set_option maxHeartbeats 4000000 in
set_option maxRecDepth 100000 in
theorem w_X6_grow_53 (G : gx p s m meth c args cX6_grow 5 none RX6 "grow" D dA) {σz : sm_M} (k2 : Int32 → sm_M → Option (sm_M)) (hk2 : ∀ (v1 : Int32) (σ : sm_M), k2 v1 σ = some σz → ∀ (H : Heap) (locs : List Loc) (ls : Array Slot), Wd D dA 1 α s.heap σ H locs → lv_has ls 5 [(0, .ref (α 20 0)), (1, .int v1)] → gW 1 p l e s m args below meth c D dA 1 α none σz H locs (F0 m 2 ls [])) (k10 : Int32 → Int32 → sm_M → Option (sm_M)) (hk10 : ∀ (v1 : Int32) (v2 : Int32) (σ : sm_M), k10 v1 v2 σ = some σz → ∀ (H : Heap) (locs : List Loc) (ls : Array Slot), Wd D dA 1 α s.heap σ H locs → lv_has ls 5 [(0, .ref (α 20 0)), (1, .int v1), (2, .int v2)] → gW 1 p l e s m args below meth c D dA 1 α none σz H locs (F0 m 10 ls [])) : ∀ (v1 : Int32) (v2 : Int32) (σ : sm_M), f_X6_grow_53 k2 k10 v1 v2 σ = some σz → ∀ (H : Heap) (locs : List Loc) (ls : Array Slot), Wd D dA 1 α s.heap σ H locs → lv_has ls 5 [(0, .ref (α 20 0)), (1, .int v1), (2, .int v2)] → gW 1 p l e s m args below meth c D dA 1 α none σz H locs (F0 m 53 ls []) := by
  obtain ⟨hx, hb, hr, hlk, hml, hown, hnm, hts, hK, hNw⟩ := id G
  intro v1 v2 σ hF H locs ls hW hl
  rw [f_X6_grow_53] at hF
  refine lv_iinc (v := (v2 + 1)) (lv' := [(2, .int (v2 + 1)), (0, .ref (α 20 0)), (1, .int v1)]) hx hb dX6_grow_53 hl (k := 2) rfl rfl (by decide) rfl (fun ls hl => ?_)
  refine lv_goto (tgt := 10) hx hb dX6_grow_56 (by decide) ?_
  exact hk10 _ _ _ hF H locs ls hW (lv_sub hl [1, 2, 0] rfl)
set_option maxHeartbeats 4000000 in
set_option maxRecDepth 100000 in
theorem w_X6_grow_10 (G : gx p s m meth c args cX6_grow 5 none RX6 "grow" D dA) {σz : sm_M} (k2 : Int32 → sm_M → Option (sm_M)) (hk2 : ∀ (v1 : Int32) (σ : sm_M), k2 v1 σ = some σz → ∀ (H : Heap) (locs : List Loc) (ls : Array Slot), Wd D dA 1 α s.heap σ H locs → lv_has ls 5 [(0, .ref (α 20 0)), (1, .int v1)] → gW 1 p l e s m args below meth c D dA 1 α none σz H locs (F0 m 2 ls [])) : ∀ (n : Nat) (v1 : Int32) (v2 : Int32) (σ : sm_M), f_X6_grow_10 k2 n v1 v2 σ = some σz → ∀ (H : Heap) (locs : List Loc) (ls : Array Slot), Wd D dA 1 α s.heap σ H locs → lv_has ls 5 [(0, .ref (α 20 0)), (1, .int v1), (2, .int v2)] → gW 1 p l e s m args below meth c D dA 1 α none σz H locs (F0 m 10 ls []) := by
  obtain ⟨hx, hb, hr, hlk, hml, hown, hnm, hts, hK, hNw⟩ := id G
  intro n
  induction n with
  | zero => intro v1 v2 σ hF; exact absurd hF (by intro h; cases h)
  | succ n ih =>
    intro v1 v2 σ hF H locs ls hW hl
    rw [f_X6_grow_10] at hF
    refine lv_iload_n hx hb dX6_grow_10 rfl (lv_at hl 2 rfl) ?_
    refine lv_aload_n hx hb dX6_grow_11 rfl (lv_at hl 0 rfl) ?_
    refine gg_X6_131 G hW (by decide) dX6_grow_12 ?_
    refine lv_icmp_ge (tgt := 59) hx hb dX6_grow_15 (by decide) (fun hc => ?_) (fun hc => ?_)
    · replace hF := o_t hc hF
      exact w_X6_grow_59 G k2 hk2 _ _ hF H locs ls hW (lv_sub hl [0, 1] rfl)
    · replace hF := o_f hc hF
      refine lv_aload_n hx hb dX6_grow_18 rfl (lv_at hl 0 rfl) ?_
      refine gg_X6_122 G hW (by decide) dX6_grow_19 ?_
      refine lv_iload_n hx hb dX6_grow_22 rfl (lv_at hl 2 rfl) ?_
      obtain ⟨x1, hx1, hF⟩ := o_b hF
      refine g_aZ (φ := 58) G rfl rfl (by decide) rfl hW (by decide) hx1 dX6_grow_23 ?_
      refine lv_if_eq (tgt := 53) hx hb dX6_grow_24 (by decide) (fun hc => ?_) (fun hc => ?_)
      · replace hF := o_t hc hF
        exact w_X6_grow_53 G k2 hk2 (f_X6_grow_10 k2 n) ih _ _ _ hF H locs ls hW (lv_sub hl [0, 1, 2] rfl)
      · replace hF := o_f hc hF
        refine lv_aload_n hx hb dX6_grow_27 rfl (lv_at hl 0 rfl) ?_
        refine gg_X6_125 G hW (by decide) dX6_grow_28 ?_
        refine lv_iload_n hx hb dX6_grow_31 rfl (lv_at hl 2 rfl) ?_
        obtain ⟨x2, hx2, hF⟩ := o_b hF
        refine g_aZ (φ := 59) G rfl rfl (by decide) rfl hW (by decide) hx2 dX6_grow_32 ?_
        refine lv_if_ne (tgt := 53) hx hb dX6_grow_33 (by decide) (fun hc => ?_) (fun hc => ?_)
        · replace hF := o_f hc hF
          exact w_X6_grow_53 G k2 hk2 (f_X6_grow_10 k2 n) ih _ _ _ hF H locs ls hW (lv_sub hl [0, 1, 2] rfl)
        · replace hF := o_t hc hF
          refine lv_aload_n hx hb dX6_grow_36 rfl (lv_at hl 0 rfl) ?_
          refine lv_iload_n hx hb dX6_grow_37 rfl (lv_at hl 2 rfl) ?_
          obtain ⟨q3, hq3, hF⟩ := o_b hF
          refine kk_X6_227 G hW hq3 hl.1 ⟨Nat.le_of_ble_eq_true rfl, Nat.le_of_ble_eq_true rfl⟩ ⟨Nat.le_refl _, Nat.le_refl _⟩ (Nat.le_of_ble_eq_true rfl) dX6_grow_38 (fun H locs hW => ?_)
          refine lv_if_eq (tgt := 53) hx hb dX6_grow_41 (by decide) (fun hc => ?_) (fun hc => ?_)
          · replace hF := o_t hc hF
            exact w_X6_grow_53 G k2 hk2 (f_X6_grow_10 k2 n) ih _ _ _ hF H locs ls hW (lv_sub hl [0, 1, 2] rfl)
          · replace hF := o_f hc hF
            refine lv_aload_n hx hb dX6_grow_44 rfl (lv_at hl 0 rfl) ?_
            refine gg_X6_125 G hW (by decide) dX6_grow_45 ?_
            refine lv_iload_n hx hb dX6_grow_48 rfl (lv_at hl 2 rfl) ?_
            refine lv_iconst (v := 1) hx hb dX6_grow_49 (by decide) ?_
            obtain ⟨σ4, hσ4, hF⟩ := o_b hF
            refine g_uZ (φ := 59) G rfl rfl (by decide) rfl hW (by decide) hσ4 dX6_grow_50 (fun H locs hW => ?_)
            refine lv_iconst (v := 1) hx hb dX6_grow_51 (by decide) ?_
            refine lv_istore_n (lv' := [(1, .int (1 : Int32)), (0, .ref (α 20 0)), (2, .int v2)]) hx hb dX6_grow_52 rfl hl (by decide) rfl (fun ls hl => ?_)
            exact w_X6_grow_53 G k2 hk2 (f_X6_grow_10 k2 n) ih _ _ _ hF H locs ls hW (lv_sub hl [1, 0, 2] rfl)
set_option maxHeartbeats 4000000 in
set_option maxRecDepth 100000 in
theorem w_X6_grow_2 (G : gx p s m meth c args cX6_grow 5 none RX6 "grow" D dA) {σz : sm_M} : ∀ (n : Nat) (v1 : Int32) (σ : sm_M), f_X6_grow_2 n v1 σ = some σz → ∀ (H : Heap) (locs : List Loc) (ls : Array Slot), Wd D dA 1 α s.heap σ H locs → lv_has ls 5 [(0, .ref (α 20 0)), (1, .int v1)] → gW 1 p l e s m args below meth c D dA 1 α none σz H locs (F0 m 2 ls []) := by
  obtain ⟨hx, hb, hr, hlk, hml, hown, hnm, hts, hK, hNw⟩ := id G
  intro n
  induction n with
  | zero => intro v1 σ hF; exact absurd hF (by intro h; cases h)
  | succ n ih =>
    intro v1 σ hF H locs ls hW hl
    rw [f_X6_grow_2] at hF
    refine lv_iload_n hx hb dX6_grow_2 rfl (lv_at hl 1 rfl) ?_
    refine lv_if_eq (tgt := 264) hx hb dX6_grow_3 (by decide) (fun hc => ?_) (fun hc => ?_)
    · replace hF := o_t hc hF
      exact g_vret G hW hF dX6_grow_264
    · replace hF := o_f hc hF
      refine lv_iconst (v := 0) hx hb dX6_grow_6 (by decide) ?_
      refine lv_istore_n (lv' := [(1, .int (0 : Int32)), (0, .ref (α 20 0))]) hx hb dX6_grow_7 rfl hl (by decide) rfl (fun ls hl => ?_)
      refine lv_iconst (v := 0) hx hb dX6_grow_8 (by decide) ?_
      refine lv_istore_n (lv' := [(2, .int (0 : Int32)), (1, .int (0 : Int32)), (0, .ref (α 20 0))]) hx hb dX6_grow_9 rfl hl (by decide) rfl (fun ls hl => ?_)
      exact w_X6_grow_10 G (f_X6_grow_2 n) ih 1000 _ _ _ hF H locs ls hW (lv_sub hl [2, 1, 0] rfl)
set_option maxHeartbeats 4000000 in
set_option maxRecDepth 100000 in
theorem w_X6_grow_0 (G : gx p s m meth c args cX6_grow 5 none RX6 "grow" D dA) {σz : sm_M} : ∀ (σ : sm_M), f_X6_grow σ = some σz → ∀ (H : Heap) (locs : List Loc) (ls : Array Slot), Wd D dA 1 α s.heap σ H locs → lv_has ls 5 [(0, .ref (α 20 0))] → gW 1 p l e s m args below meth c D dA 1 α none σz H locs (F0 m 0 ls []) := by
  obtain ⟨hx, hb, hr, hlk, hml, hown, hnm, hts, hK, hNw⟩ := id G
  intro σ hF H locs ls hW hl
  rw [f_X6_grow] at hF
  refine lv_iconst (v := 1) hx hb dX6_grow_0 (by decide) ?_
  refine lv_istore_n (lv' := [(1, .int (1 : Int32)), (0, .ref (α 20 0))]) hx hb dX6_grow_1 rfl hl (by decide) rfl (fun ls hl => ?_)
  exact w_X6_grow_2 G 1000 _ _ hF H locs ls hW (lv_sub hl [1, 0] rfl)
end WX6_grow
theorem c_X6_grow {l : Launch} {D : va_G} {dA : Nat → ClassId} {α : Nat → Nat → Nat} (hI : Inj 1 α) {σ σz : sm_M} (hF : f_X6_grow σ = some σz) : gM l D dA 1 α yX6_grow cX6_grow 5 none 1 [.ref (α 20 0)] σ none σz :=
  g_met hI (by decide +kernel) (Nat.le_of_ble_eq_true rfl) (fun p e s m below meth c ls G hW hl => w_X6_grow_0 G  _ hF _ _ _ hW hl)
section KX6_grow
variable {p : Program} {l : Launch} {e : Env} {R : Room} {s : State} {m : MethodId} {args : Array Value} {below : List Frame} {meth : Method} {c : Code} {H : Heap} {locs : List Loc} {cells slots : Nat} {Q : State → Prop}
variable {cc : ByteArray} {pc nL Z : Nat} {ls : Array Slot} {rest : List Value} {D : va_G} {dA : Nat → ClassId} {α : Nat → Nat → Nat} {H0 : Heap} {σ σ' : sm_M} {ret : Option FieldType} {own nm : String}
theorem kk_X6_236 (G : gx p s m meth c args cc nL ret RX6 nm D dA) (hW : Wd D dA 1 α H0 σ H locs) {q : sm_M} (hq : f_X6_grow σ = some q) (hls : ls.size = nL) (hR : 1 + 1 ≤ R.frames ∧ 8 + (5 + 11) + 44 * 1 ≤ R.locals) (hf : cells ≤ R.cells ∧ slots ≤ R.slots) (hcat : (rest.map fun v => v.category).sum ≤ 8) (hdg : decode cc pc = .ok (.invokevirtual 236, 3)) (kk : ∀ (H1 : Heap) (locs1 : List Loc), Wd D dA 1 α H0 q H1 locs1 → W p l e R s m args below meth c H1 locs1 cells slots Q (F0 m (pc + 3) ls rest)) : W p l e R s m args below meth c H locs cells slots Q (F0 m pc ls (.ref (α 20 0) :: rest)) :=
  g_cV (n := 0) G (c_X6_grow (l := l) hW.2.2.2 hq) ⟨wm_22_8, wm_22_9, wm_22_10, wm_1_5, wm_22_11⟩ (by decide +kernel) hW (g_recv (φ := 20) (ci := 6) G.2.2.2.2.2.2.2.2.1 rfl rfl rfl (by decide) hW.1 rfl) hR hf rfl hls rfl hcat hdg kk
end KX6_grow
section WX6_beginAgain
variable {p : Program} {l : Launch} {e : Env} {s : State} {m : MethodId} {args : Array Value} {below : List Frame} {meth : Method} {c : Code} {D : va_G} {dA : Nat → ClassId} {α : Nat → Nat → Nat}
set_option maxHeartbeats 4000000 in
set_option maxRecDepth 100000 in
theorem w_X6_beginAgain_345 (G : gx p s m meth c args cX6_beginAgain 6 (some .int) RX6 "beginAgain" D dA) {r : Int32} {σz : sm_M} : ∀ (v3 : Int32) (σ : sm_M), f_X6_beginAgain_345 v3 σ = some (r, σz) → ∀ (H : Heap) (locs : List Loc) (ls : Array Slot), Wd D dA 1 α s.heap σ H locs → lv_has ls 6 [(0, .ref (α 20 0)), (3, .int v3)] → gW 0 p l e s m args below meth c D dA 1 α (some (.int r)) σz H locs (F0 m 345 ls []) := by
  obtain ⟨hx, hb, hr, hlk, hml, hown, hnm, hts, hK, hNw⟩ := id G
  intro v3 σ hF H locs ls hW hl
  rw [f_X6_beginAgain_345] at hF
  refine lv_aload_n hx hb dX6_beginAgain_345 rfl (lv_at hl 0 rfl) ?_
  refine lv_dup hx hb dX6_beginAgain_346 rfl ?_
  refine gg_X6_166 G hW (by decide) dX6_beginAgain_347 ?_
  refine lv_iload_n hx hb dX6_beginAgain_350 rfl (lv_at hl 1 rfl) ?_
  refine lv_iadd hx hb dX6_beginAgain_351 ?_
  obtain ⟨σ1, hσ1, hF⟩ := o_b hF
  refine pp_X6_166 G hW (by decide) hσ1 dX6_beginAgain_352 (fun H locs hW => ?_)
  refine lv_iload_n hx hb dX6_beginAgain_355 rfl (lv_at hl 1 rfl) ?_
  exact g_iret G hW hF dX6_beginAgain_356
set_option maxHeartbeats 4000000 in
set_option maxRecDepth 100000 in
theorem w_X6_beginAgain_339 (G : gx p s m meth c args cX6_beginAgain 6 (some .int) RX6 "beginAgain" D dA) {r : Int32} {σz : sm_M} (k133 : Int32 → Int32 → sm_M → Option (Int32 × sm_M)) (hk133 : ∀ (v3 : Int32) (v4 : Int32) (σ : sm_M), k133 v3 v4 σ = some (r, σz) → ∀ (H : Heap) (locs : List Loc) (ls : Array Slot), Wd D dA 1 α s.heap σ H locs → lv_has ls 6 [(0, .ref (α 20 0)), (3, .int v3), (4, .int v4)] → gW 0 p l e s m args below meth c D dA 1 α (some (.int r)) σz H locs (F0 m 133 ls [])) : ∀ (v3 : Int32) (v4 : Int32) (σ : sm_M), f_X6_beginAgain_339 k133 v3 v4 σ = some (r, σz) → ∀ (H : Heap) (locs : List Loc) (ls : Array Slot), Wd D dA 1 α s.heap σ H locs → lv_has ls 6 [(0, .ref (α 20 0)), (3, .int v3), (4, .int v4)] → gW 0 p l e s m args below meth c D dA 1 α (some (.int r)) σz H locs (F0 m 339 ls []) := by
  obtain ⟨hx, hb, hr, hlk, hml, hown, hnm, hts, hK, hNw⟩ := id G
  intro v3 v4 σ hF H locs ls hW hl
  rw [f_X6_beginAgain_339] at hF
  refine lv_iinc (v := (v4 + 1)) (lv' := [(4, .int (v4 + 1)), (0, .ref (α 20 0)), (3, .int v3)]) hx hb dX6_beginAgain_339 hl (k := 2) rfl rfl (by decide) rfl (fun ls hl => ?_)
  refine lv_goto (tgt := 133) hx hb dX6_beginAgain_342 (by decide) ?_
  exact hk133 _ _ _ hF H locs ls hW (lv_sub hl [1, 2, 0] rfl)
set_option maxHeartbeats 4000000 in
set_option maxRecDepth 100000 in
theorem w_X6_beginAgain_338 (G : gx p s m meth c args cX6_beginAgain 6 (some .int) RX6 "beginAgain" D dA) {r : Int32} {σz : sm_M} (k133 : Int32 → Int32 → sm_M → Option (Int32 × sm_M)) (hk133 : ∀ (v3 : Int32) (v4 : Int32) (σ : sm_M), k133 v3 v4 σ = some (r, σz) → ∀ (H : Heap) (locs : List Loc) (ls : Array Slot), Wd D dA 1 α s.heap σ H locs → lv_has ls 6 [(0, .ref (α 20 0)), (3, .int v3), (4, .int v4)] → gW 0 p l e s m args below meth c D dA 1 α (some (.int r)) σz H locs (F0 m 133 ls [])) : ∀ (v3 : Int32) (v4 : Int32) (s1 : Int32) (s2 : Int32) (σ : sm_M), f_X6_beginAgain_338 k133 v3 v4 s1 s2 σ = some (r, σz) → ∀ (H : Heap) (locs : List Loc) (ls : Array Slot), Wd D dA 1 α s.heap σ H locs → lv_has ls 6 [(0, .ref (α 20 0)), (3, .int v3), (4, .int v4)] → gW 0 p l e s m args below meth c D dA 1 α (some (.int r)) σz H locs (F0 m 338 ls [.int s2, .int s1, .ref (α 41 0)]) := by
  obtain ⟨hx, hb, hr, hlk, hml, hown, hnm, hts, hK, hNw⟩ := id G
  intro v3 v4 s1 s2 σ hF H locs ls hW hl
  rw [f_X6_beginAgain_338] at hF
  obtain ⟨σ1, hσ1, hF⟩ := o_b hF
  refine g_uI (φ := 41) G rfl rfl (by decide) rfl hW (by decide) hσ1 dX6_beginAgain_338 (fun H locs hW => ?_)
  exact w_X6_beginAgain_339 G k133 hk133 _ _ _ hF H locs ls hW (lv_sub hl [0, 1, 2] rfl)
set_option maxHeartbeats 4000000 in
set_option maxRecDepth 100000 in
theorem w_X6_beginAgain_306 (G : gx p s m meth c args cX6_beginAgain 6 (some .int) RX6 "beginAgain" D dA) {r : Int32} {σz : sm_M} (k133 : Int32 → Int32 → sm_M → Option (Int32 × sm_M)) (hk133 : ∀ (v3 : Int32) (v4 : Int32) (σ : sm_M), k133 v3 v4 σ = some (r, σz) → ∀ (H : Heap) (locs : List Loc) (ls : Array Slot), Wd D dA 1 α s.heap σ H locs → lv_has ls 6 [(0, .ref (α 20 0)), (3, .int v3), (4, .int v4)] → gW 0 p l e s m args below meth c D dA 1 α (some (.int r)) σz H locs (F0 m 133 ls [])) : ∀ (v3 : Int32) (v4 : Int32) (s0 : Int32) (σ : sm_M), f_X6_beginAgain_306 k133 v3 v4 s0 σ = some (r, σz) → ∀ (H : Heap) (locs : List Loc) (ls : Array Slot), Wd D dA 1 α s.heap σ H locs → lv_has ls 6 [(0, .ref (α 20 0)), (3, .int v3), (4, .int v4)] → gW 0 p l e s m args below meth c D dA 1 α (some (.int r)) σz H locs (F0 m 306 ls [.int s0]) := by
  obtain ⟨hx, hb, hr, hlk, hml, hown, hnm, hts, hK, hNw⟩ := id G
  intro v3 v4 s0 σ hF H locs ls hW hl
  rw [f_X6_beginAgain_306] at hF
  refine lv_istore (lv' := [(5, .int s0), (0, .ref (α 20 0)), (3, .int v3), (4, .int v4)]) hx hb dX6_beginAgain_306 hl (by decide) rfl (fun ls hl => ?_)
  refine lv_aload_n hx hb dX6_beginAgain_308 rfl (lv_at hl 1 rfl) ?_
  refine gg_X6_71 G hW (by decide) dX6_beginAgain_309 ?_
  refine lv_iload hx hb dX6_beginAgain_312 (lv_at hl 3 rfl) ?_
  refine lv_aload_n hx hb dX6_beginAgain_314 rfl (lv_at hl 1 rfl) ?_
  refine gg_X6_71 G hW (by decide) dX6_beginAgain_315 ?_
  refine lv_iload hx hb dX6_beginAgain_318 (lv_at hl 3 rfl) ?_
  obtain ⟨x1, hx1, hF⟩ := o_b hF
  refine g_aI (φ := 41) G rfl rfl (by decide) rfl hW (by decide) hx1 dX6_beginAgain_320 ?_
  refine lv_iload hx hb dX6_beginAgain_321 (lv_at hl 0 rfl) ?_
  refine lv_icmp_ge (tgt := 336) hx hb dX6_beginAgain_323 (by decide) (fun hc => ?_) (fun hc => ?_)
  · replace hF := o_t hc hF
    refine lv_iload hx hb dX6_beginAgain_336 (lv_at hl 0 rfl) ?_
    exact w_X6_beginAgain_338 G k133 hk133 _ _ _ _ _ hF H locs ls hW (lv_sub hl [1, 2, 3] rfl)
  · replace hF := o_f hc hF
    refine lv_aload_n hx hb dX6_beginAgain_326 rfl (lv_at hl 1 rfl) ?_
    refine gg_X6_71 G hW (by decide) dX6_beginAgain_327 ?_
    refine lv_iload hx hb dX6_beginAgain_330 (lv_at hl 3 rfl) ?_
    obtain ⟨x2, hx2, hF⟩ := o_b hF
    refine g_aI (φ := 41) G rfl rfl (by decide) rfl hW (by decide) hx2 dX6_beginAgain_332 ?_
    refine lv_goto (tgt := 338) hx hb dX6_beginAgain_333 (by decide) ?_
    exact w_X6_beginAgain_338 G k133 hk133 _ _ _ _ _ hF H locs ls hW (lv_sub hl [1, 2, 3] rfl)
set_option maxHeartbeats 4000000 in
set_option maxRecDepth 100000 in
theorem w_X6_beginAgain_257 (G : gx p s m meth c args cX6_beginAgain 6 (some .int) RX6 "beginAgain" D dA) {r : Int32} {σz : sm_M} (k133 : Int32 → Int32 → sm_M → Option (Int32 × sm_M)) (hk133 : ∀ (v3 : Int32) (v4 : Int32) (σ : sm_M), k133 v3 v4 σ = some (r, σz) → ∀ (H : Heap) (locs : List Loc) (ls : Array Slot), Wd D dA 1 α s.heap σ H locs → lv_has ls 6 [(0, .ref (α 20 0)), (3, .int v3), (4, .int v4)] → gW 0 p l e s m args below meth c D dA 1 α (some (.int r)) σz H locs (F0 m 133 ls [])) : ∀ (v3 : Int32) (v4 : Int32) (σ : sm_M), f_X6_beginAgain_257 k133 v3 v4 σ = some (r, σz) → ∀ (H : Heap) (locs : List Loc) (ls : Array Slot), Wd D dA 1 α s.heap σ H locs → lv_has ls 6 [(0, .ref (α 20 0)), (3, .int v3), (4, .int v4)] → gW 0 p l e s m args below meth c D dA 1 α (some (.int r)) σz H locs (F0 m 257 ls []) := by
  obtain ⟨hx, hb, hr, hlk, hml, hown, hnm, hts, hK, hNw⟩ := id G
  intro v3 v4 σ hF H locs ls hW hl
  rw [f_X6_beginAgain_257] at hF
  refine lv_aload_n hx hb dX6_beginAgain_257 rfl (lv_at hl 0 rfl) ?_
  refine gg_X6_125 G hW (by decide) dX6_beginAgain_258 ?_
  refine lv_aload_n hx hb dX6_beginAgain_261 rfl (lv_at hl 0 rfl) ?_
  refine gg_X6_49 G hW (by decide) dX6_beginAgain_262 ?_
  refine lv_iload hx hb dX6_beginAgain_265 (lv_at hl 2 rfl) ?_
  obtain ⟨x1, hx1, hF⟩ := o_b hF
  refine g_aI (φ := 34) G rfl rfl (by decide) rfl hW (by decide) hx1 dX6_beginAgain_267 ?_
  obtain ⟨x2, hx2, hF⟩ := o_b hF
  refine g_aZ (φ := 59) G rfl rfl (by decide) rfl hW (by decide) hx2 dX6_beginAgain_268 ?_
  refine lv_if_eq (tgt := 339) hx hb dX6_beginAgain_269 (by decide) (fun hc => ?_) (fun hc => ?_)
  · replace hF := o_t hc hF
    exact w_X6_beginAgain_339 G k133 hk133 _ _ _ hF H locs ls hW (lv_sub hl [0, 1, 2] rfl)
  · replace hF := o_f hc hF
    refine lv_aload_n hx hb dX6_beginAgain_272 rfl (lv_at hl 0 rfl) ?_
    refine gg_X6_89 G hW (by decide) dX6_beginAgain_273 ?_
    refine lv_iload hx hb dX6_beginAgain_276 (lv_at hl 2 rfl) ?_
    obtain ⟨x3, hx3, hF⟩ := o_b hF
    refine g_aI (φ := 47) G rfl rfl (by decide) rfl hW (by decide) hx3 dX6_beginAgain_278 ?_
    refine lv_aload_n hx hb dX6_beginAgain_279 rfl (lv_at hl 0 rfl) ?_
    refine gg_X6_95 G hW (by decide) dX6_beginAgain_280 ?_
    refine lv_iload hx hb dX6_beginAgain_283 (lv_at hl 2 rfl) ?_
    obtain ⟨x4, hx4, hF⟩ := o_b hF
    refine g_aI (φ := 49) G rfl rfl (by decide) rfl hW (by decide) hx4 dX6_beginAgain_285 ?_
    refine lv_icmp_le (tgt := 299) hx hb dX6_beginAgain_286 (by decide) (fun hc => ?_) (fun hc => ?_)
    · replace hF := o_t hc hF
      refine lv_aload_n hx hb dX6_beginAgain_299 rfl (lv_at hl 0 rfl) ?_
      refine gg_X6_95 G hW (by decide) dX6_beginAgain_300 ?_
      refine lv_iload hx hb dX6_beginAgain_303 (lv_at hl 2 rfl) ?_
      obtain ⟨x5, hx5, hF⟩ := o_b hF
      refine g_aI (φ := 49) G rfl rfl (by decide) rfl hW (by decide) hx5 dX6_beginAgain_305 ?_
      exact w_X6_beginAgain_306 G k133 hk133 _ _ _ _ hF H locs ls hW (lv_sub hl [0, 1, 2] rfl)
    · replace hF := o_f hc hF
      refine lv_aload_n hx hb dX6_beginAgain_289 rfl (lv_at hl 0 rfl) ?_
      refine gg_X6_89 G hW (by decide) dX6_beginAgain_290 ?_
      refine lv_iload hx hb dX6_beginAgain_293 (lv_at hl 2 rfl) ?_
      obtain ⟨x6, hx6, hF⟩ := o_b hF
      refine g_aI (φ := 47) G rfl rfl (by decide) rfl hW (by decide) hx6 dX6_beginAgain_295 ?_
      refine lv_goto (tgt := 306) hx hb dX6_beginAgain_296 (by decide) ?_
      exact w_X6_beginAgain_306 G k133 hk133 _ _ _ _ hF H locs ls hW (lv_sub hl [0, 1, 2] rfl)
set_option maxHeartbeats 4000000 in
set_option maxRecDepth 100000 in
theorem w_X6_beginAgain_235 (G : gx p s m meth c args cX6_beginAgain 6 (some .int) RX6 "beginAgain" D dA) {r : Int32} {σz : sm_M} (k133 : Int32 → Int32 → sm_M → Option (Int32 × sm_M)) (hk133 : ∀ (v3 : Int32) (v4 : Int32) (σ : sm_M), k133 v3 v4 σ = some (r, σz) → ∀ (H : Heap) (locs : List Loc) (ls : Array Slot), Wd D dA 1 α s.heap σ H locs → lv_has ls 6 [(0, .ref (α 20 0)), (3, .int v3), (4, .int v4)] → gW 0 p l e s m args below meth c D dA 1 α (some (.int r)) σz H locs (F0 m 133 ls [])) : ∀ (v3 : Int32) (v4 : Int32) (σ : sm_M), f_X6_beginAgain_235 k133 v3 v4 σ = some (r, σz) → ∀ (H : Heap) (locs : List Loc) (ls : Array Slot), Wd D dA 1 α s.heap σ H locs → lv_has ls 6 [(0, .ref (α 20 0)), (3, .int v3), (4, .int v4)] → gW 0 p l e s m args below meth c D dA 1 α (some (.int r)) σz H locs (F0 m 235 ls []) := by
  obtain ⟨hx, hb, hr, hlk, hml, hown, hnm, hts, hK, hNw⟩ := id G
  intro v3 v4 σ hF H locs ls hW hl
  rw [f_X6_beginAgain_235] at hF
  refine lv_aload_n hx hb dX6_beginAgain_235 rfl (lv_at hl 0 rfl) ?_
  refine gg_X6_62 G hW (by decide) dX6_beginAgain_236 ?_
  refine lv_iload hx hb dX6_beginAgain_239 (lv_at hl 2 rfl) ?_
  refine lv_aload_n hx hb dX6_beginAgain_241 rfl (lv_at hl 0 rfl) ?_
  refine gg_X6_89 G hW (by decide) dX6_beginAgain_242 ?_
  refine lv_iload hx hb dX6_beginAgain_245 (lv_at hl 2 rfl) ?_
  obtain ⟨x1, hx1, hF⟩ := o_b hF
  refine g_aI (φ := 47) G rfl rfl (by decide) rfl hW (by decide) hx1 dX6_beginAgain_247 ?_
  obtain ⟨σ2, hσ2, hF⟩ := o_b hF
  refine g_uI (φ := 38) G rfl rfl (by decide) rfl hW (by decide) hσ2 dX6_beginAgain_248 (fun H locs hW => ?_)
  refine lv_aload_n hx hb dX6_beginAgain_249 rfl (lv_at hl 0 rfl) ?_
  refine gg_X6_74 G hW (by decide) dX6_beginAgain_250 ?_
  refine lv_iload hx hb dX6_beginAgain_253 (lv_at hl 2 rfl) ?_
  refine lv_iconst (v := 0) hx hb dX6_beginAgain_255 (by decide) ?_
  obtain ⟨σ3, hσ3, hF⟩ := o_b hF
  refine g_uZ (φ := 42) G rfl rfl (by decide) rfl hW (by decide) hσ3 dX6_beginAgain_256 (fun H locs hW => ?_)
  exact w_X6_beginAgain_257 G k133 hk133 _ _ _ hF H locs ls hW (lv_sub hl [0, 1, 2] rfl)
set_option maxHeartbeats 4000000 in
set_option maxRecDepth 100000 in
theorem w_X6_beginAgain_171 (G : gx p s m meth c args cX6_beginAgain 6 (some .int) RX6 "beginAgain" D dA) {r : Int32} {σz : sm_M} (k133 : Int32 → Int32 → sm_M → Option (Int32 × sm_M)) (hk133 : ∀ (v3 : Int32) (v4 : Int32) (σ : sm_M), k133 v3 v4 σ = some (r, σz) → ∀ (H : Heap) (locs : List Loc) (ls : Array Slot), Wd D dA 1 α s.heap σ H locs → lv_has ls 6 [(0, .ref (α 20 0)), (3, .int v3), (4, .int v4)] → gW 0 p l e s m args below meth c D dA 1 α (some (.int r)) σz H locs (F0 m 133 ls [])) : ∀ (v3 : Int32) (v4 : Int32) (σ : sm_M), f_X6_beginAgain_171 k133 v3 v4 σ = some (r, σz) → ∀ (H : Heap) (locs : List Loc) (ls : Array Slot), Wd D dA 1 α s.heap σ H locs → lv_has ls 6 [(0, .ref (α 20 0)), (3, .int v3), (4, .int v4)] → gW 0 p l e s m args below meth c D dA 1 α (some (.int r)) σz H locs (F0 m 171 ls []) := by
  obtain ⟨hx, hb, hr, hlk, hml, hown, hnm, hts, hK, hNw⟩ := id G
  intro v3 v4 σ hF H locs ls hW hl
  rw [f_X6_beginAgain_171] at hF
  refine lv_aload_n hx hb dX6_beginAgain_171 rfl (lv_at hl 0 rfl) ?_
  refine gg_X6_122 G hW (by decide) dX6_beginAgain_172 ?_
  refine lv_aload_n hx hb dX6_beginAgain_175 rfl (lv_at hl 0 rfl) ?_
  refine gg_X6_49 G hW (by decide) dX6_beginAgain_176 ?_
  refine lv_iload hx hb dX6_beginAgain_179 (lv_at hl 2 rfl) ?_
  obtain ⟨x1, hx1, hF⟩ := o_b hF
  refine g_aI (φ := 34) G rfl rfl (by decide) rfl hW (by decide) hx1 dX6_beginAgain_181 ?_
  obtain ⟨x2, hx2, hF⟩ := o_b hF
  refine g_aZ (φ := 58) G rfl rfl (by decide) rfl hW (by decide) hx2 dX6_beginAgain_182 ?_
  refine lv_if_eq (tgt := 339) hx hb dX6_beginAgain_183 (by decide) (fun hc => ?_) (fun hc => ?_)
  · replace hF := o_t hc hF
    exact w_X6_beginAgain_339 G k133 hk133 _ _ _ hF H locs ls hW (lv_sub hl [0, 1, 2] rfl)
  · replace hF := o_f hc hF
    refine lv_aload_n hx hb dX6_beginAgain_186 rfl (lv_at hl 0 rfl) ?_
    refine gg_X6_65 G hW (by decide) dX6_beginAgain_187 ?_
    refine lv_iload hx hb dX6_beginAgain_190 (lv_at hl 2 rfl) ?_
    refine lv_aload_n hx hb dX6_beginAgain_192 rfl (lv_at hl 0 rfl) ?_
    refine gg_X6_92 G hW (by decide) dX6_beginAgain_193 ?_
    refine lv_iload hx hb dX6_beginAgain_196 (lv_at hl 2 rfl) ?_
    obtain ⟨x3, hx3, hF⟩ := o_b hF
    refine g_aI (φ := 48) G rfl rfl (by decide) rfl hW (by decide) hx3 dX6_beginAgain_198 ?_
    obtain ⟨σ4, hσ4, hF⟩ := o_b hF
    refine g_uI (φ := 39) G rfl rfl (by decide) rfl hW (by decide) hσ4 dX6_beginAgain_199 (fun H locs hW => ?_)
    refine lv_aload_n hx hb dX6_beginAgain_200 rfl (lv_at hl 0 rfl) ?_
    refine gg_X6_55 G hW (by decide) dX6_beginAgain_201 ?_
    refine lv_iload hx hb dX6_beginAgain_204 (lv_at hl 2 rfl) ?_
    obtain ⟨x5, hx5, hF⟩ := o_b hF
    refine g_aZ (φ := 36) G rfl rfl (by decide) rfl hW (by decide) hx5 dX6_beginAgain_206 ?_
    refine lv_if_eq (tgt := 235) hx hb dX6_beginAgain_207 (by decide) (fun hc => ?_) (fun hc => ?_)
    · replace hF := o_t hc hF
      exact w_X6_beginAgain_235 G k133 hk133 _ _ _ hF H locs ls hW (lv_sub hl [0, 1, 2] rfl)
    · replace hF := o_f hc hF
      refine lv_aload_n hx hb dX6_beginAgain_210 rfl (lv_at hl 0 rfl) ?_
      refine gg_X6_125 G hW (by decide) dX6_beginAgain_211 ?_
      refine lv_aload_n hx hb dX6_beginAgain_214 rfl (lv_at hl 0 rfl) ?_
      refine gg_X6_49 G hW (by decide) dX6_beginAgain_215 ?_
      refine lv_iload hx hb dX6_beginAgain_218 (lv_at hl 2 rfl) ?_
      obtain ⟨x6, hx6, hF⟩ := o_b hF
      refine g_aI (φ := 34) G rfl rfl (by decide) rfl hW (by decide) hx6 dX6_beginAgain_220 ?_
      obtain ⟨x7, hx7, hF⟩ := o_b hF
      refine g_aZ (φ := 59) G rfl rfl (by decide) rfl hW (by decide) hx7 dX6_beginAgain_221 ?_
      refine lv_if_ne (tgt := 235) hx hb dX6_beginAgain_222 (by decide) (fun hc => ?_) (fun hc => ?_)
      · replace hF := o_f hc hF
        exact w_X6_beginAgain_235 G k133 hk133 _ _ _ hF H locs ls hW (lv_sub hl [0, 1, 2] rfl)
      · replace hF := o_t hc hF
        refine lv_aload_n hx hb dX6_beginAgain_225 rfl (lv_at hl 0 rfl) ?_
        refine gg_X6_74 G hW (by decide) dX6_beginAgain_226 ?_
        refine lv_iload hx hb dX6_beginAgain_229 (lv_at hl 2 rfl) ?_
        obtain ⟨x8, hx8, hF⟩ := o_b hF
        refine g_aZ (φ := 42) G rfl rfl (by decide) rfl hW (by decide) hx8 dX6_beginAgain_231 ?_
        refine lv_if_eq (tgt := 257) hx hb dX6_beginAgain_232 (by decide) (fun hc => ?_) (fun hc => ?_)
        · replace hF := o_t hc hF
          exact w_X6_beginAgain_257 G k133 hk133 _ _ _ hF H locs ls hW (lv_sub hl [0, 1, 2] rfl)
        · replace hF := o_f hc hF
          exact w_X6_beginAgain_235 G k133 hk133 _ _ _ hF H locs ls hW (lv_sub hl [0, 1, 2] rfl)
set_option maxHeartbeats 4000000 in
set_option maxRecDepth 100000 in
theorem w_X6_beginAgain_133 (G : gx p s m meth c args cX6_beginAgain 6 (some .int) RX6 "beginAgain" D dA) {r : Int32} {σz : sm_M} : ∀ (n : Nat) (v3 : Int32) (v4 : Int32) (σ : sm_M), f_X6_beginAgain_133 n v3 v4 σ = some (r, σz) → ∀ (H : Heap) (locs : List Loc) (ls : Array Slot), Wd D dA 1 α s.heap σ H locs → lv_has ls 6 [(0, .ref (α 20 0)), (3, .int v3), (4, .int v4)] → gW 0 p l e s m args below meth c D dA 1 α (some (.int r)) σz H locs (F0 m 133 ls []) := by
  obtain ⟨hx, hb, hr, hlk, hml, hown, hnm, hts, hK, hNw⟩ := id G
  intro n
  induction n with
  | zero => intro v3 v4 σ hF; exact absurd hF (by intro h; cases h)
  | succ n ih =>
    intro v3 v4 σ hF H locs ls hW hl
    rw [f_X6_beginAgain_133] at hF
    refine lv_iload hx hb dX6_beginAgain_133 (lv_at hl 2 rfl) ?_
    refine lv_aload_n hx hb dX6_beginAgain_135 rfl (lv_at hl 0 rfl) ?_
    refine gg_X6_135 G hW (by decide) dX6_beginAgain_136 ?_
    refine lv_icmp_ge (tgt := 345) hx hb dX6_beginAgain_139 (by decide) (fun hc => ?_) (fun hc => ?_)
    · replace hF := o_t hc hF
      exact w_X6_beginAgain_345 G _ _ hF H locs ls hW (lv_sub hl [0, 1] rfl)
    · replace hF := o_f hc hF
      refine lv_aload_n hx hb dX6_beginAgain_142 rfl (lv_at hl 0 rfl) ?_
      refine gg_X6_122 G hW (by decide) dX6_beginAgain_143 ?_
      refine lv_aload_n hx hb dX6_beginAgain_146 rfl (lv_at hl 0 rfl) ?_
      refine gg_X6_52 G hW (by decide) dX6_beginAgain_147 ?_
      refine lv_iload hx hb dX6_beginAgain_150 (lv_at hl 2 rfl) ?_
      obtain ⟨x1, hx1, hF⟩ := o_b hF
      refine g_aI (φ := 35) G rfl rfl (by decide) rfl hW (by decide) hx1 dX6_beginAgain_152 ?_
      obtain ⟨x2, hx2, hF⟩ := o_b hF
      refine g_aZ (φ := 58) G rfl rfl (by decide) rfl hW (by decide) hx2 dX6_beginAgain_153 ?_
      refine lv_if_eq (tgt := 171) hx hb dX6_beginAgain_154 (by decide) (fun hc => ?_) (fun hc => ?_)
      · replace hF := o_t hc hF
        exact w_X6_beginAgain_171 G (f_X6_beginAgain_133 n) ih _ _ _ hF H locs ls hW (lv_sub hl [0, 1, 2] rfl)
      · replace hF := o_f hc hF
        refine lv_aload_n hx hb dX6_beginAgain_157 rfl (lv_at hl 0 rfl) ?_
        refine gg_X6_68 G hW (by decide) dX6_beginAgain_158 ?_
        refine lv_iload hx hb dX6_beginAgain_161 (lv_at hl 2 rfl) ?_
        refine lv_aload_n hx hb dX6_beginAgain_163 rfl (lv_at hl 0 rfl) ?_
        refine gg_X6_95 G hW (by decide) dX6_beginAgain_164 ?_
        refine lv_iload hx hb dX6_beginAgain_167 (lv_at hl 2 rfl) ?_
        obtain ⟨x3, hx3, hF⟩ := o_b hF
        refine g_aI (φ := 49) G rfl rfl (by decide) rfl hW (by decide) hx3 dX6_beginAgain_169 ?_
        obtain ⟨σ4, hσ4, hF⟩ := o_b hF
        refine g_uI (φ := 40) G rfl rfl (by decide) rfl hW (by decide) hσ4 dX6_beginAgain_170 (fun H locs hW => ?_)
        exact w_X6_beginAgain_171 G (f_X6_beginAgain_133 n) ih _ _ _ hF H locs ls hW (lv_sub hl [0, 1, 2] rfl)
set_option maxHeartbeats 4000000 in
set_option maxRecDepth 100000 in
theorem w_X6_beginAgain_130 (G : gx p s m meth c args cX6_beginAgain 6 (some .int) RX6 "beginAgain" D dA) {r : Int32} {σz : sm_M} : ∀ (v3 : Int32) (σ : sm_M), f_X6_beginAgain_130 v3 σ = some (r, σz) → ∀ (H : Heap) (locs : List Loc) (ls : Array Slot), Wd D dA 1 α s.heap σ H locs → lv_has ls 6 [(0, .ref (α 20 0)), (3, .int v3)] → gW 0 p l e s m args below meth c D dA 1 α (some (.int r)) σz H locs (F0 m 130 ls []) := by
  obtain ⟨hx, hb, hr, hlk, hml, hown, hnm, hts, hK, hNw⟩ := id G
  intro v3 σ hF H locs ls hW hl
  rw [f_X6_beginAgain_130] at hF
  refine lv_iconst (v := 0) hx hb dX6_beginAgain_130 (by decide) ?_
  refine lv_istore (lv' := [(4, .int (0 : Int32)), (0, .ref (α 20 0)), (3, .int v3)]) hx hb dX6_beginAgain_131 hl (by decide) rfl (fun ls hl => ?_)
  exact w_X6_beginAgain_133 G 1000 _ _ _ hF H locs ls hW (lv_sub hl [1, 2, 0] rfl)
set_option maxHeartbeats 4000000 in
set_option maxRecDepth 100000 in
theorem w_X6_beginAgain_124 (G : gx p s m meth c args cX6_beginAgain 6 (some .int) RX6 "beginAgain" D dA) {r : Int32} {σz : sm_M} (k21 : Int32 → Int32 → Int32 → sm_M → Option (Int32 × sm_M)) (hk21 : ∀ (v2 : Int32) (v3 : Int32) (v4 : Int32) (σ : sm_M), k21 v2 v3 v4 σ = some (r, σz) → ∀ (H : Heap) (locs : List Loc) (ls : Array Slot), Wd D dA 1 α s.heap σ H locs → lv_has ls 6 [(0, .ref (α 20 0)), (2, .int v2), (3, .int v3), (4, .int v4)] → gW 0 p l e s m args below meth c D dA 1 α (some (.int r)) σz H locs (F0 m 21 ls [])) : ∀ (v2 : Int32) (v3 : Int32) (v4 : Int32) (σ : sm_M), f_X6_beginAgain_124 k21 v2 v3 v4 σ = some (r, σz) → ∀ (H : Heap) (locs : List Loc) (ls : Array Slot), Wd D dA 1 α s.heap σ H locs → lv_has ls 6 [(0, .ref (α 20 0)), (2, .int v2), (3, .int v3), (4, .int v4)] → gW 0 p l e s m args below meth c D dA 1 α (some (.int r)) σz H locs (F0 m 124 ls []) := by
  obtain ⟨hx, hb, hr, hlk, hml, hown, hnm, hts, hK, hNw⟩ := id G
  intro v2 v3 v4 σ hF H locs ls hW hl
  rw [f_X6_beginAgain_124] at hF
  refine lv_iinc (v := (v4 + 1)) (lv' := [(4, .int (v4 + 1)), (0, .ref (α 20 0)), (2, .int v2), (3, .int v3)]) hx hb dX6_beginAgain_124 hl (k := 3) rfl rfl (by decide) rfl (fun ls hl => ?_)
  refine lv_goto (tgt := 21) hx hb dX6_beginAgain_127 (by decide) ?_
  exact hk21 _ _ _ _ hF H locs ls hW (lv_sub hl [1, 2, 3, 0] rfl)
set_option maxHeartbeats 4000000 in
set_option maxRecDepth 100000 in
theorem w_X6_beginAgain_120 (G : gx p s m meth c args cX6_beginAgain 6 (some .int) RX6 "beginAgain" D dA) {r : Int32} {σz : sm_M} (k21 : Int32 → Int32 → Int32 → sm_M → Option (Int32 × sm_M)) (hk21 : ∀ (v2 : Int32) (v3 : Int32) (v4 : Int32) (σ : sm_M), k21 v2 v3 v4 σ = some (r, σz) → ∀ (H : Heap) (locs : List Loc) (ls : Array Slot), Wd D dA 1 α s.heap σ H locs → lv_has ls 6 [(0, .ref (α 20 0)), (2, .int v2), (3, .int v3), (4, .int v4)] → gW 0 p l e s m args below meth c D dA 1 α (some (.int r)) σz H locs (F0 m 21 ls [])) : ∀ (v2 : Int32) (v3 : Int32) (v4 : Int32) (s1 : Int32) (s2 : Int32) (σ : sm_M), f_X6_beginAgain_120 k21 v2 v3 v4 s1 s2 σ = some (r, σz) → ∀ (H : Heap) (locs : List Loc) (ls : Array Slot), Wd D dA 1 α s.heap σ H locs → lv_has ls 6 [(0, .ref (α 20 0)), (2, .int v2), (3, .int v3), (4, .int v4)] → gW 0 p l e s m args below meth c D dA 1 α (some (.int r)) σz H locs (F0 m 120 ls [.int s2, .int s1, .ref (α 31 0)]) := by
  obtain ⟨hx, hb, hr, hlk, hml, hown, hnm, hts, hK, hNw⟩ := id G
  intro v2 v3 v4 s1 s2 σ hF H locs ls hW hl
  rw [f_X6_beginAgain_120] at hF
  obtain ⟨σ1, hσ1, hF⟩ := o_b hF
  refine g_uI (φ := 31) G rfl rfl (by decide) rfl hW (by decide) hσ1 dX6_beginAgain_120 (fun H locs hW => ?_)
  refine lv_iinc (v := (v3 + 1)) (lv' := [(3, .int (v3 + 1)), (0, .ref (α 20 0)), (2, .int v2), (4, .int v4)]) hx hb dX6_beginAgain_121 hl (k := 2) rfl rfl (by decide) rfl (fun ls hl => ?_)
  exact w_X6_beginAgain_124 G k21 hk21 _ _ _ _ hF H locs ls hW (lv_sub hl [1, 2, 0, 3] rfl)
set_option maxHeartbeats 4000000 in
set_option maxRecDepth 100000 in
theorem w_X6_beginAgain_21 (G : gx p s m meth c args cX6_beginAgain 6 (some .int) RX6 "beginAgain" D dA) {r : Int32} {σz : sm_M} : ∀ (n : Nat) (v2 : Int32) (v3 : Int32) (v4 : Int32) (σ : sm_M), f_X6_beginAgain_21 n v2 v3 v4 σ = some (r, σz) → ∀ (H : Heap) (locs : List Loc) (ls : Array Slot), Wd D dA 1 α s.heap σ H locs → lv_has ls 6 [(0, .ref (α 20 0)), (2, .int v2), (3, .int v3), (4, .int v4)] → gW 0 p l e s m args below meth c D dA 1 α (some (.int r)) σz H locs (F0 m 21 ls []) := by
  obtain ⟨hx, hb, hr, hlk, hml, hown, hnm, hts, hK, hNw⟩ := id G
  intro n
  induction n with
  | zero => intro v2 v3 v4 σ hF; exact absurd hF (by intro h; cases h)
  | succ n ih =>
    intro v2 v3 v4 σ hF H locs ls hW hl
    rw [f_X6_beginAgain_21] at hF
    refine lv_iload hx hb dX6_beginAgain_21 (lv_at hl 3 rfl) ?_
    refine lv_aload_n hx hb dX6_beginAgain_23 rfl (lv_at hl 0 rfl) ?_
    refine gg_X6_131 G hW (by decide) dX6_beginAgain_24 ?_
    refine lv_icmp_ge (tgt := 130) hx hb dX6_beginAgain_27 (by decide) (fun hc => ?_) (fun hc => ?_)
    · replace hF := o_t hc hF
      exact w_X6_beginAgain_130 G _ _ hF H locs ls hW (lv_sub hl [0, 2] rfl)
    · replace hF := o_f hc hF
      refine lv_aload_n hx hb dX6_beginAgain_30 rfl (lv_at hl 0 rfl) ?_
      refine gg_X6_122 G hW (by decide) dX6_beginAgain_31 ?_
      refine lv_iload hx hb dX6_beginAgain_34 (lv_at hl 3 rfl) ?_
      obtain ⟨x1, hx1, hF⟩ := o_b hF
      refine g_aZ (φ := 58) G rfl rfl (by decide) rfl hW (by decide) hx1 dX6_beginAgain_36 ?_
      refine lv_if_eq (tgt := 124) hx hb dX6_beginAgain_37 (by decide) (fun hc => ?_) (fun hc => ?_)
      · replace hF := o_t hc hF
        exact w_X6_beginAgain_124 G (f_X6_beginAgain_21 n) ih _ _ _ _ hF H locs ls hW (lv_sub hl [0, 1, 2, 3] rfl)
      · replace hF := o_f hc hF
        refine lv_aload_n hx hb dX6_beginAgain_40 rfl (lv_at hl 0 rfl) ?_
        refine gg_X6_19 G hW (by decide) dX6_beginAgain_41 ?_
        refine lv_iload hx hb dX6_beginAgain_44 (lv_at hl 3 rfl) ?_
        refine lv_aload_n hx hb dX6_beginAgain_46 rfl (lv_at hl 0 rfl) ?_
        refine gg_X6_80 G hW (by decide) dX6_beginAgain_47 ?_
        refine lv_iload hx hb dX6_beginAgain_50 (lv_at hl 3 rfl) ?_
        obtain ⟨x2, hx2, hF⟩ := o_b hF
        refine g_aI (φ := 44) G rfl rfl (by decide) rfl hW (by decide) hx2 dX6_beginAgain_52 ?_
        obtain ⟨σ3, hσ3, hF⟩ := o_b hF
        refine g_uI (φ := 24) G rfl rfl (by decide) rfl hW (by decide) hσ3 dX6_beginAgain_53 (fun H locs hW => ?_)
        refine lv_aload_n hx hb dX6_beginAgain_54 rfl (lv_at hl 0 rfl) ?_
        refine gg_X6_22 G hW (by decide) dX6_beginAgain_55 ?_
        refine lv_iload hx hb dX6_beginAgain_58 (lv_at hl 3 rfl) ?_
        refine lv_aload_n hx hb dX6_beginAgain_60 rfl (lv_at hl 0 rfl) ?_
        refine gg_X6_83 G hW (by decide) dX6_beginAgain_61 ?_
        refine lv_iload hx hb dX6_beginAgain_64 (lv_at hl 3 rfl) ?_
        obtain ⟨x4, hx4, hF⟩ := o_b hF
        refine g_aI (φ := 45) G rfl rfl (by decide) rfl hW (by decide) hx4 dX6_beginAgain_66 ?_
        obtain ⟨σ5, hσ5, hF⟩ := o_b hF
        refine g_uI (φ := 25) G rfl rfl (by decide) rfl hW (by decide) hσ5 dX6_beginAgain_67 (fun H locs hW => ?_)
        refine lv_aload_n hx hb dX6_beginAgain_68 rfl (lv_at hl 0 rfl) ?_
        refine gg_X6_25 G hW (by decide) dX6_beginAgain_69 ?_
        refine lv_iload hx hb dX6_beginAgain_72 (lv_at hl 3 rfl) ?_
        refine lv_aload_n hx hb dX6_beginAgain_74 rfl (lv_at hl 0 rfl) ?_
        refine gg_X6_86 G hW (by decide) dX6_beginAgain_75 ?_
        refine lv_iload hx hb dX6_beginAgain_78 (lv_at hl 3 rfl) ?_
        obtain ⟨x6, hx6, hF⟩ := o_b hF
        refine g_aI (φ := 46) G rfl rfl (by decide) rfl hW (by decide) hx6 dX6_beginAgain_80 ?_
        obtain ⟨σ7, hσ7, hF⟩ := o_b hF
        refine g_uI (φ := 26) G rfl rfl (by decide) rfl hW (by decide) hσ7 dX6_beginAgain_81 (fun H locs hW => ?_)
        refine lv_aload_n hx hb dX6_beginAgain_82 rfl (lv_at hl 0 rfl) ?_
        refine gg_X6_40 G hW (by decide) dX6_beginAgain_83 ?_
        refine lv_iload hx hb dX6_beginAgain_86 (lv_at hl 3 rfl) ?_
        refine lv_aload_n hx hb dX6_beginAgain_88 rfl (lv_at hl 0 rfl) ?_
        refine gg_X6_40 G hW (by decide) dX6_beginAgain_89 ?_
        refine lv_iload hx hb dX6_beginAgain_92 (lv_at hl 3 rfl) ?_
        obtain ⟨x8, hx8, hF⟩ := o_b hF
        refine g_aI (φ := 31) G rfl rfl (by decide) rfl hW (by decide) hx8 dX6_beginAgain_94 ?_
        refine lv_aload_n hx hb dX6_beginAgain_95 rfl (lv_at hl 0 rfl) ?_
        refine gg_X6_148 G hW (by decide) dX6_beginAgain_96 ?_
        refine lv_iload_n hx hb dX6_beginAgain_99 rfl (lv_at hl 1 rfl) ?_
        refine lv_iadd hx hb dX6_beginAgain_100 ?_
        refine lv_icmp_le (tgt := 114) hx hb dX6_beginAgain_101 (by decide) (fun hc => ?_) (fun hc => ?_)
        · replace hF := o_t hc hF
          refine lv_aload_n hx hb dX6_beginAgain_114 rfl (lv_at hl 0 rfl) ?_
          refine gg_X6_148 G hW (by decide) dX6_beginAgain_115 ?_
          refine lv_iload_n hx hb dX6_beginAgain_118 rfl (lv_at hl 1 rfl) ?_
          refine lv_iadd hx hb dX6_beginAgain_119 ?_
          exact w_X6_beginAgain_120 G (f_X6_beginAgain_21 n) ih _ _ _ _ _ _ hF H locs ls hW (lv_sub hl [0, 1, 2, 3] rfl)
        · replace hF := o_f hc hF
          refine lv_aload_n hx hb dX6_beginAgain_104 rfl (lv_at hl 0 rfl) ?_
          refine gg_X6_40 G hW (by decide) dX6_beginAgain_105 ?_
          refine lv_iload hx hb dX6_beginAgain_108 (lv_at hl 3 rfl) ?_
          obtain ⟨x9, hx9, hF⟩ := o_b hF
          refine g_aI (φ := 31) G rfl rfl (by decide) rfl hW (by decide) hx9 dX6_beginAgain_110 ?_
          refine lv_goto (tgt := 120) hx hb dX6_beginAgain_111 (by decide) ?_
          exact w_X6_beginAgain_120 G (f_X6_beginAgain_21 n) ih _ _ _ _ _ _ hF H locs ls hW (lv_sub hl [0, 1, 2, 3] rfl)
set_option maxHeartbeats 4000000 in
set_option maxRecDepth 100000 in
theorem w_X6_beginAgain_15 (G : gx p s m meth c args cX6_beginAgain 6 (some .int) RX6 "beginAgain" D dA) {r : Int32} {σz : sm_M} : ∀ (s0 : Int32) (σ : sm_M), f_X6_beginAgain_15 s0 σ = some (r, σz) → ∀ (H : Heap) (locs : List Loc) (ls : Array Slot), Wd D dA 1 α s.heap σ H locs → lv_has ls 6 [(0, .ref (α 20 0))] → gW 0 p l e s m args below meth c D dA 1 α (some (.int r)) σz H locs (F0 m 15 ls [.int s0]) := by
  obtain ⟨hx, hb, hr, hlk, hml, hown, hnm, hts, hK, hNw⟩ := id G
  intro s0 σ hF H locs ls hW hl
  rw [f_X6_beginAgain_15] at hF
  refine lv_istore_n (lv' := [(2, .int s0), (0, .ref (α 20 0))]) hx hb dX6_beginAgain_15 rfl hl (by decide) rfl (fun ls hl => ?_)
  refine lv_iconst (v := 0) hx hb dX6_beginAgain_16 (by decide) ?_
  refine lv_istore_n (lv' := [(3, .int (0 : Int32)), (2, .int s0), (0, .ref (α 20 0))]) hx hb dX6_beginAgain_17 rfl hl (by decide) rfl (fun ls hl => ?_)
  refine lv_iconst (v := 0) hx hb dX6_beginAgain_18 (by decide) ?_
  refine lv_istore (lv' := [(4, .int (0 : Int32)), (3, .int (0 : Int32)), (2, .int s0), (0, .ref (α 20 0))]) hx hb dX6_beginAgain_19 hl (by decide) rfl (fun ls hl => ?_)
  exact w_X6_beginAgain_21 G 1000 _ _ _ _ hF H locs ls hW (lv_sub hl [3, 2, 1, 0] rfl)
set_option maxHeartbeats 4000000 in
set_option maxRecDepth 100000 in
theorem w_X6_beginAgain_0 (G : gx p s m meth c args cX6_beginAgain 6 (some .int) RX6 "beginAgain" D dA) {r : Int32} {σz : sm_M} : ∀ (v1 : Int32) (σ : sm_M), f_X6_beginAgain v1 σ = some (r, σz) → ∀ (H : Heap) (locs : List Loc) (ls : Array Slot), Wd D dA 1 α s.heap σ H locs → lv_has ls 6 [(0, .ref (α 20 0)), (1, .int v1)] → gW 0 p l e s m args below meth c D dA 1 α (some (.int r)) σz H locs (F0 m 0 ls []) := by
  obtain ⟨hx, hb, hr, hlk, hml, hown, hnm, hts, hK, hNw⟩ := id G
  intro v1 σ hF H locs ls hW hl
  rw [f_X6_beginAgain] at hF
  refine lv_iload_n hx hb dX6_beginAgain_0 rfl (lv_at hl 1 rfl) ?_
  refine lv_iconst (v := 4) hx hb dX6_beginAgain_1 (by decide) ?_
  refine lv_icmp_le (tgt := 10) hx hb dX6_beginAgain_2 (by decide) (fun hc => ?_) (fun hc => ?_)
  · replace hF := o_t hc hF
    refine lv_iconst (v := 1) hx hb dX6_beginAgain_10 (by decide) ?_
    refine lv_iload_n hx hb dX6_beginAgain_11 rfl (lv_at hl 1 rfl) ?_
    refine lv_iconst (v := 1) hx hb dX6_beginAgain_12 (by decide) ?_
    refine lv_isub hx hb dX6_beginAgain_13 ?_
    refine lv_ishl hx hb dX6_beginAgain_14 ?_
    exact w_X6_beginAgain_15 G _ _ hF H locs ls hW (lv_sub hl [0] rfl)
  · replace hF := o_f hc hF
    refine lv_bipush (v := 16) hx hb dX6_beginAgain_5 (by decide) ?_
    refine lv_goto (tgt := 15) hx hb dX6_beginAgain_7 (by decide) ?_
    exact w_X6_beginAgain_15 G _ _ hF H locs ls hW (lv_sub hl [0] rfl)
end WX6_beginAgain
theorem c_X6_beginAgain {l : Launch} {D : va_G} {dA : Nat → ClassId} {α : Nat → Nat → Nat} (hI : Inj 1 α) {v1 : Int32} {σ σz : sm_M} {r : Int32} (hF : f_X6_beginAgain v1 σ = some (r, σz)) : gM l D dA 1 α yX6_beginAgain cX6_beginAgain 6 (some .int) 0 [.ref (α 20 0), .int v1] σ (some (.int r)) σz :=
  g_met hI (by decide +kernel) (Nat.le_of_ble_eq_true rfl) (fun p e s m below meth c ls G hW hl => w_X6_beginAgain_0 G _ _ hF _ _ _ hW hl)
section KX6_beginAgain
variable {p : Program} {l : Launch} {e : Env} {R : Room} {s : State} {m : MethodId} {args : Array Value} {below : List Frame} {meth : Method} {c : Code} {H : Heap} {locs : List Loc} {cells slots : Nat} {Q : State → Prop}
variable {cc : ByteArray} {pc nL Z : Nat} {ls : Array Slot} {rest : List Value} {D : va_G} {dA : Nat → ClassId} {α : Nat → Nat → Nat} {H0 : Heap} {σ σ' : sm_M} {ret : Option FieldType} {own nm : String}
theorem kk_X6_239 (G : gx p s m meth c args cc nL ret RX6 nm D dA) (hW : Wd D dA 1 α H0 σ H locs) {v1 : Int32} {q : Int32 × sm_M} (hq : f_X6_beginAgain v1 σ = some q) (hls : ls.size = nL) (hR : 0 + 1 ≤ R.frames ∧ 8 + (6 + 11) + 44 * 0 ≤ R.locals) (hf : cells ≤ R.cells ∧ slots ≤ R.slots) (hcat : (rest.map fun v => v.category).sum ≤ 8) (hdg : decode cc pc = .ok (.invokevirtual 239, 3)) (kk : ∀ (H1 : Heap) (locs1 : List Loc), Wd D dA 1 α H0 q.2 H1 locs1 → W p l e R s m args below meth c H1 locs1 cells slots Q (F0 m (pc + 3) ls (.int q.1 :: rest))) : W p l e R s m args below meth c H locs cells slots Q (F0 m pc ls (.int v1 :: .ref (α 20 0) :: rest)) :=
  g_cV (n := 1) G (c_X6_beginAgain (l := l) hW.2.2.2 hq) ⟨wm_22_16, wm_22_17, wm_22_18, wm_1_5, wm_22_19⟩ (by decide +kernel) hW (g_recv (φ := 20) (ci := 6) G.2.2.2.2.2.2.2.2.1 rfl rfl rfl (by decide) hW.1 rfl) hR hf rfl hls rfl hcat hdg kk
end KX6_beginAgain
section WX6_failOne
variable {p : Program} {l : Launch} {e : Env} {s : State} {m : MethodId} {args : Array Value} {below : List Frame} {meth : Method} {c : Code} {D : va_G} {dA : Nat → ClassId} {α : Nat → Nat → Nat}
set_option maxHeartbeats 4000000 in
set_option maxRecDepth 100000 in
theorem w_X6_failOne_0 (G : gx p s m meth c args cX6_failOne 3 (some .int) RX6 "failOne" D dA) {r : Int32} {σz : sm_M} : ∀ (v1 : Int32) (v2 : Int32) (σ : sm_M), f_X6_failOne v1 v2 σ = some (r, σz) → ∀ (H : Heap) (locs : List Loc) (ls : Array Slot), Wd D dA 1 α s.heap σ H locs → lv_has ls 3 [(0, .ref (α 20 0)), (1, .int v1), (2, .int v2)] → gW 2 p l e s m args below meth c D dA 1 α (some (.int r)) σz H locs (F0 m 0 ls []) := by
  obtain ⟨hx, hb, hr, hlk, hml, hown, hnm, hts, hK, hNw⟩ := id G
  intro v1 v2 σ hF H locs ls hW hl
  rw [f_X6_failOne] at hF
  refine lv_aload_n hx hb dX6_failOne_0 rfl (lv_at hl 0 rfl) ?_
  refine lv_iload_n hx hb dX6_failOne_1 rfl (lv_at hl 1 rfl) ?_
  refine lv_iload_n hx hb dX6_failOne_2 rfl (lv_at hl 2 rfl) ?_
  obtain ⟨q1, hq1, hF⟩ := o_b hF
  refine kk_X6_230 G hW hq1 hl.1 ⟨Nat.le_of_ble_eq_true rfl, Nat.le_of_ble_eq_true rfl⟩ ⟨Nat.le_refl _, Nat.le_refl _⟩ (Nat.le_of_ble_eq_true rfl) dX6_failOne_3 (fun H locs hW => ?_)
  refine lv_aload_n hx hb dX6_failOne_6 rfl (lv_at hl 0 rfl) ?_
  refine gg_X6_37 G hW (by decide) dX6_failOne_7 ?_
  refine lv_iload_n hx hb dX6_failOne_10 rfl (lv_at hl 1 rfl) ?_
  obtain ⟨x2, hx2, hF⟩ := o_b hF
  refine g_aI (φ := 30) G rfl rfl (by decide) rfl hW (by decide) hx2 dX6_failOne_11 ?_
  refine lv_aload_n hx hb dX6_failOne_12 rfl (lv_at hl 0 rfl) ?_
  refine gg_X6_138 G hW (by decide) dX6_failOne_13 ?_
  refine lv_icmp_le (tgt := 26) hx hb dX6_failOne_16 (by decide) (fun hc => ?_) (fun hc => ?_)
  · replace hF := o_t hc hF
    refine lv_aload_n hx hb dX6_failOne_26 rfl (lv_at hl 0 rfl) ?_
    obtain ⟨q3, hq3, hF⟩ := o_b hF
    refine kk_X6_233 G hW hq3 hl.1 ⟨Nat.le_of_ble_eq_true rfl, Nat.le_of_ble_eq_true rfl⟩ ⟨Nat.le_refl _, Nat.le_refl _⟩ (Nat.le_of_ble_eq_true rfl) dX6_failOne_27 (fun H locs hW => ?_)
    refine lv_aload_n hx hb dX6_failOne_30 rfl (lv_at hl 0 rfl) ?_
    refine gg_X6_122 G hW (by decide) dX6_failOne_31 ?_
    refine lv_iload_n hx hb dX6_failOne_34 rfl (lv_at hl 1 rfl) ?_
    refine lv_iconst (v := 1) hx hb dX6_failOne_35 (by decide) ?_
    obtain ⟨σ4, hσ4, hF⟩ := o_b hF
    refine g_uZ (φ := 58) G rfl rfl (by decide) rfl hW (by decide) hσ4 dX6_failOne_36 (fun H locs hW => ?_)
    refine lv_aload_n hx hb dX6_failOne_37 rfl (lv_at hl 0 rfl) ?_
    obtain ⟨q5, hq5, hF⟩ := o_b hF
    refine kk_X6_236 G hW hq5 hl.1 ⟨Nat.le_of_ble_eq_true rfl, Nat.le_of_ble_eq_true rfl⟩ ⟨Nat.le_refl _, Nat.le_refl _⟩ (Nat.le_of_ble_eq_true rfl) dX6_failOne_38 (fun H locs hW => ?_)
    refine lv_aload_n hx hb dX6_failOne_41 rfl (lv_at hl 0 rfl) ?_
    refine lv_aload_n hx hb dX6_failOne_42 rfl (lv_at hl 0 rfl) ?_
    refine gg_X6_37 G hW (by decide) dX6_failOne_43 ?_
    refine lv_iload_n hx hb dX6_failOne_46 rfl (lv_at hl 1 rfl) ?_
    obtain ⟨x6, hx6, hF⟩ := o_b hF
    refine g_aI (φ := 30) G rfl rfl (by decide) rfl hW (by decide) hx6 dX6_failOne_47 ?_
    obtain ⟨q7, hq7, hF⟩ := o_b hF
    refine kk_X6_239 G hW hq7 hl.1 ⟨Nat.le_of_ble_eq_true rfl, Nat.le_of_ble_eq_true rfl⟩ ⟨Nat.le_refl _, Nat.le_refl _⟩ (Nat.le_of_ble_eq_true rfl) dX6_failOne_48 (fun H locs hW => ?_)
    exact g_iret G hW hF dX6_failOne_51
  · replace hF := o_f hc hF
    refine lv_aload_n hx hb dX6_failOne_19 rfl (lv_at hl 0 rfl) ?_
    refine lv_iconst (v := 1) hx hb dX6_failOne_20 (by decide) ?_
    obtain ⟨σ8, hσ8, hF⟩ := o_b hF
    refine pp_X6_163 G hW (by decide) hσ8 dX6_failOne_21 (fun H locs hW => ?_)
    refine lv_iconst (v := 0) hx hb dX6_failOne_24 (by decide) ?_
    exact g_iret G hW hF dX6_failOne_25
end WX6_failOne
theorem c_X6_failOne {l : Launch} {D : va_G} {dA : Nat → ClassId} {α : Nat → Nat → Nat} (hI : Inj 1 α) {v1 : Int32} {v2 : Int32} {σ σz : sm_M} {r : Int32} (hF : f_X6_failOne v1 v2 σ = some (r, σz)) : gM l D dA 1 α yX6_failOne cX6_failOne 3 (some .int) 2 [.ref (α 20 0), .int v1, .int v2] σ (some (.int r)) σz :=
  g_met hI (by decide +kernel) (Nat.le_of_ble_eq_true rfl) (fun p e s m below meth c ls G hW hl => w_X6_failOne_0 G _ _ _ hF _ _ _ hW hl)
section KX6_failOne
variable {p : Program} {l : Launch} {e : Env} {R : Room} {s : State} {m : MethodId} {args : Array Value} {below : List Frame} {meth : Method} {c : Code} {H : Heap} {locs : List Loc} {cells slots : Nat} {Q : State → Prop}
variable {cc : ByteArray} {pc nL Z : Nat} {ls : Array Slot} {rest : List Value} {D : va_G} {dA : Nat → ClassId} {α : Nat → Nat → Nat} {H0 : Heap} {σ σ' : sm_M} {ret : Option FieldType} {own nm : String}
theorem kk_X6_224 (G : gx p s m meth c args cc nL ret RX6 nm D dA) (hW : Wd D dA 1 α H0 σ H locs) {v1 : Int32} {v2 : Int32} {q : Int32 × sm_M} (hq : f_X6_failOne v1 v2 σ = some q) (hls : ls.size = nL) (hR : 2 + 1 ≤ R.frames ∧ 8 + (3 + 11) + 44 * 2 ≤ R.locals) (hf : cells ≤ R.cells ∧ slots ≤ R.slots) (hcat : (rest.map fun v => v.category).sum ≤ 8) (hdg : decode cc pc = .ok (.invokevirtual 224, 3)) (kk : ∀ (H1 : Heap) (locs1 : List Loc), Wd D dA 1 α H0 q.2 H1 locs1 → W p l e R s m args below meth c H1 locs1 cells slots Q (F0 m (pc + 3) ls (.int q.1 :: rest))) : W p l e R s m args below meth c H locs cells slots Q (F0 m pc ls (.int v2 :: .int v1 :: .ref (α 20 0) :: rest)) :=
  g_cV (n := 2) G (c_X6_failOne (l := l) hW.2.2.2 hq) ⟨wm_21_20, wm_21_21, wm_21_22, wm_1_5, wm_21_23⟩ (by decide +kernel) hW (g_recv (φ := 20) (ci := 6) G.2.2.2.2.2.2.2.2.1 rfl rfl rfl (by decide) hW.1 rfl) hR hf rfl hls rfl hcat hdg kk
end KX6_failOne
section WX6_step
variable {p : Program} {l : Launch} {e : Env} {s : State} {m : MethodId} {args : Array Value} {below : List Frame} {meth : Method} {c : Code} {D : va_G} {dA : Nat → ClassId} {α : Nat → Nat → Nat}
set_option maxHeartbeats 4000000 in
set_option maxRecDepth 100000 in
theorem w_X6_step_212 (G : gx p s m meth c args cX6_step 4 (some .int) RX6 "step" D dA) {r : Int32} {σz : sm_M} : ∀ (v1 : Int32) (σ : sm_M), f_X6_step_212 v1 σ = some (r, σz) → ∀ (H : Heap) (locs : List Loc) (ls : Array Slot), Wd D dA 1 α s.heap σ H locs → lv_has ls 4 [(0, .ref (α 20 0)), (1, .int v1)] → gW 3 p l e s m args below meth c D dA 1 α (some (.int r)) σz H locs (F0 m 212 ls []) := by
  obtain ⟨hx, hb, hr, hlk, hml, hown, hnm, hts, hK, hNw⟩ := id G
  intro v1 σ hF H locs ls hW hl
  rw [f_X6_step_212] at hF
  refine lv_aload_n hx hb dX6_step_212 rfl (lv_at hl 0 rfl) ?_
  refine lv_iload_n hx hb dX6_step_213 rfl (lv_at hl 1 rfl) ?_
  refine lv_iconst (v := 0) hx hb dX6_step_214 (by decide) ?_
  obtain ⟨q1, hq1, hF⟩ := o_b hF
  refine kk_X6_224 G hW hq1 hl.1 ⟨Nat.le_of_ble_eq_true rfl, Nat.le_of_ble_eq_true rfl⟩ ⟨Nat.le_refl _, Nat.le_refl _⟩ (Nat.le_of_ble_eq_true rfl) dX6_step_215 (fun H locs hW => ?_)
  refine lv_istore_n (lv' := [(3, .int q1.1), (0, .ref (α 20 0)), (1, .int v1)]) hx hb dX6_step_218 rfl hl (by decide) rfl (fun ls hl => ?_)
  refine lv_bipush (v := -5) hx hb dX6_step_219 (by decide) ?_
  exact g_iret G hW hF dX6_step_221
set_option maxHeartbeats 4000000 in
set_option maxRecDepth 100000 in
theorem w_X6_step_125 (G : gx p s m meth c args cX6_step 4 (some .int) RX6 "step" D dA) {r : Int32} {σz : sm_M} : ∀ (v2 : Int32) (σ : sm_M), f_X6_step_125 v2 σ = some (r, σz) → ∀ (H : Heap) (locs : List Loc) (ls : Array Slot), Wd D dA 1 α s.heap σ H locs → lv_has ls 4 [(2, .int v2)] → gW 3 p l e s m args below meth c D dA 1 α (some (.int r)) σz H locs (F0 m 125 ls []) := by
  obtain ⟨hx, hb, hr, hlk, hml, hown, hnm, hts, hK, hNw⟩ := id G
  intro v2 σ hF H locs ls hW hl
  rw [f_X6_step_125] at hF
  refine lv_iload_n hx hb dX6_step_125 rfl (lv_at hl 0 rfl) ?_
  exact g_iret G hW hF dX6_step_126
set_option maxHeartbeats 4000000 in
set_option maxRecDepth 100000 in
theorem w_X6_step_118 (G : gx p s m meth c args cX6_step 4 (some .int) RX6 "step" D dA) {r : Int32} {σz : sm_M} (k60 : Int32 → Int32 → sm_M → Option (Int32 × sm_M)) (hk60 : ∀ (v2 : Int32) (v3 : Int32) (σ : sm_M), k60 v2 v3 σ = some (r, σz) → ∀ (H : Heap) (locs : List Loc) (ls : Array Slot), Wd D dA 1 α s.heap σ H locs → lv_has ls 4 [(0, .ref (α 20 0)), (2, .int v2), (3, .int v3)] → gW 3 p l e s m args below meth c D dA 1 α (some (.int r)) σz H locs (F0 m 60 ls [])) : ∀ (v2 : Int32) (v3 : Int32) (s1 : Int32) (s2 : Int32) (σ : sm_M), f_X6_step_118 k60 v2 v3 s1 s2 σ = some (r, σz) → ∀ (H : Heap) (locs : List Loc) (ls : Array Slot), Wd D dA 1 α s.heap σ H locs → lv_has ls 4 [(0, .ref (α 20 0)), (2, .int v2), (3, .int v3)] → gW 3 p l e s m args below meth c D dA 1 α (some (.int r)) σz H locs (F0 m 118 ls [.int s2, .int s1, .ref (α 41 0)]) := by
  obtain ⟨hx, hb, hr, hlk, hml, hown, hnm, hts, hK, hNw⟩ := id G
  intro v2 v3 s1 s2 σ hF H locs ls hW hl
  rw [f_X6_step_118] at hF
  obtain ⟨σ1, hσ1, hF⟩ := o_b hF
  refine g_uI (φ := 41) G rfl rfl (by decide) rfl hW (by decide) hσ1 dX6_step_118 (fun H locs hW => ?_)
  refine lv_iinc (v := (v3 + 1)) (lv' := [(3, .int (v3 + 1)), (0, .ref (α 20 0)), (2, .int v2)]) hx hb dX6_step_119 hl (k := 2) rfl rfl (by decide) rfl (fun ls hl => ?_)
  refine lv_goto (tgt := 60) hx hb dX6_step_122 (by decide) ?_
  exact hk60 _ _ _ hF H locs ls hW (lv_sub hl [1, 2, 0] rfl)
set_option maxHeartbeats 4000000 in
set_option maxRecDepth 100000 in
theorem w_X6_step_112 (G : gx p s m meth c args cX6_step 4 (some .int) RX6 "step" D dA) {r : Int32} {σz : sm_M} (k60 : Int32 → Int32 → sm_M → Option (Int32 × sm_M)) (hk60 : ∀ (v2 : Int32) (v3 : Int32) (σ : sm_M), k60 v2 v3 σ = some (r, σz) → ∀ (H : Heap) (locs : List Loc) (ls : Array Slot), Wd D dA 1 α s.heap σ H locs → lv_has ls 4 [(0, .ref (α 20 0)), (2, .int v2), (3, .int v3)] → gW 3 p l e s m args below meth c D dA 1 α (some (.int r)) σz H locs (F0 m 60 ls [])) : ∀ (v2 : Int32) (v3 : Int32) (s1 : Int32) (σ : sm_M), f_X6_step_112 k60 v2 v3 s1 σ = some (r, σz) → ∀ (H : Heap) (locs : List Loc) (ls : Array Slot), Wd D dA 1 α s.heap σ H locs → lv_has ls 4 [(0, .ref (α 20 0)), (2, .int v2), (3, .int v3)] → gW 3 p l e s m args below meth c D dA 1 α (some (.int r)) σz H locs (F0 m 112 ls [.int s1, .ref (α 41 0)]) := by
  obtain ⟨hx, hb, hr, hlk, hml, hown, hnm, hts, hK, hNw⟩ := id G
  intro v2 v3 s1 σ hF H locs ls hW hl
  rw [f_X6_step_112] at hF
  refine lv_aload_n hx hb dX6_step_112 rfl (lv_at hl 0 rfl) ?_
  refine gg_X6_71 G hW (by decide) dX6_step_113 ?_
  refine lv_iload_n hx hb dX6_step_116 rfl (lv_at hl 2 rfl) ?_
  obtain ⟨x1, hx1, hF⟩ := o_b hF
  refine g_aI (φ := 41) G rfl rfl (by decide) rfl hW (by decide) hx1 dX6_step_117 ?_
  exact w_X6_step_118 G k60 hk60 _ _ _ _ _ hF H locs ls hW (lv_sub hl [0, 1, 2] rfl)
set_option maxHeartbeats 4000000 in
set_option maxRecDepth 100000 in
theorem w_X6_step_60 (G : gx p s m meth c args cX6_step 4 (some .int) RX6 "step" D dA) {r : Int32} {σz : sm_M} : ∀ (n : Nat) (v2 : Int32) (v3 : Int32) (σ : sm_M), f_X6_step_60 n v2 v3 σ = some (r, σz) → ∀ (H : Heap) (locs : List Loc) (ls : Array Slot), Wd D dA 1 α s.heap σ H locs → lv_has ls 4 [(0, .ref (α 20 0)), (2, .int v2), (3, .int v3)] → gW 3 p l e s m args below meth c D dA 1 α (some (.int r)) σz H locs (F0 m 60 ls []) := by
  obtain ⟨hx, hb, hr, hlk, hml, hown, hnm, hts, hK, hNw⟩ := id G
  intro n
  induction n with
  | zero => intro v2 v3 σ hF; exact absurd hF (by intro h; cases h)
  | succ n ih =>
    intro v2 v3 σ hF H locs ls hW hl
    rw [f_X6_step_60] at hF
    refine lv_iload_n hx hb dX6_step_60 rfl (lv_at hl 2 rfl) ?_
    refine lv_aload_n hx hb dX6_step_61 rfl (lv_at hl 0 rfl) ?_
    refine gg_X6_135 G hW (by decide) dX6_step_62 ?_
    refine lv_icmp_ge (tgt := 125) hx hb dX6_step_65 (by decide) (fun hc => ?_) (fun hc => ?_)
    · replace hF := o_t hc hF
      exact w_X6_step_125 G _ _ hF H locs ls hW (lv_sub hl [1] rfl)
    · replace hF := o_f hc hF
      refine lv_aload_n hx hb dX6_step_68 rfl (lv_at hl 0 rfl) ?_
      refine gg_X6_71 G hW (by decide) dX6_step_69 ?_
      refine lv_iload_n hx hb dX6_step_72 rfl (lv_at hl 2 rfl) ?_
      refine lv_aload_n hx hb dX6_step_73 rfl (lv_at hl 0 rfl) ?_
      refine gg_X6_68 G hW (by decide) dX6_step_74 ?_
      refine lv_iload_n hx hb dX6_step_77 rfl (lv_at hl 2 rfl) ?_
      obtain ⟨x1, hx1, hF⟩ := o_b hF
      refine g_aI (φ := 40) G rfl rfl (by decide) rfl hW (by decide) hx1 dX6_step_78 ?_
      refine lv_aload_n hx hb dX6_step_79 rfl (lv_at hl 0 rfl) ?_
      refine gg_X6_119 G hW (by decide) dX6_step_80 ?_
      refine lv_iload_n hx hb dX6_step_83 rfl (lv_at hl 2 rfl) ?_
      obtain ⟨x2, hx2, hF⟩ := o_b hF
      refine g_aI (φ := 57) G rfl rfl (by decide) rfl hW (by decide) hx2 dX6_step_84 ?_
      refine lv_icmp_le (tgt := 112) hx hb dX6_step_85 (by decide) (fun hc => ?_) (fun hc => ?_)
      · replace hF := o_t hc hF
        exact w_X6_step_112 G (f_X6_step_60 n) ih _ _ _ _ hF H locs ls hW (lv_sub hl [0, 1, 2] rfl)
      · replace hF := o_f hc hF
        refine lv_aload_n hx hb dX6_step_88 rfl (lv_at hl 0 rfl) ?_
        refine gg_X6_68 G hW (by decide) dX6_step_89 ?_
        refine lv_iload_n hx hb dX6_step_92 rfl (lv_at hl 2 rfl) ?_
        obtain ⟨x3, hx3, hF⟩ := o_b hF
        refine g_aI (φ := 40) G rfl rfl (by decide) rfl hW (by decide) hx3 dX6_step_93 ?_
        refine lv_aload_n hx hb dX6_step_94 rfl (lv_at hl 0 rfl) ?_
        refine gg_X6_71 G hW (by decide) dX6_step_95 ?_
        refine lv_iload_n hx hb dX6_step_98 rfl (lv_at hl 2 rfl) ?_
        obtain ⟨x4, hx4, hF⟩ := o_b hF
        refine g_aI (φ := 41) G rfl rfl (by decide) rfl hW (by decide) hx4 dX6_step_99 ?_
        refine lv_icmp_le (tgt := 112) hx hb dX6_step_100 (by decide) (fun hc => ?_) (fun hc => ?_)
        · replace hF := o_t hc hF
          exact w_X6_step_112 G (f_X6_step_60 n) ih _ _ _ _ hF H locs ls hW (lv_sub hl [0, 1, 2] rfl)
        · replace hF := o_f hc hF
          refine lv_aload_n hx hb dX6_step_103 rfl (lv_at hl 0 rfl) ?_
          refine gg_X6_68 G hW (by decide) dX6_step_104 ?_
          refine lv_iload_n hx hb dX6_step_107 rfl (lv_at hl 2 rfl) ?_
          obtain ⟨x5, hx5, hF⟩ := o_b hF
          refine g_aI (φ := 40) G rfl rfl (by decide) rfl hW (by decide) hx5 dX6_step_108 ?_
          refine lv_goto (tgt := 118) hx hb dX6_step_109 (by decide) ?_
          exact w_X6_step_118 G (f_X6_step_60 n) ih _ _ _ _ _ hF H locs ls hW (lv_sub hl [0, 1, 2] rfl)
set_option maxHeartbeats 4000000 in
set_option maxRecDepth 100000 in
theorem w_X6_step_30 (G : gx p s m meth c args cX6_step 4 (some .int) RX6 "step" D dA) {r : Int32} {σz : sm_M} : ∀ (σ : sm_M), f_X6_step_30 σ = some (r, σz) → ∀ (H : Heap) (locs : List Loc) (ls : Array Slot), Wd D dA 1 α s.heap σ H locs → lv_has ls 4 [] → gW 3 p l e s m args below meth c D dA 1 α (some (.int r)) σz H locs (F0 m 30 ls []) := by
  obtain ⟨hx, hb, hr, hlk, hml, hown, hnm, hts, hK, hNw⟩ := id G
  intro σ hF H locs ls hW hl
  rw [f_X6_step_30] at hF
  refine lv_bipush (v := -3) hx hb dX6_step_30 (by decide) ?_
  exact g_iret G hW hF dX6_step_32
set_option maxHeartbeats 4000000 in
set_option maxRecDepth 100000 in
theorem w_X6_step_0 (G : gx p s m meth c args cX6_step 4 (some .int) RX6 "step" D dA) {r : Int32} {σz : sm_M} : ∀ (v1 : Int32) (σ : sm_M), f_X6_step v1 σ = some (r, σz) → ∀ (H : Heap) (locs : List Loc) (ls : Array Slot), Wd D dA 1 α s.heap σ H locs → lv_has ls 4 [(0, .ref (α 20 0)), (1, .int v1)] → gW 3 p l e s m args below meth c D dA 1 α (some (.int r)) σz H locs (F0 m 0 ls []) := by
  obtain ⟨hx, hb, hr, hlk, hml, hown, hnm, hts, hK, hNw⟩ := id G
  intro v1 σ hF H locs ls hW hl
  rw [f_X6_step] at hF
  refine lv_aload_n hx hb dX6_step_0 rfl (lv_at hl 0 rfl) ?_
  refine lv_iload_n hx hb dX6_step_1 rfl (lv_at hl 1 rfl) ?_
  obtain ⟨q1, hq1, hF⟩ := o_b hF
  refine kk_X6_177 G hW hq1 hl.1 ⟨Nat.le_of_ble_eq_true rfl, Nat.le_of_ble_eq_true rfl⟩ ⟨Nat.le_refl _, Nat.le_refl _⟩ (Nat.le_of_ble_eq_true rfl) dX6_step_2 (fun H locs hW => ?_)
  refine lv_if_eq (tgt := 10) hx hb dX6_step_5 (by decide) (fun hc => ?_) (fun hc => ?_)
  · replace hF := o_t hc hF
    refine lv_aload_n hx hb dX6_step_10 rfl (lv_at hl 0 rfl) ?_
    refine gg_X6_163 G hW (by decide) dX6_step_11 ?_
    refine lv_if_ne (tgt := 30) hx hb dX6_step_14 (by decide) (fun hc => ?_) (fun hc => ?_)
    · replace hF := o_f hc hF
      exact w_X6_step_30 G  _ hF H locs ls hW (lv_sub hl [] rfl)
    · replace hF := o_t hc hF
      refine lv_aload_n hx hb dX6_step_17 rfl (lv_at hl 0 rfl) ?_
      refine gg_X6_40 G hW (by decide) dX6_step_18 ?_
      refine lv_iload_n hx hb dX6_step_21 rfl (lv_at hl 1 rfl) ?_
      obtain ⟨x2, hx2, hF⟩ := o_b hF
      refine g_aI (φ := 31) G rfl rfl (by decide) rfl hW (by decide) hx2 dX6_step_22 ?_
      refine lv_aload_n hx hb dX6_step_23 rfl (lv_at hl 0 rfl) ?_
      refine gg_X6_148 G hW (by decide) dX6_step_24 ?_
      refine lv_icmp_le (tgt := 33) hx hb dX6_step_27 (by decide) (fun hc => ?_) (fun hc => ?_)
      · replace hF := o_t hc hF
        refine lv_aload_n hx hb dX6_step_33 rfl (lv_at hl 0 rfl) ?_
        refine lv_iconst (v := 1) hx hb dX6_step_34 (by decide) ?_
        obtain ⟨σ3, hσ3, hF⟩ := o_b hF
        refine pp_X6_154 G hW (by decide) hσ3 dX6_step_35 (fun H locs hW => ?_)
        refine lv_aload_n hx hb dX6_step_38 rfl (lv_at hl 0 rfl) ?_
        refine lv_iload_n hx hb dX6_step_39 rfl (lv_at hl 1 rfl) ?_
        obtain ⟨q4, hq4, hF⟩ := o_b hF
        refine kk_X6_221 G hW hq4 hl.1 ⟨Nat.le_of_ble_eq_true rfl, Nat.le_of_ble_eq_true rfl⟩ ⟨Nat.le_refl _, Nat.le_refl _⟩ (Nat.le_of_ble_eq_true rfl) dX6_step_40 (fun H locs hW => ?_)
        refine lv_istore_n (lv' := [(2, .int q4.1), (0, .ref (α 20 0)), (1, .int v1)]) hx hb dX6_step_43 rfl hl (by decide) rfl (fun ls hl => ?_)
        refine lv_iload_n hx hb dX6_step_44 rfl (lv_at hl 0 rfl) ?_
        refine lv_if_lt (tgt := 127) hx hb dX6_step_45 (by decide) (fun hc => ?_) (fun hc => ?_)
        · replace hF := o_t hc hF
          refine lv_aload_n hx hb dX6_step_127 rfl (lv_at hl 1 rfl) ?_
          refine gg_X6_34 G hW (by decide) dX6_step_128 ?_
          refine lv_iload_n hx hb dX6_step_131 rfl (lv_at hl 2 rfl) ?_
          obtain ⟨x5, hx5, hF⟩ := o_b hF
          refine g_aI (φ := 29) G rfl rfl (by decide) rfl hW (by decide) hx5 dX6_step_132 ?_
          refine lv_iconst (v := 1) hx hb dX6_step_133 (by decide) ?_
          refine lv_icmp_le (tgt := 154) hx hb dX6_step_134 (by decide) (fun hc => ?_) (fun hc => ?_)
          · replace hF := o_t hc hF
            refine lv_aload_n hx hb dX6_step_154 rfl (lv_at hl 1 rfl) ?_
            refine gg_X6_141 G hW (by decide) dX6_step_155 ?_
            refine lv_if_eq (tgt := 212) hx hb dX6_step_158 (by decide) (fun hc => ?_) (fun hc => ?_)
            · replace hF := o_t hc hF
              exact w_X6_step_212 G _ _ hF H locs ls hW (lv_sub hl [1, 2] rfl)
            · replace hF := o_f hc hF
              refine lv_aload_n hx hb dX6_step_161 rfl (lv_at hl 1 rfl) ?_
              refine gg_X6_43 G hW (by decide) dX6_step_162 ?_
              refine lv_iload_n hx hb dX6_step_165 rfl (lv_at hl 2 rfl) ?_
              obtain ⟨x6, hx6, hF⟩ := o_b hF
              refine g_aI (φ := 32) G rfl rfl (by decide) rfl hW (by decide) hx6 dX6_step_166 ?_
              refine lv_bipush (v := 8) hx hb dX6_step_167 (by decide) ?_
              refine lv_icmp_ge (tgt := 212) hx hb dX6_step_169 (by decide) (fun hc => ?_) (fun hc => ?_)
              · replace hF := o_t hc hF
                exact w_X6_step_212 G _ _ hF H locs ls hW (lv_sub hl [1, 2] rfl)
              · replace hF := o_f hc hF
                refine lv_aload_n hx hb dX6_step_172 rfl (lv_at hl 1 rfl) ?_
                refine gg_X6_46 G hW (by decide) dX6_step_173 ?_
                refine lv_bipush (v := 8) hx hb dX6_step_176 (by decide) ?_
                refine lv_iload_n hx hb dX6_step_178 rfl (lv_at hl 2 rfl) ?_
                refine lv_imul hx hb dX6_step_179 ?_
                refine lv_aload_n hx hb dX6_step_180 rfl (lv_at hl 1 rfl) ?_
                refine gg_X6_43 G hW (by decide) dX6_step_181 ?_
                refine lv_iload_n hx hb dX6_step_184 rfl (lv_at hl 2 rfl) ?_
                obtain ⟨x7, hx7, hF⟩ := o_b hF
                refine g_aI (φ := 32) G rfl rfl (by decide) rfl hW (by decide) hx7 dX6_step_185 ?_
                refine lv_iadd hx hb dX6_step_186 ?_
                refine lv_aload_n hx hb dX6_step_187 rfl (lv_at hl 1 rfl) ?_
                refine gg_X6_19 G hW (by decide) dX6_step_188 ?_
                refine lv_iload_n hx hb dX6_step_191 rfl (lv_at hl 2 rfl) ?_
                obtain ⟨x8, hx8, hF⟩ := o_b hF
                refine g_aI (φ := 24) G rfl rfl (by decide) rfl hW (by decide) hx8 dX6_step_192 ?_
                obtain ⟨σ9, hσ9, hF⟩ := o_b hF
                refine g_uI (φ := 33) G rfl rfl (by decide) rfl hW (by decide) hσ9 dX6_step_193 (fun H locs hW => ?_)
                refine lv_aload_n hx hb dX6_step_194 rfl (lv_at hl 1 rfl) ?_
                refine gg_X6_43 G hW (by decide) dX6_step_195 ?_
                refine lv_iload_n hx hb dX6_step_198 rfl (lv_at hl 2 rfl) ?_
                refine lv_dup2_11 hx hb dX6_step_199 rfl rfl ?_
                obtain ⟨x10, hx10, hF⟩ := o_b hF
                refine g_aI (φ := 32) G rfl rfl (by decide) rfl hW (by decide) hx10 dX6_step_200 ?_
                refine lv_iconst (v := 1) hx hb dX6_step_201 (by decide) ?_
                refine lv_iadd hx hb dX6_step_202 ?_
                obtain ⟨σ11, hσ11, hF⟩ := o_b hF
                refine g_uI (φ := 32) G rfl rfl (by decide) rfl hW (by decide) hσ11 dX6_step_203 (fun H locs hW => ?_)
                refine lv_aload_n hx hb dX6_step_204 rfl (lv_at hl 1 rfl) ?_
                refine gg_X6_34 G hW (by decide) dX6_step_205 ?_
                refine lv_iload_n hx hb dX6_step_208 rfl (lv_at hl 2 rfl) ?_
                refine lv_bipush (v := 8) hx hb dX6_step_209 (by decide) ?_
                obtain ⟨σ12, hσ12, hF⟩ := o_b hF
                refine g_uI (φ := 29) G rfl rfl (by decide) rfl hW (by decide) hσ12 dX6_step_211 (fun H locs hW => ?_)
                exact w_X6_step_212 G _ _ hF H locs ls hW (lv_sub hl [1, 2] rfl)
          · replace hF := o_f hc hF
            refine lv_aload_n hx hb dX6_step_137 rfl (lv_at hl 1 rfl) ?_
            refine gg_X6_34 G hW (by decide) dX6_step_138 ?_
            refine lv_iload_n hx hb dX6_step_141 rfl (lv_at hl 2 rfl) ?_
            refine lv_aload_n hx hb dX6_step_142 rfl (lv_at hl 1 rfl) ?_
            refine gg_X6_34 G hW (by decide) dX6_step_143 ?_
            refine lv_iload_n hx hb dX6_step_146 rfl (lv_at hl 2 rfl) ?_
            obtain ⟨x13, hx13, hF⟩ := o_b hF
            refine g_aI (φ := 29) G rfl rfl (by decide) rfl hW (by decide) hx13 dX6_step_147 ?_
            refine lv_iconst (v := 2) hx hb dX6_step_148 (by decide) ?_
            obtain ⟨hd, hF⟩ := o_n hF
            refine lv_idiv hx hb dX6_step_149 hd ?_
            obtain ⟨σ14, hσ14, hF⟩ := o_b hF
            refine g_uI (φ := 29) G rfl rfl (by decide) rfl hW (by decide) hσ14 dX6_step_150 (fun H locs hW => ?_)
            refine lv_goto (tgt := 212) hx hb dX6_step_151 (by decide) ?_
            exact w_X6_step_212 G _ _ hF H locs ls hW (lv_sub hl [1, 2] rfl)
        · replace hF := o_f hc hF
          refine lv_aload_n hx hb dX6_step_48 rfl (lv_at hl 1 rfl) ?_
          refine lv_dup hx hb dX6_step_49 rfl ?_
          refine gg_X6_151 G hW (by decide) dX6_step_50 ?_
          refine lv_iconst (v := 1) hx hb dX6_step_53 (by decide) ?_
          refine lv_iadd hx hb dX6_step_54 ?_
          obtain ⟨σ15, hσ15, hF⟩ := o_b hF
          refine pp_X6_151 G hW (by decide) hσ15 dX6_step_55 (fun H locs hW => ?_)
          refine lv_iconst (v := 0) hx hb dX6_step_58 (by decide) ?_
          refine lv_istore_n (lv' := [(3, .int (0 : Int32)), (2, .int q4.1), (0, .ref (α 20 0)), (1, .int v1)]) hx hb dX6_step_59 rfl hl (by decide) rfl (fun ls hl => ?_)
          exact w_X6_step_60 G 1000 _ _ _ hF H locs ls hW (lv_sub hl [2, 1, 0] rfl)
      · replace hF := o_f hc hF
        exact w_X6_step_30 G  _ hF H locs ls hW (lv_sub hl [] rfl)
  · replace hF := o_f hc hF
    refine lv_iconst (v := -1) hx hb dX6_step_8 (by decide) ?_
    exact g_iret G hW hF dX6_step_9
end WX6_step
theorem c_X6_step {l : Launch} {D : va_G} {dA : Nat → ClassId} {α : Nat → Nat → Nat} (hI : Inj 1 α) {v1 : Int32} {σ σz : sm_M} {r : Int32} (hF : f_X6_step v1 σ = some (r, σz)) : gM l D dA 1 α yX6_step cX6_step 4 (some .int) 3 [.ref (α 20 0), .int v1] σ (some (.int r)) σz :=
  g_met hI (by decide +kernel) (Nat.le_of_ble_eq_true rfl) (fun p e s m below meth c ls G hW hl => w_X6_step_0 G _ _ hF _ _ _ hW hl)
section KX6_step
variable {p : Program} {l : Launch} {e : Env} {R : Room} {s : State} {m : MethodId} {args : Array Value} {below : List Frame} {meth : Method} {c : Code} {H : Heap} {locs : List Loc} {cells slots : Nat} {Q : State → Prop}
variable {cc : ByteArray} {pc nL Z : Nat} {ls : Array Slot} {rest : List Value} {D : va_G} {dA : Nat → ClassId} {α : Nat → Nat → Nat} {H0 : Heap} {σ σ' : sm_M} {ret : Option FieldType} {own nm : String}
end KX6_step
section WX6_fail
variable {p : Program} {l : Launch} {e : Env} {s : State} {m : MethodId} {args : Array Value} {below : List Frame} {meth : Method} {c : Code} {D : va_G} {dA : Nat → ClassId} {α : Nat → Nat → Nat}
set_option maxHeartbeats 4000000 in
set_option maxRecDepth 100000 in
theorem w_X6_fail_28 (G : gx p s m meth c args cX6_fail 2 (some .int) RX6 "fail" D dA) {r : Int32} {σz : sm_M} : ∀ (s0 : Int32) (σ : sm_M), f_X6_fail_28 s0 σ = some (r, σz) → ∀ (H : Heap) (locs : List Loc) (ls : Array Slot), Wd D dA 1 α s.heap σ H locs → lv_has ls 2 [] → gW 3 p l e s m args below meth c D dA 1 α (some (.int r)) σz H locs (F0 m 28 ls [.int s0]) := by
  obtain ⟨hx, hb, hr, hlk, hml, hown, hnm, hts, hK, hNw⟩ := id G
  intro s0 σ hF H locs ls hW hl
  rw [f_X6_fail_28] at hF
  exact g_iret G hW hF dX6_fail_28
set_option maxHeartbeats 4000000 in
set_option maxRecDepth 100000 in
theorem w_X6_fail_0 (G : gx p s m meth c args cX6_fail 2 (some .int) RX6 "fail" D dA) {r : Int32} {σz : sm_M} : ∀ (v1 : Int32) (σ : sm_M), f_X6_fail v1 σ = some (r, σz) → ∀ (H : Heap) (locs : List Loc) (ls : Array Slot), Wd D dA 1 α s.heap σ H locs → lv_has ls 2 [(0, .ref (α 20 0)), (1, .int v1)] → gW 3 p l e s m args below meth c D dA 1 α (some (.int r)) σz H locs (F0 m 0 ls []) := by
  obtain ⟨hx, hb, hr, hlk, hml, hown, hnm, hts, hK, hNw⟩ := id G
  intro v1 σ hF H locs ls hW hl
  rw [f_X6_fail] at hF
  refine lv_aload_n hx hb dX6_fail_0 rfl (lv_at hl 0 rfl) ?_
  refine lv_iload_n hx hb dX6_fail_1 rfl (lv_at hl 1 rfl) ?_
  obtain ⟨q1, hq1, hF⟩ := o_b hF
  refine kk_X6_177 G hW hq1 hl.1 ⟨Nat.le_of_ble_eq_true rfl, Nat.le_of_ble_eq_true rfl⟩ ⟨Nat.le_refl _, Nat.le_refl _⟩ (Nat.le_of_ble_eq_true rfl) dX6_fail_2 (fun H locs hW => ?_)
  refine lv_if_eq (tgt := 10) hx hb dX6_fail_5 (by decide) (fun hc => ?_) (fun hc => ?_)
  · replace hF := o_t hc hF
    refine lv_aload_n hx hb dX6_fail_10 rfl (lv_at hl 0 rfl) ?_
    refine gg_X6_163 G hW (by decide) dX6_fail_11 ?_
    refine lv_if_eq (tgt := 22) hx hb dX6_fail_14 (by decide) (fun hc => ?_) (fun hc => ?_)
    · replace hF := o_t hc hF
      refine lv_aload_n hx hb dX6_fail_22 rfl (lv_at hl 0 rfl) ?_
      refine lv_iload_n hx hb dX6_fail_23 rfl (lv_at hl 1 rfl) ?_
      refine lv_iconst (v := 1) hx hb dX6_fail_24 (by decide) ?_
      obtain ⟨q2, hq2, hF⟩ := o_b hF
      refine kk_X6_224 G hW hq2 hl.1 ⟨Nat.le_of_ble_eq_true rfl, Nat.le_of_ble_eq_true rfl⟩ ⟨Nat.le_refl _, Nat.le_refl _⟩ (Nat.le_of_ble_eq_true rfl) dX6_fail_25 (fun H locs hW => ?_)
      exact w_X6_fail_28 G _ _ hF H locs ls hW (lv_sub hl [] rfl)
    · replace hF := o_f hc hF
      refine lv_bipush (v := -3) hx hb dX6_fail_17 (by decide) ?_
      refine lv_goto (tgt := 28) hx hb dX6_fail_19 (by decide) ?_
      exact w_X6_fail_28 G _ _ hF H locs ls hW (lv_sub hl [] rfl)
  · replace hF := o_f hc hF
    refine lv_iconst (v := -1) hx hb dX6_fail_8 (by decide) ?_
    exact g_iret G hW hF dX6_fail_9
end WX6_fail
theorem c_X6_fail {l : Launch} {D : va_G} {dA : Nat → ClassId} {α : Nat → Nat → Nat} (hI : Inj 1 α) {v1 : Int32} {σ σz : sm_M} {r : Int32} (hF : f_X6_fail v1 σ = some (r, σz)) : gM l D dA 1 α yX6_fail cX6_fail 2 (some .int) 3 [.ref (α 20 0), .int v1] σ (some (.int r)) σz :=
  g_met hI (by decide +kernel) (Nat.le_of_ble_eq_true rfl) (fun p e s m below meth c ls G hW hl => w_X6_fail_0 G _ _ hF _ _ _ hW hl)
section KX6_fail
variable {p : Program} {l : Launch} {e : Env} {R : Room} {s : State} {m : MethodId} {args : Array Value} {below : List Frame} {meth : Method} {c : Code} {H : Heap} {locs : List Loc} {cells slots : Nat} {Q : State → Prop}
variable {cc : ByteArray} {pc nL Z : Nat} {ls : Array Slot} {rest : List Value} {D : va_G} {dA : Nat → ClassId} {α : Nat → Nat → Nat} {H0 : Heap} {σ σ' : sm_M} {ret : Option FieldType} {own nm : String}
end KX6_fail
section WX6_nodesThere
variable {p : Program} {l : Launch} {e : Env} {s : State} {m : MethodId} {args : Array Value} {below : List Frame} {meth : Method} {c : Code} {D : va_G} {dA : Nat → ClassId} {α : Nat → Nat → Nat}
set_option maxHeartbeats 4000000 in
set_option maxRecDepth 100000 in
theorem w_X6_nodesThere_32 (G : gx p s m meth c args cX6_nodesThere 3 (some .int) RX6 "nodesThere" D dA) {r : Int32} {σz : sm_M} : ∀ (v1 : Int32) (σ : sm_M), f_X6_nodesThere_32 v1 σ = some (r, σz) → ∀ (H : Heap) (locs : List Loc) (ls : Array Slot), Wd D dA 1 α s.heap σ H locs → lv_has ls 3 [(1, .int v1)] → gW 0 p l e s m args below meth c D dA 1 α (some (.int r)) σz H locs (F0 m 32 ls []) := by
  obtain ⟨hx, hb, hr, hlk, hml, hown, hnm, hts, hK, hNw⟩ := id G
  intro v1 σ hF H locs ls hW hl
  rw [f_X6_nodesThere_32] at hF
  refine lv_iload_n hx hb dX6_nodesThere_32 rfl (lv_at hl 0 rfl) ?_
  exact g_iret G hW hF dX6_nodesThere_33
set_option maxHeartbeats 4000000 in
set_option maxRecDepth 100000 in
theorem w_X6_nodesThere_24 (G : gx p s m meth c args cX6_nodesThere 3 (some .int) RX6 "nodesThere" D dA) {r : Int32} {σz : sm_M} (k4 : Int32 → Int32 → sm_M → Option (Int32 × sm_M)) (hk4 : ∀ (v1 : Int32) (v2 : Int32) (σ : sm_M), k4 v1 v2 σ = some (r, σz) → ∀ (H : Heap) (locs : List Loc) (ls : Array Slot), Wd D dA 1 α s.heap σ H locs → lv_has ls 3 [(0, .ref (α 20 0)), (1, .int v1), (2, .int v2)] → gW 0 p l e s m args below meth c D dA 1 α (some (.int r)) σz H locs (F0 m 4 ls [])) : ∀ (v2 : Int32) (s0 : Int32) (s1 : Int32) (σ : sm_M), f_X6_nodesThere_24 k4 v2 s0 s1 σ = some (r, σz) → ∀ (H : Heap) (locs : List Loc) (ls : Array Slot), Wd D dA 1 α s.heap σ H locs → lv_has ls 3 [(0, .ref (α 20 0)), (2, .int v2)] → gW 0 p l e s m args below meth c D dA 1 α (some (.int r)) σz H locs (F0 m 24 ls [.int s1, .int s0]) := by
  obtain ⟨hx, hb, hr, hlk, hml, hown, hnm, hts, hK, hNw⟩ := id G
  intro v2 s0 s1 σ hF H locs ls hW hl
  rw [f_X6_nodesThere_24] at hF
  refine lv_iadd hx hb dX6_nodesThere_24 ?_
  refine lv_istore_n (lv' := [(1, .int (s0 + s1)), (0, .ref (α 20 0)), (2, .int v2)]) hx hb dX6_nodesThere_25 rfl hl (by decide) rfl (fun ls hl => ?_)
  refine lv_iinc (v := (v2 + 1)) (lv' := [(2, .int (v2 + 1)), (1, .int (s0 + s1)), (0, .ref (α 20 0))]) hx hb dX6_nodesThere_26 hl (k := 2) rfl rfl (by decide) rfl (fun ls hl => ?_)
  refine lv_goto (tgt := 4) hx hb dX6_nodesThere_29 (by decide) ?_
  exact hk4 _ _ _ hF H locs ls hW (lv_sub hl [2, 1, 0] rfl)
set_option maxHeartbeats 4000000 in
set_option maxRecDepth 100000 in
theorem w_X6_nodesThere_4 (G : gx p s m meth c args cX6_nodesThere 3 (some .int) RX6 "nodesThere" D dA) {r : Int32} {σz : sm_M} : ∀ (n : Nat) (v1 : Int32) (v2 : Int32) (σ : sm_M), f_X6_nodesThere_4 n v1 v2 σ = some (r, σz) → ∀ (H : Heap) (locs : List Loc) (ls : Array Slot), Wd D dA 1 α s.heap σ H locs → lv_has ls 3 [(0, .ref (α 20 0)), (1, .int v1), (2, .int v2)] → gW 0 p l e s m args below meth c D dA 1 α (some (.int r)) σz H locs (F0 m 4 ls []) := by
  obtain ⟨hx, hb, hr, hlk, hml, hown, hnm, hts, hK, hNw⟩ := id G
  intro n
  induction n with
  | zero => intro v1 v2 σ hF; exact absurd hF (by intro h; cases h)
  | succ n ih =>
    intro v1 v2 σ hF H locs ls hW hl
    rw [f_X6_nodesThere_4] at hF
    refine lv_iload_n hx hb dX6_nodesThere_4 rfl (lv_at hl 2 rfl) ?_
    refine lv_iconst (v := 4) hx hb dX6_nodesThere_5 (by decide) ?_
    refine lv_icmp_ge (tgt := 32) hx hb dX6_nodesThere_6 (by decide) (fun hc => ?_) (fun hc => ?_)
    · replace hF := o_t hc hF
      exact w_X6_nodesThere_32 G _ _ hF H locs ls hW (lv_sub hl [1] rfl)
    · replace hF := o_f hc hF
      refine lv_iload_n hx hb dX6_nodesThere_9 rfl (lv_at hl 1 rfl) ?_
      refine lv_aload_n hx hb dX6_nodesThere_10 rfl (lv_at hl 0 rfl) ?_
      refine gg_X6_98 G hW (by decide) dX6_nodesThere_11 ?_
      refine lv_iload_n hx hb dX6_nodesThere_14 rfl (lv_at hl 2 rfl) ?_
      obtain ⟨x1, hx1, hF⟩ := o_b hF
      refine g_aZ (φ := 50) G rfl rfl (by decide) rfl hW (by decide) hx1 dX6_nodesThere_15 ?_
      refine lv_if_eq (tgt := 23) hx hb dX6_nodesThere_16 (by decide) (fun hc => ?_) (fun hc => ?_)
      · replace hF := o_t hc hF
        refine lv_iconst (v := 1) hx hb dX6_nodesThere_23 (by decide) ?_
        exact w_X6_nodesThere_24 G (f_X6_nodesThere_4 n) ih _ _ _ _ hF H locs ls hW (lv_sub hl [0, 2] rfl)
      · replace hF := o_f hc hF
        refine lv_iconst (v := 0) hx hb dX6_nodesThere_19 (by decide) ?_
        refine lv_goto (tgt := 24) hx hb dX6_nodesThere_20 (by decide) ?_
        exact w_X6_nodesThere_24 G (f_X6_nodesThere_4 n) ih _ _ _ _ hF H locs ls hW (lv_sub hl [0, 2] rfl)
set_option maxHeartbeats 4000000 in
set_option maxRecDepth 100000 in
theorem w_X6_nodesThere_0 (G : gx p s m meth c args cX6_nodesThere 3 (some .int) RX6 "nodesThere" D dA) {r : Int32} {σz : sm_M} : ∀ (σ : sm_M), f_X6_nodesThere σ = some (r, σz) → ∀ (H : Heap) (locs : List Loc) (ls : Array Slot), Wd D dA 1 α s.heap σ H locs → lv_has ls 3 [(0, .ref (α 20 0))] → gW 0 p l e s m args below meth c D dA 1 α (some (.int r)) σz H locs (F0 m 0 ls []) := by
  obtain ⟨hx, hb, hr, hlk, hml, hown, hnm, hts, hK, hNw⟩ := id G
  intro σ hF H locs ls hW hl
  rw [f_X6_nodesThere] at hF
  refine lv_iconst (v := 0) hx hb dX6_nodesThere_0 (by decide) ?_
  refine lv_istore_n (lv' := [(1, .int (0 : Int32)), (0, .ref (α 20 0))]) hx hb dX6_nodesThere_1 rfl hl (by decide) rfl (fun ls hl => ?_)
  refine lv_iconst (v := 0) hx hb dX6_nodesThere_2 (by decide) ?_
  refine lv_istore_n (lv' := [(2, .int (0 : Int32)), (1, .int (0 : Int32)), (0, .ref (α 20 0))]) hx hb dX6_nodesThere_3 rfl hl (by decide) rfl (fun ls hl => ?_)
  exact w_X6_nodesThere_4 G 1000 _ _ _ hF H locs ls hW (lv_sub hl [2, 1, 0] rfl)
end WX6_nodesThere
theorem c_X6_nodesThere {l : Launch} {D : va_G} {dA : Nat → ClassId} {α : Nat → Nat → Nat} (hI : Inj 1 α) {σ σz : sm_M} {r : Int32} (hF : f_X6_nodesThere σ = some (r, σz)) : gM l D dA 1 α yX6_nodesThere cX6_nodesThere 3 (some .int) 0 [.ref (α 20 0)] σ (some (.int r)) σz :=
  g_met hI (by decide +kernel) (Nat.le_of_ble_eq_true rfl) (fun p e s m below meth c ls G hW hl => w_X6_nodesThere_0 G  _ hF _ _ _ hW hl)
section KX6_nodesThere
variable {p : Program} {l : Launch} {e : Env} {R : Room} {s : State} {m : MethodId} {args : Array Value} {below : List Frame} {meth : Method} {c : Code} {H : Heap} {locs : List Loc} {cells slots : Nat} {Q : State → Prop}
variable {cc : ByteArray} {pc nL Z : Nat} {ls : Array Slot} {rest : List Value} {D : va_G} {dA : Nat → ClassId} {α : Nat → Nat → Nat} {H0 : Heap} {σ σ' : sm_M} {ret : Option FieldType} {own nm : String}
theorem kk_X6_242 (G : gx p s m meth c args cc nL ret RX6 nm D dA) (hW : Wd D dA 1 α H0 σ H locs) {q : Int32 × sm_M} (hq : f_X6_nodesThere σ = some q) (hls : ls.size = nL) (hR : 0 + 1 ≤ R.frames ∧ 8 + (3 + 11) + 44 * 0 ≤ R.locals) (hf : cells ≤ R.cells ∧ slots ≤ R.slots) (hcat : (rest.map fun v => v.category).sum ≤ 8) (hdg : decode cc pc = .ok (.invokevirtual 242, 3)) (kk : ∀ (H1 : Heap) (locs1 : List Loc), Wd D dA 1 α H0 q.2 H1 locs1 → W p l e R s m args below meth c H1 locs1 cells slots Q (F0 m (pc + 3) ls (.int q.1 :: rest))) : W p l e R s m args below meth c H locs cells slots Q (F0 m pc ls (.ref (α 20 0) :: rest)) :=
  g_cV (n := 0) G (c_X6_nodesThere (l := l) hW.2.2.2 hq) ⟨wm_24_14, wm_24_15, wm_24_16, wm_1_5, wm_24_17⟩ (by decide +kernel) hW (g_recv (φ := 20) (ci := 6) G.2.2.2.2.2.2.2.2.1 rfl rfl rfl (by decide) hW.1 rfl) hR hf rfl hls rfl hcat hdg kk
end KX6_nodesThere
