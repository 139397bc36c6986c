/-! THE CLAIM OUT OF ONE WALK OF THE LAW'S BODY. Your part is whole_start (and what it stands on); all else here is the same for every law, but numbers. -/
def R_law : String := "RegionRestartsLaw"
def lw_P (b : Addr) (xs : List Int32) (args : Array Value) (s : State) : Prop := args = #[.ref b] ∧ s.IntsAt b xs ∧ xs.length ≤ 2048 ∧ (Jvm.Cond.and given_1 narrow_1).before args s = true
def lw_Q (_ : Array Value) (s : State) (o : Outcome) (t : State) : Prop := o = .returned (some (.int 1)) ∧ Framed s o t [] 600000 7302250
def lw_Z (below : List Frame) (a : Array Value) (s : State) : State → Prop := fun t => ∃ o, t.status = .running ∧ Ended t below o ∧ lw_Q a s o t
/-- the law's own end, with 1 on the stack, nothing written that was there before, its room as the claim has it -/
theorem lw_ret {p : Program} {l : Launch} {e : Env} {s : State} {m : MethodId} {below : List Frame} {meth : Method} {c : Code} {b : Nat} (hx : p.tables.exec = Jvm.exec) (hb : c.code = code) (hr : meth.sig.returnType = ret) (hlocks : meth.locks = false) {pc : Nat} {H : Heap} {ls : Array Slot} (hdg : decode code pc = .ok (.ireturn, 1)) : W p l e room_1 s m #[Value.ref b] below meth c H [] 600000 7302250 (lw_Z below #[Value.ref b] s) (F0 m pc ls [.int 1]) := by
  intro T hT X
  obtain ⟨fs, hret, hrun, hended, hW, hframe⟩ := X.leave (v := some (.int 1)) (hlocks := hlocks) (fun h => by rw [hr] at h; cases h)
  have hmeth' : T.vm.method? m = some meth := X.method'
  refine ⟨T.setFrames fs, ?_, .returned (some (.int 1)), hrun, hended, rfl, ⟨_, rfl⟩, hW, hframe⟩
  jvm_step X.here [X.here.top, hx, hb, hdg, hmeth', hr, ret, narrow_b1]
  (try refine ⟨rfl, ?_⟩); (try refine ⟨rfl, ?_⟩)
  first | (intro acts; rw [hret _ acts rfl rfl rfl]) | rw [hret _ _ rfl rfl rfl]
  exact Steps.refl _
/-- what holds at the law's entry: the machine, the code, the tables' words (any of lw_tbl by 'hts w (by decide +kernel)'), the script of L ints xs at the cell b, what the Statement gives of the start (any of its parts by flat_of_before) -/
def lw_At (p : Program) (s : State) (m : MethodId) (meth : Method) (c : Code) (b L : Nat) (xs : Nat → Int32) : Prop :=
  p.tables.exec = Jvm.exec ∧ c.code = code ∧ meth.sig.returnType = ret ∧ c.maxLocals = 4 ∧ s.vm.findClass R_law = some m.cls ∧ (∀ w ∈ lw_tbl, w.before #[Value.ref b] s = true) ∧ va_X b L xs s s.heap ∧ b < s.heap.size ∧ meth.locks = false ∧ (Jvm.Cond.and given_1 narrow_1).before #[Value.ref b] s = true
-- ===== YOUR PART BEGINS =====
/-! ===== the law's walk ===== -/
def lE (αc αm : Nat → Nat → Nat) (s : State) (b L : Nat) (xs : Nat → Int32) : Prop := va_X b L xs s s.heap ∧ b < s.heap.size
/-- both systems in the heap; nothing old has changed -/
def LW (D : va_G) (dA : Nat → ClassId) (αc αm : Nat → Nat → Nat) (s : State) (σ τ : sm_M) (H : Heap) (locs : List Loc) : Prop :=
  Rep D dA 0 αc σ H ∧ Rep D dA 1 αm τ H ∧ (∀ q : Nat, q < s.heap.size → H[q]? = s.heap[q]?) ∧ (∀ x ∈ locs, s.heap.size ≤ x.base) ∧ Inj 0 αc ∧ Inj 1 αm ∧ (∀ q : Nat, Ad 0 αc q → s.heap.size ≤ q ∧ ¬ Ad 1 αm q) ∧ (∀ q : Nat, Ad 1 αm q → s.heap.size ≤ q ∧ ¬ Ad 0 αc q)
abbrev lW (p : Program) (l : Launch) (e : Env) (s : State) (m : MethodId) (b : Nat) (below : List Frame) (meth : Method) (c : Code) (H : Heap) (locs : List Loc) (g : JFrame) : Prop := W p l e room_1 s m #[Value.ref b] below meth c H locs 180 13941 (lw_Z below #[Value.ref b] s) g
theorem Rep.frame {D : va_G} {dA : Nat → ClassId} {Z : Nat} {α : Nat → Nat → Nat} {σ : sm_M} {H H1 : Heap} (h : Rep D dA Z α σ H) (k : ∀ q : Nat, Ad Z α q → H1[q]? = H[q]?) : Rep D dA Z α σ H1 := by
  intro φ i h1 h2
  have e := k (α φ i) ⟨φ, i, h1, h2, rfl⟩
  refine ⟨fun g => ?_, fun g => ?_⟩
  · obtain ⟨r, hr, ho⟩ := (h φ i h1 h2).1 g
    exact ⟨r, hr, ho.kept e⟩
  · rw [e]; exact (h φ i h1 h2).2 g
section LAW
variable {p : Program} {l : Launch} {e : Env} {s : State} {m : MethodId} {below : List Frame} {meth : Method} {c : Code} {H : Heap} {locs : List Loc} {ls : Array Slot} {rest : List Value} {b L pc : Nat} {xs : Nat → Int32} {D : va_G} {dA : Nat → ClassId} {αc αm : Nat → Nat → Nat} {σ τ σ' : sm_M} {nm : String}
theorem g_scld (G : gx p s m meth c #[Value.ref b] code 4 ret RL nm D dA) (E : lE αc αm s b L xs) (hW : LW D dA αc αm s σ τ H locs) {i v : Int32} (h : scA L xs i = some v) (hdg : decode code pc = .ok (.iaload, 1)) (kk : lW p l e s m b below meth c H locs (F0 m (pc + 1) ls (.int v :: rest))) : lW p l e s m b below meth c H locs (F0 m pc ls (.int i :: .ref b :: rest)) := by
  obtain ⟨hx, hb, hr, hlk, hml, hown, hnm, hts, hK, hNw⟩ := G
  obtain ⟨⟨scr, h1, h2, h3, h4, h5⟩, hbl⟩ := E
  obtain ⟨⟨g1, g2⟩, hv⟩ := o_i h
  exact W.iald (v := .int v) hx hb (by rw [hW.2.2.1 b hbl]; exact h1) h2 h3 (by rw [h4]; exact fun q => q.elim g1 (fun q => absurd g2 (Nat.not_lt.mpr q))) (by rw [h5 _ g2, hv]) rfl rfl hdg kk
theorem g_scln (G : gx p s m meth c #[Value.ref b] code 4 ret RL nm D dA) (E : lE αc αm s b L xs) (hW : LW D dA αc αm s σ τ H locs) (hdg : decode code pc = .ok (.arraylength, 1)) (kk : lW p l e s m b below meth c H locs (F0 m (pc + 1) ls (.int (Int32.ofNat L) :: rest))) : lW p l e s m b below meth c H locs (F0 m pc ls (.ref b :: rest)) := by
  obtain ⟨hx, hb, hr, hlk, hml, hown, hnm, hts, hK, hNw⟩ := G
  obtain ⟨⟨scr, h1, h2, h3, h4, h5⟩, hbl⟩ := E
  exact W.alen (n := Int32.ofNat L) hx hb (by rw [hW.2.2.1 b hbl]; exact h1) h2 (by rw [h4] <;> rfl) rfl rfl hdg kk
theorem g_lret (G : gx p s m meth c #[Value.ref b] code 4 ret RL nm D dA) (E : lE αc αm s b L xs) (hW : LW D dA αc αm s σ τ H locs) {v : Int32} (hF : some v = some 1) (hdg : decode code pc = .ok (.ireturn, 1)) : lW p l e s m b below meth c H locs (F0 m pc ls [.int v]) := by
  obtain ⟨hx, hb, hr, hlk, hml, hown, hnm, hts, hK, hNw⟩ := G
  cases hF
  exact va_forget hW.2.2.2.1 (W.widen (k := 600000) (n := 7302250) (by decide) (by decide) (lw_ret hx hb hr hlk hdg))
variable {y : MethodName} {bytes : ByteArray} {maxL index dc : Nat} {rt : Option FieldType} {As st0 : List Value} {rv : Option Value}
theorem g_lC {k : Nat} (G : gx p s m meth c #[Value.ref b] code 4 ret RL nm D dA) (hW : LW D dA αc αm s σ τ H locs) (hM : gM l D dA 0 αc y bytes maxL rt dc (.ref (αc 0 0) :: As) σ rv σ') (hw : Cond.methodLink RL index y ∈ wsL_law ∧ Cond.instanceMethod y ∈ wsL_law ∧ Cond.selects y.cls y y ∈ wsL_law ∧ Cond.initialized y.cls ∈ wsL_law ∧ Cond.code y bytes maxL rt ∈ wsL_law) (hd : y.cls = RX5 ∧ g_dk y k) (hR : dc + 1 ≤ room_1.frames ∧ 8 + (maxL + 11) + 44 * dc ≤ room_1.locals) (hn : As.length = k) (hls : ls.size = 4) (hst : st0 = As.reverse ++ .ref (αc 0 0) :: rest) (hcat : (rest.map fun v => v.category).sum ≤ 8) (hdg : decode code pc = .ok (.invokevirtual index, 3))
    (kk : ∀ (H1 : Heap) (locs1 : List Loc), LW D dA αc αm s σ' τ H1 locs1 → lW p l e s m b below meth c H1 locs1 (F0 m (pc + 3) ls (rv.toList ++ rest))) : lW p l e s m b below meth c H locs (F0 m pc ls st0) := by
  obtain ⟨h1, h2, h3, h4, h5, h6, h7, h8⟩ := hW
  have hrec := g_recv (φ := 0) (i := 0) (ci := 5) G.2.2.2.2.2.2.2.2.1 rfl rfl rfl (by decide) h1 rfl
  refine g_cR G hM hw hd.2 h1 (by rw [hd.1]; exact hrec) hR ⟨by decide, by decide⟩ hn hls hst hcat hdg (fun H1 L1 r1 o1 l1 => ?_)
  refine kk H1 _ ⟨r1, h2.frame (fun q hq => o1 q (h8 q hq).2), fun q hq => ?_, fun x hx => ?_, h5, h6, h7, h8⟩
  · rw [o1 q (fun g => absurd (h7 q g).1 (Nat.not_le.mpr hq))]; exact h3 q hq
  · rcases List.mem_append.mp hx with g | g
    · exact h4 x g
    · exact (h7 _ (l1 x g)).1
theorem g_lM {k : Nat} (G : gx p s m meth c #[Value.ref b] code 4 ret RL nm D dA) (hW : LW D dA αc αm s σ τ H locs) (hM : gM l D dA 1 αm y bytes maxL rt dc (.ref (αm 20 0) :: As) τ rv σ') (hw : Cond.methodLink RL index y ∈ wsL_law ∧ Cond.instanceMethod y ∈ wsL_law ∧ Cond.selects y.cls y y ∈ wsL_law ∧ Cond.initialized y.cls ∈ wsL_law ∧ Cond.code y bytes maxL rt ∈ wsL_law) (hd : y.cls = RX6 ∧ g_dk y k) (hR : dc + 1 ≤ room_1.frames ∧ 8 + (maxL + 11) + 44 * dc ≤ room_1.locals) (hn : As.length = k) (hls : ls.size = 4) (hst : st0 = As.reverse ++ .ref (αm 20 0) :: rest) (hcat : (rest.map fun v => v.category).sum ≤ 8) (hdg : decode code pc = .ok (.invokevirtual index, 3))
    (kk : ∀ (H1 : Heap) (locs1 : List Loc), LW D dA αc αm s σ σ' H1 locs1 → lW p l e s m b below meth c H1 locs1 (F0 m (pc + 3) ls (rv.toList ++ rest))) : lW p l e s m b below meth c H locs (F0 m pc ls st0) := by
  obtain ⟨h1, h2, h3, h4, h5, h6, h7, h8⟩ := hW
  have hrec := g_recv (φ := 20) (i := 0) (ci := 6) G.2.2.2.2.2.2.2.2.1 rfl rfl rfl (by decide) h2 rfl
  refine g_cR G hM hw hd.2 h2 (by rw [hd.1]; exact hrec) hR ⟨by decide, by decide⟩ hn hls hst hcat hdg (fun H1 L1 r1 o1 l1 => ?_)
  refine kk H1 _ ⟨h1.frame (fun q hq => o1 q (h7 q hq).2), r1, fun q hq => ?_, fun x hx => ?_, h5, h6, h7, h8⟩
  · rw [o1 q (fun g => absurd (h8 q g).1 (Nat.not_le.mpr hq))]; exact h3 q hq
  · rcases List.mem_append.mp hx with g | g
    · exact h4 x g
    · exact (h8 _ (l1 x g)).1
end LAW
section LR
variable {p : Program} {l : Launch} {e : Env} {s : State} {m : MethodId} {below : List Frame} {meth : Method} {c : Code} {H : Heap} {locs : List Loc} {ls : Array Slot} {rest : List Value} {b L pc : Nat} {xs : Nat → Int32} {D : va_G} {dA : Nat → ClassId} {αc αm : Nat → Nat → Nat} {σ τ : sm_M} {nm : String}
theorem kl_L_13 (G : gx p s m meth c #[Value.ref b] code 4 ret RL nm D dA) (hW : LW D dA αc αm s σ τ H locs) {v1 : Int32} {v2 : Int32} {v3 : Int32} {q : Int32 × sm_M} (hq : f_X5_task v1 v2 v3 σ = some q) (hls : ls.size = 4) (hR : 3 + 1 ≤ room_1.frames ∧ 8 + (4 + 11) + 44 * 3 ≤ room_1.locals) (hf : 0 ≤ 0 ∧ 0 ≤ 0) (hcat : (rest.map fun v => v.category).sum ≤ 8) (hdg : decode code pc = .ok (.invokevirtual 13, 3)) (kk : ∀ (H1 : Heap) (locs1 : List Loc), LW D dA αc αm s q.2 τ H1 locs1 → lW p l e s m b below meth c H1 locs1 (F0 m (pc + 3) ls (.int q.1 :: rest))) : lW p l e s m b below meth c H locs (F0 m pc ls (.int v3 :: .int v2 :: .int v1 :: .ref (αc 0 0) :: rest)) :=
  g_lC (k := 3) G hW (c_X5_task (l := l) hW.2.2.2.2.1 hq) ⟨wr_6 _ (List.mem_of_getElem? (i := 14) rfl), wr_6 _ (List.mem_of_getElem? (i := 15) rfl), wr_6 _ (List.mem_of_getElem? (i := 16) rfl), wr_1 _ (List.mem_of_getElem? (i := 2) rfl), wr_6 _ (List.mem_of_getElem? (i := 17) rfl)⟩ (by decide +kernel) hR rfl hls rfl hcat hdg kk
theorem kl_L_17 (G : gx p s m meth c #[Value.ref b] code 4 ret RL nm D dA) (hW : LW D dA αc αm s σ τ H locs) {v1 : Int32} {v2 : Int32} {v3 : Int32} {q : Int32 × sm_M} (hq : f_X6_task v1 v2 v3 τ = some q) (hls : ls.size = 4) (hR : 2 + 1 ≤ room_1.frames ∧ 8 + (6 + 11) + 44 * 2 ≤ room_1.locals) (hf : 0 ≤ 0 ∧ 0 ≤ 0) (hcat : (rest.map fun v => v.category).sum ≤ 8) (hdg : decode code pc = .ok (.invokevirtual 17, 3)) (kk : ∀ (H1 : Heap) (locs1 : List Loc), LW D dA αc αm s σ q.2 H1 locs1 → lW p l e s m b below meth c H1 locs1 (F0 m (pc + 3) ls (.int q.1 :: rest))) : lW p l e s m b below meth c H locs (F0 m pc ls (.int v3 :: .int v2 :: .int v1 :: .ref (αm 20 0) :: rest)) :=
  g_lM (k := 3) G hW (c_X6_task (l := l) hW.2.2.2.2.2.1 hq) ⟨wr_8 _ (List.mem_of_getElem? (i := 4) rfl), wr_8 _ (List.mem_of_getElem? (i := 5) rfl), wr_8 _ (List.mem_of_getElem? (i := 6) rfl), wr_1 _ (List.mem_of_getElem? (i := 5) rfl), wr_8 _ (List.mem_of_getElem? (i := 7) rfl)⟩ (by decide +kernel) hR rfl hls rfl hcat hdg kk
theorem kl_L_18 (G : gx p s m meth c #[Value.ref b] code 4 ret RL nm D dA) (hW : LW D dA αc αm s σ τ H locs) {v1 : Int32} {v2 : Int32} {v3 : Int32} {q : Int32 × sm_M} (hq : f_X5_channel v1 v2 v3 σ = some q) (hls : ls.size = 4) (hR : 3 + 1 ≤ room_1.frames ∧ 8 + (4 + 11) + 44 * 3 ≤ room_1.locals) (hf : 0 ≤ 0 ∧ 0 ≤ 0) (hcat : (rest.map fun v => v.category).sum ≤ 8) (hdg : decode code pc = .ok (.invokevirtual 18, 3)) (kk : ∀ (H1 : Heap) (locs1 : List Loc), LW D dA αc αm s q.2 τ H1 locs1 → lW p l e s m b below meth c H1 locs1 (F0 m (pc + 3) ls (.int q.1 :: rest))) : lW p l e s m b below meth c H locs (F0 m pc ls (.int v3 :: .int v2 :: .int v1 :: .ref (αc 0 0) :: rest)) :=
  g_lC (k := 3) G hW (c_X5_channel (l := l) hW.2.2.2.2.1 hq) ⟨wr_8 _ (List.mem_of_getElem? (i := 15) rfl), wr_8 _ (List.mem_of_getElem? (i := 16) rfl), wr_8 _ (List.mem_of_getElem? (i := 17) rfl), wr_1 _ (List.mem_of_getElem? (i := 2) rfl), wr_8 _ (List.mem_of_getElem? (i := 18) rfl)⟩ (by decide +kernel) hR rfl hls rfl hcat hdg kk
theorem kl_L_22 (G : gx p s m meth c #[Value.ref b] code 4 ret RL nm D dA) (hW : LW D dA αc αm s σ τ H locs) {v1 : Int32} {v2 : Int32} {v3 : Int32} {q : Int32 × sm_M} (hq : f_X6_channel v1 v2 v3 τ = some q) (hls : ls.size = 4) (hR : 2 + 1 ≤ room_1.frames ∧ 8 + (5 + 11) + 44 * 2 ≤ room_1.locals) (hf : 0 ≤ 0 ∧ 0 ≤ 0) (hcat : (rest.map fun v => v.category).sum ≤ 8) (hdg : decode code pc = .ok (.invokevirtual 22, 3)) (kk : ∀ (H1 : Heap) (locs1 : List Loc), LW D dA αc αm s σ q.2 H1 locs1 → lW p l e s m b below meth c H1 locs1 (F0 m (pc + 3) ls (.int q.1 :: rest))) : lW p l e s m b below meth c H locs (F0 m pc ls (.int v3 :: .int v2 :: .int v1 :: .ref (αm 20 0) :: rest)) :=
  g_lM (k := 3) G hW (c_X6_channel (l := l) hW.2.2.2.2.2.1 hq) ⟨wr_10 _ (List.mem_of_getElem? (i := 2) rfl), wr_10 _ (List.mem_of_getElem? (i := 3) rfl), wr_10 _ (List.mem_of_getElem? (i := 4) rfl), wr_1 _ (List.mem_of_getElem? (i := 5) rfl), wr_10 _ (List.mem_of_getElem? (i := 5) rfl)⟩ (by decide +kernel) hR rfl hls rfl hcat hdg kk
theorem kl_L_23 (G : gx p s m meth c #[Value.ref b] code 4 ret RL nm D dA) (hW : LW D dA αc αm s σ τ H locs) {v1 : Int32} {v2 : Int32} {q : Int32 × sm_M} (hq : f_X5_poison v1 v2 σ = some q) (hls : ls.size = 4) (hR : 1 + 1 ≤ room_1.frames ∧ 8 + (4 + 11) + 44 * 1 ≤ room_1.locals) (hf : 0 ≤ 0 ∧ 0 ≤ 0) (hcat : (rest.map fun v => v.category).sum ≤ 8) (hdg : decode code pc = .ok (.invokevirtual 23, 3)) (kk : ∀ (H1 : Heap) (locs1 : List Loc), LW D dA αc αm s q.2 τ H1 locs1 → lW p l e s m b below meth c H1 locs1 (F0 m (pc + 3) ls (.int q.1 :: rest))) : lW p l e s m b below meth c H locs (F0 m pc ls (.int v2 :: .int v1 :: .ref (αc 0 0) :: rest)) :=
  g_lC (k := 2) G hW (c_X5_poison (l := l) hW.2.2.2.2.1 hq) ⟨wr_10 _ (List.mem_of_getElem? (i := 10) rfl), wr_10 _ (List.mem_of_getElem? (i := 11) rfl), wr_10 _ (List.mem_of_getElem? (i := 12) rfl), wr_1 _ (List.mem_of_getElem? (i := 2) rfl), wr_10 _ (List.mem_of_getElem? (i := 13) rfl)⟩ (by decide +kernel) hR rfl hls rfl hcat hdg kk
theorem kl_L_27 (G : gx p s m meth c #[Value.ref b] code 4 ret RL nm D dA) (hW : LW D dA αc αm s σ τ H locs) {v1 : Int32} {v2 : Int32} {q : Int32 × sm_M} (hq : f_X6_poison v1 v2 τ = some q) (hls : ls.size = 4) (hR : 2 + 1 ≤ room_1.frames ∧ 8 + (4 + 11) + 44 * 2 ≤ room_1.locals) (hf : 0 ≤ 0 ∧ 0 ≤ 0) (hcat : (rest.map fun v => v.category).sum ≤ 8) (hdg : decode code pc = .ok (.invokevirtual 27, 3)) (kk : ∀ (H1 : Heap) (locs1 : List Loc), LW D dA αc αm s σ q.2 H1 locs1 → lW p l e s m b below meth c H1 locs1 (F0 m (pc + 3) ls (.int q.1 :: rest))) : lW p l e s m b below meth c H locs (F0 m pc ls (.int v2 :: .int v1 :: .ref (αm 20 0) :: rest)) :=
  g_lM (k := 2) G hW (c_X6_poison (l := l) hW.2.2.2.2.2.1 hq) ⟨wr_10 _ (List.mem_of_getElem? (i := 15) rfl), wr_10 _ (List.mem_of_getElem? (i := 16) rfl), wr_10 _ (List.mem_of_getElem? (i := 17) rfl), wr_1 _ (List.mem_of_getElem? (i := 5) rfl), wr_10 _ (List.mem_of_getElem? (i := 18) rfl)⟩ (by decide +kernel) hR rfl hls rfl hcat hdg kk
theorem kl_L_28 (G : gx p s m meth c #[Value.ref b] code 4 ret RL nm D dA) (hW : LW D dA αc αm s σ τ H locs) {v1 : Int32} {v2 : Int32} {q : Int32 × sm_M} (hq : f_X5_rule v1 v2 σ = some q) (hls : ls.size = 4) (hR : 0 + 1 ≤ room_1.frames ∧ 8 + (4 + 11) + 44 * 0 ≤ room_1.locals) (hf : 0 ≤ 0 ∧ 0 ≤ 0) (hcat : (rest.map fun v => v.category).sum ≤ 8) (hdg : decode code pc = .ok (.invokevirtual 28, 3)) (kk : ∀ (H1 : Heap) (locs1 : List Loc), LW D dA αc αm s q.2 τ H1 locs1 → lW p l e s m b below meth c H1 locs1 (F0 m (pc + 3) ls (.int q.1 :: rest))) : lW p l e s m b below meth c H locs (F0 m pc ls (.int v2 :: .int v1 :: .ref (αc 0 0) :: rest)) :=
  g_lC (k := 2) G hW (c_X5_rule (l := l) hW.2.2.2.2.1 hq) ⟨wr_10 _ (List.mem_of_getElem? (i := 19) rfl), wr_10 _ (List.mem_of_getElem? (i := 20) rfl), wr_10 _ (List.mem_of_getElem? (i := 21) rfl), wr_1 _ (List.mem_of_getElem? (i := 2) rfl), wr_10 _ (List.mem_of_getElem? (i := 22) rfl)⟩ (by decide +kernel) hR rfl hls rfl hcat hdg kk
theorem kl_L_32 (G : gx p s m meth c #[Value.ref b] code 4 ret RL nm D dA) (hW : LW D dA αc αm s σ τ H locs) {v1 : Int32} {v2 : Int32} {q : Int32 × sm_M} (hq : f_X6_rule v1 v2 τ = some q) (hls : ls.size = 4) (hR : 1 + 1 ≤ room_1.frames ∧ 8 + (4 + 11) + 44 * 1 ≤ room_1.locals) (hf : 0 ≤ 0 ∧ 0 ≤ 0) (hcat : (rest.map fun v => v.category).sum ≤ 8) (hdg : decode code pc = .ok (.invokevirtual 32, 3)) (kk : ∀ (H1 : Heap) (locs1 : List Loc), LW D dA αc αm s σ q.2 H1 locs1 → lW p l e s m b below meth c H1 locs1 (F0 m (pc + 3) ls (.int q.1 :: rest))) : lW p l e s m b below meth c H locs (F0 m pc ls (.int v2 :: .int v1 :: .ref (αm 20 0) :: rest)) :=
  g_lM (k := 2) G hW (c_X6_rule (l := l) hW.2.2.2.2.2.1 hq) ⟨wr_10 _ (List.mem_of_getElem? (i := 23) rfl), wr_11 _ (List.mem_of_getElem? (i := 0) rfl), wr_11 _ (List.mem_of_getElem? (i := 1) rfl), wr_1 _ (List.mem_of_getElem? (i := 5) rfl), wr_11 _ (List.mem_of_getElem? (i := 2) rfl)⟩ (by decide +kernel) hR rfl hls rfl hcat hdg kk
theorem kl_L_33 (G : gx p s m meth c #[Value.ref b] code 4 ret RL nm D dA) (hW : LW D dA αc αm s σ τ H locs) {v1 : Int32} {q : Int32 × sm_M} (hq : f_X5_step v1 σ = some q) (hls : ls.size = 4) (hR : 6 + 1 ≤ room_1.frames ∧ 8 + (2 + 11) + 44 * 6 ≤ room_1.locals) (hf : 0 ≤ 0 ∧ 0 ≤ 0) (hcat : (rest.map fun v => v.category).sum ≤ 8) (hdg : decode code pc = .ok (.invokevirtual 33, 3)) (kk : ∀ (H1 : Heap) (locs1 : List Loc), LW D dA αc αm s q.2 τ H1 locs1 → lW p l e s m b below meth c H1 locs1 (F0 m (pc + 3) ls (.int q.1 :: rest))) : lW p l e s m b below meth c H locs (F0 m pc ls (.int v1 :: .ref (αc 0 0) :: rest)) :=
  g_lC (k := 1) G hW (c_X5_step (l := l) hW.2.2.2.2.1 hq) ⟨wr_11 _ (List.mem_of_getElem? (i := 3) rfl), wr_11 _ (List.mem_of_getElem? (i := 4) rfl), wr_11 _ (List.mem_of_getElem? (i := 5) rfl), wr_1 _ (List.mem_of_getElem? (i := 2) rfl), wr_11 _ (List.mem_of_getElem? (i := 6) rfl)⟩ (by decide +kernel) hR rfl hls rfl hcat hdg kk
theorem kl_L_37 (G : gx p s m meth c #[Value.ref b] code 4 ret RL nm D dA) (hW : LW D dA αc αm s σ τ H locs) {v1 : Int32} {q : Int32 × sm_M} (hq : f_X6_step v1 τ = some q) (hls : ls.size = 4) (hR : 3 + 1 ≤ room_1.frames ∧ 8 + (4 + 11) + 44 * 3 ≤ room_1.locals) (hf : 0 ≤ 0 ∧ 0 ≤ 0) (hcat : (rest.map fun v => v.category).sum ≤ 8) (hdg : decode code pc = .ok (.invokevirtual 37, 3)) (kk : ∀ (H1 : Heap) (locs1 : List Loc), LW D dA αc αm s σ q.2 H1 locs1 → lW p l e s m b below meth c H1 locs1 (F0 m (pc + 3) ls (.int q.1 :: rest))) : lW p l e s m b below meth c H locs (F0 m pc ls (.int v1 :: .ref (αm 20 0) :: rest)) :=
  g_lM (k := 1) G hW (c_X6_step (l := l) hW.2.2.2.2.2.1 hq) ⟨wr_19 _ (List.mem_of_getElem? (i := 14) rfl), wr_19 _ (List.mem_of_getElem? (i := 15) rfl), wr_19 _ (List.mem_of_getElem? (i := 16) rfl), wr_1 _ (List.mem_of_getElem? (i := 5) rfl), wr_19 _ (List.mem_of_getElem? (i := 17) rfl)⟩ (by decide +kernel) hR rfl hls rfl hcat hdg kk
theorem kl_L_38 (G : gx p s m meth c #[Value.ref b] code 4 ret RL nm D dA) (hW : LW D dA αc αm s σ τ H locs) {v1 : Int32} {q : Int32 × sm_M} (hq : f_X5_fail v1 σ = some q) (hls : ls.size = 4) (hR : 6 + 1 ≤ room_1.frames ∧ 8 + (2 + 11) + 44 * 6 ≤ room_1.locals) (hf : 0 ≤ 0 ∧ 0 ≤ 0) (hcat : (rest.map fun v => v.category).sum ≤ 8) (hdg : decode code pc = .ok (.invokevirtual 38, 3)) (kk : ∀ (H1 : Heap) (locs1 : List Loc), LW D dA αc αm s q.2 τ H1 locs1 → lW p l e s m b below meth c H1 locs1 (F0 m (pc + 3) ls (.int q.1 :: rest))) : lW p l e s m b below meth c H locs (F0 m pc ls (.int v1 :: .ref (αc 0 0) :: rest)) :=
  g_lC (k := 1) G hW (c_X5_fail (l := l) hW.2.2.2.2.1 hq) ⟨wr_22 _ (List.mem_of_getElem? (i := 20) rfl), wr_22 _ (List.mem_of_getElem? (i := 21) rfl), wr_22 _ (List.mem_of_getElem? (i := 22) rfl), wr_1 _ (List.mem_of_getElem? (i := 2) rfl), wr_22 _ (List.mem_of_getElem? (i := 23) rfl)⟩ (by decide +kernel) hR rfl hls rfl hcat hdg kk
theorem kl_L_41 (G : gx p s m meth c #[Value.ref b] code 4 ret RL nm D dA) (hW : LW D dA αc αm s σ τ H locs) {v1 : Int32} {q : Int32 × sm_M} (hq : f_X6_fail v1 τ = some q) (hls : ls.size = 4) (hR : 3 + 1 ≤ room_1.frames ∧ 8 + (2 + 11) + 44 * 3 ≤ room_1.locals) (hf : 0 ≤ 0 ∧ 0 ≤ 0) (hcat : (rest.map fun v => v.category).sum ≤ 8) (hdg : decode code pc = .ok (.invokevirtual 41, 3)) (kk : ∀ (H1 : Heap) (locs1 : List Loc), LW D dA αc αm s σ q.2 H1 locs1 → lW p l e s m b below meth c H1 locs1 (F0 m (pc + 3) ls (.int q.1 :: rest))) : lW p l e s m b below meth c H locs (F0 m pc ls (.int v1 :: .ref (αm 20 0) :: rest)) :=
  g_lM (k := 1) G hW (c_X6_fail (l := l) hW.2.2.2.2.2.1 hq) ⟨wr_23 _ (List.mem_of_getElem? (i := 0) rfl), wr_23 _ (List.mem_of_getElem? (i := 1) rfl), wr_23 _ (List.mem_of_getElem? (i := 2) rfl), wr_1 _ (List.mem_of_getElem? (i := 5) rfl), wr_23 _ (List.mem_of_getElem? (i := 3) rfl)⟩ (by decide +kernel) hR rfl hls rfl hcat hdg kk
theorem kl_L_42 (G : gx p s m meth c #[Value.ref b] code 4 ret RL nm D dA) (hW : LW D dA αc αm s σ τ H locs) {v1 : Int32} {q : Int32 × sm_M} (hq : f_X5_gone v1 σ = some q) (hls : ls.size = 4) (hR : 5 + 1 ≤ room_1.frames ∧ 8 + (4 + 11) + 44 * 5 ≤ room_1.locals) (hf : 0 ≤ 0 ∧ 0 ≤ 0) (hcat : (rest.map fun v => v.category).sum ≤ 8) (hdg : decode code pc = .ok (.invokevirtual 42, 3)) (kk : ∀ (H1 : Heap) (locs1 : List Loc), LW D dA αc αm s q.2 τ H1 locs1 → lW p l e s m b below meth c H1 locs1 (F0 m (pc + 3) ls (.int q.1 :: rest))) : lW p l e s m b below meth c H locs (F0 m pc ls (.int v1 :: .ref (αc 0 0) :: rest)) :=
  g_lC (k := 1) G hW (c_X5_gone (l := l) hW.2.2.2.2.1 hq) ⟨wr_23 _ (List.mem_of_getElem? (i := 4) rfl), wr_23 _ (List.mem_of_getElem? (i := 5) rfl), wr_23 _ (List.mem_of_getElem? (i := 6) rfl), wr_1 _ (List.mem_of_getElem? (i := 2) rfl), wr_23 _ (List.mem_of_getElem? (i := 7) rfl)⟩ (by decide +kernel) hR rfl hls rfl hcat hdg kk
theorem kl_L_45 (G : gx p s m meth c #[Value.ref b] code 4 ret RL nm D dA) (hW : LW D dA αc αm s σ τ H locs) {v1 : Int32} {q : Int32 × sm_M} (hq : f_X6_gone v1 τ = some q) (hls : ls.size = 4) (hR : 2 + 1 ≤ room_1.frames ∧ 8 + (4 + 11) + 44 * 2 ≤ room_1.locals) (hf : 0 ≤ 0 ∧ 0 ≤ 0) (hcat : (rest.map fun v => v.category).sum ≤ 8) (hdg : decode code pc = .ok (.invokevirtual 45, 3)) (kk : ∀ (H1 : Heap) (locs1 : List Loc), LW D dA αc αm s σ q.2 H1 locs1 → lW p l e s m b below meth c H1 locs1 (F0 m (pc + 3) ls (.int q.1 :: rest))) : lW p l e s m b below meth c H locs (F0 m pc ls (.int v1 :: .ref (αm 20 0) :: rest)) :=
  g_lM (k := 1) G hW (c_X6_gone (l := l) hW.2.2.2.2.2.1 hq) ⟨wr_24 _ (List.mem_of_getElem? (i := 10) rfl), wr_24 _ (List.mem_of_getElem? (i := 11) rfl), wr_24 _ (List.mem_of_getElem? (i := 12) rfl), wr_1 _ (List.mem_of_getElem? (i := 5) rfl), wr_24 _ (List.mem_of_getElem? (i := 13) rfl)⟩ (by decide +kernel) hR rfl hls rfl hcat hdg kk
theorem kl_L_46 (G : gx p s m meth c #[Value.ref b] code 4 ret RL nm D dA) (hW : LW D dA αc αm s σ τ H locs) {v1 : Int32} {q : Int32 × sm_M} (hq : f_X5_lose v1 σ = some q) (hls : ls.size = 4) (hR : 6 + 1 ≤ room_1.frames ∧ 8 + (3 + 11) + 44 * 6 ≤ room_1.locals) (hf : 0 ≤ 0 ∧ 0 ≤ 0) (hcat : (rest.map fun v => v.category).sum ≤ 8) (hdg : decode code pc = .ok (.invokevirtual 46, 3)) (kk : ∀ (H1 : Heap) (locs1 : List Loc), LW D dA αc αm s q.2 τ H1 locs1 → lW p l e s m b below meth c H1 locs1 (F0 m (pc + 3) ls (.int q.1 :: rest))) : lW p l e s m b below meth c H locs (F0 m pc ls (.int v1 :: .ref (αc 0 0) :: rest)) :=
  g_lC (k := 1) G hW (c_X5_lose (l := l) hW.2.2.2.2.1 hq) ⟨wr_24 _ (List.mem_of_getElem? (i := 22) rfl), wr_24 _ (List.mem_of_getElem? (i := 23) rfl), wr_25 _ (List.mem_of_getElem? (i := 0) rfl), wr_1 _ (List.mem_of_getElem? (i := 2) rfl), wr_25 _ (List.mem_of_getElem? (i := 1) rfl)⟩ (by decide +kernel) hR rfl hls rfl hcat hdg kk
theorem kl_L_49 (G : gx p s m meth c #[Value.ref b] code 4 ret RL nm D dA) (hW : LW D dA αc αm s σ τ H locs) {v1 : Int32} {q : Int32 × sm_M} (hq : f_X6_lose v1 τ = some q) (hls : ls.size = 4) (hR : 3 + 1 ≤ room_1.frames ∧ 8 + (2 + 11) + 44 * 3 ≤ room_1.locals) (hf : 0 ≤ 0 ∧ 0 ≤ 0) (hcat : (rest.map fun v => v.category).sum ≤ 8) (hdg : decode code pc = .ok (.invokevirtual 49, 3)) (kk : ∀ (H1 : Heap) (locs1 : List Loc), LW D dA αc αm s σ q.2 H1 locs1 → lW p l e s m b below meth c H1 locs1 (F0 m (pc + 3) ls (.int q.1 :: rest))) : lW p l e s m b below meth c H locs (F0 m pc ls (.int v1 :: .ref (αm 20 0) :: rest)) :=
  g_lM (k := 1) G hW (c_X6_lose (l := l) hW.2.2.2.2.2.1 hq) ⟨wr_25 _ (List.mem_of_getElem? (i := 8) rfl), wr_25 _ (List.mem_of_getElem? (i := 9) rfl), wr_25 _ (List.mem_of_getElem? (i := 10) rfl), wr_1 _ (List.mem_of_getElem? (i := 5) rfl), wr_25 _ (List.mem_of_getElem? (i := 11) rfl)⟩ (by decide +kernel) hR rfl hls rfl hcat hdg kk
theorem kl_L_50 (G : gx p s m meth c #[Value.ref b] code 4 ret RL nm D dA) (hW : LW D dA αc αm s σ τ H locs) {v1 : Int32} {q : Int32 × sm_M} (hq : f_X5_tick v1 σ = some q) (hls : ls.size = 4) (hR : 1 + 1 ≤ room_1.frames ∧ 8 + (2 + 11) + 44 * 1 ≤ room_1.locals) (hf : 0 ≤ 0 ∧ 0 ≤ 0) (hcat : (rest.map fun v => v.category).sum ≤ 8) (hdg : decode code pc = .ok (.invokevirtual 50, 3)) (kk : ∀ (H1 : Heap) (locs1 : List Loc), LW D dA αc αm s q.2 τ H1 locs1 → lW p l e s m b below meth c H1 locs1 (F0 m (pc + 3) ls (.int q.1 :: rest))) : lW p l e s m b below meth c H locs (F0 m pc ls (.int v1 :: .ref (αc 0 0) :: rest)) :=
  g_lC (k := 1) G hW (c_X5_tick (l := l) hW.2.2.2.2.1 hq) ⟨wr_25 _ (List.mem_of_getElem? (i := 16) rfl), wr_25 _ (List.mem_of_getElem? (i := 17) rfl), wr_25 _ (List.mem_of_getElem? (i := 18) rfl), wr_1 _ (List.mem_of_getElem? (i := 2) rfl), wr_25 _ (List.mem_of_getElem? (i := 19) rfl)⟩ (by decide +kernel) hR rfl hls rfl hcat hdg kk
theorem kl_L_53 (G : gx p s m meth c #[Value.ref b] code 4 ret RL nm D dA) (hW : LW D dA αc αm s σ τ H locs) {v1 : Int32} {q : Int32 × sm_M} (hq : f_X6_tick v1 τ = some q) (hls : ls.size = 4) (hR : 1 + 1 ≤ room_1.frames ∧ 8 + (2 + 11) + 44 * 1 ≤ room_1.locals) (hf : 0 ≤ 0 ∧ 0 ≤ 0) (hcat : (rest.map fun v => v.category).sum ≤ 8) (hdg : decode code pc = .ok (.invokevirtual 53, 3)) (kk : ∀ (H1 : Heap) (locs1 : List Loc), LW D dA αc αm s σ q.2 H1 locs1 → lW p l e s m b below meth c H1 locs1 (F0 m (pc + 3) ls (.int q.1 :: rest))) : lW p l e s m b below meth c H locs (F0 m pc ls (.int v1 :: .ref (αm 20 0) :: rest)) :=
  g_lM (k := 1) G hW (c_X6_tick (l := l) hW.2.2.2.2.2.1 hq) ⟨wr_25 _ (List.mem_of_getElem? (i := 21) rfl), wr_25 _ (List.mem_of_getElem? (i := 22) rfl), wr_25 _ (List.mem_of_getElem? (i := 23) rfl), wr_1 _ (List.mem_of_getElem? (i := 5) rfl), wr_26 _ (List.mem_of_getElem? (i := 0) rfl)⟩ (by decide +kernel) hR rfl hls rfl hcat hdg kk
theorem kl_L_54 (G : gx p s m meth c #[Value.ref b] code 4 ret RL nm D dA) (hW : LW D dA αc αm s σ τ H locs) {q : Int32 × sm_M} (hq : f_X5_mark σ = some q) (hls : ls.size = 4) (hR : 3 + 1 ≤ room_1.frames ∧ 8 + (1 + 11) + 44 * 3 ≤ room_1.locals) (hf : 0 ≤ 0 ∧ 0 ≤ 0) (hcat : (rest.map fun v => v.category).sum ≤ 8) (hdg : decode code pc = .ok (.invokevirtual 54, 3)) (kk : ∀ (H1 : Heap) (locs1 : List Loc), LW D dA αc αm s q.2 τ H1 locs1 → lW p l e s m b below meth c H1 locs1 (F0 m (pc + 3) ls (.int q.1 :: rest))) : lW p l e s m b below meth c H locs (F0 m pc ls (.ref (αc 0 0) :: rest)) :=
  g_lC (k := 0) G hW (c_X5_mark (l := l) hW.2.2.2.2.1 hq) ⟨wr_26 _ (List.mem_of_getElem? (i := 2) rfl), wr_26 _ (List.mem_of_getElem? (i := 3) rfl), wr_26 _ (List.mem_of_getElem? (i := 4) rfl), wr_1 _ (List.mem_of_getElem? (i := 2) rfl), wr_26 _ (List.mem_of_getElem? (i := 5) rfl)⟩ (by decide +kernel) hR rfl hls rfl hcat hdg kk
theorem kl_L_58 (G : gx p s m meth c #[Value.ref b] code 4 ret RL nm D dA) (hW : LW D dA αc αm s σ τ H locs) {q : Int32 × sm_M} (hq : f_X6_mark τ = some q) (hls : ls.size = 4) (hR : 1 + 1 ≤ room_1.frames ∧ 8 + (2 + 11) + 44 * 1 ≤ room_1.locals) (hf : 0 ≤ 0 ∧ 0 ≤ 0) (hcat : (rest.map fun v => v.category).sum ≤ 8) (hdg : decode code pc = .ok (.invokevirtual 58, 3)) (kk : ∀ (H1 : Heap) (locs1 : List Loc), LW D dA αc αm s σ q.2 H1 locs1 → lW p l e s m b below meth c H1 locs1 (F0 m (pc + 3) ls (.int q.1 :: rest))) : lW p l e s m b below meth c H locs (F0 m pc ls (.ref (αm 20 0) :: rest)) :=
  g_lM (k := 0) G hW (c_X6_mark (l := l) hW.2.2.2.2.2.1 hq) ⟨wr_26 _ (List.mem_of_getElem? (i := 17) rfl), wr_26 _ (List.mem_of_getElem? (i := 18) rfl), wr_26 _ (List.mem_of_getElem? (i := 19) rfl), wr_1 _ (List.mem_of_getElem? (i := 5) rfl), wr_26 _ (List.mem_of_getElem? (i := 20) rfl)⟩ (by decide +kernel) hR rfl hls rfl hcat hdg kk
theorem kl_L_59 (G : gx p s m meth c #[Value.ref b] code 4 ret RL nm D dA) (hW : LW D dA αc αm s σ τ H locs) {v1 : Int32} {q : Int32 × sm_M} (hq : f_X5_region v1 σ = some q) (hls : ls.size = 4) (hR : 4 + 1 ≤ room_1.frames ∧ 8 + (2 + 11) + 44 * 4 ≤ room_1.locals) (hf : 0 ≤ 0 ∧ 0 ≤ 0) (hcat : (rest.map fun v => v.category).sum ≤ 8) (hdg : decode code pc = .ok (.invokevirtual 59, 3)) (kk : ∀ (H1 : Heap) (locs1 : List Loc), LW D dA αc αm s q.2 τ H1 locs1 → lW p l e s m b below meth c H1 locs1 (F0 m (pc + 3) ls (.int q.1 :: rest))) : lW p l e s m b below meth c H locs (F0 m pc ls (.int v1 :: .ref (αc 0 0) :: rest)) :=
  g_lC (k := 1) G hW (c_X5_region (l := l) hW.2.2.2.2.1 hq) ⟨wr_27 _ (List.mem_of_getElem? (i := 1) rfl), wr_27 _ (List.mem_of_getElem? (i := 2) rfl), wr_27 _ (List.mem_of_getElem? (i := 3) rfl), wr_1 _ (List.mem_of_getElem? (i := 2) rfl), wr_27 _ (List.mem_of_getElem? (i := 4) rfl)⟩ (by decide +kernel) hR rfl hls rfl hcat hdg kk
theorem kl_L_62 (G : gx p s m meth c #[Value.ref b] code 4 ret RL nm D dA) (hW : LW D dA αc αm s σ τ H locs) {v1 : Int32} {q : Int32 × sm_M} (hq : f_X6_region v1 τ = some q) (hls : ls.size = 4) (hR : 2 + 1 ≤ room_1.frames ∧ 8 + (4 + 11) + 44 * 2 ≤ room_1.locals) (hf : 0 ≤ 0 ∧ 0 ≤ 0) (hcat : (rest.map fun v => v.category).sum ≤ 8) (hdg : decode code pc = .ok (.invokevirtual 62, 3)) (kk : ∀ (H1 : Heap) (locs1 : List Loc), LW D dA αc αm s σ q.2 H1 locs1 → lW p l e s m b below meth c H1 locs1 (F0 m (pc + 3) ls (.int q.1 :: rest))) : lW p l e s m b below meth c H locs (F0 m pc ls (.int v1 :: .ref (αm 20 0) :: rest)) :=
  g_lM (k := 1) G hW (c_X6_region (l := l) hW.2.2.2.2.2.1 hq) ⟨wr_27 _ (List.mem_of_getElem? (i := 5) rfl), wr_27 _ (List.mem_of_getElem? (i := 6) rfl), wr_27 _ (List.mem_of_getElem? (i := 7) rfl), wr_1 _ (List.mem_of_getElem? (i := 5) rfl), wr_27 _ (List.mem_of_getElem? (i := 8) rfl)⟩ (by decide +kernel) hR rfl hls rfl hcat hdg kk
theorem kl_L_63 (G : gx p s m meth c #[Value.ref b] code 4 ret RL nm D dA) (hW : LW D dA αc αm s σ τ H locs) {v1 : Int32} {v2 : Int32} {q : Int32 × sm_M} (hq : f_X5_taskAt v1 v2 σ = some q) (hls : ls.size = 4) (hR : 4 + 1 ≤ room_1.frames ∧ 8 + (4 + 11) + 44 * 4 ≤ room_1.locals) (hf : 0 ≤ 0 ∧ 0 ≤ 0) (hcat : (rest.map fun v => v.category).sum ≤ 8) (hdg : decode code pc = .ok (.invokevirtual 63, 3)) (kk : ∀ (H1 : Heap) (locs1 : List Loc), LW D dA αc αm s q.2 τ H1 locs1 → lW p l e s m b below meth c H1 locs1 (F0 m (pc + 3) ls (.int q.1 :: rest))) : lW p l e s m b below meth c H locs (F0 m pc ls (.int v2 :: .int v1 :: .ref (αc 0 0) :: rest)) :=
  g_lC (k := 2) G hW (c_X5_taskAt (l := l) hW.2.2.2.2.1 hq) ⟨wr_27 _ (List.mem_of_getElem? (i := 9) rfl), wr_27 _ (List.mem_of_getElem? (i := 10) rfl), wr_27 _ (List.mem_of_getElem? (i := 11) rfl), wr_1 _ (List.mem_of_getElem? (i := 2) rfl), wr_27 _ (List.mem_of_getElem? (i := 12) rfl)⟩ (by decide +kernel) hR rfl hls rfl hcat hdg kk
theorem kl_L_66 (G : gx p s m meth c #[Value.ref b] code 4 ret RL nm D dA) (hW : LW D dA αc αm s σ τ H locs) {v1 : Int32} {v2 : Int32} {q : Int32 × sm_M} (hq : f_X6_taskAt v1 v2 τ = some q) (hls : ls.size = 4) (hR : 2 + 1 ≤ room_1.frames ∧ 8 + (3 + 11) + 44 * 2 ≤ room_1.locals) (hf : 0 ≤ 0 ∧ 0 ≤ 0) (hcat : (rest.map fun v => v.category).sum ≤ 8) (hdg : decode code pc = .ok (.invokevirtual 66, 3)) (kk : ∀ (H1 : Heap) (locs1 : List Loc), LW D dA αc αm s σ q.2 H1 locs1 → lW p l e s m b below meth c H1 locs1 (F0 m (pc + 3) ls (.int q.1 :: rest))) : lW p l e s m b below meth c H locs (F0 m pc ls (.int v2 :: .int v1 :: .ref (αm 20 0) :: rest)) :=
  g_lM (k := 2) G hW (c_X6_taskAt (l := l) hW.2.2.2.2.2.1 hq) ⟨wr_27 _ (List.mem_of_getElem? (i := 20) rfl), wr_27 _ (List.mem_of_getElem? (i := 21) rfl), wr_27 _ (List.mem_of_getElem? (i := 22) rfl), wr_1 _ (List.mem_of_getElem? (i := 5) rfl), wr_27 _ (List.mem_of_getElem? (i := 23) rfl)⟩ (by decide +kernel) hR rfl hls rfl hcat hdg kk
theorem kl_L_67 (G : gx p s m meth c #[Value.ref b] code 4 ret RL nm D dA) (hW : LW D dA αc αm s σ τ H locs) {v1 : Int32} {v2 : Int32} {q : Int32 × sm_M} (hq : f_X5_channelAt v1 v2 σ = some q) (hls : ls.size = 4) (hR : 4 + 1 ≤ room_1.frames ∧ 8 + (4 + 11) + 44 * 4 ≤ room_1.locals) (hf : 0 ≤ 0 ∧ 0 ≤ 0) (hcat : (rest.map fun v => v.category).sum ≤ 8) (hdg : decode code pc = .ok (.invokevirtual 67, 3)) (kk : ∀ (H1 : Heap) (locs1 : List Loc), LW D dA αc αm s q.2 τ H1 locs1 → lW p l e s m b below meth c H1 locs1 (F0 m (pc + 3) ls (.int q.1 :: rest))) : lW p l e s m b below meth c H locs (F0 m pc ls (.int v2 :: .int v1 :: .ref (αc 0 0) :: rest)) :=
  g_lC (k := 2) G hW (c_X5_channelAt (l := l) hW.2.2.2.2.1 hq) ⟨wr_28 _ (List.mem_of_getElem? (i := 0) rfl), wr_28 _ (List.mem_of_getElem? (i := 1) rfl), wr_28 _ (List.mem_of_getElem? (i := 2) rfl), wr_1 _ (List.mem_of_getElem? (i := 2) rfl), wr_28 _ (List.mem_of_getElem? (i := 3) rfl)⟩ (by decide +kernel) hR rfl hls rfl hcat hdg kk
theorem kl_L_70 (G : gx p s m meth c #[Value.ref b] code 4 ret RL nm D dA) (hW : LW D dA αc αm s σ τ H locs) {v1 : Int32} {v2 : Int32} {q : Int32 × sm_M} (hq : f_X6_channelAt v1 v2 τ = some q) (hls : ls.size = 4) (hR : 2 + 1 ≤ room_1.frames ∧ 8 + (3 + 11) + 44 * 2 ≤ room_1.locals) (hf : 0 ≤ 0 ∧ 0 ≤ 0) (hcat : (rest.map fun v => v.category).sum ≤ 8) (hdg : decode code pc = .ok (.invokevirtual 70, 3)) (kk : ∀ (H1 : Heap) (locs1 : List Loc), LW D dA αc αm s σ q.2 H1 locs1 → lW p l e s m b below meth c H1 locs1 (F0 m (pc + 3) ls (.int q.1 :: rest))) : lW p l e s m b below meth c H locs (F0 m pc ls (.int v2 :: .int v1 :: .ref (αm 20 0) :: rest)) :=
  g_lM (k := 2) G hW (c_X6_channelAt (l := l) hW.2.2.2.2.2.1 hq) ⟨wr_28 _ (List.mem_of_getElem? (i := 8) rfl), wr_28 _ (List.mem_of_getElem? (i := 9) rfl), wr_28 _ (List.mem_of_getElem? (i := 10) rfl), wr_1 _ (List.mem_of_getElem? (i := 5) rfl), wr_28 _ (List.mem_of_getElem? (i := 11) rfl)⟩ (by decide +kernel) hR rfl hls rfl hcat hdg kk
theorem kl_L_71 (G : gx p s m meth c #[Value.ref b] code 4 ret RL nm D dA) (hW : LW D dA αc αm s σ τ H locs) {v1 : Int32} {v2 : Int32} {q : Int32 × sm_M} (hq : f_X5_row v1 v2 σ = some q) (hls : ls.size = 4) (hR : 1 + 1 ≤ room_1.frames ∧ 8 + (4 + 11) + 44 * 1 ≤ room_1.locals) (hf : 0 ≤ 0 ∧ 0 ≤ 0) (hcat : (rest.map fun v => v.category).sum ≤ 8) (hdg : decode code pc = .ok (.invokevirtual 71, 3)) (kk : ∀ (H1 : Heap) (locs1 : List Loc), LW D dA αc αm s q.2 τ H1 locs1 → lW p l e s m b below meth c H1 locs1 (F0 m (pc + 3) ls (.int q.1 :: rest))) : lW p l e s m b below meth c H locs (F0 m pc ls (.int v2 :: .int v1 :: .ref (αc 0 0) :: rest)) :=
  g_lC (k := 2) G hW (c_X5_row (l := l) hW.2.2.2.2.1 hq) ⟨wr_28 _ (List.mem_of_getElem? (i := 12) rfl), wr_28 _ (List.mem_of_getElem? (i := 13) rfl), wr_28 _ (List.mem_of_getElem? (i := 14) rfl), wr_1 _ (List.mem_of_getElem? (i := 2) rfl), wr_28 _ (List.mem_of_getElem? (i := 15) rfl)⟩ (by decide +kernel) hR rfl hls rfl hcat hdg kk
theorem kl_L_74 (G : gx p s m meth c #[Value.ref b] code 4 ret RL nm D dA) (hW : LW D dA αc αm s σ τ H locs) {v1 : Int32} {v2 : Int32} {q : Int32 × sm_M} (hq : f_X6_row v1 v2 τ = some q) (hls : ls.size = 4) (hR : 2 + 1 ≤ room_1.frames ∧ 8 + (3 + 11) + 44 * 2 ≤ room_1.locals) (hf : 0 ≤ 0 ∧ 0 ≤ 0) (hcat : (rest.map fun v => v.category).sum ≤ 8) (hdg : decode code pc = .ok (.invokevirtual 74, 3)) (kk : ∀ (H1 : Heap) (locs1 : List Loc), LW D dA αc αm s σ q.2 H1 locs1 → lW p l e s m b below meth c H1 locs1 (F0 m (pc + 3) ls (.int q.1 :: rest))) : lW p l e s m b below meth c H locs (F0 m pc ls (.int v2 :: .int v1 :: .ref (αm 20 0) :: rest)) :=
  g_lM (k := 2) G hW (c_X6_row (l := l) hW.2.2.2.2.2.1 hq) ⟨wr_28 _ (List.mem_of_getElem? (i := 17) rfl), wr_28 _ (List.mem_of_getElem? (i := 18) rfl), wr_28 _ (List.mem_of_getElem? (i := 19) rfl), wr_1 _ (List.mem_of_getElem? (i := 5) rfl), wr_28 _ (List.mem_of_getElem? (i := 20) rfl)⟩ (by decide +kernel) hR rfl hls rfl hcat hdg kk
theorem kl_L_75 (G : gx p s m meth c #[Value.ref b] code 4 ret RL nm D dA) (hW : LW D dA αc αm s σ τ H locs) {v1 : Int32} {v2 : Int32} {q : Int32 × sm_M} (hq : f_X5_out v1 v2 σ = some q) (hls : ls.size = 4) (hR : 1 + 1 ≤ room_1.frames ∧ 8 + (4 + 11) + 44 * 1 ≤ room_1.locals) (hf : 0 ≤ 0 ∧ 0 ≤ 0) (hcat : (rest.map fun v => v.category).sum ≤ 8) (hdg : decode code pc = .ok (.invokevirtual 75, 3)) (kk : ∀ (H1 : Heap) (locs1 : List Loc), LW D dA αc αm s q.2 τ H1 locs1 → lW p l e s m b below meth c H1 locs1 (F0 m (pc + 3) ls (.int q.1 :: rest))) : lW p l e s m b below meth c H locs (F0 m pc ls (.int v2 :: .int v1 :: .ref (αc 0 0) :: rest)) :=
  g_lC (k := 2) G hW (c_X5_out (l := l) hW.2.2.2.2.1 hq) ⟨wr_28 _ (List.mem_of_getElem? (i := 21) rfl), wr_28 _ (List.mem_of_getElem? (i := 22) rfl), wr_28 _ (List.mem_of_getElem? (i := 23) rfl), wr_1 _ (List.mem_of_getElem? (i := 2) rfl), wr_29 _ (List.mem_of_getElem? (i := 0) rfl)⟩ (by decide +kernel) hR rfl hls rfl hcat hdg kk
theorem kl_L_78 (G : gx p s m meth c #[Value.ref b] code 4 ret RL nm D dA) (hW : LW D dA αc αm s σ τ H locs) {v1 : Int32} {v2 : Int32} {q : Int32 × sm_M} (hq : f_X6_out v1 v2 τ = some q) (hls : ls.size = 4) (hR : 2 + 1 ≤ room_1.frames ∧ 8 + (3 + 11) + 44 * 2 ≤ room_1.locals) (hf : 0 ≤ 0 ∧ 0 ≤ 0) (hcat : (rest.map fun v => v.category).sum ≤ 8) (hdg : decode code pc = .ok (.invokevirtual 78, 3)) (kk : ∀ (H1 : Heap) (locs1 : List Loc), LW D dA αc αm s σ q.2 H1 locs1 → lW p l e s m b below meth c H1 locs1 (F0 m (pc + 3) ls (.int q.1 :: rest))) : lW p l e s m b below meth c H locs (F0 m pc ls (.int v2 :: .int v1 :: .ref (αm 20 0) :: rest)) :=
  g_lM (k := 2) G hW (c_X6_out (l := l) hW.2.2.2.2.2.1 hq) ⟨wr_29 _ (List.mem_of_getElem? (i := 2) rfl), wr_29 _ (List.mem_of_getElem? (i := 3) rfl), wr_29 _ (List.mem_of_getElem? (i := 4) rfl), wr_1 _ (List.mem_of_getElem? (i := 5) rfl), wr_29 _ (List.mem_of_getElem? (i := 5) rfl)⟩ (by decide +kernel) hR rfl hls rfl hcat hdg kk
theorem kl_L_79 (G : gx p s m meth c #[Value.ref b] code 4 ret RL nm D dA) (hW : LW D dA αc αm s σ τ H locs) {v1 : Int32} {v2 : Int32} {q : Int32 × sm_M} (hq : f_X5_aside v1 v2 σ = some q) (hls : ls.size = 4) (hR : 1 + 1 ≤ room_1.frames ∧ 8 + (4 + 11) + 44 * 1 ≤ room_1.locals) (hf : 0 ≤ 0 ∧ 0 ≤ 0) (hcat : (rest.map fun v => v.category).sum ≤ 8) (hdg : decode code pc = .ok (.invokevirtual 79, 3)) (kk : ∀ (H1 : Heap) (locs1 : List Loc), LW D dA αc αm s q.2 τ H1 locs1 → lW p l e s m b below meth c H1 locs1 (F0 m (pc + 3) ls (.int q.1 :: rest))) : lW p l e s m b below meth c H locs (F0 m pc ls (.int v2 :: .int v1 :: .ref (αc 0 0) :: rest)) :=
  g_lC (k := 2) G hW (c_X5_aside (l := l) hW.2.2.2.2.1 hq) ⟨wr_29 _ (List.mem_of_getElem? (i := 6) rfl), wr_29 _ (List.mem_of_getElem? (i := 7) rfl), wr_29 _ (List.mem_of_getElem? (i := 8) rfl), wr_1 _ (List.mem_of_getElem? (i := 2) rfl), wr_29 _ (List.mem_of_getElem? (i := 9) rfl)⟩ (by decide +kernel) hR rfl hls rfl hcat hdg kk
theorem kl_L_82 (G : gx p s m meth c #[Value.ref b] code 4 ret RL nm D dA) (hW : LW D dA αc αm s σ τ H locs) {v1 : Int32} {v2 : Int32} {q : Int32 × sm_M} (hq : f_X6_aside v1 v2 τ = some q) (hls : ls.size = 4) (hR : 2 + 1 ≤ room_1.frames ∧ 8 + (3 + 11) + 44 * 2 ≤ room_1.locals) (hf : 0 ≤ 0 ∧ 0 ≤ 0) (hcat : (rest.map fun v => v.category).sum ≤ 8) (hdg : decode code pc = .ok (.invokevirtual 82, 3)) (kk : ∀ (H1 : Heap) (locs1 : List Loc), LW D dA αc αm s σ q.2 H1 locs1 → lW p l e s m b below meth c H1 locs1 (F0 m (pc + 3) ls (.int q.1 :: rest))) : lW p l e s m b below meth c H locs (F0 m pc ls (.int v2 :: .int v1 :: .ref (αm 20 0) :: rest)) :=
  g_lM (k := 2) G hW (c_X6_aside (l := l) hW.2.2.2.2.2.1 hq) ⟨wr_29 _ (List.mem_of_getElem? (i := 11) rfl), wr_29 _ (List.mem_of_getElem? (i := 12) rfl), wr_29 _ (List.mem_of_getElem? (i := 13) rfl), wr_1 _ (List.mem_of_getElem? (i := 5) rfl), wr_29 _ (List.mem_of_getElem? (i := 14) rfl)⟩ (by decide +kernel) hR rfl hls rfl hcat hdg kk
theorem kl_L_83 (G : gx p s m meth c #[Value.ref b] code 4 ret RL nm D dA) (hW : LW D dA αc αm s σ τ H locs) {v1 : Int32} {v2 : Int32} {q : Int32 × sm_M} (hq : f_X5_cause v1 v2 σ = some q) (hls : ls.size = 4) (hR : 0 + 1 ≤ room_1.frames ∧ 8 + (3 + 11) + 44 * 0 ≤ room_1.locals) (hf : 0 ≤ 0 ∧ 0 ≤ 0) (hcat : (rest.map fun v => v.category).sum ≤ 8) (hdg : decode code pc = .ok (.invokevirtual 83, 3)) (kk : ∀ (H1 : Heap) (locs1 : List Loc), LW D dA αc αm s q.2 τ H1 locs1 → lW p l e s m b below meth c H1 locs1 (F0 m (pc + 3) ls (.int q.1 :: rest))) : lW p l e s m b below meth c H locs (F0 m pc ls (.int v2 :: .int v1 :: .ref (αc 0 0) :: rest)) :=
  g_lC (k := 2) G hW (c_X5_cause (l := l) hW.2.2.2.2.1 hq) ⟨wr_29 _ (List.mem_of_getElem? (i := 15) rfl), wr_29 _ (List.mem_of_getElem? (i := 16) rfl), wr_29 _ (List.mem_of_getElem? (i := 17) rfl), wr_1 _ (List.mem_of_getElem? (i := 2) rfl), wr_29 _ (List.mem_of_getElem? (i := 18) rfl)⟩ (by decide +kernel) hR rfl hls rfl hcat hdg kk
theorem kl_L_86 (G : gx p s m meth c #[Value.ref b] code 4 ret RL nm D dA) (hW : LW D dA αc αm s σ τ H locs) {v1 : Int32} {v2 : Int32} {q : Int32 × sm_M} (hq : f_X6_cause v1 v2 τ = some q) (hls : ls.size = 4) (hR : 1 + 1 ≤ room_1.frames ∧ 8 + (3 + 11) + 44 * 1 ≤ room_1.locals) (hf : 0 ≤ 0 ∧ 0 ≤ 0) (hcat : (rest.map fun v => v.category).sum ≤ 8) (hdg : decode code pc = .ok (.invokevirtual 86, 3)) (kk : ∀ (H1 : Heap) (locs1 : List Loc), LW D dA αc αm s σ q.2 H1 locs1 → lW p l e s m b below meth c H1 locs1 (F0 m (pc + 3) ls (.int q.1 :: rest))) : lW p l e s m b below meth c H locs (F0 m pc ls (.int v2 :: .int v1 :: .ref (αm 20 0) :: rest)) :=
  g_lM (k := 2) G hW (c_X6_cause (l := l) hW.2.2.2.2.2.1 hq) ⟨wr_29 _ (List.mem_of_getElem? (i := 22) rfl), wr_29 _ (List.mem_of_getElem? (i := 23) rfl), wr_30 _ (List.mem_of_getElem? (i := 0) rfl), wr_1 _ (List.mem_of_getElem? (i := 5) rfl), wr_30 _ (List.mem_of_getElem? (i := 1) rfl)⟩ (by decide +kernel) hR rfl hls rfl hcat hdg kk
theorem kl_L_87 (G : gx p s m meth c #[Value.ref b] code 4 ret RL nm D dA) (hW : LW D dA αc αm s σ τ H locs) {v1 : Int32} {q : Int32 × sm_M} (hq : f_X5_told v1 σ = some q) (hls : ls.size = 4) (hR : 4 + 1 ≤ room_1.frames ∧ 8 + (2 + 11) + 44 * 4 ≤ room_1.locals) (hf : 0 ≤ 0 ∧ 0 ≤ 0) (hcat : (rest.map fun v => v.category).sum ≤ 8) (hdg : decode code pc = .ok (.invokevirtual 87, 3)) (kk : ∀ (H1 : Heap) (locs1 : List Loc), LW D dA αc αm s q.2 τ H1 locs1 → lW p l e s m b below meth c H1 locs1 (F0 m (pc + 3) ls (.int q.1 :: rest))) : lW p l e s m b below meth c H locs (F0 m pc ls (.int v1 :: .ref (αc 0 0) :: rest)) :=
  g_lC (k := 1) G hW (c_X5_told (l := l) hW.2.2.2.2.1 hq) ⟨wr_30 _ (List.mem_of_getElem? (i := 2) rfl), wr_30 _ (List.mem_of_getElem? (i := 3) rfl), wr_30 _ (List.mem_of_getElem? (i := 4) rfl), wr_1 _ (List.mem_of_getElem? (i := 2) rfl), wr_30 _ (List.mem_of_getElem? (i := 5) rfl)⟩ (by decide +kernel) hR rfl hls rfl hcat hdg kk
theorem kl_L_90 (G : gx p s m meth c #[Value.ref b] code 4 ret RL nm D dA) (hW : LW D dA αc αm s σ τ H locs) {v1 : Int32} {q : Int32 × sm_M} (hq : f_X6_told v1 τ = some q) (hls : ls.size = 4) (hR : 2 + 1 ≤ room_1.frames ∧ 8 + (2 + 11) + 44 * 2 ≤ room_1.locals) (hf : 0 ≤ 0 ∧ 0 ≤ 0) (hcat : (rest.map fun v => v.category).sum ≤ 8) (hdg : decode code pc = .ok (.invokevirtual 90, 3)) (kk : ∀ (H1 : Heap) (locs1 : List Loc), LW D dA αc αm s σ q.2 H1 locs1 → lW p l e s m b below meth c H1 locs1 (F0 m (pc + 3) ls (.int q.1 :: rest))) : lW p l e s m b below meth c H locs (F0 m pc ls (.int v1 :: .ref (αm 20 0) :: rest)) :=
  g_lM (k := 1) G hW (c_X6_told (l := l) hW.2.2.2.2.2.1 hq) ⟨wr_30 _ (List.mem_of_getElem? (i := 6) rfl), wr_30 _ (List.mem_of_getElem? (i := 7) rfl), wr_30 _ (List.mem_of_getElem? (i := 8) rfl), wr_1 _ (List.mem_of_getElem? (i := 5) rfl), wr_30 _ (List.mem_of_getElem? (i := 9) rfl)⟩ (by decide +kernel) hR rfl hls rfl hcat hdg kk
theorem kl_L_91 (G : gx p s m meth c #[Value.ref b] code 4 ret RL nm D dA) (hW : LW D dA αc αm s σ τ H locs) {q : Int32 × sm_M} (hq : f_X5_clear σ = some q) (hls : ls.size = 4) (hR : 1 + 1 ≤ room_1.frames ∧ 8 + (2 + 11) + 44 * 1 ≤ room_1.locals) (hf : 0 ≤ 0 ∧ 0 ≤ 0) (hcat : (rest.map fun v => v.category).sum ≤ 8) (hdg : decode code pc = .ok (.invokevirtual 91, 3)) (kk : ∀ (H1 : Heap) (locs1 : List Loc), LW D dA αc αm s q.2 τ H1 locs1 → lW p l e s m b below meth c H1 locs1 (F0 m (pc + 3) ls (.int q.1 :: rest))) : lW p l e s m b below meth c H locs (F0 m pc ls (.ref (αc 0 0) :: rest)) :=
  g_lC (k := 0) G hW (c_X5_clear (l := l) hW.2.2.2.2.1 hq) ⟨wr_30 _ (List.mem_of_getElem? (i := 14) rfl), wr_30 _ (List.mem_of_getElem? (i := 15) rfl), wr_30 _ (List.mem_of_getElem? (i := 16) rfl), wr_1 _ (List.mem_of_getElem? (i := 2) rfl), wr_30 _ (List.mem_of_getElem? (i := 17) rfl)⟩ (by decide +kernel) hR rfl hls rfl hcat hdg kk
theorem kl_L_94 (G : gx p s m meth c #[Value.ref b] code 4 ret RL nm D dA) (hW : LW D dA αc αm s σ τ H locs) {q : Int32 × sm_M} (hq : f_X6_clear τ = some q) (hls : ls.size = 4) (hR : 1 + 1 ≤ room_1.frames ∧ 8 + (2 + 11) + 44 * 1 ≤ room_1.locals) (hf : 0 ≤ 0 ∧ 0 ≤ 0) (hcat : (rest.map fun v => v.category).sum ≤ 8) (hdg : decode code pc = .ok (.invokevirtual 94, 3)) (kk : ∀ (H1 : Heap) (locs1 : List Loc), LW D dA αc αm s σ q.2 H1 locs1 → lW p l e s m b below meth c H1 locs1 (F0 m (pc + 3) ls (.int q.1 :: rest))) : lW p l e s m b below meth c H locs (F0 m pc ls (.ref (αm 20 0) :: rest)) :=
  g_lM (k := 0) G hW (c_X6_clear (l := l) hW.2.2.2.2.2.1 hq) ⟨wr_30 _ (List.mem_of_getElem? (i := 18) rfl), wr_30 _ (List.mem_of_getElem? (i := 19) rfl), wr_30 _ (List.mem_of_getElem? (i := 20) rfl), wr_1 _ (List.mem_of_getElem? (i := 5) rfl), wr_30 _ (List.mem_of_getElem? (i := 21) rfl)⟩ (by decide +kernel) hR rfl hls rfl hcat hdg kk
end LR
section LWK
variable {p : Program} {l : Launch} {e : Env} {s : State} {m : MethodId} {below : List Frame} {meth : Method} {c : Code} {b L : Nat} {xs : Nat → Int32} {D : va_G} {dA : Nat → ClassId} {αc αm : Nat → Nat → Nat} {nm : String}
set_option maxHeartbeats 4000000 in
set_option maxRecDepth 100000 in
theorem w_L_law_693 (G : gx p s m meth c #[Value.ref b] code 4 ret RL nm D dA) (E : lE αc αm s b L xs) (k18 : Int32 → sm_M → sm_M → Option Int32) (hk18 : ∀ (v3 : Int32) (σ τ : sm_M), k18 v3 σ τ = some 1 → ∀ (H : Heap) (locs : List Loc) (ls : Array Slot), LW D dA αc αm s σ τ H locs → lv_has ls 4 [(0, .ref b), (1, .ref (αc 0 0)), (2, .ref (αm 20 0)), (3, .int v3)] → lW p l e s m b below meth c H locs (F0 m 18 ls [])) : ∀ (v3 : Int32) (σ τ : sm_M), f_L_law_693 L xs k18 v3 σ τ = some 1 → ∀ (H : Heap) (locs : List Loc) (ls : Array Slot), LW D dA αc αm s σ τ H locs → lv_has ls 4 [(0, .ref b), (1, .ref (αc 0 0)), (2, .ref (αm 20 0)), (3, .int v3)] → lW p l e s m b below meth c H locs (F0 m 693 ls []) := by
  obtain ⟨hx, hb, hr, hlk, hml, hown, hnm, hts, hK, hNw⟩ := id G
  intro v3 σ τ hF H locs ls hW hl
  rw [f_L_law_693] at hF
  refine lv_iinc (v := (v3 + 4)) (lv' := [(3, .int (v3 + 4)), (0, .ref b), (1, .ref (αc 0 0)), (2, .ref (αm 20 0))]) hx hb dL_law_693 hl (k := 3) rfl rfl (by decide) rfl (fun ls hl => ?_)
  refine lv_goto (tgt := 18) hx hb dL_law_696 (by decide) ?_
  exact hk18 _ _ _ hF H locs ls hW (lv_sub hl [1, 2, 3, 0] rfl)
set_option maxHeartbeats 4000000 in
set_option maxRecDepth 100000 in
theorem w_L_law_300 (G : gx p s m meth c #[Value.ref b] code 4 ret RL nm D dA) (E : lE αc αm s b L xs) (k18 : Int32 → sm_M → sm_M → Option Int32) (hk18 : ∀ (v3 : Int32) (σ τ : sm_M), k18 v3 σ τ = some 1 → ∀ (H : Heap) (locs : List Loc) (ls : Array Slot), LW D dA αc αm s σ τ H locs → lv_has ls 4 [(0, .ref b), (1, .ref (αc 0 0)), (2, .ref (αm 20 0)), (3, .int v3)] → lW p l e s m b below meth c H locs (F0 m 18 ls [])) : ∀ (v3 : Int32) (s0 : Int32) (s2 : Int32) (s3 : Int32) (σ τ : sm_M), f_L_law_300 L xs k18 v3 s0 s2 s3 σ τ = some 1 → ∀ (H : Heap) (locs : List Loc) (ls : Array Slot), LW D dA αc αm s σ τ H locs → lv_has ls 4 [(0, .ref b), (1, .ref (αc 0 0)), (2, .ref (αm 20 0)), (3, .int v3)] → lW p l e s m b below meth c H locs (F0 m 300 ls [.int s3, .int s2, .ref (αm 20 0), .int s0]) := by
  obtain ⟨hx, hb, hr, hlk, hml, hown, hnm, hts, hK, hNw⟩ := id G
  intro v3 s0 s2 s3 σ τ hF H locs ls hW hl
  rw [f_L_law_300] at hF
  obtain ⟨q1, hq1, hF⟩ := o_b hF
  refine kl_L_32 G hW hq1 hl.1 ⟨Nat.le_of_ble_eq_true rfl, Nat.le_of_ble_eq_true rfl⟩ ⟨Nat.le_refl _, Nat.le_refl _⟩ (Nat.le_of_ble_eq_true rfl) dL_law_300 (fun H locs hW => ?_)
  refine lv_icmp_eq (tgt := 693) hx hb dL_law_303 (by decide) (fun hc => ?_) (fun hc => ?_)
  · replace hF := o_t hc hF
    exact w_L_law_693 G E k18 hk18 _ _ _ hF H locs ls hW (lv_sub hl [0, 1, 2, 3] rfl)
  · replace hF := o_f hc hF
    refine lv_iconst (v := 0) hx hb dL_law_306 (by decide) ?_
    exact g_lret G E hW hF dL_law_307
set_option maxHeartbeats 4000000 in
set_option maxRecDepth 100000 in
theorem w_L_law_278 (G : gx p s m meth c #[Value.ref b] code 4 ret RL nm D dA) (E : lE αc αm s b L xs) (k18 : Int32 → sm_M → sm_M → Option Int32) (hk18 : ∀ (v3 : Int32) (σ τ : sm_M), k18 v3 σ τ = some 1 → ∀ (H : Heap) (locs : List Loc) (ls : Array Slot), LW D dA αc αm s σ τ H locs → lv_has ls 4 [(0, .ref b), (1, .ref (αc 0 0)), (2, .ref (αm 20 0)), (3, .int v3)] → lW p l e s m b below meth c H locs (F0 m 18 ls [])) : ∀ (v3 : Int32) (s1 : Int32) (s2 : Int32) (σ τ : sm_M), f_L_law_278 L xs k18 v3 s1 s2 σ τ = some 1 → ∀ (H : Heap) (locs : List Loc) (ls : Array Slot), LW D dA αc αm s σ τ H locs → lv_has ls 4 [(0, .ref b), (1, .ref (αc 0 0)), (2, .ref (αm 20 0)), (3, .int v3)] → lW p l e s m b below meth c H locs (F0 m 278 ls [.int s2, .int s1, .ref (αc 0 0)]) := by
  obtain ⟨hx, hb, hr, hlk, hml, hown, hnm, hts, hK, hNw⟩ := id G
  intro v3 s1 s2 σ τ hF H locs ls hW hl
  rw [f_L_law_278] at hF
  obtain ⟨q1, hq1, hF⟩ := o_b hF
  refine kl_L_28 G hW hq1 hl.1 ⟨Nat.le_of_ble_eq_true rfl, Nat.le_of_ble_eq_true rfl⟩ ⟨Nat.le_refl _, Nat.le_refl _⟩ (Nat.le_of_ble_eq_true rfl) dL_law_278 (fun H locs hW => ?_)
  refine lv_aload_n hx hb dL_law_281 rfl (lv_at hl 2 rfl) ?_
  refine lv_aload_n hx hb dL_law_282 rfl (lv_at hl 0 rfl) ?_
  refine lv_iload_n hx hb dL_law_283 rfl (lv_at hl 3 rfl) ?_
  refine lv_iconst (v := 1) hx hb dL_law_284 (by decide) ?_
  refine lv_iadd hx hb dL_law_285 ?_
  obtain ⟨x2, hx2, hF⟩ := o_b hF
  refine g_scld G E hW hx2 dL_law_286 ?_
  refine lv_aload_n hx hb dL_law_287 rfl (lv_at hl 0 rfl) ?_
  refine lv_iload_n hx hb dL_law_288 rfl (lv_at hl 3 rfl) ?_
  refine lv_iconst (v := 2) hx hb dL_law_289 (by decide) ?_
  refine lv_iadd hx hb dL_law_290 ?_
  obtain ⟨x3, hx3, hF⟩ := o_b hF
  refine g_scld G E hW hx3 dL_law_291 ?_
  refine lv_if_eq (tgt := 299) hx hb dL_law_292 (by decide) (fun hc => ?_) (fun hc => ?_)
  · replace hF := o_t hc hF
    refine lv_iconst (v := 0) hx hb dL_law_299 (by decide) ?_
    exact w_L_law_300 G E k18 hk18 _ _ _ _ _ _ hF H locs ls hW (lv_sub hl [0, 1, 2, 3] rfl)
  · replace hF := o_f hc hF
    refine lv_iconst (v := 1) hx hb dL_law_295 (by decide) ?_
    refine lv_goto (tgt := 300) hx hb dL_law_296 (by decide) ?_
    exact w_L_law_300 G E k18 hk18 _ _ _ _ _ _ hF H locs ls hW (lv_sub hl [0, 1, 2, 3] rfl)
set_option maxHeartbeats 4000000 in
set_option maxRecDepth 100000 in
theorem w_L_law_218 (G : gx p s m meth c #[Value.ref b] code 4 ret RL nm D dA) (E : lE αc αm s b L xs) (k18 : Int32 → sm_M → sm_M → Option Int32) (hk18 : ∀ (v3 : Int32) (σ τ : sm_M), k18 v3 σ τ = some 1 → ∀ (H : Heap) (locs : List Loc) (ls : Array Slot), LW D dA αc αm s σ τ H locs → lv_has ls 4 [(0, .ref b), (1, .ref (αc 0 0)), (2, .ref (αm 20 0)), (3, .int v3)] → lW p l e s m b below meth c H locs (F0 m 18 ls [])) : ∀ (v3 : Int32) (s0 : Int32) (s2 : Int32) (s3 : Int32) (s4 : Int32) (σ τ : sm_M), f_L_law_218 L xs k18 v3 s0 s2 s3 s4 σ τ = some 1 → ∀ (H : Heap) (locs : List Loc) (ls : Array Slot), LW D dA αc αm s σ τ H locs → lv_has ls 4 [(0, .ref b), (1, .ref (αc 0 0)), (2, .ref (αm 20 0)), (3, .int v3)] → lW p l e s m b below meth c H locs (F0 m 218 ls [.int s4, .int s3, .int s2, .ref (αm 20 0), .int s0]) := by
  obtain ⟨hx, hb, hr, hlk, hml, hown, hnm, hts, hK, hNw⟩ := id G
  intro v3 s0 s2 s3 s4 σ τ hF H locs ls hW hl
  rw [f_L_law_218] at hF
  obtain ⟨q1, hq1, hF⟩ := o_b hF
  refine kl_L_22 G hW hq1 hl.1 ⟨Nat.le_of_ble_eq_true rfl, Nat.le_of_ble_eq_true rfl⟩ ⟨Nat.le_refl _, Nat.le_refl _⟩ (Nat.le_of_ble_eq_true rfl) dL_law_218 (fun H locs hW => ?_)
  refine lv_icmp_eq (tgt := 693) hx hb dL_law_221 (by decide) (fun hc => ?_) (fun hc => ?_)
  · replace hF := o_t hc hF
    exact w_L_law_693 G E k18 hk18 _ _ _ hF H locs ls hW (lv_sub hl [0, 1, 2, 3] rfl)
  · replace hF := o_f hc hF
    refine lv_iconst (v := 0) hx hb dL_law_224 (by decide) ?_
    exact g_lret G E hW hF dL_law_225
set_option maxHeartbeats 4000000 in
set_option maxRecDepth 100000 in
theorem w_L_law_191 (G : gx p s m meth c #[Value.ref b] code 4 ret RL nm D dA) (E : lE αc αm s b L xs) (k18 : Int32 → sm_M → sm_M → Option Int32) (hk18 : ∀ (v3 : Int32) (σ τ : sm_M), k18 v3 σ τ = some 1 → ∀ (H : Heap) (locs : List Loc) (ls : Array Slot), LW D dA αc αm s σ τ H locs → lv_has ls 4 [(0, .ref b), (1, .ref (αc 0 0)), (2, .ref (αm 20 0)), (3, .int v3)] → lW p l e s m b below meth c H locs (F0 m 18 ls [])) : ∀ (v3 : Int32) (s1 : Int32) (s2 : Int32) (s3 : Int32) (σ τ : sm_M), f_L_law_191 L xs k18 v3 s1 s2 s3 σ τ = some 1 → ∀ (H : Heap) (locs : List Loc) (ls : Array Slot), LW D dA αc αm s σ τ H locs → lv_has ls 4 [(0, .ref b), (1, .ref (αc 0 0)), (2, .ref (αm 20 0)), (3, .int v3)] → lW p l e s m b below meth c H locs (F0 m 191 ls [.int s3, .int s2, .int s1, .ref (αc 0 0)]) := by
  obtain ⟨hx, hb, hr, hlk, hml, hown, hnm, hts, hK, hNw⟩ := id G
  intro v3 s1 s2 s3 σ τ hF H locs ls hW hl
  rw [f_L_law_191] at hF
  obtain ⟨q1, hq1, hF⟩ := o_b hF
  refine kl_L_18 G hW hq1 hl.1 ⟨Nat.le_of_ble_eq_true rfl, Nat.le_of_ble_eq_true rfl⟩ ⟨Nat.le_refl _, Nat.le_refl _⟩ (Nat.le_of_ble_eq_true rfl) dL_law_191 (fun H locs hW => ?_)
  refine lv_aload_n hx hb dL_law_194 rfl (lv_at hl 2 rfl) ?_
  refine lv_aload_n hx hb dL_law_195 rfl (lv_at hl 0 rfl) ?_
  refine lv_iload_n hx hb dL_law_196 rfl (lv_at hl 3 rfl) ?_
  refine lv_iconst (v := 1) hx hb dL_law_197 (by decide) ?_
  refine lv_iadd hx hb dL_law_198 ?_
  obtain ⟨x2, hx2, hF⟩ := o_b hF
  refine g_scld G E hW hx2 dL_law_199 ?_
  refine lv_aload_n hx hb dL_law_200 rfl (lv_at hl 0 rfl) ?_
  refine lv_iload_n hx hb dL_law_201 rfl (lv_at hl 3 rfl) ?_
  refine lv_iconst (v := 2) hx hb dL_law_202 (by decide) ?_
  refine lv_iadd hx hb dL_law_203 ?_
  obtain ⟨x3, hx3, hF⟩ := o_b hF
  refine g_scld G E hW hx3 dL_law_204 ?_
  refine lv_aload_n hx hb dL_law_205 rfl (lv_at hl 0 rfl) ?_
  refine lv_iload_n hx hb dL_law_206 rfl (lv_at hl 3 rfl) ?_
  refine lv_iconst (v := 3) hx hb dL_law_207 (by decide) ?_
  refine lv_iadd hx hb dL_law_208 ?_
  obtain ⟨x4, hx4, hF⟩ := o_b hF
  refine g_scld G E hW hx4 dL_law_209 ?_
  refine lv_if_eq (tgt := 217) hx hb dL_law_210 (by decide) (fun hc => ?_) (fun hc => ?_)
  · replace hF := o_t hc hF
    refine lv_iconst (v := 0) hx hb dL_law_217 (by decide) ?_
    exact w_L_law_218 G E k18 hk18 _ _ _ _ _ _ _ hF H locs ls hW (lv_sub hl [0, 1, 2, 3] rfl)
  · replace hF := o_f hc hF
    refine lv_iconst (v := 1) hx hb dL_law_213 (by decide) ?_
    refine lv_goto (tgt := 218) hx hb dL_law_214 (by decide) ?_
    exact w_L_law_218 G E k18 hk18 _ _ _ _ _ _ _ hF H locs ls hW (lv_sub hl [0, 1, 2, 3] rfl)
set_option maxHeartbeats 4000000 in
set_option maxRecDepth 100000 in
theorem w_L_law_18 (G : gx p s m meth c #[Value.ref b] code 4 ret RL nm D dA) (E : lE αc αm s b L xs) : ∀ (n : Nat) (v3 : Int32) (σ τ : sm_M), f_L_law_18 L xs n v3 σ τ = some 1 → ∀ (H : Heap) (locs : List Loc) (ls : Array Slot), LW D dA αc αm s σ τ H locs → lv_has ls 4 [(0, .ref b), (1, .ref (αc 0 0)), (2, .ref (αm 20 0)), (3, .int v3)] → lW p l e s m b below meth c H locs (F0 m 18 ls []) := by
  obtain ⟨hx, hb, hr, hlk, hml, hown, hnm, hts, hK, hNw⟩ := id G
  intro n
  induction n with
  | zero => intro v3 σ τ hF; exact absurd hF (by intro h; cases h)
  | succ n ih =>
    intro v3 σ τ hF H locs ls hW hl
    rw [f_L_law_18] at hF
    refine lv_iload_n hx hb dL_law_18 rfl (lv_at hl 3 rfl) ?_
    refine lv_aload_n hx hb dL_law_19 rfl (lv_at hl 0 rfl) ?_
    refine g_scln G E hW dL_law_20 ?_
    refine lv_iconst (v := 4) hx hb dL_law_21 (by decide) ?_
    refine lv_isub hx hb dL_law_22 ?_
    refine lv_icmp_gt (tgt := 699) hx hb dL_law_23 (by decide) (fun hc => ?_) (fun hc => ?_)
    · replace hF := o_t hc hF
      refine lv_iconst (v := 1) hx hb dL_law_699 (by decide) ?_
      exact g_lret G E hW hF dL_law_700
    · replace hF := o_f hc hF
      refine lv_aload_n hx hb dL_law_26 rfl (lv_at hl 0 rfl) ?_
      refine lv_iload_n hx hb dL_law_27 rfl (lv_at hl 3 rfl) ?_
      obtain ⟨x1, hx1, hF⟩ := o_b hF
      refine g_scld G E hW hx1 dL_law_28 ?_
      refine lv_bipush (v := 31) hx hb dL_law_29 (by decide) ?_
      refine lv_iand hx hb dL_law_31 ?_
      by_cases n0 : (x1 &&& (31 : Int32)) = 0
      · replace hF := o_t n0 hF
        refine lv_tableIn (tgt := 124) (off := 92) hx hb dL_law_32 (by rw [n0]; decide) (by rw [n0]; decide) (by rw [n0]; rfl) (by decide) ?_
        refine lv_aload_n hx hb dL_law_124 rfl (lv_at hl 1 rfl) ?_
        refine lv_aload_n hx hb dL_law_125 rfl (lv_at hl 0 rfl) ?_
        refine lv_iload_n hx hb dL_law_126 rfl (lv_at hl 3 rfl) ?_
        refine lv_iconst (v := 1) hx hb dL_law_127 (by decide) ?_
        refine lv_iadd hx hb dL_law_128 ?_
        obtain ⟨x2, hx2, hF⟩ := o_b hF
        refine g_scld G E hW hx2 dL_law_129 ?_
        refine lv_aload_n hx hb dL_law_130 rfl (lv_at hl 0 rfl) ?_
        refine lv_iload_n hx hb dL_law_131 rfl (lv_at hl 3 rfl) ?_
        refine lv_iconst (v := 2) hx hb dL_law_132 (by decide) ?_
        refine lv_iadd hx hb dL_law_133 ?_
        obtain ⟨x3, hx3, hF⟩ := o_b hF
        refine g_scld G E hW hx3 dL_law_134 ?_
        refine lv_aload_n hx hb dL_law_135 rfl (lv_at hl 0 rfl) ?_
        refine lv_iload_n hx hb dL_law_136 rfl (lv_at hl 3 rfl) ?_
        refine lv_iconst (v := 3) hx hb dL_law_137 (by decide) ?_
        refine lv_iadd hx hb dL_law_138 ?_
        obtain ⟨x4, hx4, hF⟩ := o_b hF
        refine g_scld G E hW hx4 dL_law_139 ?_
        obtain ⟨q5, hq5, hF⟩ := o_b hF
        refine kl_L_13 G hW hq5 hl.1 ⟨Nat.le_of_ble_eq_true rfl, Nat.le_of_ble_eq_true rfl⟩ ⟨Nat.le_refl _, Nat.le_refl _⟩ (Nat.le_of_ble_eq_true rfl) dL_law_140 (fun H locs hW => ?_)
        refine lv_aload_n hx hb dL_law_143 rfl (lv_at hl 2 rfl) ?_
        refine lv_aload_n hx hb dL_law_144 rfl (lv_at hl 0 rfl) ?_
        refine lv_iload_n hx hb dL_law_145 rfl (lv_at hl 3 rfl) ?_
        refine lv_iconst (v := 1) hx hb dL_law_146 (by decide) ?_
        refine lv_iadd hx hb dL_law_147 ?_
        obtain ⟨x6, hx6, hF⟩ := o_b hF
        refine g_scld G E hW hx6 dL_law_148 ?_
        refine lv_aload_n hx hb dL_law_149 rfl (lv_at hl 0 rfl) ?_
        refine lv_iload_n hx hb dL_law_150 rfl (lv_at hl 3 rfl) ?_
        refine lv_iconst (v := 2) hx hb dL_law_151 (by decide) ?_
        refine lv_iadd hx hb dL_law_152 ?_
        obtain ⟨x7, hx7, hF⟩ := o_b hF
        refine g_scld G E hW hx7 dL_law_153 ?_
        refine lv_aload_n hx hb dL_law_154 rfl (lv_at hl 0 rfl) ?_
        refine lv_iload_n hx hb dL_law_155 rfl (lv_at hl 3 rfl) ?_
        refine lv_iconst (v := 3) hx hb dL_law_156 (by decide) ?_
        refine lv_iadd hx hb dL_law_157 ?_
        obtain ⟨x8, hx8, hF⟩ := o_b hF
        refine g_scld G E hW hx8 dL_law_158 ?_
        obtain ⟨q9, hq9, hF⟩ := o_b hF
        refine kl_L_17 G hW hq9 hl.1 ⟨Nat.le_of_ble_eq_true rfl, Nat.le_of_ble_eq_true rfl⟩ ⟨Nat.le_refl _, Nat.le_refl _⟩ (Nat.le_of_ble_eq_true rfl) dL_law_159 (fun H locs hW => ?_)
        refine lv_icmp_eq (tgt := 693) hx hb dL_law_162 (by decide) (fun hc => ?_) (fun hc => ?_)
        · replace hF := o_t hc hF
          exact w_L_law_693 G E (f_L_law_18 L xs n) ih _ _ _ hF H locs ls hW (lv_sub hl [0, 1, 2, 3] rfl)
        · replace hF := o_f hc hF
          refine lv_iconst (v := 0) hx hb dL_law_165 (by decide) ?_
          exact g_lret G E hW hF dL_law_166
      · replace hF := o_f n0 hF
        by_cases n1 : (x1 &&& (31 : Int32)) = 1
        · replace hF := o_t n1 hF
          refine lv_tableIn (tgt := 167) (off := 135) hx hb dL_law_32 (by rw [n1]; decide) (by rw [n1]; decide) (by rw [n1]; rfl) (by decide) ?_
          refine lv_aload_n hx hb dL_law_167 rfl (lv_at hl 1 rfl) ?_
          refine lv_aload_n hx hb dL_law_168 rfl (lv_at hl 0 rfl) ?_
          refine lv_iload_n hx hb dL_law_169 rfl (lv_at hl 3 rfl) ?_
          refine lv_iconst (v := 1) hx hb dL_law_170 (by decide) ?_
          refine lv_iadd hx hb dL_law_171 ?_
          obtain ⟨x10, hx10, hF⟩ := o_b hF
          refine g_scld G E hW hx10 dL_law_172 ?_
          refine lv_aload_n hx hb dL_law_173 rfl (lv_at hl 0 rfl) ?_
          refine lv_iload_n hx hb dL_law_174 rfl (lv_at hl 3 rfl) ?_
          refine lv_iconst (v := 2) hx hb dL_law_175 (by decide) ?_
          refine lv_iadd hx hb dL_law_176 ?_
          obtain ⟨x11, hx11, hF⟩ := o_b hF
          refine g_scld G E hW hx11 dL_law_177 ?_
          refine lv_aload_n hx hb dL_law_178 rfl (lv_at hl 0 rfl) ?_
          refine lv_iload_n hx hb dL_law_179 rfl (lv_at hl 3 rfl) ?_
          refine lv_iconst (v := 3) hx hb dL_law_180 (by decide) ?_
          refine lv_iadd hx hb dL_law_181 ?_
          obtain ⟨x12, hx12, hF⟩ := o_b hF
          refine g_scld G E hW hx12 dL_law_182 ?_
          refine lv_if_eq (tgt := 190) hx hb dL_law_183 (by decide) (fun hc => ?_) (fun hc => ?_)
          · replace hF := o_t hc hF
            refine lv_iconst (v := 0) hx hb dL_law_190 (by decide) ?_
            exact w_L_law_191 G E (f_L_law_18 L xs n) ih _ _ _ _ _ _ hF H locs ls hW (lv_sub hl [0, 1, 2, 3] rfl)
          · replace hF := o_f hc hF
            refine lv_iconst (v := 1) hx hb dL_law_186 (by decide) ?_
            refine lv_goto (tgt := 191) hx hb dL_law_187 (by decide) ?_
            exact w_L_law_191 G E (f_L_law_18 L xs n) ih _ _ _ _ _ _ hF H locs ls hW (lv_sub hl [0, 1, 2, 3] rfl)
        · replace hF := o_f n1 hF
          by_cases n2 : (x1 &&& (31 : Int32)) = 2
          · replace hF := o_t n2 hF
            refine lv_tableIn (tgt := 226) (off := 194) hx hb dL_law_32 (by rw [n2]; decide) (by rw [n2]; decide) (by rw [n2]; rfl) (by decide) ?_
            refine lv_aload_n hx hb dL_law_226 rfl (lv_at hl 1 rfl) ?_
            refine lv_aload_n hx hb dL_law_227 rfl (lv_at hl 0 rfl) ?_
            refine lv_iload_n hx hb dL_law_228 rfl (lv_at hl 3 rfl) ?_
            refine lv_iconst (v := 1) hx hb dL_law_229 (by decide) ?_
            refine lv_iadd hx hb dL_law_230 ?_
            obtain ⟨x13, hx13, hF⟩ := o_b hF
            refine g_scld G E hW hx13 dL_law_231 ?_
            refine lv_aload_n hx hb dL_law_232 rfl (lv_at hl 0 rfl) ?_
            refine lv_iload_n hx hb dL_law_233 rfl (lv_at hl 3 rfl) ?_
            refine lv_iconst (v := 2) hx hb dL_law_234 (by decide) ?_
            refine lv_iadd hx hb dL_law_235 ?_
            obtain ⟨x14, hx14, hF⟩ := o_b hF
            refine g_scld G E hW hx14 dL_law_236 ?_
            obtain ⟨q15, hq15, hF⟩ := o_b hF
            refine kl_L_23 G hW hq15 hl.1 ⟨Nat.le_of_ble_eq_true rfl, Nat.le_of_ble_eq_true rfl⟩ ⟨Nat.le_refl _, Nat.le_refl _⟩ (Nat.le_of_ble_eq_true rfl) dL_law_237 (fun H locs hW => ?_)
            refine lv_aload_n hx hb dL_law_240 rfl (lv_at hl 2 rfl) ?_
            refine lv_aload_n hx hb dL_law_241 rfl (lv_at hl 0 rfl) ?_
            refine lv_iload_n hx hb dL_law_242 rfl (lv_at hl 3 rfl) ?_
            refine lv_iconst (v := 1) hx hb dL_law_243 (by decide) ?_
            refine lv_iadd hx hb dL_law_244 ?_
            obtain ⟨x16, hx16, hF⟩ := o_b hF
            refine g_scld G E hW hx16 dL_law_245 ?_
            refine lv_aload_n hx hb dL_law_246 rfl (lv_at hl 0 rfl) ?_
            refine lv_iload_n hx hb dL_law_247 rfl (lv_at hl 3 rfl) ?_
            refine lv_iconst (v := 2) hx hb dL_law_248 (by decide) ?_
            refine lv_iadd hx hb dL_law_249 ?_
            obtain ⟨x17, hx17, hF⟩ := o_b hF
            refine g_scld G E hW hx17 dL_law_250 ?_
            obtain ⟨q18, hq18, hF⟩ := o_b hF
            refine kl_L_27 G hW hq18 hl.1 ⟨Nat.le_of_ble_eq_true rfl, Nat.le_of_ble_eq_true rfl⟩ ⟨Nat.le_refl _, Nat.le_refl _⟩ (Nat.le_of_ble_eq_true rfl) dL_law_251 (fun H locs hW => ?_)
            refine lv_icmp_eq (tgt := 693) hx hb dL_law_254 (by decide) (fun hc => ?_) (fun hc => ?_)
            · replace hF := o_t hc hF
              exact w_L_law_693 G E (f_L_law_18 L xs n) ih _ _ _ hF H locs ls hW (lv_sub hl [0, 1, 2, 3] rfl)
            · replace hF := o_f hc hF
              refine lv_iconst (v := 0) hx hb dL_law_257 (by decide) ?_
              exact g_lret G E hW hF dL_law_258
          · replace hF := o_f n2 hF
            by_cases n3 : (x1 &&& (31 : Int32)) = 3
            · replace hF := o_t n3 hF
              refine lv_tableIn (tgt := 259) (off := 227) hx hb dL_law_32 (by rw [n3]; decide) (by rw [n3]; decide) (by rw [n3]; rfl) (by decide) ?_
              refine lv_aload_n hx hb dL_law_259 rfl (lv_at hl 1 rfl) ?_
              refine lv_aload_n hx hb dL_law_260 rfl (lv_at hl 0 rfl) ?_
              refine lv_iload_n hx hb dL_law_261 rfl (lv_at hl 3 rfl) ?_
              refine lv_iconst (v := 1) hx hb dL_law_262 (by decide) ?_
              refine lv_iadd hx hb dL_law_263 ?_
              obtain ⟨x19, hx19, hF⟩ := o_b hF
              refine g_scld G E hW hx19 dL_law_264 ?_
              refine lv_aload_n hx hb dL_law_265 rfl (lv_at hl 0 rfl) ?_
              refine lv_iload_n hx hb dL_law_266 rfl (lv_at hl 3 rfl) ?_
              refine lv_iconst (v := 2) hx hb dL_law_267 (by decide) ?_
              refine lv_iadd hx hb dL_law_268 ?_
              obtain ⟨x20, hx20, hF⟩ := o_b hF
              refine g_scld G E hW hx20 dL_law_269 ?_
              refine lv_if_eq (tgt := 277) hx hb dL_law_270 (by decide) (fun hc => ?_) (fun hc => ?_)
              · replace hF := o_t hc hF
                refine lv_iconst (v := 0) hx hb dL_law_277 (by decide) ?_
                exact w_L_law_278 G E (f_L_law_18 L xs n) ih _ _ _ _ _ hF H locs ls hW (lv_sub hl [0, 1, 2, 3] rfl)
              · replace hF := o_f hc hF
                refine lv_iconst (v := 1) hx hb dL_law_273 (by decide) ?_
                refine lv_goto (tgt := 278) hx hb dL_law_274 (by decide) ?_
                exact w_L_law_278 G E (f_L_law_18 L xs n) ih _ _ _ _ _ hF H locs ls hW (lv_sub hl [0, 1, 2, 3] rfl)
            · replace hF := o_f n3 hF
              by_cases n4 : (x1 &&& (31 : Int32)) = 4
              · replace hF := o_t n4 hF
                refine lv_tableIn (tgt := 308) (off := 276) hx hb dL_law_32 (by rw [n4]; decide) (by rw [n4]; decide) (by rw [n4]; rfl) (by decide) ?_
                refine lv_aload_n hx hb dL_law_308 rfl (lv_at hl 1 rfl) ?_
                refine lv_aload_n hx hb dL_law_309 rfl (lv_at hl 0 rfl) ?_
                refine lv_iload_n hx hb dL_law_310 rfl (lv_at hl 3 rfl) ?_
                refine lv_iconst (v := 1) hx hb dL_law_311 (by decide) ?_
                refine lv_iadd hx hb dL_law_312 ?_
                obtain ⟨x21, hx21, hF⟩ := o_b hF
                refine g_scld G E hW hx21 dL_law_313 ?_
                obtain ⟨q22, hq22, hF⟩ := o_b hF
                refine kl_L_33 G hW hq22 hl.1 ⟨Nat.le_of_ble_eq_true rfl, Nat.le_of_ble_eq_true rfl⟩ ⟨Nat.le_refl _, Nat.le_refl _⟩ (Nat.le_of_ble_eq_true rfl) dL_law_314 (fun H locs hW => ?_)
                refine lv_aload_n hx hb dL_law_317 rfl (lv_at hl 2 rfl) ?_
                refine lv_aload_n hx hb dL_law_318 rfl (lv_at hl 0 rfl) ?_
                refine lv_iload_n hx hb dL_law_319 rfl (lv_at hl 3 rfl) ?_
                refine lv_iconst (v := 1) hx hb dL_law_320 (by decide) ?_
                refine lv_iadd hx hb dL_law_321 ?_
                obtain ⟨x23, hx23, hF⟩ := o_b hF
                refine g_scld G E hW hx23 dL_law_322 ?_
                obtain ⟨q24, hq24, hF⟩ := o_b hF
                refine kl_L_37 G hW hq24 hl.1 ⟨Nat.le_of_ble_eq_true rfl, Nat.le_of_ble_eq_true rfl⟩ ⟨Nat.le_refl _, Nat.le_refl _⟩ (Nat.le_of_ble_eq_true rfl) dL_law_323 (fun H locs hW => ?_)
                refine lv_icmp_eq (tgt := 693) hx hb dL_law_326 (by decide) (fun hc => ?_) (fun hc => ?_)
                · replace hF := o_t hc hF
                  exact w_L_law_693 G E (f_L_law_18 L xs n) ih _ _ _ hF H locs ls hW (lv_sub hl [0, 1, 2, 3] rfl)
                · replace hF := o_f hc hF
                  refine lv_iconst (v := 0) hx hb dL_law_329 (by decide) ?_
                  exact g_lret G E hW hF dL_law_330
              · replace hF := o_f n4 hF
                by_cases n5 : (x1 &&& (31 : Int32)) = 5
                · replace hF := o_t n5 hF
                  refine lv_tableIn (tgt := 331) (off := 299) hx hb dL_law_32 (by rw [n5]; decide) (by rw [n5]; decide) (by rw [n5]; rfl) (by decide) ?_
                  refine lv_aload_n hx hb dL_law_331 rfl (lv_at hl 1 rfl) ?_
                  refine lv_aload_n hx hb dL_law_332 rfl (lv_at hl 0 rfl) ?_
                  refine lv_iload_n hx hb dL_law_333 rfl (lv_at hl 3 rfl) ?_
                  refine lv_iconst (v := 1) hx hb dL_law_334 (by decide) ?_
                  refine lv_iadd hx hb dL_law_335 ?_
                  obtain ⟨x25, hx25, hF⟩ := o_b hF
                  refine g_scld G E hW hx25 dL_law_336 ?_
                  obtain ⟨q26, hq26, hF⟩ := o_b hF
                  refine kl_L_38 G hW hq26 hl.1 ⟨Nat.le_of_ble_eq_true rfl, Nat.le_of_ble_eq_true rfl⟩ ⟨Nat.le_refl _, Nat.le_refl _⟩ (Nat.le_of_ble_eq_true rfl) dL_law_337 (fun H locs hW => ?_)
                  refine lv_aload_n hx hb dL_law_340 rfl (lv_at hl 2 rfl) ?_
                  refine lv_aload_n hx hb dL_law_341 rfl (lv_at hl 0 rfl) ?_
                  refine lv_iload_n hx hb dL_law_342 rfl (lv_at hl 3 rfl) ?_
                  refine lv_iconst (v := 1) hx hb dL_law_343 (by decide) ?_
                  refine lv_iadd hx hb dL_law_344 ?_
                  obtain ⟨x27, hx27, hF⟩ := o_b hF
                  refine g_scld G E hW hx27 dL_law_345 ?_
                  obtain ⟨q28, hq28, hF⟩ := o_b hF
                  refine kl_L_41 G hW hq28 hl.1 ⟨Nat.le_of_ble_eq_true rfl, Nat.le_of_ble_eq_true rfl⟩ ⟨Nat.le_refl _, Nat.le_refl _⟩ (Nat.le_of_ble_eq_true rfl) dL_law_346 (fun H locs hW => ?_)
                  refine lv_icmp_eq (tgt := 693) hx hb dL_law_349 (by decide) (fun hc => ?_) (fun hc => ?_)
                  · replace hF := o_t hc hF
                    exact w_L_law_693 G E (f_L_law_18 L xs n) ih _ _ _ hF H locs ls hW (lv_sub hl [0, 1, 2, 3] rfl)
                  · replace hF := o_f hc hF
                    refine lv_iconst (v := 0) hx hb dL_law_352 (by decide) ?_
                    exact g_lret G E hW hF dL_law_353
                · replace hF := o_f n5 hF
                  by_cases n6 : (x1 &&& (31 : Int32)) = 6
                  · replace hF := o_t n6 hF
                    refine lv_tableIn (tgt := 354) (off := 322) hx hb dL_law_32 (by rw [n6]; decide) (by rw [n6]; decide) (by rw [n6]; rfl) (by decide) ?_
                    refine lv_aload_n hx hb dL_law_354 rfl (lv_at hl 1 rfl) ?_
                    refine lv_aload_n hx hb dL_law_355 rfl (lv_at hl 0 rfl) ?_
                    refine lv_iload_n hx hb dL_law_356 rfl (lv_at hl 3 rfl) ?_
                    refine lv_iconst (v := 1) hx hb dL_law_357 (by decide) ?_
                    refine lv_iadd hx hb dL_law_358 ?_
                    obtain ⟨x29, hx29, hF⟩ := o_b hF
                    refine g_scld G E hW hx29 dL_law_359 ?_
                    obtain ⟨q30, hq30, hF⟩ := o_b hF
                    refine kl_L_42 G hW hq30 hl.1 ⟨Nat.le_of_ble_eq_true rfl, Nat.le_of_ble_eq_true rfl⟩ ⟨Nat.le_refl _, Nat.le_refl _⟩ (Nat.le_of_ble_eq_true rfl) dL_law_360 (fun H locs hW => ?_)
                    refine lv_aload_n hx hb dL_law_363 rfl (lv_at hl 2 rfl) ?_
                    refine lv_aload_n hx hb dL_law_364 rfl (lv_at hl 0 rfl) ?_
                    refine lv_iload_n hx hb dL_law_365 rfl (lv_at hl 3 rfl) ?_
                    refine lv_iconst (v := 1) hx hb dL_law_366 (by decide) ?_
                    refine lv_iadd hx hb dL_law_367 ?_
                    obtain ⟨x31, hx31, hF⟩ := o_b hF
                    refine g_scld G E hW hx31 dL_law_368 ?_
                    obtain ⟨q32, hq32, hF⟩ := o_b hF
                    refine kl_L_45 G hW hq32 hl.1 ⟨Nat.le_of_ble_eq_true rfl, Nat.le_of_ble_eq_true rfl⟩ ⟨Nat.le_refl _, Nat.le_refl _⟩ (Nat.le_of_ble_eq_true rfl) dL_law_369 (fun H locs hW => ?_)
                    refine lv_icmp_eq (tgt := 693) hx hb dL_law_372 (by decide) (fun hc => ?_) (fun hc => ?_)
                    · replace hF := o_t hc hF
                      exact w_L_law_693 G E (f_L_law_18 L xs n) ih _ _ _ hF H locs ls hW (lv_sub hl [0, 1, 2, 3] rfl)
                    · replace hF := o_f hc hF
                      refine lv_iconst (v := 0) hx hb dL_law_375 (by decide) ?_
                      exact g_lret G E hW hF dL_law_376
                  · replace hF := o_f n6 hF
                    by_cases n7 : (x1 &&& (31 : Int32)) = 7
                    · replace hF := o_t n7 hF
                      refine lv_tableIn (tgt := 377) (off := 345) hx hb dL_law_32 (by rw [n7]; decide) (by rw [n7]; decide) (by rw [n7]; rfl) (by decide) ?_
                      refine lv_aload_n hx hb dL_law_377 rfl (lv_at hl 1 rfl) ?_
                      refine lv_aload_n hx hb dL_law_378 rfl (lv_at hl 0 rfl) ?_
                      refine lv_iload_n hx hb dL_law_379 rfl (lv_at hl 3 rfl) ?_
                      refine lv_iconst (v := 1) hx hb dL_law_380 (by decide) ?_
                      refine lv_iadd hx hb dL_law_381 ?_
                      obtain ⟨x33, hx33, hF⟩ := o_b hF
                      refine g_scld G E hW hx33 dL_law_382 ?_
                      obtain ⟨q34, hq34, hF⟩ := o_b hF
                      refine kl_L_46 G hW hq34 hl.1 ⟨Nat.le_of_ble_eq_true rfl, Nat.le_of_ble_eq_true rfl⟩ ⟨Nat.le_refl _, Nat.le_refl _⟩ (Nat.le_of_ble_eq_true rfl) dL_law_383 (fun H locs hW => ?_)
                      refine lv_aload_n hx hb dL_law_386 rfl (lv_at hl 2 rfl) ?_
                      refine lv_aload_n hx hb dL_law_387 rfl (lv_at hl 0 rfl) ?_
                      refine lv_iload_n hx hb dL_law_388 rfl (lv_at hl 3 rfl) ?_
                      refine lv_iconst (v := 1) hx hb dL_law_389 (by decide) ?_
                      refine lv_iadd hx hb dL_law_390 ?_
                      obtain ⟨x35, hx35, hF⟩ := o_b hF
                      refine g_scld G E hW hx35 dL_law_391 ?_
                      obtain ⟨q36, hq36, hF⟩ := o_b hF
                      refine kl_L_49 G hW hq36 hl.1 ⟨Nat.le_of_ble_eq_true rfl, Nat.le_of_ble_eq_true rfl⟩ ⟨Nat.le_refl _, Nat.le_refl _⟩ (Nat.le_of_ble_eq_true rfl) dL_law_392 (fun H locs hW => ?_)
                      refine lv_icmp_eq (tgt := 693) hx hb dL_law_395 (by decide) (fun hc => ?_) (fun hc => ?_)
                      · replace hF := o_t hc hF
                        exact w_L_law_693 G E (f_L_law_18 L xs n) ih _ _ _ hF H locs ls hW (lv_sub hl [0, 1, 2, 3] rfl)
                      · replace hF := o_f hc hF
                        refine lv_iconst (v := 0) hx hb dL_law_398 (by decide) ?_
                        exact g_lret G E hW hF dL_law_399
                    · replace hF := o_f n7 hF
                      by_cases n8 : (x1 &&& (31 : Int32)) = 8
                      · replace hF := o_t n8 hF
                        refine lv_tableIn (tgt := 400) (off := 368) hx hb dL_law_32 (by rw [n8]; decide) (by rw [n8]; decide) (by rw [n8]; rfl) (by decide) ?_
                        refine lv_aload_n hx hb dL_law_400 rfl (lv_at hl 1 rfl) ?_
                        refine lv_aload_n hx hb dL_law_401 rfl (lv_at hl 0 rfl) ?_
                        refine lv_iload_n hx hb dL_law_402 rfl (lv_at hl 3 rfl) ?_
                        refine lv_iconst (v := 1) hx hb dL_law_403 (by decide) ?_
                        refine lv_iadd hx hb dL_law_404 ?_
                        obtain ⟨x37, hx37, hF⟩ := o_b hF
                        refine g_scld G E hW hx37 dL_law_405 ?_
                        obtain ⟨q38, hq38, hF⟩ := o_b hF
                        refine kl_L_50 G hW hq38 hl.1 ⟨Nat.le_of_ble_eq_true rfl, Nat.le_of_ble_eq_true rfl⟩ ⟨Nat.le_refl _, Nat.le_refl _⟩ (Nat.le_of_ble_eq_true rfl) dL_law_406 (fun H locs hW => ?_)
                        refine lv_aload_n hx hb dL_law_409 rfl (lv_at hl 2 rfl) ?_
                        refine lv_aload_n hx hb dL_law_410 rfl (lv_at hl 0 rfl) ?_
                        refine lv_iload_n hx hb dL_law_411 rfl (lv_at hl 3 rfl) ?_
                        refine lv_iconst (v := 1) hx hb dL_law_412 (by decide) ?_
                        refine lv_iadd hx hb dL_law_413 ?_
                        obtain ⟨x39, hx39, hF⟩ := o_b hF
                        refine g_scld G E hW hx39 dL_law_414 ?_
                        obtain ⟨q40, hq40, hF⟩ := o_b hF
                        refine kl_L_53 G hW hq40 hl.1 ⟨Nat.le_of_ble_eq_true rfl, Nat.le_of_ble_eq_true rfl⟩ ⟨Nat.le_refl _, Nat.le_refl _⟩ (Nat.le_of_ble_eq_true rfl) dL_law_415 (fun H locs hW => ?_)
                        refine lv_icmp_eq (tgt := 693) hx hb dL_law_418 (by decide) (fun hc => ?_) (fun hc => ?_)
                        · replace hF := o_t hc hF
                          exact w_L_law_693 G E (f_L_law_18 L xs n) ih _ _ _ hF H locs ls hW (lv_sub hl [0, 1, 2, 3] rfl)
                        · replace hF := o_f hc hF
                          refine lv_iconst (v := 0) hx hb dL_law_421 (by decide) ?_
                          exact g_lret G E hW hF dL_law_422
                      · replace hF := o_f n8 hF
                        by_cases n9 : (x1 &&& (31 : Int32)) = 9
                        · replace hF := o_t n9 hF
                          refine lv_tableIn (tgt := 423) (off := 391) hx hb dL_law_32 (by rw [n9]; decide) (by rw [n9]; decide) (by rw [n9]; rfl) (by decide) ?_
                          refine lv_aload_n hx hb dL_law_423 rfl (lv_at hl 1 rfl) ?_
                          obtain ⟨q41, hq41, hF⟩ := o_b hF
                          refine kl_L_54 G hW hq41 hl.1 ⟨Nat.le_of_ble_eq_true rfl, Nat.le_of_ble_eq_true rfl⟩ ⟨Nat.le_refl _, Nat.le_refl _⟩ (Nat.le_of_ble_eq_true rfl) dL_law_424 (fun H locs hW => ?_)
                          refine lv_aload_n hx hb dL_law_427 rfl (lv_at hl 2 rfl) ?_
                          obtain ⟨q42, hq42, hF⟩ := o_b hF
                          refine kl_L_58 G hW hq42 hl.1 ⟨Nat.le_of_ble_eq_true rfl, Nat.le_of_ble_eq_true rfl⟩ ⟨Nat.le_refl _, Nat.le_refl _⟩ (Nat.le_of_ble_eq_true rfl) dL_law_428 (fun H locs hW => ?_)
                          refine lv_icmp_eq (tgt := 693) hx hb dL_law_431 (by decide) (fun hc => ?_) (fun hc => ?_)
                          · replace hF := o_t hc hF
                            exact w_L_law_693 G E (f_L_law_18 L xs n) ih _ _ _ hF H locs ls hW (lv_sub hl [0, 1, 2, 3] rfl)
                          · replace hF := o_f hc hF
                            refine lv_iconst (v := 0) hx hb dL_law_434 (by decide) ?_
                            exact g_lret G E hW hF dL_law_435
                        · replace hF := o_f n9 hF
                          by_cases n10 : (x1 &&& (31 : Int32)) = 10
                          · replace hF := o_t n10 hF
                            refine lv_tableIn (tgt := 436) (off := 404) hx hb dL_law_32 (by rw [n10]; decide) (by rw [n10]; decide) (by rw [n10]; rfl) (by decide) ?_
                            refine lv_aload_n hx hb dL_law_436 rfl (lv_at hl 1 rfl) ?_
                            refine lv_aload_n hx hb dL_law_437 rfl (lv_at hl 0 rfl) ?_
                            refine lv_iload_n hx hb dL_law_438 rfl (lv_at hl 3 rfl) ?_
                            refine lv_iconst (v := 1) hx hb dL_law_439 (by decide) ?_
                            refine lv_iadd hx hb dL_law_440 ?_
                            obtain ⟨x43, hx43, hF⟩ := o_b hF
                            refine g_scld G E hW hx43 dL_law_441 ?_
                            obtain ⟨q44, hq44, hF⟩ := o_b hF
                            refine kl_L_59 G hW hq44 hl.1 ⟨Nat.le_of_ble_eq_true rfl, Nat.le_of_ble_eq_true rfl⟩ ⟨Nat.le_refl _, Nat.le_refl _⟩ (Nat.le_of_ble_eq_true rfl) dL_law_442 (fun H locs hW => ?_)
                            refine lv_aload_n hx hb dL_law_445 rfl (lv_at hl 2 rfl) ?_
                            refine lv_aload_n hx hb dL_law_446 rfl (lv_at hl 0 rfl) ?_
                            refine lv_iload_n hx hb dL_law_447 rfl (lv_at hl 3 rfl) ?_
                            refine lv_iconst (v := 1) hx hb dL_law_448 (by decide) ?_
                            refine lv_iadd hx hb dL_law_449 ?_
                            obtain ⟨x45, hx45, hF⟩ := o_b hF
                            refine g_scld G E hW hx45 dL_law_450 ?_
                            obtain ⟨q46, hq46, hF⟩ := o_b hF
                            refine kl_L_62 G hW hq46 hl.1 ⟨Nat.le_of_ble_eq_true rfl, Nat.le_of_ble_eq_true rfl⟩ ⟨Nat.le_refl _, Nat.le_refl _⟩ (Nat.le_of_ble_eq_true rfl) dL_law_451 (fun H locs hW => ?_)
                            refine lv_icmp_eq (tgt := 693) hx hb dL_law_454 (by decide) (fun hc => ?_) (fun hc => ?_)
                            · replace hF := o_t hc hF
                              exact w_L_law_693 G E (f_L_law_18 L xs n) ih _ _ _ hF H locs ls hW (lv_sub hl [0, 1, 2, 3] rfl)
                            · replace hF := o_f hc hF
                              refine lv_iconst (v := 0) hx hb dL_law_457 (by decide) ?_
                              exact g_lret G E hW hF dL_law_458
                          · replace hF := o_f n10 hF
                            by_cases n11 : (x1 &&& (31 : Int32)) = 11
                            · replace hF := o_t n11 hF
                              refine lv_tableIn (tgt := 459) (off := 427) hx hb dL_law_32 (by rw [n11]; decide) (by rw [n11]; decide) (by rw [n11]; rfl) (by decide) ?_
                              refine lv_aload_n hx hb dL_law_459 rfl (lv_at hl 1 rfl) ?_
                              refine lv_aload_n hx hb dL_law_460 rfl (lv_at hl 0 rfl) ?_
                              refine lv_iload_n hx hb dL_law_461 rfl (lv_at hl 3 rfl) ?_
                              refine lv_iconst (v := 1) hx hb dL_law_462 (by decide) ?_
                              refine lv_iadd hx hb dL_law_463 ?_
                              obtain ⟨x47, hx47, hF⟩ := o_b hF
                              refine g_scld G E hW hx47 dL_law_464 ?_
                              refine lv_aload_n hx hb dL_law_465 rfl (lv_at hl 0 rfl) ?_
                              refine lv_iload_n hx hb dL_law_466 rfl (lv_at hl 3 rfl) ?_
                              refine lv_iconst (v := 2) hx hb dL_law_467 (by decide) ?_
                              refine lv_iadd hx hb dL_law_468 ?_
                              obtain ⟨x48, hx48, hF⟩ := o_b hF
                              refine g_scld G E hW hx48 dL_law_469 ?_
                              obtain ⟨q49, hq49, hF⟩ := o_b hF
                              refine kl_L_63 G hW hq49 hl.1 ⟨Nat.le_of_ble_eq_true rfl, Nat.le_of_ble_eq_true rfl⟩ ⟨Nat.le_refl _, Nat.le_refl _⟩ (Nat.le_of_ble_eq_true rfl) dL_law_470 (fun H locs hW => ?_)
                              refine lv_aload_n hx hb dL_law_473 rfl (lv_at hl 2 rfl) ?_
                              refine lv_aload_n hx hb dL_law_474 rfl (lv_at hl 0 rfl) ?_
                              refine lv_iload_n hx hb dL_law_475 rfl (lv_at hl 3 rfl) ?_
                              refine lv_iconst (v := 1) hx hb dL_law_476 (by decide) ?_
                              refine lv_iadd hx hb dL_law_477 ?_
                              obtain ⟨x50, hx50, hF⟩ := o_b hF
                              refine g_scld G E hW hx50 dL_law_478 ?_
                              refine lv_aload_n hx hb dL_law_479 rfl (lv_at hl 0 rfl) ?_
                              refine lv_iload_n hx hb dL_law_480 rfl (lv_at hl 3 rfl) ?_
                              refine lv_iconst (v := 2) hx hb dL_law_481 (by decide) ?_
                              refine lv_iadd hx hb dL_law_482 ?_
                              obtain ⟨x51, hx51, hF⟩ := o_b hF
                              refine g_scld G E hW hx51 dL_law_483 ?_
                              obtain ⟨q52, hq52, hF⟩ := o_b hF
                              refine kl_L_66 G hW hq52 hl.1 ⟨Nat.le_of_ble_eq_true rfl, Nat.le_of_ble_eq_true rfl⟩ ⟨Nat.le_refl _, Nat.le_refl _⟩ (Nat.le_of_ble_eq_true rfl) dL_law_484 (fun H locs hW => ?_)
                              refine lv_icmp_eq (tgt := 693) hx hb dL_law_487 (by decide) (fun hc => ?_) (fun hc => ?_)
                              · replace hF := o_t hc hF
                                exact w_L_law_693 G E (f_L_law_18 L xs n) ih _ _ _ hF H locs ls hW (lv_sub hl [0, 1, 2, 3] rfl)
                              · replace hF := o_f hc hF
                                refine lv_iconst (v := 0) hx hb dL_law_490 (by decide) ?_
                                exact g_lret G E hW hF dL_law_491
                            · replace hF := o_f n11 hF
                              by_cases n12 : (x1 &&& (31 : Int32)) = 12
                              · replace hF := o_t n12 hF
                                refine lv_tableIn (tgt := 492) (off := 460) hx hb dL_law_32 (by rw [n12]; decide) (by rw [n12]; decide) (by rw [n12]; rfl) (by decide) ?_
                                refine lv_aload_n hx hb dL_law_492 rfl (lv_at hl 1 rfl) ?_
                                refine lv_aload_n hx hb dL_law_493 rfl (lv_at hl 0 rfl) ?_
                                refine lv_iload_n hx hb dL_law_494 rfl (lv_at hl 3 rfl) ?_
                                refine lv_iconst (v := 1) hx hb dL_law_495 (by decide) ?_
                                refine lv_iadd hx hb dL_law_496 ?_
                                obtain ⟨x53, hx53, hF⟩ := o_b hF
                                refine g_scld G E hW hx53 dL_law_497 ?_
                                refine lv_aload_n hx hb dL_law_498 rfl (lv_at hl 0 rfl) ?_
                                refine lv_iload_n hx hb dL_law_499 rfl (lv_at hl 3 rfl) ?_
                                refine lv_iconst (v := 2) hx hb dL_law_500 (by decide) ?_
                                refine lv_iadd hx hb dL_law_501 ?_
                                obtain ⟨x54, hx54, hF⟩ := o_b hF
                                refine g_scld G E hW hx54 dL_law_502 ?_
                                obtain ⟨q55, hq55, hF⟩ := o_b hF
                                refine kl_L_67 G hW hq55 hl.1 ⟨Nat.le_of_ble_eq_true rfl, Nat.le_of_ble_eq_true rfl⟩ ⟨Nat.le_refl _, Nat.le_refl _⟩ (Nat.le_of_ble_eq_true rfl) dL_law_503 (fun H locs hW => ?_)
                                refine lv_aload_n hx hb dL_law_506 rfl (lv_at hl 2 rfl) ?_
                                refine lv_aload_n hx hb dL_law_507 rfl (lv_at hl 0 rfl) ?_
                                refine lv_iload_n hx hb dL_law_508 rfl (lv_at hl 3 rfl) ?_
                                refine lv_iconst (v := 1) hx hb dL_law_509 (by decide) ?_
                                refine lv_iadd hx hb dL_law_510 ?_
                                obtain ⟨x56, hx56, hF⟩ := o_b hF
                                refine g_scld G E hW hx56 dL_law_511 ?_
                                refine lv_aload_n hx hb dL_law_512 rfl (lv_at hl 0 rfl) ?_
                                refine lv_iload_n hx hb dL_law_513 rfl (lv_at hl 3 rfl) ?_
                                refine lv_iconst (v := 2) hx hb dL_law_514 (by decide) ?_
                                refine lv_iadd hx hb dL_law_515 ?_
                                obtain ⟨x57, hx57, hF⟩ := o_b hF
                                refine g_scld G E hW hx57 dL_law_516 ?_
                                obtain ⟨q58, hq58, hF⟩ := o_b hF
                                refine kl_L_70 G hW hq58 hl.1 ⟨Nat.le_of_ble_eq_true rfl, Nat.le_of_ble_eq_true rfl⟩ ⟨Nat.le_refl _, Nat.le_refl _⟩ (Nat.le_of_ble_eq_true rfl) dL_law_517 (fun H locs hW => ?_)
                                refine lv_icmp_eq (tgt := 693) hx hb dL_law_520 (by decide) (fun hc => ?_) (fun hc => ?_)
                                · replace hF := o_t hc hF
                                  exact w_L_law_693 G E (f_L_law_18 L xs n) ih _ _ _ hF H locs ls hW (lv_sub hl [0, 1, 2, 3] rfl)
                                · replace hF := o_f hc hF
                                  refine lv_iconst (v := 0) hx hb dL_law_523 (by decide) ?_
                                  exact g_lret G E hW hF dL_law_524
                              · replace hF := o_f n12 hF
                                by_cases n13 : (x1 &&& (31 : Int32)) = 13
                                · replace hF := o_t n13 hF
                                  refine lv_tableIn (tgt := 525) (off := 493) hx hb dL_law_32 (by rw [n13]; decide) (by rw [n13]; decide) (by rw [n13]; rfl) (by decide) ?_
                                  refine lv_aload_n hx hb dL_law_525 rfl (lv_at hl 1 rfl) ?_
                                  refine lv_aload_n hx hb dL_law_526 rfl (lv_at hl 0 rfl) ?_
                                  refine lv_iload_n hx hb dL_law_527 rfl (lv_at hl 3 rfl) ?_
                                  refine lv_iconst (v := 1) hx hb dL_law_528 (by decide) ?_
                                  refine lv_iadd hx hb dL_law_529 ?_
                                  obtain ⟨x59, hx59, hF⟩ := o_b hF
                                  refine g_scld G E hW hx59 dL_law_530 ?_
                                  refine lv_aload_n hx hb dL_law_531 rfl (lv_at hl 0 rfl) ?_
                                  refine lv_iload_n hx hb dL_law_532 rfl (lv_at hl 3 rfl) ?_
                                  refine lv_iconst (v := 2) hx hb dL_law_533 (by decide) ?_
                                  refine lv_iadd hx hb dL_law_534 ?_
                                  obtain ⟨x60, hx60, hF⟩ := o_b hF
                                  refine g_scld G E hW hx60 dL_law_535 ?_
                                  obtain ⟨q61, hq61, hF⟩ := o_b hF
                                  refine kl_L_71 G hW hq61 hl.1 ⟨Nat.le_of_ble_eq_true rfl, Nat.le_of_ble_eq_true rfl⟩ ⟨Nat.le_refl _, Nat.le_refl _⟩ (Nat.le_of_ble_eq_true rfl) dL_law_536 (fun H locs hW => ?_)
                                  refine lv_aload_n hx hb dL_law_539 rfl (lv_at hl 2 rfl) ?_
                                  refine lv_aload_n hx hb dL_law_540 rfl (lv_at hl 0 rfl) ?_
                                  refine lv_iload_n hx hb dL_law_541 rfl (lv_at hl 3 rfl) ?_
                                  refine lv_iconst (v := 1) hx hb dL_law_542 (by decide) ?_
                                  refine lv_iadd hx hb dL_law_543 ?_
                                  obtain ⟨x62, hx62, hF⟩ := o_b hF
                                  refine g_scld G E hW hx62 dL_law_544 ?_
                                  refine lv_aload_n hx hb dL_law_545 rfl (lv_at hl 0 rfl) ?_
                                  refine lv_iload_n hx hb dL_law_546 rfl (lv_at hl 3 rfl) ?_
                                  refine lv_iconst (v := 2) hx hb dL_law_547 (by decide) ?_
                                  refine lv_iadd hx hb dL_law_548 ?_
                                  obtain ⟨x63, hx63, hF⟩ := o_b hF
                                  refine g_scld G E hW hx63 dL_law_549 ?_
                                  obtain ⟨q64, hq64, hF⟩ := o_b hF
                                  refine kl_L_74 G hW hq64 hl.1 ⟨Nat.le_of_ble_eq_true rfl, Nat.le_of_ble_eq_true rfl⟩ ⟨Nat.le_refl _, Nat.le_refl _⟩ (Nat.le_of_ble_eq_true rfl) dL_law_550 (fun H locs hW => ?_)
                                  refine lv_icmp_eq (tgt := 693) hx hb dL_law_553 (by decide) (fun hc => ?_) (fun hc => ?_)
                                  · replace hF := o_t hc hF
                                    exact w_L_law_693 G E (f_L_law_18 L xs n) ih _ _ _ hF H locs ls hW (lv_sub hl [0, 1, 2, 3] rfl)
                                  · replace hF := o_f hc hF
                                    refine lv_iconst (v := 0) hx hb dL_law_556 (by decide) ?_
                                    exact g_lret G E hW hF dL_law_557
                                · replace hF := o_f n13 hF
                                  by_cases n14 : (x1 &&& (31 : Int32)) = 14
                                  · replace hF := o_t n14 hF
                                    refine lv_tableIn (tgt := 558) (off := 526) hx hb dL_law_32 (by rw [n14]; decide) (by rw [n14]; decide) (by rw [n14]; rfl) (by decide) ?_
                                    refine lv_aload_n hx hb dL_law_558 rfl (lv_at hl 1 rfl) ?_
                                    refine lv_aload_n hx hb dL_law_559 rfl (lv_at hl 0 rfl) ?_
                                    refine lv_iload_n hx hb dL_law_560 rfl (lv_at hl 3 rfl) ?_
                                    refine lv_iconst (v := 1) hx hb dL_law_561 (by decide) ?_
                                    refine lv_iadd hx hb dL_law_562 ?_
                                    obtain ⟨x65, hx65, hF⟩ := o_b hF
                                    refine g_scld G E hW hx65 dL_law_563 ?_
                                    refine lv_aload_n hx hb dL_law_564 rfl (lv_at hl 0 rfl) ?_
                                    refine lv_iload_n hx hb dL_law_565 rfl (lv_at hl 3 rfl) ?_
                                    refine lv_iconst (v := 2) hx hb dL_law_566 (by decide) ?_
                                    refine lv_iadd hx hb dL_law_567 ?_
                                    obtain ⟨x66, hx66, hF⟩ := o_b hF
                                    refine g_scld G E hW hx66 dL_law_568 ?_
                                    obtain ⟨q67, hq67, hF⟩ := o_b hF
                                    refine kl_L_75 G hW hq67 hl.1 ⟨Nat.le_of_ble_eq_true rfl, Nat.le_of_ble_eq_true rfl⟩ ⟨Nat.le_refl _, Nat.le_refl _⟩ (Nat.le_of_ble_eq_true rfl) dL_law_569 (fun H locs hW => ?_)
                                    refine lv_aload_n hx hb dL_law_572 rfl (lv_at hl 2 rfl) ?_
                                    refine lv_aload_n hx hb dL_law_573 rfl (lv_at hl 0 rfl) ?_
                                    refine lv_iload_n hx hb dL_law_574 rfl (lv_at hl 3 rfl) ?_
                                    refine lv_iconst (v := 1) hx hb dL_law_575 (by decide) ?_
                                    refine lv_iadd hx hb dL_law_576 ?_
                                    obtain ⟨x68, hx68, hF⟩ := o_b hF
                                    refine g_scld G E hW hx68 dL_law_577 ?_
                                    refine lv_aload_n hx hb dL_law_578 rfl (lv_at hl 0 rfl) ?_
                                    refine lv_iload_n hx hb dL_law_579 rfl (lv_at hl 3 rfl) ?_
                                    refine lv_iconst (v := 2) hx hb dL_law_580 (by decide) ?_
                                    refine lv_iadd hx hb dL_law_581 ?_
                                    obtain ⟨x69, hx69, hF⟩ := o_b hF
                                    refine g_scld G E hW hx69 dL_law_582 ?_
                                    obtain ⟨q70, hq70, hF⟩ := o_b hF
                                    refine kl_L_78 G hW hq70 hl.1 ⟨Nat.le_of_ble_eq_true rfl, Nat.le_of_ble_eq_true rfl⟩ ⟨Nat.le_refl _, Nat.le_refl _⟩ (Nat.le_of_ble_eq_true rfl) dL_law_583 (fun H locs hW => ?_)
                                    refine lv_icmp_eq (tgt := 693) hx hb dL_law_586 (by decide) (fun hc => ?_) (fun hc => ?_)
                                    · replace hF := o_t hc hF
                                      exact w_L_law_693 G E (f_L_law_18 L xs n) ih _ _ _ hF H locs ls hW (lv_sub hl [0, 1, 2, 3] rfl)
                                    · replace hF := o_f hc hF
                                      refine lv_iconst (v := 0) hx hb dL_law_589 (by decide) ?_
                                      exact g_lret G E hW hF dL_law_590
                                  · replace hF := o_f n14 hF
                                    by_cases n15 : (x1 &&& (31 : Int32)) = 15
                                    · replace hF := o_t n15 hF
                                      refine lv_tableIn (tgt := 591) (off := 559) hx hb dL_law_32 (by rw [n15]; decide) (by rw [n15]; decide) (by rw [n15]; rfl) (by decide) ?_
                                      refine lv_aload_n hx hb dL_law_591 rfl (lv_at hl 1 rfl) ?_
                                      refine lv_aload_n hx hb dL_law_592 rfl (lv_at hl 0 rfl) ?_
                                      refine lv_iload_n hx hb dL_law_593 rfl (lv_at hl 3 rfl) ?_
                                      refine lv_iconst (v := 1) hx hb dL_law_594 (by decide) ?_
                                      refine lv_iadd hx hb dL_law_595 ?_
                                      obtain ⟨x71, hx71, hF⟩ := o_b hF
                                      refine g_scld G E hW hx71 dL_law_596 ?_
                                      refine lv_aload_n hx hb dL_law_597 rfl (lv_at hl 0 rfl) ?_
                                      refine lv_iload_n hx hb dL_law_598 rfl (lv_at hl 3 rfl) ?_
                                      refine lv_iconst (v := 2) hx hb dL_law_599 (by decide) ?_
                                      refine lv_iadd hx hb dL_law_600 ?_
                                      obtain ⟨x72, hx72, hF⟩ := o_b hF
                                      refine g_scld G E hW hx72 dL_law_601 ?_
                                      obtain ⟨q73, hq73, hF⟩ := o_b hF
                                      refine kl_L_79 G hW hq73 hl.1 ⟨Nat.le_of_ble_eq_true rfl, Nat.le_of_ble_eq_true rfl⟩ ⟨Nat.le_refl _, Nat.le_refl _⟩ (Nat.le_of_ble_eq_true rfl) dL_law_602 (fun H locs hW => ?_)
                                      refine lv_aload_n hx hb dL_law_605 rfl (lv_at hl 2 rfl) ?_
                                      refine lv_aload_n hx hb dL_law_606 rfl (lv_at hl 0 rfl) ?_
                                      refine lv_iload_n hx hb dL_law_607 rfl (lv_at hl 3 rfl) ?_
                                      refine lv_iconst (v := 1) hx hb dL_law_608 (by decide) ?_
                                      refine lv_iadd hx hb dL_law_609 ?_
                                      obtain ⟨x74, hx74, hF⟩ := o_b hF
                                      refine g_scld G E hW hx74 dL_law_610 ?_
                                      refine lv_aload_n hx hb dL_law_611 rfl (lv_at hl 0 rfl) ?_
                                      refine lv_iload_n hx hb dL_law_612 rfl (lv_at hl 3 rfl) ?_
                                      refine lv_iconst (v := 2) hx hb dL_law_613 (by decide) ?_
                                      refine lv_iadd hx hb dL_law_614 ?_
                                      obtain ⟨x75, hx75, hF⟩ := o_b hF
                                      refine g_scld G E hW hx75 dL_law_615 ?_
                                      obtain ⟨q76, hq76, hF⟩ := o_b hF
                                      refine kl_L_82 G hW hq76 hl.1 ⟨Nat.le_of_ble_eq_true rfl, Nat.le_of_ble_eq_true rfl⟩ ⟨Nat.le_refl _, Nat.le_refl _⟩ (Nat.le_of_ble_eq_true rfl) dL_law_616 (fun H locs hW => ?_)
                                      refine lv_icmp_eq (tgt := 693) hx hb dL_law_619 (by decide) (fun hc => ?_) (fun hc => ?_)
                                      · replace hF := o_t hc hF
                                        exact w_L_law_693 G E (f_L_law_18 L xs n) ih _ _ _ hF H locs ls hW (lv_sub hl [0, 1, 2, 3] rfl)
                                      · replace hF := o_f hc hF
                                        refine lv_iconst (v := 0) hx hb dL_law_622 (by decide) ?_
                                        exact g_lret G E hW hF dL_law_623
                                    · replace hF := o_f n15 hF
                                      by_cases n16 : (x1 &&& (31 : Int32)) = 16
                                      · replace hF := o_t n16 hF
                                        refine lv_tableIn (tgt := 624) (off := 592) hx hb dL_law_32 (by rw [n16]; decide) (by rw [n16]; decide) (by rw [n16]; rfl) (by decide) ?_
                                        refine lv_aload_n hx hb dL_law_624 rfl (lv_at hl 1 rfl) ?_
                                        refine lv_aload_n hx hb dL_law_625 rfl (lv_at hl 0 rfl) ?_
                                        refine lv_iload_n hx hb dL_law_626 rfl (lv_at hl 3 rfl) ?_
                                        refine lv_iconst (v := 1) hx hb dL_law_627 (by decide) ?_
                                        refine lv_iadd hx hb dL_law_628 ?_
                                        obtain ⟨x77, hx77, hF⟩ := o_b hF
                                        refine g_scld G E hW hx77 dL_law_629 ?_
                                        refine lv_aload_n hx hb dL_law_630 rfl (lv_at hl 0 rfl) ?_
                                        refine lv_iload_n hx hb dL_law_631 rfl (lv_at hl 3 rfl) ?_
                                        refine lv_iconst (v := 2) hx hb dL_law_632 (by decide) ?_
                                        refine lv_iadd hx hb dL_law_633 ?_
                                        obtain ⟨x78, hx78, hF⟩ := o_b hF
                                        refine g_scld G E hW hx78 dL_law_634 ?_
                                        obtain ⟨q79, hq79, hF⟩ := o_b hF
                                        refine kl_L_83 G hW hq79 hl.1 ⟨Nat.le_of_ble_eq_true rfl, Nat.le_of_ble_eq_true rfl⟩ ⟨Nat.le_refl _, Nat.le_refl _⟩ (Nat.le_of_ble_eq_true rfl) dL_law_635 (fun H locs hW => ?_)
                                        refine lv_aload_n hx hb dL_law_638 rfl (lv_at hl 2 rfl) ?_
                                        refine lv_aload_n hx hb dL_law_639 rfl (lv_at hl 0 rfl) ?_
                                        refine lv_iload_n hx hb dL_law_640 rfl (lv_at hl 3 rfl) ?_
                                        refine lv_iconst (v := 1) hx hb dL_law_641 (by decide) ?_
                                        refine lv_iadd hx hb dL_law_642 ?_
                                        obtain ⟨x80, hx80, hF⟩ := o_b hF
                                        refine g_scld G E hW hx80 dL_law_643 ?_
                                        refine lv_aload_n hx hb dL_law_644 rfl (lv_at hl 0 rfl) ?_
                                        refine lv_iload_n hx hb dL_law_645 rfl (lv_at hl 3 rfl) ?_
                                        refine lv_iconst (v := 2) hx hb dL_law_646 (by decide) ?_
                                        refine lv_iadd hx hb dL_law_647 ?_
                                        obtain ⟨x81, hx81, hF⟩ := o_b hF
                                        refine g_scld G E hW hx81 dL_law_648 ?_
                                        obtain ⟨q82, hq82, hF⟩ := o_b hF
                                        refine kl_L_86 G hW hq82 hl.1 ⟨Nat.le_of_ble_eq_true rfl, Nat.le_of_ble_eq_true rfl⟩ ⟨Nat.le_refl _, Nat.le_refl _⟩ (Nat.le_of_ble_eq_true rfl) dL_law_649 (fun H locs hW => ?_)
                                        refine lv_icmp_eq (tgt := 693) hx hb dL_law_652 (by decide) (fun hc => ?_) (fun hc => ?_)
                                        · replace hF := o_t hc hF
                                          exact w_L_law_693 G E (f_L_law_18 L xs n) ih _ _ _ hF H locs ls hW (lv_sub hl [0, 1, 2, 3] rfl)
                                        · replace hF := o_f hc hF
                                          refine lv_iconst (v := 0) hx hb dL_law_655 (by decide) ?_
                                          exact g_lret G E hW hF dL_law_656
                                      · replace hF := o_f n16 hF
                                        by_cases n17 : (x1 &&& (31 : Int32)) = 17
                                        · replace hF := o_t n17 hF
                                          refine lv_tableIn (tgt := 657) (off := 625) hx hb dL_law_32 (by rw [n17]; decide) (by rw [n17]; decide) (by rw [n17]; rfl) (by decide) ?_
                                          refine lv_aload_n hx hb dL_law_657 rfl (lv_at hl 1 rfl) ?_
                                          refine lv_aload_n hx hb dL_law_658 rfl (lv_at hl 0 rfl) ?_
                                          refine lv_iload_n hx hb dL_law_659 rfl (lv_at hl 3 rfl) ?_
                                          refine lv_iconst (v := 1) hx hb dL_law_660 (by decide) ?_
                                          refine lv_iadd hx hb dL_law_661 ?_
                                          obtain ⟨x83, hx83, hF⟩ := o_b hF
                                          refine g_scld G E hW hx83 dL_law_662 ?_
                                          obtain ⟨q84, hq84, hF⟩ := o_b hF
                                          refine kl_L_87 G hW hq84 hl.1 ⟨Nat.le_of_ble_eq_true rfl, Nat.le_of_ble_eq_true rfl⟩ ⟨Nat.le_refl _, Nat.le_refl _⟩ (Nat.le_of_ble_eq_true rfl) dL_law_663 (fun H locs hW => ?_)
                                          refine lv_aload_n hx hb dL_law_666 rfl (lv_at hl 2 rfl) ?_
                                          refine lv_aload_n hx hb dL_law_667 rfl (lv_at hl 0 rfl) ?_
                                          refine lv_iload_n hx hb dL_law_668 rfl (lv_at hl 3 rfl) ?_
                                          refine lv_iconst (v := 1) hx hb dL_law_669 (by decide) ?_
                                          refine lv_iadd hx hb dL_law_670 ?_
                                          obtain ⟨x85, hx85, hF⟩ := o_b hF
                                          refine g_scld G E hW hx85 dL_law_671 ?_
                                          obtain ⟨q86, hq86, hF⟩ := o_b hF
                                          refine kl_L_90 G hW hq86 hl.1 ⟨Nat.le_of_ble_eq_true rfl, Nat.le_of_ble_eq_true rfl⟩ ⟨Nat.le_refl _, Nat.le_refl _⟩ (Nat.le_of_ble_eq_true rfl) dL_law_672 (fun H locs hW => ?_)
                                          refine lv_icmp_eq (tgt := 693) hx hb dL_law_675 (by decide) (fun hc => ?_) (fun hc => ?_)
                                          · replace hF := o_t hc hF
                                            exact w_L_law_693 G E (f_L_law_18 L xs n) ih _ _ _ hF H locs ls hW (lv_sub hl [0, 1, 2, 3] rfl)
                                          · replace hF := o_f hc hF
                                            refine lv_iconst (v := 0) hx hb dL_law_678 (by decide) ?_
                                            exact g_lret G E hW hF dL_law_679
                                        · replace hF := o_f n17 hF
                                          by_cases n18 : (x1 &&& (31 : Int32)) = 18
                                          · replace hF := o_t n18 hF
                                            refine lv_tableIn (tgt := 680) (off := 648) hx hb dL_law_32 (by rw [n18]; decide) (by rw [n18]; decide) (by rw [n18]; rfl) (by decide) ?_
                                            refine lv_aload_n hx hb dL_law_680 rfl (lv_at hl 1 rfl) ?_
                                            obtain ⟨q87, hq87, hF⟩ := o_b hF
                                            refine kl_L_91 G hW hq87 hl.1 ⟨Nat.le_of_ble_eq_true rfl, Nat.le_of_ble_eq_true rfl⟩ ⟨Nat.le_refl _, Nat.le_refl _⟩ (Nat.le_of_ble_eq_true rfl) dL_law_681 (fun H locs hW => ?_)
                                            refine lv_aload_n hx hb dL_law_684 rfl (lv_at hl 2 rfl) ?_
                                            obtain ⟨q88, hq88, hF⟩ := o_b hF
                                            refine kl_L_94 G hW hq88 hl.1 ⟨Nat.le_of_ble_eq_true rfl, Nat.le_of_ble_eq_true rfl⟩ ⟨Nat.le_refl _, Nat.le_refl _⟩ (Nat.le_of_ble_eq_true rfl) dL_law_685 (fun H locs hW => ?_)
                                            refine lv_icmp_eq (tgt := 693) hx hb dL_law_688 (by decide) (fun hc => ?_) (fun hc => ?_)
                                            · replace hF := o_t hc hF
                                              exact w_L_law_693 G E (f_L_law_18 L xs n) ih _ _ _ hF H locs ls hW (lv_sub hl [0, 1, 2, 3] rfl)
                                            · replace hF := o_f hc hF
                                              refine lv_iconst (v := 0) hx hb dL_law_691 (by decide) ?_
                                              exact g_lret G E hW hF dL_law_692
                                          · replace hF := o_f n18 hF
                                            refine lv_tableOut (tgt := 693) hx hb dL_law_32 (t_out 0 18 (fun z h1 h2 => by have hz : z = 0 ∨ z = 1 ∨ z = 2 ∨ z = 3 ∨ z = 4 ∨ z = 5 ∨ z = 6 ∨ z = 7 ∨ z = 8 ∨ z = 9 ∨ z = 10 ∨ z = 11 ∨ z = 12 ∨ z = 13 ∨ z = 14 ∨ z = 15 ∨ z = 16 ∨ z = 17 ∨ z = 18 := (by omega); rcases hz with rfl | rfl | rfl | rfl | rfl | rfl | rfl | rfl | rfl | rfl | rfl | rfl | rfl | rfl | rfl | rfl | rfl | rfl | rfl <;> assumption)) (by decide) ?_
                                            exact w_L_law_693 G E (f_L_law_18 L xs n) ih _ _ _ hF H locs ls hW (lv_sub hl [0, 1, 2, 3] rfl)
end LWK
