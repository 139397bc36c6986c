/-! ===== contracts over the memory of fixed shape ===== -/
def rmD (d : Nat) : Room := { frames := d, cells := 0, slots := 0, locals := 44 * d }
def sm_Pc (D : va_G) (dA : Nat → ClassId) (Z : Nat) (α : Nat → Nat → Nat) (av : List Value) (σ : sm_M) : Array Value → State → Prop := fun v U => v = av.toArray ∧ Rep D dA Z α σ U.heap ∧ va_K D classes (mm_tys dA) U ∧ nW U
def sm_Qc (D : va_G) (dA : Nat → ClassId) (Z : Nat) (α : Nat → Nat → Nat) (r : Option Value) (σ' : sm_M) : Array Value → State → Outcome → State → Prop := fun _ st o t => o = .returned r ∧ Rep D dA Z α σ' t.heap ∧ ∀ q : Nat, ¬ Ad Z α q → t.heap[q]? = st.heap[q]?
theorem sm_blind {D : va_G} {dA : Nat → ClassId} {Z : Nat} {α : Nat → Nat → Nat} {av : List Value} {σ : sm_M} : FrameBlind (sm_Pc D dA Z α av σ) := fun a U g mk h => ⟨h.1, h.2.1, va_K.moved (u := U) (U := U.calling g mk a) (Vm.Alike.refl U.vm) h.2.2.1, nW.same rfl h.2.2.2⟩
abbrev gM (l : Launch) (D : va_G) (dA : Nat → ClassId) (Z : Nat) (α : Nat → Nat → Nat) (y : MethodName) (bytes : ByteArray) (maxL : Nat) (rt : Option FieldType) (d : Nat) (av : List Value) (σ : sm_M) (r : Option Value) (σ' : sm_M) : Prop :=
  Met l y (Cond.code y bytes maxL rt :: wsL_law) (rmD d) (sm_Pc D dA Z α av σ) (sm_Qc D dA Z α r σ') 0 0 (Ad Z α)
abbrev gW (d : Nat) (p : Program) (l : Launch) (e : Env) (s : State) (m : MethodId) (args : Array Value) (below : List Frame) (meth : Method) (c : Code) (D : va_G) (dA : Nat → ClassId) (Z : Nat) (α : Nat → Nat → Nat) (rv : Option Value) (σz : sm_M) (H : Heap) (locs : List Loc) (g : JFrame) : Prop :=
  W p l e (rmD d) s m args below meth c H locs 0 0 (MQ below (sm_Qc D dA Z α rv σz) args s 0 0 (Ad Z α)) g
section SMC
variable {p : Program} {l : Launch} {e : Env} {R : Room} {s : State} {m : MethodId} {args : Array Value} {below : List Frame} {meth : Method} {c : Code} {H : Heap} {locs : List Loc} {cells slots : Nat} {Q : State → Prop}
variable {cc : ByteArray} {pc nL d Z : Nat} {ls : Array Slot} {rest : List Value} {D : va_G} {dA : Nat → ClassId} {α : Nat → Nat → Nat} {H0 : Heap} {σ σ' σz : sm_M} {ret : Option FieldType} {own nm : String}
theorem g_iret (G : gx p s m meth c args cc nL (some .int) own nm D dA) (hW : Wd D dA Z α s.heap σ H locs) {v r : Int32} (hF : some (v, σ) = some (r, σz)) (hdg : decode cc pc = .ok (.ireturn, 1)) : gW d p l e s m args below meth c D dA Z α (some (.int r)) σz H locs (F0 m pc ls [.int v]) := by
  obtain ⟨hx, hb, hr, hlk, hml, hown, hnm, hts, hK, hNw⟩ := G
  cases hF
  exact W.iret hx hb hr (fun t ht _ => ⟨rfl, by rw [ht]; exact hW.1, fun q hq => by rw [ht]; exact hW.2.1 q hq⟩) hW.2.2.1 hdg (hlocks := hlk)
theorem g_zret (G : gx p s m meth c args cc nL (some .boolean) own nm D dA) (hW : Wd D dA Z α s.heap σ H locs) {v r : Int32} (hF : (if v = 0 ∨ v = 1 then some (v, σ) else none) = some (r, σz)) (hdg : decode cc pc = .ok (.ireturn, 1)) : gW d p l e s m args below meth c D dA Z α (some (.int r)) σz H locs (F0 m pc ls [.int v]) := by
  obtain ⟨hx, hb, hr, hlk, hml, hown, hnm, hts, hK, hNw⟩ := G
  obtain ⟨hz, hF⟩ := o_i hF
  cases hF
  exact W.zret hx hb hr (by rcases hz with rfl | rfl <;> rfl) (fun t ht _ => ⟨rfl, by rw [ht]; exact hW.1, fun q hq => by rw [ht]; exact hW.2.1 q hq⟩) hW.2.2.1 hdg (hlocks := hlk)
theorem g_vret (G : gx p s m meth c args cc nL none own nm D dA) (hW : Wd D dA Z α s.heap σ H locs) (hF : some σ = some σz) (hdg : decode cc pc = .ok (.return_, 1)) : gW d p l e s m args below meth c D dA Z α none σz H locs (F0 m pc ls []) := by
  obtain ⟨hx, hb, hr, hlk, hml, hown, hnm, hts, hK, hNw⟩ := G
  cases hF
  exact W.vret hx hb hr (fun t ht _ => ⟨rfl, by rw [ht]; exact hW.1, fun q hq => by rw [ht]; exact hW.2.1 q hq⟩) hW.2.2.1 hdg (hlocks := hlk)
theorem g_call {st0 : List Value} {av : Array Value} {r : Option Value} (hr : va_Run p l e R s m args below meth c H locs cells slots 0 0 (F0 m pc ls st0) rest (sm_Qc D dA Z α r σ' av) (Ad Z α)) (hW : Wd D dA Z α H0 σ H locs)
    (kk : ∀ (H1 : Heap) (locs1 : List Loc), Wd D dA Z α H0 σ' H1 locs1 → W p l e R s m args below meth c H1 locs1 cells slots Q (F0 m (pc + 3) ls (r.toList ++ rest))) : W p l e R s m args below meth c H locs cells slots Q (F0 m pc ls st0) := by
  intro T hT X
  obtain ⟨v, st₀, t, T', L, h0, X', hL, e1, e2, ⟨hv, hRep, hk⟩, st⟩ := hr T hT X
  cases hv
  obtain ⟨t2, a1, b1⟩ := kk T'.heap (locs ++ L) ⟨by rw [e1]; exact hRep, fun q hq => by rw [e1, hk q hq, h0]; exact hW.2.1 q hq, fun x hx => by
    rcases List.mem_append.mp hx with g | g
    · exact hW.2.2.1 x g
    · exact hL x g, hW.2.2.2⟩ T' rfl X'
  exact ⟨t2, st t2 a1, b1⟩
variable {y : MethodName} {bytes : ByteArray} {maxL n index b dc : Nat} {rt : Option FieldType} {As st0 : List Value} {rv : Option Value}
theorem g_good {w0 : Cond} (h0 : w0 ∈ wsL_law ∧ ((w0.onTables && w0.keeps) = true)) : GoodIn wsL_law (w0 :: wsL_law) := by
  intro w hw
  rcases List.mem_cons.mp hw with rfl | h
  · exact ⟨h0.1, Or.inl h0.2⟩
  · exact ⟨h, wsL_good w h⟩
abbrev g_dk (y : MethodName) (n : Nat) : Prop := y.cls ≠ "java/lang/invoke/MethodHandle" ∧ y.cls ≠ "java/lang/invoke/VarHandle" ∧ (parseMethodDescriptor y.desc).map (fun d => d.parameters.length) = some n
theorem g_dk_n (hd : g_dk y n) : ∀ sig, parseMethodDescriptor y.desc = some sig → n = sig.parameters.length := fun sig h => by
  have h2 := hd.2.2
  rw [h] at h2
  exact (Option.some.inj h2).symm
theorem g_cV (G : gx p s m meth c args cc nL ret own nm D dA) (hM : gM l D dA Z α y bytes maxL rt dc (.ref b :: As) σ rv σ') (hw : Cond.methodLink own index y ∈ wsL_law ∧ Cond.instanceMethod y ∈ wsL_law ∧ Cond.selects y.cls y y ∈ wsL_law ∧ Cond.initialized y.cls ∈ wsL_law ∧ Cond.code y bytes maxL rt ∈ wsL_law) (hd : g_dk y n) (hW : Wd D dA Z α H0 σ H locs)
    (hrec : ∃ cell : Cell, H[b]? = some cell ∧ cell.vm.isStatics = false ∧ s.vm.findClass y.cls = some cell.cls) (hR : dc + 1 ≤ R.frames ∧ 8 + (maxL + 11) + 44 * dc ≤ R.locals) (hf : cells ≤ R.cells ∧ slots ≤ R.slots) (hn : As.length = n) (hls : ls.size = nL) (hst : st0 = As.reverse ++ .ref b :: rest) (hcat : (rest.map fun v => v.category).sum ≤ 8) (hdg : decode cc pc = .ok (.invokevirtual index, 3))
    (kk : ∀ (H1 : Heap) (locs1 : List Loc), Wd D dA Z α H0 σ' H1 locs1 → W p l e R s m args below meth c H1 locs1 cells slots Q (F0 m (pc + 3) ls (rv.toList ++ rest))) : W p l e R s m args below meth c H locs cells slots Q (F0 m pc ls st0) := by
  obtain ⟨hx, hb, hr, hlk, hml, hown, hnm, hts, hK, hNw⟩ := G
  obtain ⟨w1, w2, w3, w4, w5⟩ := hw
  subst hst
  exact g_call (va_runV (As := As) (rest := rest) (C := y.cls) (n := n) ⟨hx, hb, hml, hown, hts⟩ hM ⟨⟨rfl, rfl, hR.1, hR.2, pay_in hts (g_good ⟨w5, rfl⟩), List.mem_cons_self, hts _ w5, hts _ w4, ⟨hd.1, hd.2.1⟩, g_dk_n hd, hts _ w1⟩, hts _ w2, hts _ w3⟩ ⟨sm_blind, hrec, fun U hU hWm => ⟨rfl, by rw [hU]; exact hW.1, va_K.moved hWm.alike hK, nW.warm hWm hNw⟩⟩ rfl hn hls rfl (lv_room hcat) hdg hf) hW kk
theorem g_cS (G : gx p s m meth c args cc nL ret own nm D dA) (hM : gM l D dA Z α y bytes maxL rt dc As σ rv σ') (hw : Cond.methodLink own index y ∈ wsL_law ∧ Cond.static y ∈ wsL_law ∧ Cond.initialized y.cls ∈ wsL_law ∧ Cond.code y bytes maxL rt ∈ wsL_law) (hd : g_dk y n) (hW : Wd D dA Z α H0 σ H locs)
    (hR : dc + 1 ≤ R.frames ∧ 8 + (maxL + 11) + 44 * dc ≤ R.locals) (hf : cells ≤ R.cells ∧ slots ≤ R.slots) (hn : As.length = n) (hls : ls.size = nL) (hst : st0 = As.reverse ++ rest) (hcat : (rest.map fun v => v.category).sum ≤ 8) (hdg : decode cc pc = .ok (.invokestatic index, 3))
    (kk : ∀ (H1 : Heap) (locs1 : List Loc), Wd D dA Z α H0 σ' H1 locs1 → W p l e R s m args below meth c H1 locs1 cells slots Q (F0 m (pc + 3) ls (rv.toList ++ rest))) : W p l e R s m args below meth c H locs cells slots Q (F0 m pc ls st0) := by
  obtain ⟨hx, hb, hr, hlk, hml, hown, hnm, hts, hK, hNw⟩ := G
  obtain ⟨w1, w2, w4, w5⟩ := hw
  subst hst
  exact g_call (va_runS (As := As) (rest := rest) (n := n) ⟨hx, hb, hml, hown, hts⟩ hM ⟨⟨rfl, rfl, hR.1, hR.2, pay_in hts (g_good ⟨w5, rfl⟩), List.mem_cons_self, hts _ w5, hts _ w4, ⟨hd.1, hd.2.1⟩, g_dk_n hd, hts _ w1⟩, hts _ w2⟩ ⟨sm_blind, fun U hU hWm => ⟨rfl, by rw [hU]; exact hW.1, va_K.moved hWm.alike hK, nW.warm hWm hNw⟩⟩ rfl hn hls rfl (lv_room hcat) hdg hf) hW kk
theorem g_cN {host : String} (G : gx p s m meth c args cc nL ret own nm D dA) (hM : gM l D dA Z α y bytes maxL rt dc As σ rv σ') (hw : va_Nw (.methodLinkNest own index y host) s ∧ Cond.static y ∈ wsL_law ∧ Cond.initialized y.cls ∈ wsL_law ∧ Cond.code y bytes maxL rt ∈ wsL_law) (hd : g_dk y n) (hW : Wd D dA Z α H0 σ H locs)
    (hR : dc + 1 ≤ R.frames ∧ 8 + (maxL + 11) + 44 * dc ≤ R.locals) (hf : cells ≤ R.cells ∧ slots ≤ R.slots) (hn : As.length = n) (hls : ls.size = nL) (hst : st0 = As.reverse ++ rest) (hcat : (rest.map fun v => v.category).sum ≤ 8) (hdg : decode cc pc = .ok (.invokestatic index, 3))
    (kk : ∀ (H1 : Heap) (locs1 : List Loc), Wd D dA Z α H0 σ' H1 locs1 → W p l e R s m args below meth c H1 locs1 cells slots Q (F0 m (pc + 3) ls (rv.toList ++ rest))) : W p l e R s m args below meth c H locs cells slots Q (F0 m pc ls st0) := by
  obtain ⟨hx, hb, hr, hlk, hml, hown, hnm, hts, hK, hNw⟩ := G
  obtain ⟨w1, w2, w4, w5⟩ := hw
  subst hst
  exact g_call (va_runSN (As := As) (rest := rest) (n := n) ⟨hx, hb, hml, hown, hts⟩ hM ⟨va_cnB n hts (g_good ⟨w5, rfl⟩) rfl rfl rfl w1 (hts _ w4) hd hR, hts _ w2, trivial⟩ ⟨sm_blind, fun U hU hWm => ⟨rfl, by rw [hU]; exact hW.1, va_K.moved hWm.alike hK, nW.warm hWm hNw⟩⟩ rfl hn hls rfl (lv_room hcat) hdg hf) hW kk
theorem g_max (G : gx p s m meth c args cc nL ret own nm D dA) (hls : ls.size = nL) (hm : Cond.methodLink own index Lib.Math.max.name ∈ wsL_law) (h1 : 1 ≤ R.frames) (h2 : (rest.map fun v => v.category).sum + 13 ≤ R.locals) (hc : cells ≤ R.cells) (hs : slots ≤ R.slots) {x y : Int32} (hdg : decode cc pc = .ok (.invokestatic index, 3))
    (kk : W p l e R s m args below meth c H locs cells slots Q (F0 m (pc + 3) ls (.int (if x < y then y else x) :: rest))) : W p l e R s m args below meth c H locs cells slots Q (F0 m pc ls (.int y :: .int x :: rest)) := by
  obtain ⟨hx, hb, hr, hlk, hml, hown, hnm, hts, hK, hNw⟩ := G
  exact va_mmax hx hb (hml.trans hls.symm) hown (hts _ hm) (hts _ mw_max.1) (hts _ mw_ini) (hts _ mw_max.2) h1 h2 hc hs hdg kk
theorem g_min (G : gx p s m meth c args cc nL ret own nm D dA) (hls : ls.size = nL) (hm : Cond.methodLink own index Lib.Math.min.name ∈ wsL_law) (h1 : 1 ≤ R.frames) (h2 : (rest.map fun v => v.category).sum + 13 ≤ R.locals) (hc : cells ≤ R.cells) (hs : slots ≤ R.slots) {x y : Int32} (hdg : decode cc pc = .ok (.invokestatic index, 3))
    (kk : W p l e R s m args below meth c H locs cells slots Q (F0 m (pc + 3) ls (.int (if y < x then y else x) :: rest))) : W p l e R s m args below meth c H locs cells slots Q (F0 m pc ls (.int y :: .int x :: rest)) := by
  obtain ⟨hx, hb, hr, hlk, hml, hown, hnm, hts, hK, hNw⟩ := G
  exact va_mmin hx hb (hml.trans hls.symm) hown (hts _ hm) (hts _ mw_min.1) (hts _ mw_ini) (hts _ mw_min.2) h1 h2 hc hs hdg kk
end SMC
/-- a method's contract out of its walk -/
theorem g_met {l : Launch} {D : va_G} {dA : Nat → ClassId} {Z d : Nat} {α : Nat → Nat → Nat} {y : MethodName} {cc : ByteArray} {maxL : Nat} {ret : Option FieldType} {av : List Value} {σ σz : sm_M} {rv : Option Value} (hI : Inj Z α) (hy : plainName y.cls = true) (hle : (lg_sl av).length ≤ maxL)
    (body : ∀ (p : Program) (e : Env) (s : State) (m : MethodId) (below : List Frame) (meth : Method) (c : Code) (ls : Array Slot), gx p s m meth c av.toArray cc maxL ret y.cls y.name D dA → Wd D dA Z α s.heap σ s.heap [] → lv_has ls maxL (lv_args 0 av) → gW d p l e s m av.toArray below meth c D dA Z α rv σz s.heap [] (F0 m 0 ls [])) :
    gM l D dA Z α y cc maxL ret d av σ rv σz := by
  refine Met.ofW (cc := cc) (maxL := maxL) (ret := ret) hy rfl ?_
  intro p e s m args below meth c s₁ B hml hv
  obtain ⟨rfl, hR, hK, hNw⟩ := hv
  have hts := atoms_spec (ws := Cond.code y cc maxL ret :: wsL_law) B.pre
  have hl := lv_entry av (n := maxL) hle
  rw [lg_entry_eq]
  exact body p e s m below meth c _ ⟨B.exec, B.bytes, B.returns, B.notSynchronized, hml, findClass_of_methodNamed B.named, (name_of_methodNamed B.named B.method).1, fun w hw => hts w (List.mem_cons_of_mem _ hw), hK, hNw⟩ ⟨hR, fun _ _ => rfl, (fun x hx => by cases hx), hI⟩ hl

