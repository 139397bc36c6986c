theorem wa_int : Cond.arrayClass .int ∈ wsL_law := wr_2 _ (List.mem_of_getElem? (i := 17) rfl)
theorem wa_bool : Cond.arrayClass .boolean ∈ wsL_law := wr_2 _ (List.mem_of_getElem? (i := 0) rfl)
theorem wo_inst : Cond.instanceMethod objectInit ∈ wsL_law := wr_1 _ (List.mem_of_getElem? (i := 10) rfl)
theorem wo_code : Cond.code objectInit ⟨#[0xb1]⟩ 1 none ∈ wsL_law := wr_1 _ (List.mem_of_getElem? (i := 11) rfl)
theorem wx_0 : Cond.methodLink RX4 3 objectInit ∈ wsL_law := wr_2 _ (List.mem_of_getElem? (i := 16) rfl)
theorem wx_1 : Cond.fieldLink RX4 9 "RegionRestarts$Task" "outRows" "[I" ∈ wsL_law := wr_2 _ (List.mem_of_getElem? (i := 18) rfl)
theorem wx_2 : Cond.fieldLink RX4 15 "RegionRestarts$Task" "asideNumbers" "[I" ∈ wsL_law := wr_2 _ (List.mem_of_getElem? (i := 19) rfl)
theorem wx_3 : Cond.methodLink RX1 3 objectInit ∈ wsL_law := wr_2 _ (List.mem_of_getElem? (i := 22) rfl)
theorem wx_4 : Cond.fieldLink RX1 9 "RegionRestarts$Channel" "rows" "[I" ∈ wsL_law := wr_2 _ (List.mem_of_getElem? (i := 23) rfl)
theorem wx_5 : Cond.methodLink RX3 3 objectInit ∈ wsL_law := wr_3 _ (List.mem_of_getElem? (i := 2) rfl)
theorem wx_6 : Cond.fieldLink RX3 9 "RegionRestarts$Plan" "values" "[I" ∈ wsL_law := wr_3 _ (List.mem_of_getElem? (i := 3) rfl)
theorem wx_7 : Cond.fieldLink RX3 15 "RegionRestarts$Plan" "channels" "[I" ∈ wsL_law := wr_3 _ (List.mem_of_getElem? (i := 4) rfl)
theorem wx_8 : Cond.methodLink RX0 3 objectInit ∈ wsL_law := wr_3 _ (List.mem_of_getElem? (i := 7) rfl)
theorem wx_9 : Cond.fieldLink RX0 9 "RegionRestarts$Causes" "tasks" "[I" ∈ wsL_law := wr_3 _ (List.mem_of_getElem? (i := 8) rfl)
theorem wx_10 : Cond.fieldLink RX0 15 "RegionRestarts$Causes" "times" "[I" ∈ wsL_law := wr_3 _ (List.mem_of_getElem? (i := 9) rfl)
theorem wx_11 : Cond.fieldLink RX0 18 "RegionRestarts$Causes" "kinds" "[I" ∈ wsL_law := wr_3 _ (List.mem_of_getElem? (i := 10) rfl)
theorem wx_12 : Cond.methodLink RX6 1 objectInit ∈ wsL_law := wr_4 _ (List.mem_of_getElem? (i := 6) rfl)
theorem wx_13 : Cond.fieldLink RX6 7 "RegionRestartsModel" "sort" "[I" ∈ wsL_law := wr_4 _ (List.mem_of_getElem? (i := 7) rfl)
theorem wx_14 : Cond.fieldLink RX6 13 "RegionRestartsModel" "number" "[I" ∈ wsL_law := wr_4 _ (List.mem_of_getElem? (i := 8) rfl)
theorem wx_15 : Cond.fieldLink RX6 16 "RegionRestartsModel" "node" "[I" ∈ wsL_law := wr_4 _ (List.mem_of_getElem? (i := 9) rfl)
theorem wx_16 : Cond.fieldLink RX6 19 "RegionRestartsModel" "place" "[I" ∈ wsL_law := wr_4 _ (List.mem_of_getElem? (i := 10) rfl)
theorem wx_17 : Cond.fieldLink RX6 22 "RegionRestartsModel" "sum" "[I" ∈ wsL_law := wr_4 _ (List.mem_of_getElem? (i := 11) rfl)
theorem wx_18 : Cond.fieldLink RX6 25 "RegionRestartsModel" "outs" "[I" ∈ wsL_law := wr_4 _ (List.mem_of_getElem? (i := 12) rfl)
theorem wx_19 : Cond.fieldLink RX6 28 "RegionRestartsModel" "out" "[I" ∈ wsL_law := wr_4 _ (List.mem_of_getElem? (i := 13) rfl)
theorem wx_20 : Cond.fieldLink RX6 31 "RegionRestartsModel" "poisons" "[I" ∈ wsL_law := wr_4 _ (List.mem_of_getElem? (i := 14) rfl)
theorem wx_21 : Cond.fieldLink RX6 34 "RegionRestartsModel" "width" "[I" ∈ wsL_law := wr_4 _ (List.mem_of_getElem? (i := 15) rfl)
theorem wx_22 : Cond.fieldLink RX6 37 "RegionRestartsModel" "fails" "[I" ∈ wsL_law := wr_4 _ (List.mem_of_getElem? (i := 16) rfl)
theorem wx_23 : Cond.fieldLink RX6 40 "RegionRestartsModel" "until" "[I" ∈ wsL_law := wr_4 _ (List.mem_of_getElem? (i := 17) rfl)
theorem wx_24 : Cond.fieldLink RX6 43 "RegionRestartsModel" "asides" "[I" ∈ wsL_law := wr_4 _ (List.mem_of_getElem? (i := 18) rfl)
theorem wx_25 : Cond.fieldLink RX6 46 "RegionRestartsModel" "asideRow" "[I" ∈ wsL_law := wr_4 _ (List.mem_of_getElem? (i := 19) rfl)
theorem wx_26 : Cond.fieldLink RX6 49 "RegionRestartsModel" "from" "[I" ∈ wsL_law := wr_4 _ (List.mem_of_getElem? (i := 20) rfl)
theorem wx_27 : Cond.fieldLink RX6 52 "RegionRestartsModel" "to" "[I" ∈ wsL_law := wr_4 _ (List.mem_of_getElem? (i := 21) rfl)
theorem wx_28 : Cond.fieldLink RX6 55 "RegionRestartsModel" "kept" "[Z" ∈ wsL_law := wr_4 _ (List.mem_of_getElem? (i := 22) rfl)
theorem wx_29 : Cond.fieldLink RX6 59 "RegionRestartsModel" "rows" "[I" ∈ wsL_law := wr_4 _ (List.mem_of_getElem? (i := 23) rfl)
theorem wx_30 : Cond.fieldLink RX6 62 "RegionRestartsModel" "has" "[I" ∈ wsL_law := wr_5 _ (List.mem_of_getElem? (i := 0) rfl)
theorem wx_31 : Cond.fieldLink RX6 65 "RegionRestartsModel" "gave" "[I" ∈ wsL_law := wr_5 _ (List.mem_of_getElem? (i := 1) rfl)
theorem wx_32 : Cond.fieldLink RX6 68 "RegionRestartsModel" "took" "[I" ∈ wsL_law := wr_5 _ (List.mem_of_getElem? (i := 2) rfl)
theorem wx_33 : Cond.fieldLink RX6 71 "RegionRestartsModel" "seen" "[I" ∈ wsL_law := wr_5 _ (List.mem_of_getElem? (i := 3) rfl)
theorem wx_34 : Cond.fieldLink RX6 74 "RegionRestartsModel" "lost" "[Z" ∈ wsL_law := wr_5 _ (List.mem_of_getElem? (i := 4) rfl)
theorem wx_35 : Cond.fieldLink RX6 77 "RegionRestartsModel" "lostTo" "[I" ∈ wsL_law := wr_5 _ (List.mem_of_getElem? (i := 5) rfl)
theorem wx_36 : Cond.fieldLink RX6 80 "RegionRestartsModel" "markPlace" "[I" ∈ wsL_law := wr_5 _ (List.mem_of_getElem? (i := 6) rfl)
theorem wx_37 : Cond.fieldLink RX6 83 "RegionRestartsModel" "markSum" "[I" ∈ wsL_law := wr_5 _ (List.mem_of_getElem? (i := 7) rfl)
theorem wx_38 : Cond.fieldLink RX6 86 "RegionRestartsModel" "markOuts" "[I" ∈ wsL_law := wr_5 _ (List.mem_of_getElem? (i := 8) rfl)
theorem wx_39 : Cond.fieldLink RX6 89 "RegionRestartsModel" "markHas" "[I" ∈ wsL_law := wr_5 _ (List.mem_of_getElem? (i := 9) rfl)
theorem wx_40 : Cond.fieldLink RX6 92 "RegionRestartsModel" "markGave" "[I" ∈ wsL_law := wr_5 _ (List.mem_of_getElem? (i := 10) rfl)
theorem wx_41 : Cond.fieldLink RX6 95 "RegionRestartsModel" "markTook" "[I" ∈ wsL_law := wr_5 _ (List.mem_of_getElem? (i := 11) rfl)
theorem wx_42 : Cond.fieldLink RX6 98 "RegionRestartsModel" "isGone" "[Z" ∈ wsL_law := wr_5 _ (List.mem_of_getElem? (i := 12) rfl)
theorem wx_43 : Cond.fieldLink RX6 101 "RegionRestartsModel" "causeTask" "[I" ∈ wsL_law := wr_5 _ (List.mem_of_getElem? (i := 13) rfl)
theorem wx_44 : Cond.fieldLink RX6 104 "RegionRestartsModel" "causeTime" "[I" ∈ wsL_law := wr_5 _ (List.mem_of_getElem? (i := 14) rfl)
theorem wx_45 : Cond.fieldLink RX6 107 "RegionRestartsModel" "causeWhy" "[I" ∈ wsL_law := wr_5 _ (List.mem_of_getElem? (i := 15) rfl)
theorem wx_46 : Cond.fieldLink RX6 110 "RegionRestartsModel" "doneNow" "[Z" ∈ wsL_law := wr_5 _ (List.mem_of_getElem? (i := 16) rfl)
theorem wx_47 : Cond.fieldLink RX6 113 "RegionRestartsModel" "oldHas" "[I" ∈ wsL_law := wr_5 _ (List.mem_of_getElem? (i := 17) rfl)
theorem wx_48 : Cond.fieldLink RX6 116 "RegionRestartsModel" "oldGave" "[I" ∈ wsL_law := wr_5 _ (List.mem_of_getElem? (i := 18) rfl)
theorem wx_49 : Cond.fieldLink RX6 119 "RegionRestartsModel" "oldTook" "[I" ∈ wsL_law := wr_5 _ (List.mem_of_getElem? (i := 19) rfl)
theorem wx_50 : Cond.fieldLink RX6 122 "RegionRestartsModel" "region" "[Z" ∈ wsL_law := wr_5 _ (List.mem_of_getElem? (i := 20) rfl)
theorem wx_51 : Cond.fieldLink RX6 125 "RegionRestartsModel" "unsteady" "[Z" ∈ wsL_law := wr_5 _ (List.mem_of_getElem? (i := 21) rfl)
/-! ===== making: rows over single cells ===== -/
def aO (U : State) : Prop := va_AO RX4 U ∧ va_AO RX1 U
section CTR
variable {p : Program} {l : Launch} {e : Env} {R : Room} {s : State} {m : MethodId} {args : Array Value} {below : List Frame} {meth : Method} {c : Code} {H : Heap} {locs : List Loc} {cells slots : Nat} {Q : State → Prop}
variable {cc : ByteArray} {pc nL Z a n : Nat} {ls : Array Slot} {rest : List Value} {D : va_G} {dA : Nat → ClassId} {α : Nat → Nat → Nat} {σ σ' : sm_M} {ret : Option FieldType} {own nm : String}
theorem x_new (G : gx p s m meth c args cc nL ret own nm D dA) {C : String} {T : u_T} {N ci index : Nat} (hin : ∀ w ∈ u_ws C T N, w ∈ wsL_law) (ty : Nat → FieldType) (hty : ∀ k, k < N → parseFieldDescriptor (T k).2.2.1 = some (ty k)) (hc : classes[ci]? = some (C, T, N)) (hw : Cond.classLink own index C ∈ wsL_law ∧ Cond.instantiable C N ∈ wsL_law ∧ Cond.initialized C ∈ wsL_law) (hz : H.size = n) (hcells : cells + 1 ≤ R.cells) (hslots : slots + N ≤ R.slots) (hdg : decode cc pc = .ok (.new index, 3))
    (kk : ∀ H1 : Heap, H1.size = n + 1 → (∀ q, q < n → H1[q]? = H[q]?) → t_OB n (D.1 ci) N (D.2 ci) H1 (fun k => defaultValue (ty k)) → W p l e R s m args below meth c H1 locs (cells + 1) (slots + N) Q (F0 m (pc + 3) ls (.ref n :: rest))) : W p l e R s m args below meth c H locs cells slots Q (F0 m pc ls rest) := by
  obtain ⟨hx, hb, hr, hlk, hml, hown, hnm, hts, hK, hNw⟩ := G
  have hKn := hK.1 ci _ hc
  exact W.newcK hx hb hown (hts _ hw.1) (hts _ hw.2.1) (hts _ hw.2.2) rfl hdg hcells hslots hKn.2.1 hz fun H1 kC hkC e1 z1 o1 => kk H1 z1 o1 (u_born ty hts hin hKn hkC e1 hty)
theorem x_newI (G : gx p s m meth c args cc nL ret own nm D dA) {x : Int32} {N : Nat} (hn : ¬ x < 0) (hN : x.toNatClampNeg = N) (hbytes : N * componentBytes .int ≤ 536870912) (hz : H.size = n) (hcells : cells + 1 ≤ R.cells) (hslots : slots + N ≤ R.slots) (hdg : decode cc pc = .ok (.newarray .int, 2))
    (kk : ∀ H1 : Heap, H1.size = n + 1 → (∀ q, q < n → H1[q]? = H[q]?) → H1[n]? = some (arrV (dA 0) N (fun _ => .int 0)) → W p l e R s m args below meth c H1 locs (cells + 1) (slots + N) Q (F0 m (pc + 2) ls (.ref n :: rest))) : W p l e R s m args below meth c H locs cells slots Q (F0 m pc ls (.int x :: rest)) := by
  obtain ⟨hx, hb, hr, hlk, hml, hown, hnm, hts, hK, hNw⟩ := G
  refine va_newaK (atype := .int) hx hb (hts _ wa_int) rfl hdg rfl hn hN hbytes hcells hslots hz fun H1 cA e1 z o _ hf => ?_
  have h2 : s.vm.findClass ("[" ++ FieldType.int.toString) = some (dA 0) := (hK.2 0 _ (mm_tys_at (by decide))).2
  have h3 : cA = dA 0 := Option.some.inj (hf.symm.trans h2)
  subst h3
  exact kk H1 z o e1
theorem x_newZ (G : gx p s m meth c args cc nL ret own nm D dA) {x : Int32} {N : Nat} (hn : ¬ x < 0) (hN : x.toNatClampNeg = N) (hbytes : N * componentBytes .boolean ≤ 536870912) (hz : H.size = n) (hcells : cells + 1 ≤ R.cells) (hslots : slots + N ≤ R.slots) (hdg : decode cc pc = .ok (.newarray .boolean, 2))
    (kk : ∀ H1 : Heap, H1.size = n + 1 → (∀ q, q < n → H1[q]? = H[q]?) → H1[n]? = some (arrV (dA 1) N (fun _ => .int 0)) → W p l e R s m args below meth c H1 locs (cells + 1) (slots + N) Q (F0 m (pc + 2) ls (.ref n :: rest))) : W p l e R s m args below meth c H locs cells slots Q (F0 m pc ls (.int x :: rest)) := by
  obtain ⟨hx, hb, hr, hlk, hml, hown, hnm, hts, hK, hNw⟩ := G
  refine va_newaK (atype := .boolean) hx hb (hts _ wa_bool) rfl hdg rfl hn hN hbytes hcells hslots hz fun H1 cA e1 z o _ hf => ?_
  have h2 : s.vm.findClass ("[" ++ FieldType.boolean.toString) = some (dA 1) := (hK.2 1 _ (mm_tys_at (by decide))).2
  have h3 : cA = dA 1 := Option.some.inj (hf.symm.trans h2)
  subst h3
  exact kk H1 z o e1
theorem x_anew (G : gx p s m meth c args cc nL ret own nm D dA) {C : String} {index t : Nat} (ht : t < nAt) (hty : aty t = .object C) (hao : va_AO C s) (hcl : Cond.classLink own index C ∈ wsL_law) {x : Int32} {N : Nat} (hn : ¬ x < 0) (hN : x.toNatClampNeg = N) (hbytes : N * 4 ≤ 536870912) (hz : H.size = n) (hcells : cells + 1 ≤ R.cells) (hslots : slots + N ≤ R.slots) (hdg : decode cc pc = .ok (.anewarray index, 3))
    (kk : ∀ H1 : Heap, H1.size = n + 1 → (∀ q, q < n → H1[q]? = H[q]?) → H1[n]? = some (arrV (dA t) N (fun _ => .null)) → W p l e R s m args below meth c H1 locs (cells + 1) (slots + N) Q (F0 m (pc + 3) ls (.ref n :: rest))) : W p l e R s m args below meth c H locs cells slots Q (F0 m pc ls (.int x :: rest)) := by
  obtain ⟨hx, hb, hr, hlk, hml, hown, hnm, hts, hK, hNw⟩ := G
  subst hN
  subst hz
  refine W.anew hx hb hown (hts _ hcl) (va_AO.use hao) rfl hdg rfl hn hbytes hcells hslots fun cA kA comp h1 h2 h3 h4 => ?_
  have h5 := (hK.2 t _ (mm_tys_at ht)).2
  simp only [hty] at h5
  obtain ⟨kA', comp', -, -, -, h6⟩ := h5
  have h7 : cA = dA t := Option.some.inj (h1.symm.trans h6)
  subst h7
  refine kk _ (by simp) (fun q hq => by rw [Array.getElem?_push, if_neg (Nat.ne_of_lt hq)]) ?_
  rw [← arrV_new]; simp
theorem x_putF (G : gx p s m meth c args cc nL ret own "<init>" D dA) {C : String} {T : u_T} {N ci index : Nat} (hin : ∀ w ∈ u_ws C T N, w ∈ wsL_law) (ty0 : Nat → FieldType) (hty : ∀ k, k < N → parseFieldDescriptor (T k).2.2.1 = some (ty0 k)) (hnm : ∀ a, a < N → ∀ b, b < N → a ≠ b → (T a).2.1 ≠ (T b).2.1) (hc : classes[ci]? = some (C, T, N)) (k : Nat) (hk : k < N) (hlink : Cond.fieldLink own index own (T k).2.1 (T k).2.2.1 ∈ wsL_law) (hdecl : (T k).1 = own) (hfin : (T k).2.2.2 = true) {ty : FieldType} {v : Value} (hd : parseFieldDescriptor (T k).2.2.1 = some ty) (hn : narrow ty v = v) (hfit : fits ty v = true) {V : Nat → Value} (hob : t_OB a (D.1 ci) N (D.2 ci) H V)
    (hdg : decode cc pc = .ok (.putfield index, 3)) (kk : ∀ (H1 : Heap) (i : Nat), H1.size = H.size → (∀ q, q ≠ a → H1[q]? = H[q]?) → t_OB a (D.1 ci) N (D.2 ci) H1 (updV V k v) → W p l e R s m args below meth c H1 (locs ++ [⟨a, i⟩]) cells slots Q (F0 m (pc + 3) ls rest)) : W p l e R s m args below meth c H locs cells slots Q (F0 m pc ls (v :: .ref a :: rest)) := by
  obtain ⟨hx, hb, hr, hlk, hml, hown, hnm0, hts, hK, hNw⟩ := G
  have hap := va_apart (own := own) hts hin ty0 hty hnm hK hc
  obtain ⟨cell, q1, q2, q3, q4⟩ := hob
  obtain ⟨hSl, hfc, kC, hkC, hkind⟩ := hK.1 _ _ hc
  obtain ⟨cf, kf, fi, f, hi, hsl⟩ := hSl k hk
  have hlay := hts _ (hin _ (u_in_lay hk))
  unfold u_lay at hlay
  rw [if_pos hfin] at hlay
  have hst := (u_facts hfc hkC (u_lays hts hin hk) hi).1
  have hcf : m.cls = cf := by
    obtain ⟨_, _, c', _, _, _, -, -, hf', -, -, -, hown2, -⟩ := Cond.laysFinal_spec hlay
    have e1 : c' = cf := by have := hi.symm.trans hf'; simp at this; exact this.1.symm
    rw [hdecl] at hown2
    rw [← e1]; exact Option.some.inj (hown.symm.trans hown2)
  have h6 := u_fits hfc hkC hkind (Or.inr hlay) hi hd hn hfit
  refine W.putFinK hx hb hown (hts _ hlink) (by rw [← hdecl]; exact hi) hst hcf hnm0 (by rw [q2]; exact h6) q1 q3 (by rw [hsl]; exact k2_hasslot (q4 k hk)) rfl rfl hdg fun H' e1 e2 e3 => ?_
  rw [hsl] at e1
  exact kk H' _ e2 e3 ⟨_, e1, q2, q3, t_set q4 hap hk v⟩
theorem x_get (G : gx p s m meth c args cc nL ret own nm D dA) {ref C : String} {T : u_T} {N ci index : Nat} (hin : ∀ w ∈ u_ws C T N, w ∈ wsL_law) (hc : classes[ci]? = some (C, T, N)) (k : Nat) (hk : k < N) (hlink : Cond.fieldLink own index ref (T k).2.1 (T k).2.2.1 ∈ wsL_law) (href : (T k).1 = ref) {V : Nat → Value} (hob : t_OB a (D.1 ci) N (D.2 ci) H V) {v : Value} (hv : V k = v) (hdg : decode cc pc = .ok (.getfield index, 3))
    (kk : W p l e R s m args below meth c H locs cells slots Q (F0 m (pc + 3) ls (v :: rest))) : W p l e R s m args below meth c H locs cells slots Q (F0 m pc ls (.ref a :: rest)) := by
  obtain ⟨hx, hb, hr, hlk, hml, hown, hnm, hts, hK, hNw⟩ := G
  obtain ⟨cell, q1, q2, q3, q4⟩ := hob
  obtain ⟨hSl, hfc, kC, hkC, hkind⟩ := hK.1 _ _ hc
  obtain ⟨cf, kf, fi, f, hi, hsl⟩ := hSl k hk
  refine W.getf hx hb hown (hts _ hlink) (by rw [← href]; exact hi) (u_facts hfc hkC (u_lays hts hin hk) hi).1 q1 (by rw [q3]; exact fun h => by cases h) (v := v) ?_ rfl rfl hdg kk
  rw [hsl, q4 k hk]; exact congrArg some hv
theorem x_aast (G : gx p s m meth c args cc nL ret own nm D dA) {C : String} {T : u_T} {N ci t L v : Nat} (ht : t < nAt) (hty : aty t = .object C) (hc : classes[ci]? = some (C, T, N)) {f : Nat → Value} (ha : H[a]? = some (arrV (dA t) L f)) {V : Nat → Value} (hob : t_OB v (D.1 ci) N (D.2 ci) H V) {x : Int32} (h0 : ¬ x < 0) (hlt : x.toNatClampNeg < L) (hdg : decode cc pc = .ok (.aastore, 1))
    (kk : ∀ H1 : Heap, H1.size = H.size → (∀ q, q ≠ a → H1[q]? = H[q]?) → H1[a]? = some (arrV (dA t) L (updV f x.toNatClampNeg (.ref v))) → W p l e R s m args below meth c H1 (locs ++ [⟨a, x.toNatClampNeg⟩]) cells slots Q (F0 m (pc + 1) ls rest)) : W p l e R s m args below meth c H locs cells slots Q (F0 m pc ls (.ref v :: .int x :: .ref a :: rest)) := by
  obtain ⟨hx, hb, hr, hlk, hml, hown, hnm, hts, hK, hNw⟩ := G
  obtain ⟨cellV, g1, g2, g3, -⟩ := hob
  have hcls := (hK.1 ci _ hc).2
  have h5 := (hK.2 t _ (mm_tys_at ht)).2
  simp only [hty] at h5
  obtain ⟨kA, comp, k1, k2, k3, -⟩ := h5
  have hcomp : comp = D.1 ci := Option.some.inj (k3.symm.trans hcls.1)
  subst hcomp
  obtain ⟨kC, hkC, -⟩ := hcls.2
  refine W.aast hx hb ha (fun q h => by cases h) (fun h => by cases h) k1 k2 rfl hkC ⟨h0, by rw [arrV_size]; exact hlt⟩ g1 (fun q h => by rw [g3] at h; cases h) (by rw [g2]; exact hkC) (by rw [g2]; exact va_assign hcls) rfl rfl hdg fun H1 e z oq => ?_
  exact kk H1 z oq (by rw [e, arrV_store])
theorem x_obj (G : gx p s m meth c args cc nL ret own nm D dA) {index : Nat} (hw : Cond.methodLink own index objectInit ∈ wsL_law) (hls : ls.size = nL) (hR : 1 ≤ R.frames ∧ 20 ≤ R.locals) (hdg : decode cc pc = .ok (.invokespecial index, 3)) (kk : W p l e R s m args below meth c H locs cells slots Q (F0 m (pc + 3) ls [])) : W p l e R s m args below meth c H locs cells slots Q (F0 m pc ls [.ref a]) := by
  obtain ⟨hx, hb, hr, hlk, hml, hown, hnm, hts, hK, hNw⟩ := G
  exact W.objInit hx hb hown (hts _ hw) (hts _ wo_inst) (hts _ wo_code) rfl (by rw [hml]; exact hls) rfl hdg hR.1 (Nat.le_trans (by show 2 * 0 + 0 + 12 ≤ 20; decide) hR.2) kk
/-! contracts of makers -/
def xP (D : va_G) (dA : Nat → ClassId) (a n ci N : Nat) : Array Value → State → Prop := fun v U => v = [Value.ref a].toArray ∧ U.heap.size = n ∧ a < n ∧ t_OB a (D.1 ci) N (D.2 ci) U.heap (fun k => defaultValue (cty ci k)) ∧ va_K D classes (mm_tys dA) U ∧ nW U ∧ aO U
def xQ (post : Heap → Prop) (a n : Nat) : Array Value → State → Outcome → State → Prop := fun _ st o t => o = .returned none ∧ post t.heap ∧ ∀ q : Nat, q < n → q ≠ a → t.heap[q]? = st.heap[q]?
theorem xP_blind {ci N : Nat} : FrameBlind (xP D dA a n ci N) := fun b U g mk h => ⟨h.1, h.2.1, h.2.2.1, h.2.2.2.1, va_K.moved (u := U) (U := U.calling g mk b) (Vm.Alike.refl U.vm) h.2.2.2.2.1, nW.same rfl h.2.2.2.2.2.1, va_AO.moved (u := U) (U := U.calling g mk b) (Vm.Alike.refl U.vm) h.2.2.2.2.2.2.1, va_AO.moved (u := U) (U := U.calling g mk b) (Vm.Alike.refl U.vm) h.2.2.2.2.2.2.2⟩
abbrev xM (l : Launch) (D : va_G) (dA : Nat → ClassId) (y : MethodName) (bytes : ByteArray) (maxL : Nat) (rm : Room) (a n ci N : Nat) (post : Heap → Prop) : Prop := Met l y (Cond.code y bytes maxL none :: wsL_law) rm (xP D dA a n ci N) (xQ post a n) rm.cells rm.slots (fun q => q = a ∨ n ≤ q)
theorem x_run {st0 : List Value} {av : Array Value} {post : Heap → Prop} {mc ms : Nat} (hr : va_Run p l e R s m args below meth c H locs cells slots mc ms (F0 m pc ls st0) rest (xQ post a n av) (fun q => q = a ∨ n ≤ q))
    (kk : ∀ (H1 : Heap) (L : List Loc), post H1 → (∀ q : Nat, q < n → q ≠ a → H1[q]? = H[q]?) → (∀ x ∈ L, x.base = a ∨ n ≤ x.base) → W p l e R s m args below meth c H1 (locs ++ L) (cells + mc) (slots + ms) Q (F0 m (pc + 3) ls rest)) : W p l e R s m args below meth c H locs cells slots Q (F0 m pc ls st0) := by
  intro T hT X
  obtain ⟨v, st₀, t, T', L, h0, X', hL, e1, e2, ⟨hv, hP, hk⟩, st⟩ := hr T hT X
  cases hv
  obtain ⟨t2, a1, b1⟩ := kk T'.heap L (by rw [e1]; exact hP) (fun q h1 h2 => by rw [e1, hk q h1 h2, h0]) hL T' rfl X'
  exact ⟨t2, st t2 a1, b1⟩
variable {y : MethodName} {bytes : ByteArray} {maxL index ci N : Nat} {rm : Room} {post : Heap → Prop}
theorem x_cI (G : gx p s m meth c args cc nL ret own nm D dA) (hao : aO s) (hM : xM l D dA y bytes maxL rm a n ci N post) (hw : Cond.methodLink own index y ∈ wsL_law ∧ Cond.instanceMethod y ∈ wsL_law ∧ Cond.initialized y.cls ∈ wsL_law ∧ Cond.code y bytes maxL none ∈ wsL_law) (hd : g_dk y 0) (hy : y.name = "<init>") (hz : H.size = n) (han : a < n) (hob : t_OB a (D.1 ci) N (D.2 ci) H (fun k => defaultValue (cty ci k)))
    (hR : rm.frames + 1 ≤ R.frames ∧ 8 + (maxL + 11) + rm.locals ≤ R.locals) (hf : cells + rm.cells ≤ R.cells ∧ slots + rm.slots ≤ R.slots) (hls : ls.size = nL) (hcat : (rest.map fun v => v.category).sum ≤ 8) (hdg : decode cc pc = .ok (.invokespecial index, 3))
    (kk : ∀ (H1 : Heap) (L : List Loc), post H1 → (∀ q : Nat, q < n → q ≠ a → H1[q]? = H[q]?) → (∀ x ∈ L, x.base = a ∨ n ≤ x.base) → W p l e R s m args below meth c H1 (locs ++ L) (cells + rm.cells) (slots + rm.slots) Q (F0 m (pc + 3) ls rest)) : W p l e R s m args below meth c H locs cells slots Q (F0 m pc ls (.ref a :: rest)) := by
  obtain ⟨hx, hb, hr, hlk, hml, hown, hnm, hts, hK, hNw⟩ := G
  obtain ⟨w1, w2, w4, w5⟩ := hw
  exact x_run (va_runI (As := []) (rest := rest) (n := 0) ⟨hx, hb, hml, hown, hts⟩ hM ⟨⟨rfl, rfl, hR.1, hR.2, pay_in hts (g_good ⟨w5, rfl⟩), List.mem_cons_self, hts _ w5, hts _ w4, ⟨hd.1, hd.2.1⟩, g_dk_n hd, hts _ w1⟩, hy, hts _ w2⟩ ⟨xP_blind, fun U hU hWm => ⟨rfl, by rw [hU]; exact hz, han, by rw [hU]; exact hob, va_K.moved hWm.alike hK, nW.warm hWm hNw, va_AO.moved hWm.alike hao.1, va_AO.moved hWm.alike hao.2⟩⟩ rfl rfl hls rfl (lv_room hcat) hdg hf) kk
theorem x_cN {host : String} (G : gx p s m meth c args cc nL ret own nm D dA) (hao : aO s) (hM : xM l D dA y bytes maxL rm a n ci N post) (hw : va_Nw (.methodLinkNest own index y host) s ∧ Cond.instanceMethod y ∈ wsL_law ∧ Cond.initialized y.cls ∈ wsL_law ∧ Cond.code y bytes maxL none ∈ wsL_law) (hd : g_dk y 0) (hy : y.name = "<init>") (hz : H.size = n) (han : a < n) (hob : t_OB a (D.1 ci) N (D.2 ci) H (fun k => defaultValue (cty ci k)))
    (hR : rm.frames + 1 ≤ R.frames ∧ 8 + (maxL + 11) + rm.locals ≤ R.locals) (hf : cells + rm.cells ≤ R.cells ∧ slots + rm.slots ≤ R.slots) (hls : ls.size = nL) (hcat : (rest.map fun v => v.category).sum ≤ 8) (hdg : decode cc pc = .ok (.invokespecial index, 3))
    (kk : ∀ (H1 : Heap) (L : List Loc), post H1 → (∀ q : Nat, q < n → q ≠ a → H1[q]? = H[q]?) → (∀ x ∈ L, x.base = a ∨ n ≤ x.base) → W p l e R s m args below meth c H1 (locs ++ L) (cells + rm.cells) (slots + rm.slots) Q (F0 m (pc + 3) ls rest)) : W p l e R s m args below meth c H locs cells slots Q (F0 m pc ls (.ref a :: rest)) := by
  obtain ⟨hx, hb, hr, hlk, hml, hown, hnm, hts, hK, hNw⟩ := G
  obtain ⟨w1, w2, w4, w5⟩ := hw
  exact x_run (va_runIN (As := []) (rest := rest) (n := 0) ⟨hx, hb, hml, hown, hts⟩ hM ⟨va_cnB 0 hts (g_good ⟨w5, rfl⟩) rfl rfl rfl w1 (hts _ w4) hd hR, hy, hts _ w2⟩ ⟨xP_blind, fun U hU hWm => ⟨rfl, by rw [hU]; exact hz, han, by rw [hU]; exact hob, va_K.moved hWm.alike hK, nW.warm hWm hNw, va_AO.moved hWm.alike hao.1, va_AO.moved hWm.alike hao.2⟩⟩ rfl rfl hls rfl (lv_room hcat) hdg hf) kk
/-- a maker's contract out of its walk -/
theorem x_met (hy : plainName y.cls = true) (hle : 1 ≤ maxL)
    (body : ∀ (p : Program) (e : Env) (s : State) (m : MethodId) (below : List Frame) (meth : Method) (c : Code) (ls : Array Slot), gx p s m meth c [Value.ref a].toArray bytes maxL none y.cls y.name D dA → aO s → s.heap.size = n → a < n → t_OB a (D.1 ci) N (D.2 ci) s.heap (fun k => defaultValue (cty ci k)) → lv_has ls maxL [(0, .ref a)] → W p l e rm s m [Value.ref a].toArray below meth c s.heap [] 0 0 (MQ below (xQ post a n) [Value.ref a].toArray s rm.cells rm.slots (fun q => q = a ∨ n ≤ q)) (F0 m 0 ls [])) :
    xM l D dA y bytes maxL rm a n ci N post := by
  refine Met.ofW (cc := bytes) (maxL := maxL) (ret := none) hy rfl ?_
  intro p e s m args below meth c s₁ B hml hv
  obtain ⟨rfl, hz, han, hob, hK, hNw, hao⟩ := hv
  have hts := atoms_spec (ws := Cond.code y bytes maxL none :: wsL_law) B.pre
  have hl := lv_entry [Value.ref a] (n := maxL) hle
  rw [lg_entry_eq]
  exact body p e s m below meth c _ ⟨B.exec, B.bytes, B.returns, B.notSynchronized, hml, findClass_of_methodNamed B.named, (name_of_methodNamed B.named B.method).1, fun w hw => hts w (List.mem_cons_of_mem _ hw), hK, hNw⟩ hao hz han hob hl
theorem x_ret (G : gx p s m meth c args cc nL none own nm D dA) {mc ms : Nat} (hP : post H) (ho : ∀ q : Nat, q < n → q ≠ a → H[q]? = s.heap[q]?) (hL : ∀ x ∈ locs, x.base = a ∨ n ≤ x.base) (hdg : decode cc pc = .ok (.return_, 1)) : W p l e R s m args below meth c H locs mc ms (MQ below (xQ post a n) args s mc ms (fun q => q = a ∨ n ≤ q)) (F0 m pc ls []) := by
  obtain ⟨hx, hb, hr, hlk, hml, hown, hnm, hts, hK, hNw⟩ := G
  exact W.vret hx hb hr (fun t ht _ => ⟨rfl, by rw [ht]; exact hP, fun q h1 h2 => by rw [ht]; exact ho q h1 h2⟩) hL hdg (hlocks := hlk)
/-! the world of a maker that makes rows of numbers: As: (type, length) of the rows so far -/
def xW (D : va_G) (dA : Nat → ClassId) (ci N a n : Nat) (V : Nat → Value) (As : List (Nat × Nat)) (H0 H : Heap) (locs : List Loc) : Prop :=
  H.size = n + As.length ∧ a < n ∧ t_OB a (D.1 ci) N (D.2 ci) H V ∧ (∀ (j : Nat) (q : Nat × Nat), As[j]? = some q → H[n + j]? = some (arrV (dA q.1) q.2 (fun _ => .int 0))) ∧ (∀ q : Nat, q < n → q ≠ a → H[q]? = H0[q]?) ∧ (∀ x ∈ locs, x.base = a ∨ n ≤ x.base)
theorem xW.step {V : Nat → Value} {As : List (Nat × Nat)} {H0 H1 H2 : Heap} {t L k i : Nat} {v : Value} (h : xW D dA ci N a n V As H0 H locs) (z1 : H1.size = n + As.length + 1) (o1 : ∀ q, q < n + As.length → H1[q]? = H[q]?) (r1 : H1[n + As.length]? = some (arrV (dA t) L (fun _ => .int 0))) (z2 : H2.size = H1.size) (o2 : ∀ q, q ≠ a → H2[q]? = H1[q]?) (r2 : t_OB a (D.1 ci) N (D.2 ci) H2 (updV V k v)) : xW D dA ci N a n (updV V k v) (As ++ [(t, L)]) H0 H2 (locs ++ [⟨a, i⟩]) := by
  obtain ⟨h1, h2, h3, h4, h5, h6⟩ := h
  refine ⟨by rw [z2, z1]; simp [Nat.add_assoc], h2, r2, fun j q hq => ?_, fun q g1 g2 => ?_, fun x hx => ?_⟩
  · rw [o2 _ (by omega)]
    by_cases hj : j < As.length
    · rw [List.getElem?_append_left hj] at hq
      rw [o1 _ (by omega)]; exact h4 j q hq
    · rw [List.getElem?_append_right (by omega)] at hq
      have : j - As.length = 0 := by
        rcases Nat.eq_zero_or_pos (j - As.length) with g | g
        · exact g
        · rw [List.getElem?_eq_none (by simp; omega)] at hq; cases hq
      rw [this] at hq
      simp at hq
      subst hq
      have hj2 : j = As.length := by omega
      subst hj2
      exact r1
  · rw [o2 q g2, o1 q (by omega)]; exact h5 q g1 g2
  · rcases List.mem_append.mp hx with g | g
    · exact h6 x g
    · rw [List.mem_singleton.mp g]; exact Or.inl rfl
theorem x_arI (G : gx p s m meth c args cc nL ret own "<init>" D dA) {C : String} {T : u_T} {index : Nat} (hin : ∀ w ∈ u_ws C T N, w ∈ wsL_law) (ty0 : Nat → FieldType) (hty : ∀ k, k < N → parseFieldDescriptor (T k).2.2.1 = some (ty0 k)) (hnm : ∀ a, a < N → ∀ b, b < N → a ≠ b → (T a).2.1 ≠ (T b).2.1) (hc : classes[ci]? = some (C, T, N)) (k : Nat) (hk : k < N) (hlink : Cond.fieldLink own index own (T k).2.1 (T k).2.2.1 ∈ wsL_law) (hdecl : (T k).1 = own) (hfin : (T k).2.2.2 = true) (hd : parseFieldDescriptor (T k).2.2.1 = some (.array .int)) {x : Int32} (L : Nat) (hn : ¬ x < 0) (hL : x.toNatClampNeg = L) (hb2 : L * componentBytes .int ≤ 536870912) {V : Nat → Value} {As : List (Nat × Nat)} {H0 : Heap} (hX : xW D dA ci N a n V As H0 H locs) (hcells : cells + 1 ≤ R.cells) (hslots : slots + L ≤ R.slots) (hd1 : decode cc pc = .ok (.newarray .int, 2)) (hd2 : decode cc (pc + 2) = .ok (.putfield index, 3))
    (kk : ∀ (H1 : Heap) (locs1 : List Loc), xW D dA ci N a n (updV V k (.ref (n + As.length))) (As ++ [(0, L)]) H0 H1 locs1 → W p l e R s m args below meth c H1 locs1 (cells + 1) (slots + L) Q (F0 m (pc + 5) ls rest)) : W p l e R s m args below meth c H locs cells slots Q (F0 m pc ls (.int x :: .ref a :: rest)) := by
  refine x_newI G hn hL hb2 hX.1 hcells hslots hd1 (fun H1 z1 o1 r1 => ?_)
  have ho : t_OB a (D.1 ci) N (D.2 ci) H1 V := hX.2.2.1.kept (o1 a (by have := hX.2.1; omega))
  exact x_putF G hin ty0 hty hnm hc k hk hlink hdecl hfin hd rfl rfl ho hd2 (fun H2 i z2 o2 r2 => kk H2 _ (hX.step z1 o1 r1 z2 o2 r2))
theorem x_arZ (G : gx p s m meth c args cc nL ret own "<init>" D dA) {C : String} {T : u_T} {index : Nat} (hin : ∀ w ∈ u_ws C T N, w ∈ wsL_law) (ty0 : Nat → FieldType) (hty : ∀ k, k < N → parseFieldDescriptor (T k).2.2.1 = some (ty0 k)) (hnm : ∀ a, a < N → ∀ b, b < N → a ≠ b → (T a).2.1 ≠ (T b).2.1) (hc : classes[ci]? = some (C, T, N)) (k : Nat) (hk : k < N) (hlink : Cond.fieldLink own index own (T k).2.1 (T k).2.2.1 ∈ wsL_law) (hdecl : (T k).1 = own) (hfin : (T k).2.2.2 = true) (hd : parseFieldDescriptor (T k).2.2.1 = some (.array .boolean)) {x : Int32} (L : Nat) (hn : ¬ x < 0) (hL : x.toNatClampNeg = L) (hb2 : L * componentBytes .boolean ≤ 536870912) {V : Nat → Value} {As : List (Nat × Nat)} {H0 : Heap} (hX : xW D dA ci N a n V As H0 H locs) (hcells : cells + 1 ≤ R.cells) (hslots : slots + L ≤ R.slots) (hd1 : decode cc pc = .ok (.newarray .boolean, 2)) (hd2 : decode cc (pc + 2) = .ok (.putfield index, 3))
    (kk : ∀ (H1 : Heap) (locs1 : List Loc), xW D dA ci N a n (updV V k (.ref (n + As.length))) (As ++ [(1, L)]) H0 H1 locs1 → W p l e R s m args below meth c H1 locs1 (cells + 1) (slots + L) Q (F0 m (pc + 5) ls rest)) : W p l e R s m args below meth c H locs cells slots Q (F0 m pc ls (.int x :: .ref a :: rest)) := by
  refine x_newZ G hn hL hb2 hX.1 hcells hslots hd1 (fun H1 z1 o1 r1 => ?_)
  have ho : t_OB a (D.1 ci) N (D.2 ci) H1 V := hX.2.2.1.kept (o1 a (by have := hX.2.1; omega))
  exact x_putF G hin ty0 hty hnm hc k hk hlink hdecl hfin hd rfl rfl ho hd2 (fun H2 i z2 o2 r2 => kk H2 _ (hX.step z1 o1 r1 z2 o2 r2))
end CTR
section CT2
variable {p : Program} {l : Launch} {e : Env} {R : Room} {s : State} {m : MethodId} {args : Array Value} {below : List Frame} {meth : Method} {c : Code} {H : Heap} {locs : List Loc} {cells slots : Nat} {Q : State → Prop}
variable {cc : ByteArray} {pc nL Z a n b : Nat} {ls : Array Slot} {rest : List Value} {D : va_G} {dA : Nat → ClassId} {α : Nat → Nat → Nat} {σ σ' : sm_M} {ret : Option FieldType} {own nm : String}
variable {y : MethodName} {bytes : ByteArray} {maxL index dc : Nat} {rt : Option FieldType} {As st0 : List Value} {rv : Option Value}
/-- a call of a method of system Z where more than the system has been written -/
theorem g_cR {k : Nat} (G : gx p s m meth c args cc nL ret own nm D dA) (hM : gM l D dA Z α y bytes maxL rt dc (.ref b :: As) σ rv σ') (hw : Cond.methodLink own index y ∈ wsL_law ∧ Cond.instanceMethod y ∈ wsL_law ∧ Cond.selects y.cls y y ∈ wsL_law ∧ Cond.initialized y.cls ∈ wsL_law ∧ Cond.code y bytes maxL rt ∈ wsL_law) (hd : g_dk y k) (hRep : Rep D dA Z α σ H)
    (hrec : ∃ cell : Cell, H[b]? = some cell ∧ cell.vm.isStatics = false ∧ s.vm.findClass y.cls = some cell.cls) (hR : dc + 1 ≤ R.frames ∧ 8 + (maxL + 11) + 44 * dc ≤ R.locals) (hf : cells ≤ R.cells ∧ slots ≤ R.slots) (hn : As.length = k) (hls : ls.size = nL) (hst : st0 = As.reverse ++ .ref b :: rest) (hcat : (rest.map fun v => v.category).sum ≤ 8) (hdg : decode cc pc = .ok (.invokevirtual index, 3))
    (kk : ∀ (H1 : Heap) (L : List Loc), Rep D dA Z α σ' H1 → (∀ q : Nat, ¬ Ad Z α q → H1[q]? = H[q]?) → (∀ x ∈ L, Ad Z α x.base) → W p l e R s m args below meth c H1 (locs ++ L) cells slots Q (F0 m (pc + 3) ls (rv.toList ++ rest))) : W p l e R s m args below meth c H locs cells slots Q (F0 m pc ls st0) := by
  obtain ⟨hx, hb, hr, hlk, hml, hown, hnm, hts, hK, hNw⟩ := G
  obtain ⟨w1, w2, w3, w4, w5⟩ := hw
  subst hst
  have hrun := va_runV (l := l) (As := As) (rest := rest) (C := y.cls) (n := k) (e := e) (below := below) (meth := meth) (locs := locs) (cells := cells) (slots := slots) (g := F0 m pc ls (As.reverse ++ .ref b :: rest)) ⟨hx, hb, hml, hown, hts⟩ hM ⟨⟨rfl, rfl, hR.1, hR.2, pay_in hts (g_good ⟨w5, rfl⟩), List.mem_cons_self, hts _ w5, hts _ w4, ⟨hd.1, hd.2.1⟩, g_dk_n hd, hts _ w1⟩, hts _ w2, hts _ w3⟩ ⟨sm_blind, hrec, fun U hU hWm => ⟨rfl, by rw [hU]; exact hRep, va_K.moved hWm.alike hK, nW.warm hWm hNw⟩⟩ rfl hn hls rfl (lv_room hcat) hdg hf
  intro T hT X
  obtain ⟨v, st₀, t, T', L, h0, X', hL, e1, e2, ⟨hv, hRep2, hk⟩, st⟩ := hrun T hT X
  cases hv
  obtain ⟨t2, a1, b1⟩ := kk T'.heap L (by rw [e1]; exact hRep2) (fun q hq => by rw [e1, hk q hq, h0]) hL T' rfl X'
  exact ⟨t2, st t2 a1, b1⟩
end CT2
theorem arrV_to {cI : ClassId} {N : Nat} {f g : Nat → Value} (h : ∀ j, j < N → f j = g j) : arrV cI N f = arrV cI N g := by
  unfold arrV
  congr 1
  exact congrArg _ (funext fun j => h j.val j.isLt)
theorem i32_le {t u : Nat} (ht : t < 2147483648) (hu : u < 2147483648) : Int32.ofNat t ≤ Int32.ofNat u ↔ t ≤ u := by
  rw [Int32.le_iff_toInt_le, Int32.toInt_ofNat_of_lt (by omega), Int32.toInt_ofNat_of_lt (by omega)]; omega
theorem i32_inc (t : Nat) : Int32.ofNat t + 1 = Int32.ofNat (t + 1) := by
  rw [Int32.ofNat_add]; rfl
def xA (D : va_G) (dA : Nat → ClassId) (ci N a n : Nat) (V : Nat → Value) (As : List (Nat × Nat)) (H : Heap) : Prop :=
  H.size = n + As.length ∧ t_OB a (D.1 ci) N (D.2 ci) H V ∧ (∀ (j : Nat) (q : Nat × Nat), As[j]? = some q → H[n + j]? = some (arrV (dA q.1) q.2 (fun _ => .int 0)))
theorem xW.post {D : va_G} {dA : Nat → ClassId} {ci N a n : Nat} {V : Nat → Value} {As : List (Nat × Nat)} {H0 H : Heap} {locs : List Loc} (h : xW D dA ci N a n V As H0 H locs) : xA D dA ci N a n V As H := ⟨h.1, h.2.2.1, h.2.2.2.1⟩
theorem xW.start {D : va_G} {dA : Nat → ClassId} {ci N a n : Nat} {V : Nat → Value} {H : Heap} (hz : H.size = n) (han : a < n) (hob : t_OB a (D.1 ci) N (D.2 ci) H V) : xW D dA ci N a n V [] H H [] := ⟨hz, han, hob, fun j q h => by simp at h, fun _ _ _ => rfl, fun x h => by cases h⟩
abbrev dV (ci : Nat) : Nat → Value := fun k => defaultValue (cty ci k)
/-! a task, a channel, as made at o -/
def tP (D : va_G) (dA : Nat → ClassId) (o : Nat) (H : Heap) : Prop := t_OB o (D.1 4) 17 (D.2 4) H (updV (updV (dV 4) 0 (.ref (o + 1))) 1 (.ref (o + 2))) ∧ H[o + 1]? = some (arrV (dA 0) 200 (fun _ => .int 0)) ∧ H[o + 2]? = some (arrV (dA 0) 8 (fun _ => .int 0))
def cP (D : va_G) (dA : Nat → ClassId) (o : Nat) (H : Heap) : Prop := t_OB o (D.1 1) 12 (D.2 1) H (updV (dV 1) 0 (.ref (o + 1))) ∧ H[o + 1]? = some (arrV (dA 0) 64 (fun _ => .int 0))
theorem tP.kept {D : va_G} {dA : Nat → ClassId} {o : Nat} {H H1 : Heap} (h : tP D dA o H) (k : ∀ q, o ≤ q → q ≤ o + 2 → H1[q]? = H[q]?) : tP D dA o H1 := ⟨h.1.kept (k o (by omega) (by omega)), by rw [k _ (by omega) (by omega)]; exact h.2.1, by rw [k _ (by omega) (by omega)]; exact h.2.2⟩
theorem cP.kept {D : va_G} {dA : Nat → ClassId} {o : Nat} {H H1 : Heap} (h : cP D dA o H) (k : ∀ q, o ≤ q → q ≤ o + 1 → H1[q]? = H[q]?) : cP D dA o H1 := ⟨h.1.kept (k o (by omega) (by omega)), by rw [k _ (by omega) (by omega)]; exact h.2⟩
/-- the graph, with t tasks and k channels made -/
def gP (D : va_G) (dA : Nat → ClassId) (a n t k : Nat) (H : Heap) : Prop :=
  H.size = n + 2 + 3 * t + 2 * k ∧ t_OB a (D.1 2) 4 (D.2 2) H (updV (updV (dV 2) 0 (.ref n)) 1 (.ref (n + 1))) ∧ H[n]? = some (arrV (dA 2) 16 (fun j => if j < t then .ref (n + 2 + 3 * j) else .null)) ∧ H[n + 1]? = some (arrV (dA 3) 40 (fun j => if j < k then .ref (n + 50 + 2 * j) else .null)) ∧
  (∀ j, j < t → tP D dA (n + 2 + 3 * j) H) ∧ (∀ j, j < k → cP D dA (n + 50 + 2 * j) H)
set_option maxHeartbeats 4000000 in
set_option maxRecDepth 100000 in
theorem c_X4_init {l : Launch} {D : va_G} {dA : Nat → ClassId} {a n : Nat} : xM l D dA yX4_init cX4_init 1 { frames := 1, cells := 2, slots := 208, locals := 44 } a n 4 17 (xA D dA 4 17 a n (updV (updV (dV 4) 0 (.ref (n + 0))) 1 (.ref (n + 1))) [(0, 200), (0, 8)]) := by
  refine x_met (by decide +kernel) (by decide) (fun p e s m below meth c ls G hao hz han hob hl => ?_)
  obtain ⟨hx, hb, hr, hlk, hml, hown, hnm, hts, hK, hNw⟩ := id G
  have hX := xW.start (dA := dA) hz han hob
  refine lv_aload_n hx hb dX4_init_0 rfl (lv_at hl 0 rfl) ?_
  refine x_obj G wx_0 hl.1 ⟨Nat.le_of_ble_eq_true rfl, Nat.le_of_ble_eq_true rfl⟩ dX4_init_1 ?_
  refine lv_aload_n hx hb dX4_init_4 rfl (lv_at hl 0 rfl) ?_
  refine lv_sipush (v := 200) hx hb dX4_init_5 (by decide) ?_
  refine x_arI G inlX4 tyX4 tyX4_ok nmX4 (ci := 4) rfl 0 (by decide) wx_1 rfl rfl (by decide +kernel) 200 (by decide) rfl (by decide) hX (Nat.le_of_ble_eq_true rfl) (Nat.le_of_ble_eq_true rfl) dX4_init_8 dX4_init_10 (fun H locs hX => ?_)
  refine lv_aload_n hx hb dX4_init_13 rfl (lv_at hl 0 rfl) ?_
  refine lv_bipush (v := 8) hx hb dX4_init_14 (by decide) ?_
  refine x_arI G inlX4 tyX4 tyX4_ok nmX4 (ci := 4) rfl 1 (by decide) wx_2 rfl rfl (by decide +kernel) 8 (by decide) rfl (by decide) hX (Nat.le_of_ble_eq_true rfl) (Nat.le_of_ble_eq_true rfl) dX4_init_16 dX4_init_18 (fun H locs hX => ?_)
  exact x_ret G hX.post hX.2.2.2.2.1 hX.2.2.2.2.2 dX4_init_21
set_option maxHeartbeats 4000000 in
set_option maxRecDepth 100000 in
theorem c_X1_init {l : Launch} {D : va_G} {dA : Nat → ClassId} {a n : Nat} : xM l D dA yX1_init cX1_init 1 { frames := 1, cells := 1, slots := 64, locals := 44 } a n 1 12 (xA D dA 1 12 a n (updV (dV 1) 0 (.ref (n + 0))) [(0, 64)]) := by
  refine x_met (by decide +kernel) (by decide) (fun p e s m below meth c ls G hao hz han hob hl => ?_)
  obtain ⟨hx, hb, hr, hlk, hml, hown, hnm, hts, hK, hNw⟩ := id G
  have hX := xW.start (dA := dA) hz han hob
  refine lv_aload_n hx hb dX1_init_0 rfl (lv_at hl 0 rfl) ?_
  refine x_obj G wx_3 hl.1 ⟨Nat.le_of_ble_eq_true rfl, Nat.le_of_ble_eq_true rfl⟩ dX1_init_1 ?_
  refine lv_aload_n hx hb dX1_init_4 rfl (lv_at hl 0 rfl) ?_
  refine lv_bipush (v := 64) hx hb dX1_init_5 (by decide) ?_
  refine x_arI G inlX1 tyX1 tyX1_ok nmX1 (ci := 1) rfl 0 (by decide) wx_4 rfl rfl (by decide +kernel) 64 (by decide) rfl (by decide) hX (Nat.le_of_ble_eq_true rfl) (Nat.le_of_ble_eq_true rfl) dX1_init_7 dX1_init_9 (fun H locs hX => ?_)
  exact x_ret G hX.post hX.2.2.2.2.1 hX.2.2.2.2.2 dX1_init_12
set_option maxHeartbeats 4000000 in
set_option maxRecDepth 100000 in
theorem c_X3_init {l : Launch} {D : va_G} {dA : Nat → ClassId} {a n : Nat} : xM l D dA yX3_init cX3_init 1 { frames := 1, cells := 2, slots := 16, locals := 44 } a n 3 5 (xA D dA 3 5 a n (updV (updV (dV 3) 0 (.ref (n + 0))) 1 (.ref (n + 1))) [(0, 8), (0, 8)]) := by
  refine x_met (by decide +kernel) (by decide) (fun p e s m below meth c ls G hao hz han hob hl => ?_)
  obtain ⟨hx, hb, hr, hlk, hml, hown, hnm, hts, hK, hNw⟩ := id G
  have hX := xW.start (dA := dA) hz han hob
  refine lv_aload_n hx hb dX3_init_0 rfl (lv_at hl 0 rfl) ?_
  refine x_obj G wx_5 hl.1 ⟨Nat.le_of_ble_eq_true rfl, Nat.le_of_ble_eq_true rfl⟩ dX3_init_1 ?_
  refine lv_aload_n hx hb dX3_init_4 rfl (lv_at hl 0 rfl) ?_
  refine lv_bipush (v := 8) hx hb dX3_init_5 (by decide) ?_
  refine x_arI G inlX3 tyX3 tyX3_ok nmX3 (ci := 3) rfl 0 (by decide) wx_6 rfl rfl (by decide +kernel) 8 (by decide) rfl (by decide) hX (Nat.le_of_ble_eq_true rfl) (Nat.le_of_ble_eq_true rfl) dX3_init_7 dX3_init_9 (fun H locs hX => ?_)
  refine lv_aload_n hx hb dX3_init_12 rfl (lv_at hl 0 rfl) ?_
  refine lv_bipush (v := 8) hx hb dX3_init_13 (by decide) ?_
  refine x_arI G inlX3 tyX3 tyX3_ok nmX3 (ci := 3) rfl 1 (by decide) wx_7 rfl rfl (by decide +kernel) 8 (by decide) rfl (by decide) hX (Nat.le_of_ble_eq_true rfl) (Nat.le_of_ble_eq_true rfl) dX3_init_15 dX3_init_17 (fun H locs hX => ?_)
  exact x_ret G hX.post hX.2.2.2.2.1 hX.2.2.2.2.2 dX3_init_20
set_option maxHeartbeats 4000000 in
set_option maxRecDepth 100000 in
theorem c_X0_init {l : Launch} {D : va_G} {dA : Nat → ClassId} {a n : Nat} : xM l D dA yX0_init cX0_init 1 { frames := 1, cells := 3, slots := 192, locals := 44 } a n 0 4 (xA D dA 0 4 a n (updV (updV (updV (dV 0) 0 (.ref (n + 0))) 1 (.ref (n + 1))) 2 (.ref (n + 2))) [(0, 64), (0, 64), (0, 64)]) := by
  refine x_met (by decide +kernel) (by decide) (fun p e s m below meth c ls G hao hz han hob hl => ?_)
  obtain ⟨hx, hb, hr, hlk, hml, hown, hnm, hts, hK, hNw⟩ := id G
  have hX := xW.start (dA := dA) hz han hob
  refine lv_aload_n hx hb dX0_init_0 rfl (lv_at hl 0 rfl) ?_
  refine x_obj G wx_8 hl.1 ⟨Nat.le_of_ble_eq_true rfl, Nat.le_of_ble_eq_true rfl⟩ dX0_init_1 ?_
  refine lv_aload_n hx hb dX0_init_4 rfl (lv_at hl 0 rfl) ?_
  refine lv_bipush (v := 64) hx hb dX0_init_5 (by decide) ?_
  refine x_arI G inlX0 tyX0 tyX0_ok nmX0 (ci := 0) rfl 0 (by decide) wx_9 rfl rfl (by decide +kernel) 64 (by decide) rfl (by decide) hX (Nat.le_of_ble_eq_true rfl) (Nat.le_of_ble_eq_true rfl) dX0_init_7 dX0_init_9 (fun H locs hX => ?_)
  refine lv_aload_n hx hb dX0_init_12 rfl (lv_at hl 0 rfl) ?_
  refine lv_bipush (v := 64) hx hb dX0_init_13 (by decide) ?_
  refine x_arI G inlX0 tyX0 tyX0_ok nmX0 (ci := 0) rfl 1 (by decide) wx_10 rfl rfl (by decide +kernel) 64 (by decide) rfl (by decide) hX (Nat.le_of_ble_eq_true rfl) (Nat.le_of_ble_eq_true rfl) dX0_init_15 dX0_init_17 (fun H locs hX => ?_)
  refine lv_aload_n hx hb dX0_init_20 rfl (lv_at hl 0 rfl) ?_
  refine lv_bipush (v := 64) hx hb dX0_init_21 (by decide) ?_
  refine x_arI G inlX0 tyX0 tyX0_ok nmX0 (ci := 0) rfl 2 (by decide) wx_11 rfl rfl (by decide +kernel) 64 (by decide) rfl (by decide) hX (Nat.le_of_ble_eq_true rfl) (Nat.le_of_ble_eq_true rfl) dX0_init_23 dX0_init_25 (fun H locs hX => ?_)
  exact x_ret G hX.post hX.2.2.2.2.1 hX.2.2.2.2.2 dX0_init_28
