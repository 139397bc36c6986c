/-! ===== a memory of fixed shape: families of cells. fS: which system; fK: 1 objects, 2 arrays; fC: number of the class, or of the array's type; fL: length of an array; fN: members; fP: where a reference leads (family, member); classes, cty, aty, nAt: printed with the names ===== -/
abbrev sm_M : Type := (Nat → Nat → Nat → Int32) × (Nat → Nat → Nat → Int64)
def sm_up {α : Type} (f : Nat → Nat → Nat → α) (φ i k : Nat) (v : α) : Nat → Nat → Nat → α := fun ψ j n => if ψ = φ ∧ j = i ∧ n = k then v else f ψ j n
def wI (σ : sm_M) (φ i k : Nat) (v : Int32) : sm_M := (sm_up σ.1 φ i k v, σ.2)
def wJ (σ : sm_M) (φ i k : Nat) (v : Int64) : sm_M := (σ.1, sm_up σ.2 φ i k v)
/-- the value of a place, by its type -/
def sm_v (ty : FieldType) (α : Nat → Nat → Nat) (σ : sm_M) (φ i k : Nat) : Value := match ty with
  | .long => .long (σ.2 φ i k)
  | .object _ => .ref (α (fP φ i k).1 (fP φ i k).2)
  | .array _ => .ref (α (fP φ i k).1 (fP φ i k).2)
  | _ => .int (σ.1 φ i k)
theorem sm_v_I {α : Nat → Nat → Nat} {σ : sm_M} {φ i k ψ j n : Nat} {x : Int32} (ty : FieldType) (h : ¬ (ψ = φ ∧ j = i ∧ n = k)) : sm_v ty α (wI σ φ i k x) ψ j n = sm_v ty α σ ψ j n := by
  cases ty <;> simp [sm_v, wI, sm_up, h]
theorem sm_v_J {α : Nat → Nat → Nat} {σ : sm_M} {φ i k ψ j n : Nat} {x : Int64} (ty : FieldType) (h : ¬ (ψ = φ ∧ j = i ∧ n = k)) : sm_v ty α (wJ σ φ i k x) ψ j n = sm_v ty α σ ψ j n := by
  cases ty <;> simp [sm_v, wJ, sm_up, h]
/-- one place has changed -/
def sm_U (α : Nat → Nat → Nat) (σ σ' : sm_M) (φ i k : Nat) (ty : FieldType) (v : Value) : Prop := (∀ (t : FieldType) (ψ j n : Nat), ¬ (ψ = φ ∧ j = i ∧ n = k) → sm_v t α σ' ψ j n = sm_v t α σ ψ j n) ∧ sm_v ty α σ' φ i k = v
/-! ===== the pure operations: none where the machine would throw ===== -/
def sI (φ k : Nat) (σ : sm_M) (i : Nat) (v : Int32) : Option sm_M := some (wI σ φ i k v)
def sZ (φ k : Nat) (σ : sm_M) (i : Nat) (v : Int32) : Option sm_M := if v = 0 ∨ v = 1 then some (wI σ φ i k v) else none
def sJ (φ k : Nat) (σ : sm_M) (i : Nat) (v : Int64) : Option sm_M := some (wJ σ φ i k v)
def inA (φ : Nat) (x : Int32) : Prop := ¬ x < 0 ∧ x.toNatClampNeg < fL φ
def aI (φ : Nat) (σ : sm_M) (i : Nat) (x : Int32) : Option Int32 := if ¬ x < 0 ∧ x.toNatClampNeg < fL φ then some (σ.1 φ i x.toNatClampNeg) else none
def aP (φ : Nat) (x : Int32) : Option Nat := if ¬ x < 0 ∧ x.toNatClampNeg < fL φ then some x.toNatClampNeg else none
def uI (φ : Nat) (σ : sm_M) (i : Nat) (x v : Int32) : Option sm_M := if ¬ x < 0 ∧ x.toNatClampNeg < fL φ then some (wI σ φ i x.toNatClampNeg v) else none
def uZ (φ : Nat) (σ : sm_M) (i : Nat) (x v : Int32) : Option sm_M := if ¬ x < 0 ∧ x.toNatClampNeg < fL φ then some (wI σ φ i x.toNatClampNeg (v &&& 1)) else none
theorem o_b {α β : Type} {o : Option α} {f : α → Option β} {q : β} (h : o.bind f = some q) : ∃ v, o = some v ∧ f v = some q := by
  cases o with
  | none => cases h
  | some v => exact ⟨v, rfl, h⟩
theorem o_i {α : Type} {c : Prop} [Decidable c] {x : α} {q : α} (h : (if c then some x else none) = some q) : c ∧ x = q := by
  by_cases hc : c
  · rw [if_pos hc] at h; exact ⟨hc, Option.some.inj h⟩
  · rw [if_neg hc] at h; cases h
theorem o_j {α : Type} {c : Prop} [Decidable c] {x : Option α} {q : α} (h : (if c then x else none) = some q) : c ∧ x = some q := by
  by_cases hc : c
  · rw [if_pos hc] at h; exact ⟨hc, h⟩
  · rw [if_neg hc] at h; cases h
theorem o_t {α : Type} {c : Prop} [Decidable c] {x y q : α} (hc : c) (h : (if c then x else y) = q) : x = q := by rw [if_pos hc] at h; exact h
theorem o_f {α : Type} {c : Prop} [Decidable c] {x y q : α} (hc : ¬ c) (h : (if c then x else y) = q) : y = q := by rw [if_neg hc] at h; exact h
theorem o_n {α : Type} {c : Prop} [Decidable c] {x : Option α} {q : α} (h : (if c then none else x) = some q) : ¬ c ∧ x = some q := by
  by_cases hc : c
  · rw [if_pos hc] at h; cases h
  · rw [if_neg hc] at h; exact ⟨hc, h⟩
theorem t_out {x : Int32} (lo hi : Int) (h : ∀ z : Int, lo ≤ z → z ≤ hi → ¬ x = Int32.ofInt z) : x.toInt < lo ∨ hi < x.toInt := by
  by_cases h1 : x.toInt < lo
  · exact Or.inl h1
  · by_cases h2 : hi < x.toInt
    · exact Or.inr h2
    · exact absurd (Int32.ofInt_toInt x).symm (h x.toInt (by omega) (by omega))
theorem t_look {x : Int32} {a b oa ob d : Int} (h1 : ¬ x.toInt = a) (h2 : ¬ x.toInt = b) : Op.lookupswitch.offset [(a, oa), (b, ob)] d x.toInt = d := by
  simp [Op.lookupswitch.offset, Ne.symm h1, Ne.symm h2]
theorem aP_lt {φ j : Nat} {x : Int32} (h : aP φ x = some j) : j < fL φ := by
  obtain ⟨h1, h2⟩ := o_i h
  exact h2 ▸ h1.2
/-! ===== what the heap holds of system Z ===== -/
def mm_tys (dA : Nat → ClassId) : List (ClassId × FieldType) := (List.range nAt).map fun t => (dA t, aty t)
theorem mm_tys_at {dA : Nat → ClassId} {t : Nat} (ht : t < nAt) : (mm_tys dA)[t]? = some (dA t, aty t) := by
  simp [mm_tys, ht]
def Ad (Z : Nat) (α : Nat → Nat → Nat) (q : Nat) : Prop := ∃ φ i : Nat, fS φ = Z ∧ i < fN φ ∧ q = α φ i
def Inj (Z : Nat) (α : Nat → Nat → Nat) : Prop := ∀ φ i ψ j : Nat, fS φ = Z → i < fN φ → fS ψ = Z → j < fN ψ → α φ i = α ψ j → φ = ψ ∧ i = j
def Rep (D : va_G) (dA : Nat → ClassId) (Z : Nat) (α : Nat → Nat → Nat) (σ : sm_M) (H : Heap) : Prop :=
  ∀ φ i : Nat, fS φ = Z → i < fN φ →
  (fK φ = 1 → ∃ r : vw_C, classes[fC φ]? = some r ∧ t_OB (α φ i) (D.1 (fC φ)) r.2.2 (D.2 (fC φ)) H (fun k => sm_v (cty (fC φ) k) α σ φ i k)) ∧
  (fK φ = 2 → H[α φ i]? = some (arrV (dA (fC φ)) (fL φ) (fun j => sm_v (aty (fC φ)) α σ φ i j)))
/-- the world in a walk: since the start H0 of the method nothing outside the system has changed -/
def Wd (D : va_G) (dA : Nat → ClassId) (Z : Nat) (α : Nat → Nat → Nat) (H0 : Heap) (σ : sm_M) (H : Heap) (locs : List Loc) : Prop :=
  Rep D dA Z α σ H ∧ (∀ q : Nat, ¬ Ad Z α q → H[q]? = H0[q]?) ∧ (∀ x ∈ locs, Ad Z α x.base) ∧ Inj Z α
theorem Rep.put {D : va_G} {dA : Nat → ClassId} {Z : Nat} {α : Nat → Nat → Nat} {σ σ' : sm_M} {H H1 : Heap} {φ i k : Nat} {ty : FieldType} {v : Value} (hI : Inj Z α) (hS : fS φ = Z) (hN : i < fN φ) (h : Rep D dA Z α σ H) (hU : sm_U α σ σ' φ i k ty v) (oq : ∀ q : Nat, q ≠ α φ i → H1[q]? = H[q]?)
    (hob : fK φ = 1 → ∃ r : vw_C, classes[fC φ]? = some r ∧ t_OB (α φ i) (D.1 (fC φ)) r.2.2 (D.2 (fC φ)) H1 (fun k => sm_v (cty (fC φ) k) α σ' φ i k))
    (har : fK φ = 2 → H1[α φ i]? = some (arrV (dA (fC φ)) (fL φ) (fun j => sm_v (aty (fC φ)) α σ' φ i j))) : Rep D dA Z α σ' H1 := by
  obtain ⟨u3, u4⟩ := hU
  intro ψ j hψ hj
  by_cases e : ψ = φ ∧ j = i
  · obtain ⟨rfl, rfl⟩ := e; exact ⟨hob, har⟩
  · have hne : α ψ j ≠ α φ i := fun q => e (hI ψ j φ i hψ hj hS hN q)
    refine ⟨fun hk => ?_, fun hk => ?_⟩
    · obtain ⟨r, hr, ho⟩ := (h ψ j hψ hj).1 hk
      exact ⟨r, hr, (ho.kept (oq _ hne)).to (fun n _ => (u3 _ ψ j n (fun q => e ⟨q.1, q.2.1⟩)).symm)⟩
    · rw [oq _ hne, (h ψ j hψ hj).2 hk]
      congr 2
      funext n
      exact (u3 _ ψ j n (fun q => e ⟨q.1, q.2.1⟩)).symm
theorem Wd.put {D : va_G} {dA : Nat → ClassId} {Z : Nat} {α : Nat → Nat → Nat} {H0 : Heap} {σ σ' : sm_M} {H H1 : Heap} {locs : List Loc} {φ i n : Nat} (hS : fS φ = Z) (hN : i < fN φ) (h : Wd D dA Z α H0 σ H locs) (oq : ∀ q : Nat, q ≠ α φ i → H1[q]? = H[q]?) (hR : Rep D dA Z α σ' H1) : Wd D dA Z α H0 σ' H1 (locs ++ [⟨α φ i, n⟩]) := by
  have hA : Ad Z α (α φ i) := ⟨φ, i, hS, hN, rfl⟩
  refine ⟨hR, fun q hq => ?_, fun x hx => ?_, h.2.2.2⟩
  · rw [oq q (fun e => hq (by rw [e]; exact hA))]; exact h.2.1 q hq
  · rcases List.mem_append.mp hx with g | g
    · exact h.2.2.1 x g
    · rw [List.mem_singleton.mp g]; exact hA
/-- the links among nest mates -/
def nW (U : State) : Prop := va_Nw (.methodLinkNest RX1 53 yX5_isIn "RegionRestarts") U ∧ va_Nw (.methodLinkNest RX2 94 yX5_isIn "RegionRestarts") U ∧ va_Nw (.methodLinkNest RX2 23 yX4_init "RegionRestarts") U ∧ va_Nw (.methodLinkNest RX2 24 yX1_init "RegionRestarts") U ∧ va_Nw (.methodLinkNest RX5 18 yX3_init "RegionRestarts") U ∧ va_Nw (.methodLinkNest RX5 25 yX0_init "RegionRestarts") U
theorem nW.same {u U : State} (h : u.vm = U.vm) (hZ : nW u) : nW U := ⟨va_Nw.same rfl h hZ.1, va_Nw.same rfl h hZ.2.1, va_Nw.same rfl h hZ.2.2.1, va_Nw.same rfl h hZ.2.2.2.1, va_Nw.same rfl h hZ.2.2.2.2.1, va_Nw.same rfl h hZ.2.2.2.2.2⟩
theorem nW.warm {s U : State} (hW : s.WarmedH U.vm) (hZ : nW s) : nW U := ⟨va_Nw.warmM hW hZ.1, va_Nw.warmM hW hZ.2.1, va_Nw.warmM hW hZ.2.2.1, va_Nw.warmM hW hZ.2.2.2.1, va_Nw.warmM hW hZ.2.2.2.2.1, va_Nw.warmM hW hZ.2.2.2.2.2⟩
def gx (p : Program) (s : State) (m : MethodId) (meth : Method) (c : Code) (args : Array Value) (cc : ByteArray) (nL : Nat) (ret : Option FieldType) (own nm : String) (D : va_G) (dA : Nat → ClassId) : Prop :=
  p.tables.exec = Jvm.exec ∧ c.code = cc ∧ meth.sig.returnType = ret ∧ meth.locks = false ∧ c.maxLocals = nL ∧ s.vm.findClass own = some m.cls ∧ meth.name = nm ∧ (∀ w ∈ wsL_law, w.before args s = true) ∧ va_K D classes (mm_tys dA) s ∧ nW s
section SMR
variable {p : Program} {l : Launch} {e : Env} {R : Room} {s : State} {m : MethodId} {args : Array Value} {below : List Frame} {meth : Method} {c : Code} {H : Heap} {locs : List Loc} {cells slots : Nat} {Q : State → Prop}
variable {cc : ByteArray} {pc nL d φ i Z : Nat} {ls : Array Slot} {rest : List Value} {D : va_G} {dA : Nat → ClassId} {α : Nat → Nat → Nat} {H0 : Heap} {σ σ' : sm_M} {ret : Option FieldType} {own nm : String}
theorem g_get (G : gx p s m meth c args cc nL ret own nm D dA) {ref C : String} {T : u_T} {N ci index : Nat} (hin : ∀ w ∈ u_ws C T N, w ∈ wsL_law) (hc : classes[ci]? = some (C, T, N)) (k : Nat) (hk : k < N) (hlink : Cond.fieldLink own index ref (T k).2.1 (T k).2.2.1 ∈ wsL_law) (href : (T k).1 = ref) (hS : fS φ = Z) (hfK : fK φ = 1) (hfC : fC φ = ci) (hW : Wd D dA Z α H0 σ H locs) (hN : i < fN φ) {v : Value} (hv : sm_v (cty ci k) α σ φ i k = v) (hdg : decode cc pc = .ok (.getfield index, 3))
    (kk : W p l e R s m args below meth c H locs cells slots Q (F0 m (pc + 3) ls (v :: rest))) : W p l e R s m args below meth c H locs cells slots Q (F0 m pc ls (.ref (α φ i) :: rest)) := by
  obtain ⟨hx, hb, hr, hlk, hml, hown, hnm, hts, hK, hNw⟩ := G
  subst hfC
  obtain ⟨r, h1, cell, q1, q2, q3, q4⟩ := (hW.1 φ i hS hN).1 hfK
  have hr : r = (C, T, N) := Option.some.inj (h1.symm.trans hc)
  subst hr
  obtain ⟨hSl, hfc, kC, hkC, hkind⟩ := hK.1 _ _ hc
  obtain ⟨cf, kf, fi, f, hi, hsl⟩ := hSl k hk
  refine W.getf hx hb hown (hts _ hlink) (by rw [← href]; exact hi) (u_facts hfc hkC (u_lays hts hin hk) hi).1 q1 (by rw [q3]; exact fun h => by cases h) (v := v) ?_ rfl rfl hdg kk
  rw [hsl, q4 k hk]; exact congrArg some hv
theorem g_put (G : gx p s m meth c args cc nL ret own nm D dA) {ref C : String} {T : u_T} {N ci index : Nat} (hin : ∀ w ∈ u_ws C T N, w ∈ wsL_law) (ty0 : Nat → FieldType) (hty : ∀ k, k < N → parseFieldDescriptor (T k).2.2.1 = some (ty0 k)) (hnm : ∀ a, a < N → ∀ b, b < N → a ≠ b → (T a).2.1 ≠ (T b).2.1) (hc : classes[ci]? = some (C, T, N)) (k : Nat) (hk : k < N) (hlink : Cond.fieldLink own index ref (T k).2.1 (T k).2.2.1 ∈ wsL_law) (href : (T k).1 = ref) (hfin : (T k).2.2.2 = false) {ty : FieldType} {v : Value} (hd : parseFieldDescriptor (T k).2.2.1 = some ty) (hn : narrow ty v = v) (hfit : fits ty v = true) (hS : fS φ = Z) (hfK : fK φ = 1) (hfC : fC φ = ci) (hW : Wd D dA Z α H0 σ H locs) (hN : i < fN φ) (hU : sm_U α σ σ' φ i k (cty ci k) v)
    (hdg : decode cc pc = .ok (.putfield index, 3)) (kk : ∀ (H1 : Heap) (locs1 : List Loc), Wd D dA Z α H0 σ' H1 locs1 → W p l e R s m args below meth c H1 locs1 cells slots Q (F0 m (pc + 3) ls rest)) : W p l e R s m args below meth c H locs cells slots Q (F0 m pc ls (v :: .ref (α φ i) :: rest)) := by
  obtain ⟨hx, hb, hr, hlk, hml, hown, hnm0, hts, hK, hNw⟩ := G
  subst hfC
  have hap := va_apart (own := own) hts hin ty0 hty hnm hK hc
  obtain ⟨r, h1, cell, q1, q2, q3, q4⟩ := (hW.1 φ i hS hN).1 hfK
  have hr : r = (C, T, N) := Option.some.inj (h1.symm.trans hc)
  subst hr
  obtain ⟨hSl, hfc, kC, hkC, hkind⟩ := hK.1 _ _ hc
  obtain ⟨cf, kf, fi, f, hi, hsl⟩ := hSl k hk
  have hlay := hts _ (hin _ (u_in_lay hk))
  unfold u_lay at hlay
  rw [if_neg (by rw [hfin]; decide)] at hlay
  have hst := (u_facts hfc hkC (u_lays hts hin hk) hi).1
  have h6 := u_store hfc hkC hkind hlay hi hd hn hfit
  refine W.putK hx hb (f := f) ⟨hown, hts _ hlink, ⟨_, _, _, by rw [← href]; exact hi⟩, hst⟩ (by rw [q2]; exact h6) q1 q3 (by rw [hsl]; exact k2_hasslot (q4 k hk)) rfl rfl hdg fun H' e1 e2 e3 => ?_
  rw [hsl] at e1 ⊢
  refine kk H' _ (hW.put hS hN e3 (hW.1.put hW.2.2.2 hS hN hU e3 (fun _ => ?_) (fun h => by rw [hfK] at h; cases h)))
  refine ⟨_, hc, t_OB.to (V := updV (fun j => sm_v (cty (fC φ) j) α σ φ i j) k v) ⟨_, e1, q2, q3, t_set q4 hap hk v⟩ (fun j _ => ?_)⟩
  by_cases hj : j = k
  · subst hj; simp [updV]; exact hU.2.symm
  · simp [updV, hj]; exact (hU.1 _ φ i j (fun q => hj q.2.2)).symm
/-- arrays: reading -/
theorem g_aI (G : gx p s m meth c args cc nL ret own nm D dA) (hS : fS φ = Z) (hfK : fK φ = 2) (ht : fC φ < nAt) (hty : aty (fC φ) = .int) (hW : Wd D dA Z α H0 σ H locs) (hN : i < fN φ) {x v : Int32} (h : aI φ σ i x = some v) (hdg : decode cc pc = .ok (.iaload, 1))
    (kk : W p l e R s m args below meth c H locs cells slots Q (F0 m (pc + 1) ls (.int v :: rest))) : W p l e R s m args below meth c H locs cells slots Q (F0 m pc ls (.int x :: .ref (α φ i) :: rest)) := by
  obtain ⟨hx, hb, hr, hlk, hml, hown, hnm, hts, hK, hNw⟩ := G
  obtain ⟨⟨h2, h3⟩, hv⟩ := o_i h
  have hc := (hW.1 φ i hS hN).2 hfK
  have hA := (hK.2 _ _ (mm_tys_at ht)).1 (fL φ) (fun j => sm_v (aty (fC φ)) α σ φ i j)
  exact W.iald (v := .int v) hx hb hc (by rw [hty] at hA ⊢; exact hA) (fun q => by cases q) (by rw [arrV_size]; exact fun q => q.elim h2 (fun q => absurd h3 (Nat.not_lt.mpr q))) (by rw [arrV_read _ _ h3, hty, ← hv]; rfl) rfl rfl hdg kk
theorem g_aZ (G : gx p s m meth c args cc nL ret own nm D dA) (hS : fS φ = Z) (hfK : fK φ = 2) (ht : fC φ < nAt) (hty : aty (fC φ) = .boolean) (hW : Wd D dA Z α H0 σ H locs) (hN : i < fN φ) {x v : Int32} (h : aI φ σ i x = some v) (hdg : decode cc pc = .ok (.baload, 1))
    (kk : W p l e R s m args below meth c H locs cells slots Q (F0 m (pc + 1) ls (.int v :: rest))) : W p l e R s m args below meth c H locs cells slots Q (F0 m pc ls (.int x :: .ref (α φ i) :: rest)) := by
  obtain ⟨hx, hb, hr, hlk, hml, hown, hnm, hts, hK, hNw⟩ := G
  obtain ⟨⟨h2, h3⟩, hv⟩ := o_i h
  have hc := (hW.1 φ i hS hN).2 hfK
  have hA := (hK.2 _ _ (mm_tys_at ht)).1 (fL φ) (fun j => sm_v (aty (fC φ)) α σ φ i j)
  exact W.zald (v := .int v) hx hb hc (by rw [hty] at hA ⊢; exact hA) (fun q => by cases q) (by rw [arrV_size]; exact fun q => q.elim h2 (fun q => absurd h3 (Nat.not_lt.mpr q))) (by rw [arrV_read _ _ h3, hty, ← hv]; rfl) rfl rfl hdg kk
/-- a row of references: its place j leads to member j of family ψ (or of an object's own row i: by fP) -/
theorem g_aP (G : gx p s m meth c args cc nL ret own nm D dA) (hS : fS φ = Z) (hfK : fK φ = 2) (ht : fC φ < nAt) {ety : FieldType} (hety : ety.isReference = true) (hty : aty (fC φ) = ety) {ψ : Nat} (hv : ∀ j, sm_v ety α σ φ i j = .ref (α ψ j)) (hW : Wd D dA Z α H0 σ H locs) (hN : i < fN φ) {x : Int32} {j : Nat} (h : aP φ x = some j) (hdg : decode cc pc = .ok (.aaload, 1))
    (kk : W p l e R s m args below meth c H locs cells slots Q (F0 m (pc + 1) ls (.ref (α ψ j) :: rest))) : W p l e R s m args below meth c H locs cells slots Q (F0 m pc ls (.int x :: .ref (α φ i) :: rest)) := by
  obtain ⟨hx, hb, hr, hlk, hml, hown, hnm, hts, hK, hNw⟩ := G
  obtain ⟨⟨h2, h3⟩, hj⟩ := o_i h
  have hc := (hW.1 φ i hS hN).2 hfK
  have hA := (hK.2 _ _ (mm_tys_at ht)).1 (fL φ) (fun j => sm_v (aty (fC φ)) α σ φ i j)
  exact W.aald (v := .ref (α ψ j)) (ty := ety) hx hb hc (by rw [hty] at hA ⊢; exact hA) hety (fun q => by cases q) (by rw [arrV_size]; exact fun q => q.elim h2 (fun q => absurd h3 (Nat.not_lt.mpr q))) (by rw [arrV_read _ _ h3, hty, hv, hj]) rfl rfl hdg kk
/-- arrays: writing -/
theorem g_uX (hS : fS φ = Z) (hfK : fK φ = 2) (hN : i < fN φ) (hW : Wd D dA Z α H0 σ H locs) {k : Nat} {v : Value} {H1 : Heap} (hU : sm_U α σ σ' φ i k (aty (fC φ)) v) (e1 : H1[α φ i]? = some ((arrV (dA (fC φ)) (fL φ) (fun j => sm_v (aty (fC φ)) α σ φ i j)).setSlot k v)) (oq : ∀ q : Nat, q ≠ α φ i → H1[q]? = H[q]?) : Wd D dA Z α H0 σ' H1 (locs ++ [⟨α φ i, k⟩]) := by
  refine hW.put hS hN oq (hW.1.put hW.2.2.2 hS hN hU oq (fun h => by rw [hfK] at h; cases h) (fun _ => ?_))
  rw [e1, arrV_store]
  congr 2
  funext j
  by_cases hj : j = k
  · subst hj; simp [updV]; exact hU.2.symm
  · simp [updV, hj]; exact (hU.1 _ φ i j (fun q => hj q.2.2)).symm
theorem g_uI (G : gx p s m meth c args cc nL ret own nm D dA) (hS : fS φ = Z) (hfK : fK φ = 2) (ht : fC φ < nAt) (hty : aty (fC φ) = .int) (hW : Wd D dA Z α H0 σ H locs) (hN : i < fN φ) {x v : Int32} (h : uI φ σ i x v = some σ') (hdg : decode cc pc = .ok (.iastore, 1))
    (kk : ∀ (H1 : Heap) (locs1 : List Loc), Wd D dA Z α H0 σ' H1 locs1 → W p l e R s m args below meth c H1 locs1 cells slots Q (F0 m (pc + 1) ls rest)) : W p l e R s m args below meth c H locs cells slots Q (F0 m pc ls (.int v :: .int x :: .ref (α φ i) :: rest)) := by
  obtain ⟨hx, hb, hr, hlk, hml, hown, hnm, hts, hK, hNw⟩ := G
  obtain ⟨⟨h2, h3⟩, hv⟩ := o_i h
  have hc := (hW.1 φ i hS hN).2 hfK
  have hA := (hK.2 _ _ (mm_tys_at ht)).1 (fL φ) (fun j => sm_v (aty (fC φ)) α σ φ i j)
  refine W.iast hx hb hc (by rw [hty] at hA ⊢; exact hA) (fun q => by cases q) (by rw [arrV_size]; exact fun q => q.elim h2 (fun q => absurd h3 (Nat.not_lt.mpr q))) rfl rfl hdg fun H1 e1 z oq => ?_
  refine kk H1 _ (g_uX hS hfK hN hW (v := .int v) ⟨fun ty ψ j n q => by rw [← hv]; exact sm_v_I ty q, by rw [← hv, hty]; simp [sm_v, wI, sm_up]⟩ e1 oq)
theorem g_uZ (G : gx p s m meth c args cc nL ret own nm D dA) (hS : fS φ = Z) (hfK : fK φ = 2) (ht : fC φ < nAt) (hty : aty (fC φ) = .boolean) (hW : Wd D dA Z α H0 σ H locs) (hN : i < fN φ) {x v : Int32} (h : uZ φ σ i x v = some σ') (hdg : decode cc pc = .ok (.bastore, 1))
    (kk : ∀ (H1 : Heap) (locs1 : List Loc), Wd D dA Z α H0 σ' H1 locs1 → W p l e R s m args below meth c H1 locs1 cells slots Q (F0 m (pc + 1) ls rest)) : W p l e R s m args below meth c H locs cells slots Q (F0 m pc ls (.int v :: .int x :: .ref (α φ i) :: rest)) := by
  obtain ⟨hx, hb, hr, hlk, hml, hown, hnm, hts, hK, hNw⟩ := G
  obtain ⟨⟨h2, h3⟩, hv⟩ := o_i h
  have hc := (hW.1 φ i hS hN).2 hfK
  have hA := (hK.2 _ _ (mm_tys_at ht)).1 (fL φ) (fun j => sm_v (aty (fC φ)) α σ φ i j)
  refine W.zast hx hb hc (by rw [hty] at hA ⊢; exact hA) (fun q => by cases q) (by rw [arrV_size]; exact fun q => q.elim h2 (fun q => absurd h3 (Nat.not_lt.mpr q))) rfl rfl hdg fun H1 e1 z oq => ?_
  refine kk H1 _ (g_uX hS hfK hN hW (v := .int (v &&& 1)) ⟨fun ty ψ j n q => by rw [← hv]; exact sm_v_I ty q, by rw [← hv, hty]; simp [sm_v, wI, sm_up]⟩ e1 oq)
/-- the receiver's cell -/
theorem g_recv {ci : Nat} {q : vw_C} (hK : va_K D classes (mm_tys dA) s) (hS : fS φ = Z) (hfK : fK φ = 1) (hfC : fC φ = ci) (hN : i < fN φ) (hR : Rep D dA Z α σ H) (hc : classes[ci]? = some q) : ∃ cell : Cell, H[α φ i]? = some cell ∧ cell.vm.isStatics = false ∧ s.vm.findClass q.1 = some cell.cls := by
  subst hfC
  obtain ⟨q', h1, cell, g1, g2, g3, -⟩ := (hR φ i hS hN).1 hfK
  exact ⟨cell, g1, by rw [g3]; rfl, by rw [g2]; exact (hK.1 _ q hc).2.1⟩
end SMR

