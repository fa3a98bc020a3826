/-! a throw that comes up from a callee, caught by a row of this method's own table: by the first row, or by the second when the first names another class -/
section GK
theorem gk_hit {Q : Handler → Pre} {F : CtlPost} {e : Env} {d : Bool} {acts : List Action} {s : State} {f : JFrame} {a : Addr} {x : ExceptionTableEntry} {t : List ExceptionTableEntry} {c : ClassId} {cell : Cell}
    (hx : covers x f.pc = true) (h0 : x.catchType ≠ 0) (hl : s.vm.ClassLinks e.platform f.method.cls x.catchType c) (hcell : s.heap[a]? = some cell) (hobj : ∀ k, cell.vm ≠ .statics k)
    (hk : ∃ k, s.vm.classes[cell.cls]? = some k) (hc : ∃ k, s.vm.classes[c]? = some k) (hfit : s.vm.assignable cell.cls c = true) :
    wp (findHandler.go f a (x :: t)) Q F e d acts s ↔ Q (.found x.handlerPc) d acts (s.setVm (s.vm.noted f.method.cls x.catchType (.cls c))) := by
  have hr := (resolveClass_links e.toSetting hl).op (op := VmOp.resolveClass f.method.cls x.catchType) rfl
  have hal : s.vm.Alike (s.vm.noted f.method.cls x.catchType (.cls c)) := (Vm.Alike.refl s.vm).noted _ _ _
  obtain ⟨k1, hk1⟩ := hk
  obtain ⟨k2, hk2⟩ := hc
  obtain ⟨k3, hk3, -⟩ := hal.2.2 _ _ hk1
  obtain ⟨k4, hk4, -⟩ := hal.2.2 _ _ hk2
  have hf : (s.vm.noted f.method.cls x.catchType (.cls c)).assignable cell.cls c = true := hal.assignable .. ▸ hfit
  unfold covers at hx
  simp [findHandler.go, hx, h0, hr.1, hr.2, hcell, hobj, hk3, hk4, hf, VmOp.dirties, VmOp.acts]
theorem gk_miss {Q : Handler → Pre} {F : CtlPost} {e : Env} {d : Bool} {acts : List Action} {s : State} {f : JFrame} {a : Addr} {x : ExceptionTableEntry} {t : List ExceptionTableEntry} {c : ClassId} {cell : Cell}
    (hx : covers x f.pc = true) (h0 : x.catchType ≠ 0) (hl : s.vm.ClassLinks e.platform f.method.cls x.catchType c) (hcell : s.heap[a]? = some cell) (hobj : ∀ k, cell.vm ≠ .statics k)
    (hk : ∃ k, s.vm.classes[cell.cls]? = some k) (hc : ∃ k, s.vm.classes[c]? = some k) (hno : s.vm.assignable cell.cls c = false) :
    wp (findHandler.go f a (x :: t)) Q F e d acts s ↔ wp (findHandler.go f a t) Q F e d acts (s.setVm (s.vm.noted f.method.cls x.catchType (.cls c))) := by
  have hr := (resolveClass_links e.toSetting hl).op (op := VmOp.resolveClass f.method.cls x.catchType) rfl
  have hal : s.vm.Alike (s.vm.noted f.method.cls x.catchType (.cls c)) := (Vm.Alike.refl s.vm).noted _ _ _
  obtain ⟨k1, hk1⟩ := hk
  obtain ⟨k2, hk2⟩ := hc
  obtain ⟨k3, hk3, -⟩ := hal.2.2 _ _ hk1
  obtain ⟨k4, hk4, -⟩ := hal.2.2 _ _ hk2
  have hf : (s.vm.noted f.method.cls x.catchType (.cls c)).assignable cell.cls c = false := hal.assignable .. ▸ hno
  unfold covers at hx
  simp [findHandler.go, hx, h0, hr.1, hr.2, hcell, hobj, hk3, hk4, hf, VmOp.dirties, VmOp.acts]
/-- the step of the machine at a throw that the search finds a row for -/
theorem gk_step {tb : Tables} {e : Env} {s target : State} {g : JFrame} {c : Code} {below : List Frame} {a : Addr} (h : At s g.method c below) {pc : Nat} {vm' : Vm}
    (hfind : ∀ (Q : Handler → Pre) (F : CtlPost) (d : Bool) (acts : List Action), wp (findHandler g a) Q F e d acts ((s.setTop g).pushFrame (.throwing a)) ↔ Q (.found pc) d acts (((s.setTop g).pushFrame (.throwing a)).setVm vm'))
    (hrest : Steps tb e below ((s.setVm vm').setTop { g with pc := pc, stack := [.ref a] }) target) :
    Steps tb e below ((s.setTop g).pushFrame (.throwing a)) target := by
  have hfl : ∀ (u : State) (F G : List Frame), ((u.setFrames F).setVm vm').setFrames G = (u.setVm vm').setFrames G := fun u F G => by
    show ((u.setVm vm').setFrames F).setFrames G = _
    rw [State.setFrames_setFrames]
  have hcatch : ∀ (u : State) (r : List Frame), (∀ (Q : Handler → Pre) (F : CtlPost) (d : Bool) (acts : List Action), wp (findHandler g a) Q F e d acts u ↔ Q (.found pc) d acts (u.setVm vm')) →
      (stepThrowing e u a (.java g :: r)).Is ((u.setVm vm').setFrames (.java { g with pc := pc, stack := [.ref a] } :: r)) [] := by
    intro u r hu
    simp only [stepThrowing, searchFrame, vmDo]
    generalize hr : Sem.go _ e false [] u = res
    obtain ⟨as, rfl, ha⟩ := Sem.eq_ok_of hr (a := Handler.found pc) (s' := u.setVm vm') (acts' := []) (by simp [hu _ _ _ _])
    exact ⟨rfl, ha⟩
  obtain ⟨hgo, hw⟩ := h.throwing a
  refine Steps.head hgo hw ?_
  rw [stepThread_throwing (frames_entered h.top _), (hcatch _ _ hfind).1]
  obtain ⟨g₀, hg⟩ := Option.isSome_iff_exists.mp h.top
  obtain ⟨r, hr⟩ := State.topJava?_eq_some.mp hg
  have hr2 : (s.setVm vm').frames = .java g₀ :: r := hr
  rw [State.setTop_of_frames _ hr2] at hrest
  rw [hr, List.tail_cons, State.pushFrame, hfl, State.setTop_of_frames _ hr, hfl]
  exact hrest
section
variable {p : Program} {l : Launch} {e : Env} {R : Room} {s : State} {m : MethodId} {args : Array Value} {below : List Frame} {meth : Method} {c : Code} {cells slots : Nat} {Q : State → Prop}
variable {cc : ByteArray} {nL : Nat} {own : String} {Ts : List Cond} {A : Nat → Prop} {D : va_G} {cl : List vw_C} {tys : List (ClassId × FieldType)}
variable {ws : va_W} {lv : List (Nat × Value)} {pc : Nat} {st : List Value}
/-- the first row takes it -/
theorem g_catch1 {E : String} (Z : gZ p s m args meth c cc nL own Ts A D cl tys) (x : ExceptionTableEntry) (suf : List ExceptionTableEntry) (hsplit : c.exceptionTable.toList = x :: suf)
    (hx : covers x pc = true) (h0 : x.catchType ≠ 0) (hlink : Cond.classLink own x.catchType E ∈ Ts) (hcast : (Cond.castable E E).before args s = true)
    (k : ∀ q : Addr, gW p l e R s m args below meth c nL A D cl cells slots Q ws lv x.handlerPc [.ref q]) : gX p l e R s m args below meth c nL A D cl cells slots Q E ws lv pc st := by
  intro H locs ls q ce hP hD hS hl hcell hv hcl T hT X
  have hpl : e.platform.magicAccessors = ({} : Platform).magicAccessors := by rw [X.admits.platform]
  obtain ⟨c3, c4, hc3, hc4, hasg⟩ := Cond.castable_spec hcast
  cases Option.some.inj (hc3.symm.trans hcl)
  obtain ⟨c5, hc5, hlk⟩ := Cond.classLink_spec Z.2.2.2.1 (Z.2.2.2.2.1 _ hlink) e.platform hpl
  cases Option.some.inj (hc4.symm.trans hc5)
  obtain ⟨k9, hk9, -⟩ := Vm.findClass_spec hcl
  obtain ⟨dk, _, _, kt, hd, _, _, _, _, hkt, _, hopen⟩ := hlk.here
  have hW := X.warmed
  obtain ⟨k0', hk0', -⟩ := hW.alike.2.2 _ _ hk9
  obtain ⟨kt', hkt', -⟩ := hW.alike.2.2 _ _ hkt
  have hW' := hW.noted hd hopen (State.rightAt_cls hlk)
  have X' := X.noted hW'
  obtain ⟨t, a1, b1⟩ := (fun (S9 : State) (XS : Stand p l e R s m args below meth c S9 locs cells slots) (h9 : S9.heap = H) => k q H locs ls hP hD hS hl S9 h9 XS) _ X' hT
  refine ⟨t, gk_step X.here ?_ a1, b1⟩
  intro Q1 F d acts
  have hm : ((T.setTop (F0 m pc ls st)).pushFrame (.throwing q)).vm.method? m = some meth := X.method'
  rw [W.findHandler_eq (f := F0 m pc ls st) hm X.code, hsplit]
  exact gk_hit (f := F0 m pc ls st) (e := e) (a := q) (s := (T.setTop (F0 m pc ls st)).pushFrame (.throwing q)) (c := c4) hx h0 (hW.classLinks hlk) (show T.heap[q]? = some ce by rw [hT]; exact hcell) (fun k9 => by rw [hv]; exact fun h => by cases h) ⟨k0', hk0'⟩ ⟨kt', hkt'⟩ (by rw [show ((T.setTop (F0 m pc ls st)).pushFrame (.throwing q)).vm = T.vm from rfl, hW.alike.assignable]; exact hasg)
/-- the first row names another class, the second takes it -/
theorem g_catch2 {E E0 : String} (Z : gZ p s m args meth c cc nL own Ts A D cl tys) (y x : ExceptionTableEntry) (suf : List ExceptionTableEntry) (hsplit : c.exceptionTable.toList = y :: x :: suf)
    (hy : covers y pc = true) (hy0 : y.catchType ≠ 0) (hylink : Cond.classLink own y.catchType E0 ∈ Ts) (hno : va_Nc E E0 s)
    (hx : covers x pc = true) (h0 : x.catchType ≠ 0) (hlink : Cond.classLink own x.catchType E ∈ Ts) (hcast : (Cond.castable E E).before args s = true)
    (k : ∀ q : Addr, gW p l e R s m args below meth c nL A D cl cells slots Q ws lv x.handlerPc [.ref q]) : gX p l e R s m args below meth c nL A D cl cells slots Q E ws lv pc st := by
  intro H locs ls q ce hP hD hS hl hcell hv hcl T hT X
  have hpl : e.platform.magicAccessors = ({} : Platform).magicAccessors := by rw [X.admits.platform]
  obtain ⟨c3, c4, hc3, hc4, hasg⟩ := Cond.castable_spec hcast
  cases Option.some.inj (hc3.symm.trans hcl)
  obtain ⟨c5, hc5, hlk⟩ := Cond.classLink_spec Z.2.2.2.1 (Z.2.2.2.2.1 _ hlink) e.platform hpl
  cases Option.some.inj (hc4.symm.trans hc5)
  obtain ⟨c6, hc6, hlk0⟩ := Cond.classLink_spec Z.2.2.2.1 (Z.2.2.2.2.1 _ hylink) e.platform hpl
  obtain ⟨a8, b8, n1, n2, n3⟩ := hno
  cases Option.some.inj (n1.symm.trans hcl)
  cases Option.some.inj (n2.symm.trans hc6)
  obtain ⟨k9, hk9, -⟩ := Vm.findClass_spec hcl
  obtain ⟨dk, _, _, kt, hd, _, _, _, _, hkt, _, hopen⟩ := hlk.here
  obtain ⟨dk0, _, _, kt0, hd0, _, _, _, _, hkt0, _, hopen0⟩ := hlk0.here
  have hW := X.warmed
  obtain ⟨k0', hk0', -⟩ := hW.alike.2.2 _ _ hk9
  obtain ⟨kt0', hkt0', -⟩ := hW.alike.2.2 _ _ hkt0
  have hW1 := hW.noted hd0 hopen0 (State.rightAt_cls hlk0)
  obtain ⟨k1', hk1', -⟩ := hW1.alike.2.2 _ _ hk9
  obtain ⟨kt', hkt', -⟩ := hW1.alike.2.2 _ _ hkt
  have hW2 := hW1.noted hd hopen (State.rightAt_cls hlk)
  have X' := X.noted hW2
  obtain ⟨t, a1, b1⟩ := (fun (S9 : State) (XS : Stand p l e R s m args below meth c S9 locs cells slots) (h9 : S9.heap = H) => k q H locs ls hP hD hS hl S9 h9 XS) _ X' hT
  refine ⟨t, gk_step X.here ?_ a1, b1⟩
  intro Q1 F d acts
  have hm : ((T.setTop (F0 m pc ls st)).pushFrame (.throwing q)).vm.method? m = some meth := X.method'
  rw [W.findHandler_eq (f := F0 m pc ls st) hm X.code, hsplit]
  rw [gk_miss (f := F0 m pc ls st) (e := e) (a := q) (s := (T.setTop (F0 m pc ls st)).pushFrame (.throwing q)) (c := c6) hy hy0 (hW.classLinks hlk0) (show T.heap[q]? = some ce by rw [hT]; exact hcell) (fun k9 => by rw [hv]; exact fun h => by cases h) ⟨k0', hk0'⟩ ⟨kt0', hkt0'⟩ (by rw [show ((T.setTop (F0 m pc ls st)).pushFrame (.throwing q)).vm = T.vm from rfl, hW.alike.assignable]; exact n3)]
  exact gk_hit (f := F0 m pc ls st) (e := e) (a := q) (s := ((T.setTop (F0 m pc ls st)).pushFrame (.throwing q)).setVm (T.vm.noted m.cls y.catchType (.cls c6))) (c := c4) hx h0 (hW1.classLinks hlk) (show T.heap[q]? = some ce by rw [hT]; exact hcell) (fun k9 => by rw [hv]; exact fun h => by cases h) ⟨k1', hk1'⟩ ⟨kt', hkt'⟩ (by show (T.vm.noted _ _ _).assignable _ _ = true; rw [hW1.alike.assignable]; exact hasg)
end
end GK
section GL
variable {p : Program} {l : Launch} {e : Env} {R : Room} {s : State} {m : MethodId} {args : Array Value} {below : List Frame} {meth : Method} {c : Code} {cells slots : Nat} {Q : State → Prop}
variable {cc : ByteArray} {nL : Nat} {own : String} {Ts : List Cond} {A : Nat → Prop} {D : va_G} {cl : List vw_C} {tys : List (ClassId × FieldType)}
variable {ws ws' : va_W} {lv lv' : List (Nat × Value)} {pc : Nat} {st rest : List Value}
/-- on, as the call before ended: with an answer, or with a throw -/
def gH {α β : Type} (o : Option (Except String α)) (k : α → Option β) (x : String → Option β) : Option β := match o with
  | none => none
  | some (.ok y) => k y
  | some (.error E) => x E
theorem gH_of {α β : Type} {o : Option (Except String α)} {k : α → Option β} {x : String → Option β} {r : β} (h : gH o k x = some r) : (∃ y, o = some (.ok y) ∧ k y = some r) ∨ ∃ E, o = some (.error E) ∧ x E = some r := by
  cases o with
  | none => exact absurd h (by simp [gH])
  | some z =>
    cases z with
    | error E => exact Or.inr ⟨E, rfl, h⟩
    | ok y => exact Or.inl ⟨y, rfl, h⟩
/-- a contract of a method with a table of its own that catches all that comes -/
theorem g_metW {y : MethodName} {wsy wsy' : List Cond} {rm : Room} {maxL : Nat} {ret : Option FieldType} {hh : List (Nat × Nat × Nat × Nat)} {av : List Value} {wc : va_W} {Qc : (Nat → Prop) → Array Value → State → Outcome → State → Prop} {mc ms : Nat} {strs : List (Nat × String)} {ow : String}
    (hy : plainName y.cls = true) (hw : wsy = Cond.codeWith y cc maxL ret hh :: wsy') (ho : y.cls = own) (hlen : (lg_sl av).length ≤ maxL) (hlv : lv_args 0 av = lv) (sz : Nat)
    (body : ∀ (p : Program) (e : Env) (s : State) (m : MethodId) (args : Array Value) (below : List Frame) (meth : Method) (c : Code) (A : Nat → Prop), gZ p s m args meth c cc maxL own wsy A D cl tys → meth.sig.returnType = ret → gT ow strs A s → c.exceptionTable.toList = tableOf hh → gW p l e rm s m args below meth c maxL A D cl 0 0 (MQ below (Qc A) args s mc ms A) wc lv 0 []) :
    Met l y wsy rm (va_Pc av (gPX D cl tys wc sz ow strs)) (Qc (va_A wc sz)) mc ms (va_A wc sz) := by
  refine va_MetW (cc := cc) (maxL := maxL) (ret := ret) (hh := hh) hy hw ?_
  intro p e s m args below meth c s₁ B hml hv
  obtain ⟨rfl, ⟨hsz, hP, hK, hD0, hN⟩, hT⟩ := hv
  subst hsz
  have hl := lv_entry av (n := maxL) hlen
  have hts := atoms_spec (ws := wsy) B.pre
  have htab := vx_table (x := y) B (hts _ (by rw [hw]; exact List.mem_cons_self))
  rw [lg_entry_eq]
  rw [hlv] at hl
  exact body p e s m _ below meth c _ ⟨B.exec, B.bytes, hml, ho ▸ findClass_of_methodNamed B.named, hts, hK, fun q h => Or.inr h, B.notSynchronized, hN⟩ B.returns hT htab _ _ _ hP (hD0.self) va_S.rf hl
theorem g_runSW {y : MethodName} {bytes : ByteArray} {maxL mc ms n index : Nat} {ret : Option FieldType} {hh : List (Nat × Nat × Nat × Nat)} {wsy : List Cond} {rm : Room} {wc : va_W} {Qc : Nat → Array Value → State → Outcome → State → Prop} {As : List Value} {strs : List (Nat × String)} {ow : String}
    (Z : gZ p s m args meth c cc nL own Ts A D cl tys) (hT : gT ow strs A s) (hM : ∀ sz : Nat, Met l y wsy rm (va_Pc As (gPX D cl tys wc sz ow strs)) (Qc sz) mc ms (va_A wc sz)) (cw : vx_CSW R s args own index y bytes maxL ret hh wsy rm mc ms n) (isC : List Nat) (hC : isC.map (fun i => ws[i]?) = wc.map some) (hnC : va_nd isC = true) (hst : st = As.reverse ++ rest) (hn : As.length = n) (hW : (rest.map fun v => v.category).sum ≤ 8) (d : decode cc pc = .ok (.invokestatic index, 3)) (hf : cells + mc ≤ R.cells ∧ slots + ms ≤ R.slots) :
    ∀ (H : Heap) (locs : List Loc) (ls : Array Slot), va_P D cl ws H → va_D A ws → va_S A s.heap H locs → lv_has ls nL lv → va_Run p l e R s m args below meth c H locs cells slots mc ms (F0 m pc ls st) rest (Qc H.size As.toArray) (va_A wc H.size) := by
  intro H locs ls hP hD hS hl
  have hPc := hP.sub isC (g_fm hC)
  have hDc := hD.sub isC hnC hC
  have hF := va_free (wc := wc) hD hS Z.2.2.2.2.2.2.1 isC hC
  exact vx_runSW (As := As) (rest := rest) ⟨Z.1, Z.2.1, Z.2.2.1, Z.2.2.2.1, Z.2.2.2.2.1⟩ (hM H.size) cw ⟨gPX_blind, fun U hU hW => ⟨rfl, ⟨by rw [hU], by rw [hU]; exact hPc, va_K.moved hW.alike Z.2.2.2.2.2.1, hDc.weaken (fun _ _ _ _ => trivial), gN.warm hW Z.2.2.2.2.2.2.2.2⟩, gT_sub hT hS hU hW hF⟩⟩ rfl hn hl.1 hst (lv_room hW) d hf
/-- the law's own script -/
theorem g_sld (Z : gZ p s m args meth c cc nL own Ts A D cl tys) {b L : Nat} {xs : Nat → Int32} (hX : va_X b L xs s s.heap) (hbl : b < s.heap.size) (hbA : ¬ A b) {i : Int32} (d : decode cc pc = .ok (.iaload, 1)) (hin : vp_in i L)
    (k : gW p l e R s m args below meth c nL A D cl cells slots Q ws lv (pc + 1) (.int (xs i.toNatClampNeg) :: st)) : gW p l e R s m args below meth c nL A D cl cells slots Q ws lv pc (.int i :: .ref b :: st) := fun H locs ls hP hD hS hl => va_sld Z.1 Z.2.1 hX hbl hbA hS hin d (k H locs ls hP hD hS hl)
theorem g_slen (Z : gZ p s m args meth c cc nL own Ts A D cl tys) {b L : Nat} {xs : Nat → Int32} (hX : va_X b L xs s s.heap) (hbl : b < s.heap.size) (hbA : ¬ A b) (d : decode cc pc = .ok (.arraylength, 1))
    (k : gW p l e R s m args below meth c nL A D cl cells slots Q ws lv (pc + 1) (.int (Int32.ofNat L) :: st)) : gW p l e R s m args below meth c nL A D cl cells slots Q ws lv pc (.ref b :: st) := fun H locs ls hP hD hS hl => va_slen Z.1 Z.2.1 hX hbl hbA hS d (k H locs ls hP hD hS hl)
theorem gg_W {x cd : Cond} {own : String} {idx : Nat} {y : MethodName} (h1 : Cond.methodLink own idx y ∈ gA) (h2 : Cond.static y ∈ gA) (h4 : Cond.initialized y.cls ∈ gA) (h5 : cd ∈ gA) : GoodIn (x :: gA) (va_wsS own idx y (cd :: gA)) := gg_S h1 h2 h4 h5
end GL
