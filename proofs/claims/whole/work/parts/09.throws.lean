section GX
variable {p : Program} {l : Launch} {e : Env} {R : Room} {s : State} {m : MethodId} {args : Array Value} {below : List Frame} {meth : Method} {c : Code} {cells slots : Nat} {Q : State → Prop}
variable {cc : ByteArray} {nL : Nat} {own : String} {Ts : List Cond} {A : Nat → Prop} {D : va_G} {cl : List vw_C} {tys : List (ClassId × FieldType)}
variable {ws ws' : va_W} {lv lv' : List (Nat × Value)} {pc : Nat} {st rest : List Value}
/-- what a throw needs of the heap and the strings: the two statics of Throwable, apart from what is written; the texts of the class own -/
def gT (own : String) (strs : List (Nat × String)) (A : Nat → Prop) (U : State) : Prop := vx_Zq Bundle.tN "UNASSIGNED_STACK" Bundle.steD A U U.heap ∧ vx_Zq Bundle.tN "SUPPRESSED_SENTINEL" Bundle.listD A U U.heap ∧ ∀ q ∈ strs, ∃ sa : Nat, vk_R own q.1 q.2 sa U
/-- the walk at a throw that comes up to this frame -/
def gX (p : Program) (l : Launch) (e : Env) (R : Room) (s : State) (m : MethodId) (args : Array Value) (below : List Frame) (meth : Method) (c : Code) (nL : Nat) (A : Nat → Prop) (D : va_G) (cl : List vw_C) (cells slots : Nat) (Q : State → Prop) (E : String) (ws : va_W) (lv : List (Nat × Value)) (pc : Nat) (st : List Value) : Prop :=
  ∀ (H : Heap) (locs : List Loc) (ls : Array Slot) (q : Addr) (ce : Cell), va_P D cl ws H → va_D A ws → va_S A s.heap H locs → lv_has ls nL lv → H[q]? = some ce → ce.vm = .none → s.vm.findClass E = some ce.cls → vx_W p l e R s m args below meth c H locs cells slots Q (F0 m pc ls st) q
def gPX (D : va_G) (cl : List vw_C) (tys : List (ClassId × FieldType)) (wc : va_W) (sz : Nat) (own : String) (strs : List (Nat × String)) : State → Prop := fun U => gP D cl tys wc sz U ∧ gT own strs (va_A wc sz) U
/-- no end but by a throw -/
def gQE (A : Nat → Prop) : Array Value → State → Outcome → State → Prop := va_Qv (fun _ : Unit => False) (fun _ _ => True) A
/-- the end by a throw: the world as it was -/
def gXC (D : va_G) (cl : List vw_C) (tys : List (ClassId × FieldType)) (wc : va_W) (pe : String → Prop) (A : Nat → Prop) : String → State → State → Prop := vx_X (fun _ : Unit => True) (fun E _ t => pe E ∧ va_P D cl wc t.heap ∧ va_K D cl tys t ∧ va_D A wc) A
theorem gPX_blind {av : List Value} {wc : va_W} {sz : Nat} {strs : List (Nat × String)} : FrameBlind (va_Pc av (gPX D cl tys wc sz own strs)) := fun a U g mk q => by
  obtain ⟨q0, ⟨q1, qP, qK, qD, qN⟩, t1, t2, t3⟩ := q
  have hv : (U.calling g mk a).vm = U.vm := rfl
  exact ⟨q0, ⟨q1, qP, va_K.moved (u := U) (U := U.calling g mk a) (Vm.Alike.refl U.vm) qK, qD, gN.same (s := U) (U := U.calling g mk a) rfl qN⟩, vx_Zq.moved (u := U) (U := U.calling g mk a) (Vm.Alike.refl U.vm) t1, vx_Zq.moved (u := U) (U := U.calling g mk a) (Vm.Alike.refl U.vm) t2, fun x hx => by obtain ⟨sa, h⟩ := t3 x hx; exact ⟨sa, vk_R.same (u := U) (U := U.calling g mk a) rfl h⟩⟩
/-- a contract with throws, out of the walk of the body -/
theorem g_metX {y : MethodName} {wsy wsy' : List Cond} {rm : Room} {maxL : Nat} {ret : Option FieldType} {av : List Value} {wc : va_W} {Qc : (Nat → Prop) → Array Value → State → Outcome → State → Prop} {pe : String → Prop} {mc ms : Nat} {strs : List (Nat × String)} {ow : String}
    (hy : plainName y.cls = true) (hw : wsy = Cond.code y cc maxL ret :: wsy') (ho : y.cls = own) (hlen : (lg_sl av).length ≤ maxL) (hlv : lv_args 0 av = lv) (sz : Nat)
    (body : ∀ (p : Program) (e : Env) (s : State) (m : MethodId) (args : Array Value) (below : List Frame) (meth : Method) (c : Code) (A : Nat → Prop), gZ p s m args meth c cc maxL own wsy A D cl tys → meth.sig.returnType = ret → meth.name = y.name → gT ow strs A s → (∀ x ∈ c.exceptionTable.toList, False) → gW p l e rm s m args below meth c maxL A D cl 0 0 (vx_MQ below (Qc A) (gXC D cl tys wc pe A) args s mc ms A) wc lv 0 []) :
    vx_Met l y wsy rm (va_Pc av (gPX D cl tys wc sz ow strs)) (Qc (va_A wc sz)) (gXC D cl tys wc pe (va_A wc sz)) mc ms (va_A wc sz) := by
  refine vx_ofW (cc := cc) (maxL := maxL) (ret := ret) hy hw ?_
  intro p e s m args below meth c s₁ B hml htab hv
  obtain ⟨rfl, ⟨hsz, hP, hK, hD0, hN⟩, hT⟩ := hv
  subst hsz
  have hl := lv_entry av (n := maxL) hlen
  rw [lg_entry_eq]
  rw [hlv] at hl
  exact body p e s m _ below meth c _ ⟨B.exec, B.bytes, hml, ho ▸ findClass_of_methodNamed B.named, atoms_spec (ws := wsy) B.pre, hK, fun q h => Or.inr h, B.notSynchronized, hN⟩ B.returns (name_of_methodNamed B.named B.method).1 hT htab _ _ _ hP (hD0.self) va_S.rf hl
/-- an end without a throw -/
theorem g_retX {Qc : Array Value → State → Outcome → State → Prop} {XC : String → State → State → Prop} {mc ms : Nat} {free : Addr → Prop} (k : gW p l e R s m args below meth c nL A D cl cells slots (MQ below Qc args s mc ms free) ws lv pc st) : gW p l e R s m args below meth c nL A D cl cells slots (vx_MQ below Qc XC args s mc ms free) ws lv pc st := fun H locs ls hP hD hS hl => vx_ret (k H locs ls hP hD hS hl)
/-- a throw that isn't caught here -/
theorem g_out {E : String} {Qc : Array Value → State → Outcome → State → Prop} {pe : String → Prop} {mc ms : Nat} (Z : gZ p s m args meth c cc nL own Ts A D cl tys) (htab : ∀ x ∈ c.exceptionTable.toList, False) (he : pe E) (hc : cells ≤ mc) (hs : slots ≤ ms) : gX p l e R s m args below meth c nL A D cl cells slots (vx_MQ below Qc (gXC D cl tys ws pe A) args s mc ms A) E ws lv pc st := fun H locs ls q ce hP hD hS hl h1 h2 h3 => vx_out (fun x hx => (htab x hx).elim) Z.2.2.2.2.2.2.2.1 h1 h2 h3 (fun t ht hW => ⟨(), trivial, ⟨he, by rw [ht]; exact hP, va_K.moved hW Z.2.2.2.2.2.1, hD⟩, hS.F ht⟩) hS.2.2 hc hs
theorem g_throw {cls text : String} {names : List String} {ik is ic mc ms : Nat} {strs : List (Nat × String)} {Qc : Array Value → State → Outcome → State → Prop} {pe : String → Prop} (Z : gZ p s m args meth c cc nL own Ts A D cl tys) (hl0 : l.stackTraces = false) (hT : gT own strs A s) (htab : ∀ x ∈ c.exceptionTable.toList, False)
    (d0 : decode cc pc = .ok (.new ik, 3)) (d3 : decode cc (pc + 3) = .ok (.dup, 1)) (d4 : decode cc (pc + 4) = .ok (.ldc is, 2)) (d6 : decode cc (pc + 6) = .ok (.invokespecial ic, 3)) (d9 : decode cc (pc + 9) = .ok (.athrow, 1))
    (hcls : Bundle.fit cls = true) (hnames : ∀ n ∈ names, Bundle.fit n = true) (hstr : (is, text) ∈ strs) (hk : Cond.classLink own ik cls ∈ Ts) (hini : Cond.initialized cls ∈ Ts) (hat : ∀ w ∈ vx_atS own ic cls names, w.before args s = true) (hgood : ∀ w ∈ Cond.classLink own ik cls :: Cond.initialized cls :: vx_atS own ic cls names, vx_ot w = true)
    (hfr : names.length + 3 < R.frames) (hlo : (st.map fun v => v.category).sum + (13 * (names.length + 1) + 43) ≤ R.locals) (hce : cells + 1 ≤ R.cells) (hsl : slots + 6 ≤ R.slots) (he : pe cls) (hc : cells + 1 ≤ mc) (hs : slots + 6 ≤ ms) :
    gW p l e R s m args below meth c nL A D cl cells slots (vx_MQ below Qc (gXC D cl tys ws pe A) args s mc ms A) ws lv pc st := by
  intro H locs ls hP hD hS hl
  obtain ⟨sa, hsa⟩ := hT.2.2 _ hstr
  refine vx_throwS Z.1 Z.2.1 hl0 Z.2.2.2.1 hcls hnames (Z.2.2.2.2.1 _ hk) (Z.2.2.2.2.1 _ hini) hsa hat hgood hT.1 hT.2.1 hS (hl.1.trans Z.2.2.1.symm) d0 d3 d4 d6 d9 (fun x hx => (htab x hx).elim) hfr hlo hce hsl Z.2.2.2.2.2.2.2.1 (fun t hW hz hk1 => ?_) hS.2.2 hc hs
  refine ⟨(), trivial, ⟨he, hP.kept (fun k x hx => hk1 x.1 ((hP k x hx).lt)), va_K.moved hW Z.2.2.2.2.2.1, hD⟩, Nat.le_trans hS.1 hz, fun q h1 h2 => ?_⟩
  rw [hk1 q (Nat.lt_of_lt_of_le h1 hS.1)]
  exact hS.2.1 q h1 h2

theorem g_callE {wc wr : va_W} {mc ms : Nat} {a : Array Value} {E0 : String} (Z : gZ p s m args meth c cc nL own Ts A D cl tys) (isC isR pm : List Nat)
    (run : ∀ (H : Heap) (locs : List Loc) (ls : Array Slot), va_P D cl ws H → va_D A ws → va_S A s.heap H locs → lv_has ls nL lv → vx_Run p l e R s m args below meth c H locs cells slots mc ms (F0 m pc ls st) rest (gQE (va_A wc H.size) a) (gXC D cl tys wc (fun E => E = E0) (va_A wc H.size)) (va_A wc H.size))
    (hC : isC.map (fun i => ws[i]?) = wc.map some) (hR : isR.map (fun i => ws[i]?) = wr.map some) (hn : va_nd isR = true) (hdis : ∀ i ∈ isR, i ∉ isC) (hpn : va_nd pm = true) (hpx : pm.map (fun i => (wr ++ wc)[i]?) = ws.map some)
    (kx : gX p l e R s m args below meth c nL A D cl (cells + mc) (slots + ms) Q E0 ws lv pc rest) : gW p l e R s m args below meth c nL A D cl cells slots Q ws lv (pc) (st) := by
  intro H locs ls hP hD hS hl
  have hF := va_free (wc := wc) hD hS Z.2.2.2.2.2.2.1 isC hC
  refine vx_callv (run H locs ls hP hD hS hl) hS (fun q _ h => hF q h) hF (fun q _ h => hF q h) (fun E ce q9 u t H1 locs1 ht hvm hpx1 hB hz1 hk1 hS h1 h2 h3 => ?_) (fun u t H1 locs1 ht hvm hw hB hz1 hk1 hS => hw.elim)
  obtain ⟨hE, hP1, hK1, hD1⟩ := hB
  subst hE
  rw [ht] at hP1
  obtain ⟨hP, hD⟩ := va_join (wr := wr) (w1 := wc) hP hD isC isR hC hR hn hdis hk1 hF hP1 hD1
  exact kx H1 locs1 ls q9 ce (hP.sub pm (g_fm hpx)) (hD.sub pm hpn hpx) hS hl h1 h2 h3

theorem gT_sub {ow : String} {strs : List (Nat × String)} {A B : Nat → Prop} {s U : State} {H : Heap} {locs : List Loc} (hT : gT ow strs A s) (hS : va_S A s.heap H locs) (hU : U.heap = H) (hW : s.WarmedH U.vm) (hAB : ∀ q, B q → A q) : gT ow strs B U := by
  obtain ⟨t1, t2, t3⟩ := hT
  have hk : ∀ a : Nat, a < s.heap.size → ¬ A a → U.heap[a]? = s.heap[a]? := fun a h1 h2 => by rw [hU]; exact hS.2.1 a h1 h2
  exact ⟨((t1.moved hW.alike).kept hk).narrow hAB, ((t2.moved hW.alike).kept hk).narrow hAB, fun q hq => by obtain ⟨sa, h⟩ := t3 q hq; exact ⟨sa, h.warm hW⟩⟩

theorem g_runXV {y : MethodName} {bytes : ByteArray} {maxL mc ms n index : Nat} {ret : Option FieldType} {wsy : List Cond} {rm : Room} {wc : va_W} {Qc : Nat → Array Value → State → Outcome → State → Prop} {XC : Nat → String → State → State → Prop} {As : List Value} {strs : List (Nat × String)} {ow : String} {C : String} {b : Addr} {ci : Nat} {fs : List Value} {q : vw_C} (Z : gZ p s m args meth c cc nL own Ts A D cl tys) (hT : gT ow strs A s) (hM : ∀ sz : Nat, vx_Met l y wsy rm (va_Pc (.ref b :: As) (gPX D cl tys wc sz ow strs)) (Qc sz) (XC sz) mc ms (va_A wc sz)) (cw : CallW R s args own C index y bytes maxL ret wsy rm mc ms n) (isC : List Nat) (hC : isC.map (fun i => ws[i]?) = wc.map some) (hnC : va_nd isC = true) (r0 : Nat) (hr0 : wc[r0]? = some (b, .inr (ci, fs))) (hcl : cl[ci]? = some q) (hq : q.1 = C) (hst : st = As.reverse ++ .ref b :: rest) (hn : As.length = n) (hW : (rest.map fun v => v.category).sum ≤ 8) (d : decode cc pc = .ok (.invokevirtual index, 3)) (hf : cells + mc ≤ R.cells ∧ slots + ms ≤ R.slots) :
    ∀ (H : Heap) (locs : List Loc) (ls : Array Slot), va_P D cl ws H → va_D A ws → va_S A s.heap H locs → lv_has ls nL lv → vx_Run p l e R s m args below meth c H locs cells slots mc ms (F0 m pc ls st) rest (Qc H.size (Value.ref b :: As).toArray) (XC H.size) (va_A wc H.size) := by
  intro H locs ls hP hD hS hl
  have hPc := hP.sub isC (g_fm hC)
  have hDc := hD.sub isC hnC hC
  have hF := va_free (wc := wc) hD hS Z.2.2.2.2.2.2.1 isC hC
  exact vx_runV (As := As) (rest := rest) ⟨Z.1, Z.2.1, Z.2.2.1, Z.2.2.2.1, Z.2.2.2.2.1⟩ (hM H.size) cw ⟨gPX_blind, hq ▸ va_recv Z.2.2.2.2.2.1 hPc hcl hr0, fun U hU hW => ⟨rfl, ⟨by rw [hU], by rw [hU]; exact hPc, va_K.moved hW.alike Z.2.2.2.2.2.1, hDc.weaken (fun _ _ _ _ => trivial), gN.warm hW Z.2.2.2.2.2.2.2.2⟩, gT_sub hT hS hU hW hF⟩⟩ rfl hn hl.1 hst (lv_room hW) d hf

end GX
