section GC
variable {p : Program} {l : Launch} {e : Env} {R : Room} {s : State} {m : MethodId} {args : Array Value} {below : List Frame} {meth : Method} {c : Code} {cells slots : Nat} {Q : State → Prop}
variable {cc : ByteArray} {nL : Nat} {own : String} {Ts : List Cond} {A : Nat → Prop} {D : va_G} {cl : List vw_C} {tys : List (ClassId × FieldType)}
variable {ws ws' : va_W} {lv lv' : List (Nat × Value)} {pc : Nat} {st rest : List Value}
theorem g_fm {ws wc : va_W} {is : List Nat} (h : is.map (fun i => ws[i]?) = wc.map some) : is.filterMap (fun i => ws[i]?) = wc := by
  have h2 : (is.map (fun i => ws[i]?)).filterMap id = (wc.map some).filterMap id := by rw [h]
  rw [List.filterMap_map, List.filterMap_map] at h2
  have h3 : wc.filterMap (id ∘ some) = wc := by
    induction wc with
    | nil => rfl
    | cons a t ih => simp
  rw [h3] at h2
  exact h2
/-- more cells and slots than were made -/
theorem g_widen {k n : Nat} (h1 : cells ≤ k) (h2 : slots ≤ n) (kk : gW p l e R s m args below meth c nL A D cl k n Q ws lv pc st) : gW p l e R s m args below meth c nL A D cl cells slots Q ws lv pc st := fun H locs ls hP hD hS hl => W.widen h1 h2 (kk H locs ls hP hD hS hl)
/-- the world's cells in another order, or fewer of them -/
theorem g_perm {ws2 : va_W} (pm : List Nat) (hn : va_nd pm = true) (hp : pm.map (fun i => ws[i]?) = ws2.map some) (kk : gW p l e R s m args below meth c nL A D cl cells slots Q ws2 lv pc st) : gW p l e R s m args below meth c nL A D cl cells slots Q ws lv pc st := fun H locs ls hP hD hS hl => kk H locs ls (hP.sub pm (g_fm hp)) (hD.sub pm hn hp) hS hl
theorem g_locals {lv2 : List (Nat × Value)} (ks : List Nat) (hp : lv_pick lv ks = lv2) (kk : gW p l e R s m args below meth c nL A D cl cells slots Q ws lv2 pc st) : gW p l e R s m args below meth c nL A D cl cells slots Q ws lv pc st := fun H locs ls hP hD hS hl => kk H locs ls hP hD hS (lv_sub hl ks hp)

theorem g_calli {S : Type} {post : Int32 → S → Prop} {w1 ws2 : S → va_W} {wc wr : va_W} {mc ms : Nat} {a : Array Value} (Z : gZ p s m args meth c cc nL own Ts A D cl tys) (isC isR pm : List Nat)
    (run : ∀ (H : Heap) (locs : List Loc) (ls : Array Slot), va_P D cl ws H → va_D A ws → va_S A s.heap H locs → lv_has ls nL lv → va_Run p l e R s m args below meth c H locs cells slots mc ms (F0 m pc ls st) rest (va_Qi post (gB D cl tys (va_A wc H.size) w1) (va_A wc H.size) a) (va_A wc H.size))
    (hC : isC.map (fun i => ws[i]?) = wc.map some) (hR : isR.map (fun i => ws[i]?) = wr.map some) (hn : va_nd isR = true) (hdis : ∀ i ∈ isR, i ∉ isC) (hpn : va_nd pm = true) (hp : ∀ u, pm.map (fun i => (wr ++ w1 u)[i]?) = (ws2 u).map some)
    (k : ∀ (r : Int32) (u : S), post r u → gW p l e R s m args below meth c nL A D cl (cells + mc) (slots + ms) Q (ws2 u) lv (pc + 3) (.int r :: rest)) : gW p l e R s m args below meth c nL A D cl cells slots Q ws lv (pc) (st) := by
  intro H locs ls hP hD hS hl
  have hF := va_free (wc := wc) hD hS Z.2.2.2.2.2.2.1 isC hC
  refine va_calli (run H locs ls hP hD hS hl) hS (fun q _ h => hF q h) hF (fun r u t H1 locs1 ht hvm hw hB hz1 hk1 hS => ?_)
  obtain ⟨hP1, hK1, hD1⟩ := hB
  rw [ht] at hP1
  obtain ⟨hP, hD⟩ := va_join (wr := wr) (w1 := w1 u) hP hD isC isR hC hR hn hdis hk1 hF hP1 hD1
  exact k r u hw H1 locs1 ls (hP.sub pm (g_fm (hp u))) (hD.sub pm hpn (hp u)) hS hl

theorem g_calll {S : Type} {post : Int64 → S → Prop} {w1 ws2 : S → va_W} {wc wr : va_W} {mc ms : Nat} {a : Array Value} (Z : gZ p s m args meth c cc nL own Ts A D cl tys) (isC isR pm : List Nat)
    (run : ∀ (H : Heap) (locs : List Loc) (ls : Array Slot), va_P D cl ws H → va_D A ws → va_S A s.heap H locs → lv_has ls nL lv → va_Run p l e R s m args below meth c H locs cells slots mc ms (F0 m pc ls st) rest (va_Ql post (gB D cl tys (va_A wc H.size) w1) (va_A wc H.size) a) (va_A wc H.size))
    (hC : isC.map (fun i => ws[i]?) = wc.map some) (hR : isR.map (fun i => ws[i]?) = wr.map some) (hn : va_nd isR = true) (hdis : ∀ i ∈ isR, i ∉ isC) (hpn : va_nd pm = true) (hp : ∀ u, pm.map (fun i => (wr ++ w1 u)[i]?) = (ws2 u).map some)
    (k : ∀ (r : Int64) (u : S), post r u → gW p l e R s m args below meth c nL A D cl (cells + mc) (slots + ms) Q (ws2 u) lv (pc + 3) (.long r :: rest)) : gW p l e R s m args below meth c nL A D cl cells slots Q ws lv (pc) (st) := by
  intro H locs ls hP hD hS hl
  have hF := va_free (wc := wc) hD hS Z.2.2.2.2.2.2.1 isC hC
  refine va_calll (run H locs ls hP hD hS hl) hS (fun q _ h => hF q h) hF (fun r u t H1 locs1 ht hvm hw hB hz1 hk1 hS => ?_)
  obtain ⟨hP1, hK1, hD1⟩ := hB
  rw [ht] at hP1
  obtain ⟨hP, hD⟩ := va_join (wr := wr) (w1 := w1 u) hP hD isC isR hC hR hn hdis hk1 hF hP1 hD1
  exact k r u hw H1 locs1 ls (hP.sub pm (g_fm (hp u))) (hD.sub pm hpn (hp u)) hS hl

theorem g_callv {S : Type} {post : S → Prop} {w1 ws2 : S → va_W} {wc wr : va_W} {mc ms : Nat} {a : Array Value} (Z : gZ p s m args meth c cc nL own Ts A D cl tys) (isC isR pm : List Nat)
    (run : ∀ (H : Heap) (locs : List Loc) (ls : Array Slot), va_P D cl ws H → va_D A ws → va_S A s.heap H locs → lv_has ls nL lv → va_Run p l e R s m args below meth c H locs cells slots mc ms (F0 m pc ls st) rest (va_Qv post (gB D cl tys (va_A wc H.size) w1) (va_A wc H.size) a) (va_A wc H.size))
    (hC : isC.map (fun i => ws[i]?) = wc.map some) (hR : isR.map (fun i => ws[i]?) = wr.map some) (hn : va_nd isR = true) (hdis : ∀ i ∈ isR, i ∉ isC) (hpn : va_nd pm = true) (hp : ∀ u, pm.map (fun i => (wr ++ w1 u)[i]?) = (ws2 u).map some)
    (k : ∀ u : S, post u → gW p l e R s m args below meth c nL A D cl (cells + mc) (slots + ms) Q (ws2 u) lv (pc + 3) (rest)) : gW p l e R s m args below meth c nL A D cl cells slots Q ws lv (pc) (st) := by
  intro H locs ls hP hD hS hl
  have hF := va_free (wc := wc) hD hS Z.2.2.2.2.2.2.1 isC hC
  refine va_callv (run H locs ls hP hD hS hl) hS (fun q _ h => hF q h) hF (fun u t H1 locs1 ht hvm hw hB hz1 hk1 hS => ?_)
  obtain ⟨hP1, hK1, hD1⟩ := hB
  rw [ht] at hP1
  obtain ⟨hP, hD⟩ := va_join (wr := wr) (w1 := w1 u) hP hD isC isR hC hR hn hdis hk1 hF hP1 hD1
  exact k u hw H1 locs1 ls (hP.sub pm (g_fm (hp u))) (hD.sub pm hpn (hp u)) hS hl

theorem g_runV {y : MethodName} {bytes : ByteArray} {maxL mc ms n index : Nat} {ret : Option FieldType} {wsy : List Cond} {rm : Room} {wc : va_W} {Qc : Nat → Array Value → State → Outcome → State → Prop} {As : List Value} {C : String} {b : Addr} {ci : Nat} {fs : List Value} {q : vw_C} (Z : gZ p s m args meth c cc nL own Ts A D cl tys) (hM : ∀ sz : Nat, Met l y wsy rm (va_Pc (.ref b :: As) (gP D cl tys wc sz)) (Qc sz) mc ms (va_A wc sz)) (cw : CallW R s args own C index y bytes maxL ret wsy rm mc ms n) (isC : List Nat) (hC : isC.map (fun i => ws[i]?) = wc.map some) (hnC : va_nd isC = true) (r0 : Nat) (hr0 : wc[r0]? = some (b, .inr (ci, fs))) (hcl : cl[ci]? = some q) (hq : q.1 = C) (hst : st = As.reverse ++ .ref b :: rest) (hn : As.length = n) (hW : (rest.map fun v => v.category).sum ≤ 8) (d : decode cc pc = .ok (.invokevirtual index, 3)) (hf : cells + mc ≤ R.cells ∧ slots + ms ≤ R.slots) :
    ∀ (H : Heap) (locs : List Loc) (ls : Array Slot), va_P D cl ws H → va_D A ws → va_S A s.heap H locs → lv_has ls nL lv → va_Run p l e R s m args below meth c H locs cells slots mc ms (F0 m pc ls st) rest (Qc H.size (Value.ref b :: As).toArray) (va_A wc H.size) := by
  intro H locs ls hP hD hS hl
  have hPc := hP.sub isC (g_fm hC)
  have hDc := hD.sub isC hnC hC
  exact va_runV (As := As) (rest := rest) ⟨Z.1, Z.2.1, Z.2.2.1, Z.2.2.2.1, Z.2.2.2.2.1⟩ (hM H.size) cw ⟨gP_blind, hq ▸ va_recv Z.2.2.2.2.2.1 hPc hcl hr0, fun U hU hW => ⟨rfl, by rw [hU], by rw [hU]; exact hPc, va_K.moved hW.alike Z.2.2.2.2.2.1, hDc.weaken (fun _ _ _ _ => trivial), gN.warm hW Z.2.2.2.2.2.2.2.2⟩⟩ rfl hn hl.1 hst (lv_room hW) d hf

theorem g_runVN {y : MethodName} {bytes : ByteArray} {maxL mc ms n index : Nat} {ret : Option FieldType} {wsy : List Cond} {rm : Room} {wc : va_W} {Qc : Nat → Array Value → State → Outcome → State → Prop} {As : List Value} {C host : String} {b : Addr} {ci : Nat} {fs : List Value} {q : vw_C} (Z : gZ p s m args meth c cc nL own Ts A D cl tys) (hM : ∀ sz : Nat, Met l y wsy rm (va_Pc (.ref b :: As) (gP D cl tys wc sz)) (Qc sz) mc ms (va_A wc sz)) (cw : va_CN R s args own index y host bytes maxL ret wsy rm mc ms n ∧ (Cond.instanceMethod y).before args s = true ∧ (Cond.selects C y y).before args s = true) (isC : List Nat) (hC : isC.map (fun i => ws[i]?) = wc.map some) (hnC : va_nd isC = true) (r0 : Nat) (hr0 : wc[r0]? = some (b, .inr (ci, fs))) (hcl : cl[ci]? = some q) (hq : q.1 = C) (hst : st = As.reverse ++ .ref b :: rest) (hn : As.length = n) (hW : (rest.map fun v => v.category).sum ≤ 8) (d : decode cc pc = .ok (.invokevirtual index, 3)) (hf : cells + mc ≤ R.cells ∧ slots + ms ≤ R.slots) :
    ∀ (H : Heap) (locs : List Loc) (ls : Array Slot), va_P D cl ws H → va_D A ws → va_S A s.heap H locs → lv_has ls nL lv → va_Run p l e R s m args below meth c H locs cells slots mc ms (F0 m pc ls st) rest (Qc H.size (Value.ref b :: As).toArray) (va_A wc H.size) := by
  intro H locs ls hP hD hS hl
  have hPc := hP.sub isC (g_fm hC)
  have hDc := hD.sub isC hnC hC
  exact va_runVN (As := As) (rest := rest) ⟨Z.1, Z.2.1, Z.2.2.1, Z.2.2.2.1, Z.2.2.2.2.1⟩ (hM H.size) cw ⟨gP_blind, hq ▸ va_recv Z.2.2.2.2.2.1 hPc hcl hr0, fun U hU hW => ⟨rfl, by rw [hU], by rw [hU]; exact hPc, va_K.moved hW.alike Z.2.2.2.2.2.1, hDc.weaken (fun _ _ _ _ => trivial), gN.warm hW Z.2.2.2.2.2.2.2.2⟩⟩ rfl hn hl.1 hst (lv_room hW) d hf

theorem g_runS {y : MethodName} {bytes : ByteArray} {maxL mc ms n index : Nat} {ret : Option FieldType} {wsy : List Cond} {rm : Room} {wc : va_W} {Qc : Nat → Array Value → State → Outcome → State → Prop} {As : List Value}   (Z : gZ p s m args meth c cc nL own Ts A D cl tys) (hM : ∀ sz : Nat, Met l y wsy rm (va_Pc As (gP D cl tys wc sz)) (Qc sz) mc ms (va_A wc sz)) (cw : CallB R s args own index y bytes maxL ret wsy rm mc ms n ∧ (Cond.static y).before args s = true) (isC : List Nat) (hC : isC.map (fun i => ws[i]?) = wc.map some) (hnC : va_nd isC = true)  (hst : st = As.reverse ++ rest) (hn : As.length = n) (hW : (rest.map fun v => v.category).sum ≤ 8) (d : decode cc pc = .ok (.invokestatic index, 3)) (hf : cells + mc ≤ R.cells ∧ slots + ms ≤ R.slots) :
    ∀ (H : Heap) (locs : List Loc) (ls : Array Slot), va_P D cl ws H → va_D A ws → va_S A s.heap H locs → lv_has ls nL lv → va_Run p l e R s m args below meth c H locs cells slots mc ms (F0 m pc ls st) rest (Qc H.size As.toArray) (va_A wc H.size) := by
  intro H locs ls hP hD hS hl
  have hPc := hP.sub isC (g_fm hC)
  have hDc := hD.sub isC hnC hC
  exact va_runS (As := As) (rest := rest) ⟨Z.1, Z.2.1, Z.2.2.1, Z.2.2.2.1, Z.2.2.2.2.1⟩ (hM H.size) cw ⟨gP_blind, fun U hU hW => ⟨rfl, by rw [hU], by rw [hU]; exact hPc, va_K.moved hW.alike Z.2.2.2.2.2.1, hDc.weaken (fun _ _ _ _ => trivial), gN.warm hW Z.2.2.2.2.2.2.2.2⟩⟩ rfl hn hl.1 hst (lv_room hW) d hf

theorem g_runSN {y : MethodName} {bytes : ByteArray} {maxL mc ms n index : Nat} {ret : Option FieldType} {wsy : List Cond} {rm : Room} {wc : va_W} {Qc : Nat → Array Value → State → Outcome → State → Prop} {As : List Value} {host : String}  (Z : gZ p s m args meth c cc nL own Ts A D cl tys) (hM : ∀ sz : Nat, Met l y wsy rm (va_Pc As (gP D cl tys wc sz)) (Qc sz) mc ms (va_A wc sz)) (cw : va_CN R s args own index y host bytes maxL ret wsy rm mc ms n ∧ (Cond.static y).before args s = true ∧ True) (isC : List Nat) (hC : isC.map (fun i => ws[i]?) = wc.map some) (hnC : va_nd isC = true)  (hst : st = As.reverse ++ rest) (hn : As.length = n) (hW : (rest.map fun v => v.category).sum ≤ 8) (d : decode cc pc = .ok (.invokestatic index, 3)) (hf : cells + mc ≤ R.cells ∧ slots + ms ≤ R.slots) :
    ∀ (H : Heap) (locs : List Loc) (ls : Array Slot), va_P D cl ws H → va_D A ws → va_S A s.heap H locs → lv_has ls nL lv → va_Run p l e R s m args below meth c H locs cells slots mc ms (F0 m pc ls st) rest (Qc H.size As.toArray) (va_A wc H.size) := by
  intro H locs ls hP hD hS hl
  have hPc := hP.sub isC (g_fm hC)
  have hDc := hD.sub isC hnC hC
  exact va_runSN (As := As) (rest := rest) ⟨Z.1, Z.2.1, Z.2.2.1, Z.2.2.2.1, Z.2.2.2.2.1⟩ (hM H.size) cw ⟨gP_blind, fun U hU hW => ⟨rfl, by rw [hU], by rw [hU]; exact hPc, va_K.moved hW.alike Z.2.2.2.2.2.1, hDc.weaken (fun _ _ _ _ => trivial), gN.warm hW Z.2.2.2.2.2.2.2.2⟩⟩ rfl hn hl.1 hst (lv_room hW) d hf

theorem g_runI {y : MethodName} {bytes : ByteArray} {maxL mc ms n index : Nat} {ret : Option FieldType} {wsy : List Cond} {rm : Room} {wc : va_W} {Qc : Nat → Array Value → State → Outcome → State → Prop} {As : List Value} {b : Addr}  (Z : gZ p s m args meth c cc nL own Ts A D cl tys) (hM : ∀ sz : Nat, Met l y wsy rm (va_Pc (.ref b :: As) (gP D cl tys wc sz)) (Qc sz) mc ms (va_A wc sz)) (cw : CallB R s args own index y bytes maxL none wsy rm mc ms n ∧ y.name = "<init>" ∧ (Cond.instanceMethod y).before args s = true) (isC : List Nat) (hC : isC.map (fun i => ws[i]?) = wc.map some) (hnC : va_nd isC = true)  (hst : st = As.reverse ++ .ref b :: rest) (hn : As.length = n) (hW : (rest.map fun v => v.category).sum ≤ 8) (d : decode cc pc = .ok (.invokespecial index, 3)) (hf : cells + mc ≤ R.cells ∧ slots + ms ≤ R.slots) :
    ∀ (H : Heap) (locs : List Loc) (ls : Array Slot), va_P D cl ws H → va_D A ws → va_S A s.heap H locs → lv_has ls nL lv → va_Run p l e R s m args below meth c H locs cells slots mc ms (F0 m pc ls st) rest (Qc H.size (Value.ref b :: As).toArray) (va_A wc H.size) := by
  intro H locs ls hP hD hS hl
  have hPc := hP.sub isC (g_fm hC)
  have hDc := hD.sub isC hnC hC
  exact va_runI (As := As) (rest := rest) ⟨Z.1, Z.2.1, Z.2.2.1, Z.2.2.2.1, Z.2.2.2.2.1⟩ (hM H.size) cw ⟨gP_blind, fun U hU hW => ⟨rfl, by rw [hU], by rw [hU]; exact hPc, va_K.moved hW.alike Z.2.2.2.2.2.1, hDc.weaken (fun _ _ _ _ => trivial), gN.warm hW Z.2.2.2.2.2.2.2.2⟩⟩ rfl hn hl.1 hst (lv_room hW) d hf

theorem g_runIN {y : MethodName} {bytes : ByteArray} {maxL mc ms n index : Nat} {ret : Option FieldType} {wsy : List Cond} {rm : Room} {wc : va_W} {Qc : Nat → Array Value → State → Outcome → State → Prop} {As : List Value} {host : String} {b : Addr}  (Z : gZ p s m args meth c cc nL own Ts A D cl tys) (hM : ∀ sz : Nat, Met l y wsy rm (va_Pc (.ref b :: As) (gP D cl tys wc sz)) (Qc sz) mc ms (va_A wc sz)) (cw : va_CN R s args own index y host bytes maxL none wsy rm mc ms n ∧ y.name = "<init>" ∧ (Cond.instanceMethod y).before args s = true) (isC : List Nat) (hC : isC.map (fun i => ws[i]?) = wc.map some) (hnC : va_nd isC = true)  (hst : st = As.reverse ++ .ref b :: rest) (hn : As.length = n) (hW : (rest.map fun v => v.category).sum ≤ 8) (d : decode cc pc = .ok (.invokespecial index, 3)) (hf : cells + mc ≤ R.cells ∧ slots + ms ≤ R.slots) :
    ∀ (H : Heap) (locs : List Loc) (ls : Array Slot), va_P D cl ws H → va_D A ws → va_S A s.heap H locs → lv_has ls nL lv → va_Run p l e R s m args below meth c H locs cells slots mc ms (F0 m pc ls st) rest (Qc H.size (Value.ref b :: As).toArray) (va_A wc H.size) := by
  intro H locs ls hP hD hS hl
  have hPc := hP.sub isC (g_fm hC)
  have hDc := hD.sub isC hnC hC
  exact va_runIN (As := As) (rest := rest) ⟨Z.1, Z.2.1, Z.2.2.1, Z.2.2.2.1, Z.2.2.2.2.1⟩ (hM H.size) cw ⟨gP_blind, fun U hU hW => ⟨rfl, by rw [hU], by rw [hU]; exact hPc, va_K.moved hW.alike Z.2.2.2.2.2.1, hDc.weaken (fun _ _ _ _ => trivial), gN.warm hW Z.2.2.2.2.2.2.2.2⟩⟩ rfl hn hl.1 hst (lv_room hW) d hf

theorem g_new (Z : gZ p s m args meth c cc nL own Ts A D cl tys) {C : String} {T : u_T} {N ci index : Nat} {fs : List Value} {ty0 : Nat → FieldType} (d : decode cc pc = .ok (.new index, 3)) (hcl : Cond.classLink own index C ∈ Ts) (hinst : Cond.instantiable C N ∈ Ts) (hini : Cond.initialized C ∈ Ts) (hin : ∀ w ∈ u_ws C T N, w ∈ Ts) (hty : ∀ k, k < N → parseFieldDescriptor (T k).2.2.1 = some (ty0 k)) (hc : cl[ci]? = some (C, T, N)) (hfs : ∀ j, j < N → defaultValue (ty0 j) = vp_V fs j) (hcells : cells + 1 ≤ R.cells) (hslots : slots + N ≤ R.slots)
    (k : ∀ q : Nat, gW p l e R s m args below meth c nL A D cl (cells + 1) (slots + N) Q (ws ++ [(q, .inr (ci, fs))]) lv (pc + 3) (.ref q :: st)) : gW p l e R s m args below meth c nL A D cl cells slots Q ws lv (pc) (st) := fun H locs ls hP hD hS hl => va_new Z.1 Z.2.1 Z.2.2.2.2.1 hin ty0 hty Z.2.2.2.1 (Z.2.2.2.2.1 _ hcl) (Z.2.2.2.2.1 _ hinst) (Z.2.2.2.2.1 _ hini) Z.2.2.2.2.2.1 hP hD hS Z.2.2.2.2.2.2.1 hc hfs hcells hslots d (fun q H1 hP hD hS => k q H1 locs ls hP hD hS hl)
theorem g_newa (Z : gZ p s m args meth c cc nL own Ts A D cl tys) {atype : ArrayType} {ty : FieldType} {n : Int32} {N' : Nat} {a0 : vp_A} {cA : ClassId} (t0 : Nat) (d : decode cc pc = .ok (.newarray atype, 2)) (harr : Cond.arrayClass (newarray.typeOf atype) ∈ Ts) (hty : newarray.typeOf atype = ty) (hra : ∀ (U : State) (c9 : ClassId), va_RA U c9 ty → U.vm.findClass ("[" ++ ty.toString) = some c9) (ht : tys[t0]? = some (cA, ty)) (ha : ∀ cA : ClassId, vp_cell cA a0 = arrV cA N' (fun _ => defaultValue ty)) (hn : ¬ n < 0) (hN : n.toNatClampNeg = N') (hbytes : N' * componentBytes ty ≤ 536870912) (hcells : cells + 1 ≤ R.cells) (hslots : slots + N' ≤ R.slots)
    (k : ∀ q : Nat, gW p l e R s m args below meth c nL A D cl (cells + 1) (slots + N') Q (ws ++ [(q, .inl (cA, a0))]) lv (pc + 2) (.ref q :: st)) : gW p l e R s m args below meth c nL A D cl cells slots Q ws lv (pc) (.int n :: st) := fun H locs ls hP hD hS hl => va_newa Z.1 Z.2.1 (Z.2.2.2.2.1 _ harr) hty Z.2.2.2.2.2.1 hP hD hS Z.2.2.2.2.2.2.1 ha hn hN hbytes hcells hslots d (fun q cA' H1 hK hP hD hS => by
      have e1 := hra _ _ (hK.2 tys.length (cA', ty) (by simp)).2
      have e2 := hra _ _ (Z.2.2.2.2.2.1.2 t0 _ ht).2
      have e3 : cA' = cA := Option.some.inj (e1.symm.trans e2)
      subst e3
      exact k q H1 locs ls hP hD hS hl)
theorem g_objInit (Z : gZ p s m args meth c cc nL own Ts A D cl tys) {index a : Nat} (d : decode cc pc = .ok (.invokespecial index, 3)) (hlink : Cond.methodLink own index Lib.objectInit ∈ Ts) (hinst : Cond.instanceMethod Lib.objectInit ∈ Ts) (hcode : Cond.code Lib.objectInit ⟨#[0xb1]⟩ 1 none ∈ Ts) (hframes : 1 ≤ R.frames) (hlocals : 2 * 0 + (st.map fun v => v.category).sum + 12 ≤ R.locals)
    (k : gW p l e R s m args below meth c nL A D cl cells slots Q ws lv (pc + 3) (st)) : gW p l e R s m args below meth c nL A D cl cells slots Q ws lv (pc) (.ref a :: st) := fun H locs ls hP hD hS hl => W.objInit Z.1 Z.2.1 Z.2.2.2.1 (Z.2.2.2.2.1 _ hlink) (Z.2.2.2.2.1 _ hinst) (Z.2.2.2.2.1 _ hcode) rfl (Z.2.2.1.symm ▸ hl.1) rfl d hframes hlocals (k H locs ls hP hD hS hl)
end GC

