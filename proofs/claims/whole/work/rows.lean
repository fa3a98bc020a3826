section
-- the skeleton, PART A (starting text of kit/laws)
/-- a private method of a class that the tables say can be made, by its rows of tables_1 -/
def lw_okq (q : MethodName × Nat) : Prop := (q.1.cls ≠ "java/lang/invoke/MethodHandle" ∧ q.1.cls ≠ "java/lang/invoke/VarHandle") ∧ Cond.instantiable q.1.cls q.2 ∈ tables_1 ∧ Cond.privateMethod q.1 ∈ tables_1 ∧ Cond.instanceMethod q.1 ∈ tables_1
theorem lw_p0 : lw_okq (⟨"RedoHeap", "needPower", "()V"⟩, 4) := ⟨⟨by decide +kernel, by decide +kernel⟩, List.mem_of_getElem? (i := 16) (by decide +kernel), List.mem_of_getElem? (i := 145) (by decide +kernel), List.mem_of_getElem? (i := 146) (by decide +kernel)⟩
theorem lw_p1 : lw_okq (⟨"java/lang/Throwable", "fillInStackTrace", "(I)Ljava/lang/Throwable;"⟩, 6) := ⟨⟨by decide +kernel, by decide +kernel⟩, List.mem_of_getElem? (i := 191) (by decide +kernel), List.mem_of_getElem? (i := 189) (by decide +kernel), List.mem_of_getElem? (i := 190) (by decide +kernel)⟩
theorem lw_p2 : lw_okq (⟨"RedoHeap", "needTransaction", "()V"⟩, 4) := ⟨⟨by decide +kernel, by decide +kernel⟩, List.mem_of_getElem? (i := 16) (by decide +kernel), List.mem_of_getElem? (i := 242) (by decide +kernel), List.mem_of_getElem? (i := 243) (by decide +kernel)⟩
theorem lw_p3 : lw_okq (⟨"RedoHeap$Blocks", "firstFree", "(I)I"⟩, 1) := ⟨⟨by decide +kernel, by decide +kernel⟩, List.mem_of_getElem? (i := 114) (by decide +kernel), List.mem_of_getElem? (i := 267) (by decide +kernel), List.mem_of_getElem? (i := 268) (by decide +kernel)⟩
theorem lw_p4 : lw_okq (⟨"RedoHeap$Blocks", "freeAt", "(I)I"⟩, 1) := ⟨⟨by decide +kernel, by decide +kernel⟩, List.mem_of_getElem? (i := 114) (by decide +kernel), List.mem_of_getElem? (i := 271) (by decide +kernel), List.mem_of_getElem? (i := 272) (by decide +kernel)⟩
theorem lw_p5 : lw_okq (⟨"RedoHeap$Blocks", "split", "(III)Z"⟩, 1) := ⟨⟨by decide +kernel, by decide +kernel⟩, List.mem_of_getElem? (i := 114) (by decide +kernel), List.mem_of_getElem? (i := 291) (by decide +kernel), List.mem_of_getElem? (i := 292) (by decide +kernel)⟩
theorem lw_p6 : lw_okq (⟨"RedoHeap$Changes", "insert", "(I)V"⟩, 6) := ⟨⟨by decide +kernel, by decide +kernel⟩, List.mem_of_getElem? (i := 88) (by decide +kernel), List.mem_of_getElem? (i := 310) (by decide +kernel), List.mem_of_getElem? (i := 311) (by decide +kernel)⟩
theorem lw_p7 : lw_okq (⟨"RedoHeap", "needUsedBlock", "(I)V"⟩, 4) := ⟨⟨by decide +kernel, by decide +kernel⟩, List.mem_of_getElem? (i := 16) (by decide +kernel), List.mem_of_getElem? (i := 321) (by decide +kernel), List.mem_of_getElem? (i := 322) (by decide +kernel)⟩
theorem lw_p8 : lw_okq (⟨"RedoHeap$Blocks", "headBefore", "(I)I"⟩, 1) := ⟨⟨by decide +kernel, by decide +kernel⟩, List.mem_of_getElem? (i := 114) (by decide +kernel), List.mem_of_getElem? (i := 334) (by decide +kernel), List.mem_of_getElem? (i := 335) (by decide +kernel)⟩
theorem lw_p9 : lw_okq (⟨"RedoHeap", "needBodyWord", "(II)V"⟩, 4) := ⟨⟨by decide +kernel, by decide +kernel⟩, List.mem_of_getElem? (i := 16) (by decide +kernel), List.mem_of_getElem? (i := 345) (by decide +kernel), List.mem_of_getElem? (i := 346) (by decide +kernel)⟩
theorem lw_p10 : lw_okq (⟨"RedoHeap$Log", "writePlaces", "()Z"⟩, 4) := ⟨⟨by decide +kernel, by decide +kernel⟩, List.mem_of_getElem? (i := 69) (by decide +kernel), List.mem_of_getElem? (i := 409) (by decide +kernel), List.mem_of_getElem? (i := 410) (by decide +kernel)⟩
theorem lw_p11 : lw_okq (⟨"RedoHeap$Log", "commitSize", "(I)I"⟩, 4) := ⟨⟨by decide +kernel, by decide +kernel⟩, List.mem_of_getElem? (i := 69) (by decide +kernel), List.mem_of_getElem? (i := 413) (by decide +kernel), List.mem_of_getElem? (i := 414) (by decide +kernel)⟩
theorem lw_p12 : lw_okq (⟨"RedoHeap$Log", "front", "(I)J"⟩, 4) := ⟨⟨by decide +kernel, by decide +kernel⟩, List.mem_of_getElem? (i := 69) (by decide +kernel), List.mem_of_getElem? (i := 422) (by decide +kernel), List.mem_of_getElem? (i := 423) (by decide +kernel)⟩
theorem lw_p13 : lw_okq (⟨"RedoHeap$Disk", "settleFirst", "(I)V"⟩, 12) := ⟨⟨by decide +kernel, by decide +kernel⟩, List.mem_of_getElem? (i := 24) (by decide +kernel), List.mem_of_getElem? (i := 439) (by decide +kernel), List.mem_of_getElem? (i := 440) (by decide +kernel)⟩
theorem lw_p14 : lw_okq (⟨"RedoHeap$Log", "appendWords", "(LRedoHeap$Changes;I)Z"⟩, 4) := ⟨⟨by decide +kernel, by decide +kernel⟩, List.mem_of_getElem? (i := 69) (by decide +kernel), List.mem_of_getElem? (i := 455) (by decide +kernel), List.mem_of_getElem? (i := 456) (by decide +kernel)⟩
theorem lw_p15 : lw_okq (⟨"RedoHeap", "format", "()V"⟩, 4) := ⟨⟨by decide +kernel, by decide +kernel⟩, List.mem_of_getElem? (i := 16) (by decide +kernel), List.mem_of_getElem? (i := 531) (by decide +kernel), List.mem_of_getElem? (i := 532) (by decide +kernel)⟩
def lw_privs_1 : List (MethodName × Nat) := [(⟨"RedoHeap", "needPower", "()V"⟩, 4), (⟨"java/lang/Throwable", "fillInStackTrace", "(I)Ljava/lang/Throwable;"⟩, 6), (⟨"RedoHeap", "needTransaction", "()V"⟩, 4), (⟨"RedoHeap$Blocks", "firstFree", "(I)I"⟩, 1), (⟨"RedoHeap$Blocks", "freeAt", "(I)I"⟩, 1), (⟨"RedoHeap$Blocks", "split", "(III)Z"⟩, 1), (⟨"RedoHeap$Changes", "insert", "(I)V"⟩, 6), (⟨"RedoHeap", "needUsedBlock", "(I)V"⟩, 4), (⟨"RedoHeap$Blocks", "headBefore", "(I)I"⟩, 1), (⟨"RedoHeap", "needBodyWord", "(II)V"⟩, 4), (⟨"RedoHeap$Log", "writePlaces", "()Z"⟩, 4), (⟨"RedoHeap$Log", "commitSize", "(I)I"⟩, 4), (⟨"RedoHeap$Log", "front", "(I)J"⟩, 4), (⟨"RedoHeap$Disk", "settleFirst", "(I)V"⟩, 12), (⟨"RedoHeap$Log", "appendWords", "(LRedoHeap$Changes;I)Z"⟩, 4), (⟨"RedoHeap", "format", "()V"⟩, 4)]
theorem lw_r1 : ∀ q ∈ lw_privs_1, lw_okq q := List.forall_mem_cons.mpr ⟨lw_p0, List.forall_mem_cons.mpr ⟨lw_p1, List.forall_mem_cons.mpr ⟨lw_p2, List.forall_mem_cons.mpr ⟨lw_p3, List.forall_mem_cons.mpr ⟨lw_p4, List.forall_mem_cons.mpr ⟨lw_p5, List.forall_mem_cons.mpr ⟨lw_p6, List.forall_mem_cons.mpr ⟨lw_p7, List.forall_mem_cons.mpr ⟨lw_p8, List.forall_mem_cons.mpr ⟨lw_p9, List.forall_mem_cons.mpr ⟨lw_p10, List.forall_mem_cons.mpr ⟨lw_p11, List.forall_mem_cons.mpr ⟨lw_p12, List.forall_mem_cons.mpr ⟨lw_p13, List.forall_mem_cons.mpr ⟨lw_p14, List.forall_mem_cons.mpr ⟨lw_p15, fun _ h => absurd h List.not_mem_nil⟩⟩⟩⟩⟩⟩⟩⟩⟩⟩⟩⟩⟩⟩⟩⟩
theorem lw_p16 : lw_okq (⟨"RedoHeapModel", "drop", "()V"⟩, 21) := ⟨⟨by decide +kernel, by decide +kernel⟩, List.mem_of_getElem? (i := 643) (by decide +kernel), List.mem_of_getElem? (i := 721) (by decide +kernel), List.mem_of_getElem? (i := 722) (by decide +kernel)⟩
theorem lw_p17 : lw_okq (⟨"RedoHeapModel", "isShut", "()Z"⟩, 21) := ⟨⟨by decide +kernel, by decide +kernel⟩, List.mem_of_getElem? (i := 643) (by decide +kernel), List.mem_of_getElem? (i := 729) (by decide +kernel), List.mem_of_getElem? (i := 730) (by decide +kernel)⟩
theorem lw_p18 : lw_okq (⟨"RedoHeapModel", "isUsedAt", "(I)Z"⟩, 21) := ⟨⟨by decide +kernel, by decide +kernel⟩, List.mem_of_getElem? (i := 643) (by decide +kernel), List.mem_of_getElem? (i := 733) (by decide +kernel), List.mem_of_getElem? (i := 734) (by decide +kernel)⟩
theorem lw_p19 : lw_okq (⟨"RedoHeapModel", "at", "(I)J"⟩, 21) := ⟨⟨by decide +kernel, by decide +kernel⟩, List.mem_of_getElem? (i := 643) (by decide +kernel), List.mem_of_getElem? (i := 737) (by decide +kernel), List.mem_of_getElem? (i := 738) (by decide +kernel)⟩
theorem lw_p20 : lw_okq (⟨"RedoHeapModel", "sizeAt", "(I)I"⟩, 21) := ⟨⟨by decide +kernel, by decide +kernel⟩, List.mem_of_getElem? (i := 643) (by decide +kernel), List.mem_of_getElem? (i := 742) (by decide +kernel), List.mem_of_getElem? (i := 743) (by decide +kernel)⟩
theorem lw_p21 : lw_okq (⟨"RedoHeapModel", "isMore", "(IJ)Z"⟩, 21) := ⟨⟨by decide +kernel, by decide +kernel⟩, List.mem_of_getElem? (i := 643) (by decide +kernel), List.mem_of_getElem? (i := 746) (by decide +kernel), List.mem_of_getElem? (i := 747) (by decide +kernel)⟩
theorem lw_p22 : lw_okq (⟨"RedoHeapModel", "become", "(IJ)V"⟩, 21) := ⟨⟨by decide +kernel, by decide +kernel⟩, List.mem_of_getElem? (i := 643) (by decide +kernel), List.mem_of_getElem? (i := 750) (by decide +kernel), List.mem_of_getElem? (i := 751) (by decide +kernel)⟩
theorem lw_p23 : lw_okq (⟨"RedoHeapModel", "usedHead", "(I)I"⟩, 21) := ⟨⟨by decide +kernel, by decide +kernel⟩, List.mem_of_getElem? (i := 643) (by decide +kernel), List.mem_of_getElem? (i := 758) (by decide +kernel), List.mem_of_getElem? (i := 759) (by decide +kernel)⟩
theorem lw_p24 : lw_okq (⟨"RedoHeapModel", "tryOne", "(IJ)Z"⟩, 21) := ⟨⟨by decide +kernel, by decide +kernel⟩, List.mem_of_getElem? (i := 643) (by decide +kernel), List.mem_of_getElem? (i := 762) (by decide +kernel), List.mem_of_getElem? (i := 763) (by decide +kernel)⟩
theorem lw_p25 : lw_okq (⟨"RedoHeapModel", "empty", "(II)Z"⟩, 21) := ⟨⟨by decide +kernel, by decide +kernel⟩, List.mem_of_getElem? (i := 643) (by decide +kernel), List.mem_of_getElem? (i := 786) (by decide +kernel), List.mem_of_getElem? (i := 787) (by decide +kernel)⟩
theorem lw_p26 : lw_okq (⟨"RedoHeapModel", "write", "(IJ)Z"⟩, 21) := ⟨⟨by decide +kernel, by decide +kernel⟩, List.mem_of_getElem? (i := 643) (by decide +kernel), List.mem_of_getElem? (i := 791) (by decide +kernel), List.mem_of_getElem? (i := 792) (by decide +kernel)⟩
theorem lw_p27 : lw_okq (⟨"RedoHeapModel", "goOff", "(I)V"⟩, 21) := ⟨⟨by decide +kernel, by decide +kernel⟩, List.mem_of_getElem? (i := 643) (by decide +kernel), List.mem_of_getElem? (i := 795) (by decide +kernel), List.mem_of_getElem? (i := 796) (by decide +kernel)⟩
theorem lw_p28 : lw_okq (⟨"RedoHeapModel", "settle", "(I)V"⟩, 21) := ⟨⟨by decide +kernel, by decide +kernel⟩, List.mem_of_getElem? (i := 643) (by decide +kernel), List.mem_of_getElem? (i := 799) (by decide +kernel), List.mem_of_getElem? (i := 800) (by decide +kernel)⟩
theorem lw_p29 : lw_okq (⟨"RedoHeapModel", "syncAll", "()I"⟩, 21) := ⟨⟨by decide +kernel, by decide +kernel⟩, List.mem_of_getElem? (i := 643) (by decide +kernel), List.mem_of_getElem? (i := 804) (by decide +kernel), List.mem_of_getElem? (i := 805) (by decide +kernel)⟩
theorem lw_p30 : lw_okq (⟨"RedoHeapModel", "find", "()I"⟩, 21) := ⟨⟨by decide +kernel, by decide +kernel⟩, List.mem_of_getElem? (i := 643) (by decide +kernel), List.mem_of_getElem? (i := 835) (by decide +kernel), List.mem_of_getElem? (i := 836) (by decide +kernel)⟩
def lw_privs_2 : List (MethodName × Nat) := [(⟨"RedoHeapModel", "drop", "()V"⟩, 21), (⟨"RedoHeapModel", "isShut", "()Z"⟩, 21), (⟨"RedoHeapModel", "isUsedAt", "(I)Z"⟩, 21), (⟨"RedoHeapModel", "at", "(I)J"⟩, 21), (⟨"RedoHeapModel", "sizeAt", "(I)I"⟩, 21), (⟨"RedoHeapModel", "isMore", "(IJ)Z"⟩, 21), (⟨"RedoHeapModel", "become", "(IJ)V"⟩, 21), (⟨"RedoHeapModel", "usedHead", "(I)I"⟩, 21), (⟨"RedoHeapModel", "tryOne", "(IJ)Z"⟩, 21), (⟨"RedoHeapModel", "empty", "(II)Z"⟩, 21), (⟨"RedoHeapModel", "write", "(IJ)Z"⟩, 21), (⟨"RedoHeapModel", "goOff", "(I)V"⟩, 21), (⟨"RedoHeapModel", "settle", "(I)V"⟩, 21), (⟨"RedoHeapModel", "syncAll", "()I"⟩, 21), (⟨"RedoHeapModel", "find", "()I"⟩, 21)]
theorem lw_r2 : ∀ q ∈ lw_privs_2, lw_okq q := List.forall_mem_cons.mpr ⟨lw_p16, List.forall_mem_cons.mpr ⟨lw_p17, List.forall_mem_cons.mpr ⟨lw_p18, List.forall_mem_cons.mpr ⟨lw_p19, List.forall_mem_cons.mpr ⟨lw_p20, List.forall_mem_cons.mpr ⟨lw_p21, List.forall_mem_cons.mpr ⟨lw_p22, List.forall_mem_cons.mpr ⟨lw_p23, List.forall_mem_cons.mpr ⟨lw_p24, List.forall_mem_cons.mpr ⟨lw_p25, List.forall_mem_cons.mpr ⟨lw_p26, List.forall_mem_cons.mpr ⟨lw_p27, List.forall_mem_cons.mpr ⟨lw_p28, List.forall_mem_cons.mpr ⟨lw_p29, List.forall_mem_cons.mpr ⟨lw_p30, fun _ h => absurd h List.not_mem_nil⟩⟩⟩⟩⟩⟩⟩⟩⟩⟩⟩⟩⟩⟩⟩
def lw_privs : List (MethodName × Nat) := lw_privs_1 ++ (lw_privs_2)
def lw_tbl : List Cond := k2_sels lw_privs ++ tables_1
theorem lw_privs_ok : ∀ q ∈ lw_privs, lw_okq q := by
  show ∀ q ∈ lw_privs_1 ++ (lw_privs_2), lw_okq q
  exact List.forall_mem_append.mpr ⟨lw_r1, lw_r2⟩
end
section
-- claim/NAMES.whole.lean.txt, its first blocks (starting text); the one row that the screen refuses is left out, its names written in full
/-! ===== BEGIN words of one list among another's, by their places ===== -/
theorem goodIn_r {big : List Cond} (ws : List Cond) (ps : List Nat) (hp : ws = ps.filterMap (fun i => big[i]?)) (h : ws.all goodWord = true) : GoodIn big ws := by
  intro w hw
  have h1 := List.all_eq_true.mp h w hw
  rw [hp] at hw
  obtain ⟨i, -, hi⟩ := List.mem_filterMap.mp hw
  have hm : w ∈ big := by first | exact List.mem_of_getElem? hi | exact List.getElem?_mem hi
  exact ⟨hm, good_of_word h1⟩
theorem goodIn_app {big a b : List Cond} (ha : GoodIn big a) (hb : GoodIn big b) : GoodIn big (a ++ b) := fun w h => (List.mem_append.mp h).elim (ha w) (hb w)
theorem goodIn_ca {big a b : List Cond} {c : Cond} (ha : GoodIn big (c :: a)) (hb : GoodIn big b) : GoodIn big (c :: (a ++ b)) := fun w h => (List.mem_cons.mp h).elim (fun e => ha w (List.mem_cons.mpr (Or.inl e))) (fun h => (List.mem_append.mp h).elim (fun h => ha w (List.mem_cons.mpr (Or.inr h))) (hb w))
theorem goodIn_sub {big ws : List Cond} (hm : ∀ w ∈ ws, w ∈ big) (h : ws.all goodWord = true) : GoodIn big ws := fun w hw => ⟨hm w hw, good_of_word (List.all_eq_true.mp h w hw)⟩
/-! ===== END ===== -/

/-! ===== BEGIN exceptions that leave a method, and their catching by the caller (launches without stack traces) ===== -/
section VXA
/-! The laws vx_back, vx_callV, vx_callS, vx_callSW, vx_throw0, vx_throwS follow proofs of the library, with one case more: JvmDerived/Free/Laws.lean (Back.of_free), Shelf42/LK1.lean (callV, callS), Shelf/KitTraced.lean (throwNew0V, throwNewS). -/
/-- where a method has thrown q: the class by its name, the cell, what was written, the world -/
def vx_T (XC : String → State → State → Prop) (st : State) (q : Addr) (t : State) (mc ms : Nat) (free : Addr → Prop) : Prop :=
  ∃ (E : String) (ce : Cell) (L : List Loc), XC E st t ∧ t.heap[q]? = some ce ∧ ce.vm = .none ∧ st.vm.findClass E = some ce.cls ∧ st.WarmedH t.vm ∧ st.sameButNew ({ t with vm := st.vm } : State) L mc ms ∧ ∀ z ∈ L, free z.base
def vx_Q (Qc : Array Value → State → Outcome → State → Prop) (XC : String → State → State → Prop) (mc ms : Nat) (free : Addr → Prop) : Array Value → State → Outcome → State → Prop := fun a st o t =>
  (Qc a st o t ∧ ∃ L, FrameEnd st o t L mc ms ∧ ∀ q ∈ L, free q.base) ∨ ∃ q, o = .threw q ∧ vx_T XC st q t mc ms free
/-- a callee that returns or throws -/
def vx_Met (l : Launch) (y : MethodName) (ws : List Cond) (rm : Room) (Pc : Array Value → State → Prop) (Qc : Array Value → State → Outcome → State → Prop) (XC : String → State → State → Prop) (mc ms : Nat) (free : Addr → Prop) : Prop :=
  MetFree l y (headSpec ws rm) Pc (fun _ _ _ _ _ => True) (vx_Q Qc XC mc ms free)
def vx_Post (XC : String → State → State → Prop) (mc ms : Nat) (free : Addr → Prop) : Pt → Array Value → Addr → Pt → Prop := fun A a q B =>
  ∃ (g : JFrame) (mk : MethodId) (t : State) (L : List Loc) (E : String) (ce : Cell), B.U.heap = t.heap ∧ B.U.vm = t.vm ∧ XC E (A.U.calling g mk a) t ∧ t.heap[q]? = some ce ∧ ce.vm = .none ∧ A.U.vm.findClass E = some ce.cls ∧ B.locs = A.locs ++ L ∧ (∀ z ∈ L, free z.base) ∧ B.cells = A.cells + mc ∧ B.slots = A.slots + ms
def vx_Back (l : Launch) (R : Room) (p : Program) (e : Env) (below : List Frame) (s : State) (sargs : Array Value) (y : MethodName) (len W9 : Nat)
    (Pre : Pt → Array Value → Prop) (Post : Pt → Array Value → Option Value → Pt → Prop) (PostX : Pt → Array Value → Addr → Pt → Prop) : Prop :=
  ∀ (m : MethodId) (meth : Method) (c : Code) (A : Pt) (g : JFrame) (ig : Instr) (mk : MethodId) (a : Array Value),
    Stand p l e R s m sargs below meth c A.U A.locs A.cells A.slots → g.method = m → g.locals.size = c.maxLocals → decode c.code g.pc = .ok (ig, len) →
    2 * g.monitorRoom + (g.stack.map fun v => v.category).sum ≤ W9 → A.U.methodNamed? y = some mk → Pre A a →
    (∃ (v : Option Value) (B : Pt), Stand p l e R s m sargs below meth c B.U B.locs B.cells B.slots ∧ Post A a v B ∧
      Steps p.tables e below (doInvoke e (A.U.setTop g) [] mk a).1 (B.U.setTop { g with pc := g.pc + len, stack := v.toList ++ g.stack })) ∨
    (∃ (q : Addr) (B : Pt), Stand p l e R s m sargs below meth c B.U B.locs B.cells B.slots ∧ PostX A a q B ∧
      Steps p.tables e below (doInvoke e (A.U.setTop g) [] mk a).1 ((B.U.setTop g).pushFrame (.throwing q)))
section Payer
variable {l : Launch} {R : Room} {p : Program} {e : Env} {below : List Frame} {s : State} {sargs : Array Value} {y : MethodName} {len W9 : Nat}
theorem vx_back {ws : List Cond} {rm : Room} {Pc : Array Value → State → Prop} {Qc : Array Value → State → Outcome → State → Prop} {XC : String → State → State → Prop} {mc ms : Nat} {free : Addr → Prop} {bytes : ByteArray} {maxL : Nat} {ret : Option FieldType}
    (hM : vx_Met l y ws rm Pc Qc XC mc ms free) (hblind : FrameBlind Pc) (hrc : rm.cells = mc) (hrs : rm.slots = ms)
    (hframes : rm.frames + 1 ≤ R.frames) (hlocals : W9 + (maxL + 11) + rm.locals ≤ R.locals)
    (hws : ∀ w ∈ ws, ∀ a' U, s.WarmedH U.vm → w.before a' U = true) (hcode : Cond.code y bytes maxL ret ∈ ws) (hinit : ∀ a' U, s.WarmedH U.vm → (Cond.initialized y.cls).before a' U = true) :
    vx_Back l R p e below s sargs y len W9 (PreOf R mc ms Pc) (PostOf Qc mc ms free) (vx_Post XC mc ms free) := by
  intro m meth c A g ig mk a X hg hsize hdg hW hn hp
  have h1 : (headSpec ws rm).pre.before a A.U = true := atoms_intro fun w hw => hws w hw _ _ X.warmed
  have h2 : (Cond.code y bytes maxL ret).before a A.U = true := hws _ hcode _ _ X.warmed
  have h3 : (Cond.initialized y.cls).before a A.U = true := hinit _ _ X.warmed
  have h4 : A.cells + (headSpec ws rm).room.cells ≤ R.cells := by rw [show (headSpec ws rm).room.cells = mc from hrc]; exact hp.1
  have h5 : A.slots + (headSpec ws rm).room.slots ≤ R.slots := by rw [show (headSpec ws rm).room.slots = ms from hrs]; exact hp.2.1
  have hPc : Pc a (A.U.calling g mk a) := hblind _ _ _ _ hp.2.2
  obtain ⟨U, Ls, c0, s0⟩ := A
  dsimp only [Pt.U, Pt.locs, Pt.cells, Pt.slots] at h1 h2 h3 h4 h5 X hn hPc ⊢
  obtain ⟨methY, cY, hmY, hcY, -, hlY, -, -, -, -⟩ := Cond.code_spec hn h2
  obtain ⟨kY, hkY, -⟩ := className_of_methodNamed hn
  have hinitY : kY.init = .initialized := Cond.initialized_spec (findClass_of_methodNamed hn) hkY h3
  have h : At U g.method c below := by rw [hg]; exact X.here
  have hlocals9 : W9 + (maxL + 11) + (headSpec ws rm).room.locals ≤ R.locals := hlocals
  have happ : (headSpec ws rm).appliesLoose y e.platform (U.calling g mk a) = true :=
    Spec.appliesLoose_calling (g := g) h hdg hn hkY hinitY
      (X.room_calling (g := g) (R' := (headSpec ws rm).room) hsize hmY hcY hframes (by rw [hlY]; omega) h4 h5) h1
  obtain ⟨mid, hmid⟩ := h.above
  have hfr : (U.setTop g).frames = (.java g :: mid) ++ below := by rw [State.frames_setTop' g h.top, hmid]; rfl
  obtain ⟨o, s₂, hsteps, -, hend, hq⟩ := Steps.callFree hM p X.admits X.cas X.clock (acts := []) hfr happ hPc trivial
  have hq' : vx_Q Qc XC mc ms free a (U.calling g mk a) o s₂ := hq
  rw [State.frames_setTop' g h.top] at hend
  obtain ⟨g₀, hg0⟩ := Option.isSome_iff_exists.mp h.top
  obtain ⟨r, hr⟩ := State.topJava?_eq_some.mp hg0
  have hr' : (({ U with heap := s₂.heap, slotsUsed := s₂.slotsUsed } : State).setVm s₂.vm).frames = .java g₀ :: r := hr
  rcases hq' with ⟨hqc, L, hfe, hL⟩ | ⟨q, rfl, E, ce, L, hx, hce, hcv, hcl, hW₂, hsm, hL⟩
  · obtain ⟨⟨v, rfl⟩, hW₂, e2, q2, q3, q4, q5, q6⟩ := id hfe
    have e3 : s₂ = ({ (U.calling g mk a).setFrames s₂.frames with heap := s₂.heap, slotsUsed := s₂.slotsUsed } : State).setVm s₂.vm := by
      have : s₂ = ({ s₂ with vm := (U.calling g mk a).vm } : State).setVm s₂.vm := rfl
      rw [e2] at this
      exact this
    obtain ⟨c₂, i₂, len₂, hc₂, hd₂, hf₂⟩ := hend
    have hW' : U.WarmedH s₂.vm := hW₂
    have hcc : c₂ = c := by
      have h1 : s₂.code? g.method = U.code? g.method := by
        rw [State.code?_eq, State.code?_eq, hW'.alike.method?]
      exact Option.some.inj (hc₂.symm.trans (h1.trans h.code))
    subst hcc
    have hlen : len₂ = len := by rw [hdg] at hd₂; cases hd₂; rfl
    subst hlen
    have hs₂ : s₂ = (({ U with heap := s₂.heap, slotsUsed := s₂.slotsUsed } : State).setVm s₂.vm).setTop { g with pc := g.pc + len₂, stack := v.toList ++ g.stack } := by
      refine e3.trans ?_
      rw [hf₂, State.calling_eq h.top, State.setFrames_setFrames, State.setTop_of_frames _ hr', hr]
      rfl
    have hsame : U.sameButNew ({ U with heap := s₂.heap, slotsUsed := s₂.slotsUsed } : State) L mc ms := by
      refine ⟨?_, q2, q3, q4, q5, q6⟩
      obtain ⟨t, ht, -⟩ := State.frames_cons hr
      show ({ U with heap := s₂.heap, slotsUsed := s₂.slotsUsed } : State) = { U.setFrames U.frames with heap := s₂.heap, slotsUsed := s₂.slotsUsed }
      rw [State.setFrames_self ht]
    subst hg
    refine Or.inl ⟨v, ⟨(({ U with heap := s₂.heap, slotsUsed := s₂.slotsUsed } : State).setVm s₂.vm), Ls ++ L, c0 + mc, s0 + ms⟩,
      ⟨X.admits, X.cas, X.clock, X.frames, X.room, X.hears, X.method, X.code, (X.here.setHeapUsed s₂.heap s₂.slotsUsed).setVm hW'.alike, X.tail, State.WarmedH.trans X.warmed hW', X.limits, X.bytes, X.same.trans (hsame.setVm s.vm)⟩,
      ⟨g, mk, s₂, L, rfl, rfl, hqc, rfl, hL, rfl, rfl⟩, ?_⟩
    show Steps p.tables e below _ ((({ U with heap := s₂.heap, slotsUsed := s₂.slotsUsed } : State).setVm s₂.vm).setTop { g with pc := g.pc + len₂, stack := v.toList ++ g.stack })
    rw [← hs₂]
    exact hsteps
  · obtain ⟨e2, q2, q3, q4, q5, q6⟩ := id hsm
    have e3 : s₂ = ({ (U.calling g mk a).setFrames s₂.frames with heap := s₂.heap, slotsUsed := s₂.slotsUsed } : State).setVm s₂.vm := by
      have : s₂ = ({ s₂ with vm := (U.calling g mk a).vm } : State).setVm s₂.vm := rfl
      rw [e2] at this
      exact this
    have hf₂ : s₂.frames = .throwing q :: .java g :: U.frames.tail := hend
    have hW' : U.WarmedH s₂.vm := hW₂
    have hs₂ : s₂ = ((({ U with heap := s₂.heap, slotsUsed := s₂.slotsUsed } : State).setVm s₂.vm).setTop g).pushFrame (.throwing q) := by
      refine e3.trans ?_
      rw [hf₂, State.calling_eq h.top, State.setFrames_setFrames, State.pushFrame, State.frames_setTop _ hr', State.setTop_of_frames _ hr', State.setFrames_setFrames, hr]
      rfl
    have hsame : U.sameButNew ({ U with heap := s₂.heap, slotsUsed := s₂.slotsUsed } : State) L mc ms := by
      refine ⟨?_, q2, q3, q4, q5, q6⟩
      obtain ⟨t, ht, -⟩ := State.frames_cons hr
      show ({ U with heap := s₂.heap, slotsUsed := s₂.slotsUsed } : State) = { U.setFrames U.frames with heap := s₂.heap, slotsUsed := s₂.slotsUsed }
      rw [State.setFrames_self ht]
    subst hg
    refine Or.inr ⟨q, ⟨(({ U with heap := s₂.heap, slotsUsed := s₂.slotsUsed } : State).setVm s₂.vm), Ls ++ L, c0 + mc, s0 + ms⟩,
      ⟨X.admits, X.cas, X.clock, X.frames, X.room, X.hears, X.method, X.code, (X.here.setHeapUsed s₂.heap s₂.slotsUsed).setVm hW'.alike, X.tail, State.WarmedH.trans X.warmed hW', X.limits, X.bytes, X.same.trans (hsame.setVm s.vm)⟩,
      ⟨g, mk, s₂, L, E, ce, rfl, rfl, hx, hce, hcv, hcl, rfl, hL, rfl, rfl⟩, ?_⟩
    show Steps p.tables e below _ (((({ U with heap := s₂.heap, slotsUsed := s₂.slotsUsed } : State).setVm s₂.vm).setTop g).pushFrame (.throwing q))
    rw [← hs₂]
    exact hsteps
end Payer
section Calls
variable {p : Program} {l : Launch} {e : Env} {R : Room} {s : State} {m : MethodId} {args : Array Value} {below : List Frame} {meth : Method} {c : Code} {T : State} {locs : List Loc} {cells slots : Nat}
theorem vx_callV (X : Stand p l e R s m args below meth c T locs cells slots) (hexec : p.tables.exec = Jvm.exec) {own C : String} {index : Nat} {y : MethodName} {bytes : ByteArray} {maxL : Nat} {ret : Option FieldType}
    (hown : s.vm.findClass own = some m.cls) (hlink : (Cond.methodLink own index y).before args s = true) (hinst : (Cond.instanceMethod y).before args s = true) (hsel : (Cond.selects C y y).before args s = true)
    (hcode : (Cond.code y bytes maxL ret).before args s = true) (hy : y.cls ≠ "java/lang/invoke/MethodHandle" ∧ y.cls ≠ "java/lang/invoke/VarHandle")
    {W9 : Nat} {Pre : Pt → Array Value → Prop} {Post : Pt → Array Value → Option Value → Pt → Prop} {PostX : Pt → Array Value → Addr → Pt → Prop} (hK : vx_Back l R p e below s args y 3 W9 Pre Post PostX)
    {b : Addr} {cellB : Cell} (hcell : T.heap[b]? = some cellB) (hobj : cellB.vm.isStatics = false) (hcls : s.vm.findClass C = some cellB.cls)
    {g : JFrame} (hg : g.method = m) (hsize : g.locals.size = c.maxLocals) {argsL rest : List Value} (hlen : ∀ sig, parseMethodDescriptor y.desc = some sig → argsL.length = sig.parameters.length)
    (hstack : g.stack = argsL.reverse ++ .ref b :: rest) (hW : 2 * g.monitorRoom + (rest.map fun v => v.category).sum ≤ W9) (hdg : decode c.code g.pc = .ok (.invokevirtual index, 3))
    (hpre : ∀ vm₁, s.WarmedH vm₁ → Pre ⟨T.setVm vm₁, locs, cells, slots⟩ (Value.ref b :: argsL).toArray) :
    (∃ (v : Option Value) (vm₁ : Vm) (B : Pt), s.WarmedH vm₁ ∧ Stand p l e R s m args below meth c B.U B.locs B.cells B.slots ∧ Post ⟨T.setVm vm₁, locs, cells, slots⟩ (Value.ref b :: argsL).toArray v B ∧
      ∀ target, Steps p.tables e below (B.U.setTop { g with pc := g.pc + 3, stack := v.toList ++ rest }) target → Steps p.tables e below (T.setTop g) target) ∨
    (∃ (q : Addr) (vm₁ : Vm) (B : Pt), s.WarmedH vm₁ ∧ Stand p l e R s m args below meth c B.U B.locs B.cells B.slots ∧ PostX ⟨T.setVm vm₁, locs, cells, slots⟩ (Value.ref b :: argsL).toArray q B ∧
      Steps p.tables e below (T.setTop g) ((B.U.setTop { g with stack := rest }).pushFrame (.throwing q))) := by
  obtain ⟨mk, methM, hnamed, hmethM, hstM, habM⟩ := Cond.instanceMethod_spec hinst
  obtain ⟨methM', cM, hmethM', -, -, -, -, -, -, hsigM⟩ := Cond.code_spec hnamed hcode
  cases hmethM.symm.trans hmethM'
  obtain ⟨c2, r2, m2, q1, q2, q3, q4, kP, hkP, hkPi⟩ := Cond.selects_spec hsel
  cases hcls.symm.trans q1
  cases (State.methodFound?_of_named hnamed hy).symm.trans q2
  cases hnamed.symm.trans q3
  have hselP : selectMethod e.platform s.vm cellB.cls mk = .method mk := by rw [Launch.admits_selectMethod X.admits]; exact q4
  obtain ⟨vm₁, X₁, hstep₁⟩ := X.invokevirtual hexec hown hlink hnamed hmethM hstM hkP hkPi hy (a := b) (cell := cellB) hcell
    (fun z h => by rw [h] at hobj; cases hobj) hselP hmethM habM hkP hkPi (g := g) hg (argsL := argsL) (rest := rest) (hlen _ hsigM) hstack hdg
  rcases hK m meth c ⟨T.setVm vm₁, locs, cells, slots⟩ { g with stack := rest } (.invokevirtual index) mk (Value.ref b :: argsL).toArray X₁ hg hsize hdg hW (X₁.named hnamed) (hpre vm₁ X₁.warmed) with ⟨v, B, X', hpost, hsteps⟩ | ⟨q, B, X', hpost, hsteps⟩
  · exact Or.inl ⟨v, vm₁, B, X₁.warmed, X', hpost, fun target h => hstep₁ _ fun acts => by rw [doInvoke_state]; exact hsteps.trans h⟩
  · exact Or.inr ⟨q, vm₁, B, X₁.warmed, X', hpost, hstep₁ _ fun acts => by rw [doInvoke_state]; exact hsteps⟩
theorem vx_callS (X : Stand p l e R s m args below meth c T locs cells slots) (hexec : p.tables.exec = Jvm.exec) {own : String} {index : Nat} {y : MethodName} {bytes : ByteArray} {maxL : Nat} {ret : Option FieldType}
    (hown : s.vm.findClass own = some m.cls) (hlink : (Cond.methodLink own index y).before args s = true) (hstat : (Cond.static y).before args s = true) (hinit : (Cond.initialized y.cls).before args s = true)
    (hcode : (Cond.code y bytes maxL ret).before args s = true) (hy : y.cls ≠ "java/lang/invoke/MethodHandle" ∧ y.cls ≠ "java/lang/invoke/VarHandle")
    {W9 : Nat} {Pre : Pt → Array Value → Prop} {Post : Pt → Array Value → Option Value → Pt → Prop} {PostX : Pt → Array Value → Addr → Pt → Prop} (hK : vx_Back l R p e below s args y 3 W9 Pre Post PostX)
    {g : JFrame} (hg : g.method = m) (hsize : g.locals.size = c.maxLocals) {argsL rest : List Value} (hlen : ∀ sig, parseMethodDescriptor y.desc = some sig → argsL.length = sig.parameters.length)
    (hstack : g.stack = argsL.reverse ++ rest) (hW : 2 * g.monitorRoom + (rest.map fun v => v.category).sum ≤ W9) (hdg : decode c.code g.pc = .ok (.invokestatic index, 3))
    (hpre : ∀ vm₁, s.WarmedH vm₁ → Pre ⟨T.setVm vm₁, locs, cells, slots⟩ argsL.toArray) :
    (∃ (v : Option Value) (vm₁ : Vm) (B : Pt), s.WarmedH vm₁ ∧ Stand p l e R s m args below meth c B.U B.locs B.cells B.slots ∧ Post ⟨T.setVm vm₁, locs, cells, slots⟩ argsL.toArray v B ∧
      ∀ target, Steps p.tables e below (B.U.setTop { g with pc := g.pc + 3, stack := v.toList ++ rest }) target → Steps p.tables e below (T.setTop g) target) ∨
    (∃ (q : Addr) (vm₁ : Vm) (B : Pt), s.WarmedH vm₁ ∧ Stand p l e R s m args below meth c B.U B.locs B.cells B.slots ∧ PostX ⟨T.setVm vm₁, locs, cells, slots⟩ argsL.toArray q B ∧
      Steps p.tables e below (T.setTop g) ((B.U.setTop { g with stack := rest }).pushFrame (.throwing q))) := by
  obtain ⟨mk, hnamed⟩ := Cond.code_named hcode
  obtain ⟨methM, cM, hmethM, -, -, -, -, -, -, hsigM⟩ := Cond.code_spec hnamed hcode
  have hstatic : methM.isStatic = true := Cond.static_spec hnamed hmethM hstat
  obtain ⟨kP, hkP, -⟩ := className_of_methodNamed hnamed
  have hinitP : kP.init = .initialized := Cond.initialized_spec (findClass_of_methodNamed hnamed) hkP hinit
  obtain ⟨vm₁, X₁, hstep₁⟩ := X.invokestatic hexec hown hlink hnamed hmethM hstatic hkP hinitP hy (g := g) hg (argsL := argsL) (rest := rest) (hlen _ hsigM) hstack hdg
  rcases hK m meth c ⟨T.setVm vm₁, locs, cells, slots⟩ { g with stack := rest } (.invokestatic index) mk argsL.toArray X₁ hg hsize hdg hW (X₁.named hnamed) (hpre vm₁ X₁.warmed) with ⟨v, B, X', hpost, hsteps⟩ | ⟨q, B, X', hpost, hsteps⟩
  · exact Or.inl ⟨v, vm₁, B, X₁.warmed, X', hpost, fun target h => hstep₁ _ fun acts => by rw [doInvoke_state]; exact hsteps.trans h⟩
  · exact Or.inr ⟨q, vm₁, B, X₁.warmed, X', hpost, hstep₁ _ fun acts => by rw [doInvoke_state]; exact hsteps⟩
end Calls
theorem vx_cls {s : State} {T : State} {vm₁ : Vm} {E : String} {k : ClassId} (hW : s.WarmedH vm₁) (h : (T.setVm vm₁).vm.findClass E = some k) : s.vm.findClass E = some k := by
  have h1 : vm₁.findClass E = some k := h
  rw [hW.alike.findClass] at h1
  exact h1
/-- the method's frame g, with q thrown over it -/
def vx_W (p : Program) (l : Launch) (e : Env) (R : Room) (s : State) (m : MethodId) (args : Array Value) (below : List Frame) (meth : Method) (c : Code) (H : Heap) (locs : List Loc) (cells slots : Nat) (Q : State → Prop) (g : JFrame) (q : Addr) : Prop :=
  ∀ T : State, T.heap = H → Stand p l e R s m args below meth c T locs cells slots → ∃ t, Steps p.tables e below ((T.setTop g).pushFrame (.throwing q)) t ∧ Q t
def vx_Run (p : Program) (l : Launch) (e : Env) (R : Room) (s : State) (m : MethodId) (args : Array Value) (below : List Frame) (meth : Method) (c : Code) (H : Heap) (locs : List Loc) (cells slots mc ms : Nat) (g : JFrame) (rest : List Value) (Qa : State → Outcome → State → Prop) (XC : String → State → State → Prop) (free : Addr → Prop) : Prop :=
  ∀ T : State, T.heap = H → Stand p l e R s m args below meth c T locs cells slots →
    (∃ (v : Option Value) (st₀ t T' : State) (L : List Loc), st₀.heap = H ∧ Stand p l e R s m args below meth c T' (locs ++ L) (cells + mc) (slots + ms) ∧ (∀ q ∈ L, free q.base) ∧ T'.heap = t.heap ∧ T'.vm = t.vm ∧ Qa st₀ (.returned v) t ∧
      Goes p e below T g T' { g with pc := g.pc + 3, stack := v.toList ++ rest }) ∨
    (∃ (q : Addr) (st₀ t T' : State) (L : List Loc) (E : String) (ce : Cell), st₀.heap = H ∧ Stand p l e R s m args below meth c T' (locs ++ L) (cells + mc) (slots + ms) ∧ (∀ z ∈ L, free z.base) ∧ T'.heap = t.heap ∧ T'.vm = t.vm ∧ XC E st₀ t ∧ t.heap[q]? = some ce ∧ ce.vm = .none ∧ s.vm.findClass E = some ce.cls ∧
      Steps p.tables e below (T.setTop g) ((T'.setTop { g with stack := rest }).pushFrame (.throwing q)))
def vx_X {S : Type} (px : S → Prop) (B : String → S → State → Prop) (A : Nat → Prop) : String → State → State → Prop := fun E st t => ∃ u : S, px u ∧ B E u t ∧ va_F A st t
section Runs
variable {p : Program} {l : Launch} {e : Env} {R : Room} {s : State} {m : MethodId} {args : Array Value} {below : List Frame} {meth : Method} {c : Code} {H : Heap} {locs : List Loc} {cells slots : Nat}
variable {y : MethodName} {bytes cc : ByteArray} {maxL nL mc ms n index : Nat} {ret : Option FieldType} {ws : List Cond} {rm : Room} {Pc : Array Value → State → Prop} {Qc : Array Value → State → Outcome → State → Prop} {XC : String → State → State → Prop} {free : Addr → Prop} {Ts : List Cond} {own C : String} {b : Addr} {As rest : List Value} {g : JFrame}
theorem vx_callBack (cb : CallB R s args own index y bytes maxL ret ws rm mc ms n) (hM : vx_Met l y ws rm Pc Qc XC mc ms free) (hbl : FrameBlind Pc) : vx_Back l R p e below s args y 3 8 (PreOf R mc ms Pc) (PostOf Qc mc ms free) (vx_Post XC mc ms free) := by
  obtain ⟨hrc, hrs, hfr, hlo, hws, hcw, -, hini, -⟩ := cb
  exact vx_back (bytes := bytes) (maxL := maxL) (ret := ret) hM hbl hrc hrs hfr hlo hws hcw (fun a' U hW => word_at hW (Or.inl (by first | rfl | simp [Cond.onTables, Cond.keeps, Cond.steady])) hini)
theorem vx_runV (S : CallFix p m c cc nL s args Ts own) (hM : vx_Met l y ws rm Pc Qc XC mc ms free) (cw : CallW R s args own C index y bytes maxL ret ws rm mc ms n) (hp : PreV s H C b Pc As)
    (hg : g.method = m) (hn : As.length = n) (hsize : g.locals.size = nL) (hstack : g.stack = As.reverse ++ .ref b :: rest) (hW : 2 * g.monitorRoom + (rest.map fun v => v.category).sum ≤ 8) (hdg : decode cc g.pc = .ok (.invokevirtual index, 3)) (hf : cells + mc ≤ R.cells ∧ slots + ms ≤ R.slots) :
    vx_Run p l e R s m args below meth c H locs cells slots mc ms g rest (Qc (Value.ref b :: As).toArray) XC free := by
  have hK : vx_Back l R p e below s args y 3 8 (PreOf R mc ms Pc) (PostOf Qc mc ms free) (vx_Post XC mc ms free) := vx_callBack cw.1 hM hp.1
  obtain ⟨⟨-, -, -, -, -, -, hcode, -, hy, hlen, hl⟩, hin, hse⟩ := cw
  obtain ⟨hx, hb, hml, ho, -⟩ := S
  obtain ⟨-, ⟨cellB, hcB, hoB, hclB⟩, hPc⟩ := hp
  intro T hT X
  rcases vx_callV X hx (C := C) (bytes := bytes) (maxL := maxL) (ret := ret) ho hl hin hse hcode hy hK (by rw [hT]; exact hcB) hoB hclB hg (hsize.trans hml.symm) (argsL := As) (rest := rest) (fun sig h => hn.trans (hlen sig h)) hstack hW (by rw [hb]; exact hdg)
    (fun vm₁ hW₁ => ⟨hf.1, hf.2, hPc (T.setVm vm₁) hT hW₁⟩) with ⟨v, vm₁, ⟨U', l2, c2, s2⟩, hW₁, X', ⟨g', mk, t, L, e1, e2, hq, h1, hL, h2, h3⟩, st⟩ | ⟨q, vm₁, ⟨U', l2, c2, s2⟩, hW₁, X', ⟨g', mk, t, L, E, ce, e1, e2, hq, hce, hcv, hcl, h1, hL, h2, h3⟩, st⟩
  · dsimp only [Pt.U, Pt.locs, Pt.cells, Pt.slots] at X' e1 e2 h1 h2 h3 st
    subst h1; subst h2; subst h3
    exact Or.inl ⟨v, (T.setVm vm₁).calling g' mk (Value.ref b :: As).toArray, t, U', L, hT, X', hL, e1, e2, hq, st⟩
  · dsimp only [Pt.U, Pt.locs, Pt.cells, Pt.slots] at X' e1 e2 h1 h2 h3 st hcl
    subst h1; subst h2; subst h3
    exact Or.inr ⟨q, (T.setVm vm₁).calling g' mk (Value.ref b :: As).toArray, t, U', L, E, ce, hT, X', hL, e1, e2, hq, hce, hcv, vx_cls hW₁ hcl, st⟩
theorem vx_runS (S : CallFix p m c cc nL s args Ts own) (hM : vx_Met l y ws rm Pc Qc XC mc ms free) (cw : CallB R s args own index y bytes maxL ret ws rm mc ms n ∧ (Cond.static y).before args s = true) (hp : PreS s H Pc As)
    (hg : g.method = m) (hn : As.length = n) (hsize : g.locals.size = nL) (hstack : g.stack = As.reverse ++ rest) (hW : 2 * g.monitorRoom + (rest.map fun v => v.category).sum ≤ 8) (hdg : decode cc g.pc = .ok (.invokestatic index, 3)) (hf : cells + mc ≤ R.cells ∧ slots + ms ≤ R.slots) :
    vx_Run p l e R s m args below meth c H locs cells slots mc ms g rest (Qc As.toArray) XC free := by
  have hK : vx_Back l R p e below s args y 3 8 (PreOf R mc ms Pc) (PostOf Qc mc ms free) (vx_Post XC mc ms free) := vx_callBack cw.1 hM hp.1
  obtain ⟨⟨-, -, -, -, -, -, hcode, hini, hy, hlen, hl⟩, hstt⟩ := cw
  obtain ⟨hx, hb, hml, ho, -⟩ := S
  intro T hT X
  rcases vx_callS X hx (bytes := bytes) (maxL := maxL) (ret := ret) ho hl hstt hini hcode hy hK hg (hsize.trans hml.symm) (argsL := As) (rest := rest) (fun sig h => hn.trans (hlen sig h)) hstack hW (by rw [hb]; exact hdg)
    (fun vm₁ hW₁ => ⟨hf.1, hf.2, hp.2 (T.setVm vm₁) hT hW₁⟩) with ⟨v, vm₁, ⟨U', l2, c2, s2⟩, hW₁, X', ⟨g', mk, t, L, e1, e2, hq, h1, hL, h2, h3⟩, st⟩ | ⟨q, vm₁, ⟨U', l2, c2, s2⟩, hW₁, X', ⟨g', mk, t, L, E, ce, e1, e2, hq, hce, hcv, hcl, h1, hL, h2, h3⟩, st⟩
  · dsimp only [Pt.U, Pt.locs, Pt.cells, Pt.slots] at X' e1 e2 h1 h2 h3 st
    subst h1; subst h2; subst h3
    exact Or.inl ⟨v, (T.setVm vm₁).calling g' mk As.toArray, t, U', L, hT, X', hL, e1, e2, hq, st⟩
  · dsimp only [Pt.U, Pt.locs, Pt.cells, Pt.slots] at X' e1 e2 h1 h2 h3 st hcl
    subst h1; subst h2; subst h3
    exact Or.inr ⟨q, (T.setVm vm₁).calling g' mk As.toArray, t, U', L, E, ce, hT, X', hL, e1, e2, hq, hce, hcv, vx_cls hW₁ hcl, st⟩
end Runs
section Rows
variable {p : Program} {l : Launch} {e : Env} {R : Room} {s : State} {m : MethodId} {args : Array Value} {below : List Frame} {meth : Method} {c : Code} {H : Heap} {locs : List Loc} {cells slots : Nat} {Q : State → Prop}
variable {mc ms : Nat} {free : Addr → Prop} {A0 A1 : Nat → Prop} {H0 : Heap} {a : Array Value} {pc : Nat} {ls : Array Slot} {st0 rest : List Value}
theorem vx_keep {st₀ t T' : State} {L : List Loc} (h0 : st₀.heap = H) (e1 : T'.heap = t.heap) (hS : va_S A0 H0 H locs) (hA : ∀ q, q < H.size → A1 q → A0 q) (hf : ∀ q, free q → A0 q) (hL : ∀ q ∈ L, free q.base) (hF : va_F A1 st₀ t) :
    H.size ≤ T'.heap.size ∧ (∀ q : Nat, q < H.size → ¬ A1 q → T'.heap[q]? = H[q]?) ∧ va_S A0 H0 T'.heap (locs ++ L) := by
  obtain ⟨hz, hk⟩ := hF
  rw [h0] at hz hk
  exact ⟨by rw [e1]; exact hz, fun q h1 h2 => by rw [e1]; exact hk q h1 h2,
    ⟨Nat.le_trans hS.1 (by rw [e1]; exact hz), fun q h1 h2 => by rw [e1, hk q (Nat.lt_of_lt_of_le h1 hS.1) (fun z => h2 (hA q (Nat.lt_of_lt_of_le h1 hS.1) z))]; exact hS.2.1 q h1 h2, fun q hq => by
      rcases List.mem_append.mp hq with h | h
      · exact hS.2.2 q h
      · exact hf _ (hL q h)⟩⟩
theorem vx_calli {S SX : Type} {post : Int32 → S → Prop} {px : SX → Prop} {B : S → State → Prop} {BX : String → SX → State → Prop} {AX : Nat → Prop} (hr : vx_Run p l e R s m args below meth c H locs cells slots mc ms (F0 m pc ls st0) rest (va_Qi post B A1 a) (vx_X px BX AX) free) (hS : va_S A0 H0 H locs) (hA : ∀ q, q < H.size → A1 q → A0 q) (hf : ∀ q, free q → A0 q) (hAX : ∀ q, q < H.size → AX q → A0 q)
    (kx : ∀ (E : String) (ce : Cell) (q9 : Addr) (u : SX) (t : State) (H1 : Heap) (locs1 : List Loc), t.heap = H1 → s.vm.Alike t.vm → px u → BX E u t → H.size ≤ H1.size → (∀ q : Nat, q < H.size → ¬ AX q → H1[q]? = H[q]?) → va_S A0 H0 H1 locs1 → H1[q9]? = some ce → ce.vm = .none → s.vm.findClass E = some ce.cls → vx_W p l e R s m args below meth c H1 locs1 (cells + mc) (slots + ms) Q (F0 m pc ls rest) q9)
    (kk : ∀ (r : Int32) (u : S) (t : State) (H1 : Heap) (locs1 : List Loc), t.heap = H1 → s.vm.Alike t.vm → post r u → B u t → H.size ≤ H1.size → (∀ q : Nat, q < H.size → ¬ A1 q → H1[q]? = H[q]?) → va_S A0 H0 H1 locs1 → W p l e R s m args below meth c H1 locs1 (cells + mc) (slots + ms) Q (F0 m (pc + 3) ls (.int r :: rest))) : W p l e R s m args below meth c H locs cells slots Q (F0 m pc ls st0) := by
  intro T hT X
  rcases hr T hT X with ⟨v, st₀, t, T', L, h0, X', hL, e1, e2, ⟨⟨r, u, hv, hp, hb⟩, hF⟩, st⟩ | ⟨q, st₀, t, T', L, E, ce, h0, X', hL, e1, e2, ⟨u, hp, hb, hF⟩, hce, hcv, hcl, st⟩
  · cases hv
    obtain ⟨k1, k2, k3⟩ := vx_keep h0 e1 hS hA hf hL hF
    obtain ⟨t2, a1, b1⟩ := kk r u t T'.heap (locs ++ L) e1.symm (by rw [← e2]; exact X'.warmed.alike) hp hb k1 k2 k3 T' rfl X'
    exact ⟨t2, st t2 a1, b1⟩
  · obtain ⟨k1, k2, k3⟩ := vx_keep h0 e1 hS hAX hf hL hF
    obtain ⟨t2, a1, b1⟩ := kx E ce q u t T'.heap (locs ++ L) e1.symm (by rw [← e2]; exact X'.warmed.alike) hp hb k1 k2 k3 (by rw [e1]; exact hce) hcv hcl T' rfl X'
    exact ⟨t2, st.trans a1, b1⟩
theorem vx_calll {S SX : Type} {post : Int64 → S → Prop} {px : SX → Prop} {B : S → State → Prop} {BX : String → SX → State → Prop} {AX : Nat → Prop} (hr : vx_Run p l e R s m args below meth c H locs cells slots mc ms (F0 m pc ls st0) rest (va_Ql post B A1 a) (vx_X px BX AX) free) (hS : va_S A0 H0 H locs) (hA : ∀ q, q < H.size → A1 q → A0 q) (hf : ∀ q, free q → A0 q) (hAX : ∀ q, q < H.size → AX q → A0 q)
    (kx : ∀ (E : String) (ce : Cell) (q9 : Addr) (u : SX) (t : State) (H1 : Heap) (locs1 : List Loc), t.heap = H1 → s.vm.Alike t.vm → px u → BX E u t → H.size ≤ H1.size → (∀ q : Nat, q < H.size → ¬ AX q → H1[q]? = H[q]?) → va_S A0 H0 H1 locs1 → H1[q9]? = some ce → ce.vm = .none → s.vm.findClass E = some ce.cls → vx_W p l e R s m args below meth c H1 locs1 (cells + mc) (slots + ms) Q (F0 m pc ls rest) q9)
    (kk : ∀ (r : Int64) (u : S) (t : State) (H1 : Heap) (locs1 : List Loc), t.heap = H1 → s.vm.Alike t.vm → post r u → B u t → H.size ≤ H1.size → (∀ q : Nat, q < H.size → ¬ A1 q → H1[q]? = H[q]?) → va_S A0 H0 H1 locs1 → W p l e R s m args below meth c H1 locs1 (cells + mc) (slots + ms) Q (F0 m (pc + 3) ls (.long r :: rest))) : W p l e R s m args below meth c H locs cells slots Q (F0 m pc ls st0) := by
  intro T hT X
  rcases hr T hT X with ⟨v, st₀, t, T', L, h0, X', hL, e1, e2, ⟨⟨r, u, hv, hp, hb⟩, hF⟩, st⟩ | ⟨q, st₀, t, T', L, E, ce, h0, X', hL, e1, e2, ⟨u, hp, hb, hF⟩, hce, hcv, hcl, st⟩
  · cases hv
    obtain ⟨k1, k2, k3⟩ := vx_keep h0 e1 hS hA hf hL hF
    obtain ⟨t2, a1, b1⟩ := kk r u t T'.heap (locs ++ L) e1.symm (by rw [← e2]; exact X'.warmed.alike) hp hb k1 k2 k3 T' rfl X'
    exact ⟨t2, st t2 a1, b1⟩
  · obtain ⟨k1, k2, k3⟩ := vx_keep h0 e1 hS hAX hf hL hF
    obtain ⟨t2, a1, b1⟩ := kx E ce q u t T'.heap (locs ++ L) e1.symm (by rw [← e2]; exact X'.warmed.alike) hp hb k1 k2 k3 (by rw [e1]; exact hce) hcv hcl T' rfl X'
    exact ⟨t2, st.trans a1, b1⟩
theorem vx_callf {S SX : Type} {post : UInt32 → S → Prop} {px : SX → Prop} {B : S → State → Prop} {BX : String → SX → State → Prop} {AX : Nat → Prop} (hr : vx_Run p l e R s m args below meth c H locs cells slots mc ms (F0 m pc ls st0) rest (va_Qf post B A1 a) (vx_X px BX AX) free) (hS : va_S A0 H0 H locs) (hA : ∀ q, q < H.size → A1 q → A0 q) (hf : ∀ q, free q → A0 q) (hAX : ∀ q, q < H.size → AX q → A0 q)
    (kx : ∀ (E : String) (ce : Cell) (q9 : Addr) (u : SX) (t : State) (H1 : Heap) (locs1 : List Loc), t.heap = H1 → s.vm.Alike t.vm → px u → BX E u t → H.size ≤ H1.size → (∀ q : Nat, q < H.size → ¬ AX q → H1[q]? = H[q]?) → va_S A0 H0 H1 locs1 → H1[q9]? = some ce → ce.vm = .none → s.vm.findClass E = some ce.cls → vx_W p l e R s m args below meth c H1 locs1 (cells + mc) (slots + ms) Q (F0 m pc ls rest) q9)
    (kk : ∀ (r : UInt32) (u : S) (t : State) (H1 : Heap) (locs1 : List Loc), t.heap = H1 → s.vm.Alike t.vm → post r u → B u t → H.size ≤ H1.size → (∀ q : Nat, q < H.size → ¬ A1 q → H1[q]? = H[q]?) → va_S A0 H0 H1 locs1 → W p l e R s m args below meth c H1 locs1 (cells + mc) (slots + ms) Q (F0 m (pc + 3) ls (.float r :: rest))) : W p l e R s m args below meth c H locs cells slots Q (F0 m pc ls st0) := by
  intro T hT X
  rcases hr T hT X with ⟨v, st₀, t, T', L, h0, X', hL, e1, e2, ⟨⟨r, u, hv, hp, hb⟩, hF⟩, st⟩ | ⟨q, st₀, t, T', L, E, ce, h0, X', hL, e1, e2, ⟨u, hp, hb, hF⟩, hce, hcv, hcl, st⟩
  · cases hv
    obtain ⟨k1, k2, k3⟩ := vx_keep h0 e1 hS hA hf hL hF
    obtain ⟨t2, a1, b1⟩ := kk r u t T'.heap (locs ++ L) e1.symm (by rw [← e2]; exact X'.warmed.alike) hp hb k1 k2 k3 T' rfl X'
    exact ⟨t2, st t2 a1, b1⟩
  · obtain ⟨k1, k2, k3⟩ := vx_keep h0 e1 hS hAX hf hL hF
    obtain ⟨t2, a1, b1⟩ := kx E ce q u t T'.heap (locs ++ L) e1.symm (by rw [← e2]; exact X'.warmed.alike) hp hb k1 k2 k3 (by rw [e1]; exact hce) hcv hcl T' rfl X'
    exact ⟨t2, st.trans a1, b1⟩
theorem vx_calld {S SX : Type} {post : UInt64 → S → Prop} {px : SX → Prop} {B : S → State → Prop} {BX : String → SX → State → Prop} {AX : Nat → Prop} (hr : vx_Run p l e R s m args below meth c H locs cells slots mc ms (F0 m pc ls st0) rest (va_Qd post B A1 a) (vx_X px BX AX) free) (hS : va_S A0 H0 H locs) (hA : ∀ q, q < H.size → A1 q → A0 q) (hf : ∀ q, free q → A0 q) (hAX : ∀ q, q < H.size → AX q → A0 q)
    (kx : ∀ (E : String) (ce : Cell) (q9 : Addr) (u : SX) (t : State) (H1 : Heap) (locs1 : List Loc), t.heap = H1 → s.vm.Alike t.vm → px u → BX E u t → H.size ≤ H1.size → (∀ q : Nat, q < H.size → ¬ AX q → H1[q]? = H[q]?) → va_S A0 H0 H1 locs1 → H1[q9]? = some ce → ce.vm = .none → s.vm.findClass E = some ce.cls → vx_W p l e R s m args below meth c H1 locs1 (cells + mc) (slots + ms) Q (F0 m pc ls rest) q9)
    (kk : ∀ (r : UInt64) (u : S) (t : State) (H1 : Heap) (locs1 : List Loc), t.heap = H1 → s.vm.Alike t.vm → post r u → B u t → H.size ≤ H1.size → (∀ q : Nat, q < H.size → ¬ A1 q → H1[q]? = H[q]?) → va_S A0 H0 H1 locs1 → W p l e R s m args below meth c H1 locs1 (cells + mc) (slots + ms) Q (F0 m (pc + 3) ls (.double r :: rest))) : W p l e R s m args below meth c H locs cells slots Q (F0 m pc ls st0) := by
  intro T hT X
  rcases hr T hT X with ⟨v, st₀, t, T', L, h0, X', hL, e1, e2, ⟨⟨r, u, hv, hp, hb⟩, hF⟩, st⟩ | ⟨q, st₀, t, T', L, E, ce, h0, X', hL, e1, e2, ⟨u, hp, hb, hF⟩, hce, hcv, hcl, st⟩
  · cases hv
    obtain ⟨k1, k2, k3⟩ := vx_keep h0 e1 hS hA hf hL hF
    obtain ⟨t2, a1, b1⟩ := kk r u t T'.heap (locs ++ L) e1.symm (by rw [← e2]; exact X'.warmed.alike) hp hb k1 k2 k3 T' rfl X'
    exact ⟨t2, st t2 a1, b1⟩
  · obtain ⟨k1, k2, k3⟩ := vx_keep h0 e1 hS hAX hf hL hF
    obtain ⟨t2, a1, b1⟩ := kx E ce q u t T'.heap (locs ++ L) e1.symm (by rw [← e2]; exact X'.warmed.alike) hp hb k1 k2 k3 (by rw [e1]; exact hce) hcv hcl T' rfl X'
    exact ⟨t2, st.trans a1, b1⟩
theorem vx_callv {S SX : Type} {post : S → Prop} {px : SX → Prop} {B : S → State → Prop} {BX : String → SX → State → Prop} {AX : Nat → Prop} (hr : vx_Run p l e R s m args below meth c H locs cells slots mc ms (F0 m pc ls st0) rest (va_Qv post B A1 a) (vx_X px BX AX) free) (hS : va_S A0 H0 H locs) (hA : ∀ q, q < H.size → A1 q → A0 q) (hf : ∀ q, free q → A0 q) (hAX : ∀ q, q < H.size → AX q → A0 q)
    (kx : ∀ (E : String) (ce : Cell) (q9 : Addr) (u : SX) (t : State) (H1 : Heap) (locs1 : List Loc), t.heap = H1 → s.vm.Alike t.vm → px u → BX E u t → H.size ≤ H1.size → (∀ q : Nat, q < H.size → ¬ AX q → H1[q]? = H[q]?) → va_S A0 H0 H1 locs1 → H1[q9]? = some ce → ce.vm = .none → s.vm.findClass E = some ce.cls → vx_W p l e R s m args below meth c H1 locs1 (cells + mc) (slots + ms) Q (F0 m pc ls rest) q9)
    (kk : ∀ (u : S) (t : State) (H1 : Heap) (locs1 : List Loc), t.heap = H1 → s.vm.Alike t.vm → post u → B u t → H.size ≤ H1.size → (∀ q : Nat, q < H.size → ¬ A1 q → H1[q]? = H[q]?) → va_S A0 H0 H1 locs1 → W p l e R s m args below meth c H1 locs1 (cells + mc) (slots + ms) Q (F0 m (pc + 3) ls (rest))) : W p l e R s m args below meth c H locs cells slots Q (F0 m pc ls st0) := by
  intro T hT X
  rcases hr T hT X with ⟨v, st₀, t, T', L, h0, X', hL, e1, e2, ⟨⟨u, hv, hp, hb⟩, hF⟩, st⟩ | ⟨q, st₀, t, T', L, E, ce, h0, X', hL, e1, e2, ⟨u, hp, hb, hF⟩, hce, hcv, hcl, st⟩
  · cases hv
    obtain ⟨k1, k2, k3⟩ := vx_keep h0 e1 hS hA hf hL hF
    obtain ⟨t2, a1, b1⟩ := kk u t T'.heap (locs ++ L) e1.symm (by rw [← e2]; exact X'.warmed.alike) hp hb k1 k2 k3 T' rfl X'
    exact ⟨t2, st t2 a1, b1⟩
  · obtain ⟨k1, k2, k3⟩ := vx_keep h0 e1 hS hAX hf hL hF
    obtain ⟨t2, a1, b1⟩ := kx E ce q u t T'.heap (locs ++ L) e1.symm (by rw [← e2]; exact X'.warmed.alike) hp hb k1 k2 k3 (by rw [e1]; exact hce) hcv hcl T' rfl X'
    exact ⟨t2, st.trans a1, b1⟩
/-- caught by the row x of this method's table; the rows ahead don't take it -/
theorem cut_vx_catch : True := trivial
end Rows
section Ends
variable {p : Program} {l : Launch} {e : Env} {R : Room} {s : State} {m : MethodId} {args : Array Value} {below : List Frame} {meth : Method} {c : Code} {H : Heap} {locs : List Loc} {cells slots : Nat} {Q : State → Prop}
variable {mc ms : Nat} {free : Addr → Prop} {A0 A1 : Nat → Prop} {H0 : Heap} {a : Array Value} {ls : Array Slot} {st0 rest : List Value}
variable {Qc : Array Value → State → Outcome → State → Prop} {XC : String → State → State → Prop}
/-- what a body that may throw owes at its end -/
def vx_MQ (below : List Frame) (Qc : Array Value → State → Outcome → State → Prop) (XC : String → State → State → Prop) (a : Array Value) (s : State) (mc ms : Nat) (free : Addr → Prop) : State → Prop := fun t =>
  ∃ o, t.status = .running ∧ Ended t below o ∧ vx_Q Qc XC mc ms free a s o t
theorem vx_ret {g : JFrame} {mc ms : Nat} (k : W p l e R s m args below meth c H locs cells slots (MQ below Qc args s mc ms free) g) : W p l e R s m args below meth c H locs cells slots (vx_MQ below Qc XC args s mc ms free) g := by
  intro T hT X
  obtain ⟨t, a1, o, b1, b2, b3, b4⟩ := k T hT X
  exact ⟨t, a1, o, b1, b2, Or.inl ⟨b3, b4⟩⟩
/-- not caught here: it goes on to the caller -/
theorem vx_widen {g : JFrame} {q : Addr} {k n : Nat} (h1 : cells ≤ k) (h2 : slots ≤ n) (kk : vx_W p l e R s m args below meth c H locs k n Q g q) : vx_W p l e R s m args below meth c H locs cells slots Q g q := fun T hT X => kk T hT (stand_widen X h1 h2)
theorem vx_out {pc : Nat} {E : String} {ce : Cell} {q : Addr} {mc ms : Nat} (hout : ∀ x ∈ c.exceptionTable.toList, covers x pc = false) (hlocks : meth.locks = false) (hcell : H[q]? = some ce) (hv : ce.vm = .none) (hcl : s.vm.findClass E = some ce.cls)
    (hx : ∀ t : State, t.heap = H → s.vm.Alike t.vm → XC E s t) (hf : ∀ z ∈ locs, free z.base) (hc : cells ≤ mc) (hs : slots ≤ ms) :
    vx_W p l e R s m args below meth c H locs cells slots (vx_MQ below Qc XC args s mc ms free) (F0 m pc ls rest) q := by
  intro T hT X
  obtain ⟨st1, hrun, hend, hW, hsm⟩ := X.leaveThrown q (g := F0 m pc ls rest) rfl rfl rfl hout hlocks
  have hcell9 : (T.setFrames (.throwing q :: below)).heap[q]? = some ce := by
    show T.heap[q]? = some ce
    rw [hT]; exact hcell
  exact ⟨_, st1, .threw q, hrun, hend, Or.inr ⟨q, rfl, E, ce, locs, hx _ hT hW.alike, hcell9, hv, hcl, hW, hsm.mono hc hs, hf⟩⟩
theorem vx_frame {U : State} {k n : Nat} (h : s.sameButNew ({ U with vm := s.vm } : State) locs k n) : s.heap.size ≤ U.heap.size ∧ ∀ q : Nat, q < s.heap.size → (∀ z ∈ locs, z.base ≠ q) → U.heap[q]? = s.heap[q]? := by
  obtain ⟨-, h2, -, -, -, h6⟩ := h
  refine ⟨h2, fun q hq hz => ?_⟩
  obtain ⟨c9, e1, e2, e3, e4⟩ := h6 q _ (Array.getElem?_eq_getElem hq)
  have hs : c9.slots = (s.heap[q]).slots := Array.ext_getElem? fun i => e4 i fun hm => hz _ hm rfl
  have h9 : c9 = s.heap[q] := by
    rw [hs] at e2
    exact e2
  have e5 : U.heap[q]? = some c9 := e1
  rw [e5, h9, Array.getElem?_eq_getElem hq]
/-- the words of a throw but the four that speak of the heap -/
def vx_no (w : Cond) : Bool := decide (w ≠ .isRef (.static Bundle.tN "UNASSIGNED_STACK" Bundle.steD)) && decide (w ≠ .isRef (.static Bundle.tN "SUPPRESSED_SENTINEL" Bundle.listD)) && decide (w ≠ .laysStatic Bundle.tN "UNASSIGNED_STACK" Bundle.steD) && decide (w ≠ .laysStatic Bundle.tN "SUPPRESSED_SENTINEL" Bundle.listD)
def vx_at0 (own : String) (ic : Nat) (X : String) (names : List String) : List Cond := (Bundle.ownAtoms0 own ic X names).filter vx_no
def vx_atS (own : String) (ic : Nat) (X : String) (names : List String) : List Cond := (Bundle.ownAtoms own ic X names).filter vx_no
/-- a word that the tables alone decide, or a good one -/
def vx_ot (w : Cond) : Bool := w.onTables || goodWord w
theorem vx_ot_at {args a' : Array Value} {s U : State} {w : Cond} (hW : s.WarmedH U.vm) (hvm : s.vm = U.vm) (hg : vx_ot w = true) (h : w.before args s = true) : w.before a' U = true := by
  simp only [vx_ot, Bool.or_eq_true] at hg
  rcases hg with hg | hg
  · exact va_tabs hg hvm h
  · exact word_at hW (good_of_word hg) h
/-- a list's words: the good ones out of the method's own list, the others by premises of their own -/
theorem vx_hat {args : Array Value} {s : State} {L B : List Cond} (h1 : ∀ w ∈ L.filter goodWord, w.before args s = true) (h2 : ∀ w ∈ L.filter (fun w => !goodWord w), w ∈ B) (h3 : ∀ w ∈ B, w.before args s = true) : ∀ w ∈ L, w.before args s = true := by
  intro w hw
  by_cases g : goodWord w = true
  · exact h1 w (List.mem_filter.mpr ⟨hw, g⟩)
  · refine h3 w (h2 w (List.mem_filter.mpr ⟨hw, ?_⟩))
    show (!goodWord w) = true
    cases hgw : goodWord w
    · rfl
    · exact absurd hgw g
theorem vx_c {args : Array Value} {s : State} {w : Cond} {B : List Cond} (h : w.before args s = true) (t : ∀ w ∈ B, w.before args s = true) : ∀ w' ∈ w :: B, w'.before args s = true := fun w' h' => (List.mem_cons.mp h').elim (fun e => by rw [e]; exact h) (t w')
theorem vx_n {args : Array Value} {s : State} : ∀ w ∈ ([] : List Cond), w.before args s = true := fun _ h => nomatch h
theorem vx_own {args : Array Value} {s : State} {L : List Cond} (h1 : ∀ w ∈ L.filter vx_no, w.before args s = true)
    (hU : (Cond.isRef (.static Bundle.tN "UNASSIGNED_STACK" Bundle.steD)).before args s = true) (hN : (Cond.isRef (.static Bundle.tN "SUPPRESSED_SENTINEL" Bundle.listD)).before args s = true)
    (lU : (Cond.laysStatic Bundle.tN "UNASSIGNED_STACK" Bundle.steD).before args s = true) (lN : (Cond.laysStatic Bundle.tN "SUPPRESSED_SENTINEL" Bundle.listD).before args s = true) : ∀ w ∈ L, w.before args s = true := by
  intro w hw
  by_cases e1 : w = .isRef (.static Bundle.tN "UNASSIGNED_STACK" Bundle.steD)
  · rw [e1]; exact hU
  · by_cases e2 : w = .isRef (.static Bundle.tN "SUPPRESSED_SENTINEL" Bundle.listD)
    · rw [e2]; exact hN
    · by_cases e3 : w = .laysStatic Bundle.tN "UNASSIGNED_STACK" Bundle.steD
      · rw [e3]; exact lU
      · by_cases e4 : w = .laysStatic Bundle.tN "SUPPRESSED_SENTINEL" Bundle.listD
        · rw [e4]; exact lN
        · exact h1 w (List.mem_filter.mpr ⟨hw, by unfold vx_no; rw [decide_eq_true e1, decide_eq_true e2, decide_eq_true e3, decide_eq_true e4]; rfl⟩)
/-- where a static field lies, its class's statics cell in H -/
def vx_L (C n d : String) (A : Nat → Prop) (U : State) (H : Heap) : Prop := ∃ (c : ClassId) (k : Class) (i : Nat) (f : Field) (a : Nat) (cell : Cell), U.vm.findClass C = some c ∧ U.fieldFound? C n d = some (c, k, i, f) ∧ f.isStatic = true ∧ k.statics = some a ∧ H[a]? = some cell ∧ cell.vm.isStatics = true ∧ cell.cls = c ∧ f.slot < cell.slots.size ∧ k.staticTypes[f.slot]? = some f.type ∧ ¬ A a
theorem vx_L.moved {C n d : String} {A : Nat → Prop} {u U : State} {H : Heap} (hvm : u.vm.Alike U.vm) (h : vx_L C n d A u H) : vx_L C n d A U H := by
  obtain ⟨c, k, i, f, a, cell, h1, h2, h3, h4, h5, h6, h7, h8, h9, h10⟩ := h
  obtain ⟨k', hi', he⟩ := State.fieldFound?_setVm hvm h2
  exact ⟨c, k', i, f, a, cell, by rw [hvm.findClass]; exact h1, hi', h3, by rw [he]; exact h4, h5, h6, h7, h8, by rw [he]; exact h9, h10⟩
theorem vx_L.kept {C n d : String} {A : Nat → Prop} {U : State} {H H1 : Heap} (h : vx_L C n d A U H) (hq : ∀ a : Nat, a < H.size → ¬ A a → H1[a]? = H[a]?) : vx_L C n d A U H1 := by
  obtain ⟨c, k, i, f, a, cell, h1, h2, h3, h4, h5, h6, h7, h8, h9, h10⟩ := h
  exact ⟨c, k, i, f, a, cell, h1, h2, h3, h4, by rw [hq a (Array.getElem?_eq_some_iff.mp h5).1 h10]; exact h5, h6, h7, h8, h9, h10⟩
theorem vx_L.narrow {C n d : String} {A B : Nat → Prop} {U : State} {H : Heap} (h : vx_L C n d A U H) (hAB : ∀ q, B q → A q) : vx_L C n d B U H := by
  obtain ⟨c, k, i, f, a, cell, h1, h2, h3, h4, h5, h6, h7, h8, h9, h10⟩ := h
  exact ⟨c, k, i, f, a, cell, h1, h2, h3, h4, h5, h6, h7, h8, h9, fun z => h10 (hAB _ z)⟩
theorem vx_L.word {C n d : String} {A : Nat → Prop} {s : State} {args : Array Value} (h : vx_L C n d A s s.heap) : (Cond.laysStatic C n d).before args s = true := by
  obtain ⟨c, k, i, f, a, cell, h1, h2, h3, h4, h5, h6, h7, h8, h9, -⟩ := h
  show (Cond.laysStatic C n d).holds args s none s [] = true
  exact Cond.laysStatic_of h1 h2 h3 h4 h5 h6 h7 h8 h9
/-- .. and what it holds: null or some reference -/
def vx_Zq (C n d : String) (A : Nat → Prop) (U : State) (H : Heap) : Prop := va_Zq C n d A U H ∧ vx_L C n d A U H
theorem vx_Zq.moved {C n d : String} {A : Nat → Prop} {u U : State} {H : Heap} (hvm : u.vm.Alike U.vm) (h : vx_Zq C n d A u H) : vx_Zq C n d A U H := ⟨va_Zq.moved hvm h.1, vx_L.moved hvm h.2⟩
theorem vx_Zq.kept {C n d : String} {A : Nat → Prop} {U : State} {H H1 : Heap} (h : vx_Zq C n d A U H) (hq : ∀ a : Nat, a < H.size → ¬ A a → H1[a]? = H[a]?) : vx_Zq C n d A U H1 := ⟨va_Zq.kept h.1 hq, vx_L.kept h.2 hq⟩
theorem vx_Zq.narrow {C n d : String} {A B : Nat → Prop} {U : State} {H : Heap} (h : vx_Zq C n d A U H) (hAB : ∀ q, B q → A q) : vx_Zq C n d B U H := ⟨va_Zq.narrow h.1 hAB, vx_L.narrow h.2 hAB⟩
theorem vx_Zqof {args : Array Value} {s : State} {C n d : String} {A : Nat → Prop} (hl : (Cond.laysStatic C n d).before args s = true) (hini : (Cond.initialized C).before args s = true) (h : (Cond.isRef (.static C n d)).before args s = true) (hA : ∀ a : Nat, a < s.heap.size → ¬ A a) : vx_Zq C n d A s s.heap := by
  refine ⟨va_Zqof hl hini h hA, ?_⟩
  obtain ⟨c, k, i, f, a, cell, h1, h2, h3, h4, h5, h6, h7, h8, h9⟩ := Cond.laysStatic_spec hl
  exact ⟨c, k, i, f, a, cell, h1, h2, h3, h4, h5, h6, h7, h8, h9, hA a (Array.getElem?_eq_some_iff.mp h5).1⟩
theorem vx_isRef {C n d : String} {v : Value} {A : Nat → Prop} {s : State} {args : Array Value} (h : va_Z C n d v A s s.heap) (hv : v.isRef = true) : (Cond.isRef (.static C n d)).before args s = true := by
  obtain ⟨cf, kf, fi, f, a, cell, h1, h2, h3, h4, h5, h6, h7, -⟩ := h
  have he : (Term.static C n d).eval args s none [] s = some v := by
    simp [Term.eval, State.fieldNamed?, h1, h2, h4, h5, h6, h7]
  simp only [Cond.before, Cond.holds, Cond.value, he]
  cases v <;> simp_all [Value.isRef]
theorem vx_isRefq {C n d : String} {A : Nat → Prop} {s : State} {args : Array Value} (h : va_Zq C n d A s s.heap) : (Cond.isRef (.static C n d)).before args s = true := by
  rcases h with h | ⟨t, h⟩
  · exact vx_isRef h rfl
  · exact vx_isRef h rfl
/-- the same frame, seen from here: as if the method were called anew in this heap -/
theorem vx_rebase {T : State} (X : Stand p l e R s m args below meth c T locs cells slots) {R' : Room} (hf : R'.frames ≤ R.frames) (hl : R'.locals ≤ R.locals) (hc : cells + R'.cells ≤ R.cells) (hs : slots + R'.slots ≤ R.slots) :
    Stand p l e R' ((T.setVm s.vm).setFrames (.invoking m args :: below)) m args below meth c T [] 0 0 := by
  have htop : (T.setVm s.vm).topJava?.isSome := X.here.top
  have hF : ((T.setVm s.vm).setFrames (.invoking m args :: below)).frames = .invoking m args :: below := State.frames_setFrames _ (State.cur_lt_of_top htop)
  obtain ⟨g₀, hg0⟩ := Option.isSome_iff_exists.mp htop
  obtain ⟨r, hr⟩ := State.topJava?_eq_some.mp hg0
  have hl9 : e.platform.stackLimits (T.setVm s.vm).me = e.platform.stackLimits s.me := X.limits
  have hb9 : (T.setVm s.vm).me.stackBytes = s.me.stackBytes := X.bytes
  refine ⟨X.admits, X.cas, X.clock, hF, ?_, X.hears, X.method, X.code, X.here, X.tail, X.warmed, ?_, ?_, ?_⟩
  · have h := X.room
    have hU : ((T.setVm s.vm).setFrames (.invoking m args :: below)).localsInUse = s.localsInUse := by
      rw [State.localsInUse_invoking hF (meth := meth) (c := c) X.method X.code, State.localsInUse_invoking X.frames X.method X.code]
    simp only [State.hasRoom, Bool.and_eq_true, decide_eq_true_eq] at h ⊢
    obtain ⟨⟨⟨⟨h1, h2, h3, h4, h5, h6⟩, h7⟩, h8⟩, h9⟩ := h
    rw [X.frames, List.length_cons] at h2 h3
    have q1 := X.heapSize
    have q2 := X.used
    simp only [hF, hU, List.length_cons, State.stackLimits_setFrames, State.stackBytes_setFrames, hl9, hb9]
    refine ⟨⟨⟨⟨by omega, by omega, by omega, by omega, by omega, h6⟩, ?_⟩, ?_⟩, X.book⟩
    · show T.heap.size + R'.cells ≤ e.platform.maxCells
      omega
    · show T.slotsUsed + R'.slots ≤ e.platform.maxSlots
      omega
  · rw [State.stackLimits_setFrames]; rfl
  · rw [State.stackBytes_setFrames]; rfl
  · refine ⟨?_, Nat.le_refl _, Nat.le_refl _, ?_, ?_, fun a c9 h9 => ⟨c9, h9, rfl, rfl, fun _ _ => rfl⟩⟩
    · obtain ⟨t, ht, -⟩ := State.frames_cons hr
      show T.setVm s.vm = { ((T.setVm s.vm).setFrames (.invoking m args :: below)).setFrames (T.setVm s.vm).frames with heap := T.heap, slotsUsed := T.slotsUsed }
      rw [State.setFrames_setFrames, State.setFrames_self ht]
      rfl
    · show T.slotsUsed = T.slotsUsed + ((T.heap.toList.drop T.heap.size).map (·.slots.size)).sum
      rw [List.drop_eq_nil_of_le (Nat.le_of_eq Array.length_toList)]
      rfl
    · show ((T.heap.toList.drop T.heap.size).map (·.slots.size)).sum ≤ 0
      rw [List.drop_eq_nil_of_le (Nat.le_of_eq Array.length_toList)]
      exact Nat.le_refl _
/-- 'throw new E()': new; dup; invokespecial; athrow -/
theorem vx_throw0 {cc : ByteArray} {pc : Nat} (hexec : p.tables.exec = Jvm.exec) (hb : c.code = cc) (hl : l.stackTraces = false) {own cls : String} {names : List String} {ik ic mc ms : Nat} {A : Nat → Prop}
    (hown : s.vm.findClass own = some m.cls) (hcls : Bundle.fit cls = true) (hnames : ∀ n ∈ names, Bundle.fit n = true)
    (hk : (Cond.classLink own ik cls).before args s = true) (hini : (Cond.initialized cls).before args s = true) (hat : ∀ w ∈ vx_at0 own ic cls names, w.before args s = true)
    (hgood : ∀ w ∈ Cond.classLink own ik cls :: Cond.initialized cls :: vx_at0 own ic cls names, vx_ot w = true)
    (hU : vx_Zq Bundle.tN "UNASSIGNED_STACK" Bundle.steD A s s.heap) (hN : vx_Zq Bundle.tN "SUPPRESSED_SENTINEL" Bundle.listD A s s.heap) (hS : va_S A s.heap H locs) (hsize : ls.size = c.maxLocals)
    (d0 : decode cc pc = .ok (.new ik, 3)) (d3 : decode cc (pc + 3) = .ok (.dup, 1)) (d4 : decode cc (pc + 4) = .ok (.invokespecial ic, 3)) (d7 : decode cc (pc + 7) = .ok (.athrow, 1))
    (hout : ∀ x ∈ c.exceptionTable.toList, covers x (pc + 7) = false)
    (hRframes : names.length + 3 < R.frames) (hRlocals : (rest.map fun v => v.category).sum + (13 * (names.length + 1) + 42) ≤ R.locals) (hRcells : cells + 1 ≤ R.cells) (hRslots : slots + 6 ≤ R.slots) (hlocks : meth.locks = false)
    (hx : ∀ t : State, s.vm.Alike t.vm → H.size ≤ t.heap.size → (∀ q : Nat, q < H.size → t.heap[q]? = H[q]?) → XC cls s t)
    (hf : ∀ z ∈ locs, free z.base) (hc : cells + 1 ≤ mc) (hs : slots + 6 ≤ ms) :
    W p l e R s m args below meth c H locs cells slots (vx_MQ below Qc XC args s mc ms free) (F0 m pc ls rest) := by
  intro T hT X
  have htr : e.platform.stackTraces = false := (show e.platform.stackTraces = l.stackTraces by rw [X.admits.platform]).trans hl
  have Y := vx_rebase X (R' := { frames := R.frames, locals := R.locals, cells := 1, slots := 6 }) (Nat.le_refl _) (Nat.le_refl _) hRcells hRslots
  obtain ⟨s', hA⟩ : ∃ z, z = (T.setVm s.vm).setFrames (.invoking m args :: below) := ⟨_, rfl⟩
  rw [← hA] at Y
  have hvm : s'.vm = s.vm := by rw [hA]; rfl
  have hhp : s'.heap = H := by rw [hA]; exact hT
  have hW0 : s.WarmedH s'.vm := by rw [hvm]; exact State.WarmedH.refl s
  have hat' : ∀ w ∈ vx_at0 own ic cls names, w.before args s' = true := fun w hw => vx_ot_at hW0 hvm.symm (hgood w (List.mem_cons_of_mem _ (List.mem_cons_of_mem _ hw))) (hat w hw)
  have hk' : (Cond.classLink own ik cls).before args s' = true := vx_ot_at hW0 hvm.symm (hgood _ List.mem_cons_self) hk
  have hini' : (Cond.initialized cls).before args s' = true := vx_ot_at hW0 hvm.symm (hgood _ (List.mem_cons_of_mem _ List.mem_cons_self)) hini
  have hU' : vx_Zq Bundle.tN "UNASSIGNED_STACK" Bundle.steD A s' s'.heap := by rw [hhp]; exact vx_Zq.moved hW0.alike (hU.kept hS.2.1)
  have hN' : vx_Zq Bundle.tN "SUPPRESSED_SENTINEL" Bundle.listD A s' s'.heap := by rw [hhp]; exact vx_Zq.moved hW0.alike (hN.kept hS.2.1)
  have h : ∀ w ∈ Bundle.ownAtoms0 own ic cls names, w.before args s' = true := vx_own hat' (vx_isRefq hU'.1) (vx_isRefq hN'.1) hU'.2.word hN'.2.word
  have hown' : s'.vm.findClass own = some m.cls := by rw [hvm]; exact hown
  have hins : (Cond.instantiable cls 6).before args s' = true := h _ (by simp [Bundle.ownAtoms0])
  obtain ⟨vm₁, cX, kX, hfX, hkX, -, -, X₁, st1⟩ := Y.newCold hexec (own := own) (C := cls) (index := ik) (n := 6) hown' hk' hins hini'
    (g := F0 m pc ls rest) rfl (by rw [hb]; exact d0) (Nat.le_refl _) (Nat.le_refl _)
  generalize hT1 : (T.setVm vm₁).pushCell { cls := cX, slots := kX.instanceTypes.map defaultValue, vm := .none } = T1 at X₁ st1
  have hcat : (Value.ref T.heap.size).category = 1 := rfl
  have hcellA : T1.heap[T.heap.size]? = some (freshCell cX kX) := by rw [← hT1]; exact State.heap_pushCell_size _ _
  have d3' : decode c.code (pc + 3) = .ok (.dup, 1) := by rw [hb]; exact d3
  obtain ⟨U, hsteps, hrun, hend, hW, hsame, ce, hce, hO⟩ := X₁.ctorThrow0 hexec htr (own := own) (cls := cls) (names := names) (ic := ic) hown' hcls hnames h (fun x hx => nomatch hx) hfX hkX hcellA (by rw [hhp, hT]; exact Nat.le_refl _)
    (g := { method := m, pc := pc + 4, locals := ls, stack := .ref T.heap.size :: .ref T.heap.size :: rest, locked := none }) rfl hsize rfl rfl (rest := rest) rfl
    (by rw [hb]; exact d4) (by rw [hb]; exact d7) hout hRframes (by simp only [List.map_cons, List.sum_cons, hcat]; omega) hlocks
  obtain ⟨f1, f2⟩ := vx_frame hsame
  rw [hhp] at f1 f2
  have hWs : s.WarmedH U.vm := State.WarmedH.trans hW0 hW
  have hcl : s.vm.findClass cls = some ce.cls := by
    have h9 := hO.cls
    rw [hvm] at h9
    exact h9
  have hall : s.sameButNew ({ U with vm := s.vm } : State) locs mc ms := by
    subst hA
    obtain ⟨e1, e2⟩ := hsame
    rw [State.setFrames_setFrames] at e1
    have h2 : (T.setVm s.vm).sameButNew ({ U with vm := s.vm } : State) [] (0 + 1) (0 + 6) := ⟨e1, e2⟩
    have h3 := X.same.trans h2
    rw [List.append_nil] at h3
    exact h3.mono hc hs
  refine ⟨U, ?_, .threw T.heap.size, hrun, hend, Or.inr ⟨T.heap.size, rfl, cls, ce, locs, hx U hWs.alike f1 (fun q hq => f2 q hq (fun z hz => nomatch hz)), hce, hO.vm, hcl, hWs, hall, hf⟩⟩
  refine st1 _ ?_
  show Steps p.tables e below (T1.setTop { method := m, pc := pc + 3, locals := ls, stack := .ref T.heap.size :: rest, locked := none }) _
  jvm_step X₁.here [X₁.here.top, hexec, d3', Value.category]
  exact hsteps
/-- 'throw new E("text")': new; dup; ldc; invokespecial; athrow -/
theorem vx_throwS {cc : ByteArray} {pc : Nat} (hexec : p.tables.exec = Jvm.exec) (hb : c.code = cc) (hl : l.stackTraces = false) {own cls text : String} {names : List String} {ik is ic mc ms sa : Nat} {A : Nat → Prop}
    (hown : s.vm.findClass own = some m.cls) (hcls : Bundle.fit cls = true) (hnames : ∀ n ∈ names, Bundle.fit n = true)
    (hk : (Cond.classLink own ik cls).before args s = true) (hini : (Cond.initialized cls).before args s = true) (hstr : vk_R own is text sa s) (hat : ∀ w ∈ vx_atS own ic cls names, w.before args s = true)
    (hgood : ∀ w ∈ Cond.classLink own ik cls :: Cond.initialized cls :: vx_atS own ic cls names, vx_ot w = true)
    (hU : vx_Zq Bundle.tN "UNASSIGNED_STACK" Bundle.steD A s s.heap) (hN : vx_Zq Bundle.tN "SUPPRESSED_SENTINEL" Bundle.listD A s s.heap) (hS : va_S A s.heap H locs) (hsize : ls.size = c.maxLocals)
    (d0 : decode cc pc = .ok (.new ik, 3)) (d3 : decode cc (pc + 3) = .ok (.dup, 1)) (d4 : decode cc (pc + 4) = .ok (.ldc is, 2)) (d6 : decode cc (pc + 6) = .ok (.invokespecial ic, 3)) (d9 : decode cc (pc + 9) = .ok (.athrow, 1))
    (hout : ∀ x ∈ c.exceptionTable.toList, covers x (pc + 9) = false)
    (hRframes : names.length + 3 < R.frames) (hRlocals : (rest.map fun v => v.category).sum + (13 * (names.length + 1) + 43) ≤ R.locals) (hRcells : cells + 1 ≤ R.cells) (hRslots : slots + 6 ≤ R.slots) (hlocks : meth.locks = false)
    (hx : ∀ t : State, s.vm.Alike t.vm → H.size ≤ t.heap.size → (∀ q : Nat, q < H.size → t.heap[q]? = H[q]?) → XC cls s t)
    (hf : ∀ z ∈ locs, free z.base) (hc : cells + 1 ≤ mc) (hs : slots + 6 ≤ ms) :
    W p l e R s m args below meth c H locs cells slots (vx_MQ below Qc XC args s mc ms free) (F0 m pc ls rest) := by
  intro T hT X
  have htr : e.platform.stackTraces = false := (show e.platform.stackTraces = l.stackTraces by rw [X.admits.platform]).trans hl
  have Y := vx_rebase X (R' := { frames := R.frames, locals := R.locals, cells := 1, slots := 6 }) (Nat.le_refl _) (Nat.le_refl _) hRcells hRslots
  obtain ⟨s', hA⟩ : ∃ z, z = (T.setVm s.vm).setFrames (.invoking m args :: below) := ⟨_, rfl⟩
  rw [← hA] at Y
  have hvm : s'.vm = s.vm := by rw [hA]; rfl
  have hhp : s'.heap = H := by rw [hA]; exact hT
  have hW0 : s.WarmedH s'.vm := by rw [hvm]; exact State.WarmedH.refl s
  have hat' : ∀ w ∈ vx_atS own ic cls names, w.before args s' = true := fun w hw => vx_ot_at hW0 hvm.symm (hgood w (List.mem_cons_of_mem _ (List.mem_cons_of_mem _ hw))) (hat w hw)
  have hk' : (Cond.classLink own ik cls).before args s' = true := vx_ot_at hW0 hvm.symm (hgood _ List.mem_cons_self) hk
  have hini' : (Cond.initialized cls).before args s' = true := vx_ot_at hW0 hvm.symm (hgood _ (List.mem_cons_of_mem _ List.mem_cons_self)) hini
  have hU' : vx_Zq Bundle.tN "UNASSIGNED_STACK" Bundle.steD A s' s'.heap := by rw [hhp]; exact vx_Zq.moved hW0.alike (hU.kept hS.2.1)
  have hN' : vx_Zq Bundle.tN "SUPPRESSED_SENTINEL" Bundle.listD A s' s'.heap := by rw [hhp]; exact vx_Zq.moved hW0.alike (hN.kept hS.2.1)
  have h : ∀ w ∈ Bundle.ownAtoms own ic cls names, w.before args s' = true := vx_own hat' (vx_isRefq hU'.1) (vx_isRefq hN'.1) hU'.2.word hN'.2.word
  have hown' : s'.vm.findClass own = some m.cls := by rw [hvm]; exact hown
  have hins : (Cond.instantiable cls 6).before args s' = true := h _ (by simp [Bundle.ownAtoms])
  obtain ⟨vm₁, cX, kX, hfX, hkX, -, -, X₁, st1⟩ := Y.newCold hexec (own := own) (C := cls) (index := ik) (n := 6) hown' hk' hins hini'
    (g := F0 m pc ls rest) rfl (by rw [hb]; exact d0) (Nat.le_refl _) (Nat.le_refl _)
  generalize hT1 : (T.setVm vm₁).pushCell { cls := cX, slots := kX.instanceTypes.map defaultValue, vm := .none } = T1 at X₁ st1
  have hcat : (Value.ref T.heap.size).category = 1 := rfl
  have hcellA : T1.heap[T.heap.size]? = some (freshCell cX kX) := by rw [← hT1]; exact State.heap_pushCell_size _ _
  have d3' : decode c.code (pc + 3) = .ok (.dup, 1) := by rw [hb]; exact d3
  have d4' : decode c.code (pc + 4) = .ok (.ldc is, 2) := by rw [hb]; exact d4
  have hstr' : vk_R own is text sa s' := vk_R.warm hW0 hstr
  obtain ⟨U, hsteps, hrun, hend, hW, hsame, ce, hce, hO⟩ := X₁.ctorThrowS hexec htr (own := own) (cls := cls) (names := names) (ic := ic) hown' hcls hnames h (fun x hx => nomatch hx) hfX hkX hcellA (by rw [hhp, hT]; exact Nat.le_refl _) (msg := .ref sa) rfl
    (g := { method := m, pc := pc + 6, locals := ls, stack := .ref sa :: .ref T.heap.size :: .ref T.heap.size :: rest, locked := none }) rfl hsize rfl rfl (rest := rest) rfl
    (by rw [hb]; exact d6) (by rw [hb]; exact d9) hout hRframes (by simp only [List.map_cons, List.sum_cons, hcat]; omega) hlocks
  obtain ⟨f1, f2⟩ := vx_frame hsame
  rw [hhp] at f1 f2
  have hWs : s.WarmedH U.vm := State.WarmedH.trans hW0 hW
  have hcl : s.vm.findClass cls = some ce.cls := by
    have h9 := hO.cls
    rw [hvm] at h9
    exact h9
  have hall : s.sameButNew ({ U with vm := s.vm } : State) locs mc ms := by
    subst hA
    obtain ⟨e1, e2⟩ := hsame
    rw [State.setFrames_setFrames] at e1
    have h2 : (T.setVm s.vm).sameButNew ({ U with vm := s.vm } : State) [] (0 + 1) (0 + 6) := ⟨e1, e2⟩
    have h3 := X.same.trans h2
    rw [List.append_nil] at h3
    exact h3.mono hc hs
  refine ⟨U, ?_, .threw T.heap.size, hrun, hend, Or.inr ⟨T.heap.size, rfl, cls, ce, locs, hx U hWs.alike f1 (fun q hq => f2 q hq (fun z hz => nomatch hz)), hce, hO.vm, hcl, hWs, hall, hf⟩⟩
  refine st1 _ ?_
  show Steps p.tables e below (T1.setTop { method := m, pc := pc + 3, locals := ls, stack := .ref T.heap.size :: rest, locked := none }) _
  jvm_step X₁.here [X₁.here.top, hexec, d3', Value.category]
  exact X₁.ldcString hexec (own := own) (text := text) (index := is) (a := sa) hown' hstr'.1 hstr'.2
    (g := { method := m, pc := pc + 4, locals := ls, stack := .ref T.heap.size :: .ref T.heap.size :: rest, locked := none }) rfl d4' _ hsteps
/-- 'throw new E("text")', the text by a wide index -/
theorem vx_throwSW {cc : ByteArray} {pc : Nat} (hexec : p.tables.exec = Jvm.exec) (hb : c.code = cc) (hl : l.stackTraces = false) {own cls text : String} {names : List String} {ik is ic mc ms sa : Nat} {A : Nat → Prop}
    (hown : s.vm.findClass own = some m.cls) (hcls : Bundle.fit cls = true) (hnames : ∀ n ∈ names, Bundle.fit n = true)
    (hk : (Cond.classLink own ik cls).before args s = true) (hini : (Cond.initialized cls).before args s = true) (hstr : vk_R own is text sa s) (hat : ∀ w ∈ vx_atS own ic cls names, w.before args s = true)
    (hgood : ∀ w ∈ Cond.classLink own ik cls :: Cond.initialized cls :: vx_atS own ic cls names, vx_ot w = true)
    (hU : vx_Zq Bundle.tN "UNASSIGNED_STACK" Bundle.steD A s s.heap) (hN : vx_Zq Bundle.tN "SUPPRESSED_SENTINEL" Bundle.listD A s s.heap) (hS : va_S A s.heap H locs) (hsize : ls.size = c.maxLocals)
    (d0 : decode cc pc = .ok (.new ik, 3)) (d3 : decode cc (pc + 3) = .ok (.dup, 1)) (d4 : decode cc (pc + 4) = .ok (.ldc_w is, 3)) (d7 : decode cc (pc + 7) = .ok (.invokespecial ic, 3)) (d10 : decode cc (pc + 10) = .ok (.athrow, 1))
    (hout : ∀ x ∈ c.exceptionTable.toList, covers x (pc + 10) = false)
    (hRframes : names.length + 3 < R.frames) (hRlocals : (rest.map fun v => v.category).sum + (13 * (names.length + 1) + 43) ≤ R.locals) (hRcells : cells + 1 ≤ R.cells) (hRslots : slots + 6 ≤ R.slots) (hlocks : meth.locks = false)
    (hx : ∀ t : State, s.vm.Alike t.vm → H.size ≤ t.heap.size → (∀ q : Nat, q < H.size → t.heap[q]? = H[q]?) → XC cls s t)
    (hf : ∀ z ∈ locs, free z.base) (hc : cells + 1 ≤ mc) (hs : slots + 6 ≤ ms) :
    W p l e R s m args below meth c H locs cells slots (vx_MQ below Qc XC args s mc ms free) (F0 m pc ls rest) := by
  intro T hT X
  have htr : e.platform.stackTraces = false := (show e.platform.stackTraces = l.stackTraces by rw [X.admits.platform]).trans hl
  have Y := vx_rebase X (R' := { frames := R.frames, locals := R.locals, cells := 1, slots := 6 }) (Nat.le_refl _) (Nat.le_refl _) hRcells hRslots
  obtain ⟨s', hA⟩ : ∃ z, z = (T.setVm s.vm).setFrames (.invoking m args :: below) := ⟨_, rfl⟩
  rw [← hA] at Y
  have hvm : s'.vm = s.vm := by rw [hA]; rfl
  have hhp : s'.heap = H := by rw [hA]; exact hT
  have hW0 : s.WarmedH s'.vm := by rw [hvm]; exact State.WarmedH.refl s
  have hat' : ∀ w ∈ vx_atS own ic cls names, w.before args s' = true := fun w hw => vx_ot_at hW0 hvm.symm (hgood w (List.mem_cons_of_mem _ (List.mem_cons_of_mem _ hw))) (hat w hw)
  have hk' : (Cond.classLink own ik cls).before args s' = true := vx_ot_at hW0 hvm.symm (hgood _ List.mem_cons_self) hk
  have hini' : (Cond.initialized cls).before args s' = true := vx_ot_at hW0 hvm.symm (hgood _ (List.mem_cons_of_mem _ List.mem_cons_self)) hini
  have hU' : vx_Zq Bundle.tN "UNASSIGNED_STACK" Bundle.steD A s' s'.heap := by rw [hhp]; exact vx_Zq.moved hW0.alike (hU.kept hS.2.1)
  have hN' : vx_Zq Bundle.tN "SUPPRESSED_SENTINEL" Bundle.listD A s' s'.heap := by rw [hhp]; exact vx_Zq.moved hW0.alike (hN.kept hS.2.1)
  have h : ∀ w ∈ Bundle.ownAtoms own ic cls names, w.before args s' = true := vx_own hat' (vx_isRefq hU'.1) (vx_isRefq hN'.1) hU'.2.word hN'.2.word
  have hown' : s'.vm.findClass own = some m.cls := by rw [hvm]; exact hown
  have hins : (Cond.instantiable cls 6).before args s' = true := h _ (by simp [Bundle.ownAtoms])
  obtain ⟨vm₁, cX, kX, hfX, hkX, -, -, X₁, st1⟩ := Y.newCold hexec (own := own) (C := cls) (index := ik) (n := 6) hown' hk' hins hini'
    (g := F0 m pc ls rest) rfl (by rw [hb]; exact d0) (Nat.le_refl _) (Nat.le_refl _)
  generalize hT1 : (T.setVm vm₁).pushCell { cls := cX, slots := kX.instanceTypes.map defaultValue, vm := .none } = T1 at X₁ st1
  have hcat : (Value.ref T.heap.size).category = 1 := rfl
  have hcellA : T1.heap[T.heap.size]? = some (freshCell cX kX) := by rw [← hT1]; exact State.heap_pushCell_size _ _
  have d3' : decode c.code (pc + 3) = .ok (.dup, 1) := by rw [hb]; exact d3
  have d4' : decode c.code (pc + 4) = .ok (.ldc_w is, 3) := by rw [hb]; exact d4
  have hstr' : vk_R own is text sa s' := vk_R.warm hW0 hstr
  obtain ⟨U, hsteps, hrun, hend, hW, hsame, ce, hce, hO⟩ := X₁.ctorThrowS hexec htr (own := own) (cls := cls) (names := names) (ic := ic) hown' hcls hnames h (fun x hx => nomatch hx) hfX hkX hcellA (by rw [hhp, hT]; exact Nat.le_refl _) (msg := .ref sa) rfl
    (g := { method := m, pc := pc + 7, locals := ls, stack := .ref sa :: .ref T.heap.size :: .ref T.heap.size :: rest, locked := none }) rfl hsize rfl rfl (rest := rest) rfl
    (by rw [hb]; exact d7) (by rw [hb]; exact d10) hout hRframes (by simp only [List.map_cons, List.sum_cons, hcat]; omega) hlocks
  obtain ⟨f1, f2⟩ := vx_frame hsame
  rw [hhp] at f1 f2
  have hWs : s.WarmedH U.vm := State.WarmedH.trans hW0 hW
  have hcl : s.vm.findClass cls = some ce.cls := by
    have h9 := hO.cls
    rw [hvm] at h9
    exact h9
  have hall : s.sameButNew ({ U with vm := s.vm } : State) locs mc ms := by
    subst hA
    obtain ⟨e1, e2⟩ := hsame
    rw [State.setFrames_setFrames] at e1
    have h2 : (T.setVm s.vm).sameButNew ({ U with vm := s.vm } : State) [] (0 + 1) (0 + 6) := ⟨e1, e2⟩
    have h3 := X.same.trans h2
    rw [List.append_nil] at h3
    exact h3.mono hc hs
  refine ⟨U, ?_, .threw T.heap.size, hrun, hend, Or.inr ⟨T.heap.size, rfl, cls, ce, locs, hx U hWs.alike f1 (fun q hq => f2 q hq (fun z hz => nomatch hz)), hce, hO.vm, hcl, hWs, hall, hf⟩⟩
  refine st1 _ ?_
  show Steps p.tables e below (T1.setTop { method := m, pc := pc + 3, locals := ls, stack := .ref T.heap.size :: rest, locked := none }) _
  jvm_step X₁.here [X₁.here.top, hexec, d3', Value.category]
  exact X₁.ldcStringW hexec (own := own) (text := text) (index := is) (a := sa) hown' hstr'.1 hstr'.2
    (g := { method := m, pc := pc + 4, locals := ls, stack := .ref T.heap.size :: .ref T.heap.size :: rest, locked := none }) rfl d4' _ hsteps
end Ends
section Bodies
variable {l : Launch}
theorem vx_ofW {y : MethodName} {ws ws' : List Cond} {rm : Room} {Pc : Array Value → State → Prop} {Qc : Array Value → State → Outcome → State → Prop} {XC : String → State → State → Prop} {mc ms : Nat} {free : Addr → Prop} {cc : ByteArray} {maxL : Nat} {ret : Option FieldType}
    (hy : plainName y.cls = true) (hw : ws = Cond.code y cc maxL ret :: ws')
    (body : ∀ p e s m args below meth c s₁, BodyLoose p l y (headSpec ws rm) cc maxL ret e s m args below meth c s₁ → c.maxLocals = maxL → (∀ x ∈ c.exceptionTable.toList, False) → Pc args s →
      W p l e (headSpec ws rm).room s m args below meth c s.heap [] 0 0 (vx_MQ below Qc XC args s mc ms free) (entryFrame m args maxL)) : vx_Met l y ws rm Pc Qc XC mc ms free := by
  refine MetFree.of_bodyS (code := cc) (maxLocals := maxL) (ret := ret) hy ?_ ?_
  · intro args s m h hn
    obtain ⟨meth, c, h1, h2, h3, h4, h5, h6, -, -⟩ := Cond.code_spec hn (atoms_spec (ws := ws) h _ (by rw [hw]; exact List.mem_cons_self))
    exact ⟨meth, c, h1, h2, h3, h4, h5, h6⟩
  · intro p e s m args below meth c s₁ B hml hP _
    have hh0 : s₁.heap = s.heap := by rw [B.state]; rfl
    have ht : ∀ x ∈ c.exceptionTable.toList, False := by
      obtain ⟨meth9, c9, h1, h2, -, -, -, -, h7, -⟩ := Cond.code_spec B.named (atoms_spec (ws := ws) B.pre _ (by rw [hw]; exact List.mem_cons_self))
      cases Option.some.inj (h1.symm.trans B.method)
      cases Option.some.inj (h2.symm.trans (Stand.of_body B).code)
      intro x hx
      rw [Array.isEmpty_iff.mp h7] at hx
      cases hx
    obtain ⟨t, a1, o, b1, b2, b3⟩ := body p e s m args below meth c s₁ B hml ht hP s₁ hh0 (Stand.of_body B)
    exact ⟨t, o, a1, b1, b2, b3⟩
/-- the table of a body with handlers -/
theorem vx_table {p : Program} {x y : MethodName} {S : Spec} {cc bytes : ByteArray} {maxL maxL' : Nat} {ret ret' : Option FieldType} {e : Env} {s s₁ : State} {m : MethodId} {args : Array Value} {below : List Frame} {meth : Method} {c : Code} {hh : List (Nat × Nat × Nat × Nat)}
    (B : BodyLoose p l y S cc maxL ret e s m args below meth c s₁) (h : (Cond.codeWith y bytes maxL' ret' hh).before args s = true) : c.exceptionTable.toList = tableOf hh := by
  obtain ⟨m9, meth9, c9, hn9, h1, h2, -, -, h6, -⟩ := Cond.codeWith_spec h
  cases Option.some.inj (hn9.symm.trans B.named)
  cases Option.some.inj (h1.symm.trans B.method)
  cases Option.some.inj (h2.symm.trans (Stand.of_body B).code)
  rw [← h6, table_eq]
end Bodies
end VXA
/-! ===== END ===== -/
/-! ===== BEGIN a static call of a method with an exception table ===== -/
section VXS
variable {p : Program} {l : Launch} {e : Env} {R : Room} {s : State} {m : MethodId} {args : Array Value} {below : List Frame} {meth : Method} {c : Code} {T : State} {H : Heap} {locs : List Loc} {cells slots : Nat}
abbrev vx_CSW (R : Room) (s : State) (args : Array Value) (own : String) (index : Nat) (y : MethodName) (bytes : ByteArray) (maxL : Nat) (ret : Option FieldType) (hh : List (Nat × Nat × Nat × Nat)) (ws : List Cond) (rm : Room) (mc ms n : Nat) : Prop :=
  (rm.cells = mc ∧ rm.slots = ms ∧ rm.frames + 1 ≤ R.frames ∧ 8 + (maxL + 11) + rm.locals ≤ R.locals ∧ (∀ w ∈ ws, ∀ (a' : Array Value) (U : State), s.WarmedH U.vm → w.before a' U = true) ∧ Cond.codeWith y bytes maxL ret hh ∈ ws) ∧
  (Cond.codeWith y bytes maxL ret hh).before args s = true ∧ (Cond.initialized y.cls).before args s = true ∧ (y.cls ≠ "java/lang/invoke/MethodHandle" ∧ y.cls ≠ "java/lang/invoke/VarHandle") ∧
  (∀ sig, parseMethodDescriptor y.desc = some sig → n = sig.parameters.length) ∧ (Cond.methodLink own index y).before args s = true ∧ (Cond.static y).before args s = true
theorem vx_cwSW {own : String} {index maxL mc ms : Nat} {y : MethodName} {bytes : ByteArray} {ret : Option FieldType} {hh : List (Nat × Nat × Nat × Nat)} {Ts ws ws' : List Cond} {rm : Room} (n : Nat) (ht : ∀ w ∈ Ts, w.before args s = true) (hT : GoodIn Ts (va_wsS own index y ws)) (hw : ws = Cond.codeWith y bytes maxL ret hh :: ws') (hrc : rm.cells = mc) (hrs : rm.slots = ms)
    (hd : y.cls ≠ "java/lang/invoke/MethodHandle" ∧ y.cls ≠ "java/lang/invoke/VarHandle" ∧ (parseMethodDescriptor y.desc).map (fun d => d.parameters.length) = some n) (hR : rm.frames + 1 ≤ R.frames ∧ 8 + (maxL + 11) + rm.locals ≤ R.locals) :
    vx_CSW R s args own index y bytes maxL ret hh ws rm mc ms n := by
  have ok : ∀ w ∈ va_wsS own index y ws, w.before args s = true := fun w h => ht w (hT w h).1
  have hG : GoodIn Ts ws := fun w h => hT w (by unfold va_wsS; exact List.mem_append_right _ h)
  have hc : Cond.codeWith y bytes maxL ret hh ∈ ws := by rw [hw]; exact List.mem_cons_self
  refine ⟨⟨hrc, hrs, hR.1, hR.2, pay_in ht hG, hc⟩, ht _ (hG _ hc).1, ok _ (by simp [va_wsS]), ⟨hd.1, hd.2.1⟩, fun sig h => ?_, ok _ (by simp [va_wsS]), ok _ (by simp [va_wsS])⟩
  have h2 := hd.2.2
  rw [h] at h2
  exact (Option.some.inj h2).symm
theorem vx_callSW (X : Stand p l e R s m args below meth c T locs cells slots) (hexec : p.tables.exec = Jvm.exec) {own : String} {index : Nat} {y : MethodName} {bytes : ByteArray} {maxL : Nat} {ret : Option FieldType} {hh : List (Nat × Nat × Nat × Nat)}
    (hown : s.vm.findClass own = some m.cls) (hlink : (Cond.methodLink own index y).before args s = true) (hstat : (Cond.static y).before args s = true) (hinit : (Cond.initialized y.cls).before args s = true)
    (hcode : (Cond.codeWith y bytes maxL ret hh).before args s = true) (hy : y.cls ≠ "java/lang/invoke/MethodHandle" ∧ y.cls ≠ "java/lang/invoke/VarHandle")
    {W9 : Nat} {Pre : Pt → Array Value → Prop} {Post : Pt → Array Value → Option Value → Pt → Prop} (hK : Back l R p e below s args y 3 W9 Pre Post)
    {g : JFrame} (hg : g.method = m) (hsize : g.locals.size = c.maxLocals) {argsL rest : List Value} (hlen : ∀ sig, parseMethodDescriptor y.desc = some sig → argsL.length = sig.parameters.length)
    (hstack : g.stack = argsL.reverse ++ rest) (hW : 2 * g.monitorRoom + (rest.map fun v => v.category).sum ≤ W9) (hdg : decode c.code g.pc = .ok (.invokestatic index, 3))
    (hpre : ∀ vm₁, s.WarmedH vm₁ → Pre ⟨T.setVm vm₁, locs, cells, slots⟩ argsL.toArray) :
    ∃ (v : Option Value) (vm₁ : Vm) (B : Pt), s.WarmedH vm₁ ∧ Stand p l e R s m args below meth c B.U B.locs B.cells B.slots ∧ Post ⟨T.setVm vm₁, locs, cells, slots⟩ argsL.toArray v B ∧
      ∀ target, Steps p.tables e below (B.U.setTop { g with pc := g.pc + 3, stack := v.toList ++ rest }) target → Steps p.tables e below (T.setTop g) target := by
  obtain ⟨mk, methM, cM, hnamed, hmethM, -, -, -, -, -, -, hsigM⟩ := Cond.codeWith_spec hcode
  have hstatic : methM.isStatic = true := Cond.static_spec hnamed hmethM hstat
  obtain ⟨kP, hkP, -⟩ := className_of_methodNamed hnamed
  have hinitP : kP.init = .initialized := Cond.initialized_spec (findClass_of_methodNamed hnamed) hkP hinit
  obtain ⟨vm₁, X₁, hstep₁⟩ := X.invokestatic hexec hown hlink hnamed hmethM hstatic hkP hinitP hy (g := g) hg (argsL := argsL) (rest := rest) (hlen _ hsigM) hstack hdg
  obtain ⟨v, B, X', hpost, hsteps⟩ := hK m meth c ⟨T.setVm vm₁, locs, cells, slots⟩ { g with stack := rest } (.invokestatic index) mk argsL.toArray X₁ hg hsize hdg hW (X₁.named hnamed) (hpre vm₁ X₁.warmed)
  exact ⟨v, vm₁, B, X₁.warmed, X', hpost, fun target h => hstep₁ _ fun acts => by rw [doInvoke_state]; exact hsteps.trans h⟩
theorem vx_runSW {y : MethodName} {bytes cc : ByteArray} {maxL nL mc ms n index : Nat} {ret : Option FieldType} {hh : List (Nat × Nat × Nat × Nat)} {ws : List Cond} {rm : Room} {Pc : Array Value → State → Prop} {Qc : Array Value → State → Outcome → State → Prop} {free : Addr → Prop} {Ts : List Cond} {own : String} {As rest : List Value} {g : JFrame}
    (S : CallFix p m c cc nL s args Ts own) (hM : Met l y ws rm Pc Qc mc ms free) (cw : vx_CSW R s args own index y bytes maxL ret hh ws rm mc ms n) (hp : PreS s H Pc As)
    (hg : g.method = m) (hn : As.length = n) (hsize : g.locals.size = nL) (hstack : g.stack = As.reverse ++ rest) (hW : 2 * g.monitorRoom + (rest.map fun v => v.category).sum ≤ 8) (hdg : decode cc g.pc = .ok (.invokestatic index, 3)) (hf : cells + mc ≤ R.cells ∧ slots + ms ≤ R.slots) :
    va_Run p l e R s m args below meth c H locs cells slots mc ms g rest (Qc As.toArray) (free) := by
  obtain ⟨⟨hrc, hrs, hfr, hlo, hws, hcw⟩, hcode, hini, hy, hlen, hl, hstt⟩ := cw
  have hK : Back l R p e below s args y 3 8 (PreOf R mc ms Pc) (PostOf Qc mc ms free) := va_backW (hh := hh) (bytes := bytes) (maxL := maxL) (ret := ret) hM hp.1 hrc hrs hfr hlo hws hcw (fun a' U hW => word_at hW (Or.inl (by first | rfl | simp [Cond.onTables, Cond.keeps, Cond.steady])) hini)
  obtain ⟨hx, hb, hml, ho, -⟩ := S
  intro T hT X
  obtain ⟨v, vm₁, ⟨U', l2, c2, s2⟩, hW₁, X', ⟨g', mk, t, L, e1, e2, hq, h1, hL, h2, h3⟩, st⟩ := vx_callSW X hx (hh := hh) (bytes := bytes) (maxL := maxL) (ret := ret) ho hl hstt hini hcode hy hK hg (hsize.trans hml.symm) (argsL := As) (rest := rest) (fun sig h => hn.trans (hlen sig h)) hstack hW (by rw [hb]; exact hdg)
    (fun vm₁ hW₁ => ⟨hf.1, hf.2, hp.2 (T.setVm vm₁) hT hW₁⟩)
  dsimp only [Pt.U, Pt.locs, Pt.cells, Pt.slots] at X' e1 e2 h1 h2 h3 st
  subst h1; subst h2; subst h3
  exact ⟨v, (T.setVm vm₁).calling g' mk As.toArray, t, U', L, hT, X', hL, e1, e2, hq, st⟩
/-- not caught here, past rows that name other classes: it goes on to the caller -/
theorem cut_vx_outP : True := trivial
/-- a thing of a world lies in the heap -/
theorem vx_lt {D : va_G} {cl : List vw_C} {ws : va_W} {H1 : Heap} (h : va_P D cl ws H1) {k : Nat} {q : Nat × va_E} (hk : ws[k]? = some q) : q.1 < H1.size := (h k q hk).lt
end VXS
/-! ===== END ===== -/
/-! ===== BEGIN methods with a table of their own: called by a name, returning or throwing ===== -/
section VXH
/-! vx_backW, vx_callVX, vx_callSX, vx_callVW, vx_runVW, vx_runVX, vx_runSX, vx_ofWH follow the same proofs as their sisters above (Free/Laws.lean, Shelf42/LK1.lean); vx_outP calls Shelf42/NT130.lean (outThrough). -/
section
variable {l : Launch} {R : Room} {p : Program} {e : Env} {below : List Frame} {s : State} {sargs : Array Value} {y : MethodName} {len W9 : Nat}
theorem vx_backW {ws : List Cond} {rm : Room} {Pc : Array Value → State → Prop} {Qc : Array Value → State → Outcome → State → Prop} {XC : String → State → State → Prop} {mc ms : Nat} {free : Addr → Prop} {bytes : ByteArray} {maxL : Nat} {ret : Option FieldType} {hh : List (Nat × Nat × Nat × Nat)}
    (hM : vx_Met l y ws rm Pc Qc XC mc ms free) (hblind : FrameBlind Pc) (hrc : rm.cells = mc) (hrs : rm.slots = ms)
    (hframes : rm.frames + 1 ≤ R.frames) (hlocals : W9 + (maxL + 11) + rm.locals ≤ R.locals)
    (hws : ∀ w ∈ ws, ∀ a' U, s.WarmedH U.vm → w.before a' U = true) (hcode : Cond.codeWith y bytes maxL ret hh ∈ ws) (hinit : ∀ a' U, s.WarmedH U.vm → (Cond.initialized y.cls).before a' U = true) :
    vx_Back l R p e below s sargs y len W9 (PreOf R mc ms Pc) (PostOf Qc mc ms free) (vx_Post XC mc ms free) := by
  intro m meth c A g ig mk a X hg hsize hdg hW hn hp
  have h1 : (headSpec ws rm).pre.before a A.U = true := atoms_intro fun w hw => hws w hw _ _ X.warmed
  have h2 : (Cond.codeWith y bytes maxL ret hh).before a A.U = true := hws _ hcode _ _ X.warmed
  have h3 : (Cond.initialized y.cls).before a A.U = true := hinit _ _ X.warmed
  have h4 : A.cells + (headSpec ws rm).room.cells ≤ R.cells := by rw [show (headSpec ws rm).room.cells = mc from hrc]; exact hp.1
  have h5 : A.slots + (headSpec ws rm).room.slots ≤ R.slots := by rw [show (headSpec ws rm).room.slots = ms from hrs]; exact hp.2.1
  have hPc : Pc a (A.U.calling g mk a) := hblind _ _ _ _ hp.2.2
  obtain ⟨U, Ls, c0, s0⟩ := A
  dsimp only [Pt.U, Pt.locs, Pt.cells, Pt.slots] at h1 h2 h3 h4 h5 X hn hPc ⊢
  obtain ⟨m9, methY, cY, hn9, hmY, hcY, -, hlY, -⟩ := Cond.codeWith_spec h2
  cases Option.some.inj (hn9.symm.trans hn)
  obtain ⟨kY, hkY, -⟩ := className_of_methodNamed hn
  have hinitY : kY.init = .initialized := Cond.initialized_spec (findClass_of_methodNamed hn) hkY h3
  have h : At U g.method c below := by rw [hg]; exact X.here
  have hlocals9 : W9 + (maxL + 11) + (headSpec ws rm).room.locals ≤ R.locals := hlocals
  have happ : (headSpec ws rm).appliesLoose y e.platform (U.calling g mk a) = true :=
    Spec.appliesLoose_calling (g := g) h hdg hn hkY hinitY
      (X.room_calling (g := g) (R' := (headSpec ws rm).room) hsize hmY hcY hframes (by rw [hlY]; omega) h4 h5) h1
  obtain ⟨mid, hmid⟩ := h.above
  have hfr : (U.setTop g).frames = (.java g :: mid) ++ below := by rw [State.frames_setTop' g h.top, hmid]; rfl
  obtain ⟨o, s₂, hsteps, -, hend, hq⟩ := Steps.callFree hM p X.admits X.cas X.clock (acts := []) hfr happ hPc trivial
  have hq' : vx_Q Qc XC mc ms free a (U.calling g mk a) o s₂ := hq
  rw [State.frames_setTop' g h.top] at hend
  obtain ⟨g₀, hg0⟩ := Option.isSome_iff_exists.mp h.top
  obtain ⟨r, hr⟩ := State.topJava?_eq_some.mp hg0
  have hr' : (({ U with heap := s₂.heap, slotsUsed := s₂.slotsUsed } : State).setVm s₂.vm).frames = .java g₀ :: r := hr
  rcases hq' with ⟨hqc, L, hfe, hL⟩ | ⟨q, rfl, E, ce, L, hx, hce, hcv, hcl, hW₂, hsm, hL⟩
  · obtain ⟨⟨v, rfl⟩, hW₂, e2, q2, q3, q4, q5, q6⟩ := id hfe
    have e3 : s₂ = ({ (U.calling g mk a).setFrames s₂.frames with heap := s₂.heap, slotsUsed := s₂.slotsUsed } : State).setVm s₂.vm := by
      have : s₂ = ({ s₂ with vm := (U.calling g mk a).vm } : State).setVm s₂.vm := rfl
      rw [e2] at this
      exact this
    obtain ⟨c₂, i₂, len₂, hc₂, hd₂, hf₂⟩ := hend
    have hW' : U.WarmedH s₂.vm := hW₂
    have hcc : c₂ = c := by
      have h1 : s₂.code? g.method = U.code? g.method := by
        rw [State.code?_eq, State.code?_eq, hW'.alike.method?]
      exact Option.some.inj (hc₂.symm.trans (h1.trans h.code))
    subst hcc
    have hlen : len₂ = len := by rw [hdg] at hd₂; cases hd₂; rfl
    subst hlen
    have hs₂ : s₂ = (({ U with heap := s₂.heap, slotsUsed := s₂.slotsUsed } : State).setVm s₂.vm).setTop { g with pc := g.pc + len₂, stack := v.toList ++ g.stack } := by
      refine e3.trans ?_
      rw [hf₂, State.calling_eq h.top, State.setFrames_setFrames, State.setTop_of_frames _ hr', hr]
      rfl
    have hsame : U.sameButNew ({ U with heap := s₂.heap, slotsUsed := s₂.slotsUsed } : State) L mc ms := by
      refine ⟨?_, q2, q3, q4, q5, q6⟩
      obtain ⟨t, ht, -⟩ := State.frames_cons hr
      show ({ U with heap := s₂.heap, slotsUsed := s₂.slotsUsed } : State) = { U.setFrames U.frames with heap := s₂.heap, slotsUsed := s₂.slotsUsed }
      rw [State.setFrames_self ht]
    subst hg
    refine Or.inl ⟨v, ⟨(({ U with heap := s₂.heap, slotsUsed := s₂.slotsUsed } : State).setVm s₂.vm), Ls ++ L, c0 + mc, s0 + ms⟩,
      ⟨X.admits, X.cas, X.clock, X.frames, X.room, X.hears, X.method, X.code, (X.here.setHeapUsed s₂.heap s₂.slotsUsed).setVm hW'.alike, X.tail, State.WarmedH.trans X.warmed hW', X.limits, X.bytes, X.same.trans (hsame.setVm s.vm)⟩,
      ⟨g, mk, s₂, L, rfl, rfl, hqc, rfl, hL, rfl, rfl⟩, ?_⟩
    show Steps p.tables e below _ ((({ U with heap := s₂.heap, slotsUsed := s₂.slotsUsed } : State).setVm s₂.vm).setTop { g with pc := g.pc + len₂, stack := v.toList ++ g.stack })
    rw [← hs₂]
    exact hsteps
  · obtain ⟨e2, q2, q3, q4, q5, q6⟩ := id hsm
    have e3 : s₂ = ({ (U.calling g mk a).setFrames s₂.frames with heap := s₂.heap, slotsUsed := s₂.slotsUsed } : State).setVm s₂.vm := by
      have : s₂ = ({ s₂ with vm := (U.calling g mk a).vm } : State).setVm s₂.vm := rfl
      rw [e2] at this
      exact this
    have hf₂ : s₂.frames = .throwing q :: .java g :: U.frames.tail := hend
    have hW' : U.WarmedH s₂.vm := hW₂
    have hs₂ : s₂ = ((({ U with heap := s₂.heap, slotsUsed := s₂.slotsUsed } : State).setVm s₂.vm).setTop g).pushFrame (.throwing q) := by
      refine e3.trans ?_
      rw [hf₂, State.calling_eq h.top, State.setFrames_setFrames, State.pushFrame, State.frames_setTop _ hr', State.setTop_of_frames _ hr', State.setFrames_setFrames, hr]
      rfl
    have hsame : U.sameButNew ({ U with heap := s₂.heap, slotsUsed := s₂.slotsUsed } : State) L mc ms := by
      refine ⟨?_, q2, q3, q4, q5, q6⟩
      obtain ⟨t, ht, -⟩ := State.frames_cons hr
      show ({ U with heap := s₂.heap, slotsUsed := s₂.slotsUsed } : State) = { U.setFrames U.frames with heap := s₂.heap, slotsUsed := s₂.slotsUsed }
      rw [State.setFrames_self ht]
    subst hg
    refine Or.inr ⟨q, ⟨(({ U with heap := s₂.heap, slotsUsed := s₂.slotsUsed } : State).setVm s₂.vm), Ls ++ L, c0 + mc, s0 + ms⟩,
      ⟨X.admits, X.cas, X.clock, X.frames, X.room, X.hears, X.method, X.code, (X.here.setHeapUsed s₂.heap s₂.slotsUsed).setVm hW'.alike, X.tail, State.WarmedH.trans X.warmed hW', X.limits, X.bytes, X.same.trans (hsame.setVm s.vm)⟩,
      ⟨g, mk, s₂, L, E, ce, rfl, rfl, hx, hce, hcv, hcl, rfl, hL, rfl, rfl⟩, ?_⟩
    show Steps p.tables e below _ (((({ U with heap := s₂.heap, slotsUsed := s₂.slotsUsed } : State).setVm s₂.vm).setTop g).pushFrame (.throwing q))
    rw [← hs₂]
    exact hsteps
end
variable {p : Program} {l : Launch} {e : Env} {R : Room} {s : State} {m : MethodId} {args : Array Value} {below : List Frame} {meth : Method} {c : Code} {T : State} {H : Heap} {locs : List Loc} {cells slots : Nat}
theorem vx_callVX (X : Stand p l e R s m args below meth c T locs cells slots) (hexec : p.tables.exec = Jvm.exec) {own C : String} {index : Nat} {y : MethodName} {bytes : ByteArray} {maxL : Nat} {ret : Option FieldType} {hh : List (Nat × Nat × Nat × Nat)}
    (hown : s.vm.findClass own = some m.cls) (hlink : (Cond.methodLink own index y).before args s = true) (hinst : (Cond.instanceMethod y).before args s = true) (hsel : (Cond.selects C y y).before args s = true)
    (hcode : (Cond.codeWith y bytes maxL ret hh).before args s = true) (hy : y.cls ≠ "java/lang/invoke/MethodHandle" ∧ y.cls ≠ "java/lang/invoke/VarHandle")
    {W9 : Nat} {Pre : Pt → Array Value → Prop} {Post : Pt → Array Value → Option Value → Pt → Prop} {PostX : Pt → Array Value → Addr → Pt → Prop} (hK : vx_Back l R p e below s args y 3 W9 Pre Post PostX)
    {b : Addr} {cellB : Cell} (hcell : T.heap[b]? = some cellB) (hobj : cellB.vm.isStatics = false) (hcls : s.vm.findClass C = some cellB.cls)
    {g : JFrame} (hg : g.method = m) (hsize : g.locals.size = c.maxLocals) {argsL rest : List Value} (hlen : ∀ sig, parseMethodDescriptor y.desc = some sig → argsL.length = sig.parameters.length)
    (hstack : g.stack = argsL.reverse ++ .ref b :: rest) (hW : 2 * g.monitorRoom + (rest.map fun v => v.category).sum ≤ W9) (hdg : decode c.code g.pc = .ok (.invokevirtual index, 3))
    (hpre : ∀ vm₁, s.WarmedH vm₁ → Pre ⟨T.setVm vm₁, locs, cells, slots⟩ (Value.ref b :: argsL).toArray) :
    (∃ (v : Option Value) (vm₁ : Vm) (B : Pt), s.WarmedH vm₁ ∧ Stand p l e R s m args below meth c B.U B.locs B.cells B.slots ∧ Post ⟨T.setVm vm₁, locs, cells, slots⟩ (Value.ref b :: argsL).toArray v B ∧
      ∀ target, Steps p.tables e below (B.U.setTop { g with pc := g.pc + 3, stack := v.toList ++ rest }) target → Steps p.tables e below (T.setTop g) target) ∨
    (∃ (q : Addr) (vm₁ : Vm) (B : Pt), s.WarmedH vm₁ ∧ Stand p l e R s m args below meth c B.U B.locs B.cells B.slots ∧ PostX ⟨T.setVm vm₁, locs, cells, slots⟩ (Value.ref b :: argsL).toArray q B ∧
      Steps p.tables e below (T.setTop g) ((B.U.setTop { g with stack := rest }).pushFrame (.throwing q))) := by
  obtain ⟨mk, methM, hnamed, hmethM, hstM, habM⟩ := Cond.instanceMethod_spec hinst
  obtain ⟨m8, methM', cM, hn8, hmethM', -, -, -, -, -, -, hsigM⟩ := Cond.codeWith_spec hcode
  cases Option.some.inj (hn8.symm.trans hnamed)
  cases hmethM.symm.trans hmethM'
  obtain ⟨c2, r2, m2, q1, q2, q3, q4, kP, hkP, hkPi⟩ := Cond.selects_spec hsel
  cases hcls.symm.trans q1
  cases (State.methodFound?_of_named hnamed hy).symm.trans q2
  cases hnamed.symm.trans q3
  have hselP : selectMethod e.platform s.vm cellB.cls mk = .method mk := by rw [Launch.admits_selectMethod X.admits]; exact q4
  obtain ⟨vm₁, X₁, hstep₁⟩ := X.invokevirtual hexec hown hlink hnamed hmethM hstM hkP hkPi hy (a := b) (cell := cellB) hcell
    (fun z h => by rw [h] at hobj; cases hobj) hselP hmethM habM hkP hkPi (g := g) hg (argsL := argsL) (rest := rest) (hlen _ hsigM) hstack hdg
  rcases hK m meth c ⟨T.setVm vm₁, locs, cells, slots⟩ { g with stack := rest } (.invokevirtual index) mk (Value.ref b :: argsL).toArray X₁ hg hsize hdg hW (X₁.named hnamed) (hpre vm₁ X₁.warmed) with ⟨v, B, X', hpost, hsteps⟩ | ⟨q, B, X', hpost, hsteps⟩
  · exact Or.inl ⟨v, vm₁, B, X₁.warmed, X', hpost, fun target h => hstep₁ _ fun acts => by rw [doInvoke_state]; exact hsteps.trans h⟩
  · exact Or.inr ⟨q, vm₁, B, X₁.warmed, X', hpost, hstep₁ _ fun acts => by rw [doInvoke_state]; exact hsteps⟩
theorem vx_callSX (X : Stand p l e R s m args below meth c T locs cells slots) (hexec : p.tables.exec = Jvm.exec) {own : String} {index : Nat} {y : MethodName} {bytes : ByteArray} {maxL : Nat} {ret : Option FieldType} {hh : List (Nat × Nat × Nat × Nat)}
    (hown : s.vm.findClass own = some m.cls) (hlink : (Cond.methodLink own index y).before args s = true) (hstat : (Cond.static y).before args s = true) (hinit : (Cond.initialized y.cls).before args s = true)
    (hcode : (Cond.codeWith y bytes maxL ret hh).before args s = true) (hy : y.cls ≠ "java/lang/invoke/MethodHandle" ∧ y.cls ≠ "java/lang/invoke/VarHandle")
    {W9 : Nat} {Pre : Pt → Array Value → Prop} {Post : Pt → Array Value → Option Value → Pt → Prop} {PostX : Pt → Array Value → Addr → Pt → Prop} (hK : vx_Back l R p e below s args y 3 W9 Pre Post PostX)
    {g : JFrame} (hg : g.method = m) (hsize : g.locals.size = c.maxLocals) {argsL rest : List Value} (hlen : ∀ sig, parseMethodDescriptor y.desc = some sig → argsL.length = sig.parameters.length)
    (hstack : g.stack = argsL.reverse ++ rest) (hW : 2 * g.monitorRoom + (rest.map fun v => v.category).sum ≤ W9) (hdg : decode c.code g.pc = .ok (.invokestatic index, 3))
    (hpre : ∀ vm₁, s.WarmedH vm₁ → Pre ⟨T.setVm vm₁, locs, cells, slots⟩ argsL.toArray) :
    (∃ (v : Option Value) (vm₁ : Vm) (B : Pt), s.WarmedH vm₁ ∧ Stand p l e R s m args below meth c B.U B.locs B.cells B.slots ∧ Post ⟨T.setVm vm₁, locs, cells, slots⟩ argsL.toArray v B ∧
      ∀ target, Steps p.tables e below (B.U.setTop { g with pc := g.pc + 3, stack := v.toList ++ rest }) target → Steps p.tables e below (T.setTop g) target) ∨
    (∃ (q : Addr) (vm₁ : Vm) (B : Pt), s.WarmedH vm₁ ∧ Stand p l e R s m args below meth c B.U B.locs B.cells B.slots ∧ PostX ⟨T.setVm vm₁, locs, cells, slots⟩ argsL.toArray q B ∧
      Steps p.tables e below (T.setTop g) ((B.U.setTop { g with stack := rest }).pushFrame (.throwing q))) := by
  obtain ⟨mk, methM, cM, hnamed, hmethM, -, -, -, -, -, -, hsigM⟩ := Cond.codeWith_spec hcode
  have hstatic : methM.isStatic = true := Cond.static_spec hnamed hmethM hstat
  obtain ⟨kP, hkP, -⟩ := className_of_methodNamed hnamed
  have hinitP : kP.init = .initialized := Cond.initialized_spec (findClass_of_methodNamed hnamed) hkP hinit
  obtain ⟨vm₁, X₁, hstep₁⟩ := X.invokestatic hexec hown hlink hnamed hmethM hstatic hkP hinitP hy (g := g) hg (argsL := argsL) (rest := rest) (hlen _ hsigM) hstack hdg
  rcases hK m meth c ⟨T.setVm vm₁, locs, cells, slots⟩ { g with stack := rest } (.invokestatic index) mk argsL.toArray X₁ hg hsize hdg hW (X₁.named hnamed) (hpre vm₁ X₁.warmed) with ⟨v, B, X', hpost, hsteps⟩ | ⟨q, B, X', hpost, hsteps⟩
  · exact Or.inl ⟨v, vm₁, B, X₁.warmed, X', hpost, fun target h => hstep₁ _ fun acts => by rw [doInvoke_state]; exact hsteps.trans h⟩
  · exact Or.inr ⟨q, vm₁, B, X₁.warmed, X', hpost, hstep₁ _ fun acts => by rw [doInvoke_state]; exact hsteps⟩
theorem vx_callVW (X : Stand p l e R s m args below meth c T locs cells slots) (hexec : p.tables.exec = Jvm.exec) {own C : String} {index : Nat} {y : MethodName} {bytes : ByteArray} {maxL : Nat} {ret : Option FieldType} {hh : List (Nat × Nat × Nat × Nat)}
    (hown : s.vm.findClass own = some m.cls) (hlink : (Cond.methodLink own index y).before args s = true) (hinst : (Cond.instanceMethod y).before args s = true) (hsel : (Cond.selects C y y).before args s = true)
    (hcode : (Cond.codeWith y bytes maxL ret hh).before args s = true) (hy : y.cls ≠ "java/lang/invoke/MethodHandle" ∧ y.cls ≠ "java/lang/invoke/VarHandle")
    {W9 : Nat} {Pre : Pt → Array Value → Prop} {Post : Pt → Array Value → Option Value → Pt → Prop} (hK : Back l R p e below s args y 3 W9 Pre Post)
    {b : Addr} {cellB : Cell} (hcell : T.heap[b]? = some cellB) (hobj : cellB.vm.isStatics = false) (hcls : s.vm.findClass C = some cellB.cls)
    {g : JFrame} (hg : g.method = m) (hsize : g.locals.size = c.maxLocals) {argsL rest : List Value} (hlen : ∀ sig, parseMethodDescriptor y.desc = some sig → argsL.length = sig.parameters.length)
    (hstack : g.stack = argsL.reverse ++ .ref b :: rest) (hW : 2 * g.monitorRoom + (rest.map fun v => v.category).sum ≤ W9) (hdg : decode c.code g.pc = .ok (.invokevirtual index, 3))
    (hpre : ∀ vm₁, s.WarmedH vm₁ → Pre ⟨T.setVm vm₁, locs, cells, slots⟩ (Value.ref b :: argsL).toArray) :
    ∃ (v : Option Value) (vm₁ : Vm) (B : Pt), s.WarmedH vm₁ ∧ Stand p l e R s m args below meth c B.U B.locs B.cells B.slots ∧ Post ⟨T.setVm vm₁, locs, cells, slots⟩ (Value.ref b :: argsL).toArray v B ∧
      ∀ target, Steps p.tables e below (B.U.setTop { g with pc := g.pc + 3, stack := v.toList ++ rest }) target → Steps p.tables e below (T.setTop g) target := by
  obtain ⟨mk, methM, hnamed, hmethM, hstM, habM⟩ := Cond.instanceMethod_spec hinst
  obtain ⟨m8, methM', cM, hn8, hmethM', -, -, -, -, -, -, hsigM⟩ := Cond.codeWith_spec hcode
  cases Option.some.inj (hn8.symm.trans hnamed)
  cases hmethM.symm.trans hmethM'
  obtain ⟨c2, r2, m2, q1, q2, q3, q4, kP, hkP, hkPi⟩ := Cond.selects_spec hsel
  cases hcls.symm.trans q1
  cases (State.methodFound?_of_named hnamed hy).symm.trans q2
  cases hnamed.symm.trans q3
  have hselP : selectMethod e.platform s.vm cellB.cls mk = .method mk := by rw [Launch.admits_selectMethod X.admits]; exact q4
  obtain ⟨vm₁, X₁, hstep₁⟩ := X.invokevirtual hexec hown hlink hnamed hmethM hstM hkP hkPi hy (a := b) (cell := cellB) hcell
    (fun z h => by rw [h] at hobj; cases hobj) hselP hmethM habM hkP hkPi (g := g) hg (argsL := argsL) (rest := rest) (hlen _ hsigM) hstack hdg
  obtain ⟨v, B, X', hpost, hsteps⟩ := hK m meth c ⟨T.setVm vm₁, locs, cells, slots⟩ { g with stack := rest } (.invokevirtual index) mk (Value.ref b :: argsL).toArray X₁ hg hsize hdg hW (X₁.named hnamed) (hpre vm₁ X₁.warmed)
  exact ⟨v, vm₁, B, X₁.warmed, X', hpost, fun target h => hstep₁ _ fun acts => by rw [doInvoke_state]; exact hsteps.trans h⟩
abbrev vx_CVW (R : Room) (s : State) (args : Array Value) (own C : String) (index : Nat) (y : MethodName) (bytes : ByteArray) (maxL : Nat) (ret : Option FieldType) (hh : List (Nat × Nat × Nat × Nat)) (ws : List Cond) (rm : Room) (mc ms n : Nat) : Prop :=
  (rm.cells = mc ∧ rm.slots = ms ∧ rm.frames + 1 ≤ R.frames ∧ 8 + (maxL + 11) + rm.locals ≤ R.locals ∧ (∀ w ∈ ws, ∀ (a' : Array Value) (U : State), s.WarmedH U.vm → w.before a' U = true) ∧ Cond.codeWith y bytes maxL ret hh ∈ ws) ∧
  (Cond.codeWith y bytes maxL ret hh).before args s = true ∧ (Cond.initialized y.cls).before args s = true ∧ (y.cls ≠ "java/lang/invoke/MethodHandle" ∧ y.cls ≠ "java/lang/invoke/VarHandle") ∧
  (∀ sig, parseMethodDescriptor y.desc = some sig → n = sig.parameters.length) ∧ (Cond.methodLink own index y).before args s = true ∧ (Cond.instanceMethod y).before args s = true ∧ (Cond.selects C y y).before args s = true
theorem vx_cwVW {own C : String} {index maxL mc ms : Nat} {y : MethodName} {bytes : ByteArray} {ret : Option FieldType} {hh : List (Nat × Nat × Nat × Nat)} {Ts ws ws' : List Cond} {rm : Room} (n : Nat) (ht : ∀ w ∈ Ts, w.before args s = true) (hT : GoodIn Ts (wsV own index C y ws)) (hw : ws = Cond.codeWith y bytes maxL ret hh :: ws') (hrc : rm.cells = mc) (hrs : rm.slots = ms)
    (hd : y.cls = C ∧ y.cls ≠ "java/lang/invoke/MethodHandle" ∧ y.cls ≠ "java/lang/invoke/VarHandle" ∧ (parseMethodDescriptor y.desc).map (fun d => d.parameters.length) = some n) (hR : rm.frames + 1 ≤ R.frames ∧ 8 + (maxL + 11) + rm.locals ≤ R.locals) :
    vx_CVW R s args own C index y bytes maxL ret hh ws rm mc ms n := by
  obtain ⟨hC, hd⟩ := hd
  subst hC
  have ok : ∀ w ∈ wsV own index y.cls y ws, w.before args s = true := fun w h => ht w (hT w h).1
  have hG : GoodIn Ts ws := fun w h => hT w (by unfold wsV; exact List.mem_append_right _ h)
  have hc : Cond.codeWith y bytes maxL ret hh ∈ ws := by rw [hw]; exact List.mem_cons_self
  refine ⟨⟨hrc, hrs, hR.1, hR.2, pay_in ht hG, hc⟩, ht _ (hG _ hc).1, ok _ (by simp [wsV]), ⟨hd.1, hd.2.1⟩, fun sig h => ?_, ok _ (by simp [wsV]), ok _ (by simp [wsV]), ok _ (by simp [wsV])⟩
  have h2 := hd.2.2
  rw [h] at h2
  exact (Option.some.inj h2).symm
theorem vx_runVW {y : MethodName} {bytes cc : ByteArray} {maxL nL mc ms n index : Nat} {ret : Option FieldType} {hh : List (Nat × Nat × Nat × Nat)} {ws : List Cond} {rm : Room} {Pc : Array Value → State → Prop} {Qc : Array Value → State → Outcome → State → Prop} {free : Addr → Prop} {Ts : List Cond} {own C : String} {b : Addr} {As rest : List Value} {g : JFrame}
    (S : CallFix p m c cc nL s args Ts own) (hM : Met l y ws rm Pc Qc mc ms free) (cw : vx_CVW R s args own C index y bytes maxL ret hh ws rm mc ms n) (hp : PreV s H C b Pc As)
    (hg : g.method = m) (hn : As.length = n) (hsize : g.locals.size = nL) (hstack : g.stack = As.reverse ++ .ref b :: rest) (hW : 2 * g.monitorRoom + (rest.map fun v => v.category).sum ≤ 8) (hdg : decode cc g.pc = .ok (.invokevirtual index, 3)) (hf : cells + mc ≤ R.cells ∧ slots + ms ≤ R.slots) :
    va_Run p l e R s m args below meth c H locs cells slots mc ms g rest (Qc (Value.ref b :: As).toArray) free := by
  obtain ⟨⟨hrc, hrs, hfr, hlo, hws, hcw⟩, hcode, hini, hy, hlen, hl, hin, hse⟩ := cw
  have hK : Back l R p e below s args y 3 8 (PreOf R mc ms Pc) (PostOf Qc mc ms free) := va_backW (hh := hh) (bytes := bytes) (maxL := maxL) (ret := ret) hM hp.1 hrc hrs hfr hlo hws hcw (fun a' U hW => word_at hW (Or.inl (by first | rfl | simp [Cond.onTables, Cond.keeps, Cond.steady])) hini)
  obtain ⟨hx, hb, hml, ho, -⟩ := S
  obtain ⟨-, ⟨cellB, hcB, hoB, hclB⟩, hPc⟩ := hp
  intro T hT X
  obtain ⟨v, vm₁, ⟨U', l2, c2, s2⟩, hW₁, X', ⟨g', mk, t, L, e1, e2, hq, h1, hL, h2, h3⟩, st⟩ := vx_callVW X hx (C := C) (hh := hh) (bytes := bytes) (maxL := maxL) (ret := ret) ho hl hin hse hcode hy hK (by rw [hT]; exact hcB) hoB hclB hg (hsize.trans hml.symm) (argsL := As) (rest := rest) (fun sig h => hn.trans (hlen sig h)) hstack hW (by rw [hb]; exact hdg)
    (fun vm₁ hW₁ => ⟨hf.1, hf.2, hPc (T.setVm vm₁) hT hW₁⟩)
  dsimp only [Pt.U, Pt.locs, Pt.cells, Pt.slots] at X' e1 e2 h1 h2 h3 st
  subst h1; subst h2; subst h3
  exact ⟨v, (T.setVm vm₁).calling g' mk (Value.ref b :: As).toArray, t, U', L, hT, X', hL, e1, e2, hq, st⟩
section
variable {y : MethodName} {bytes cc : ByteArray} {maxL nL mc ms n index : Nat} {ret : Option FieldType} {ws : List Cond} {rm : Room} {Pc : Array Value → State → Prop} {Qc : Array Value → State → Outcome → State → Prop} {XC : String → State → State → Prop} {free : Addr → Prop} {Ts : List Cond} {own C : String} {b : Addr} {As rest : List Value} {g : JFrame}
theorem vx_runVX {hh : List (Nat × Nat × Nat × Nat)} (S : CallFix p m c cc nL s args Ts own) (hM : vx_Met l y ws rm Pc Qc XC mc ms free) (cw : vx_CVW R s args own C index y bytes maxL ret hh ws rm mc ms n) (hp : PreV s H C b Pc As)
    (hg : g.method = m) (hn : As.length = n) (hsize : g.locals.size = nL) (hstack : g.stack = As.reverse ++ .ref b :: rest) (hW : 2 * g.monitorRoom + (rest.map fun v => v.category).sum ≤ 8) (hdg : decode cc g.pc = .ok (.invokevirtual index, 3)) (hf : cells + mc ≤ R.cells ∧ slots + ms ≤ R.slots) :
    vx_Run p l e R s m args below meth c H locs cells slots mc ms g rest (Qc (Value.ref b :: As).toArray) XC free := by
  obtain ⟨⟨hrc, hrs, hfr, hlo, hws, hcw⟩, hcode, hini, hy, hlen, hl, hin, hse⟩ := cw
  have hK : vx_Back l R p e below s args y 3 8 (PreOf R mc ms Pc) (PostOf Qc mc ms free) (vx_Post XC mc ms free) := vx_backW (hh := hh) (bytes := bytes) (maxL := maxL) (ret := ret) hM hp.1 hrc hrs hfr hlo hws hcw (fun a' U hW => word_at hW (Or.inl (by first | rfl | simp [Cond.onTables, Cond.keeps, Cond.steady])) hini)
  obtain ⟨hx, hb, hml, ho, -⟩ := S
  obtain ⟨-, ⟨cellB, hcB, hoB, hclB⟩, hPc⟩ := hp
  intro T hT X
  rcases vx_callVX X hx (C := C) (hh := hh) (bytes := bytes) (maxL := maxL) (ret := ret) ho hl hin hse hcode hy hK (by rw [hT]; exact hcB) hoB hclB hg (hsize.trans hml.symm) (argsL := As) (rest := rest) (fun sig h => hn.trans (hlen sig h)) hstack hW (by rw [hb]; exact hdg)
    (fun vm₁ hW₁ => ⟨hf.1, hf.2, hPc (T.setVm vm₁) hT hW₁⟩) with ⟨v, vm₁, ⟨U', l2, c2, s2⟩, hW₁, X', ⟨g', mk, t, L, e1, e2, hq, h1, hL, h2, h3⟩, st⟩ | ⟨q, vm₁, ⟨U', l2, c2, s2⟩, hW₁, X', ⟨g', mk, t, L, E, ce, e1, e2, hq, hce, hcv, hcl, h1, hL, h2, h3⟩, st⟩
  · dsimp only [Pt.U, Pt.locs, Pt.cells, Pt.slots] at X' e1 e2 h1 h2 h3 st
    subst h1; subst h2; subst h3
    exact Or.inl ⟨v, (T.setVm vm₁).calling g' mk (Value.ref b :: As).toArray, t, U', L, hT, X', hL, e1, e2, hq, st⟩
  · dsimp only [Pt.U, Pt.locs, Pt.cells, Pt.slots] at X' e1 e2 h1 h2 h3 st hcl
    subst h1; subst h2; subst h3
    exact Or.inr ⟨q, (T.setVm vm₁).calling g' mk (Value.ref b :: As).toArray, t, U', L, E, ce, hT, X', hL, e1, e2, hq, hce, hcv, vx_cls hW₁ hcl, st⟩
theorem vx_runSX {hh : List (Nat × Nat × Nat × Nat)} (S : CallFix p m c cc nL s args Ts own) (hM : vx_Met l y ws rm Pc Qc XC mc ms free) (cw : vx_CSW R s args own index y bytes maxL ret hh ws rm mc ms n) (hp : PreS s H Pc As)
    (hg : g.method = m) (hn : As.length = n) (hsize : g.locals.size = nL) (hstack : g.stack = As.reverse ++ rest) (hW : 2 * g.monitorRoom + (rest.map fun v => v.category).sum ≤ 8) (hdg : decode cc g.pc = .ok (.invokestatic index, 3)) (hf : cells + mc ≤ R.cells ∧ slots + ms ≤ R.slots) :
    vx_Run p l e R s m args below meth c H locs cells slots mc ms g rest (Qc As.toArray) XC free := by
  obtain ⟨⟨hrc, hrs, hfr, hlo, hws, hcw⟩, hcode, hini, hy, hlen, hl, hstt⟩ := cw
  have hK : vx_Back l R p e below s args y 3 8 (PreOf R mc ms Pc) (PostOf Qc mc ms free) (vx_Post XC mc ms free) := vx_backW (hh := hh) (bytes := bytes) (maxL := maxL) (ret := ret) hM hp.1 hrc hrs hfr hlo hws hcw (fun a' U hW => word_at hW (Or.inl (by first | rfl | simp [Cond.onTables, Cond.keeps, Cond.steady])) hini)
  obtain ⟨hx, hb, hml, ho, -⟩ := S
  intro T hT X
  rcases vx_callSX X hx (hh := hh) (bytes := bytes) (maxL := maxL) (ret := ret) ho hl hstt hini hcode hy hK hg (hsize.trans hml.symm) (argsL := As) (rest := rest) (fun sig h => hn.trans (hlen sig h)) hstack hW (by rw [hb]; exact hdg)
    (fun vm₁ hW₁ => ⟨hf.1, hf.2, hp.2 (T.setVm vm₁) hT hW₁⟩) with ⟨v, vm₁, ⟨U', l2, c2, s2⟩, hW₁, X', ⟨g', mk, t, L, e1, e2, hq, h1, hL, h2, h3⟩, st⟩ | ⟨q, vm₁, ⟨U', l2, c2, s2⟩, hW₁, X', ⟨g', mk, t, L, E, ce, e1, e2, hq, hce, hcv, hcl, h1, hL, h2, h3⟩, st⟩
  · dsimp only [Pt.U, Pt.locs, Pt.cells, Pt.slots] at X' e1 e2 h1 h2 h3 st
    subst h1; subst h2; subst h3
    exact Or.inl ⟨v, (T.setVm vm₁).calling g' mk As.toArray, t, U', L, hT, X', hL, e1, e2, hq, st⟩
  · dsimp only [Pt.U, Pt.locs, Pt.cells, Pt.slots] at X' e1 e2 h1 h2 h3 st hcl
    subst h1; subst h2; subst h3
    exact Or.inr ⟨q, (T.setVm vm₁).calling g' mk As.toArray, t, U', L, E, ce, hT, X', hL, e1, e2, hq, hce, hcv, vx_cls hW₁ hcl, st⟩
end
end VXH
theorem vx_ofWH {l : Launch} {y : MethodName} {ws ws' : List Cond} {rm : Room} {Pc : Array Value → State → Prop} {Qc : Array Value → State → Outcome → State → Prop} {XC : String → State → State → Prop} {mc ms : Nat} {free : Addr → Prop} {cc : ByteArray} {maxL : Nat} {ret : Option FieldType} {hh : List (Nat × Nat × Nat × Nat)}
    (hy : plainName y.cls = true) (hw : ws = Cond.codeWith y cc maxL ret hh :: ws')
    (body : ∀ p e s m args below meth c s₁, BodyLoose p l y (headSpec ws rm) cc maxL ret e s m args below meth c s₁ → c.maxLocals = maxL → Pc args s →
      W p l e (headSpec ws rm).room s m args below meth c s.heap [] 0 0 (vx_MQ below Qc XC args s mc ms free) (entryFrame m args maxL)) : vx_Met l y ws rm Pc Qc XC mc ms free := by
  refine MetFree.of_bodyS (code := cc) (maxLocals := maxL) (ret := ret) hy ?_ ?_
  · intro args s m h hn
    obtain ⟨m9, meth, c, hn9, h1, h2, h3, h4, -, h5, h6, -⟩ := Cond.codeWith_spec (atoms_spec (ws := ws) h _ (by rw [hw]; exact List.mem_cons_self))
    cases hn.symm.trans hn9
    exact ⟨meth, c, h1, h2, h3, h4, h5, h6⟩
  · intro p e s m args below meth c s₁ B hml hP _
    have hh0 : s₁.heap = s.heap := by rw [B.state]; rfl
    obtain ⟨t, a1, o, b1, b2, b3⟩ := body p e s m args below meth c s₁ B hml hP s₁ hh0 (Stand.of_body B)
    exact ⟨t, o, a1, b1, b2, b3⟩
/-! ===== END ===== -/
end
section
-- rows of claim/NAMES.whole.lean.txt (starting text): names, fields
def RX0 : String := "RedoHeap$Blocks"
def TX0 : u_T := fun k => match k with
  | _ => ("RedoHeap$Blocks", "words", "LRedoHeap$Changes;", true)
def tyX0 : Nat → FieldType := fun k => match k with
  | _ => .object "RedoHeap$Changes"
theorem nmX0 : ∀ a, a < 1 → ∀ b, b < 1 → a ≠ b → (TX0 a).2.1 ≠ (TX0 b).2.1 := by decide +kernel
theorem tyX0_ok : ∀ k, k < 1 → parseFieldDescriptor (TX0 k).2.2.1 = some (tyX0 k) := by decide +kernel
abbrev cX0_init : ByteArray := prog_2_method_1_code
def yX0_init : MethodName := ⟨RX0, "<init>", "(LRedoHeap$Changes;)V"⟩
abbrev cX0_sizeAt : ByteArray := prog_2_method_2_code
def yX0_sizeAt : MethodName := ⟨RX0, "sizeAt", "(I)I"⟩
abbrev cX0_isUsed : ByteArray := prog_2_method_3_code
def yX0_isUsed : MethodName := ⟨RX0, "isUsed", "(I)Z"⟩
abbrev cX0_isUsedAddress : ByteArray := prog_2_method_4_code
def yX0_isUsedAddress : MethodName := ⟨RX0, "isUsedAddress", "(I)Z"⟩
abbrev cX0_headOf : ByteArray := prog_2_method_5_code
def yX0_headOf : MethodName := ⟨RX0, "headOf", "(I)I"⟩
abbrev cX0_howMany : ByteArray := prog_2_method_6_code
def yX0_howMany : MethodName := ⟨RX0, "howMany", "()I"⟩
abbrev cX0_freeWords : ByteArray := prog_2_method_7_code
def yX0_freeWords : MethodName := ⟨RX0, "freeWords", "()I"⟩
abbrev cX0_greatestFree : ByteArray := prog_2_method_8_code
def yX0_greatestFree : MethodName := ⟨RX0, "greatestFree", "()I"⟩
abbrev cX0_takeFirst : ByteArray := prog_2_method_9_code
def yX0_takeFirst : MethodName := ⟨RX0, "takeFirst", "(I)I"⟩
abbrev cX0_giveBack : ByteArray := prog_2_method_10_code
def yX0_giveBack : MethodName := ⟨RX0, "giveBack", "(I)I"⟩
abbrev cX0_split : ByteArray := prog_2_method_11_code
def yX0_split : MethodName := ⟨RX0, "split", "(III)Z"⟩
abbrev cX0_firstFree : ByteArray := prog_2_method_12_code
def yX0_firstFree : MethodName := ⟨RX0, "firstFree", "(I)I"⟩
abbrev cX0_headBefore : ByteArray := prog_2_method_13_code
def yX0_headBefore : MethodName := ⟨RX0, "headBefore", "(I)I"⟩
abbrev cX0_freeAt : ByteArray := prog_2_method_14_code
def yX0_freeAt : MethodName := ⟨RX0, "freeAt", "(I)I"⟩
def RX1 : String := "RedoHeap$Changes"
def TX1 : u_T := fun k => match k with
  | 0 => ("RedoHeap$Changes", "good", "[J", true)
  | 1 => ("RedoHeap$Changes", "own", "[J", true)
  | 2 => ("RedoHeap$Changes", "changed", "[Z", true)
  | 3 => ("RedoHeap$Changes", "places", "[I", true)
  | 4 => ("RedoHeap$Changes", "size", "I", false)
  | _ => ("RedoHeap$Changes", "open", "Z", false)
def tyX1 : Nat → FieldType := fun k => match k with
  | 0 => .array .long
  | 1 => .array .long
  | 2 => .array .boolean
  | 3 => .array .int
  | 4 => .int
  | _ => .boolean
theorem nmX1 : ∀ a, a < 6 → ∀ b, b < 6 → a ≠ b → (TX1 a).2.1 ≠ (TX1 b).2.1 := by decide +kernel
theorem tyX1_ok : ∀ k, k < 6 → parseFieldDescriptor (TX1 k).2.2.1 = some (tyX1 k) := by decide +kernel
abbrev cX1_init : ByteArray := prog_3_method_1_code
def yX1_init : MethodName := ⟨RX1, "<init>", "()V"⟩
abbrev cX1_areOpen : ByteArray := prog_3_method_2_code
def yX1_areOpen : MethodName := ⟨RX1, "areOpen", "()Z"⟩
abbrev cX1_size : ByteArray := prog_3_method_3_code
def yX1_size : MethodName := ⟨RX1, "size", "()I"⟩
abbrev cX1_place : ByteArray := prog_3_method_4_code
def yX1_place : MethodName := ⟨RX1, "place", "(I)I"⟩
abbrev cX1_read : ByteArray := prog_3_method_5_code
def yX1_read : MethodName := ⟨RX1, "read", "(I)J"⟩
abbrev cX1_start : ByteArray := prog_3_method_6_code
def yX1_start : MethodName := ⟨RX1, "start", "()V"⟩
abbrev cX1_cost : ByteArray := prog_3_method_7_code
def yX1_cost : MethodName := ⟨RX1, "cost", "(IJ)I"⟩
abbrev cX1_haveRoomFor : ByteArray := prog_3_method_8_code
def yX1_haveRoomFor : MethodName := ⟨RX1, "haveRoomFor", "(I)Z"⟩
abbrev cX1_change : ByteArray := prog_3_method_9_code
def yX1_change : MethodName := ⟨RX1, "change", "(IJ)Z"⟩
abbrev cX1_accept : ByteArray := prog_3_method_10_code
def yX1_accept : MethodName := ⟨RX1, "accept", "()V"⟩
abbrev cX1_takeBack : ByteArray := prog_3_method_11_code
def yX1_takeBack : MethodName := ⟨RX1, "takeBack", "()V"⟩
abbrev cX1_drop : ByteArray := prog_3_method_12_code
def yX1_drop : MethodName := ⟨RX1, "drop", "()V"⟩
abbrev cX1_load : ByteArray := prog_3_method_13_code
def yX1_load : MethodName := ⟨RX1, "load", "(LRedoHeap$Disk;)V"⟩
abbrev cX1_insert : ByteArray := prog_3_method_14_code
def yX1_insert : MethodName := ⟨RX1, "insert", "(I)V"⟩
def RX2 : String := "RedoHeap$Disk"
def TX2 : u_T := fun k => match k with
  | 0 => ("RedoHeap$Disk", "settled", "[J", true)
  | 1 => ("RedoHeap$Disk", "latest", "[J", true)
  | 2 => ("RedoHeap$Disk", "waitingPlace", "[I", true)
  | 3 => ("RedoHeap$Disk", "waitingValue", "[J", true)
  | 4 => ("RedoHeap$Disk", "waiting", "I", false)
  | 5 => ("RedoHeap$Disk", "on", "Z", false)
  | 6 => ("RedoHeap$Disk", "writesLeft", "I", false)
  | 7 => ("RedoHeap$Disk", "keepsThen", "I", false)
  | 8 => ("RedoHeap$Disk", "writes", "I", false)
  | 9 => ("RedoHeap$Disk", "syncs", "I", false)
  | 10 => ("RedoHeap$Disk", "failures", "I", false)
  | _ => ("RedoHeap$Disk", "lost", "I", false)
def tyX2 : Nat → FieldType := fun k => match k with
  | 0 => .array .long
  | 1 => .array .long
  | 2 => .array .int
  | 3 => .array .long
  | 4 => .int
  | 5 => .boolean
  | 6 => .int
  | 7 => .int
  | 8 => .int
  | 9 => .int
  | 10 => .int
  | _ => .int
theorem nmX2 : ∀ a, a < 12 → ∀ b, b < 12 → a ≠ b → (TX2 a).2.1 ≠ (TX2 b).2.1 := by decide +kernel
theorem tyX2_ok : ∀ k, k < 12 → parseFieldDescriptor (TX2 k).2.2.1 = some (tyX2 k) := by decide +kernel
abbrev cX2_init : ByteArray := prog_4_method_1_code
def yX2_init : MethodName := ⟨RX2, "<init>", "()V"⟩
abbrev cX2_isOn : ByteArray := prog_4_method_2_code
def yX2_isOn : MethodName := ⟨RX2, "isOn", "()Z"⟩
abbrev cX2_waiting : ByteArray := prog_4_method_3_code
def yX2_waiting : MethodName := ⟨RX2, "waiting", "()I"⟩
abbrev cX2_writes : ByteArray := prog_4_method_4_code
def yX2_writes : MethodName := ⟨RX2, "writes", "()I"⟩
abbrev cX2_syncs : ByteArray := prog_4_method_5_code
def yX2_syncs : MethodName := ⟨RX2, "syncs", "()I"⟩
abbrev cX2_failures : ByteArray := prog_4_method_6_code
def yX2_failures : MethodName := ⟨RX2, "failures", "()I"⟩
abbrev cX2_lost : ByteArray := prog_4_method_7_code
def yX2_lost : MethodName := ⟨RX2, "lost", "()I"⟩
abbrev cX2_settled : ByteArray := prog_4_method_8_code
def yX2_settled : MethodName := ⟨RX2, "settled", "(I)J"⟩
abbrev cX2_read : ByteArray := prog_4_method_9_code
def yX2_read : MethodName := ⟨RX2, "read", "(I)J"⟩
abbrev cX2_write : ByteArray := prog_4_method_10_code
def yX2_write : MethodName := ⟨RX2, "write", "(IJ)Z"⟩
abbrev cX2_settleAll : ByteArray := prog_4_method_11_code
def yX2_settleAll : MethodName := ⟨RX2, "settleAll", "()V"⟩
abbrev cX2_limit : ByteArray := prog_4_method_12_code
def yX2_limit : MethodName := ⟨RX2, "limit", "(II)I"⟩
abbrev cX2_losePower : ByteArray := prog_4_method_13_code
def yX2_losePower : MethodName := ⟨RX2, "losePower", "(I)V"⟩
abbrev cX2_powerUp : ByteArray := prog_4_method_14_code
def yX2_powerUp : MethodName := ⟨RX2, "powerUp", "()V"⟩
abbrev cX2_settleFirst : ByteArray := prog_4_method_15_code
def yX2_settleFirst : MethodName := ⟨RX2, "settleFirst", "(I)V"⟩
def RX3 : String := "RedoHeap$Log"
def TX3 : u_T := fun k => match k with
  | 0 => ("RedoHeap$Log", "disk", "LRedoHeap$Disk;", true)
  | 1 => ("RedoHeap$Log", "used", "I", false)
  | 2 => ("RedoHeap$Log", "commits", "I", false)
  | _ => ("RedoHeap$Log", "lastNumber", "I", false)
def tyX3 : Nat → FieldType := fun k => match k with
  | 0 => .object "RedoHeap$Disk"
  | 1 => .int
  | 2 => .int
  | _ => .int
theorem nmX3 : ∀ a, a < 4 → ∀ b, b < 4 → a ≠ b → (TX3 a).2.1 ≠ (TX3 b).2.1 := by decide +kernel
theorem tyX3_ok : ∀ k, k < 4 → parseFieldDescriptor (TX3 k).2.2.1 = some (tyX3 k) := by decide +kernel
abbrev cX3_init : ByteArray := prog_5_method_1_code
def yX3_init : MethodName := ⟨RX3, "<init>", "(LRedoHeap$Disk;)V"⟩
abbrev cX3_used : ByteArray := prog_5_method_2_code
def yX3_used : MethodName := ⟨RX3, "used", "()I"⟩
abbrev cX3_commits : ByteArray := prog_5_method_3_code
def yX3_commits : MethodName := ⟨RX3, "commits", "()I"⟩
abbrev cX3_lastNumber : ByteArray := prog_5_method_4_code
def yX3_lastNumber : MethodName := ⟨RX3, "lastNumber", "()I"⟩
abbrev cX3_hasRoomFor : ByteArray := prog_5_method_5_code
def yX3_hasRoomFor : MethodName := ⟨RX3, "hasRoomFor", "(I)Z"⟩
abbrev cX3_append : ByteArray := prog_5_method_6_code
def yX3_append : MethodName := ⟨RX3, "append", "(LRedoHeap$Changes;Z)Z"⟩
abbrev cX3_carryOut : ByteArray := prog_5_method_7_code
def yX3_carryOut : MethodName := ⟨RX3, "carryOut", "(I)Z"⟩
abbrev cX3_findCommits : ByteArray := prog_5_method_8_code
def yX3_findCommits : MethodName := ⟨RX3, "findCommits", "()I"⟩
abbrev cX3_dirtyWords : ByteArray := prog_5_method_9_code
def yX3_dirtyWords : MethodName := ⟨RX3, "dirtyWords", "()I"⟩
abbrev cX3_forget : ByteArray := prog_5_method_10_code
def yX3_forget : MethodName := ⟨RX3, "forget", "()V"⟩
abbrev cX3_writePlaces : ByteArray := prog_5_method_11_code
def yX3_writePlaces : MethodName := ⟨RX3, "writePlaces", "()Z"⟩
abbrev cX3_appendWords : ByteArray := prog_5_method_12_code
def yX3_appendWords : MethodName := ⟨RX3, "appendWords", "(LRedoHeap$Changes;I)Z"⟩
abbrev cX3_commitSize : ByteArray := prog_5_method_13_code
def yX3_commitSize : MethodName := ⟨RX3, "commitSize", "(I)I"⟩
abbrev cX3_front : ByteArray := prog_5_method_14_code
def yX3_front : MethodName := ⟨RX3, "front", "(I)J"⟩
def RX4 : String := "RedoHeap"
def TX4 : u_T := fun k => match k with
  | 0 => ("RedoHeap", "disk", "LRedoHeap$Disk;", true)
  | 1 => ("RedoHeap", "log", "LRedoHeap$Log;", true)
  | 2 => ("RedoHeap", "changes", "LRedoHeap$Changes;", true)
  | _ => ("RedoHeap", "blocks", "LRedoHeap$Blocks;", true)
def tyX4 : Nat → FieldType := fun k => match k with
  | 0 => .object "RedoHeap$Disk"
  | 1 => .object "RedoHeap$Log"
  | 2 => .object "RedoHeap$Changes"
  | _ => .object "RedoHeap$Blocks"
theorem nmX4 : ∀ a, a < 4 → ∀ b, b < 4 → a ≠ b → (TX4 a).2.1 ≠ (TX4 b).2.1 := by decide +kernel
theorem tyX4_ok : ∀ k, k < 4 → parseFieldDescriptor (TX4 k).2.2.1 = some (tyX4 k) := by decide +kernel
abbrev cX4_init : ByteArray := prog_1_method_1_code
def yX4_init : MethodName := ⟨RX4, "<init>", "()V"⟩
abbrev cX4_begin : ByteArray := prog_1_method_2_code
def yX4_begin : MethodName := ⟨RX4, "begin", "()I"⟩
abbrev cX4_take : ByteArray := prog_1_method_3_code
def yX4_take : MethodName := ⟨RX4, "take", "(I)I"⟩
abbrev cX4_give : ByteArray := prog_1_method_4_code
def yX4_give : MethodName := ⟨RX4, "give", "(I)I"⟩
abbrev cX4_set : ByteArray := prog_1_method_5_code
def yX4_set : MethodName := ⟨RX4, "set", "(IIJ)Z"⟩
abbrev cX4_get : ByteArray := prog_1_method_6_code
def yX4_get : MethodName := ⟨RX4, "get", "(II)J"⟩
abbrev cX4_setRoot : ByteArray := prog_1_method_7_code
def yX4_setRoot : MethodName := ⟨RX4, "setRoot", "(I)Z"⟩
abbrev cX4_root : ByteArray := prog_1_method_8_code
def yX4_root : MethodName := ⟨RX4, "root", "()I"⟩
abbrev cX4_commit : ByteArray := prog_1_method_9_code
def yX4_commit : MethodName := ⟨RX4, "commit", "(Z)I"⟩
abbrev cX4_sync : ByteArray := prog_1_method_10_code
def yX4_sync : MethodName := ⟨RX4, "sync", "()I"⟩
abbrev cX4_abort : ByteArray := prog_1_method_11_code
def yX4_abort : MethodName := ⟨RX4, "abort", "()I"⟩
abbrev cX4_checkpoint : ByteArray := prog_1_method_12_code
def yX4_checkpoint : MethodName := ⟨RX4, "checkpoint", "()I"⟩
abbrev cX4_power : ByteArray := prog_1_method_13_code
def yX4_power : MethodName := ⟨RX4, "power", "(II)I"⟩
abbrev cX4_cut : ByteArray := prog_1_method_14_code
def yX4_cut : MethodName := ⟨RX4, "cut", "(I)I"⟩
abbrev cX4_open : ByteArray := prog_1_method_15_code
def yX4_open : MethodName := ⟨RX4, "open", "()I"⟩
abbrev cX4_word : ByteArray := prog_1_method_16_code
def yX4_word : MethodName := ⟨RX4, "word", "(I)J"⟩
abbrev cX4_block : ByteArray := prog_1_method_17_code
def yX4_block : MethodName := ⟨RX4, "block", "(II)I"⟩
abbrev cX4_told : ByteArray := prog_1_method_18_code
def yX4_told : MethodName := ⟨RX4, "told", "(I)I"⟩
abbrev cX4_count : ByteArray := prog_1_method_19_code
def yX4_count : MethodName := ⟨RX4, "count", "(I)I"⟩
abbrev cX4_needPower : ByteArray := prog_1_method_20_code
def yX4_needPower : MethodName := ⟨RX4, "needPower", "()V"⟩
abbrev cX4_needTransaction : ByteArray := prog_1_method_21_code
def yX4_needTransaction : MethodName := ⟨RX4, "needTransaction", "()V"⟩
abbrev cX4_needUsedBlock : ByteArray := prog_1_method_22_code
def yX4_needUsedBlock : MethodName := ⟨RX4, "needUsedBlock", "(I)V"⟩
abbrev cX4_needBodyWord : ByteArray := prog_1_method_23_code
def yX4_needBodyWord : MethodName := ⟨RX4, "needBodyWord", "(II)V"⟩
abbrev cX4_format : ByteArray := prog_1_method_24_code
def yX4_format : MethodName := ⟨RX4, "format", "()V"⟩
abbrev cX4_isWord : ByteArray := prog_1_method_25_code
def yX4_isWord : MethodName := ⟨RX4, "isWord", "(I)Z"⟩
def RX5 : String := "RedoHeapModel"
def TX5 : u_T := fun k => match k with
  | 0 => ("RedoHeapModel", "disk", "[J", true)
  | 1 => ("RedoHeapModel", "now", "[J", true)
  | 2 => ("RedoHeapModel", "waitWord", "[I", true)
  | 3 => ("RedoHeapModel", "waitValue", "[J", true)
  | 4 => ("RedoHeapModel", "waits", "I", false)
  | 5 => ("RedoHeapModel", "view", "[J", true)
  | 6 => ("RedoHeapModel", "isChanged", "[Z", true)
  | 7 => ("RedoHeapModel", "change", "[J", true)
  | 8 => ("RedoHeapModel", "changes", "I", false)
  | 9 => ("RedoHeapModel", "on", "Z", false)
  | 10 => ("RedoHeapModel", "open", "Z", false)
  | 11 => ("RedoHeapModel", "used", "I", false)
  | 12 => ("RedoHeapModel", "commits", "I", false)
  | 13 => ("RedoHeapModel", "last", "J", false)
  | 14 => ("RedoHeapModel", "until", "I", false)
  | 15 => ("RedoHeapModel", "keeps", "I", false)
  | 16 => ("RedoHeapModel", "writes", "I", false)
  | 17 => ("RedoHeapModel", "syncs", "I", false)
  | 18 => ("RedoHeapModel", "cuts", "I", false)
  | 19 => ("RedoHeapModel", "lost", "I", false)
  | _ => ("RedoHeapModel", "thrown", "I", false)
def tyX5 : Nat → FieldType := fun k => match k with
  | 0 => .array .long
  | 1 => .array .long
  | 2 => .array .int
  | 3 => .array .long
  | 4 => .int
  | 5 => .array .long
  | 6 => .array .boolean
  | 7 => .array .long
  | 8 => .int
  | 9 => .boolean
  | 10 => .boolean
  | 11 => .int
  | 12 => .int
  | 13 => .long
  | 14 => .int
  | 15 => .int
  | 16 => .int
  | 17 => .int
  | 18 => .int
  | 19 => .int
  | _ => .int
theorem nmX5 : ∀ a, a < 21 → ∀ b, b < 21 → a ≠ b → (TX5 a).2.1 ≠ (TX5 b).2.1 := by decide +kernel
theorem tyX5_ok : ∀ k, k < 21 → parseFieldDescriptor (TX5 k).2.2.1 = some (tyX5 k) := by decide +kernel
abbrev cX5_init : ByteArray := prog_7_method_1_code
def yX5_init : MethodName := ⟨RX5, "<init>", "()V"⟩
abbrev cX5_thrown : ByteArray := prog_7_method_2_code
def yX5_thrown : MethodName := ⟨RX5, "thrown", "()I"⟩
abbrev cX5_settle : ByteArray := prog_7_method_3_code
def yX5_settle : MethodName := ⟨RX5, "settle", "(I)V"⟩
abbrev cX5_goOff : ByteArray := prog_7_method_4_code
def yX5_goOff : MethodName := ⟨RX5, "goOff", "(I)V"⟩
abbrev cX5_write : ByteArray := prog_7_method_5_code
def yX5_write : MethodName := ⟨RX5, "write", "(IJ)Z"⟩
abbrev cX5_syncAll : ByteArray := prog_7_method_6_code
def yX5_syncAll : MethodName := ⟨RX5, "syncAll", "()I"⟩
abbrev cX5_drop : ByteArray := prog_7_method_7_code
def yX5_drop : MethodName := ⟨RX5, "drop", "()V"⟩
abbrev cX5_at : ByteArray := prog_7_method_8_code
def yX5_at : MethodName := ⟨RX5, "at", "(I)J"⟩
abbrev cX5_sizeAt : ByteArray := prog_7_method_9_code
def yX5_sizeAt : MethodName := ⟨RX5, "sizeAt", "(I)I"⟩
abbrev cX5_isUsedAt : ByteArray := prog_7_method_10_code
def yX5_isUsedAt : MethodName := ⟨RX5, "isUsedAt", "(I)Z"⟩
abbrev cX5_usedHead : ByteArray := prog_7_method_11_code
def yX5_usedHead : MethodName := ⟨RX5, "usedHead", "(I)I"⟩
abbrev cX5_isMore : ByteArray := prog_7_method_12_code
def yX5_isMore : MethodName := ⟨RX5, "isMore", "(IJ)Z"⟩
abbrev cX5_become : ByteArray := prog_7_method_13_code
def yX5_become : MethodName := ⟨RX5, "become", "(IJ)V"⟩
abbrev cX5_tryOne : ByteArray := prog_7_method_14_code
def yX5_tryOne : MethodName := ⟨RX5, "tryOne", "(IJ)Z"⟩
abbrev cX5_begin : ByteArray := prog_7_method_15_code
def yX5_begin : MethodName := ⟨RX5, "begin", "()I"⟩
abbrev cX5_isShut : ByteArray := prog_7_method_16_code
def yX5_isShut : MethodName := ⟨RX5, "isShut", "()Z"⟩
abbrev cX5_take : ByteArray := prog_7_method_17_code
def yX5_take : MethodName := ⟨RX5, "take", "(I)I"⟩
abbrev cX5_give : ByteArray := prog_7_method_18_code
def yX5_give : MethodName := ⟨RX5, "give", "(I)I"⟩
abbrev cX5_set : ByteArray := prog_7_method_19_code
def yX5_set : MethodName := ⟨RX5, "set", "(IIJ)Z"⟩
abbrev cX5_get : ByteArray := prog_7_method_20_code
def yX5_get : MethodName := ⟨RX5, "get", "(II)J"⟩
abbrev cX5_setRoot : ByteArray := prog_7_method_21_code
def yX5_setRoot : MethodName := ⟨RX5, "setRoot", "(I)Z"⟩
abbrev cX5_root : ByteArray := prog_7_method_22_code
def yX5_root : MethodName := ⟨RX5, "root", "()I"⟩
abbrev cX5_empty : ByteArray := prog_7_method_23_code
def yX5_empty : MethodName := ⟨RX5, "empty", "(II)Z"⟩
abbrev cX5_commit : ByteArray := prog_7_method_24_code
def yX5_commit : MethodName := ⟨RX5, "commit", "(Z)I"⟩
abbrev cX5_sync : ByteArray := prog_7_method_25_code
def yX5_sync : MethodName := ⟨RX5, "sync", "()I"⟩
abbrev cX5_abort : ByteArray := prog_7_method_26_code
def yX5_abort : MethodName := ⟨RX5, "abort", "()I"⟩
abbrev cX5_checkpoint : ByteArray := prog_7_method_27_code
def yX5_checkpoint : MethodName := ⟨RX5, "checkpoint", "()I"⟩
abbrev cX5_power : ByteArray := prog_7_method_28_code
def yX5_power : MethodName := ⟨RX5, "power", "(II)I"⟩
abbrev cX5_cut : ByteArray := prog_7_method_29_code
def yX5_cut : MethodName := ⟨RX5, "cut", "(I)I"⟩
abbrev cX5_find : ByteArray := prog_7_method_30_code
def yX5_find : MethodName := ⟨RX5, "find", "()I"⟩
abbrev cX5_open : ByteArray := prog_7_method_31_code
def yX5_open : MethodName := ⟨RX5, "open", "()I"⟩
abbrev cX5_word : ByteArray := prog_7_method_32_code
def yX5_word : MethodName := ⟨RX5, "word", "(I)J"⟩
abbrev cX5_block : ByteArray := prog_7_method_33_code
def yX5_block : MethodName := ⟨RX5, "block", "(II)I"⟩
abbrev cX5_told : ByteArray := prog_7_method_34_code
def yX5_told : MethodName := ⟨RX5, "told", "(I)I"⟩
abbrev cX5_count : ByteArray := prog_7_method_35_code
def yX5_count : MethodName := ⟨RX5, "count", "(I)I"⟩
def RL : String := "RedoHeapLaw"
abbrev cL_begin : ByteArray := method_3_code
def yL_begin : MethodName := ⟨RL, "begin", "(LRedoHeap;[J)I"⟩
abbrev cL_take : ByteArray := method_4_code
def yL_take : MethodName := ⟨RL, "take", "(LRedoHeap;I[J)I"⟩
abbrev cL_give : ByteArray := method_5_code
def yL_give : MethodName := ⟨RL, "give", "(LRedoHeap;I[J)I"⟩
abbrev cL_set : ByteArray := method_6_code
def yL_set : MethodName := ⟨RL, "set", "(LRedoHeap;IIJ[J)I"⟩
abbrev cL_get : ByteArray := method_7_code
def yL_get : MethodName := ⟨RL, "get", "(LRedoHeap;II[J)I"⟩
abbrev cL_setRoot : ByteArray := method_8_code
def yL_setRoot : MethodName := ⟨RL, "setRoot", "(LRedoHeap;I[J)I"⟩
abbrev cL_root : ByteArray := method_9_code
def yL_root : MethodName := ⟨RL, "root", "(LRedoHeap;[J)I"⟩
abbrev cL_commit : ByteArray := method_10_code
def yL_commit : MethodName := ⟨RL, "commit", "(LRedoHeap;Z[J)I"⟩
abbrev cL_sync : ByteArray := method_11_code
def yL_sync : MethodName := ⟨RL, "sync", "(LRedoHeap;[J)I"⟩
abbrev cL_abort : ByteArray := method_12_code
def yL_abort : MethodName := ⟨RL, "abort", "(LRedoHeap;[J)I"⟩
abbrev cL_checkpoint : ByteArray := method_13_code
def yL_checkpoint : MethodName := ⟨RL, "checkpoint", "(LRedoHeap;[J)I"⟩
abbrev cL_power : ByteArray := method_14_code
def yL_power : MethodName := ⟨RL, "power", "(LRedoHeap;II[J)I"⟩
abbrev cL_cut : ByteArray := method_15_code
def yL_cut : MethodName := ⟨RL, "cut", "(LRedoHeap;I[J)I"⟩
abbrev cL_open : ByteArray := method_16_code
def yL_open : MethodName := ⟨RL, "open", "(LRedoHeap;[J)I"⟩
abbrev cL_word : ByteArray := method_17_code
def yL_word : MethodName := ⟨RL, "word", "(LRedoHeap;I[J)I"⟩
abbrev cL_block : ByteArray := method_18_code
def yL_block : MethodName := ⟨RL, "block", "(LRedoHeap;II[J)I"⟩
abbrev cL_told : ByteArray := method_19_code
def yL_told : MethodName := ⟨RL, "told", "(LRedoHeap;I[J)I"⟩
abbrev cL_count : ByteArray := method_20_code
def yL_count : MethodName := ⟨RL, "count", "(LRedoHeap;I[J)I"⟩
abbrev cL_law : ByteArray := code
def yL_law : MethodName := ⟨RL, "law", "([I)Z"⟩
abbrev vwCl : List vw_C := [(RX0, TX0, 1), (RX1, TX1, 6), (RX2, TX2, 12), (RX3, TX3, 4), (RX4, TX4, 4), (RX5, TX5, 21)]
end
section
-- rows of claim/NAMES.whole.lean.txt (starting text): what each instruction is
theorem dL_begin_0 : decode cL_begin 0 = .ok (.aload_n 1, 1) := by decide +kernel
theorem dL_begin_1 : decode cL_begin 1 = .ok (.iconst 0, 1) := by decide +kernel
theorem dL_begin_2 : decode cL_begin 2 = .ok (.aload_n 0, 1) := by decide +kernel
theorem dL_begin_3 : decode cL_begin 3 = .ok (.invokevirtual 7, 3) := by decide +kernel
theorem dL_begin_6 : decode cL_begin 6 = .ok (.i2l, 1) := by decide +kernel
theorem dL_begin_7 : decode cL_begin 7 = .ok (.lastore, 1) := by decide +kernel
theorem dL_begin_8 : decode cL_begin 8 = .ok (.goto 6, 3) := by decide +kernel
theorem dL_begin_11 : decode cL_begin 11 = .ok (.astore_n 2, 1) := by decide +kernel
theorem dL_begin_12 : decode cL_begin 12 = .ok (.iconst 1, 1) := by decide +kernel
theorem dL_begin_13 : decode cL_begin 13 = .ok (.ireturn, 1) := by decide +kernel
theorem dL_begin_14 : decode cL_begin 14 = .ok (.iconst 0, 1) := by decide +kernel
theorem dL_begin_15 : decode cL_begin 15 = .ok (.ireturn, 1) := by decide +kernel
theorem dL_take_0 : decode cL_take 0 = .ok (.aload_n 2, 1) := by decide +kernel
theorem dL_take_1 : decode cL_take 1 = .ok (.iconst 0, 1) := by decide +kernel
theorem dL_take_2 : decode cL_take 2 = .ok (.aload_n 0, 1) := by decide +kernel
theorem dL_take_3 : decode cL_take 3 = .ok (.iload_n 1, 1) := by decide +kernel
theorem dL_take_4 : decode cL_take 4 = .ok (.invokevirtual 15, 3) := by decide +kernel
theorem dL_take_7 : decode cL_take 7 = .ok (.i2l, 1) := by decide +kernel
theorem dL_take_8 : decode cL_take 8 = .ok (.lastore, 1) := by decide +kernel
theorem dL_take_9 : decode cL_take 9 = .ok (.goto 9, 3) := by decide +kernel
theorem dL_take_12 : decode cL_take 12 = .ok (.astore_n 3, 1) := by decide +kernel
theorem dL_take_13 : decode cL_take 13 = .ok (.iconst 1, 1) := by decide +kernel
theorem dL_take_14 : decode cL_take 14 = .ok (.ireturn, 1) := by decide +kernel
theorem dL_take_15 : decode cL_take 15 = .ok (.astore_n 3, 1) := by decide +kernel
theorem dL_take_16 : decode cL_take 16 = .ok (.iconst 2, 1) := by decide +kernel
theorem dL_take_17 : decode cL_take 17 = .ok (.ireturn, 1) := by decide +kernel
theorem dL_take_18 : decode cL_take 18 = .ok (.iconst 0, 1) := by decide +kernel
theorem dL_take_19 : decode cL_take 19 = .ok (.ireturn, 1) := by decide +kernel
theorem dL_give_0 : decode cL_give 0 = .ok (.aload_n 2, 1) := by decide +kernel
theorem dL_give_1 : decode cL_give 1 = .ok (.iconst 0, 1) := by decide +kernel
theorem dL_give_2 : decode cL_give 2 = .ok (.aload_n 0, 1) := by decide +kernel
theorem dL_give_3 : decode cL_give 3 = .ok (.iload_n 1, 1) := by decide +kernel
theorem dL_give_4 : decode cL_give 4 = .ok (.invokevirtual 21, 3) := by decide +kernel
theorem dL_give_7 : decode cL_give 7 = .ok (.i2l, 1) := by decide +kernel
theorem dL_give_8 : decode cL_give 8 = .ok (.lastore, 1) := by decide +kernel
theorem dL_give_9 : decode cL_give 9 = .ok (.goto 9, 3) := by decide +kernel
theorem dL_give_12 : decode cL_give 12 = .ok (.astore_n 3, 1) := by decide +kernel
theorem dL_give_13 : decode cL_give 13 = .ok (.iconst 1, 1) := by decide +kernel
theorem dL_give_14 : decode cL_give 14 = .ok (.ireturn, 1) := by decide +kernel
theorem dL_give_15 : decode cL_give 15 = .ok (.astore_n 3, 1) := by decide +kernel
theorem dL_give_16 : decode cL_give 16 = .ok (.iconst 2, 1) := by decide +kernel
theorem dL_give_17 : decode cL_give 17 = .ok (.ireturn, 1) := by decide +kernel
theorem dL_give_18 : decode cL_give 18 = .ok (.iconst 0, 1) := by decide +kernel
theorem dL_give_19 : decode cL_give 19 = .ok (.ireturn, 1) := by decide +kernel
theorem dL_set_0 : decode cL_set 0 = .ok (.aload 5, 2) := by decide +kernel
theorem dL_set_2 : decode cL_set 2 = .ok (.iconst 0, 1) := by decide +kernel
theorem dL_set_3 : decode cL_set 3 = .ok (.aload_n 0, 1) := by decide +kernel
theorem dL_set_4 : decode cL_set 4 = .ok (.iload_n 1, 1) := by decide +kernel
theorem dL_set_5 : decode cL_set 5 = .ok (.iload_n 2, 1) := by decide +kernel
theorem dL_set_6 : decode cL_set 6 = .ok (.lload_n 3, 1) := by decide +kernel
theorem dL_set_7 : decode cL_set 7 = .ok (.invokevirtual 24, 3) := by decide +kernel
theorem dL_set_10 : decode cL_set 10 = .ok (.ifCond .eq 7, 3) := by decide +kernel
theorem dL_set_13 : decode cL_set 13 = .ok (.lconst 1, 1) := by decide +kernel
theorem dL_set_14 : decode cL_set 14 = .ok (.goto 4, 3) := by decide +kernel
theorem dL_set_17 : decode cL_set 17 = .ok (.lconst 0, 1) := by decide +kernel
theorem dL_set_18 : decode cL_set 18 = .ok (.lastore, 1) := by decide +kernel
theorem dL_set_19 : decode cL_set 19 = .ok (.goto 11, 3) := by decide +kernel
theorem dL_set_22 : decode cL_set 22 = .ok (.astore 6, 2) := by decide +kernel
theorem dL_set_24 : decode cL_set 24 = .ok (.iconst 1, 1) := by decide +kernel
theorem dL_set_25 : decode cL_set 25 = .ok (.ireturn, 1) := by decide +kernel
theorem dL_set_26 : decode cL_set 26 = .ok (.astore 6, 2) := by decide +kernel
theorem dL_set_28 : decode cL_set 28 = .ok (.iconst 2, 1) := by decide +kernel
theorem dL_set_29 : decode cL_set 29 = .ok (.ireturn, 1) := by decide +kernel
theorem dL_set_30 : decode cL_set 30 = .ok (.iconst 0, 1) := by decide +kernel
theorem dL_set_31 : decode cL_set 31 = .ok (.ireturn, 1) := by decide +kernel
theorem dL_get_0 : decode cL_get 0 = .ok (.aload_n 3, 1) := by decide +kernel
theorem dL_get_1 : decode cL_get 1 = .ok (.iconst 0, 1) := by decide +kernel
theorem dL_get_2 : decode cL_get 2 = .ok (.aload_n 0, 1) := by decide +kernel
theorem dL_get_3 : decode cL_get 3 = .ok (.iload_n 1, 1) := by decide +kernel
theorem dL_get_4 : decode cL_get 4 = .ok (.iload_n 2, 1) := by decide +kernel
theorem dL_get_5 : decode cL_get 5 = .ok (.invokevirtual 28, 3) := by decide +kernel
theorem dL_get_8 : decode cL_get 8 = .ok (.lastore, 1) := by decide +kernel
theorem dL_get_9 : decode cL_get 9 = .ok (.goto 11, 3) := by decide +kernel
theorem dL_get_12 : decode cL_get 12 = .ok (.astore 4, 2) := by decide +kernel
theorem dL_get_14 : decode cL_get 14 = .ok (.iconst 1, 1) := by decide +kernel
theorem dL_get_15 : decode cL_get 15 = .ok (.ireturn, 1) := by decide +kernel
theorem dL_get_16 : decode cL_get 16 = .ok (.astore 4, 2) := by decide +kernel
theorem dL_get_18 : decode cL_get 18 = .ok (.iconst 2, 1) := by decide +kernel
theorem dL_get_19 : decode cL_get 19 = .ok (.ireturn, 1) := by decide +kernel
theorem dL_get_20 : decode cL_get 20 = .ok (.iconst 0, 1) := by decide +kernel
theorem dL_get_21 : decode cL_get 21 = .ok (.ireturn, 1) := by decide +kernel
theorem dL_setRoot_0 : decode cL_setRoot 0 = .ok (.aload_n 2, 1) := by decide +kernel
theorem dL_setRoot_1 : decode cL_setRoot 1 = .ok (.iconst 0, 1) := by decide +kernel
theorem dL_setRoot_2 : decode cL_setRoot 2 = .ok (.aload_n 0, 1) := by decide +kernel
theorem dL_setRoot_3 : decode cL_setRoot 3 = .ok (.iload_n 1, 1) := by decide +kernel
theorem dL_setRoot_4 : decode cL_setRoot 4 = .ok (.invokevirtual 32, 3) := by decide +kernel
theorem dL_setRoot_7 : decode cL_setRoot 7 = .ok (.ifCond .eq 7, 3) := by decide +kernel
theorem dL_setRoot_10 : decode cL_setRoot 10 = .ok (.lconst 1, 1) := by decide +kernel
theorem dL_setRoot_11 : decode cL_setRoot 11 = .ok (.goto 4, 3) := by decide +kernel
theorem dL_setRoot_14 : decode cL_setRoot 14 = .ok (.lconst 0, 1) := by decide +kernel
theorem dL_setRoot_15 : decode cL_setRoot 15 = .ok (.lastore, 1) := by decide +kernel
theorem dL_setRoot_16 : decode cL_setRoot 16 = .ok (.goto 9, 3) := by decide +kernel
theorem dL_setRoot_19 : decode cL_setRoot 19 = .ok (.astore_n 3, 1) := by decide +kernel
theorem dL_setRoot_20 : decode cL_setRoot 20 = .ok (.iconst 1, 1) := by decide +kernel
theorem dL_setRoot_21 : decode cL_setRoot 21 = .ok (.ireturn, 1) := by decide +kernel
theorem dL_setRoot_22 : decode cL_setRoot 22 = .ok (.astore_n 3, 1) := by decide +kernel
theorem dL_setRoot_23 : decode cL_setRoot 23 = .ok (.iconst 2, 1) := by decide +kernel
theorem dL_setRoot_24 : decode cL_setRoot 24 = .ok (.ireturn, 1) := by decide +kernel
theorem dL_setRoot_25 : decode cL_setRoot 25 = .ok (.iconst 0, 1) := by decide +kernel
theorem dL_setRoot_26 : decode cL_setRoot 26 = .ok (.ireturn, 1) := by decide +kernel
theorem dL_root_0 : decode cL_root 0 = .ok (.aload_n 1, 1) := by decide +kernel
theorem dL_root_1 : decode cL_root 1 = .ok (.iconst 0, 1) := by decide +kernel
theorem dL_root_2 : decode cL_root 2 = .ok (.aload_n 0, 1) := by decide +kernel
theorem dL_root_3 : decode cL_root 3 = .ok (.invokevirtual 36, 3) := by decide +kernel
theorem dL_root_6 : decode cL_root 6 = .ok (.i2l, 1) := by decide +kernel
theorem dL_root_7 : decode cL_root 7 = .ok (.lastore, 1) := by decide +kernel
theorem dL_root_8 : decode cL_root 8 = .ok (.goto 6, 3) := by decide +kernel
theorem dL_root_11 : decode cL_root 11 = .ok (.astore_n 2, 1) := by decide +kernel
theorem dL_root_12 : decode cL_root 12 = .ok (.iconst 1, 1) := by decide +kernel
theorem dL_root_13 : decode cL_root 13 = .ok (.ireturn, 1) := by decide +kernel
theorem dL_root_14 : decode cL_root 14 = .ok (.iconst 0, 1) := by decide +kernel
theorem dL_root_15 : decode cL_root 15 = .ok (.ireturn, 1) := by decide +kernel
theorem dL_commit_0 : decode cL_commit 0 = .ok (.aload_n 2, 1) := by decide +kernel
theorem dL_commit_1 : decode cL_commit 1 = .ok (.iconst 0, 1) := by decide +kernel
theorem dL_commit_2 : decode cL_commit 2 = .ok (.aload_n 0, 1) := by decide +kernel
theorem dL_commit_3 : decode cL_commit 3 = .ok (.iload_n 1, 1) := by decide +kernel
theorem dL_commit_4 : decode cL_commit 4 = .ok (.invokevirtual 39, 3) := by decide +kernel
theorem dL_commit_7 : decode cL_commit 7 = .ok (.i2l, 1) := by decide +kernel
theorem dL_commit_8 : decode cL_commit 8 = .ok (.lastore, 1) := by decide +kernel
theorem dL_commit_9 : decode cL_commit 9 = .ok (.goto 6, 3) := by decide +kernel
theorem dL_commit_12 : decode cL_commit 12 = .ok (.astore_n 3, 1) := by decide +kernel
theorem dL_commit_13 : decode cL_commit 13 = .ok (.iconst 1, 1) := by decide +kernel
theorem dL_commit_14 : decode cL_commit 14 = .ok (.ireturn, 1) := by decide +kernel
theorem dL_commit_15 : decode cL_commit 15 = .ok (.iconst 0, 1) := by decide +kernel
theorem dL_commit_16 : decode cL_commit 16 = .ok (.ireturn, 1) := by decide +kernel
theorem dL_sync_0 : decode cL_sync 0 = .ok (.aload_n 1, 1) := by decide +kernel
theorem dL_sync_1 : decode cL_sync 1 = .ok (.iconst 0, 1) := by decide +kernel
theorem dL_sync_2 : decode cL_sync 2 = .ok (.aload_n 0, 1) := by decide +kernel
theorem dL_sync_3 : decode cL_sync 3 = .ok (.invokevirtual 43, 3) := by decide +kernel
theorem dL_sync_6 : decode cL_sync 6 = .ok (.i2l, 1) := by decide +kernel
theorem dL_sync_7 : decode cL_sync 7 = .ok (.lastore, 1) := by decide +kernel
theorem dL_sync_8 : decode cL_sync 8 = .ok (.goto 6, 3) := by decide +kernel
theorem dL_sync_11 : decode cL_sync 11 = .ok (.astore_n 2, 1) := by decide +kernel
theorem dL_sync_12 : decode cL_sync 12 = .ok (.iconst 1, 1) := by decide +kernel
theorem dL_sync_13 : decode cL_sync 13 = .ok (.ireturn, 1) := by decide +kernel
theorem dL_sync_14 : decode cL_sync 14 = .ok (.iconst 0, 1) := by decide +kernel
theorem dL_sync_15 : decode cL_sync 15 = .ok (.ireturn, 1) := by decide +kernel
theorem dL_abort_0 : decode cL_abort 0 = .ok (.aload_n 1, 1) := by decide +kernel
theorem dL_abort_1 : decode cL_abort 1 = .ok (.iconst 0, 1) := by decide +kernel
theorem dL_abort_2 : decode cL_abort 2 = .ok (.aload_n 0, 1) := by decide +kernel
theorem dL_abort_3 : decode cL_abort 3 = .ok (.invokevirtual 46, 3) := by decide +kernel
theorem dL_abort_6 : decode cL_abort 6 = .ok (.i2l, 1) := by decide +kernel
theorem dL_abort_7 : decode cL_abort 7 = .ok (.lastore, 1) := by decide +kernel
theorem dL_abort_8 : decode cL_abort 8 = .ok (.goto 6, 3) := by decide +kernel
theorem dL_abort_11 : decode cL_abort 11 = .ok (.astore_n 2, 1) := by decide +kernel
theorem dL_abort_12 : decode cL_abort 12 = .ok (.iconst 1, 1) := by decide +kernel
theorem dL_abort_13 : decode cL_abort 13 = .ok (.ireturn, 1) := by decide +kernel
theorem dL_abort_14 : decode cL_abort 14 = .ok (.iconst 0, 1) := by decide +kernel
theorem dL_abort_15 : decode cL_abort 15 = .ok (.ireturn, 1) := by decide +kernel
theorem dL_checkpoint_0 : decode cL_checkpoint 0 = .ok (.aload_n 1, 1) := by decide +kernel
theorem dL_checkpoint_1 : decode cL_checkpoint 1 = .ok (.iconst 0, 1) := by decide +kernel
theorem dL_checkpoint_2 : decode cL_checkpoint 2 = .ok (.aload_n 0, 1) := by decide +kernel
theorem dL_checkpoint_3 : decode cL_checkpoint 3 = .ok (.invokevirtual 49, 3) := by decide +kernel
theorem dL_checkpoint_6 : decode cL_checkpoint 6 = .ok (.i2l, 1) := by decide +kernel
theorem dL_checkpoint_7 : decode cL_checkpoint 7 = .ok (.lastore, 1) := by decide +kernel
theorem dL_checkpoint_8 : decode cL_checkpoint 8 = .ok (.goto 6, 3) := by decide +kernel
theorem dL_checkpoint_11 : decode cL_checkpoint 11 = .ok (.astore_n 2, 1) := by decide +kernel
theorem dL_checkpoint_12 : decode cL_checkpoint 12 = .ok (.iconst 1, 1) := by decide +kernel
theorem dL_checkpoint_13 : decode cL_checkpoint 13 = .ok (.ireturn, 1) := by decide +kernel
theorem dL_checkpoint_14 : decode cL_checkpoint 14 = .ok (.iconst 0, 1) := by decide +kernel
theorem dL_checkpoint_15 : decode cL_checkpoint 15 = .ok (.ireturn, 1) := by decide +kernel
theorem dL_power_0 : decode cL_power 0 = .ok (.aload_n 3, 1) := by decide +kernel
theorem dL_power_1 : decode cL_power 1 = .ok (.iconst 0, 1) := by decide +kernel
theorem dL_power_2 : decode cL_power 2 = .ok (.aload_n 0, 1) := by decide +kernel
theorem dL_power_3 : decode cL_power 3 = .ok (.iload_n 1, 1) := by decide +kernel
theorem dL_power_4 : decode cL_power 4 = .ok (.iload_n 2, 1) := by decide +kernel
theorem dL_power_5 : decode cL_power 5 = .ok (.invokevirtual 52, 3) := by decide +kernel
theorem dL_power_8 : decode cL_power 8 = .ok (.i2l, 1) := by decide +kernel
theorem dL_power_9 : decode cL_power 9 = .ok (.lastore, 1) := by decide +kernel
theorem dL_power_10 : decode cL_power 10 = .ok (.goto 7, 3) := by decide +kernel
theorem dL_power_13 : decode cL_power 13 = .ok (.astore 4, 2) := by decide +kernel
theorem dL_power_15 : decode cL_power 15 = .ok (.iconst 1, 1) := by decide +kernel
theorem dL_power_16 : decode cL_power 16 = .ok (.ireturn, 1) := by decide +kernel
theorem dL_power_17 : decode cL_power 17 = .ok (.iconst 0, 1) := by decide +kernel
theorem dL_power_18 : decode cL_power 18 = .ok (.ireturn, 1) := by decide +kernel
theorem dL_cut_0 : decode cL_cut 0 = .ok (.aload_n 2, 1) := by decide +kernel
theorem dL_cut_1 : decode cL_cut 1 = .ok (.iconst 0, 1) := by decide +kernel
theorem dL_cut_2 : decode cL_cut 2 = .ok (.aload_n 0, 1) := by decide +kernel
theorem dL_cut_3 : decode cL_cut 3 = .ok (.iload_n 1, 1) := by decide +kernel
theorem dL_cut_4 : decode cL_cut 4 = .ok (.invokevirtual 56, 3) := by decide +kernel
theorem dL_cut_7 : decode cL_cut 7 = .ok (.i2l, 1) := by decide +kernel
theorem dL_cut_8 : decode cL_cut 8 = .ok (.lastore, 1) := by decide +kernel
theorem dL_cut_9 : decode cL_cut 9 = .ok (.goto 9, 3) := by decide +kernel
theorem dL_cut_12 : decode cL_cut 12 = .ok (.astore_n 3, 1) := by decide +kernel
theorem dL_cut_13 : decode cL_cut 13 = .ok (.iconst 1, 1) := by decide +kernel
theorem dL_cut_14 : decode cL_cut 14 = .ok (.ireturn, 1) := by decide +kernel
theorem dL_cut_15 : decode cL_cut 15 = .ok (.astore_n 3, 1) := by decide +kernel
theorem dL_cut_16 : decode cL_cut 16 = .ok (.iconst 2, 1) := by decide +kernel
theorem dL_cut_17 : decode cL_cut 17 = .ok (.ireturn, 1) := by decide +kernel
theorem dL_cut_18 : decode cL_cut 18 = .ok (.iconst 0, 1) := by decide +kernel
theorem dL_cut_19 : decode cL_cut 19 = .ok (.ireturn, 1) := by decide +kernel
theorem dL_open_0 : decode cL_open 0 = .ok (.aload_n 1, 1) := by decide +kernel
theorem dL_open_1 : decode cL_open 1 = .ok (.iconst 0, 1) := by decide +kernel
theorem dL_open_2 : decode cL_open 2 = .ok (.aload_n 0, 1) := by decide +kernel
theorem dL_open_3 : decode cL_open 3 = .ok (.invokevirtual 59, 3) := by decide +kernel
theorem dL_open_6 : decode cL_open 6 = .ok (.i2l, 1) := by decide +kernel
theorem dL_open_7 : decode cL_open 7 = .ok (.lastore, 1) := by decide +kernel
theorem dL_open_8 : decode cL_open 8 = .ok (.goto 6, 3) := by decide +kernel
theorem dL_open_11 : decode cL_open 11 = .ok (.astore_n 2, 1) := by decide +kernel
theorem dL_open_12 : decode cL_open 12 = .ok (.iconst 1, 1) := by decide +kernel
theorem dL_open_13 : decode cL_open 13 = .ok (.ireturn, 1) := by decide +kernel
theorem dL_open_14 : decode cL_open 14 = .ok (.iconst 0, 1) := by decide +kernel
theorem dL_open_15 : decode cL_open 15 = .ok (.ireturn, 1) := by decide +kernel
theorem dL_word_0 : decode cL_word 0 = .ok (.aload_n 2, 1) := by decide +kernel
theorem dL_word_1 : decode cL_word 1 = .ok (.iconst 0, 1) := by decide +kernel
theorem dL_word_2 : decode cL_word 2 = .ok (.aload_n 0, 1) := by decide +kernel
theorem dL_word_3 : decode cL_word 3 = .ok (.iload_n 1, 1) := by decide +kernel
theorem dL_word_4 : decode cL_word 4 = .ok (.invokevirtual 62, 3) := by decide +kernel
theorem dL_word_7 : decode cL_word 7 = .ok (.lastore, 1) := by decide +kernel
theorem dL_word_8 : decode cL_word 8 = .ok (.goto 6, 3) := by decide +kernel
theorem dL_word_11 : decode cL_word 11 = .ok (.astore_n 3, 1) := by decide +kernel
theorem dL_word_12 : decode cL_word 12 = .ok (.iconst 1, 1) := by decide +kernel
theorem dL_word_13 : decode cL_word 13 = .ok (.ireturn, 1) := by decide +kernel
theorem dL_word_14 : decode cL_word 14 = .ok (.iconst 0, 1) := by decide +kernel
theorem dL_word_15 : decode cL_word 15 = .ok (.ireturn, 1) := by decide +kernel
theorem dL_block_0 : decode cL_block 0 = .ok (.aload_n 3, 1) := by decide +kernel
theorem dL_block_1 : decode cL_block 1 = .ok (.iconst 0, 1) := by decide +kernel
theorem dL_block_2 : decode cL_block 2 = .ok (.aload_n 0, 1) := by decide +kernel
theorem dL_block_3 : decode cL_block 3 = .ok (.iload_n 1, 1) := by decide +kernel
theorem dL_block_4 : decode cL_block 4 = .ok (.iload_n 2, 1) := by decide +kernel
theorem dL_block_5 : decode cL_block 5 = .ok (.invokevirtual 68, 3) := by decide +kernel
theorem dL_block_8 : decode cL_block 8 = .ok (.i2l, 1) := by decide +kernel
theorem dL_block_9 : decode cL_block 9 = .ok (.lastore, 1) := by decide +kernel
theorem dL_block_10 : decode cL_block 10 = .ok (.goto 11, 3) := by decide +kernel
theorem dL_block_13 : decode cL_block 13 = .ok (.astore 4, 2) := by decide +kernel
theorem dL_block_15 : decode cL_block 15 = .ok (.iconst 1, 1) := by decide +kernel
theorem dL_block_16 : decode cL_block 16 = .ok (.ireturn, 1) := by decide +kernel
theorem dL_block_17 : decode cL_block 17 = .ok (.astore 4, 2) := by decide +kernel
theorem dL_block_19 : decode cL_block 19 = .ok (.iconst 2, 1) := by decide +kernel
theorem dL_block_20 : decode cL_block 20 = .ok (.ireturn, 1) := by decide +kernel
theorem dL_block_21 : decode cL_block 21 = .ok (.iconst 0, 1) := by decide +kernel
theorem dL_block_22 : decode cL_block 22 = .ok (.ireturn, 1) := by decide +kernel
theorem dL_told_0 : decode cL_told 0 = .ok (.aload_n 2, 1) := by decide +kernel
theorem dL_told_1 : decode cL_told 1 = .ok (.iconst 0, 1) := by decide +kernel
theorem dL_told_2 : decode cL_told 2 = .ok (.aload_n 0, 1) := by decide +kernel
theorem dL_told_3 : decode cL_told 3 = .ok (.iload_n 1, 1) := by decide +kernel
theorem dL_told_4 : decode cL_told 4 = .ok (.invokevirtual 71, 3) := by decide +kernel
theorem dL_told_7 : decode cL_told 7 = .ok (.i2l, 1) := by decide +kernel
theorem dL_told_8 : decode cL_told 8 = .ok (.lastore, 1) := by decide +kernel
theorem dL_told_9 : decode cL_told 9 = .ok (.goto 9, 3) := by decide +kernel
theorem dL_told_12 : decode cL_told 12 = .ok (.astore_n 3, 1) := by decide +kernel
theorem dL_told_13 : decode cL_told 13 = .ok (.iconst 1, 1) := by decide +kernel
theorem dL_told_14 : decode cL_told 14 = .ok (.ireturn, 1) := by decide +kernel
theorem dL_told_15 : decode cL_told 15 = .ok (.astore_n 3, 1) := by decide +kernel
theorem dL_told_16 : decode cL_told 16 = .ok (.iconst 2, 1) := by decide +kernel
theorem dL_told_17 : decode cL_told 17 = .ok (.ireturn, 1) := by decide +kernel
theorem dL_told_18 : decode cL_told 18 = .ok (.iconst 0, 1) := by decide +kernel
theorem dL_told_19 : decode cL_told 19 = .ok (.ireturn, 1) := by decide +kernel
theorem dL_count_0 : decode cL_count 0 = .ok (.aload_n 2, 1) := by decide +kernel
theorem dL_count_1 : decode cL_count 1 = .ok (.iconst 0, 1) := by decide +kernel
theorem dL_count_2 : decode cL_count 2 = .ok (.aload_n 0, 1) := by decide +kernel
theorem dL_count_3 : decode cL_count 3 = .ok (.iload_n 1, 1) := by decide +kernel
theorem dL_count_4 : decode cL_count 4 = .ok (.invokevirtual 74, 3) := by decide +kernel
theorem dL_count_7 : decode cL_count 7 = .ok (.i2l, 1) := by decide +kernel
theorem dL_count_8 : decode cL_count 8 = .ok (.lastore, 1) := by decide +kernel
theorem dL_count_9 : decode cL_count 9 = .ok (.goto 6, 3) := by decide +kernel
theorem dL_count_12 : decode cL_count 12 = .ok (.astore_n 3, 1) := by decide +kernel
theorem dL_count_13 : decode cL_count 13 = .ok (.iconst 1, 1) := by decide +kernel
theorem dL_count_14 : decode cL_count 14 = .ok (.ireturn, 1) := by decide +kernel
theorem dL_count_15 : decode cL_count 15 = .ok (.iconst 0, 1) := by decide +kernel
theorem dL_count_16 : decode cL_count 16 = .ok (.ireturn, 1) := by decide +kernel
theorem dL_law_0 : decode cL_law 0 = .ok (.new 8, 3) := by decide +kernel
theorem dL_law_3 : decode cL_law 3 = .ok (.dup, 1) := by decide +kernel
theorem dL_law_4 : decode cL_law 4 = .ok (.invokespecial 77, 3) := by decide +kernel
theorem dL_law_7 : decode cL_law 7 = .ok (.astore_n 1, 1) := by decide +kernel
theorem dL_law_8 : decode cL_law 8 = .ok (.new 78, 3) := by decide +kernel
theorem dL_law_11 : decode cL_law 11 = .ok (.dup, 1) := by decide +kernel
theorem dL_law_12 : decode cL_law 12 = .ok (.invokespecial 80, 3) := by decide +kernel
theorem dL_law_15 : decode cL_law 15 = .ok (.astore_n 2, 1) := by decide +kernel
theorem dL_law_16 : decode cL_law 16 = .ok (.iconst 1, 1) := by decide +kernel
theorem dL_law_17 : decode cL_law 17 = .ok (.newarray .long, 2) := by decide +kernel
theorem dL_law_19 : decode cL_law 19 = .ok (.astore_n 3, 1) := by decide +kernel
theorem dL_law_20 : decode cL_law 20 = .ok (.iconst 0, 1) := by decide +kernel
theorem dL_law_21 : decode cL_law 21 = .ok (.istore 4, 2) := by decide +kernel
theorem dL_law_23 : decode cL_law 23 = .ok (.iload 4, 2) := by decide +kernel
theorem dL_law_25 : decode cL_law 25 = .ok (.aload_n 0, 1) := by decide +kernel
theorem dL_law_26 : decode cL_law 26 = .ok (.arraylength, 1) := by decide +kernel
theorem dL_law_27 : decode cL_law 27 = .ok (.iconst 5, 1) := by decide +kernel
theorem dL_law_28 : decode cL_law 28 = .ok (.isub, 1) := by decide +kernel
theorem dL_law_29 : decode cL_law 29 = .ok (.if_icmp .gt 1157, 3) := by decide +kernel
theorem dL_law_32 : decode cL_law 32 = .ok (.aload_n 0, 1) := by decide +kernel
theorem dL_law_33 : decode cL_law 33 = .ok (.iload 4, 2) := by decide +kernel
theorem dL_law_35 : decode cL_law 35 = .ok (.iaload, 1) := by decide +kernel
theorem dL_law_36 : decode cL_law 36 = .ok (.bipush 31, 2) := by decide +kernel
theorem dL_law_38 : decode cL_law 38 = .ok (.iand, 1) := by decide +kernel
theorem dL_law_39 : decode cL_law 39 = .ok (.tableswitch 1141 0 17 #[85, 129, 185, 241, 360, 427, 490, 534, 606, 650, 694, 738, 806, 862, 906, 961, 1029, 1085], 85) := by decide +kernel
theorem dL_law_124 : decode cL_law 124 = .ok (.aload_n 1, 1) := by decide +kernel
theorem dL_law_125 : decode cL_law 125 = .ok (.aload_n 3, 1) := by decide +kernel
theorem dL_law_126 : decode cL_law 126 = .ok (.invokestatic 81, 3) := by decide +kernel
theorem dL_law_129 : decode cL_law 129 = .ok (.istore 5, 2) := by decide +kernel
theorem dL_law_131 : decode cL_law 131 = .ok (.aload_n 2, 1) := by decide +kernel
theorem dL_law_132 : decode cL_law 132 = .ok (.invokevirtual 86, 3) := by decide +kernel
theorem dL_law_135 : decode cL_law 135 = .ok (.istore 6, 2) := by decide +kernel
theorem dL_law_137 : decode cL_law 137 = .ok (.aload_n 2, 1) := by decide +kernel
theorem dL_law_138 : decode cL_law 138 = .ok (.invokevirtual 87, 3) := by decide +kernel
theorem dL_law_141 : decode cL_law 141 = .ok (.iload 5, 2) := by decide +kernel
theorem dL_law_143 : decode cL_law 143 = .ok (.if_icmp .eq 5, 3) := by decide +kernel
theorem dL_law_146 : decode cL_law 146 = .ok (.iconst 0, 1) := by decide +kernel
theorem dL_law_147 : decode cL_law 147 = .ok (.ireturn, 1) := by decide +kernel
theorem dL_law_148 : decode cL_law 148 = .ok (.iload 5, 2) := by decide +kernel
theorem dL_law_150 : decode cL_law 150 = .ok (.ifCond .ne 15, 3) := by decide +kernel
theorem dL_law_153 : decode cL_law 153 = .ok (.aload_n 3, 1) := by decide +kernel
theorem dL_law_154 : decode cL_law 154 = .ok (.iconst 0, 1) := by decide +kernel
theorem dL_law_155 : decode cL_law 155 = .ok (.laload, 1) := by decide +kernel
theorem dL_law_156 : decode cL_law 156 = .ok (.iload 6, 2) := by decide +kernel
theorem dL_law_158 : decode cL_law 158 = .ok (.i2l, 1) := by decide +kernel
theorem dL_law_159 : decode cL_law 159 = .ok (.lcmp, 1) := by decide +kernel
theorem dL_law_160 : decode cL_law 160 = .ok (.ifCond .eq 5, 3) := by decide +kernel
theorem dL_law_163 : decode cL_law 163 = .ok (.iconst 0, 1) := by decide +kernel
theorem dL_law_164 : decode cL_law 164 = .ok (.ireturn, 1) := by decide +kernel
theorem dL_law_165 : decode cL_law 165 = .ok (.goto 1015, 3) := by decide +kernel
theorem dL_law_168 : decode cL_law 168 = .ok (.aload_n 1, 1) := by decide +kernel
theorem dL_law_169 : decode cL_law 169 = .ok (.aload_n 0, 1) := by decide +kernel
theorem dL_law_170 : decode cL_law 170 = .ok (.iload 4, 2) := by decide +kernel
theorem dL_law_172 : decode cL_law 172 = .ok (.iconst 1, 1) := by decide +kernel
theorem dL_law_173 : decode cL_law 173 = .ok (.iadd, 1) := by decide +kernel
theorem dL_law_174 : decode cL_law 174 = .ok (.iaload, 1) := by decide +kernel
theorem dL_law_175 : decode cL_law 175 = .ok (.aload_n 3, 1) := by decide +kernel
theorem dL_law_176 : decode cL_law 176 = .ok (.invokestatic 90, 3) := by decide +kernel
theorem dL_law_179 : decode cL_law 179 = .ok (.istore 5, 2) := by decide +kernel
theorem dL_law_181 : decode cL_law 181 = .ok (.aload_n 2, 1) := by decide +kernel
theorem dL_law_182 : decode cL_law 182 = .ok (.aload_n 0, 1) := by decide +kernel
theorem dL_law_183 : decode cL_law 183 = .ok (.iload 4, 2) := by decide +kernel
theorem dL_law_185 : decode cL_law 185 = .ok (.iconst 1, 1) := by decide +kernel
theorem dL_law_186 : decode cL_law 186 = .ok (.iadd, 1) := by decide +kernel
theorem dL_law_187 : decode cL_law 187 = .ok (.iaload, 1) := by decide +kernel
theorem dL_law_188 : decode cL_law 188 = .ok (.invokevirtual 93, 3) := by decide +kernel
theorem dL_law_191 : decode cL_law 191 = .ok (.istore 6, 2) := by decide +kernel
theorem dL_law_193 : decode cL_law 193 = .ok (.aload_n 2, 1) := by decide +kernel
theorem dL_law_194 : decode cL_law 194 = .ok (.invokevirtual 87, 3) := by decide +kernel
theorem dL_law_197 : decode cL_law 197 = .ok (.iload 5, 2) := by decide +kernel
theorem dL_law_199 : decode cL_law 199 = .ok (.if_icmp .eq 5, 3) := by decide +kernel
theorem dL_law_202 : decode cL_law 202 = .ok (.iconst 0, 1) := by decide +kernel
theorem dL_law_203 : decode cL_law 203 = .ok (.ireturn, 1) := by decide +kernel
theorem dL_law_204 : decode cL_law 204 = .ok (.iload 5, 2) := by decide +kernel
theorem dL_law_206 : decode cL_law 206 = .ok (.ifCond .ne 15, 3) := by decide +kernel
theorem dL_law_209 : decode cL_law 209 = .ok (.aload_n 3, 1) := by decide +kernel
theorem dL_law_210 : decode cL_law 210 = .ok (.iconst 0, 1) := by decide +kernel
theorem dL_law_211 : decode cL_law 211 = .ok (.laload, 1) := by decide +kernel
theorem dL_law_212 : decode cL_law 212 = .ok (.iload 6, 2) := by decide +kernel
theorem dL_law_214 : decode cL_law 214 = .ok (.i2l, 1) := by decide +kernel
theorem dL_law_215 : decode cL_law 215 = .ok (.lcmp, 1) := by decide +kernel
theorem dL_law_216 : decode cL_law 216 = .ok (.ifCond .eq 5, 3) := by decide +kernel
theorem dL_law_219 : decode cL_law 219 = .ok (.iconst 0, 1) := by decide +kernel
theorem dL_law_220 : decode cL_law 220 = .ok (.ireturn, 1) := by decide +kernel
theorem dL_law_221 : decode cL_law 221 = .ok (.goto 959, 3) := by decide +kernel
theorem dL_law_224 : decode cL_law 224 = .ok (.aload_n 1, 1) := by decide +kernel
theorem dL_law_225 : decode cL_law 225 = .ok (.aload_n 0, 1) := by decide +kernel
theorem dL_law_226 : decode cL_law 226 = .ok (.iload 4, 2) := by decide +kernel
theorem dL_law_228 : decode cL_law 228 = .ok (.iconst 1, 1) := by decide +kernel
theorem dL_law_229 : decode cL_law 229 = .ok (.iadd, 1) := by decide +kernel
theorem dL_law_230 : decode cL_law 230 = .ok (.iaload, 1) := by decide +kernel
theorem dL_law_231 : decode cL_law 231 = .ok (.aload_n 3, 1) := by decide +kernel
theorem dL_law_232 : decode cL_law 232 = .ok (.invokestatic 94, 3) := by decide +kernel
theorem dL_law_235 : decode cL_law 235 = .ok (.istore 5, 2) := by decide +kernel
theorem dL_law_237 : decode cL_law 237 = .ok (.aload_n 2, 1) := by decide +kernel
theorem dL_law_238 : decode cL_law 238 = .ok (.aload_n 0, 1) := by decide +kernel
theorem dL_law_239 : decode cL_law 239 = .ok (.iload 4, 2) := by decide +kernel
theorem dL_law_241 : decode cL_law 241 = .ok (.iconst 1, 1) := by decide +kernel
theorem dL_law_242 : decode cL_law 242 = .ok (.iadd, 1) := by decide +kernel
theorem dL_law_243 : decode cL_law 243 = .ok (.iaload, 1) := by decide +kernel
theorem dL_law_244 : decode cL_law 244 = .ok (.invokevirtual 96, 3) := by decide +kernel
theorem dL_law_247 : decode cL_law 247 = .ok (.istore 6, 2) := by decide +kernel
theorem dL_law_249 : decode cL_law 249 = .ok (.aload_n 2, 1) := by decide +kernel
theorem dL_law_250 : decode cL_law 250 = .ok (.invokevirtual 87, 3) := by decide +kernel
theorem dL_law_253 : decode cL_law 253 = .ok (.iload 5, 2) := by decide +kernel
theorem dL_law_255 : decode cL_law 255 = .ok (.if_icmp .eq 5, 3) := by decide +kernel
theorem dL_law_258 : decode cL_law 258 = .ok (.iconst 0, 1) := by decide +kernel
theorem dL_law_259 : decode cL_law 259 = .ok (.ireturn, 1) := by decide +kernel
theorem dL_law_260 : decode cL_law 260 = .ok (.iload 5, 2) := by decide +kernel
theorem dL_law_262 : decode cL_law 262 = .ok (.ifCond .ne 15, 3) := by decide +kernel
theorem dL_law_265 : decode cL_law 265 = .ok (.aload_n 3, 1) := by decide +kernel
theorem dL_law_266 : decode cL_law 266 = .ok (.iconst 0, 1) := by decide +kernel
theorem dL_law_267 : decode cL_law 267 = .ok (.laload, 1) := by decide +kernel
theorem dL_law_268 : decode cL_law 268 = .ok (.iload 6, 2) := by decide +kernel
theorem dL_law_270 : decode cL_law 270 = .ok (.i2l, 1) := by decide +kernel
theorem dL_law_271 : decode cL_law 271 = .ok (.lcmp, 1) := by decide +kernel
theorem dL_law_272 : decode cL_law 272 = .ok (.ifCond .eq 5, 3) := by decide +kernel
theorem dL_law_275 : decode cL_law 275 = .ok (.iconst 0, 1) := by decide +kernel
theorem dL_law_276 : decode cL_law 276 = .ok (.ireturn, 1) := by decide +kernel
theorem dL_law_277 : decode cL_law 277 = .ok (.goto 903, 3) := by decide +kernel
theorem dL_law_280 : decode cL_law 280 = .ok (.aload_n 1, 1) := by decide +kernel
theorem dL_law_281 : decode cL_law 281 = .ok (.aload_n 0, 1) := by decide +kernel
theorem dL_law_282 : decode cL_law 282 = .ok (.iload 4, 2) := by decide +kernel
theorem dL_law_284 : decode cL_law 284 = .ok (.iconst 1, 1) := by decide +kernel
theorem dL_law_285 : decode cL_law 285 = .ok (.iadd, 1) := by decide +kernel
theorem dL_law_286 : decode cL_law 286 = .ok (.iaload, 1) := by decide +kernel
theorem dL_law_287 : decode cL_law 287 = .ok (.aload_n 0, 1) := by decide +kernel
theorem dL_law_288 : decode cL_law 288 = .ok (.iload 4, 2) := by decide +kernel
theorem dL_law_290 : decode cL_law 290 = .ok (.iconst 2, 1) := by decide +kernel
theorem dL_law_291 : decode cL_law 291 = .ok (.iadd, 1) := by decide +kernel
theorem dL_law_292 : decode cL_law 292 = .ok (.iaload, 1) := by decide +kernel
theorem dL_law_293 : decode cL_law 293 = .ok (.aload_n 0, 1) := by decide +kernel
theorem dL_law_294 : decode cL_law 294 = .ok (.iload 4, 2) := by decide +kernel
theorem dL_law_296 : decode cL_law 296 = .ok (.iconst 3, 1) := by decide +kernel
theorem dL_law_297 : decode cL_law 297 = .ok (.iadd, 1) := by decide +kernel
theorem dL_law_298 : decode cL_law 298 = .ok (.iaload, 1) := by decide +kernel
theorem dL_law_299 : decode cL_law 299 = .ok (.i2l, 1) := by decide +kernel
theorem dL_law_300 : decode cL_law 300 = .ok (.bipush 32, 2) := by decide +kernel
theorem dL_law_302 : decode cL_law 302 = .ok (.lshl, 1) := by decide +kernel
theorem dL_law_303 : decode cL_law 303 = .ok (.aload_n 0, 1) := by decide +kernel
theorem dL_law_304 : decode cL_law 304 = .ok (.iload 4, 2) := by decide +kernel
theorem dL_law_306 : decode cL_law 306 = .ok (.iconst 4, 1) := by decide +kernel
theorem dL_law_307 : decode cL_law 307 = .ok (.iadd, 1) := by decide +kernel
theorem dL_law_308 : decode cL_law 308 = .ok (.iaload, 1) := by decide +kernel
theorem dL_law_309 : decode cL_law 309 = .ok (.i2l, 1) := by decide +kernel
theorem dL_law_310 : decode cL_law 310 = .ok (.ldc2_w 97, 3) := by decide +kernel
theorem dL_law_313 : decode cL_law 313 = .ok (.land, 1) := by decide +kernel
theorem dL_law_314 : decode cL_law 314 = .ok (.lor, 1) := by decide +kernel
theorem dL_law_315 : decode cL_law 315 = .ok (.aload_n 3, 1) := by decide +kernel
theorem dL_law_316 : decode cL_law 316 = .ok (.invokestatic 99, 3) := by decide +kernel
theorem dL_law_319 : decode cL_law 319 = .ok (.istore 5, 2) := by decide +kernel
theorem dL_law_321 : decode cL_law 321 = .ok (.aload_n 2, 1) := by decide +kernel
theorem dL_law_322 : decode cL_law 322 = .ok (.aload_n 0, 1) := by decide +kernel
theorem dL_law_323 : decode cL_law 323 = .ok (.iload 4, 2) := by decide +kernel
theorem dL_law_325 : decode cL_law 325 = .ok (.iconst 1, 1) := by decide +kernel
theorem dL_law_326 : decode cL_law 326 = .ok (.iadd, 1) := by decide +kernel
theorem dL_law_327 : decode cL_law 327 = .ok (.iaload, 1) := by decide +kernel
theorem dL_law_328 : decode cL_law 328 = .ok (.aload_n 0, 1) := by decide +kernel
theorem dL_law_329 : decode cL_law 329 = .ok (.iload 4, 2) := by decide +kernel
theorem dL_law_331 : decode cL_law 331 = .ok (.iconst 2, 1) := by decide +kernel
theorem dL_law_332 : decode cL_law 332 = .ok (.iadd, 1) := by decide +kernel
theorem dL_law_333 : decode cL_law 333 = .ok (.iaload, 1) := by decide +kernel
theorem dL_law_334 : decode cL_law 334 = .ok (.aload_n 0, 1) := by decide +kernel
theorem dL_law_335 : decode cL_law 335 = .ok (.iload 4, 2) := by decide +kernel
theorem dL_law_337 : decode cL_law 337 = .ok (.iconst 3, 1) := by decide +kernel
theorem dL_law_338 : decode cL_law 338 = .ok (.iadd, 1) := by decide +kernel
theorem dL_law_339 : decode cL_law 339 = .ok (.iaload, 1) := by decide +kernel
theorem dL_law_340 : decode cL_law 340 = .ok (.i2l, 1) := by decide +kernel
theorem dL_law_341 : decode cL_law 341 = .ok (.bipush 32, 2) := by decide +kernel
theorem dL_law_343 : decode cL_law 343 = .ok (.lshl, 1) := by decide +kernel
theorem dL_law_344 : decode cL_law 344 = .ok (.aload_n 0, 1) := by decide +kernel
theorem dL_law_345 : decode cL_law 345 = .ok (.iload 4, 2) := by decide +kernel
theorem dL_law_347 : decode cL_law 347 = .ok (.iconst 4, 1) := by decide +kernel
theorem dL_law_348 : decode cL_law 348 = .ok (.iadd, 1) := by decide +kernel
theorem dL_law_349 : decode cL_law 349 = .ok (.iaload, 1) := by decide +kernel
theorem dL_law_350 : decode cL_law 350 = .ok (.i2l, 1) := by decide +kernel
theorem dL_law_351 : decode cL_law 351 = .ok (.ldc2_w 97, 3) := by decide +kernel
theorem dL_law_354 : decode cL_law 354 = .ok (.land, 1) := by decide +kernel
theorem dL_law_355 : decode cL_law 355 = .ok (.lor, 1) := by decide +kernel
theorem dL_law_356 : decode cL_law 356 = .ok (.invokevirtual 102, 3) := by decide +kernel
theorem dL_law_359 : decode cL_law 359 = .ok (.istore 6, 2) := by decide +kernel
theorem dL_law_361 : decode cL_law 361 = .ok (.aload_n 2, 1) := by decide +kernel
theorem dL_law_362 : decode cL_law 362 = .ok (.invokevirtual 87, 3) := by decide +kernel
theorem dL_law_365 : decode cL_law 365 = .ok (.iload 5, 2) := by decide +kernel
theorem dL_law_367 : decode cL_law 367 = .ok (.if_icmp .eq 5, 3) := by decide +kernel
theorem dL_law_370 : decode cL_law 370 = .ok (.iconst 0, 1) := by decide +kernel
theorem dL_law_371 : decode cL_law 371 = .ok (.ireturn, 1) := by decide +kernel
theorem dL_law_372 : decode cL_law 372 = .ok (.iload 5, 2) := by decide +kernel
theorem dL_law_374 : decode cL_law 374 = .ok (.ifCond .ne 22, 3) := by decide +kernel
theorem dL_law_377 : decode cL_law 377 = .ok (.aload_n 3, 1) := by decide +kernel
theorem dL_law_378 : decode cL_law 378 = .ok (.iconst 0, 1) := by decide +kernel
theorem dL_law_379 : decode cL_law 379 = .ok (.laload, 1) := by decide +kernel
theorem dL_law_380 : decode cL_law 380 = .ok (.iload 6, 2) := by decide +kernel
theorem dL_law_382 : decode cL_law 382 = .ok (.ifCond .eq 7, 3) := by decide +kernel
theorem dL_law_385 : decode cL_law 385 = .ok (.lconst 1, 1) := by decide +kernel
theorem dL_law_386 : decode cL_law 386 = .ok (.goto 4, 3) := by decide +kernel
theorem dL_law_389 : decode cL_law 389 = .ok (.lconst 0, 1) := by decide +kernel
theorem dL_law_390 : decode cL_law 390 = .ok (.lcmp, 1) := by decide +kernel
theorem dL_law_391 : decode cL_law 391 = .ok (.ifCond .eq 5, 3) := by decide +kernel
theorem dL_law_394 : decode cL_law 394 = .ok (.iconst 0, 1) := by decide +kernel
theorem dL_law_395 : decode cL_law 395 = .ok (.ireturn, 1) := by decide +kernel
theorem dL_law_396 : decode cL_law 396 = .ok (.goto 784, 3) := by decide +kernel
theorem dL_law_399 : decode cL_law 399 = .ok (.aload_n 1, 1) := by decide +kernel
theorem dL_law_400 : decode cL_law 400 = .ok (.aload_n 0, 1) := by decide +kernel
theorem dL_law_401 : decode cL_law 401 = .ok (.iload 4, 2) := by decide +kernel
theorem dL_law_403 : decode cL_law 403 = .ok (.iconst 1, 1) := by decide +kernel
theorem dL_law_404 : decode cL_law 404 = .ok (.iadd, 1) := by decide +kernel
theorem dL_law_405 : decode cL_law 405 = .ok (.iaload, 1) := by decide +kernel
theorem dL_law_406 : decode cL_law 406 = .ok (.aload_n 0, 1) := by decide +kernel
theorem dL_law_407 : decode cL_law 407 = .ok (.iload 4, 2) := by decide +kernel
theorem dL_law_409 : decode cL_law 409 = .ok (.iconst 2, 1) := by decide +kernel
theorem dL_law_410 : decode cL_law 410 = .ok (.iadd, 1) := by decide +kernel
theorem dL_law_411 : decode cL_law 411 = .ok (.iaload, 1) := by decide +kernel
theorem dL_law_412 : decode cL_law 412 = .ok (.aload_n 3, 1) := by decide +kernel
theorem dL_law_413 : decode cL_law 413 = .ok (.invokestatic 103, 3) := by decide +kernel
theorem dL_law_416 : decode cL_law 416 = .ok (.istore 5, 2) := by decide +kernel
theorem dL_law_418 : decode cL_law 418 = .ok (.aload_n 2, 1) := by decide +kernel
theorem dL_law_419 : decode cL_law 419 = .ok (.aload_n 0, 1) := by decide +kernel
theorem dL_law_420 : decode cL_law 420 = .ok (.iload 4, 2) := by decide +kernel
theorem dL_law_422 : decode cL_law 422 = .ok (.iconst 1, 1) := by decide +kernel
theorem dL_law_423 : decode cL_law 423 = .ok (.iadd, 1) := by decide +kernel
theorem dL_law_424 : decode cL_law 424 = .ok (.iaload, 1) := by decide +kernel
theorem dL_law_425 : decode cL_law 425 = .ok (.aload_n 0, 1) := by decide +kernel
theorem dL_law_426 : decode cL_law 426 = .ok (.iload 4, 2) := by decide +kernel
theorem dL_law_428 : decode cL_law 428 = .ok (.iconst 2, 1) := by decide +kernel
theorem dL_law_429 : decode cL_law 429 = .ok (.iadd, 1) := by decide +kernel
theorem dL_law_430 : decode cL_law 430 = .ok (.iaload, 1) := by decide +kernel
theorem dL_law_431 : decode cL_law 431 = .ok (.invokevirtual 106, 3) := by decide +kernel
theorem dL_law_434 : decode cL_law 434 = .ok (.lstore 6, 2) := by decide +kernel
theorem dL_law_436 : decode cL_law 436 = .ok (.aload_n 2, 1) := by decide +kernel
theorem dL_law_437 : decode cL_law 437 = .ok (.invokevirtual 87, 3) := by decide +kernel
theorem dL_law_440 : decode cL_law 440 = .ok (.iload 5, 2) := by decide +kernel
theorem dL_law_442 : decode cL_law 442 = .ok (.if_icmp .eq 5, 3) := by decide +kernel
theorem dL_law_445 : decode cL_law 445 = .ok (.iconst 0, 1) := by decide +kernel
theorem dL_law_446 : decode cL_law 446 = .ok (.ireturn, 1) := by decide +kernel
theorem dL_law_447 : decode cL_law 447 = .ok (.iload 5, 2) := by decide +kernel
theorem dL_law_449 : decode cL_law 449 = .ok (.ifCond .ne 14, 3) := by decide +kernel
theorem dL_law_452 : decode cL_law 452 = .ok (.aload_n 3, 1) := by decide +kernel
theorem dL_law_453 : decode cL_law 453 = .ok (.iconst 0, 1) := by decide +kernel
theorem dL_law_454 : decode cL_law 454 = .ok (.laload, 1) := by decide +kernel
theorem dL_law_455 : decode cL_law 455 = .ok (.lload 6, 2) := by decide +kernel
theorem dL_law_457 : decode cL_law 457 = .ok (.lcmp, 1) := by decide +kernel
theorem dL_law_458 : decode cL_law 458 = .ok (.ifCond .eq 5, 3) := by decide +kernel
theorem dL_law_461 : decode cL_law 461 = .ok (.iconst 0, 1) := by decide +kernel
theorem dL_law_462 : decode cL_law 462 = .ok (.ireturn, 1) := by decide +kernel
theorem dL_law_463 : decode cL_law 463 = .ok (.goto 717, 3) := by decide +kernel
theorem dL_law_466 : decode cL_law 466 = .ok (.aload_n 1, 1) := by decide +kernel
theorem dL_law_467 : decode cL_law 467 = .ok (.aload_n 0, 1) := by decide +kernel
theorem dL_law_468 : decode cL_law 468 = .ok (.iload 4, 2) := by decide +kernel
theorem dL_law_470 : decode cL_law 470 = .ok (.iconst 1, 1) := by decide +kernel
theorem dL_law_471 : decode cL_law 471 = .ok (.iadd, 1) := by decide +kernel
theorem dL_law_472 : decode cL_law 472 = .ok (.iaload, 1) := by decide +kernel
theorem dL_law_473 : decode cL_law 473 = .ok (.aload_n 3, 1) := by decide +kernel
theorem dL_law_474 : decode cL_law 474 = .ok (.invokestatic 107, 3) := by decide +kernel
theorem dL_law_477 : decode cL_law 477 = .ok (.istore 5, 2) := by decide +kernel
theorem dL_law_479 : decode cL_law 479 = .ok (.aload_n 2, 1) := by decide +kernel
theorem dL_law_480 : decode cL_law 480 = .ok (.aload_n 0, 1) := by decide +kernel
theorem dL_law_481 : decode cL_law 481 = .ok (.iload 4, 2) := by decide +kernel
theorem dL_law_483 : decode cL_law 483 = .ok (.iconst 1, 1) := by decide +kernel
theorem dL_law_484 : decode cL_law 484 = .ok (.iadd, 1) := by decide +kernel
theorem dL_law_485 : decode cL_law 485 = .ok (.iaload, 1) := by decide +kernel
theorem dL_law_486 : decode cL_law 486 = .ok (.invokevirtual 109, 3) := by decide +kernel
theorem dL_law_489 : decode cL_law 489 = .ok (.istore 6, 2) := by decide +kernel
theorem dL_law_491 : decode cL_law 491 = .ok (.aload_n 2, 1) := by decide +kernel
theorem dL_law_492 : decode cL_law 492 = .ok (.invokevirtual 87, 3) := by decide +kernel
theorem dL_law_495 : decode cL_law 495 = .ok (.iload 5, 2) := by decide +kernel
theorem dL_law_497 : decode cL_law 497 = .ok (.if_icmp .eq 5, 3) := by decide +kernel
theorem dL_law_500 : decode cL_law 500 = .ok (.iconst 0, 1) := by decide +kernel
theorem dL_law_501 : decode cL_law 501 = .ok (.ireturn, 1) := by decide +kernel
theorem dL_law_502 : decode cL_law 502 = .ok (.iload 5, 2) := by decide +kernel
theorem dL_law_504 : decode cL_law 504 = .ok (.ifCond .ne 22, 3) := by decide +kernel
theorem dL_law_507 : decode cL_law 507 = .ok (.aload_n 3, 1) := by decide +kernel
theorem dL_law_508 : decode cL_law 508 = .ok (.iconst 0, 1) := by decide +kernel
theorem dL_law_509 : decode cL_law 509 = .ok (.laload, 1) := by decide +kernel
theorem dL_law_510 : decode cL_law 510 = .ok (.iload 6, 2) := by decide +kernel
theorem dL_law_512 : decode cL_law 512 = .ok (.ifCond .eq 7, 3) := by decide +kernel
theorem dL_law_515 : decode cL_law 515 = .ok (.lconst 1, 1) := by decide +kernel
theorem dL_law_516 : decode cL_law 516 = .ok (.goto 4, 3) := by decide +kernel
theorem dL_law_519 : decode cL_law 519 = .ok (.lconst 0, 1) := by decide +kernel
theorem dL_law_520 : decode cL_law 520 = .ok (.lcmp, 1) := by decide +kernel
theorem dL_law_521 : decode cL_law 521 = .ok (.ifCond .eq 5, 3) := by decide +kernel
theorem dL_law_524 : decode cL_law 524 = .ok (.iconst 0, 1) := by decide +kernel
theorem dL_law_525 : decode cL_law 525 = .ok (.ireturn, 1) := by decide +kernel
theorem dL_law_526 : decode cL_law 526 = .ok (.goto 654, 3) := by decide +kernel
theorem dL_law_529 : decode cL_law 529 = .ok (.aload_n 1, 1) := by decide +kernel
theorem dL_law_530 : decode cL_law 530 = .ok (.aload_n 3, 1) := by decide +kernel
theorem dL_law_531 : decode cL_law 531 = .ok (.invokestatic 110, 3) := by decide +kernel
theorem dL_law_534 : decode cL_law 534 = .ok (.istore 5, 2) := by decide +kernel
theorem dL_law_536 : decode cL_law 536 = .ok (.aload_n 2, 1) := by decide +kernel
theorem dL_law_537 : decode cL_law 537 = .ok (.invokevirtual 112, 3) := by decide +kernel
theorem dL_law_540 : decode cL_law 540 = .ok (.istore 6, 2) := by decide +kernel
theorem dL_law_542 : decode cL_law 542 = .ok (.aload_n 2, 1) := by decide +kernel
theorem dL_law_543 : decode cL_law 543 = .ok (.invokevirtual 87, 3) := by decide +kernel
theorem dL_law_546 : decode cL_law 546 = .ok (.iload 5, 2) := by decide +kernel
theorem dL_law_548 : decode cL_law 548 = .ok (.if_icmp .eq 5, 3) := by decide +kernel
theorem dL_law_551 : decode cL_law 551 = .ok (.iconst 0, 1) := by decide +kernel
theorem dL_law_552 : decode cL_law 552 = .ok (.ireturn, 1) := by decide +kernel
theorem dL_law_553 : decode cL_law 553 = .ok (.iload 5, 2) := by decide +kernel
theorem dL_law_555 : decode cL_law 555 = .ok (.ifCond .ne 15, 3) := by decide +kernel
theorem dL_law_558 : decode cL_law 558 = .ok (.aload_n 3, 1) := by decide +kernel
theorem dL_law_559 : decode cL_law 559 = .ok (.iconst 0, 1) := by decide +kernel
theorem dL_law_560 : decode cL_law 560 = .ok (.laload, 1) := by decide +kernel
theorem dL_law_561 : decode cL_law 561 = .ok (.iload 6, 2) := by decide +kernel
theorem dL_law_563 : decode cL_law 563 = .ok (.i2l, 1) := by decide +kernel
theorem dL_law_564 : decode cL_law 564 = .ok (.lcmp, 1) := by decide +kernel
theorem dL_law_565 : decode cL_law 565 = .ok (.ifCond .eq 5, 3) := by decide +kernel
theorem dL_law_568 : decode cL_law 568 = .ok (.iconst 0, 1) := by decide +kernel
theorem dL_law_569 : decode cL_law 569 = .ok (.ireturn, 1) := by decide +kernel
theorem dL_law_570 : decode cL_law 570 = .ok (.goto 610, 3) := by decide +kernel
theorem dL_law_573 : decode cL_law 573 = .ok (.aload_n 1, 1) := by decide +kernel
theorem dL_law_574 : decode cL_law 574 = .ok (.aload_n 0, 1) := by decide +kernel
theorem dL_law_575 : decode cL_law 575 = .ok (.iload 4, 2) := by decide +kernel
theorem dL_law_577 : decode cL_law 577 = .ok (.iconst 1, 1) := by decide +kernel
theorem dL_law_578 : decode cL_law 578 = .ok (.iadd, 1) := by decide +kernel
theorem dL_law_579 : decode cL_law 579 = .ok (.iaload, 1) := by decide +kernel
theorem dL_law_580 : decode cL_law 580 = .ok (.ifCond .eq 7, 3) := by decide +kernel
theorem dL_law_583 : decode cL_law 583 = .ok (.iconst 1, 1) := by decide +kernel
theorem dL_law_584 : decode cL_law 584 = .ok (.goto 4, 3) := by decide +kernel
theorem dL_law_587 : decode cL_law 587 = .ok (.iconst 0, 1) := by decide +kernel
theorem dL_law_588 : decode cL_law 588 = .ok (.aload_n 3, 1) := by decide +kernel
theorem dL_law_589 : decode cL_law 589 = .ok (.invokestatic 113, 3) := by decide +kernel
theorem dL_law_592 : decode cL_law 592 = .ok (.istore 5, 2) := by decide +kernel
theorem dL_law_594 : decode cL_law 594 = .ok (.aload_n 2, 1) := by decide +kernel
theorem dL_law_595 : decode cL_law 595 = .ok (.aload_n 0, 1) := by decide +kernel
theorem dL_law_596 : decode cL_law 596 = .ok (.iload 4, 2) := by decide +kernel
theorem dL_law_598 : decode cL_law 598 = .ok (.iconst 1, 1) := by decide +kernel
theorem dL_law_599 : decode cL_law 599 = .ok (.iadd, 1) := by decide +kernel
theorem dL_law_600 : decode cL_law 600 = .ok (.iaload, 1) := by decide +kernel
theorem dL_law_601 : decode cL_law 601 = .ok (.ifCond .eq 7, 3) := by decide +kernel
theorem dL_law_604 : decode cL_law 604 = .ok (.iconst 1, 1) := by decide +kernel
theorem dL_law_605 : decode cL_law 605 = .ok (.goto 4, 3) := by decide +kernel
theorem dL_law_608 : decode cL_law 608 = .ok (.iconst 0, 1) := by decide +kernel
theorem dL_law_609 : decode cL_law 609 = .ok (.invokevirtual 116, 3) := by decide +kernel
theorem dL_law_612 : decode cL_law 612 = .ok (.istore 6, 2) := by decide +kernel
theorem dL_law_614 : decode cL_law 614 = .ok (.aload_n 2, 1) := by decide +kernel
theorem dL_law_615 : decode cL_law 615 = .ok (.invokevirtual 87, 3) := by decide +kernel
theorem dL_law_618 : decode cL_law 618 = .ok (.iload 5, 2) := by decide +kernel
theorem dL_law_620 : decode cL_law 620 = .ok (.if_icmp .eq 5, 3) := by decide +kernel
theorem dL_law_623 : decode cL_law 623 = .ok (.iconst 0, 1) := by decide +kernel
theorem dL_law_624 : decode cL_law 624 = .ok (.ireturn, 1) := by decide +kernel
theorem dL_law_625 : decode cL_law 625 = .ok (.iload 5, 2) := by decide +kernel
theorem dL_law_627 : decode cL_law 627 = .ok (.ifCond .ne 15, 3) := by decide +kernel
theorem dL_law_630 : decode cL_law 630 = .ok (.aload_n 3, 1) := by decide +kernel
theorem dL_law_631 : decode cL_law 631 = .ok (.iconst 0, 1) := by decide +kernel
theorem dL_law_632 : decode cL_law 632 = .ok (.laload, 1) := by decide +kernel
theorem dL_law_633 : decode cL_law 633 = .ok (.iload 6, 2) := by decide +kernel
theorem dL_law_635 : decode cL_law 635 = .ok (.i2l, 1) := by decide +kernel
theorem dL_law_636 : decode cL_law 636 = .ok (.lcmp, 1) := by decide +kernel
theorem dL_law_637 : decode cL_law 637 = .ok (.ifCond .eq 5, 3) := by decide +kernel
theorem dL_law_640 : decode cL_law 640 = .ok (.iconst 0, 1) := by decide +kernel
theorem dL_law_641 : decode cL_law 641 = .ok (.ireturn, 1) := by decide +kernel
theorem dL_law_642 : decode cL_law 642 = .ok (.goto 538, 3) := by decide +kernel
theorem dL_law_645 : decode cL_law 645 = .ok (.aload_n 1, 1) := by decide +kernel
theorem dL_law_646 : decode cL_law 646 = .ok (.aload_n 3, 1) := by decide +kernel
theorem dL_law_647 : decode cL_law 647 = .ok (.invokestatic 117, 3) := by decide +kernel
theorem dL_law_650 : decode cL_law 650 = .ok (.istore 5, 2) := by decide +kernel
theorem dL_law_652 : decode cL_law 652 = .ok (.aload_n 2, 1) := by decide +kernel
theorem dL_law_653 : decode cL_law 653 = .ok (.invokevirtual 119, 3) := by decide +kernel
theorem dL_law_656 : decode cL_law 656 = .ok (.istore 6, 2) := by decide +kernel
theorem dL_law_658 : decode cL_law 658 = .ok (.aload_n 2, 1) := by decide +kernel
theorem dL_law_659 : decode cL_law 659 = .ok (.invokevirtual 87, 3) := by decide +kernel
theorem dL_law_662 : decode cL_law 662 = .ok (.iload 5, 2) := by decide +kernel
theorem dL_law_664 : decode cL_law 664 = .ok (.if_icmp .eq 5, 3) := by decide +kernel
theorem dL_law_667 : decode cL_law 667 = .ok (.iconst 0, 1) := by decide +kernel
theorem dL_law_668 : decode cL_law 668 = .ok (.ireturn, 1) := by decide +kernel
theorem dL_law_669 : decode cL_law 669 = .ok (.iload 5, 2) := by decide +kernel
theorem dL_law_671 : decode cL_law 671 = .ok (.ifCond .ne 15, 3) := by decide +kernel
theorem dL_law_674 : decode cL_law 674 = .ok (.aload_n 3, 1) := by decide +kernel
theorem dL_law_675 : decode cL_law 675 = .ok (.iconst 0, 1) := by decide +kernel
theorem dL_law_676 : decode cL_law 676 = .ok (.laload, 1) := by decide +kernel
theorem dL_law_677 : decode cL_law 677 = .ok (.iload 6, 2) := by decide +kernel
theorem dL_law_679 : decode cL_law 679 = .ok (.i2l, 1) := by decide +kernel
theorem dL_law_680 : decode cL_law 680 = .ok (.lcmp, 1) := by decide +kernel
theorem dL_law_681 : decode cL_law 681 = .ok (.ifCond .eq 5, 3) := by decide +kernel
theorem dL_law_684 : decode cL_law 684 = .ok (.iconst 0, 1) := by decide +kernel
theorem dL_law_685 : decode cL_law 685 = .ok (.ireturn, 1) := by decide +kernel
theorem dL_law_686 : decode cL_law 686 = .ok (.goto 494, 3) := by decide +kernel
theorem dL_law_689 : decode cL_law 689 = .ok (.aload_n 1, 1) := by decide +kernel
theorem dL_law_690 : decode cL_law 690 = .ok (.aload_n 3, 1) := by decide +kernel
theorem dL_law_691 : decode cL_law 691 = .ok (.invokestatic 120, 3) := by decide +kernel
theorem dL_law_694 : decode cL_law 694 = .ok (.istore 5, 2) := by decide +kernel
theorem dL_law_696 : decode cL_law 696 = .ok (.aload_n 2, 1) := by decide +kernel
theorem dL_law_697 : decode cL_law 697 = .ok (.invokevirtual 122, 3) := by decide +kernel
theorem dL_law_700 : decode cL_law 700 = .ok (.istore 6, 2) := by decide +kernel
theorem dL_law_702 : decode cL_law 702 = .ok (.aload_n 2, 1) := by decide +kernel
theorem dL_law_703 : decode cL_law 703 = .ok (.invokevirtual 87, 3) := by decide +kernel
theorem dL_law_706 : decode cL_law 706 = .ok (.iload 5, 2) := by decide +kernel
theorem dL_law_708 : decode cL_law 708 = .ok (.if_icmp .eq 5, 3) := by decide +kernel
theorem dL_law_711 : decode cL_law 711 = .ok (.iconst 0, 1) := by decide +kernel
theorem dL_law_712 : decode cL_law 712 = .ok (.ireturn, 1) := by decide +kernel
theorem dL_law_713 : decode cL_law 713 = .ok (.iload 5, 2) := by decide +kernel
theorem dL_law_715 : decode cL_law 715 = .ok (.ifCond .ne 15, 3) := by decide +kernel
theorem dL_law_718 : decode cL_law 718 = .ok (.aload_n 3, 1) := by decide +kernel
theorem dL_law_719 : decode cL_law 719 = .ok (.iconst 0, 1) := by decide +kernel
theorem dL_law_720 : decode cL_law 720 = .ok (.laload, 1) := by decide +kernel
theorem dL_law_721 : decode cL_law 721 = .ok (.iload 6, 2) := by decide +kernel
theorem dL_law_723 : decode cL_law 723 = .ok (.i2l, 1) := by decide +kernel
theorem dL_law_724 : decode cL_law 724 = .ok (.lcmp, 1) := by decide +kernel
theorem dL_law_725 : decode cL_law 725 = .ok (.ifCond .eq 5, 3) := by decide +kernel
theorem dL_law_728 : decode cL_law 728 = .ok (.iconst 0, 1) := by decide +kernel
theorem dL_law_729 : decode cL_law 729 = .ok (.ireturn, 1) := by decide +kernel
theorem dL_law_730 : decode cL_law 730 = .ok (.goto 450, 3) := by decide +kernel
theorem dL_law_733 : decode cL_law 733 = .ok (.aload_n 1, 1) := by decide +kernel
theorem dL_law_734 : decode cL_law 734 = .ok (.aload_n 3, 1) := by decide +kernel
theorem dL_law_735 : decode cL_law 735 = .ok (.invokestatic 123, 3) := by decide +kernel
theorem dL_law_738 : decode cL_law 738 = .ok (.istore 5, 2) := by decide +kernel
theorem dL_law_740 : decode cL_law 740 = .ok (.aload_n 2, 1) := by decide +kernel
theorem dL_law_741 : decode cL_law 741 = .ok (.invokevirtual 125, 3) := by decide +kernel
theorem dL_law_744 : decode cL_law 744 = .ok (.istore 6, 2) := by decide +kernel
theorem dL_law_746 : decode cL_law 746 = .ok (.aload_n 2, 1) := by decide +kernel
theorem dL_law_747 : decode cL_law 747 = .ok (.invokevirtual 87, 3) := by decide +kernel
theorem dL_law_750 : decode cL_law 750 = .ok (.iload 5, 2) := by decide +kernel
theorem dL_law_752 : decode cL_law 752 = .ok (.if_icmp .eq 5, 3) := by decide +kernel
theorem dL_law_755 : decode cL_law 755 = .ok (.iconst 0, 1) := by decide +kernel
theorem dL_law_756 : decode cL_law 756 = .ok (.ireturn, 1) := by decide +kernel
theorem dL_law_757 : decode cL_law 757 = .ok (.iload 5, 2) := by decide +kernel
theorem dL_law_759 : decode cL_law 759 = .ok (.ifCond .ne 15, 3) := by decide +kernel
theorem dL_law_762 : decode cL_law 762 = .ok (.aload_n 3, 1) := by decide +kernel
theorem dL_law_763 : decode cL_law 763 = .ok (.iconst 0, 1) := by decide +kernel
theorem dL_law_764 : decode cL_law 764 = .ok (.laload, 1) := by decide +kernel
theorem dL_law_765 : decode cL_law 765 = .ok (.iload 6, 2) := by decide +kernel
theorem dL_law_767 : decode cL_law 767 = .ok (.i2l, 1) := by decide +kernel
theorem dL_law_768 : decode cL_law 768 = .ok (.lcmp, 1) := by decide +kernel
theorem dL_law_769 : decode cL_law 769 = .ok (.ifCond .eq 5, 3) := by decide +kernel
theorem dL_law_772 : decode cL_law 772 = .ok (.iconst 0, 1) := by decide +kernel
theorem dL_law_773 : decode cL_law 773 = .ok (.ireturn, 1) := by decide +kernel
theorem dL_law_774 : decode cL_law 774 = .ok (.goto 406, 3) := by decide +kernel
theorem dL_law_777 : decode cL_law 777 = .ok (.aload_n 1, 1) := by decide +kernel
theorem dL_law_778 : decode cL_law 778 = .ok (.aload_n 0, 1) := by decide +kernel
theorem dL_law_779 : decode cL_law 779 = .ok (.iload 4, 2) := by decide +kernel
theorem dL_law_781 : decode cL_law 781 = .ok (.iconst 1, 1) := by decide +kernel
theorem dL_law_782 : decode cL_law 782 = .ok (.iadd, 1) := by decide +kernel
theorem dL_law_783 : decode cL_law 783 = .ok (.iaload, 1) := by decide +kernel
theorem dL_law_784 : decode cL_law 784 = .ok (.aload_n 0, 1) := by decide +kernel
theorem dL_law_785 : decode cL_law 785 = .ok (.iload 4, 2) := by decide +kernel
theorem dL_law_787 : decode cL_law 787 = .ok (.iconst 2, 1) := by decide +kernel
theorem dL_law_788 : decode cL_law 788 = .ok (.iadd, 1) := by decide +kernel
theorem dL_law_789 : decode cL_law 789 = .ok (.iaload, 1) := by decide +kernel
theorem dL_law_790 : decode cL_law 790 = .ok (.aload_n 3, 1) := by decide +kernel
theorem dL_law_791 : decode cL_law 791 = .ok (.invokestatic 126, 3) := by decide +kernel
theorem dL_law_794 : decode cL_law 794 = .ok (.istore 5, 2) := by decide +kernel
theorem dL_law_796 : decode cL_law 796 = .ok (.aload_n 2, 1) := by decide +kernel
theorem dL_law_797 : decode cL_law 797 = .ok (.aload_n 0, 1) := by decide +kernel
theorem dL_law_798 : decode cL_law 798 = .ok (.iload 4, 2) := by decide +kernel
theorem dL_law_800 : decode cL_law 800 = .ok (.iconst 1, 1) := by decide +kernel
theorem dL_law_801 : decode cL_law 801 = .ok (.iadd, 1) := by decide +kernel
theorem dL_law_802 : decode cL_law 802 = .ok (.iaload, 1) := by decide +kernel
theorem dL_law_803 : decode cL_law 803 = .ok (.aload_n 0, 1) := by decide +kernel
theorem dL_law_804 : decode cL_law 804 = .ok (.iload 4, 2) := by decide +kernel
theorem dL_law_806 : decode cL_law 806 = .ok (.iconst 2, 1) := by decide +kernel
theorem dL_law_807 : decode cL_law 807 = .ok (.iadd, 1) := by decide +kernel
theorem dL_law_808 : decode cL_law 808 = .ok (.iaload, 1) := by decide +kernel
theorem dL_law_809 : decode cL_law 809 = .ok (.invokevirtual 128, 3) := by decide +kernel
theorem dL_law_812 : decode cL_law 812 = .ok (.istore 6, 2) := by decide +kernel
theorem dL_law_814 : decode cL_law 814 = .ok (.aload_n 2, 1) := by decide +kernel
theorem dL_law_815 : decode cL_law 815 = .ok (.invokevirtual 87, 3) := by decide +kernel
theorem dL_law_818 : decode cL_law 818 = .ok (.iload 5, 2) := by decide +kernel
theorem dL_law_820 : decode cL_law 820 = .ok (.if_icmp .eq 5, 3) := by decide +kernel
theorem dL_law_823 : decode cL_law 823 = .ok (.iconst 0, 1) := by decide +kernel
theorem dL_law_824 : decode cL_law 824 = .ok (.ireturn, 1) := by decide +kernel
theorem dL_law_825 : decode cL_law 825 = .ok (.iload 5, 2) := by decide +kernel
theorem dL_law_827 : decode cL_law 827 = .ok (.ifCond .ne 15, 3) := by decide +kernel
theorem dL_law_830 : decode cL_law 830 = .ok (.aload_n 3, 1) := by decide +kernel
theorem dL_law_831 : decode cL_law 831 = .ok (.iconst 0, 1) := by decide +kernel
theorem dL_law_832 : decode cL_law 832 = .ok (.laload, 1) := by decide +kernel
theorem dL_law_833 : decode cL_law 833 = .ok (.iload 6, 2) := by decide +kernel
theorem dL_law_835 : decode cL_law 835 = .ok (.i2l, 1) := by decide +kernel
theorem dL_law_836 : decode cL_law 836 = .ok (.lcmp, 1) := by decide +kernel
theorem dL_law_837 : decode cL_law 837 = .ok (.ifCond .eq 5, 3) := by decide +kernel
theorem dL_law_840 : decode cL_law 840 = .ok (.iconst 0, 1) := by decide +kernel
theorem dL_law_841 : decode cL_law 841 = .ok (.ireturn, 1) := by decide +kernel
theorem dL_law_842 : decode cL_law 842 = .ok (.goto 338, 3) := by decide +kernel
theorem dL_law_845 : decode cL_law 845 = .ok (.aload_n 1, 1) := by decide +kernel
theorem dL_law_846 : decode cL_law 846 = .ok (.aload_n 0, 1) := by decide +kernel
theorem dL_law_847 : decode cL_law 847 = .ok (.iload 4, 2) := by decide +kernel
theorem dL_law_849 : decode cL_law 849 = .ok (.iconst 1, 1) := by decide +kernel
theorem dL_law_850 : decode cL_law 850 = .ok (.iadd, 1) := by decide +kernel
theorem dL_law_851 : decode cL_law 851 = .ok (.iaload, 1) := by decide +kernel
theorem dL_law_852 : decode cL_law 852 = .ok (.aload_n 3, 1) := by decide +kernel
theorem dL_law_853 : decode cL_law 853 = .ok (.invokestatic 129, 3) := by decide +kernel
theorem dL_law_856 : decode cL_law 856 = .ok (.istore 5, 2) := by decide +kernel
theorem dL_law_858 : decode cL_law 858 = .ok (.aload_n 2, 1) := by decide +kernel
theorem dL_law_859 : decode cL_law 859 = .ok (.aload_n 0, 1) := by decide +kernel
theorem dL_law_860 : decode cL_law 860 = .ok (.iload 4, 2) := by decide +kernel
theorem dL_law_862 : decode cL_law 862 = .ok (.iconst 1, 1) := by decide +kernel
theorem dL_law_863 : decode cL_law 863 = .ok (.iadd, 1) := by decide +kernel
theorem dL_law_864 : decode cL_law 864 = .ok (.iaload, 1) := by decide +kernel
theorem dL_law_865 : decode cL_law 865 = .ok (.invokevirtual 131, 3) := by decide +kernel
theorem dL_law_868 : decode cL_law 868 = .ok (.istore 6, 2) := by decide +kernel
theorem dL_law_870 : decode cL_law 870 = .ok (.aload_n 2, 1) := by decide +kernel
theorem dL_law_871 : decode cL_law 871 = .ok (.invokevirtual 87, 3) := by decide +kernel
theorem dL_law_874 : decode cL_law 874 = .ok (.iload 5, 2) := by decide +kernel
theorem dL_law_876 : decode cL_law 876 = .ok (.if_icmp .eq 5, 3) := by decide +kernel
theorem dL_law_879 : decode cL_law 879 = .ok (.iconst 0, 1) := by decide +kernel
theorem dL_law_880 : decode cL_law 880 = .ok (.ireturn, 1) := by decide +kernel
theorem dL_law_881 : decode cL_law 881 = .ok (.iload 5, 2) := by decide +kernel
theorem dL_law_883 : decode cL_law 883 = .ok (.ifCond .ne 15, 3) := by decide +kernel
theorem dL_law_886 : decode cL_law 886 = .ok (.aload_n 3, 1) := by decide +kernel
theorem dL_law_887 : decode cL_law 887 = .ok (.iconst 0, 1) := by decide +kernel
theorem dL_law_888 : decode cL_law 888 = .ok (.laload, 1) := by decide +kernel
theorem dL_law_889 : decode cL_law 889 = .ok (.iload 6, 2) := by decide +kernel
theorem dL_law_891 : decode cL_law 891 = .ok (.i2l, 1) := by decide +kernel
theorem dL_law_892 : decode cL_law 892 = .ok (.lcmp, 1) := by decide +kernel
theorem dL_law_893 : decode cL_law 893 = .ok (.ifCond .eq 5, 3) := by decide +kernel
theorem dL_law_896 : decode cL_law 896 = .ok (.iconst 0, 1) := by decide +kernel
theorem dL_law_897 : decode cL_law 897 = .ok (.ireturn, 1) := by decide +kernel
theorem dL_law_898 : decode cL_law 898 = .ok (.goto 282, 3) := by decide +kernel
theorem dL_law_901 : decode cL_law 901 = .ok (.aload_n 1, 1) := by decide +kernel
theorem dL_law_902 : decode cL_law 902 = .ok (.aload_n 3, 1) := by decide +kernel
theorem dL_law_903 : decode cL_law 903 = .ok (.invokestatic 132, 3) := by decide +kernel
theorem dL_law_906 : decode cL_law 906 = .ok (.istore 5, 2) := by decide +kernel
theorem dL_law_908 : decode cL_law 908 = .ok (.aload_n 2, 1) := by decide +kernel
theorem dL_law_909 : decode cL_law 909 = .ok (.invokevirtual 134, 3) := by decide +kernel
theorem dL_law_912 : decode cL_law 912 = .ok (.istore 6, 2) := by decide +kernel
theorem dL_law_914 : decode cL_law 914 = .ok (.aload_n 2, 1) := by decide +kernel
theorem dL_law_915 : decode cL_law 915 = .ok (.invokevirtual 87, 3) := by decide +kernel
theorem dL_law_918 : decode cL_law 918 = .ok (.iload 5, 2) := by decide +kernel
theorem dL_law_920 : decode cL_law 920 = .ok (.if_icmp .eq 5, 3) := by decide +kernel
theorem dL_law_923 : decode cL_law 923 = .ok (.iconst 0, 1) := by decide +kernel
theorem dL_law_924 : decode cL_law 924 = .ok (.ireturn, 1) := by decide +kernel
theorem dL_law_925 : decode cL_law 925 = .ok (.iload 5, 2) := by decide +kernel
theorem dL_law_927 : decode cL_law 927 = .ok (.ifCond .ne 15, 3) := by decide +kernel
theorem dL_law_930 : decode cL_law 930 = .ok (.aload_n 3, 1) := by decide +kernel
theorem dL_law_931 : decode cL_law 931 = .ok (.iconst 0, 1) := by decide +kernel
theorem dL_law_932 : decode cL_law 932 = .ok (.laload, 1) := by decide +kernel
theorem dL_law_933 : decode cL_law 933 = .ok (.iload 6, 2) := by decide +kernel
theorem dL_law_935 : decode cL_law 935 = .ok (.i2l, 1) := by decide +kernel
theorem dL_law_936 : decode cL_law 936 = .ok (.lcmp, 1) := by decide +kernel
theorem dL_law_937 : decode cL_law 937 = .ok (.ifCond .eq 5, 3) := by decide +kernel
theorem dL_law_940 : decode cL_law 940 = .ok (.iconst 0, 1) := by decide +kernel
theorem dL_law_941 : decode cL_law 941 = .ok (.ireturn, 1) := by decide +kernel
theorem dL_law_942 : decode cL_law 942 = .ok (.goto 238, 3) := by decide +kernel
theorem dL_law_945 : decode cL_law 945 = .ok (.aload_n 1, 1) := by decide +kernel
theorem dL_law_946 : decode cL_law 946 = .ok (.aload_n 0, 1) := by decide +kernel
theorem dL_law_947 : decode cL_law 947 = .ok (.iload 4, 2) := by decide +kernel
theorem dL_law_949 : decode cL_law 949 = .ok (.iconst 1, 1) := by decide +kernel
theorem dL_law_950 : decode cL_law 950 = .ok (.iadd, 1) := by decide +kernel
theorem dL_law_951 : decode cL_law 951 = .ok (.iaload, 1) := by decide +kernel
theorem dL_law_952 : decode cL_law 952 = .ok (.aload_n 3, 1) := by decide +kernel
theorem dL_law_953 : decode cL_law 953 = .ok (.invokestatic 135, 3) := by decide +kernel
theorem dL_law_956 : decode cL_law 956 = .ok (.istore 5, 2) := by decide +kernel
theorem dL_law_958 : decode cL_law 958 = .ok (.aload_n 2, 1) := by decide +kernel
theorem dL_law_959 : decode cL_law 959 = .ok (.aload_n 0, 1) := by decide +kernel
theorem dL_law_960 : decode cL_law 960 = .ok (.iload 4, 2) := by decide +kernel
theorem dL_law_962 : decode cL_law 962 = .ok (.iconst 1, 1) := by decide +kernel
theorem dL_law_963 : decode cL_law 963 = .ok (.iadd, 1) := by decide +kernel
theorem dL_law_964 : decode cL_law 964 = .ok (.iaload, 1) := by decide +kernel
theorem dL_law_965 : decode cL_law 965 = .ok (.invokevirtual 137, 3) := by decide +kernel
theorem dL_law_968 : decode cL_law 968 = .ok (.lstore 6, 2) := by decide +kernel
theorem dL_law_970 : decode cL_law 970 = .ok (.aload_n 2, 1) := by decide +kernel
theorem dL_law_971 : decode cL_law 971 = .ok (.invokevirtual 87, 3) := by decide +kernel
theorem dL_law_974 : decode cL_law 974 = .ok (.iload 5, 2) := by decide +kernel
theorem dL_law_976 : decode cL_law 976 = .ok (.if_icmp .eq 5, 3) := by decide +kernel
theorem dL_law_979 : decode cL_law 979 = .ok (.iconst 0, 1) := by decide +kernel
theorem dL_law_980 : decode cL_law 980 = .ok (.ireturn, 1) := by decide +kernel
theorem dL_law_981 : decode cL_law 981 = .ok (.iload 5, 2) := by decide +kernel
theorem dL_law_983 : decode cL_law 983 = .ok (.ifCond .ne 14, 3) := by decide +kernel
theorem dL_law_986 : decode cL_law 986 = .ok (.aload_n 3, 1) := by decide +kernel
theorem dL_law_987 : decode cL_law 987 = .ok (.iconst 0, 1) := by decide +kernel
theorem dL_law_988 : decode cL_law 988 = .ok (.laload, 1) := by decide +kernel
theorem dL_law_989 : decode cL_law 989 = .ok (.lload 6, 2) := by decide +kernel
theorem dL_law_991 : decode cL_law 991 = .ok (.lcmp, 1) := by decide +kernel
theorem dL_law_992 : decode cL_law 992 = .ok (.ifCond .eq 5, 3) := by decide +kernel
theorem dL_law_995 : decode cL_law 995 = .ok (.iconst 0, 1) := by decide +kernel
theorem dL_law_996 : decode cL_law 996 = .ok (.ireturn, 1) := by decide +kernel
theorem dL_law_997 : decode cL_law 997 = .ok (.goto 183, 3) := by decide +kernel
theorem dL_law_1000 : decode cL_law 1000 = .ok (.aload_n 1, 1) := by decide +kernel
theorem dL_law_1001 : decode cL_law 1001 = .ok (.aload_n 0, 1) := by decide +kernel
theorem dL_law_1002 : decode cL_law 1002 = .ok (.iload 4, 2) := by decide +kernel
theorem dL_law_1004 : decode cL_law 1004 = .ok (.iconst 1, 1) := by decide +kernel
theorem dL_law_1005 : decode cL_law 1005 = .ok (.iadd, 1) := by decide +kernel
theorem dL_law_1006 : decode cL_law 1006 = .ok (.iaload, 1) := by decide +kernel
theorem dL_law_1007 : decode cL_law 1007 = .ok (.aload_n 0, 1) := by decide +kernel
theorem dL_law_1008 : decode cL_law 1008 = .ok (.iload 4, 2) := by decide +kernel
theorem dL_law_1010 : decode cL_law 1010 = .ok (.iconst 2, 1) := by decide +kernel
theorem dL_law_1011 : decode cL_law 1011 = .ok (.iadd, 1) := by decide +kernel
theorem dL_law_1012 : decode cL_law 1012 = .ok (.iaload, 1) := by decide +kernel
theorem dL_law_1013 : decode cL_law 1013 = .ok (.aload_n 3, 1) := by decide +kernel
theorem dL_law_1014 : decode cL_law 1014 = .ok (.invokestatic 138, 3) := by decide +kernel
theorem dL_law_1017 : decode cL_law 1017 = .ok (.istore 5, 2) := by decide +kernel
theorem dL_law_1019 : decode cL_law 1019 = .ok (.aload_n 2, 1) := by decide +kernel
theorem dL_law_1020 : decode cL_law 1020 = .ok (.aload_n 0, 1) := by decide +kernel
theorem dL_law_1021 : decode cL_law 1021 = .ok (.iload 4, 2) := by decide +kernel
theorem dL_law_1023 : decode cL_law 1023 = .ok (.iconst 1, 1) := by decide +kernel
theorem dL_law_1024 : decode cL_law 1024 = .ok (.iadd, 1) := by decide +kernel
theorem dL_law_1025 : decode cL_law 1025 = .ok (.iaload, 1) := by decide +kernel
theorem dL_law_1026 : decode cL_law 1026 = .ok (.aload_n 0, 1) := by decide +kernel
theorem dL_law_1027 : decode cL_law 1027 = .ok (.iload 4, 2) := by decide +kernel
theorem dL_law_1029 : decode cL_law 1029 = .ok (.iconst 2, 1) := by decide +kernel
theorem dL_law_1030 : decode cL_law 1030 = .ok (.iadd, 1) := by decide +kernel
theorem dL_law_1031 : decode cL_law 1031 = .ok (.iaload, 1) := by decide +kernel
theorem dL_law_1032 : decode cL_law 1032 = .ok (.invokevirtual 140, 3) := by decide +kernel
theorem dL_law_1035 : decode cL_law 1035 = .ok (.istore 6, 2) := by decide +kernel
theorem dL_law_1037 : decode cL_law 1037 = .ok (.aload_n 2, 1) := by decide +kernel
theorem dL_law_1038 : decode cL_law 1038 = .ok (.invokevirtual 87, 3) := by decide +kernel
theorem dL_law_1041 : decode cL_law 1041 = .ok (.iload 5, 2) := by decide +kernel
theorem dL_law_1043 : decode cL_law 1043 = .ok (.if_icmp .eq 5, 3) := by decide +kernel
theorem dL_law_1046 : decode cL_law 1046 = .ok (.iconst 0, 1) := by decide +kernel
theorem dL_law_1047 : decode cL_law 1047 = .ok (.ireturn, 1) := by decide +kernel
theorem dL_law_1048 : decode cL_law 1048 = .ok (.iload 5, 2) := by decide +kernel
theorem dL_law_1050 : decode cL_law 1050 = .ok (.ifCond .ne 15, 3) := by decide +kernel
theorem dL_law_1053 : decode cL_law 1053 = .ok (.aload_n 3, 1) := by decide +kernel
theorem dL_law_1054 : decode cL_law 1054 = .ok (.iconst 0, 1) := by decide +kernel
theorem dL_law_1055 : decode cL_law 1055 = .ok (.laload, 1) := by decide +kernel
theorem dL_law_1056 : decode cL_law 1056 = .ok (.iload 6, 2) := by decide +kernel
theorem dL_law_1058 : decode cL_law 1058 = .ok (.i2l, 1) := by decide +kernel
theorem dL_law_1059 : decode cL_law 1059 = .ok (.lcmp, 1) := by decide +kernel
theorem dL_law_1060 : decode cL_law 1060 = .ok (.ifCond .eq 5, 3) := by decide +kernel
theorem dL_law_1063 : decode cL_law 1063 = .ok (.iconst 0, 1) := by decide +kernel
theorem dL_law_1064 : decode cL_law 1064 = .ok (.ireturn, 1) := by decide +kernel
theorem dL_law_1065 : decode cL_law 1065 = .ok (.goto 115, 3) := by decide +kernel
theorem dL_law_1068 : decode cL_law 1068 = .ok (.aload_n 1, 1) := by decide +kernel
theorem dL_law_1069 : decode cL_law 1069 = .ok (.aload_n 0, 1) := by decide +kernel
theorem dL_law_1070 : decode cL_law 1070 = .ok (.iload 4, 2) := by decide +kernel
theorem dL_law_1072 : decode cL_law 1072 = .ok (.iconst 1, 1) := by decide +kernel
theorem dL_law_1073 : decode cL_law 1073 = .ok (.iadd, 1) := by decide +kernel
theorem dL_law_1074 : decode cL_law 1074 = .ok (.iaload, 1) := by decide +kernel
theorem dL_law_1075 : decode cL_law 1075 = .ok (.aload_n 3, 1) := by decide +kernel
theorem dL_law_1076 : decode cL_law 1076 = .ok (.invokestatic 141, 3) := by decide +kernel
theorem dL_law_1079 : decode cL_law 1079 = .ok (.istore 5, 2) := by decide +kernel
theorem dL_law_1081 : decode cL_law 1081 = .ok (.aload_n 2, 1) := by decide +kernel
theorem dL_law_1082 : decode cL_law 1082 = .ok (.aload_n 0, 1) := by decide +kernel
theorem dL_law_1083 : decode cL_law 1083 = .ok (.iload 4, 2) := by decide +kernel
theorem dL_law_1085 : decode cL_law 1085 = .ok (.iconst 1, 1) := by decide +kernel
theorem dL_law_1086 : decode cL_law 1086 = .ok (.iadd, 1) := by decide +kernel
theorem dL_law_1087 : decode cL_law 1087 = .ok (.iaload, 1) := by decide +kernel
theorem dL_law_1088 : decode cL_law 1088 = .ok (.invokevirtual 143, 3) := by decide +kernel
theorem dL_law_1091 : decode cL_law 1091 = .ok (.istore 6, 2) := by decide +kernel
theorem dL_law_1093 : decode cL_law 1093 = .ok (.aload_n 2, 1) := by decide +kernel
theorem dL_law_1094 : decode cL_law 1094 = .ok (.invokevirtual 87, 3) := by decide +kernel
theorem dL_law_1097 : decode cL_law 1097 = .ok (.iload 5, 2) := by decide +kernel
theorem dL_law_1099 : decode cL_law 1099 = .ok (.if_icmp .eq 5, 3) := by decide +kernel
theorem dL_law_1102 : decode cL_law 1102 = .ok (.iconst 0, 1) := by decide +kernel
theorem dL_law_1103 : decode cL_law 1103 = .ok (.ireturn, 1) := by decide +kernel
theorem dL_law_1104 : decode cL_law 1104 = .ok (.iload 5, 2) := by decide +kernel
theorem dL_law_1106 : decode cL_law 1106 = .ok (.ifCond .ne 15, 3) := by decide +kernel
theorem dL_law_1109 : decode cL_law 1109 = .ok (.aload_n 3, 1) := by decide +kernel
theorem dL_law_1110 : decode cL_law 1110 = .ok (.iconst 0, 1) := by decide +kernel
theorem dL_law_1111 : decode cL_law 1111 = .ok (.laload, 1) := by decide +kernel
theorem dL_law_1112 : decode cL_law 1112 = .ok (.iload 6, 2) := by decide +kernel
theorem dL_law_1114 : decode cL_law 1114 = .ok (.i2l, 1) := by decide +kernel
theorem dL_law_1115 : decode cL_law 1115 = .ok (.lcmp, 1) := by decide +kernel
theorem dL_law_1116 : decode cL_law 1116 = .ok (.ifCond .eq 5, 3) := by decide +kernel
theorem dL_law_1119 : decode cL_law 1119 = .ok (.iconst 0, 1) := by decide +kernel
theorem dL_law_1120 : decode cL_law 1120 = .ok (.ireturn, 1) := by decide +kernel
theorem dL_law_1121 : decode cL_law 1121 = .ok (.goto 59, 3) := by decide +kernel
theorem dL_law_1124 : decode cL_law 1124 = .ok (.aload_n 1, 1) := by decide +kernel
theorem dL_law_1125 : decode cL_law 1125 = .ok (.aload_n 0, 1) := by decide +kernel
theorem dL_law_1126 : decode cL_law 1126 = .ok (.iload 4, 2) := by decide +kernel
theorem dL_law_1128 : decode cL_law 1128 = .ok (.iconst 1, 1) := by decide +kernel
theorem dL_law_1129 : decode cL_law 1129 = .ok (.iadd, 1) := by decide +kernel
theorem dL_law_1130 : decode cL_law 1130 = .ok (.iaload, 1) := by decide +kernel
theorem dL_law_1131 : decode cL_law 1131 = .ok (.aload_n 3, 1) := by decide +kernel
theorem dL_law_1132 : decode cL_law 1132 = .ok (.invokestatic 144, 3) := by decide +kernel
theorem dL_law_1135 : decode cL_law 1135 = .ok (.istore 5, 2) := by decide +kernel
theorem dL_law_1137 : decode cL_law 1137 = .ok (.aload_n 2, 1) := by decide +kernel
theorem dL_law_1138 : decode cL_law 1138 = .ok (.aload_n 0, 1) := by decide +kernel
theorem dL_law_1139 : decode cL_law 1139 = .ok (.iload 4, 2) := by decide +kernel
theorem dL_law_1141 : decode cL_law 1141 = .ok (.iconst 1, 1) := by decide +kernel
theorem dL_law_1142 : decode cL_law 1142 = .ok (.iadd, 1) := by decide +kernel
theorem dL_law_1143 : decode cL_law 1143 = .ok (.iaload, 1) := by decide +kernel
theorem dL_law_1144 : decode cL_law 1144 = .ok (.invokevirtual 146, 3) := by decide +kernel
theorem dL_law_1147 : decode cL_law 1147 = .ok (.istore 6, 2) := by decide +kernel
theorem dL_law_1149 : decode cL_law 1149 = .ok (.aload_n 2, 1) := by decide +kernel
theorem dL_law_1150 : decode cL_law 1150 = .ok (.invokevirtual 87, 3) := by decide +kernel
theorem dL_law_1153 : decode cL_law 1153 = .ok (.iload 5, 2) := by decide +kernel
theorem dL_law_1155 : decode cL_law 1155 = .ok (.if_icmp .eq 5, 3) := by decide +kernel
theorem dL_law_1158 : decode cL_law 1158 = .ok (.iconst 0, 1) := by decide +kernel
theorem dL_law_1159 : decode cL_law 1159 = .ok (.ireturn, 1) := by decide +kernel
theorem dL_law_1160 : decode cL_law 1160 = .ok (.iload 5, 2) := by decide +kernel
theorem dL_law_1162 : decode cL_law 1162 = .ok (.ifCond .ne 15, 3) := by decide +kernel
theorem dL_law_1165 : decode cL_law 1165 = .ok (.aload_n 3, 1) := by decide +kernel
theorem dL_law_1166 : decode cL_law 1166 = .ok (.iconst 0, 1) := by decide +kernel
theorem dL_law_1167 : decode cL_law 1167 = .ok (.laload, 1) := by decide +kernel
theorem dL_law_1168 : decode cL_law 1168 = .ok (.iload 6, 2) := by decide +kernel
theorem dL_law_1170 : decode cL_law 1170 = .ok (.i2l, 1) := by decide +kernel
theorem dL_law_1171 : decode cL_law 1171 = .ok (.lcmp, 1) := by decide +kernel
theorem dL_law_1172 : decode cL_law 1172 = .ok (.ifCond .eq 5, 3) := by decide +kernel
theorem dL_law_1175 : decode cL_law 1175 = .ok (.iconst 0, 1) := by decide +kernel
theorem dL_law_1176 : decode cL_law 1176 = .ok (.ireturn, 1) := by decide +kernel
theorem dL_law_1177 : decode cL_law 1177 = .ok (.goto 3, 3) := by decide +kernel
theorem dL_law_1180 : decode cL_law 1180 = .ok (.iinc 4 5, 3) := by decide +kernel
theorem dL_law_1183 : decode cL_law 1183 = .ok (.goto (-1160), 3) := by decide +kernel
theorem dL_law_1186 : decode cL_law 1186 = .ok (.iconst 1, 1) := by decide +kernel
theorem dL_law_1187 : decode cL_law 1187 = .ok (.ireturn, 1) := by decide +kernel
end
section
-- rows of claim/NAMES.whole.lean.txt (starting text): what each instruction is
theorem dX0_init_0 : decode cX0_init 0 = .ok (.aload_n 0, 1) := by decide +kernel
theorem dX0_init_1 : decode cX0_init 1 = .ok (.invokespecial 3, 3) := by decide +kernel
theorem dX0_init_4 : decode cX0_init 4 = .ok (.aload_n 0, 1) := by decide +kernel
theorem dX0_init_5 : decode cX0_init 5 = .ok (.aload_n 1, 1) := by decide +kernel
theorem dX0_init_6 : decode cX0_init 6 = .ok (.putfield 9, 3) := by decide +kernel
theorem dX0_init_9 : decode cX0_init 9 = .ok (.return_, 1) := by decide +kernel
theorem dX0_sizeAt_0 : decode cX0_sizeAt 0 = .ok (.aload_n 0, 1) := by decide +kernel
theorem dX0_sizeAt_1 : decode cX0_sizeAt 1 = .ok (.getfield 9, 3) := by decide +kernel
theorem dX0_sizeAt_4 : decode cX0_sizeAt 4 = .ok (.iload_n 1, 1) := by decide +kernel
theorem dX0_sizeAt_5 : decode cX0_sizeAt 5 = .ok (.invokevirtual 15, 3) := by decide +kernel
theorem dX0_sizeAt_8 : decode cX0_sizeAt 8 = .ok (.iconst 1, 1) := by decide +kernel
theorem dX0_sizeAt_9 : decode cX0_sizeAt 9 = .ok (.lshr, 1) := by decide +kernel
theorem dX0_sizeAt_10 : decode cX0_sizeAt 10 = .ok (.lstore_n 2, 1) := by decide +kernel
theorem dX0_sizeAt_11 : decode cX0_sizeAt 11 = .ok (.iload_n 1, 1) := by decide +kernel
theorem dX0_sizeAt_12 : decode cX0_sizeAt 12 = .ok (.sipush 176, 3) := by decide +kernel
theorem dX0_sizeAt_15 : decode cX0_sizeAt 15 = .ok (.if_icmp .lt 24, 3) := by decide +kernel
theorem dX0_sizeAt_18 : decode cX0_sizeAt 18 = .ok (.lload_n 2, 1) := by decide +kernel
theorem dX0_sizeAt_19 : decode cX0_sizeAt 19 = .ok (.lconst 1, 1) := by decide +kernel
theorem dX0_sizeAt_20 : decode cX0_sizeAt 20 = .ok (.lcmp, 1) := by decide +kernel
theorem dX0_sizeAt_21 : decode cX0_sizeAt 21 = .ok (.ifCond .lt 18, 3) := by decide +kernel
theorem dX0_sizeAt_24 : decode cX0_sizeAt 24 = .ok (.lload_n 2, 1) := by decide +kernel
theorem dX0_sizeAt_25 : decode cX0_sizeAt 25 = .ok (.ldc2_w 21, 3) := by decide +kernel
theorem dX0_sizeAt_28 : decode cX0_sizeAt 28 = .ok (.iload_n 1, 1) := by decide +kernel
theorem dX0_sizeAt_29 : decode cX0_sizeAt 29 = .ok (.i2l, 1) := by decide +kernel
theorem dX0_sizeAt_30 : decode cX0_sizeAt 30 = .ok (.lsub, 1) := by decide +kernel
theorem dX0_sizeAt_31 : decode cX0_sizeAt 31 = .ok (.lcmp, 1) := by decide +kernel
theorem dX0_sizeAt_32 : decode cX0_sizeAt 32 = .ok (.ifCond .gt 7, 3) := by decide +kernel
theorem dX0_sizeAt_35 : decode cX0_sizeAt 35 = .ok (.iconst 1, 1) := by decide +kernel
theorem dX0_sizeAt_36 : decode cX0_sizeAt 36 = .ok (.goto 4, 3) := by decide +kernel
theorem dX0_sizeAt_39 : decode cX0_sizeAt 39 = .ok (.iconst 0, 1) := by decide +kernel
theorem dX0_sizeAt_40 : decode cX0_sizeAt 40 = .ok (.istore 4, 2) := by decide +kernel
theorem dX0_sizeAt_42 : decode cX0_sizeAt 42 = .ok (.iload 4, 2) := by decide +kernel
theorem dX0_sizeAt_44 : decode cX0_sizeAt 44 = .ok (.ifCond .eq 8, 3) := by decide +kernel
theorem dX0_sizeAt_47 : decode cX0_sizeAt 47 = .ok (.lload_n 2, 1) := by decide +kernel
theorem dX0_sizeAt_48 : decode cX0_sizeAt 48 = .ok (.l2i, 1) := by decide +kernel
theorem dX0_sizeAt_49 : decode cX0_sizeAt 49 = .ok (.goto 4, 3) := by decide +kernel
theorem dX0_sizeAt_52 : decode cX0_sizeAt 52 = .ok (.iconst 0, 1) := by decide +kernel
theorem dX0_sizeAt_53 : decode cX0_sizeAt 53 = .ok (.ireturn, 1) := by decide +kernel
theorem dX0_isUsed_0 : decode cX0_isUsed 0 = .ok (.aload_n 0, 1) := by decide +kernel
theorem dX0_isUsed_1 : decode cX0_isUsed 1 = .ok (.getfield 9, 3) := by decide +kernel
theorem dX0_isUsed_4 : decode cX0_isUsed 4 = .ok (.iload_n 1, 1) := by decide +kernel
theorem dX0_isUsed_5 : decode cX0_isUsed 5 = .ok (.invokevirtual 15, 3) := by decide +kernel
theorem dX0_isUsed_8 : decode cX0_isUsed 8 = .ok (.lconst 1, 1) := by decide +kernel
theorem dX0_isUsed_9 : decode cX0_isUsed 9 = .ok (.land, 1) := by decide +kernel
theorem dX0_isUsed_10 : decode cX0_isUsed 10 = .ok (.lconst 1, 1) := by decide +kernel
theorem dX0_isUsed_11 : decode cX0_isUsed 11 = .ok (.lcmp, 1) := by decide +kernel
theorem dX0_isUsed_12 : decode cX0_isUsed 12 = .ok (.ifCond .ne 7, 3) := by decide +kernel
theorem dX0_isUsed_15 : decode cX0_isUsed 15 = .ok (.iconst 1, 1) := by decide +kernel
theorem dX0_isUsed_16 : decode cX0_isUsed 16 = .ok (.goto 4, 3) := by decide +kernel
theorem dX0_isUsed_19 : decode cX0_isUsed 19 = .ok (.iconst 0, 1) := by decide +kernel
theorem dX0_isUsed_20 : decode cX0_isUsed 20 = .ok (.ireturn, 1) := by decide +kernel
theorem dX0_isUsedAddress_0 : decode cX0_isUsedAddress 0 = .ok (.sipush 176, 3) := by decide +kernel
theorem dX0_isUsedAddress_3 : decode cX0_isUsedAddress 3 = .ok (.istore_n 2, 1) := by decide +kernel
theorem dX0_isUsedAddress_4 : decode cX0_isUsedAddress 4 = .ok (.iload_n 2, 1) := by decide +kernel
theorem dX0_isUsedAddress_5 : decode cX0_isUsedAddress 5 = .ok (.sipush 1024, 3) := by decide +kernel
theorem dX0_isUsedAddress_8 : decode cX0_isUsedAddress 8 = .ok (.if_icmp .ge 34, 3) := by decide +kernel
theorem dX0_isUsedAddress_11 : decode cX0_isUsedAddress 11 = .ok (.iload_n 2, 1) := by decide +kernel
theorem dX0_isUsedAddress_12 : decode cX0_isUsedAddress 12 = .ok (.iload_n 1, 1) := by decide +kernel
theorem dX0_isUsedAddress_13 : decode cX0_isUsedAddress 13 = .ok (.if_icmp .ge 29, 3) := by decide +kernel
theorem dX0_isUsedAddress_16 : decode cX0_isUsedAddress 16 = .ok (.iload_n 2, 1) := by decide +kernel
theorem dX0_isUsedAddress_17 : decode cX0_isUsedAddress 17 = .ok (.iconst 1, 1) := by decide +kernel
theorem dX0_isUsedAddress_18 : decode cX0_isUsedAddress 18 = .ok (.iadd, 1) := by decide +kernel
theorem dX0_isUsedAddress_19 : decode cX0_isUsedAddress 19 = .ok (.iload_n 1, 1) := by decide +kernel
theorem dX0_isUsedAddress_20 : decode cX0_isUsedAddress 20 = .ok (.if_icmp .ne 9, 3) := by decide +kernel
theorem dX0_isUsedAddress_23 : decode cX0_isUsedAddress 23 = .ok (.aload_n 0, 1) := by decide +kernel
theorem dX0_isUsedAddress_24 : decode cX0_isUsedAddress 24 = .ok (.iload_n 2, 1) := by decide +kernel
theorem dX0_isUsedAddress_25 : decode cX0_isUsedAddress 25 = .ok (.invokevirtual 23, 3) := by decide +kernel
theorem dX0_isUsedAddress_28 : decode cX0_isUsedAddress 28 = .ok (.ireturn, 1) := by decide +kernel
theorem dX0_isUsedAddress_29 : decode cX0_isUsedAddress 29 = .ok (.iload_n 2, 1) := by decide +kernel
theorem dX0_isUsedAddress_30 : decode cX0_isUsedAddress 30 = .ok (.iconst 1, 1) := by decide +kernel
theorem dX0_isUsedAddress_31 : decode cX0_isUsedAddress 31 = .ok (.aload_n 0, 1) := by decide +kernel
theorem dX0_isUsedAddress_32 : decode cX0_isUsedAddress 32 = .ok (.iload_n 2, 1) := by decide +kernel
theorem dX0_isUsedAddress_33 : decode cX0_isUsedAddress 33 = .ok (.invokevirtual 27, 3) := by decide +kernel
theorem dX0_isUsedAddress_36 : decode cX0_isUsedAddress 36 = .ok (.iadd, 1) := by decide +kernel
theorem dX0_isUsedAddress_37 : decode cX0_isUsedAddress 37 = .ok (.iadd, 1) := by decide +kernel
theorem dX0_isUsedAddress_38 : decode cX0_isUsedAddress 38 = .ok (.istore_n 2, 1) := by decide +kernel
theorem dX0_isUsedAddress_39 : decode cX0_isUsedAddress 39 = .ok (.goto (-35), 3) := by decide +kernel
theorem dX0_isUsedAddress_42 : decode cX0_isUsedAddress 42 = .ok (.iconst 0, 1) := by decide +kernel
theorem dX0_isUsedAddress_43 : decode cX0_isUsedAddress 43 = .ok (.ireturn, 1) := by decide +kernel
theorem dX0_headOf_0 : decode cX0_headOf 0 = .ok (.iconst 0, 1) := by decide +kernel
theorem dX0_headOf_1 : decode cX0_headOf 1 = .ok (.istore_n 2, 1) := by decide +kernel
theorem dX0_headOf_2 : decode cX0_headOf 2 = .ok (.sipush 176, 3) := by decide +kernel
theorem dX0_headOf_5 : decode cX0_headOf 5 = .ok (.istore_n 3, 1) := by decide +kernel
theorem dX0_headOf_6 : decode cX0_headOf 6 = .ok (.iload_n 3, 1) := by decide +kernel
theorem dX0_headOf_7 : decode cX0_headOf 7 = .ok (.sipush 1024, 3) := by decide +kernel
theorem dX0_headOf_10 : decode cX0_headOf 10 = .ok (.if_icmp .ge 26, 3) := by decide +kernel
theorem dX0_headOf_13 : decode cX0_headOf 13 = .ok (.iload_n 2, 1) := by decide +kernel
theorem dX0_headOf_14 : decode cX0_headOf 14 = .ok (.iload_n 1, 1) := by decide +kernel
theorem dX0_headOf_15 : decode cX0_headOf 15 = .ok (.if_icmp .ne 5, 3) := by decide +kernel
theorem dX0_headOf_18 : decode cX0_headOf 18 = .ok (.iload_n 3, 1) := by decide +kernel
theorem dX0_headOf_19 : decode cX0_headOf 19 = .ok (.ireturn, 1) := by decide +kernel
theorem dX0_headOf_20 : decode cX0_headOf 20 = .ok (.iinc 2 1, 3) := by decide +kernel
theorem dX0_headOf_23 : decode cX0_headOf 23 = .ok (.iload_n 3, 1) := by decide +kernel
theorem dX0_headOf_24 : decode cX0_headOf 24 = .ok (.iconst 1, 1) := by decide +kernel
theorem dX0_headOf_25 : decode cX0_headOf 25 = .ok (.aload_n 0, 1) := by decide +kernel
theorem dX0_headOf_26 : decode cX0_headOf 26 = .ok (.iload_n 3, 1) := by decide +kernel
theorem dX0_headOf_27 : decode cX0_headOf 27 = .ok (.invokevirtual 27, 3) := by decide +kernel
theorem dX0_headOf_30 : decode cX0_headOf 30 = .ok (.iadd, 1) := by decide +kernel
theorem dX0_headOf_31 : decode cX0_headOf 31 = .ok (.iadd, 1) := by decide +kernel
theorem dX0_headOf_32 : decode cX0_headOf 32 = .ok (.istore_n 3, 1) := by decide +kernel
theorem dX0_headOf_33 : decode cX0_headOf 33 = .ok (.goto (-27), 3) := by decide +kernel
theorem dX0_headOf_36 : decode cX0_headOf 36 = .ok (.iconst (-1), 1) := by decide +kernel
theorem dX0_headOf_37 : decode cX0_headOf 37 = .ok (.ireturn, 1) := by decide +kernel
theorem dX0_howMany_0 : decode cX0_howMany 0 = .ok (.iconst 0, 1) := by decide +kernel
theorem dX0_howMany_1 : decode cX0_howMany 1 = .ok (.istore_n 1, 1) := by decide +kernel
theorem dX0_howMany_2 : decode cX0_howMany 2 = .ok (.sipush 176, 3) := by decide +kernel
theorem dX0_howMany_5 : decode cX0_howMany 5 = .ok (.istore_n 2, 1) := by decide +kernel
theorem dX0_howMany_6 : decode cX0_howMany 6 = .ok (.iload_n 2, 1) := by decide +kernel
theorem dX0_howMany_7 : decode cX0_howMany 7 = .ok (.sipush 1024, 3) := by decide +kernel
theorem dX0_howMany_10 : decode cX0_howMany 10 = .ok (.if_icmp .ge 19, 3) := by decide +kernel
theorem dX0_howMany_13 : decode cX0_howMany 13 = .ok (.iinc 1 1, 3) := by decide +kernel
theorem dX0_howMany_16 : decode cX0_howMany 16 = .ok (.iload_n 2, 1) := by decide +kernel
theorem dX0_howMany_17 : decode cX0_howMany 17 = .ok (.iconst 1, 1) := by decide +kernel
theorem dX0_howMany_18 : decode cX0_howMany 18 = .ok (.aload_n 0, 1) := by decide +kernel
theorem dX0_howMany_19 : decode cX0_howMany 19 = .ok (.iload_n 2, 1) := by decide +kernel
theorem dX0_howMany_20 : decode cX0_howMany 20 = .ok (.invokevirtual 27, 3) := by decide +kernel
theorem dX0_howMany_23 : decode cX0_howMany 23 = .ok (.iadd, 1) := by decide +kernel
theorem dX0_howMany_24 : decode cX0_howMany 24 = .ok (.iadd, 1) := by decide +kernel
theorem dX0_howMany_25 : decode cX0_howMany 25 = .ok (.istore_n 2, 1) := by decide +kernel
theorem dX0_howMany_26 : decode cX0_howMany 26 = .ok (.goto (-20), 3) := by decide +kernel
theorem dX0_howMany_29 : decode cX0_howMany 29 = .ok (.iload_n 1, 1) := by decide +kernel
theorem dX0_howMany_30 : decode cX0_howMany 30 = .ok (.ireturn, 1) := by decide +kernel
theorem dX0_freeWords_0 : decode cX0_freeWords 0 = .ok (.iconst 0, 1) := by decide +kernel
theorem dX0_freeWords_1 : decode cX0_freeWords 1 = .ok (.istore_n 1, 1) := by decide +kernel
theorem dX0_freeWords_2 : decode cX0_freeWords 2 = .ok (.sipush 176, 3) := by decide +kernel
theorem dX0_freeWords_5 : decode cX0_freeWords 5 = .ok (.istore_n 2, 1) := by decide +kernel
theorem dX0_freeWords_6 : decode cX0_freeWords 6 = .ok (.iload_n 2, 1) := by decide +kernel
theorem dX0_freeWords_7 : decode cX0_freeWords 7 = .ok (.sipush 1024, 3) := by decide +kernel
theorem dX0_freeWords_10 : decode cX0_freeWords 10 = .ok (.if_icmp .ge 24, 3) := by decide +kernel
theorem dX0_freeWords_13 : decode cX0_freeWords 13 = .ok (.iload_n 1, 1) := by decide +kernel
theorem dX0_freeWords_14 : decode cX0_freeWords 14 = .ok (.aload_n 0, 1) := by decide +kernel
theorem dX0_freeWords_15 : decode cX0_freeWords 15 = .ok (.iload_n 2, 1) := by decide +kernel
theorem dX0_freeWords_16 : decode cX0_freeWords 16 = .ok (.invokevirtual 31, 3) := by decide +kernel
theorem dX0_freeWords_19 : decode cX0_freeWords 19 = .ok (.iadd, 1) := by decide +kernel
theorem dX0_freeWords_20 : decode cX0_freeWords 20 = .ok (.istore_n 1, 1) := by decide +kernel
theorem dX0_freeWords_21 : decode cX0_freeWords 21 = .ok (.iload_n 2, 1) := by decide +kernel
theorem dX0_freeWords_22 : decode cX0_freeWords 22 = .ok (.iconst 1, 1) := by decide +kernel
theorem dX0_freeWords_23 : decode cX0_freeWords 23 = .ok (.aload_n 0, 1) := by decide +kernel
theorem dX0_freeWords_24 : decode cX0_freeWords 24 = .ok (.iload_n 2, 1) := by decide +kernel
theorem dX0_freeWords_25 : decode cX0_freeWords 25 = .ok (.invokevirtual 27, 3) := by decide +kernel
theorem dX0_freeWords_28 : decode cX0_freeWords 28 = .ok (.iadd, 1) := by decide +kernel
theorem dX0_freeWords_29 : decode cX0_freeWords 29 = .ok (.iadd, 1) := by decide +kernel
theorem dX0_freeWords_30 : decode cX0_freeWords 30 = .ok (.istore_n 2, 1) := by decide +kernel
theorem dX0_freeWords_31 : decode cX0_freeWords 31 = .ok (.goto (-25), 3) := by decide +kernel
theorem dX0_freeWords_34 : decode cX0_freeWords 34 = .ok (.iload_n 1, 1) := by decide +kernel
theorem dX0_freeWords_35 : decode cX0_freeWords 35 = .ok (.ireturn, 1) := by decide +kernel
theorem dX0_greatestFree_0 : decode cX0_greatestFree 0 = .ok (.iconst 0, 1) := by decide +kernel
theorem dX0_greatestFree_1 : decode cX0_greatestFree 1 = .ok (.istore_n 1, 1) := by decide +kernel
theorem dX0_greatestFree_2 : decode cX0_greatestFree 2 = .ok (.sipush 176, 3) := by decide +kernel
theorem dX0_greatestFree_5 : decode cX0_greatestFree 5 = .ok (.istore_n 2, 1) := by decide +kernel
theorem dX0_greatestFree_6 : decode cX0_greatestFree 6 = .ok (.iload_n 2, 1) := by decide +kernel
theorem dX0_greatestFree_7 : decode cX0_greatestFree 7 = .ok (.sipush 1024, 3) := by decide +kernel
theorem dX0_greatestFree_10 : decode cX0_greatestFree 10 = .ok (.if_icmp .ge 26, 3) := by decide +kernel
theorem dX0_greatestFree_13 : decode cX0_greatestFree 13 = .ok (.iload_n 1, 1) := by decide +kernel
theorem dX0_greatestFree_14 : decode cX0_greatestFree 14 = .ok (.aload_n 0, 1) := by decide +kernel
theorem dX0_greatestFree_15 : decode cX0_greatestFree 15 = .ok (.iload_n 2, 1) := by decide +kernel
theorem dX0_greatestFree_16 : decode cX0_greatestFree 16 = .ok (.invokevirtual 31, 3) := by decide +kernel
theorem dX0_greatestFree_19 : decode cX0_greatestFree 19 = .ok (.invokestatic 34, 3) := by decide +kernel
theorem dX0_greatestFree_22 : decode cX0_greatestFree 22 = .ok (.istore_n 1, 1) := by decide +kernel
theorem dX0_greatestFree_23 : decode cX0_greatestFree 23 = .ok (.iload_n 2, 1) := by decide +kernel
theorem dX0_greatestFree_24 : decode cX0_greatestFree 24 = .ok (.iconst 1, 1) := by decide +kernel
theorem dX0_greatestFree_25 : decode cX0_greatestFree 25 = .ok (.aload_n 0, 1) := by decide +kernel
theorem dX0_greatestFree_26 : decode cX0_greatestFree 26 = .ok (.iload_n 2, 1) := by decide +kernel
theorem dX0_greatestFree_27 : decode cX0_greatestFree 27 = .ok (.invokevirtual 27, 3) := by decide +kernel
theorem dX0_greatestFree_30 : decode cX0_greatestFree 30 = .ok (.iadd, 1) := by decide +kernel
theorem dX0_greatestFree_31 : decode cX0_greatestFree 31 = .ok (.iadd, 1) := by decide +kernel
theorem dX0_greatestFree_32 : decode cX0_greatestFree 32 = .ok (.istore_n 2, 1) := by decide +kernel
theorem dX0_greatestFree_33 : decode cX0_greatestFree 33 = .ok (.goto (-27), 3) := by decide +kernel
theorem dX0_greatestFree_36 : decode cX0_greatestFree 36 = .ok (.iload_n 1, 1) := by decide +kernel
theorem dX0_greatestFree_37 : decode cX0_greatestFree 37 = .ok (.ireturn, 1) := by decide +kernel
theorem dX0_takeFirst_0 : decode cX0_takeFirst 0 = .ok (.aload_n 0, 1) := by decide +kernel
theorem dX0_takeFirst_1 : decode cX0_takeFirst 1 = .ok (.iload_n 1, 1) := by decide +kernel
theorem dX0_takeFirst_2 : decode cX0_takeFirst 2 = .ok (.invokevirtual 40, 3) := by decide +kernel
theorem dX0_takeFirst_5 : decode cX0_takeFirst 5 = .ok (.istore_n 2, 1) := by decide +kernel
theorem dX0_takeFirst_6 : decode cX0_takeFirst 6 = .ok (.iload_n 2, 1) := by decide +kernel
theorem dX0_takeFirst_7 : decode cX0_takeFirst 7 = .ok (.iconst (-1), 1) := by decide +kernel
theorem dX0_takeFirst_8 : decode cX0_takeFirst 8 = .ok (.if_icmp .ne 5, 3) := by decide +kernel
theorem dX0_takeFirst_11 : decode cX0_takeFirst 11 = .ok (.iconst (-1), 1) := by decide +kernel
theorem dX0_takeFirst_12 : decode cX0_takeFirst 12 = .ok (.ireturn, 1) := by decide +kernel
theorem dX0_takeFirst_13 : decode cX0_takeFirst 13 = .ok (.aload_n 0, 1) := by decide +kernel
theorem dX0_takeFirst_14 : decode cX0_takeFirst 14 = .ok (.iload_n 2, 1) := by decide +kernel
theorem dX0_takeFirst_15 : decode cX0_takeFirst 15 = .ok (.invokevirtual 27, 3) := by decide +kernel
theorem dX0_takeFirst_18 : decode cX0_takeFirst 18 = .ok (.istore_n 3, 1) := by decide +kernel
theorem dX0_takeFirst_19 : decode cX0_takeFirst 19 = .ok (.iload_n 3, 1) := by decide +kernel
theorem dX0_takeFirst_20 : decode cX0_takeFirst 20 = .ok (.iload_n 1, 1) := by decide +kernel
theorem dX0_takeFirst_21 : decode cX0_takeFirst 21 = .ok (.iconst 2, 1) := by decide +kernel
theorem dX0_takeFirst_22 : decode cX0_takeFirst 22 = .ok (.iadd, 1) := by decide +kernel
theorem dX0_takeFirst_23 : decode cX0_takeFirst 23 = .ok (.if_icmp .lt 13, 3) := by decide +kernel
theorem dX0_takeFirst_26 : decode cX0_takeFirst 26 = .ok (.aload_n 0, 1) := by decide +kernel
theorem dX0_takeFirst_27 : decode cX0_takeFirst 27 = .ok (.iload_n 2, 1) := by decide +kernel
theorem dX0_takeFirst_28 : decode cX0_takeFirst 28 = .ok (.iload_n 1, 1) := by decide +kernel
theorem dX0_takeFirst_29 : decode cX0_takeFirst 29 = .ok (.iload_n 3, 1) := by decide +kernel
theorem dX0_takeFirst_30 : decode cX0_takeFirst 30 = .ok (.invokevirtual 43, 3) := by decide +kernel
theorem dX0_takeFirst_33 : decode cX0_takeFirst 33 = .ok (.goto 19, 3) := by decide +kernel
theorem dX0_takeFirst_36 : decode cX0_takeFirst 36 = .ok (.aload_n 0, 1) := by decide +kernel
theorem dX0_takeFirst_37 : decode cX0_takeFirst 37 = .ok (.getfield 9, 3) := by decide +kernel
theorem dX0_takeFirst_40 : decode cX0_takeFirst 40 = .ok (.iload_n 2, 1) := by decide +kernel
theorem dX0_takeFirst_41 : decode cX0_takeFirst 41 = .ok (.ldc2_w 47, 3) := by decide +kernel
theorem dX0_takeFirst_44 : decode cX0_takeFirst 44 = .ok (.iload_n 3, 1) := by decide +kernel
theorem dX0_takeFirst_45 : decode cX0_takeFirst 45 = .ok (.i2l, 1) := by decide +kernel
theorem dX0_takeFirst_46 : decode cX0_takeFirst 46 = .ok (.lmul, 1) := by decide +kernel
theorem dX0_takeFirst_47 : decode cX0_takeFirst 47 = .ok (.lconst 1, 1) := by decide +kernel
theorem dX0_takeFirst_48 : decode cX0_takeFirst 48 = .ok (.ladd, 1) := by decide +kernel
theorem dX0_takeFirst_49 : decode cX0_takeFirst 49 = .ok (.invokevirtual 49, 3) := by decide +kernel
theorem dX0_takeFirst_52 : decode cX0_takeFirst 52 = .ok (.istore 4, 2) := by decide +kernel
theorem dX0_takeFirst_54 : decode cX0_takeFirst 54 = .ok (.iload 4, 2) := by decide +kernel
theorem dX0_takeFirst_56 : decode cX0_takeFirst 56 = .ok (.ifCond .eq 9, 3) := by decide +kernel
theorem dX0_takeFirst_59 : decode cX0_takeFirst 59 = .ok (.iload_n 2, 1) := by decide +kernel
theorem dX0_takeFirst_60 : decode cX0_takeFirst 60 = .ok (.iconst 1, 1) := by decide +kernel
theorem dX0_takeFirst_61 : decode cX0_takeFirst 61 = .ok (.iadd, 1) := by decide +kernel
theorem dX0_takeFirst_62 : decode cX0_takeFirst 62 = .ok (.goto 4, 3) := by decide +kernel
theorem dX0_takeFirst_65 : decode cX0_takeFirst 65 = .ok (.iconst (-1), 1) := by decide +kernel
theorem dX0_takeFirst_66 : decode cX0_takeFirst 66 = .ok (.ireturn, 1) := by decide +kernel
theorem dX0_giveBack_0 : decode cX0_giveBack 0 = .ok (.iload_n 1, 1) := by decide +kernel
theorem dX0_giveBack_1 : decode cX0_giveBack 1 = .ok (.istore_n 2, 1) := by decide +kernel
theorem dX0_giveBack_2 : decode cX0_giveBack 2 = .ok (.aload_n 0, 1) := by decide +kernel
theorem dX0_giveBack_3 : decode cX0_giveBack 3 = .ok (.iload_n 1, 1) := by decide +kernel
theorem dX0_giveBack_4 : decode cX0_giveBack 4 = .ok (.invokevirtual 27, 3) := by decide +kernel
theorem dX0_giveBack_7 : decode cX0_giveBack 7 = .ok (.istore_n 3, 1) := by decide +kernel
theorem dX0_giveBack_8 : decode cX0_giveBack 8 = .ok (.iload_n 1, 1) := by decide +kernel
theorem dX0_giveBack_9 : decode cX0_giveBack 9 = .ok (.iconst 1, 1) := by decide +kernel
theorem dX0_giveBack_10 : decode cX0_giveBack 10 = .ok (.iadd, 1) := by decide +kernel
theorem dX0_giveBack_11 : decode cX0_giveBack 11 = .ok (.iload_n 3, 1) := by decide +kernel
theorem dX0_giveBack_12 : decode cX0_giveBack 12 = .ok (.iadd, 1) := by decide +kernel
theorem dX0_giveBack_13 : decode cX0_giveBack 13 = .ok (.istore 4, 2) := by decide +kernel
theorem dX0_giveBack_15 : decode cX0_giveBack 15 = .ok (.aload_n 0, 1) := by decide +kernel
theorem dX0_giveBack_16 : decode cX0_giveBack 16 = .ok (.iload 4, 2) := by decide +kernel
theorem dX0_giveBack_18 : decode cX0_giveBack 18 = .ok (.invokevirtual 31, 3) := by decide +kernel
theorem dX0_giveBack_21 : decode cX0_giveBack 21 = .ok (.ifCond .le 14, 3) := by decide +kernel
theorem dX0_giveBack_24 : decode cX0_giveBack 24 = .ok (.iload_n 3, 1) := by decide +kernel
theorem dX0_giveBack_25 : decode cX0_giveBack 25 = .ok (.iconst 1, 1) := by decide +kernel
theorem dX0_giveBack_26 : decode cX0_giveBack 26 = .ok (.aload_n 0, 1) := by decide +kernel
theorem dX0_giveBack_27 : decode cX0_giveBack 27 = .ok (.iload 4, 2) := by decide +kernel
theorem dX0_giveBack_29 : decode cX0_giveBack 29 = .ok (.invokevirtual 31, 3) := by decide +kernel
theorem dX0_giveBack_32 : decode cX0_giveBack 32 = .ok (.iadd, 1) := by decide +kernel
theorem dX0_giveBack_33 : decode cX0_giveBack 33 = .ok (.iadd, 1) := by decide +kernel
theorem dX0_giveBack_34 : decode cX0_giveBack 34 = .ok (.istore_n 3, 1) := by decide +kernel
theorem dX0_giveBack_35 : decode cX0_giveBack 35 = .ok (.aload_n 0, 1) := by decide +kernel
theorem dX0_giveBack_36 : decode cX0_giveBack 36 = .ok (.iload_n 1, 1) := by decide +kernel
theorem dX0_giveBack_37 : decode cX0_giveBack 37 = .ok (.invokevirtual 53, 3) := by decide +kernel
theorem dX0_giveBack_40 : decode cX0_giveBack 40 = .ok (.istore 5, 2) := by decide +kernel
theorem dX0_giveBack_42 : decode cX0_giveBack 42 = .ok (.aload_n 0, 1) := by decide +kernel
theorem dX0_giveBack_43 : decode cX0_giveBack 43 = .ok (.iload 5, 2) := by decide +kernel
theorem dX0_giveBack_45 : decode cX0_giveBack 45 = .ok (.invokevirtual 31, 3) := by decide +kernel
theorem dX0_giveBack_48 : decode cX0_giveBack 48 = .ok (.ifCond .le 17, 3) := by decide +kernel
theorem dX0_giveBack_51 : decode cX0_giveBack 51 = .ok (.iload 5, 2) := by decide +kernel
theorem dX0_giveBack_53 : decode cX0_giveBack 53 = .ok (.istore_n 2, 1) := by decide +kernel
theorem dX0_giveBack_54 : decode cX0_giveBack 54 = .ok (.iload_n 3, 1) := by decide +kernel
theorem dX0_giveBack_55 : decode cX0_giveBack 55 = .ok (.iconst 1, 1) := by decide +kernel
theorem dX0_giveBack_56 : decode cX0_giveBack 56 = .ok (.aload_n 0, 1) := by decide +kernel
theorem dX0_giveBack_57 : decode cX0_giveBack 57 = .ok (.iload 5, 2) := by decide +kernel
theorem dX0_giveBack_59 : decode cX0_giveBack 59 = .ok (.invokevirtual 31, 3) := by decide +kernel
theorem dX0_giveBack_62 : decode cX0_giveBack 62 = .ok (.iadd, 1) := by decide +kernel
theorem dX0_giveBack_63 : decode cX0_giveBack 63 = .ok (.iadd, 1) := by decide +kernel
theorem dX0_giveBack_64 : decode cX0_giveBack 64 = .ok (.istore_n 3, 1) := by decide +kernel
theorem dX0_giveBack_65 : decode cX0_giveBack 65 = .ok (.aload_n 0, 1) := by decide +kernel
theorem dX0_giveBack_66 : decode cX0_giveBack 66 = .ok (.getfield 9, 3) := by decide +kernel
theorem dX0_giveBack_69 : decode cX0_giveBack 69 = .ok (.iload_n 2, 1) := by decide +kernel
theorem dX0_giveBack_70 : decode cX0_giveBack 70 = .ok (.ldc2_w 47, 3) := by decide +kernel
theorem dX0_giveBack_73 : decode cX0_giveBack 73 = .ok (.iload_n 3, 1) := by decide +kernel
theorem dX0_giveBack_74 : decode cX0_giveBack 74 = .ok (.i2l, 1) := by decide +kernel
theorem dX0_giveBack_75 : decode cX0_giveBack 75 = .ok (.lmul, 1) := by decide +kernel
theorem dX0_giveBack_76 : decode cX0_giveBack 76 = .ok (.invokevirtual 49, 3) := by decide +kernel
theorem dX0_giveBack_79 : decode cX0_giveBack 79 = .ok (.ifCond .eq 7, 3) := by decide +kernel
theorem dX0_giveBack_82 : decode cX0_giveBack 82 = .ok (.iload_n 3, 1) := by decide +kernel
theorem dX0_giveBack_83 : decode cX0_giveBack 83 = .ok (.goto 4, 3) := by decide +kernel
theorem dX0_giveBack_86 : decode cX0_giveBack 86 = .ok (.iconst (-1), 1) := by decide +kernel
theorem dX0_giveBack_87 : decode cX0_giveBack 87 = .ok (.ireturn, 1) := by decide +kernel
theorem dX0_split_0 : decode cX0_split 0 = .ok (.iload_n 1, 1) := by decide +kernel
theorem dX0_split_1 : decode cX0_split 1 = .ok (.iconst 1, 1) := by decide +kernel
theorem dX0_split_2 : decode cX0_split 2 = .ok (.iadd, 1) := by decide +kernel
theorem dX0_split_3 : decode cX0_split 3 = .ok (.iload_n 2, 1) := by decide +kernel
theorem dX0_split_4 : decode cX0_split 4 = .ok (.iadd, 1) := by decide +kernel
theorem dX0_split_5 : decode cX0_split 5 = .ok (.istore 4, 2) := by decide +kernel
theorem dX0_split_7 : decode cX0_split 7 = .ok (.ldc2_w 47, 3) := by decide +kernel
theorem dX0_split_10 : decode cX0_split 10 = .ok (.iload_n 3, 1) := by decide +kernel
theorem dX0_split_11 : decode cX0_split 11 = .ok (.iload_n 2, 1) := by decide +kernel
theorem dX0_split_12 : decode cX0_split 12 = .ok (.isub, 1) := by decide +kernel
theorem dX0_split_13 : decode cX0_split 13 = .ok (.iconst 1, 1) := by decide +kernel
theorem dX0_split_14 : decode cX0_split 14 = .ok (.isub, 1) := by decide +kernel
theorem dX0_split_15 : decode cX0_split 15 = .ok (.i2l, 1) := by decide +kernel
theorem dX0_split_16 : decode cX0_split 16 = .ok (.lmul, 1) := by decide +kernel
theorem dX0_split_17 : decode cX0_split 17 = .ok (.lstore 5, 2) := by decide +kernel
theorem dX0_split_19 : decode cX0_split 19 = .ok (.ldc2_w 47, 3) := by decide +kernel
theorem dX0_split_22 : decode cX0_split 22 = .ok (.iload_n 2, 1) := by decide +kernel
theorem dX0_split_23 : decode cX0_split 23 = .ok (.i2l, 1) := by decide +kernel
theorem dX0_split_24 : decode cX0_split 24 = .ok (.lmul, 1) := by decide +kernel
theorem dX0_split_25 : decode cX0_split 25 = .ok (.lconst 1, 1) := by decide +kernel
theorem dX0_split_26 : decode cX0_split 26 = .ok (.ladd, 1) := by decide +kernel
theorem dX0_split_27 : decode cX0_split 27 = .ok (.lstore 7, 2) := by decide +kernel
theorem dX0_split_29 : decode cX0_split 29 = .ok (.aload_n 0, 1) := by decide +kernel
theorem dX0_split_30 : decode cX0_split 30 = .ok (.getfield 9, 3) := by decide +kernel
theorem dX0_split_33 : decode cX0_split 33 = .ok (.aload_n 0, 1) := by decide +kernel
theorem dX0_split_34 : decode cX0_split 34 = .ok (.getfield 9, 3) := by decide +kernel
theorem dX0_split_37 : decode cX0_split 37 = .ok (.iload 4, 2) := by decide +kernel
theorem dX0_split_39 : decode cX0_split 39 = .ok (.lload 5, 2) := by decide +kernel
theorem dX0_split_41 : decode cX0_split 41 = .ok (.invokevirtual 56, 3) := by decide +kernel
theorem dX0_split_44 : decode cX0_split 44 = .ok (.aload_n 0, 1) := by decide +kernel
theorem dX0_split_45 : decode cX0_split 45 = .ok (.getfield 9, 3) := by decide +kernel
theorem dX0_split_48 : decode cX0_split 48 = .ok (.iload_n 1, 1) := by decide +kernel
theorem dX0_split_49 : decode cX0_split 49 = .ok (.lload 7, 2) := by decide +kernel
theorem dX0_split_51 : decode cX0_split 51 = .ok (.invokevirtual 56, 3) := by decide +kernel
theorem dX0_split_54 : decode cX0_split 54 = .ok (.iadd, 1) := by decide +kernel
theorem dX0_split_55 : decode cX0_split 55 = .ok (.invokevirtual 60, 3) := by decide +kernel
theorem dX0_split_58 : decode cX0_split 58 = .ok (.ifCond .ne 5, 3) := by decide +kernel
theorem dX0_split_61 : decode cX0_split 61 = .ok (.iconst 0, 1) := by decide +kernel
theorem dX0_split_62 : decode cX0_split 62 = .ok (.ireturn, 1) := by decide +kernel
theorem dX0_split_63 : decode cX0_split 63 = .ok (.aload_n 0, 1) := by decide +kernel
theorem dX0_split_64 : decode cX0_split 64 = .ok (.getfield 9, 3) := by decide +kernel
theorem dX0_split_67 : decode cX0_split 67 = .ok (.iload 4, 2) := by decide +kernel
theorem dX0_split_69 : decode cX0_split 69 = .ok (.lload 5, 2) := by decide +kernel
theorem dX0_split_71 : decode cX0_split 71 = .ok (.invokevirtual 49, 3) := by decide +kernel
theorem dX0_split_74 : decode cX0_split 74 = .ok (.ifCond .eq 20, 3) := by decide +kernel
theorem dX0_split_77 : decode cX0_split 77 = .ok (.aload_n 0, 1) := by decide +kernel
theorem dX0_split_78 : decode cX0_split 78 = .ok (.getfield 9, 3) := by decide +kernel
theorem dX0_split_81 : decode cX0_split 81 = .ok (.iload_n 1, 1) := by decide +kernel
theorem dX0_split_82 : decode cX0_split 82 = .ok (.lload 7, 2) := by decide +kernel
theorem dX0_split_84 : decode cX0_split 84 = .ok (.invokevirtual 49, 3) := by decide +kernel
theorem dX0_split_87 : decode cX0_split 87 = .ok (.ifCond .eq 7, 3) := by decide +kernel
theorem dX0_split_90 : decode cX0_split 90 = .ok (.iconst 1, 1) := by decide +kernel
theorem dX0_split_91 : decode cX0_split 91 = .ok (.goto 4, 3) := by decide +kernel
theorem dX0_split_94 : decode cX0_split 94 = .ok (.iconst 0, 1) := by decide +kernel
theorem dX0_split_95 : decode cX0_split 95 = .ok (.ireturn, 1) := by decide +kernel
theorem dX0_firstFree_0 : decode cX0_firstFree 0 = .ok (.sipush 176, 3) := by decide +kernel
theorem dX0_firstFree_3 : decode cX0_firstFree 3 = .ok (.istore_n 2, 1) := by decide +kernel
theorem dX0_firstFree_4 : decode cX0_firstFree 4 = .ok (.iload_n 2, 1) := by decide +kernel
theorem dX0_firstFree_5 : decode cX0_firstFree 5 = .ok (.sipush 1024, 3) := by decide +kernel
theorem dX0_firstFree_8 : decode cX0_firstFree 8 = .ok (.if_icmp .ge 27, 3) := by decide +kernel
theorem dX0_firstFree_11 : decode cX0_firstFree 11 = .ok (.aload_n 0, 1) := by decide +kernel
theorem dX0_firstFree_12 : decode cX0_firstFree 12 = .ok (.iload_n 2, 1) := by decide +kernel
theorem dX0_firstFree_13 : decode cX0_firstFree 13 = .ok (.invokevirtual 31, 3) := by decide +kernel
theorem dX0_firstFree_16 : decode cX0_firstFree 16 = .ok (.iload_n 1, 1) := by decide +kernel
theorem dX0_firstFree_17 : decode cX0_firstFree 17 = .ok (.if_icmp .lt 5, 3) := by decide +kernel
theorem dX0_firstFree_20 : decode cX0_firstFree 20 = .ok (.iload_n 2, 1) := by decide +kernel
theorem dX0_firstFree_21 : decode cX0_firstFree 21 = .ok (.ireturn, 1) := by decide +kernel
theorem dX0_firstFree_22 : decode cX0_firstFree 22 = .ok (.iload_n 2, 1) := by decide +kernel
theorem dX0_firstFree_23 : decode cX0_firstFree 23 = .ok (.iconst 1, 1) := by decide +kernel
theorem dX0_firstFree_24 : decode cX0_firstFree 24 = .ok (.aload_n 0, 1) := by decide +kernel
theorem dX0_firstFree_25 : decode cX0_firstFree 25 = .ok (.iload_n 2, 1) := by decide +kernel
theorem dX0_firstFree_26 : decode cX0_firstFree 26 = .ok (.invokevirtual 27, 3) := by decide +kernel
theorem dX0_firstFree_29 : decode cX0_firstFree 29 = .ok (.iadd, 1) := by decide +kernel
theorem dX0_firstFree_30 : decode cX0_firstFree 30 = .ok (.iadd, 1) := by decide +kernel
theorem dX0_firstFree_31 : decode cX0_firstFree 31 = .ok (.istore_n 2, 1) := by decide +kernel
theorem dX0_firstFree_32 : decode cX0_firstFree 32 = .ok (.goto (-28), 3) := by decide +kernel
theorem dX0_firstFree_35 : decode cX0_firstFree 35 = .ok (.iconst (-1), 1) := by decide +kernel
theorem dX0_firstFree_36 : decode cX0_firstFree 36 = .ok (.ireturn, 1) := by decide +kernel
theorem dX0_headBefore_0 : decode cX0_headBefore 0 = .ok (.iconst (-1), 1) := by decide +kernel
theorem dX0_headBefore_1 : decode cX0_headBefore 1 = .ok (.istore_n 2, 1) := by decide +kernel
theorem dX0_headBefore_2 : decode cX0_headBefore 2 = .ok (.sipush 176, 3) := by decide +kernel
theorem dX0_headBefore_5 : decode cX0_headBefore 5 = .ok (.istore_n 3, 1) := by decide +kernel
theorem dX0_headBefore_6 : decode cX0_headBefore 6 = .ok (.iload_n 3, 1) := by decide +kernel
theorem dX0_headBefore_7 : decode cX0_headBefore 7 = .ok (.iload_n 1, 1) := by decide +kernel
theorem dX0_headBefore_8 : decode cX0_headBefore 8 = .ok (.if_icmp .ge 18, 3) := by decide +kernel
theorem dX0_headBefore_11 : decode cX0_headBefore 11 = .ok (.iload_n 3, 1) := by decide +kernel
theorem dX0_headBefore_12 : decode cX0_headBefore 12 = .ok (.istore_n 2, 1) := by decide +kernel
theorem dX0_headBefore_13 : decode cX0_headBefore 13 = .ok (.iload_n 3, 1) := by decide +kernel
theorem dX0_headBefore_14 : decode cX0_headBefore 14 = .ok (.iconst 1, 1) := by decide +kernel
theorem dX0_headBefore_15 : decode cX0_headBefore 15 = .ok (.aload_n 0, 1) := by decide +kernel
theorem dX0_headBefore_16 : decode cX0_headBefore 16 = .ok (.iload_n 3, 1) := by decide +kernel
theorem dX0_headBefore_17 : decode cX0_headBefore 17 = .ok (.invokevirtual 27, 3) := by decide +kernel
theorem dX0_headBefore_20 : decode cX0_headBefore 20 = .ok (.iadd, 1) := by decide +kernel
theorem dX0_headBefore_21 : decode cX0_headBefore 21 = .ok (.iadd, 1) := by decide +kernel
theorem dX0_headBefore_22 : decode cX0_headBefore 22 = .ok (.istore_n 3, 1) := by decide +kernel
theorem dX0_headBefore_23 : decode cX0_headBefore 23 = .ok (.goto (-17), 3) := by decide +kernel
theorem dX0_headBefore_26 : decode cX0_headBefore 26 = .ok (.iload_n 2, 1) := by decide +kernel
theorem dX0_headBefore_27 : decode cX0_headBefore 27 = .ok (.ireturn, 1) := by decide +kernel
theorem dX0_freeAt_0 : decode cX0_freeAt 0 = .ok (.aload_n 0, 1) := by decide +kernel
theorem dX0_freeAt_1 : decode cX0_freeAt 1 = .ok (.iload_n 1, 1) := by decide +kernel
theorem dX0_freeAt_2 : decode cX0_freeAt 2 = .ok (.invokevirtual 23, 3) := by decide +kernel
theorem dX0_freeAt_5 : decode cX0_freeAt 5 = .ok (.ifCond .eq 7, 3) := by decide +kernel
theorem dX0_freeAt_8 : decode cX0_freeAt 8 = .ok (.iconst 0, 1) := by decide +kernel
theorem dX0_freeAt_9 : decode cX0_freeAt 9 = .ok (.goto 8, 3) := by decide +kernel
theorem dX0_freeAt_12 : decode cX0_freeAt 12 = .ok (.aload_n 0, 1) := by decide +kernel
theorem dX0_freeAt_13 : decode cX0_freeAt 13 = .ok (.iload_n 1, 1) := by decide +kernel
theorem dX0_freeAt_14 : decode cX0_freeAt 14 = .ok (.invokevirtual 27, 3) := by decide +kernel
theorem dX0_freeAt_17 : decode cX0_freeAt 17 = .ok (.ireturn, 1) := by decide +kernel
end
section
-- rows of claim/NAMES.whole.lean.txt (starting text): what each instruction is
theorem dX1_init_0 : decode cX1_init 0 = .ok (.aload_n 0, 1) := by decide +kernel
theorem dX1_init_1 : decode cX1_init 1 = .ok (.invokespecial 3, 3) := by decide +kernel
theorem dX1_init_4 : decode cX1_init 4 = .ok (.aload_n 0, 1) := by decide +kernel
theorem dX1_init_5 : decode cX1_init 5 = .ok (.sipush 1024, 3) := by decide +kernel
theorem dX1_init_8 : decode cX1_init 8 = .ok (.newarray .long, 2) := by decide +kernel
theorem dX1_init_10 : decode cX1_init 10 = .ok (.putfield 9, 3) := by decide +kernel
theorem dX1_init_13 : decode cX1_init 13 = .ok (.aload_n 0, 1) := by decide +kernel
theorem dX1_init_14 : decode cX1_init 14 = .ok (.sipush 1024, 3) := by decide +kernel
theorem dX1_init_17 : decode cX1_init 17 = .ok (.newarray .long, 2) := by decide +kernel
theorem dX1_init_19 : decode cX1_init 19 = .ok (.putfield 15, 3) := by decide +kernel
theorem dX1_init_22 : decode cX1_init 22 = .ok (.aload_n 0, 1) := by decide +kernel
theorem dX1_init_23 : decode cX1_init 23 = .ok (.sipush 1024, 3) := by decide +kernel
theorem dX1_init_26 : decode cX1_init 26 = .ok (.newarray .boolean, 2) := by decide +kernel
theorem dX1_init_28 : decode cX1_init 28 = .ok (.putfield 18, 3) := by decide +kernel
theorem dX1_init_31 : decode cX1_init 31 = .ok (.aload_n 0, 1) := by decide +kernel
theorem dX1_init_32 : decode cX1_init 32 = .ok (.bipush 96, 2) := by decide +kernel
theorem dX1_init_34 : decode cX1_init 34 = .ok (.newarray .int, 2) := by decide +kernel
theorem dX1_init_36 : decode cX1_init 36 = .ok (.putfield 22, 3) := by decide +kernel
theorem dX1_init_39 : decode cX1_init 39 = .ok (.return_, 1) := by decide +kernel
theorem dX1_areOpen_0 : decode cX1_areOpen 0 = .ok (.aload_n 0, 1) := by decide +kernel
theorem dX1_areOpen_1 : decode cX1_areOpen 1 = .ok (.getfield 26, 3) := by decide +kernel
theorem dX1_areOpen_4 : decode cX1_areOpen 4 = .ok (.ireturn, 1) := by decide +kernel
theorem dX1_size_0 : decode cX1_size 0 = .ok (.aload_n 0, 1) := by decide +kernel
theorem dX1_size_1 : decode cX1_size 1 = .ok (.getfield 30, 3) := by decide +kernel
theorem dX1_size_4 : decode cX1_size 4 = .ok (.ireturn, 1) := by decide +kernel
theorem dX1_place_0 : decode cX1_place 0 = .ok (.iload_n 1, 1) := by decide +kernel
theorem dX1_place_1 : decode cX1_place 1 = .ok (.ifCond .lt 26, 3) := by decide +kernel
theorem dX1_place_4 : decode cX1_place 4 = .ok (.iload_n 1, 1) := by decide +kernel
theorem dX1_place_5 : decode cX1_place 5 = .ok (.aload_n 0, 1) := by decide +kernel
theorem dX1_place_6 : decode cX1_place 6 = .ok (.getfield 30, 3) := by decide +kernel
theorem dX1_place_9 : decode cX1_place 9 = .ok (.if_icmp .ge 18, 3) := by decide +kernel
theorem dX1_place_12 : decode cX1_place 12 = .ok (.iload_n 1, 1) := by decide +kernel
theorem dX1_place_13 : decode cX1_place 13 = .ok (.bipush 96, 2) := by decide +kernel
theorem dX1_place_15 : decode cX1_place 15 = .ok (.if_icmp .ge 12, 3) := by decide +kernel
theorem dX1_place_18 : decode cX1_place 18 = .ok (.aload_n 0, 1) := by decide +kernel
theorem dX1_place_19 : decode cX1_place 19 = .ok (.getfield 22, 3) := by decide +kernel
theorem dX1_place_22 : decode cX1_place 22 = .ok (.iload_n 1, 1) := by decide +kernel
theorem dX1_place_23 : decode cX1_place 23 = .ok (.iaload, 1) := by decide +kernel
theorem dX1_place_24 : decode cX1_place 24 = .ok (.goto 4, 3) := by decide +kernel
theorem dX1_place_27 : decode cX1_place 27 = .ok (.iconst (-1), 1) := by decide +kernel
theorem dX1_place_28 : decode cX1_place 28 = .ok (.ireturn, 1) := by decide +kernel
theorem dX1_read_0 : decode cX1_read 0 = .ok (.iload_n 1, 1) := by decide +kernel
theorem dX1_read_1 : decode cX1_read 1 = .ok (.invokestatic 34, 3) := by decide +kernel
theorem dX1_read_4 : decode cX1_read 4 = .ok (.ifCond .eq 12, 3) := by decide +kernel
theorem dX1_read_7 : decode cX1_read 7 = .ok (.aload_n 0, 1) := by decide +kernel
theorem dX1_read_8 : decode cX1_read 8 = .ok (.getfield 15, 3) := by decide +kernel
theorem dX1_read_11 : decode cX1_read 11 = .ok (.iload_n 1, 1) := by decide +kernel
theorem dX1_read_12 : decode cX1_read 12 = .ok (.laload, 1) := by decide +kernel
theorem dX1_read_13 : decode cX1_read 13 = .ok (.goto 4, 3) := by decide +kernel
theorem dX1_read_16 : decode cX1_read 16 = .ok (.lconst 0, 1) := by decide +kernel
theorem dX1_read_17 : decode cX1_read 17 = .ok (.lreturn, 1) := by decide +kernel
theorem dX1_start_0 : decode cX1_start 0 = .ok (.aload_n 0, 1) := by decide +kernel
theorem dX1_start_1 : decode cX1_start 1 = .ok (.iconst 1, 1) := by decide +kernel
theorem dX1_start_2 : decode cX1_start 2 = .ok (.putfield 26, 3) := by decide +kernel
theorem dX1_start_5 : decode cX1_start 5 = .ok (.return_, 1) := by decide +kernel
theorem dX1_cost_0 : decode cX1_cost 0 = .ok (.iload_n 1, 1) := by decide +kernel
theorem dX1_cost_1 : decode cX1_cost 1 = .ok (.invokestatic 34, 3) := by decide +kernel
theorem dX1_cost_4 : decode cX1_cost 4 = .ok (.ifCond .eq 23, 3) := by decide +kernel
theorem dX1_cost_7 : decode cX1_cost 7 = .ok (.aload_n 0, 1) := by decide +kernel
theorem dX1_cost_8 : decode cX1_cost 8 = .ok (.getfield 18, 3) := by decide +kernel
theorem dX1_cost_11 : decode cX1_cost 11 = .ok (.iload_n 1, 1) := by decide +kernel
theorem dX1_cost_12 : decode cX1_cost 12 = .ok (.baload, 1) := by decide +kernel
theorem dX1_cost_13 : decode cX1_cost 13 = .ok (.ifCond .ne 14, 3) := by decide +kernel
theorem dX1_cost_16 : decode cX1_cost 16 = .ok (.aload_n 0, 1) := by decide +kernel
theorem dX1_cost_17 : decode cX1_cost 17 = .ok (.getfield 15, 3) := by decide +kernel
theorem dX1_cost_20 : decode cX1_cost 20 = .ok (.iload_n 1, 1) := by decide +kernel
theorem dX1_cost_21 : decode cX1_cost 21 = .ok (.laload, 1) := by decide +kernel
theorem dX1_cost_22 : decode cX1_cost 22 = .ok (.lload_n 2, 1) := by decide +kernel
theorem dX1_cost_23 : decode cX1_cost 23 = .ok (.lcmp, 1) := by decide +kernel
theorem dX1_cost_24 : decode cX1_cost 24 = .ok (.ifCond .ne 7, 3) := by decide +kernel
theorem dX1_cost_27 : decode cX1_cost 27 = .ok (.iconst 0, 1) := by decide +kernel
theorem dX1_cost_28 : decode cX1_cost 28 = .ok (.goto 4, 3) := by decide +kernel
theorem dX1_cost_31 : decode cX1_cost 31 = .ok (.iconst 1, 1) := by decide +kernel
theorem dX1_cost_32 : decode cX1_cost 32 = .ok (.ireturn, 1) := by decide +kernel
theorem dX1_haveRoomFor_0 : decode cX1_haveRoomFor 0 = .ok (.aload_n 0, 1) := by decide +kernel
theorem dX1_haveRoomFor_1 : decode cX1_haveRoomFor 1 = .ok (.getfield 30, 3) := by decide +kernel
theorem dX1_haveRoomFor_4 : decode cX1_haveRoomFor 4 = .ok (.iload_n 1, 1) := by decide +kernel
theorem dX1_haveRoomFor_5 : decode cX1_haveRoomFor 5 = .ok (.iadd, 1) := by decide +kernel
theorem dX1_haveRoomFor_6 : decode cX1_haveRoomFor 6 = .ok (.bipush 96, 2) := by decide +kernel
theorem dX1_haveRoomFor_8 : decode cX1_haveRoomFor 8 = .ok (.if_icmp .gt 7, 3) := by decide +kernel
theorem dX1_haveRoomFor_11 : decode cX1_haveRoomFor 11 = .ok (.iconst 1, 1) := by decide +kernel
theorem dX1_haveRoomFor_12 : decode cX1_haveRoomFor 12 = .ok (.goto 4, 3) := by decide +kernel
theorem dX1_haveRoomFor_15 : decode cX1_haveRoomFor 15 = .ok (.iconst 0, 1) := by decide +kernel
theorem dX1_haveRoomFor_16 : decode cX1_haveRoomFor 16 = .ok (.ireturn, 1) := by decide +kernel
theorem dX1_change_0 : decode cX1_change 0 = .ok (.aload_n 0, 1) := by decide +kernel
theorem dX1_change_1 : decode cX1_change 1 = .ok (.iload_n 1, 1) := by decide +kernel
theorem dX1_change_2 : decode cX1_change 2 = .ok (.lload_n 2, 1) := by decide +kernel
theorem dX1_change_3 : decode cX1_change 3 = .ok (.invokevirtual 38, 3) := by decide +kernel
theorem dX1_change_6 : decode cX1_change 6 = .ok (.istore 4, 2) := by decide +kernel
theorem dX1_change_8 : decode cX1_change 8 = .ok (.iload_n 1, 1) := by decide +kernel
theorem dX1_change_9 : decode cX1_change 9 = .ok (.invokestatic 34, 3) := by decide +kernel
theorem dX1_change_12 : decode cX1_change 12 = .ok (.ifCond .eq 12, 3) := by decide +kernel
theorem dX1_change_15 : decode cX1_change 15 = .ok (.aload_n 0, 1) := by decide +kernel
theorem dX1_change_16 : decode cX1_change 16 = .ok (.iload 4, 2) := by decide +kernel
theorem dX1_change_18 : decode cX1_change 18 = .ok (.invokevirtual 42, 3) := by decide +kernel
theorem dX1_change_21 : decode cX1_change 21 = .ok (.ifCond .ne 5, 3) := by decide +kernel
theorem dX1_change_24 : decode cX1_change 24 = .ok (.iconst 0, 1) := by decide +kernel
theorem dX1_change_25 : decode cX1_change 25 = .ok (.ireturn, 1) := by decide +kernel
theorem dX1_change_26 : decode cX1_change 26 = .ok (.iload 4, 2) := by decide +kernel
theorem dX1_change_28 : decode cX1_change 28 = .ok (.ifCond .le 15, 3) := by decide +kernel
theorem dX1_change_31 : decode cX1_change 31 = .ok (.aload_n 0, 1) := by decide +kernel
theorem dX1_change_32 : decode cX1_change 32 = .ok (.getfield 18, 3) := by decide +kernel
theorem dX1_change_35 : decode cX1_change 35 = .ok (.iload_n 1, 1) := by decide +kernel
theorem dX1_change_36 : decode cX1_change 36 = .ok (.iconst 1, 1) := by decide +kernel
theorem dX1_change_37 : decode cX1_change 37 = .ok (.bastore, 1) := by decide +kernel
theorem dX1_change_38 : decode cX1_change 38 = .ok (.aload_n 0, 1) := by decide +kernel
theorem dX1_change_39 : decode cX1_change 39 = .ok (.iload_n 1, 1) := by decide +kernel
theorem dX1_change_40 : decode cX1_change 40 = .ok (.invokevirtual 45, 3) := by decide +kernel
theorem dX1_change_43 : decode cX1_change 43 = .ok (.aload_n 0, 1) := by decide +kernel
theorem dX1_change_44 : decode cX1_change 44 = .ok (.getfield 15, 3) := by decide +kernel
theorem dX1_change_47 : decode cX1_change 47 = .ok (.iload_n 1, 1) := by decide +kernel
theorem dX1_change_48 : decode cX1_change 48 = .ok (.lload_n 2, 1) := by decide +kernel
theorem dX1_change_49 : decode cX1_change 49 = .ok (.lastore, 1) := by decide +kernel
theorem dX1_change_50 : decode cX1_change 50 = .ok (.iconst 1, 1) := by decide +kernel
theorem dX1_change_51 : decode cX1_change 51 = .ok (.ireturn, 1) := by decide +kernel
theorem dX1_accept_0 : decode cX1_accept 0 = .ok (.iconst 0, 1) := by decide +kernel
theorem dX1_accept_1 : decode cX1_accept 1 = .ok (.istore_n 1, 1) := by decide +kernel
theorem dX1_accept_2 : decode cX1_accept 2 = .ok (.iload_n 1, 1) := by decide +kernel
theorem dX1_accept_3 : decode cX1_accept 3 = .ok (.aload_n 0, 1) := by decide +kernel
theorem dX1_accept_4 : decode cX1_accept 4 = .ok (.getfield 30, 3) := by decide +kernel
theorem dX1_accept_7 : decode cX1_accept 7 = .ok (.if_icmp .ge 34, 3) := by decide +kernel
theorem dX1_accept_10 : decode cX1_accept 10 = .ok (.aload_n 0, 1) := by decide +kernel
theorem dX1_accept_11 : decode cX1_accept 11 = .ok (.iload_n 1, 1) := by decide +kernel
theorem dX1_accept_12 : decode cX1_accept 12 = .ok (.invokevirtual 49, 3) := by decide +kernel
theorem dX1_accept_15 : decode cX1_accept 15 = .ok (.istore_n 2, 1) := by decide +kernel
theorem dX1_accept_16 : decode cX1_accept 16 = .ok (.iload_n 2, 1) := by decide +kernel
theorem dX1_accept_17 : decode cX1_accept 17 = .ok (.invokestatic 34, 3) := by decide +kernel
theorem dX1_accept_20 : decode cX1_accept 20 = .ok (.ifCond .eq 15, 3) := by decide +kernel
theorem dX1_accept_23 : decode cX1_accept 23 = .ok (.aload_n 0, 1) := by decide +kernel
theorem dX1_accept_24 : decode cX1_accept 24 = .ok (.getfield 9, 3) := by decide +kernel
theorem dX1_accept_27 : decode cX1_accept 27 = .ok (.iload_n 2, 1) := by decide +kernel
theorem dX1_accept_28 : decode cX1_accept 28 = .ok (.aload_n 0, 1) := by decide +kernel
theorem dX1_accept_29 : decode cX1_accept 29 = .ok (.getfield 15, 3) := by decide +kernel
theorem dX1_accept_32 : decode cX1_accept 32 = .ok (.iload_n 2, 1) := by decide +kernel
theorem dX1_accept_33 : decode cX1_accept 33 = .ok (.laload, 1) := by decide +kernel
theorem dX1_accept_34 : decode cX1_accept 34 = .ok (.lastore, 1) := by decide +kernel
theorem dX1_accept_35 : decode cX1_accept 35 = .ok (.iinc 1 1, 3) := by decide +kernel
theorem dX1_accept_38 : decode cX1_accept 38 = .ok (.goto (-36), 3) := by decide +kernel
theorem dX1_accept_41 : decode cX1_accept 41 = .ok (.aload_n 0, 1) := by decide +kernel
theorem dX1_accept_42 : decode cX1_accept 42 = .ok (.invokevirtual 53, 3) := by decide +kernel
theorem dX1_accept_45 : decode cX1_accept 45 = .ok (.return_, 1) := by decide +kernel
theorem dX1_takeBack_0 : decode cX1_takeBack 0 = .ok (.iconst 0, 1) := by decide +kernel
theorem dX1_takeBack_1 : decode cX1_takeBack 1 = .ok (.istore_n 1, 1) := by decide +kernel
theorem dX1_takeBack_2 : decode cX1_takeBack 2 = .ok (.iload_n 1, 1) := by decide +kernel
theorem dX1_takeBack_3 : decode cX1_takeBack 3 = .ok (.aload_n 0, 1) := by decide +kernel
theorem dX1_takeBack_4 : decode cX1_takeBack 4 = .ok (.getfield 30, 3) := by decide +kernel
theorem dX1_takeBack_7 : decode cX1_takeBack 7 = .ok (.if_icmp .ge 34, 3) := by decide +kernel
theorem dX1_takeBack_10 : decode cX1_takeBack 10 = .ok (.aload_n 0, 1) := by decide +kernel
theorem dX1_takeBack_11 : decode cX1_takeBack 11 = .ok (.iload_n 1, 1) := by decide +kernel
theorem dX1_takeBack_12 : decode cX1_takeBack 12 = .ok (.invokevirtual 49, 3) := by decide +kernel
theorem dX1_takeBack_15 : decode cX1_takeBack 15 = .ok (.istore_n 2, 1) := by decide +kernel
theorem dX1_takeBack_16 : decode cX1_takeBack 16 = .ok (.iload_n 2, 1) := by decide +kernel
theorem dX1_takeBack_17 : decode cX1_takeBack 17 = .ok (.invokestatic 34, 3) := by decide +kernel
theorem dX1_takeBack_20 : decode cX1_takeBack 20 = .ok (.ifCond .eq 15, 3) := by decide +kernel
theorem dX1_takeBack_23 : decode cX1_takeBack 23 = .ok (.aload_n 0, 1) := by decide +kernel
theorem dX1_takeBack_24 : decode cX1_takeBack 24 = .ok (.getfield 15, 3) := by decide +kernel
theorem dX1_takeBack_27 : decode cX1_takeBack 27 = .ok (.iload_n 2, 1) := by decide +kernel
theorem dX1_takeBack_28 : decode cX1_takeBack 28 = .ok (.aload_n 0, 1) := by decide +kernel
theorem dX1_takeBack_29 : decode cX1_takeBack 29 = .ok (.getfield 9, 3) := by decide +kernel
theorem dX1_takeBack_32 : decode cX1_takeBack 32 = .ok (.iload_n 2, 1) := by decide +kernel
theorem dX1_takeBack_33 : decode cX1_takeBack 33 = .ok (.laload, 1) := by decide +kernel
theorem dX1_takeBack_34 : decode cX1_takeBack 34 = .ok (.lastore, 1) := by decide +kernel
theorem dX1_takeBack_35 : decode cX1_takeBack 35 = .ok (.iinc 1 1, 3) := by decide +kernel
theorem dX1_takeBack_38 : decode cX1_takeBack 38 = .ok (.goto (-36), 3) := by decide +kernel
theorem dX1_takeBack_41 : decode cX1_takeBack 41 = .ok (.aload_n 0, 1) := by decide +kernel
theorem dX1_takeBack_42 : decode cX1_takeBack 42 = .ok (.invokevirtual 53, 3) := by decide +kernel
theorem dX1_takeBack_45 : decode cX1_takeBack 45 = .ok (.return_, 1) := by decide +kernel
theorem dX1_drop_0 : decode cX1_drop 0 = .ok (.iconst 0, 1) := by decide +kernel
theorem dX1_drop_1 : decode cX1_drop 1 = .ok (.istore_n 1, 1) := by decide +kernel
theorem dX1_drop_2 : decode cX1_drop 2 = .ok (.iload_n 1, 1) := by decide +kernel
theorem dX1_drop_3 : decode cX1_drop 3 = .ok (.aload_n 0, 1) := by decide +kernel
theorem dX1_drop_4 : decode cX1_drop 4 = .ok (.getfield 30, 3) := by decide +kernel
theorem dX1_drop_7 : decode cX1_drop 7 = .ok (.if_icmp .ge 29, 3) := by decide +kernel
theorem dX1_drop_10 : decode cX1_drop 10 = .ok (.aload_n 0, 1) := by decide +kernel
theorem dX1_drop_11 : decode cX1_drop 11 = .ok (.iload_n 1, 1) := by decide +kernel
theorem dX1_drop_12 : decode cX1_drop 12 = .ok (.invokevirtual 49, 3) := by decide +kernel
theorem dX1_drop_15 : decode cX1_drop 15 = .ok (.istore_n 2, 1) := by decide +kernel
theorem dX1_drop_16 : decode cX1_drop 16 = .ok (.iload_n 2, 1) := by decide +kernel
theorem dX1_drop_17 : decode cX1_drop 17 = .ok (.invokestatic 34, 3) := by decide +kernel
theorem dX1_drop_20 : decode cX1_drop 20 = .ok (.ifCond .eq 10, 3) := by decide +kernel
theorem dX1_drop_23 : decode cX1_drop 23 = .ok (.aload_n 0, 1) := by decide +kernel
theorem dX1_drop_24 : decode cX1_drop 24 = .ok (.getfield 18, 3) := by decide +kernel
theorem dX1_drop_27 : decode cX1_drop 27 = .ok (.iload_n 2, 1) := by decide +kernel
theorem dX1_drop_28 : decode cX1_drop 28 = .ok (.iconst 0, 1) := by decide +kernel
theorem dX1_drop_29 : decode cX1_drop 29 = .ok (.bastore, 1) := by decide +kernel
theorem dX1_drop_30 : decode cX1_drop 30 = .ok (.iinc 1 1, 3) := by decide +kernel
theorem dX1_drop_33 : decode cX1_drop 33 = .ok (.goto (-31), 3) := by decide +kernel
theorem dX1_drop_36 : decode cX1_drop 36 = .ok (.aload_n 0, 1) := by decide +kernel
theorem dX1_drop_37 : decode cX1_drop 37 = .ok (.iconst 0, 1) := by decide +kernel
theorem dX1_drop_38 : decode cX1_drop 38 = .ok (.putfield 30, 3) := by decide +kernel
theorem dX1_drop_41 : decode cX1_drop 41 = .ok (.aload_n 0, 1) := by decide +kernel
theorem dX1_drop_42 : decode cX1_drop 42 = .ok (.iconst 0, 1) := by decide +kernel
theorem dX1_drop_43 : decode cX1_drop 43 = .ok (.putfield 26, 3) := by decide +kernel
theorem dX1_drop_46 : decode cX1_drop 46 = .ok (.return_, 1) := by decide +kernel
theorem dX1_load_0 : decode cX1_load 0 = .ok (.iconst 0, 1) := by decide +kernel
theorem dX1_load_1 : decode cX1_load 1 = .ok (.istore_n 2, 1) := by decide +kernel
theorem dX1_load_2 : decode cX1_load 2 = .ok (.iload_n 2, 1) := by decide +kernel
theorem dX1_load_3 : decode cX1_load 3 = .ok (.sipush 1024, 3) := by decide +kernel
theorem dX1_load_6 : decode cX1_load 6 = .ok (.if_icmp .ge 20, 3) := by decide +kernel
theorem dX1_load_9 : decode cX1_load 9 = .ok (.aload_n 0, 1) := by decide +kernel
theorem dX1_load_10 : decode cX1_load 10 = .ok (.getfield 9, 3) := by decide +kernel
theorem dX1_load_13 : decode cX1_load 13 = .ok (.iload_n 2, 1) := by decide +kernel
theorem dX1_load_14 : decode cX1_load 14 = .ok (.aload_n 1, 1) := by decide +kernel
theorem dX1_load_15 : decode cX1_load 15 = .ok (.iload_n 2, 1) := by decide +kernel
theorem dX1_load_16 : decode cX1_load 16 = .ok (.invokevirtual 56, 3) := by decide +kernel
theorem dX1_load_19 : decode cX1_load 19 = .ok (.lastore, 1) := by decide +kernel
theorem dX1_load_20 : decode cX1_load 20 = .ok (.iinc 2 1, 3) := by decide +kernel
theorem dX1_load_23 : decode cX1_load 23 = .ok (.goto (-21), 3) := by decide +kernel
theorem dX1_load_26 : decode cX1_load 26 = .ok (.aload_n 0, 1) := by decide +kernel
theorem dX1_load_27 : decode cX1_load 27 = .ok (.getfield 9, 3) := by decide +kernel
theorem dX1_load_30 : decode cX1_load 30 = .ok (.iconst 0, 1) := by decide +kernel
theorem dX1_load_31 : decode cX1_load 31 = .ok (.aload_n 0, 1) := by decide +kernel
theorem dX1_load_32 : decode cX1_load 32 = .ok (.getfield 15, 3) := by decide +kernel
theorem dX1_load_35 : decode cX1_load 35 = .ok (.iconst 0, 1) := by decide +kernel
theorem dX1_load_36 : decode cX1_load 36 = .ok (.sipush 1024, 3) := by decide +kernel
theorem dX1_load_39 : decode cX1_load 39 = .ok (.invokestatic 62, 3) := by decide +kernel
theorem dX1_load_42 : decode cX1_load 42 = .ok (.return_, 1) := by decide +kernel
theorem dX1_insert_0 : decode cX1_insert 0 = .ok (.aload_n 0, 1) := by decide +kernel
theorem dX1_insert_1 : decode cX1_insert 1 = .ok (.getfield 30, 3) := by decide +kernel
theorem dX1_insert_4 : decode cX1_insert 4 = .ok (.bipush 96, 2) := by decide +kernel
theorem dX1_insert_6 : decode cX1_insert 6 = .ok (.if_icmp .lt 4, 3) := by decide +kernel
theorem dX1_insert_9 : decode cX1_insert 9 = .ok (.return_, 1) := by decide +kernel
theorem dX1_insert_10 : decode cX1_insert 10 = .ok (.aload_n 0, 1) := by decide +kernel
theorem dX1_insert_11 : decode cX1_insert 11 = .ok (.getfield 30, 3) := by decide +kernel
theorem dX1_insert_14 : decode cX1_insert 14 = .ok (.istore_n 2, 1) := by decide +kernel
theorem dX1_insert_15 : decode cX1_insert 15 = .ok (.iload_n 2, 1) := by decide +kernel
theorem dX1_insert_16 : decode cX1_insert 16 = .ok (.ifCond .le 35, 3) := by decide +kernel
theorem dX1_insert_19 : decode cX1_insert 19 = .ok (.aload_n 0, 1) := by decide +kernel
theorem dX1_insert_20 : decode cX1_insert 20 = .ok (.getfield 22, 3) := by decide +kernel
theorem dX1_insert_23 : decode cX1_insert 23 = .ok (.iload_n 2, 1) := by decide +kernel
theorem dX1_insert_24 : decode cX1_insert 24 = .ok (.iconst 1, 1) := by decide +kernel
theorem dX1_insert_25 : decode cX1_insert 25 = .ok (.isub, 1) := by decide +kernel
theorem dX1_insert_26 : decode cX1_insert 26 = .ok (.iaload, 1) := by decide +kernel
theorem dX1_insert_27 : decode cX1_insert 27 = .ok (.iload_n 1, 1) := by decide +kernel
theorem dX1_insert_28 : decode cX1_insert 28 = .ok (.if_icmp .le 23, 3) := by decide +kernel
theorem dX1_insert_31 : decode cX1_insert 31 = .ok (.aload_n 0, 1) := by decide +kernel
theorem dX1_insert_32 : decode cX1_insert 32 = .ok (.getfield 22, 3) := by decide +kernel
theorem dX1_insert_35 : decode cX1_insert 35 = .ok (.iload_n 2, 1) := by decide +kernel
theorem dX1_insert_36 : decode cX1_insert 36 = .ok (.aload_n 0, 1) := by decide +kernel
theorem dX1_insert_37 : decode cX1_insert 37 = .ok (.getfield 22, 3) := by decide +kernel
theorem dX1_insert_40 : decode cX1_insert 40 = .ok (.iload_n 2, 1) := by decide +kernel
theorem dX1_insert_41 : decode cX1_insert 41 = .ok (.iconst 1, 1) := by decide +kernel
theorem dX1_insert_42 : decode cX1_insert 42 = .ok (.isub, 1) := by decide +kernel
theorem dX1_insert_43 : decode cX1_insert 43 = .ok (.iaload, 1) := by decide +kernel
theorem dX1_insert_44 : decode cX1_insert 44 = .ok (.iastore, 1) := by decide +kernel
theorem dX1_insert_45 : decode cX1_insert 45 = .ok (.iinc 2 (-1), 3) := by decide +kernel
theorem dX1_insert_48 : decode cX1_insert 48 = .ok (.goto (-33), 3) := by decide +kernel
theorem dX1_insert_51 : decode cX1_insert 51 = .ok (.aload_n 0, 1) := by decide +kernel
theorem dX1_insert_52 : decode cX1_insert 52 = .ok (.getfield 22, 3) := by decide +kernel
theorem dX1_insert_55 : decode cX1_insert 55 = .ok (.iload_n 2, 1) := by decide +kernel
theorem dX1_insert_56 : decode cX1_insert 56 = .ok (.iload_n 1, 1) := by decide +kernel
theorem dX1_insert_57 : decode cX1_insert 57 = .ok (.iastore, 1) := by decide +kernel
theorem dX1_insert_58 : decode cX1_insert 58 = .ok (.aload_n 0, 1) := by decide +kernel
theorem dX1_insert_59 : decode cX1_insert 59 = .ok (.dup, 1) := by decide +kernel
theorem dX1_insert_60 : decode cX1_insert 60 = .ok (.getfield 30, 3) := by decide +kernel
theorem dX1_insert_63 : decode cX1_insert 63 = .ok (.iconst 1, 1) := by decide +kernel
theorem dX1_insert_64 : decode cX1_insert 64 = .ok (.iadd, 1) := by decide +kernel
theorem dX1_insert_65 : decode cX1_insert 65 = .ok (.putfield 30, 3) := by decide +kernel
theorem dX1_insert_68 : decode cX1_insert 68 = .ok (.return_, 1) := by decide +kernel
end
section
-- rows of claim/NAMES.whole.lean.txt (starting text): what each instruction is
theorem dX2_init_0 : decode cX2_init 0 = .ok (.aload_n 0, 1) := by decide +kernel
theorem dX2_init_1 : decode cX2_init 1 = .ok (.invokespecial 3, 3) := by decide +kernel
theorem dX2_init_4 : decode cX2_init 4 = .ok (.aload_n 0, 1) := by decide +kernel
theorem dX2_init_5 : decode cX2_init 5 = .ok (.sipush 1024, 3) := by decide +kernel
theorem dX2_init_8 : decode cX2_init 8 = .ok (.newarray .long, 2) := by decide +kernel
theorem dX2_init_10 : decode cX2_init 10 = .ok (.putfield 9, 3) := by decide +kernel
theorem dX2_init_13 : decode cX2_init 13 = .ok (.aload_n 0, 1) := by decide +kernel
theorem dX2_init_14 : decode cX2_init 14 = .ok (.sipush 1024, 3) := by decide +kernel
theorem dX2_init_17 : decode cX2_init 17 = .ok (.newarray .long, 2) := by decide +kernel
theorem dX2_init_19 : decode cX2_init 19 = .ok (.putfield 15, 3) := by decide +kernel
theorem dX2_init_22 : decode cX2_init 22 = .ok (.aload_n 0, 1) := by decide +kernel
theorem dX2_init_23 : decode cX2_init 23 = .ok (.sipush 320, 3) := by decide +kernel
theorem dX2_init_26 : decode cX2_init 26 = .ok (.newarray .int, 2) := by decide +kernel
theorem dX2_init_28 : decode cX2_init 28 = .ok (.putfield 18, 3) := by decide +kernel
theorem dX2_init_31 : decode cX2_init 31 = .ok (.aload_n 0, 1) := by decide +kernel
theorem dX2_init_32 : decode cX2_init 32 = .ok (.sipush 320, 3) := by decide +kernel
theorem dX2_init_35 : decode cX2_init 35 = .ok (.newarray .long, 2) := by decide +kernel
theorem dX2_init_37 : decode cX2_init 37 = .ok (.putfield 22, 3) := by decide +kernel
theorem dX2_init_40 : decode cX2_init 40 = .ok (.return_, 1) := by decide +kernel
theorem dX2_isOn_0 : decode cX2_isOn 0 = .ok (.aload_n 0, 1) := by decide +kernel
theorem dX2_isOn_1 : decode cX2_isOn 1 = .ok (.getfield 25, 3) := by decide +kernel
theorem dX2_isOn_4 : decode cX2_isOn 4 = .ok (.ireturn, 1) := by decide +kernel
theorem dX2_waiting_0 : decode cX2_waiting 0 = .ok (.aload_n 0, 1) := by decide +kernel
theorem dX2_waiting_1 : decode cX2_waiting 1 = .ok (.getfield 29, 3) := by decide +kernel
theorem dX2_waiting_4 : decode cX2_waiting 4 = .ok (.ireturn, 1) := by decide +kernel
theorem dX2_writes_0 : decode cX2_writes 0 = .ok (.aload_n 0, 1) := by decide +kernel
theorem dX2_writes_1 : decode cX2_writes 1 = .ok (.getfield 33, 3) := by decide +kernel
theorem dX2_writes_4 : decode cX2_writes 4 = .ok (.ireturn, 1) := by decide +kernel
theorem dX2_syncs_0 : decode cX2_syncs 0 = .ok (.aload_n 0, 1) := by decide +kernel
theorem dX2_syncs_1 : decode cX2_syncs 1 = .ok (.getfield 36, 3) := by decide +kernel
theorem dX2_syncs_4 : decode cX2_syncs 4 = .ok (.ireturn, 1) := by decide +kernel
theorem dX2_failures_0 : decode cX2_failures 0 = .ok (.aload_n 0, 1) := by decide +kernel
theorem dX2_failures_1 : decode cX2_failures 1 = .ok (.getfield 39, 3) := by decide +kernel
theorem dX2_failures_4 : decode cX2_failures 4 = .ok (.ireturn, 1) := by decide +kernel
theorem dX2_lost_0 : decode cX2_lost 0 = .ok (.aload_n 0, 1) := by decide +kernel
theorem dX2_lost_1 : decode cX2_lost 1 = .ok (.getfield 42, 3) := by decide +kernel
theorem dX2_lost_4 : decode cX2_lost 4 = .ok (.ireturn, 1) := by decide +kernel
theorem dX2_settled_0 : decode cX2_settled 0 = .ok (.iload_n 1, 1) := by decide +kernel
theorem dX2_settled_1 : decode cX2_settled 1 = .ok (.invokestatic 45, 3) := by decide +kernel
theorem dX2_settled_4 : decode cX2_settled 4 = .ok (.ifCond .eq 12, 3) := by decide +kernel
theorem dX2_settled_7 : decode cX2_settled 7 = .ok (.aload_n 0, 1) := by decide +kernel
theorem dX2_settled_8 : decode cX2_settled 8 = .ok (.getfield 9, 3) := by decide +kernel
theorem dX2_settled_11 : decode cX2_settled 11 = .ok (.iload_n 1, 1) := by decide +kernel
theorem dX2_settled_12 : decode cX2_settled 12 = .ok (.laload, 1) := by decide +kernel
theorem dX2_settled_13 : decode cX2_settled 13 = .ok (.goto 4, 3) := by decide +kernel
theorem dX2_settled_16 : decode cX2_settled 16 = .ok (.lconst 0, 1) := by decide +kernel
theorem dX2_settled_17 : decode cX2_settled 17 = .ok (.lreturn, 1) := by decide +kernel
theorem dX2_read_0 : decode cX2_read 0 = .ok (.iload_n 1, 1) := by decide +kernel
theorem dX2_read_1 : decode cX2_read 1 = .ok (.invokestatic 45, 3) := by decide +kernel
theorem dX2_read_4 : decode cX2_read 4 = .ok (.ifCond .eq 12, 3) := by decide +kernel
theorem dX2_read_7 : decode cX2_read 7 = .ok (.aload_n 0, 1) := by decide +kernel
theorem dX2_read_8 : decode cX2_read 8 = .ok (.getfield 15, 3) := by decide +kernel
theorem dX2_read_11 : decode cX2_read 11 = .ok (.iload_n 1, 1) := by decide +kernel
theorem dX2_read_12 : decode cX2_read 12 = .ok (.laload, 1) := by decide +kernel
theorem dX2_read_13 : decode cX2_read 13 = .ok (.goto 4, 3) := by decide +kernel
theorem dX2_read_16 : decode cX2_read 16 = .ok (.lconst 0, 1) := by decide +kernel
theorem dX2_read_17 : decode cX2_read 17 = .ok (.lreturn, 1) := by decide +kernel
theorem dX2_write_0 : decode cX2_write 0 = .ok (.aload_n 0, 1) := by decide +kernel
theorem dX2_write_1 : decode cX2_write 1 = .ok (.getfield 25, 3) := by decide +kernel
theorem dX2_write_4 : decode cX2_write 4 = .ok (.ifCond .eq 20, 3) := by decide +kernel
theorem dX2_write_7 : decode cX2_write 7 = .ok (.iload_n 1, 1) := by decide +kernel
theorem dX2_write_8 : decode cX2_write 8 = .ok (.invokestatic 45, 3) := by decide +kernel
theorem dX2_write_11 : decode cX2_write 11 = .ok (.ifCond .eq 13, 3) := by decide +kernel
theorem dX2_write_14 : decode cX2_write 14 = .ok (.aload_n 0, 1) := by decide +kernel
theorem dX2_write_15 : decode cX2_write 15 = .ok (.getfield 29, 3) := by decide +kernel
theorem dX2_write_18 : decode cX2_write 18 = .ok (.sipush 320, 3) := by decide +kernel
theorem dX2_write_21 : decode cX2_write 21 = .ok (.if_icmp .lt 8, 3) := by decide +kernel
theorem dX2_write_24 : decode cX2_write 24 = .ok (.aload_n 0, 1) := by decide +kernel
theorem dX2_write_25 : decode cX2_write 25 = .ok (.getfield 25, 3) := by decide +kernel
theorem dX2_write_28 : decode cX2_write 28 = .ok (.ireturn, 1) := by decide +kernel
theorem dX2_write_29 : decode cX2_write 29 = .ok (.aload_n 0, 1) := by decide +kernel
theorem dX2_write_30 : decode cX2_write 30 = .ok (.getfield 15, 3) := by decide +kernel
theorem dX2_write_33 : decode cX2_write 33 = .ok (.iload_n 1, 1) := by decide +kernel
theorem dX2_write_34 : decode cX2_write 34 = .ok (.lload_n 2, 1) := by decide +kernel
theorem dX2_write_35 : decode cX2_write 35 = .ok (.lastore, 1) := by decide +kernel
theorem dX2_write_36 : decode cX2_write 36 = .ok (.aload_n 0, 1) := by decide +kernel
theorem dX2_write_37 : decode cX2_write 37 = .ok (.getfield 18, 3) := by decide +kernel
theorem dX2_write_40 : decode cX2_write 40 = .ok (.aload_n 0, 1) := by decide +kernel
theorem dX2_write_41 : decode cX2_write 41 = .ok (.getfield 29, 3) := by decide +kernel
theorem dX2_write_44 : decode cX2_write 44 = .ok (.iload_n 1, 1) := by decide +kernel
theorem dX2_write_45 : decode cX2_write 45 = .ok (.iastore, 1) := by decide +kernel
theorem dX2_write_46 : decode cX2_write 46 = .ok (.aload_n 0, 1) := by decide +kernel
theorem dX2_write_47 : decode cX2_write 47 = .ok (.getfield 22, 3) := by decide +kernel
theorem dX2_write_50 : decode cX2_write 50 = .ok (.aload_n 0, 1) := by decide +kernel
theorem dX2_write_51 : decode cX2_write 51 = .ok (.getfield 29, 3) := by decide +kernel
theorem dX2_write_54 : decode cX2_write 54 = .ok (.lload_n 2, 1) := by decide +kernel
theorem dX2_write_55 : decode cX2_write 55 = .ok (.lastore, 1) := by decide +kernel
theorem dX2_write_56 : decode cX2_write 56 = .ok (.aload_n 0, 1) := by decide +kernel
theorem dX2_write_57 : decode cX2_write 57 = .ok (.dup, 1) := by decide +kernel
theorem dX2_write_58 : decode cX2_write 58 = .ok (.getfield 29, 3) := by decide +kernel
theorem dX2_write_61 : decode cX2_write 61 = .ok (.iconst 1, 1) := by decide +kernel
theorem dX2_write_62 : decode cX2_write 62 = .ok (.iadd, 1) := by decide +kernel
theorem dX2_write_63 : decode cX2_write 63 = .ok (.putfield 29, 3) := by decide +kernel
theorem dX2_write_66 : decode cX2_write 66 = .ok (.aload_n 0, 1) := by decide +kernel
theorem dX2_write_67 : decode cX2_write 67 = .ok (.dup, 1) := by decide +kernel
theorem dX2_write_68 : decode cX2_write 68 = .ok (.getfield 33, 3) := by decide +kernel
theorem dX2_write_71 : decode cX2_write 71 = .ok (.iconst 1, 1) := by decide +kernel
theorem dX2_write_72 : decode cX2_write 72 = .ok (.iadd, 1) := by decide +kernel
theorem dX2_write_73 : decode cX2_write 73 = .ok (.putfield 33, 3) := by decide +kernel
theorem dX2_write_76 : decode cX2_write 76 = .ok (.aload_n 0, 1) := by decide +kernel
theorem dX2_write_77 : decode cX2_write 77 = .ok (.getfield 49, 3) := by decide +kernel
theorem dX2_write_80 : decode cX2_write 80 = .ok (.ifCond .le 28, 3) := by decide +kernel
theorem dX2_write_83 : decode cX2_write 83 = .ok (.aload_n 0, 1) := by decide +kernel
theorem dX2_write_84 : decode cX2_write 84 = .ok (.dup, 1) := by decide +kernel
theorem dX2_write_85 : decode cX2_write 85 = .ok (.getfield 49, 3) := by decide +kernel
theorem dX2_write_88 : decode cX2_write 88 = .ok (.iconst 1, 1) := by decide +kernel
theorem dX2_write_89 : decode cX2_write 89 = .ok (.isub, 1) := by decide +kernel
theorem dX2_write_90 : decode cX2_write 90 = .ok (.putfield 49, 3) := by decide +kernel
theorem dX2_write_93 : decode cX2_write 93 = .ok (.aload_n 0, 1) := by decide +kernel
theorem dX2_write_94 : decode cX2_write 94 = .ok (.getfield 49, 3) := by decide +kernel
theorem dX2_write_97 : decode cX2_write 97 = .ok (.ifCond .ne 11, 3) := by decide +kernel
theorem dX2_write_100 : decode cX2_write 100 = .ok (.aload_n 0, 1) := by decide +kernel
theorem dX2_write_101 : decode cX2_write 101 = .ok (.aload_n 0, 1) := by decide +kernel
theorem dX2_write_102 : decode cX2_write 102 = .ok (.getfield 52, 3) := by decide +kernel
theorem dX2_write_105 : decode cX2_write 105 = .ok (.invokevirtual 55, 3) := by decide +kernel
theorem dX2_write_108 : decode cX2_write 108 = .ok (.aload_n 0, 1) := by decide +kernel
theorem dX2_write_109 : decode cX2_write 109 = .ok (.getfield 25, 3) := by decide +kernel
theorem dX2_write_112 : decode cX2_write 112 = .ok (.ireturn, 1) := by decide +kernel
theorem dX2_settleAll_0 : decode cX2_settleAll 0 = .ok (.aload_n 0, 1) := by decide +kernel
theorem dX2_settleAll_1 : decode cX2_settleAll 1 = .ok (.aload_n 0, 1) := by decide +kernel
theorem dX2_settleAll_2 : decode cX2_settleAll 2 = .ok (.getfield 29, 3) := by decide +kernel
theorem dX2_settleAll_5 : decode cX2_settleAll 5 = .ok (.invokevirtual 59, 3) := by decide +kernel
theorem dX2_settleAll_8 : decode cX2_settleAll 8 = .ok (.aload_n 0, 1) := by decide +kernel
theorem dX2_settleAll_9 : decode cX2_settleAll 9 = .ok (.iconst 0, 1) := by decide +kernel
theorem dX2_settleAll_10 : decode cX2_settleAll 10 = .ok (.putfield 29, 3) := by decide +kernel
theorem dX2_settleAll_13 : decode cX2_settleAll 13 = .ok (.aload_n 0, 1) := by decide +kernel
theorem dX2_settleAll_14 : decode cX2_settleAll 14 = .ok (.dup, 1) := by decide +kernel
theorem dX2_settleAll_15 : decode cX2_settleAll 15 = .ok (.getfield 36, 3) := by decide +kernel
theorem dX2_settleAll_18 : decode cX2_settleAll 18 = .ok (.iconst 1, 1) := by decide +kernel
theorem dX2_settleAll_19 : decode cX2_settleAll 19 = .ok (.iadd, 1) := by decide +kernel
theorem dX2_settleAll_20 : decode cX2_settleAll 20 = .ok (.putfield 36, 3) := by decide +kernel
theorem dX2_settleAll_23 : decode cX2_settleAll 23 = .ok (.return_, 1) := by decide +kernel
theorem dX2_limit_0 : decode cX2_limit 0 = .ok (.aload_n 0, 1) := by decide +kernel
theorem dX2_limit_1 : decode cX2_limit 1 = .ok (.getfield 49, 3) := by decide +kernel
theorem dX2_limit_4 : decode cX2_limit 4 = .ok (.istore_n 3, 1) := by decide +kernel
theorem dX2_limit_5 : decode cX2_limit 5 = .ok (.aload_n 0, 1) := by decide +kernel
theorem dX2_limit_6 : decode cX2_limit 6 = .ok (.iload_n 1, 1) := by decide +kernel
theorem dX2_limit_7 : decode cX2_limit 7 = .ok (.putfield 49, 3) := by decide +kernel
theorem dX2_limit_10 : decode cX2_limit 10 = .ok (.aload_n 0, 1) := by decide +kernel
theorem dX2_limit_11 : decode cX2_limit 11 = .ok (.iload_n 2, 1) := by decide +kernel
theorem dX2_limit_12 : decode cX2_limit 12 = .ok (.putfield 52, 3) := by decide +kernel
theorem dX2_limit_15 : decode cX2_limit 15 = .ok (.iload_n 3, 1) := by decide +kernel
theorem dX2_limit_16 : decode cX2_limit 16 = .ok (.ireturn, 1) := by decide +kernel
theorem dX2_losePower_0 : decode cX2_losePower 0 = .ok (.iload_n 1, 1) := by decide +kernel
theorem dX2_losePower_1 : decode cX2_losePower 1 = .ok (.aload_n 0, 1) := by decide +kernel
theorem dX2_losePower_2 : decode cX2_losePower 2 = .ok (.getfield 29, 3) := by decide +kernel
theorem dX2_losePower_5 : decode cX2_losePower 5 = .ok (.invokestatic 62, 3) := by decide +kernel
theorem dX2_losePower_8 : decode cX2_losePower 8 = .ok (.istore_n 2, 1) := by decide +kernel
theorem dX2_losePower_9 : decode cX2_losePower 9 = .ok (.aload_n 0, 1) := by decide +kernel
theorem dX2_losePower_10 : decode cX2_losePower 10 = .ok (.iload_n 2, 1) := by decide +kernel
theorem dX2_losePower_11 : decode cX2_losePower 11 = .ok (.invokevirtual 59, 3) := by decide +kernel
theorem dX2_losePower_14 : decode cX2_losePower 14 = .ok (.aload_n 0, 1) := by decide +kernel
theorem dX2_losePower_15 : decode cX2_losePower 15 = .ok (.dup, 1) := by decide +kernel
theorem dX2_losePower_16 : decode cX2_losePower 16 = .ok (.getfield 42, 3) := by decide +kernel
theorem dX2_losePower_19 : decode cX2_losePower 19 = .ok (.aload_n 0, 1) := by decide +kernel
theorem dX2_losePower_20 : decode cX2_losePower 20 = .ok (.getfield 29, 3) := by decide +kernel
theorem dX2_losePower_23 : decode cX2_losePower 23 = .ok (.iload_n 2, 1) := by decide +kernel
theorem dX2_losePower_24 : decode cX2_losePower 24 = .ok (.isub, 1) := by decide +kernel
theorem dX2_losePower_25 : decode cX2_losePower 25 = .ok (.iadd, 1) := by decide +kernel
theorem dX2_losePower_26 : decode cX2_losePower 26 = .ok (.putfield 42, 3) := by decide +kernel
theorem dX2_losePower_29 : decode cX2_losePower 29 = .ok (.aload_n 0, 1) := by decide +kernel
theorem dX2_losePower_30 : decode cX2_losePower 30 = .ok (.iconst 0, 1) := by decide +kernel
theorem dX2_losePower_31 : decode cX2_losePower 31 = .ok (.putfield 29, 3) := by decide +kernel
theorem dX2_losePower_34 : decode cX2_losePower 34 = .ok (.aload_n 0, 1) := by decide +kernel
theorem dX2_losePower_35 : decode cX2_losePower 35 = .ok (.iconst 0, 1) := by decide +kernel
theorem dX2_losePower_36 : decode cX2_losePower 36 = .ok (.putfield 49, 3) := by decide +kernel
theorem dX2_losePower_39 : decode cX2_losePower 39 = .ok (.aload_n 0, 1) := by decide +kernel
theorem dX2_losePower_40 : decode cX2_losePower 40 = .ok (.iconst 0, 1) := by decide +kernel
theorem dX2_losePower_41 : decode cX2_losePower 41 = .ok (.putfield 25, 3) := by decide +kernel
theorem dX2_losePower_44 : decode cX2_losePower 44 = .ok (.aload_n 0, 1) := by decide +kernel
theorem dX2_losePower_45 : decode cX2_losePower 45 = .ok (.dup, 1) := by decide +kernel
theorem dX2_losePower_46 : decode cX2_losePower 46 = .ok (.getfield 39, 3) := by decide +kernel
theorem dX2_losePower_49 : decode cX2_losePower 49 = .ok (.iconst 1, 1) := by decide +kernel
theorem dX2_losePower_50 : decode cX2_losePower 50 = .ok (.iadd, 1) := by decide +kernel
theorem dX2_losePower_51 : decode cX2_losePower 51 = .ok (.putfield 39, 3) := by decide +kernel
theorem dX2_losePower_54 : decode cX2_losePower 54 = .ok (.aload_n 0, 1) := by decide +kernel
theorem dX2_losePower_55 : decode cX2_losePower 55 = .ok (.getfield 9, 3) := by decide +kernel
theorem dX2_losePower_58 : decode cX2_losePower 58 = .ok (.iconst 0, 1) := by decide +kernel
theorem dX2_losePower_59 : decode cX2_losePower 59 = .ok (.aload_n 0, 1) := by decide +kernel
theorem dX2_losePower_60 : decode cX2_losePower 60 = .ok (.getfield 15, 3) := by decide +kernel
theorem dX2_losePower_63 : decode cX2_losePower 63 = .ok (.iconst 0, 1) := by decide +kernel
theorem dX2_losePower_64 : decode cX2_losePower 64 = .ok (.sipush 1024, 3) := by decide +kernel
theorem dX2_losePower_67 : decode cX2_losePower 67 = .ok (.invokestatic 68, 3) := by decide +kernel
theorem dX2_losePower_70 : decode cX2_losePower 70 = .ok (.return_, 1) := by decide +kernel
theorem dX2_powerUp_0 : decode cX2_powerUp 0 = .ok (.aload_n 0, 1) := by decide +kernel
theorem dX2_powerUp_1 : decode cX2_powerUp 1 = .ok (.iconst 1, 1) := by decide +kernel
theorem dX2_powerUp_2 : decode cX2_powerUp 2 = .ok (.putfield 25, 3) := by decide +kernel
theorem dX2_powerUp_5 : decode cX2_powerUp 5 = .ok (.return_, 1) := by decide +kernel
theorem dX2_settleFirst_0 : decode cX2_settleFirst 0 = .ok (.iconst 0, 1) := by decide +kernel
theorem dX2_settleFirst_1 : decode cX2_settleFirst 1 = .ok (.istore_n 2, 1) := by decide +kernel
theorem dX2_settleFirst_2 : decode cX2_settleFirst 2 = .ok (.iload_n 2, 1) := by decide +kernel
theorem dX2_settleFirst_3 : decode cX2_settleFirst 3 = .ok (.iload_n 1, 1) := by decide +kernel
theorem dX2_settleFirst_4 : decode cX2_settleFirst 4 = .ok (.if_icmp .ge 42, 3) := by decide +kernel
theorem dX2_settleFirst_7 : decode cX2_settleFirst 7 = .ok (.iload_n 2, 1) := by decide +kernel
theorem dX2_settleFirst_8 : decode cX2_settleFirst 8 = .ok (.sipush 320, 3) := by decide +kernel
theorem dX2_settleFirst_11 : decode cX2_settleFirst 11 = .ok (.if_icmp .ge 35, 3) := by decide +kernel
theorem dX2_settleFirst_14 : decode cX2_settleFirst 14 = .ok (.aload_n 0, 1) := by decide +kernel
theorem dX2_settleFirst_15 : decode cX2_settleFirst 15 = .ok (.getfield 18, 3) := by decide +kernel
theorem dX2_settleFirst_18 : decode cX2_settleFirst 18 = .ok (.iload_n 2, 1) := by decide +kernel
theorem dX2_settleFirst_19 : decode cX2_settleFirst 19 = .ok (.iaload, 1) := by decide +kernel
theorem dX2_settleFirst_20 : decode cX2_settleFirst 20 = .ok (.istore_n 3, 1) := by decide +kernel
theorem dX2_settleFirst_21 : decode cX2_settleFirst 21 = .ok (.iload_n 3, 1) := by decide +kernel
theorem dX2_settleFirst_22 : decode cX2_settleFirst 22 = .ok (.invokestatic 45, 3) := by decide +kernel
theorem dX2_settleFirst_25 : decode cX2_settleFirst 25 = .ok (.ifCond .eq 15, 3) := by decide +kernel
theorem dX2_settleFirst_28 : decode cX2_settleFirst 28 = .ok (.aload_n 0, 1) := by decide +kernel
theorem dX2_settleFirst_29 : decode cX2_settleFirst 29 = .ok (.getfield 9, 3) := by decide +kernel
theorem dX2_settleFirst_32 : decode cX2_settleFirst 32 = .ok (.iload_n 3, 1) := by decide +kernel
theorem dX2_settleFirst_33 : decode cX2_settleFirst 33 = .ok (.aload_n 0, 1) := by decide +kernel
theorem dX2_settleFirst_34 : decode cX2_settleFirst 34 = .ok (.getfield 22, 3) := by decide +kernel
theorem dX2_settleFirst_37 : decode cX2_settleFirst 37 = .ok (.iload_n 2, 1) := by decide +kernel
theorem dX2_settleFirst_38 : decode cX2_settleFirst 38 = .ok (.laload, 1) := by decide +kernel
theorem dX2_settleFirst_39 : decode cX2_settleFirst 39 = .ok (.lastore, 1) := by decide +kernel
theorem dX2_settleFirst_40 : decode cX2_settleFirst 40 = .ok (.iinc 2 1, 3) := by decide +kernel
theorem dX2_settleFirst_43 : decode cX2_settleFirst 43 = .ok (.goto (-41), 3) := by decide +kernel
theorem dX2_settleFirst_46 : decode cX2_settleFirst 46 = .ok (.return_, 1) := by decide +kernel
end
section
-- rows of claim/NAMES.whole.lean.txt (starting text): what each instruction is
theorem dX3_init_0 : decode cX3_init 0 = .ok (.aload_n 0, 1) := by decide +kernel
theorem dX3_init_1 : decode cX3_init 1 = .ok (.invokespecial 3, 3) := by decide +kernel
theorem dX3_init_4 : decode cX3_init 4 = .ok (.aload_n 0, 1) := by decide +kernel
theorem dX3_init_5 : decode cX3_init 5 = .ok (.aload_n 1, 1) := by decide +kernel
theorem dX3_init_6 : decode cX3_init 6 = .ok (.putfield 9, 3) := by decide +kernel
theorem dX3_init_9 : decode cX3_init 9 = .ok (.return_, 1) := by decide +kernel
theorem dX3_used_0 : decode cX3_used 0 = .ok (.aload_n 0, 1) := by decide +kernel
theorem dX3_used_1 : decode cX3_used 1 = .ok (.getfield 15, 3) := by decide +kernel
theorem dX3_used_4 : decode cX3_used 4 = .ok (.ireturn, 1) := by decide +kernel
theorem dX3_commits_0 : decode cX3_commits 0 = .ok (.aload_n 0, 1) := by decide +kernel
theorem dX3_commits_1 : decode cX3_commits 1 = .ok (.getfield 19, 3) := by decide +kernel
theorem dX3_commits_4 : decode cX3_commits 4 = .ok (.ireturn, 1) := by decide +kernel
theorem dX3_lastNumber_0 : decode cX3_lastNumber 0 = .ok (.aload_n 0, 1) := by decide +kernel
theorem dX3_lastNumber_1 : decode cX3_lastNumber 1 = .ok (.getfield 22, 3) := by decide +kernel
theorem dX3_lastNumber_4 : decode cX3_lastNumber 4 = .ok (.ireturn, 1) := by decide +kernel
theorem dX3_hasRoomFor_0 : decode cX3_hasRoomFor 0 = .ok (.aload_n 0, 1) := by decide +kernel
theorem dX3_hasRoomFor_1 : decode cX3_hasRoomFor 1 = .ok (.getfield 15, 3) := by decide +kernel
theorem dX3_hasRoomFor_4 : decode cX3_hasRoomFor 4 = .ok (.iconst 2, 1) := by decide +kernel
theorem dX3_hasRoomFor_5 : decode cX3_hasRoomFor 5 = .ok (.iadd, 1) := by decide +kernel
theorem dX3_hasRoomFor_6 : decode cX3_hasRoomFor 6 = .ok (.iconst 2, 1) := by decide +kernel
theorem dX3_hasRoomFor_7 : decode cX3_hasRoomFor 7 = .ok (.iload_n 1, 1) := by decide +kernel
theorem dX3_hasRoomFor_8 : decode cX3_hasRoomFor 8 = .ok (.imul, 1) := by decide +kernel
theorem dX3_hasRoomFor_9 : decode cX3_hasRoomFor 9 = .ok (.iadd, 1) := by decide +kernel
theorem dX3_hasRoomFor_10 : decode cX3_hasRoomFor 10 = .ok (.sipush 160, 3) := by decide +kernel
theorem dX3_hasRoomFor_13 : decode cX3_hasRoomFor 13 = .ok (.if_icmp .gt 7, 3) := by decide +kernel
theorem dX3_hasRoomFor_16 : decode cX3_hasRoomFor 16 = .ok (.iconst 1, 1) := by decide +kernel
theorem dX3_hasRoomFor_17 : decode cX3_hasRoomFor 17 = .ok (.goto 4, 3) := by decide +kernel
theorem dX3_hasRoomFor_20 : decode cX3_hasRoomFor 20 = .ok (.iconst 0, 1) := by decide +kernel
theorem dX3_hasRoomFor_21 : decode cX3_hasRoomFor 21 = .ok (.ireturn, 1) := by decide +kernel
theorem dX3_append_0 : decode cX3_append 0 = .ok (.bipush 16, 2) := by decide +kernel
theorem dX3_append_2 : decode cX3_append 2 = .ok (.aload_n 0, 1) := by decide +kernel
theorem dX3_append_3 : decode cX3_append 3 = .ok (.getfield 15, 3) := by decide +kernel
theorem dX3_append_6 : decode cX3_append 6 = .ok (.iadd, 1) := by decide +kernel
theorem dX3_append_7 : decode cX3_append 7 = .ok (.istore_n 3, 1) := by decide +kernel
theorem dX3_append_8 : decode cX3_append 8 = .ok (.iload_n 3, 1) := by decide +kernel
theorem dX3_append_9 : decode cX3_append 9 = .ok (.iconst 1, 1) := by decide +kernel
theorem dX3_append_10 : decode cX3_append 10 = .ok (.iadd, 1) := by decide +kernel
theorem dX3_append_11 : decode cX3_append 11 = .ok (.iconst 2, 1) := by decide +kernel
theorem dX3_append_12 : decode cX3_append 12 = .ok (.aload_n 1, 1) := by decide +kernel
theorem dX3_append_13 : decode cX3_append 13 = .ok (.invokevirtual 25, 3) := by decide +kernel
theorem dX3_append_16 : decode cX3_append 16 = .ok (.imul, 1) := by decide +kernel
theorem dX3_append_17 : decode cX3_append 17 = .ok (.iadd, 1) := by decide +kernel
theorem dX3_append_18 : decode cX3_append 18 = .ok (.istore 4, 2) := by decide +kernel
theorem dX3_append_20 : decode cX3_append 20 = .ok (.aload_n 0, 1) := by decide +kernel
theorem dX3_append_21 : decode cX3_append 21 = .ok (.getfield 9, 3) := by decide +kernel
theorem dX3_append_24 : decode cX3_append 24 = .ok (.iload_n 3, 1) := by decide +kernel
theorem dX3_append_25 : decode cX3_append 25 = .ok (.aload_n 0, 1) := by decide +kernel
theorem dX3_append_26 : decode cX3_append 26 = .ok (.aload_n 1, 1) := by decide +kernel
theorem dX3_append_27 : decode cX3_append 27 = .ok (.invokevirtual 25, 3) := by decide +kernel
theorem dX3_append_30 : decode cX3_append 30 = .ok (.invokevirtual 31, 3) := by decide +kernel
theorem dX3_append_33 : decode cX3_append 33 = .ok (.invokevirtual 35, 3) := by decide +kernel
theorem dX3_append_36 : decode cX3_append 36 = .ok (.ifCond .eq 37, 3) := by decide +kernel
theorem dX3_append_39 : decode cX3_append 39 = .ok (.aload_n 0, 1) := by decide +kernel
theorem dX3_append_40 : decode cX3_append 40 = .ok (.aload_n 1, 1) := by decide +kernel
theorem dX3_append_41 : decode cX3_append 41 = .ok (.iload_n 3, 1) := by decide +kernel
theorem dX3_append_42 : decode cX3_append 42 = .ok (.iconst 1, 1) := by decide +kernel
theorem dX3_append_43 : decode cX3_append 43 = .ok (.iadd, 1) := by decide +kernel
theorem dX3_append_44 : decode cX3_append 44 = .ok (.invokevirtual 41, 3) := by decide +kernel
theorem dX3_append_47 : decode cX3_append 47 = .ok (.ifCond .eq 26, 3) := by decide +kernel
theorem dX3_append_50 : decode cX3_append 50 = .ok (.aload_n 0, 1) := by decide +kernel
theorem dX3_append_51 : decode cX3_append 51 = .ok (.getfield 9, 3) := by decide +kernel
theorem dX3_append_54 : decode cX3_append 54 = .ok (.iload 4, 2) := by decide +kernel
theorem dX3_append_56 : decode cX3_append 56 = .ok (.ldc2_w 45, 3) := by decide +kernel
theorem dX3_append_59 : decode cX3_append 59 = .ok (.aload_n 0, 1) := by decide +kernel
theorem dX3_append_60 : decode cX3_append 60 = .ok (.getfield 22, 3) := by decide +kernel
theorem dX3_append_63 : decode cX3_append 63 = .ok (.iconst 1, 1) := by decide +kernel
theorem dX3_append_64 : decode cX3_append 64 = .ok (.iadd, 1) := by decide +kernel
theorem dX3_append_65 : decode cX3_append 65 = .ok (.i2l, 1) := by decide +kernel
theorem dX3_append_66 : decode cX3_append 66 = .ok (.lsub, 1) := by decide +kernel
theorem dX3_append_67 : decode cX3_append 67 = .ok (.invokevirtual 35, 3) := by decide +kernel
theorem dX3_append_70 : decode cX3_append 70 = .ok (.ifCond .ne 5, 3) := by decide +kernel
theorem dX3_append_73 : decode cX3_append 73 = .ok (.iconst 0, 1) := by decide +kernel
theorem dX3_append_74 : decode cX3_append 74 = .ok (.ireturn, 1) := by decide +kernel
theorem dX3_append_75 : decode cX3_append 75 = .ok (.iload_n 2, 1) := by decide +kernel
theorem dX3_append_76 : decode cX3_append 76 = .ok (.ifCond .eq 10, 3) := by decide +kernel
theorem dX3_append_79 : decode cX3_append 79 = .ok (.aload_n 0, 1) := by decide +kernel
theorem dX3_append_80 : decode cX3_append 80 = .ok (.getfield 9, 3) := by decide +kernel
theorem dX3_append_83 : decode cX3_append 83 = .ok (.invokevirtual 47, 3) := by decide +kernel
theorem dX3_append_86 : decode cX3_append 86 = .ok (.aload_n 0, 1) := by decide +kernel
theorem dX3_append_87 : decode cX3_append 87 = .ok (.iload 4, 2) := by decide +kernel
theorem dX3_append_89 : decode cX3_append 89 = .ok (.iconst 1, 1) := by decide +kernel
theorem dX3_append_90 : decode cX3_append 90 = .ok (.iadd, 1) := by decide +kernel
theorem dX3_append_91 : decode cX3_append 91 = .ok (.bipush 16, 2) := by decide +kernel
theorem dX3_append_93 : decode cX3_append 93 = .ok (.isub, 1) := by decide +kernel
theorem dX3_append_94 : decode cX3_append 94 = .ok (.putfield 15, 3) := by decide +kernel
theorem dX3_append_97 : decode cX3_append 97 = .ok (.aload_n 0, 1) := by decide +kernel
theorem dX3_append_98 : decode cX3_append 98 = .ok (.dup, 1) := by decide +kernel
theorem dX3_append_99 : decode cX3_append 99 = .ok (.getfield 19, 3) := by decide +kernel
theorem dX3_append_102 : decode cX3_append 102 = .ok (.iconst 1, 1) := by decide +kernel
theorem dX3_append_103 : decode cX3_append 103 = .ok (.iadd, 1) := by decide +kernel
theorem dX3_append_104 : decode cX3_append 104 = .ok (.putfield 19, 3) := by decide +kernel
theorem dX3_append_107 : decode cX3_append 107 = .ok (.aload_n 0, 1) := by decide +kernel
theorem dX3_append_108 : decode cX3_append 108 = .ok (.dup, 1) := by decide +kernel
theorem dX3_append_109 : decode cX3_append 109 = .ok (.getfield 22, 3) := by decide +kernel
theorem dX3_append_112 : decode cX3_append 112 = .ok (.iconst 1, 1) := by decide +kernel
theorem dX3_append_113 : decode cX3_append 113 = .ok (.iadd, 1) := by decide +kernel
theorem dX3_append_114 : decode cX3_append 114 = .ok (.putfield 22, 3) := by decide +kernel
theorem dX3_append_117 : decode cX3_append 117 = .ok (.iconst 1, 1) := by decide +kernel
theorem dX3_append_118 : decode cX3_append 118 = .ok (.ireturn, 1) := by decide +kernel
theorem dX3_carryOut_0 : decode cX3_carryOut 0 = .ok (.iload_n 1, 1) := by decide +kernel
theorem dX3_carryOut_1 : decode cX3_carryOut 1 = .ok (.ifCond .ne 5, 3) := by decide +kernel
theorem dX3_carryOut_4 : decode cX3_carryOut 4 = .ok (.iconst 1, 1) := by decide +kernel
theorem dX3_carryOut_5 : decode cX3_carryOut 5 = .ok (.ireturn, 1) := by decide +kernel
theorem dX3_carryOut_6 : decode cX3_carryOut 6 = .ok (.aload_n 0, 1) := by decide +kernel
theorem dX3_carryOut_7 : decode cX3_carryOut 7 = .ok (.invokevirtual 50, 3) := by decide +kernel
theorem dX3_carryOut_10 : decode cX3_carryOut 10 = .ok (.ifCond .eq 19, 3) := by decide +kernel
theorem dX3_carryOut_13 : decode cX3_carryOut 13 = .ok (.aload_n 0, 1) := by decide +kernel
theorem dX3_carryOut_14 : decode cX3_carryOut 14 = .ok (.getfield 9, 3) := by decide +kernel
theorem dX3_carryOut_17 : decode cX3_carryOut 17 = .ok (.iconst 2, 1) := by decide +kernel
theorem dX3_carryOut_18 : decode cX3_carryOut 18 = .ok (.aload_n 0, 1) := by decide +kernel
theorem dX3_carryOut_19 : decode cX3_carryOut 19 = .ok (.getfield 22, 3) := by decide +kernel
theorem dX3_carryOut_22 : decode cX3_carryOut 22 = .ok (.i2l, 1) := by decide +kernel
theorem dX3_carryOut_23 : decode cX3_carryOut 23 = .ok (.invokevirtual 35, 3) := by decide +kernel
theorem dX3_carryOut_26 : decode cX3_carryOut 26 = .ok (.ifCond .ne 5, 3) := by decide +kernel
theorem dX3_carryOut_29 : decode cX3_carryOut 29 = .ok (.iconst 0, 1) := by decide +kernel
theorem dX3_carryOut_30 : decode cX3_carryOut 30 = .ok (.ireturn, 1) := by decide +kernel
theorem dX3_carryOut_31 : decode cX3_carryOut 31 = .ok (.aload_n 0, 1) := by decide +kernel
theorem dX3_carryOut_32 : decode cX3_carryOut 32 = .ok (.getfield 9, 3) := by decide +kernel
theorem dX3_carryOut_35 : decode cX3_carryOut 35 = .ok (.invokevirtual 47, 3) := by decide +kernel
theorem dX3_carryOut_38 : decode cX3_carryOut 38 = .ok (.iconst 0, 1) := by decide +kernel
theorem dX3_carryOut_39 : decode cX3_carryOut 39 = .ok (.istore_n 2, 1) := by decide +kernel
theorem dX3_carryOut_40 : decode cX3_carryOut 40 = .ok (.iload_n 2, 1) := by decide +kernel
theorem dX3_carryOut_41 : decode cX3_carryOut 41 = .ok (.iload_n 1, 1) := by decide +kernel
theorem dX3_carryOut_42 : decode cX3_carryOut 42 = .ok (.if_icmp .ge 26, 3) := by decide +kernel
theorem dX3_carryOut_45 : decode cX3_carryOut 45 = .ok (.aload_n 0, 1) := by decide +kernel
theorem dX3_carryOut_46 : decode cX3_carryOut 46 = .ok (.getfield 9, 3) := by decide +kernel
theorem dX3_carryOut_49 : decode cX3_carryOut 49 = .ok (.bipush 16, 2) := by decide +kernel
theorem dX3_carryOut_51 : decode cX3_carryOut 51 = .ok (.iload_n 2, 1) := by decide +kernel
theorem dX3_carryOut_52 : decode cX3_carryOut 52 = .ok (.iadd, 1) := by decide +kernel
theorem dX3_carryOut_53 : decode cX3_carryOut 53 = .ok (.lconst 0, 1) := by decide +kernel
theorem dX3_carryOut_54 : decode cX3_carryOut 54 = .ok (.invokevirtual 35, 3) := by decide +kernel
theorem dX3_carryOut_57 : decode cX3_carryOut 57 = .ok (.ifCond .ne 5, 3) := by decide +kernel
theorem dX3_carryOut_60 : decode cX3_carryOut 60 = .ok (.iconst 0, 1) := by decide +kernel
theorem dX3_carryOut_61 : decode cX3_carryOut 61 = .ok (.ireturn, 1) := by decide +kernel
theorem dX3_carryOut_62 : decode cX3_carryOut 62 = .ok (.iinc 2 1, 3) := by decide +kernel
theorem dX3_carryOut_65 : decode cX3_carryOut 65 = .ok (.goto (-25), 3) := by decide +kernel
theorem dX3_carryOut_68 : decode cX3_carryOut 68 = .ok (.aload_n 0, 1) := by decide +kernel
theorem dX3_carryOut_69 : decode cX3_carryOut 69 = .ok (.getfield 9, 3) := by decide +kernel
theorem dX3_carryOut_72 : decode cX3_carryOut 72 = .ok (.iconst 0, 1) := by decide +kernel
theorem dX3_carryOut_73 : decode cX3_carryOut 73 = .ok (.aload_n 0, 1) := by decide +kernel
theorem dX3_carryOut_74 : decode cX3_carryOut 74 = .ok (.getfield 9, 3) := by decide +kernel
theorem dX3_carryOut_77 : decode cX3_carryOut 77 = .ok (.iconst 0, 1) := by decide +kernel
theorem dX3_carryOut_78 : decode cX3_carryOut 78 = .ok (.invokevirtual 54, 3) := by decide +kernel
theorem dX3_carryOut_81 : decode cX3_carryOut 81 = .ok (.lconst 1, 1) := by decide +kernel
theorem dX3_carryOut_82 : decode cX3_carryOut 82 = .ok (.ladd, 1) := by decide +kernel
theorem dX3_carryOut_83 : decode cX3_carryOut 83 = .ok (.invokevirtual 35, 3) := by decide +kernel
theorem dX3_carryOut_86 : decode cX3_carryOut 86 = .ok (.ifCond .ne 5, 3) := by decide +kernel
theorem dX3_carryOut_89 : decode cX3_carryOut 89 = .ok (.iconst 0, 1) := by decide +kernel
theorem dX3_carryOut_90 : decode cX3_carryOut 90 = .ok (.ireturn, 1) := by decide +kernel
theorem dX3_carryOut_91 : decode cX3_carryOut 91 = .ok (.aload_n 0, 1) := by decide +kernel
theorem dX3_carryOut_92 : decode cX3_carryOut 92 = .ok (.getfield 9, 3) := by decide +kernel
theorem dX3_carryOut_95 : decode cX3_carryOut 95 = .ok (.invokevirtual 47, 3) := by decide +kernel
theorem dX3_carryOut_98 : decode cX3_carryOut 98 = .ok (.aload_n 0, 1) := by decide +kernel
theorem dX3_carryOut_99 : decode cX3_carryOut 99 = .ok (.iconst 0, 1) := by decide +kernel
theorem dX3_carryOut_100 : decode cX3_carryOut 100 = .ok (.putfield 15, 3) := by decide +kernel
theorem dX3_carryOut_103 : decode cX3_carryOut 103 = .ok (.aload_n 0, 1) := by decide +kernel
theorem dX3_carryOut_104 : decode cX3_carryOut 104 = .ok (.iconst 0, 1) := by decide +kernel
theorem dX3_carryOut_105 : decode cX3_carryOut 105 = .ok (.putfield 19, 3) := by decide +kernel
theorem dX3_carryOut_108 : decode cX3_carryOut 108 = .ok (.iconst 1, 1) := by decide +kernel
theorem dX3_carryOut_109 : decode cX3_carryOut 109 = .ok (.ireturn, 1) := by decide +kernel
theorem dX3_findCommits_0 : decode cX3_findCommits 0 = .ok (.aload_n 0, 1) := by decide +kernel
theorem dX3_findCommits_1 : decode cX3_findCommits 1 = .ok (.invokevirtual 57, 3) := by decide +kernel
theorem dX3_findCommits_4 : decode cX3_findCommits 4 = .ok (.aload_n 0, 1) := by decide +kernel
theorem dX3_findCommits_5 : decode cX3_findCommits 5 = .ok (.iconst 0, 1) := by decide +kernel
theorem dX3_findCommits_6 : decode cX3_findCommits 6 = .ok (.invokevirtual 60, 3) := by decide +kernel
theorem dX3_findCommits_9 : decode cX3_findCommits 9 = .ok (.istore_n 1, 1) := by decide +kernel
theorem dX3_findCommits_10 : decode cX3_findCommits 10 = .ok (.iload_n 1, 1) := by decide +kernel
theorem dX3_findCommits_11 : decode cX3_findCommits 11 = .ok (.ifCond .le 72, 3) := by decide +kernel
theorem dX3_findCommits_14 : decode cX3_findCommits 14 = .ok (.aload_n 0, 1) := by decide +kernel
theorem dX3_findCommits_15 : decode cX3_findCommits 15 = .ok (.getfield 15, 3) := by decide +kernel
theorem dX3_findCommits_18 : decode cX3_findCommits 18 = .ok (.iload_n 1, 1) := by decide +kernel
theorem dX3_findCommits_19 : decode cX3_findCommits 19 = .ok (.iadd, 1) := by decide +kernel
theorem dX3_findCommits_20 : decode cX3_findCommits 20 = .ok (.sipush 160, 3) := by decide +kernel
theorem dX3_findCommits_23 : decode cX3_findCommits 23 = .ok (.if_icmp .gt 60, 3) := by decide +kernel
theorem dX3_findCommits_26 : decode cX3_findCommits 26 = .ok (.aload_n 0, 1) := by decide +kernel
theorem dX3_findCommits_27 : decode cX3_findCommits 27 = .ok (.dup, 1) := by decide +kernel
theorem dX3_findCommits_28 : decode cX3_findCommits 28 = .ok (.getfield 15, 3) := by decide +kernel
theorem dX3_findCommits_31 : decode cX3_findCommits 31 = .ok (.iload_n 1, 1) := by decide +kernel
theorem dX3_findCommits_32 : decode cX3_findCommits 32 = .ok (.iadd, 1) := by decide +kernel
theorem dX3_findCommits_33 : decode cX3_findCommits 33 = .ok (.putfield 15, 3) := by decide +kernel
theorem dX3_findCommits_36 : decode cX3_findCommits 36 = .ok (.aload_n 0, 1) := by decide +kernel
theorem dX3_findCommits_37 : decode cX3_findCommits 37 = .ok (.dup, 1) := by decide +kernel
theorem dX3_findCommits_38 : decode cX3_findCommits 38 = .ok (.getfield 19, 3) := by decide +kernel
theorem dX3_findCommits_41 : decode cX3_findCommits 41 = .ok (.iconst 1, 1) := by decide +kernel
theorem dX3_findCommits_42 : decode cX3_findCommits 42 = .ok (.iadd, 1) := by decide +kernel
theorem dX3_findCommits_43 : decode cX3_findCommits 43 = .ok (.putfield 19, 3) := by decide +kernel
theorem dX3_findCommits_46 : decode cX3_findCommits 46 = .ok (.aload_n 0, 1) := by decide +kernel
theorem dX3_findCommits_47 : decode cX3_findCommits 47 = .ok (.ldc2_w 45, 3) := by decide +kernel
theorem dX3_findCommits_50 : decode cX3_findCommits 50 = .ok (.aload_n 0, 1) := by decide +kernel
theorem dX3_findCommits_51 : decode cX3_findCommits 51 = .ok (.getfield 9, 3) := by decide +kernel
theorem dX3_findCommits_54 : decode cX3_findCommits 54 = .ok (.bipush 16, 2) := by decide +kernel
theorem dX3_findCommits_56 : decode cX3_findCommits 56 = .ok (.aload_n 0, 1) := by decide +kernel
theorem dX3_findCommits_57 : decode cX3_findCommits 57 = .ok (.getfield 15, 3) := by decide +kernel
theorem dX3_findCommits_60 : decode cX3_findCommits 60 = .ok (.iadd, 1) := by decide +kernel
theorem dX3_findCommits_61 : decode cX3_findCommits 61 = .ok (.iconst 1, 1) := by decide +kernel
theorem dX3_findCommits_62 : decode cX3_findCommits 62 = .ok (.isub, 1) := by decide +kernel
theorem dX3_findCommits_63 : decode cX3_findCommits 63 = .ok (.invokevirtual 54, 3) := by decide +kernel
theorem dX3_findCommits_66 : decode cX3_findCommits 66 = .ok (.lsub, 1) := by decide +kernel
theorem dX3_findCommits_67 : decode cX3_findCommits 67 = .ok (.l2i, 1) := by decide +kernel
theorem dX3_findCommits_68 : decode cX3_findCommits 68 = .ok (.putfield 22, 3) := by decide +kernel
theorem dX3_findCommits_71 : decode cX3_findCommits 71 = .ok (.aload_n 0, 1) := by decide +kernel
theorem dX3_findCommits_72 : decode cX3_findCommits 72 = .ok (.aload_n 0, 1) := by decide +kernel
theorem dX3_findCommits_73 : decode cX3_findCommits 73 = .ok (.getfield 15, 3) := by decide +kernel
theorem dX3_findCommits_76 : decode cX3_findCommits 76 = .ok (.invokevirtual 60, 3) := by decide +kernel
theorem dX3_findCommits_79 : decode cX3_findCommits 79 = .ok (.istore_n 1, 1) := by decide +kernel
theorem dX3_findCommits_80 : decode cX3_findCommits 80 = .ok (.goto (-70), 3) := by decide +kernel
theorem dX3_findCommits_83 : decode cX3_findCommits 83 = .ok (.aload_n 0, 1) := by decide +kernel
theorem dX3_findCommits_84 : decode cX3_findCommits 84 = .ok (.getfield 19, 3) := by decide +kernel
theorem dX3_findCommits_87 : decode cX3_findCommits 87 = .ok (.ireturn, 1) := by decide +kernel
theorem dX3_dirtyWords_0 : decode cX3_dirtyWords 0 = .ok (.sipush 160, 3) := by decide +kernel
theorem dX3_dirtyWords_3 : decode cX3_dirtyWords 3 = .ok (.istore_n 1, 1) := by decide +kernel
theorem dX3_dirtyWords_4 : decode cX3_dirtyWords 4 = .ok (.iload_n 1, 1) := by decide +kernel
theorem dX3_dirtyWords_5 : decode cX3_dirtyWords 5 = .ok (.ifCond .le 29, 3) := by decide +kernel
theorem dX3_dirtyWords_8 : decode cX3_dirtyWords 8 = .ok (.aload_n 0, 1) := by decide +kernel
theorem dX3_dirtyWords_9 : decode cX3_dirtyWords 9 = .ok (.getfield 9, 3) := by decide +kernel
theorem dX3_dirtyWords_12 : decode cX3_dirtyWords 12 = .ok (.bipush 16, 2) := by decide +kernel
theorem dX3_dirtyWords_14 : decode cX3_dirtyWords 14 = .ok (.iload_n 1, 1) := by decide +kernel
theorem dX3_dirtyWords_15 : decode cX3_dirtyWords 15 = .ok (.iadd, 1) := by decide +kernel
theorem dX3_dirtyWords_16 : decode cX3_dirtyWords 16 = .ok (.iconst 1, 1) := by decide +kernel
theorem dX3_dirtyWords_17 : decode cX3_dirtyWords 17 = .ok (.isub, 1) := by decide +kernel
theorem dX3_dirtyWords_18 : decode cX3_dirtyWords 18 = .ok (.invokevirtual 54, 3) := by decide +kernel
theorem dX3_dirtyWords_21 : decode cX3_dirtyWords 21 = .ok (.lconst 0, 1) := by decide +kernel
theorem dX3_dirtyWords_22 : decode cX3_dirtyWords 22 = .ok (.lcmp, 1) := by decide +kernel
theorem dX3_dirtyWords_23 : decode cX3_dirtyWords 23 = .ok (.ifCond .eq 5, 3) := by decide +kernel
theorem dX3_dirtyWords_26 : decode cX3_dirtyWords 26 = .ok (.iload_n 1, 1) := by decide +kernel
theorem dX3_dirtyWords_27 : decode cX3_dirtyWords 27 = .ok (.ireturn, 1) := by decide +kernel
theorem dX3_dirtyWords_28 : decode cX3_dirtyWords 28 = .ok (.iinc 1 (-1), 3) := by decide +kernel
theorem dX3_dirtyWords_31 : decode cX3_dirtyWords 31 = .ok (.goto (-27), 3) := by decide +kernel
theorem dX3_dirtyWords_34 : decode cX3_dirtyWords 34 = .ok (.iconst 0, 1) := by decide +kernel
theorem dX3_dirtyWords_35 : decode cX3_dirtyWords 35 = .ok (.ireturn, 1) := by decide +kernel
theorem dX3_forget_0 : decode cX3_forget 0 = .ok (.aload_n 0, 1) := by decide +kernel
theorem dX3_forget_1 : decode cX3_forget 1 = .ok (.iconst 0, 1) := by decide +kernel
theorem dX3_forget_2 : decode cX3_forget 2 = .ok (.putfield 15, 3) := by decide +kernel
theorem dX3_forget_5 : decode cX3_forget 5 = .ok (.aload_n 0, 1) := by decide +kernel
theorem dX3_forget_6 : decode cX3_forget 6 = .ok (.iconst 0, 1) := by decide +kernel
theorem dX3_forget_7 : decode cX3_forget 7 = .ok (.putfield 19, 3) := by decide +kernel
theorem dX3_forget_10 : decode cX3_forget 10 = .ok (.aload_n 0, 1) := by decide +kernel
theorem dX3_forget_11 : decode cX3_forget 11 = .ok (.aload_n 0, 1) := by decide +kernel
theorem dX3_forget_12 : decode cX3_forget 12 = .ok (.getfield 9, 3) := by decide +kernel
theorem dX3_forget_15 : decode cX3_forget 15 = .ok (.iconst 2, 1) := by decide +kernel
theorem dX3_forget_16 : decode cX3_forget 16 = .ok (.invokevirtual 54, 3) := by decide +kernel
theorem dX3_forget_19 : decode cX3_forget 19 = .ok (.l2i, 1) := by decide +kernel
theorem dX3_forget_20 : decode cX3_forget 20 = .ok (.putfield 22, 3) := by decide +kernel
theorem dX3_forget_23 : decode cX3_forget 23 = .ok (.return_, 1) := by decide +kernel
theorem dX3_writePlaces_0 : decode cX3_writePlaces 0 = .ok (.iconst 0, 1) := by decide +kernel
theorem dX3_writePlaces_1 : decode cX3_writePlaces 1 = .ok (.istore_n 2, 1) := by decide +kernel
theorem dX3_writePlaces_2 : decode cX3_writePlaces 2 = .ok (.iload_n 2, 1) := by decide +kernel
theorem dX3_writePlaces_3 : decode cX3_writePlaces 3 = .ok (.aload_n 0, 1) := by decide +kernel
theorem dX3_writePlaces_4 : decode cX3_writePlaces 4 = .ok (.getfield 15, 3) := by decide +kernel
theorem dX3_writePlaces_7 : decode cX3_writePlaces 7 = .ok (.if_icmp .ge 82, 3) := by decide +kernel
theorem dX3_writePlaces_10 : decode cX3_writePlaces 10 = .ok (.aload_n 0, 1) := by decide +kernel
theorem dX3_writePlaces_11 : decode cX3_writePlaces 11 = .ok (.iload_n 2, 1) := by decide +kernel
theorem dX3_writePlaces_12 : decode cX3_writePlaces 12 = .ok (.invokevirtual 60, 3) := by decide +kernel
theorem dX3_writePlaces_15 : decode cX3_writePlaces 15 = .ok (.istore_n 1, 1) := by decide +kernel
theorem dX3_writePlaces_16 : decode cX3_writePlaces 16 = .ok (.iload_n 1, 1) := by decide +kernel
theorem dX3_writePlaces_17 : decode cX3_writePlaces 17 = .ok (.ifCond .ne 5, 3) := by decide +kernel
theorem dX3_writePlaces_20 : decode cX3_writePlaces 20 = .ok (.iconst 1, 1) := by decide +kernel
theorem dX3_writePlaces_21 : decode cX3_writePlaces 21 = .ok (.ireturn, 1) := by decide +kernel
theorem dX3_writePlaces_22 : decode cX3_writePlaces 22 = .ok (.iload_n 2, 1) := by decide +kernel
theorem dX3_writePlaces_23 : decode cX3_writePlaces 23 = .ok (.iconst 1, 1) := by decide +kernel
theorem dX3_writePlaces_24 : decode cX3_writePlaces 24 = .ok (.iadd, 1) := by decide +kernel
theorem dX3_writePlaces_25 : decode cX3_writePlaces 25 = .ok (.istore_n 3, 1) := by decide +kernel
theorem dX3_writePlaces_26 : decode cX3_writePlaces 26 = .ok (.iload_n 3, 1) := by decide +kernel
theorem dX3_writePlaces_27 : decode cX3_writePlaces 27 = .ok (.iload_n 2, 1) := by decide +kernel
theorem dX3_writePlaces_28 : decode cX3_writePlaces 28 = .ok (.iload_n 1, 1) := by decide +kernel
theorem dX3_writePlaces_29 : decode cX3_writePlaces 29 = .ok (.iadd, 1) := by decide +kernel
theorem dX3_writePlaces_30 : decode cX3_writePlaces 30 = .ok (.iconst 1, 1) := by decide +kernel
theorem dX3_writePlaces_31 : decode cX3_writePlaces 31 = .ok (.isub, 1) := by decide +kernel
theorem dX3_writePlaces_32 : decode cX3_writePlaces 32 = .ok (.if_icmp .ge 50, 3) := by decide +kernel
theorem dX3_writePlaces_35 : decode cX3_writePlaces 35 = .ok (.aload_n 0, 1) := by decide +kernel
theorem dX3_writePlaces_36 : decode cX3_writePlaces 36 = .ok (.getfield 9, 3) := by decide +kernel
theorem dX3_writePlaces_39 : decode cX3_writePlaces 39 = .ok (.bipush 16, 2) := by decide +kernel
theorem dX3_writePlaces_41 : decode cX3_writePlaces 41 = .ok (.iload_n 3, 1) := by decide +kernel
theorem dX3_writePlaces_42 : decode cX3_writePlaces 42 = .ok (.iadd, 1) := by decide +kernel
theorem dX3_writePlaces_43 : decode cX3_writePlaces 43 = .ok (.invokevirtual 54, 3) := by decide +kernel
theorem dX3_writePlaces_46 : decode cX3_writePlaces 46 = .ok (.l2i, 1) := by decide +kernel
theorem dX3_writePlaces_47 : decode cX3_writePlaces 47 = .ok (.istore 4, 2) := by decide +kernel
theorem dX3_writePlaces_49 : decode cX3_writePlaces 49 = .ok (.aload_n 0, 1) := by decide +kernel
theorem dX3_writePlaces_50 : decode cX3_writePlaces 50 = .ok (.getfield 9, 3) := by decide +kernel
theorem dX3_writePlaces_53 : decode cX3_writePlaces 53 = .ok (.iload 4, 2) := by decide +kernel
theorem dX3_writePlaces_55 : decode cX3_writePlaces 55 = .ok (.aload_n 0, 1) := by decide +kernel
theorem dX3_writePlaces_56 : decode cX3_writePlaces 56 = .ok (.getfield 9, 3) := by decide +kernel
theorem dX3_writePlaces_59 : decode cX3_writePlaces 59 = .ok (.bipush 16, 2) := by decide +kernel
theorem dX3_writePlaces_61 : decode cX3_writePlaces 61 = .ok (.iload_n 3, 1) := by decide +kernel
theorem dX3_writePlaces_62 : decode cX3_writePlaces 62 = .ok (.iadd, 1) := by decide +kernel
theorem dX3_writePlaces_63 : decode cX3_writePlaces 63 = .ok (.iconst 1, 1) := by decide +kernel
theorem dX3_writePlaces_64 : decode cX3_writePlaces 64 = .ok (.iadd, 1) := by decide +kernel
theorem dX3_writePlaces_65 : decode cX3_writePlaces 65 = .ok (.invokevirtual 54, 3) := by decide +kernel
theorem dX3_writePlaces_68 : decode cX3_writePlaces 68 = .ok (.invokevirtual 35, 3) := by decide +kernel
theorem dX3_writePlaces_71 : decode cX3_writePlaces 71 = .ok (.ifCond .ne 5, 3) := by decide +kernel
theorem dX3_writePlaces_74 : decode cX3_writePlaces 74 = .ok (.iconst 0, 1) := by decide +kernel
theorem dX3_writePlaces_75 : decode cX3_writePlaces 75 = .ok (.ireturn, 1) := by decide +kernel
theorem dX3_writePlaces_76 : decode cX3_writePlaces 76 = .ok (.iinc 3 2, 3) := by decide +kernel
theorem dX3_writePlaces_79 : decode cX3_writePlaces 79 = .ok (.goto (-53), 3) := by decide +kernel
theorem dX3_writePlaces_82 : decode cX3_writePlaces 82 = .ok (.iload_n 2, 1) := by decide +kernel
theorem dX3_writePlaces_83 : decode cX3_writePlaces 83 = .ok (.iload_n 1, 1) := by decide +kernel
theorem dX3_writePlaces_84 : decode cX3_writePlaces 84 = .ok (.iadd, 1) := by decide +kernel
theorem dX3_writePlaces_85 : decode cX3_writePlaces 85 = .ok (.istore_n 2, 1) := by decide +kernel
theorem dX3_writePlaces_86 : decode cX3_writePlaces 86 = .ok (.goto (-84), 3) := by decide +kernel
theorem dX3_writePlaces_89 : decode cX3_writePlaces 89 = .ok (.iconst 1, 1) := by decide +kernel
theorem dX3_writePlaces_90 : decode cX3_writePlaces 90 = .ok (.ireturn, 1) := by decide +kernel
theorem dX3_appendWords_0 : decode cX3_appendWords 0 = .ok (.iconst 0, 1) := by decide +kernel
theorem dX3_appendWords_1 : decode cX3_appendWords 1 = .ok (.istore_n 3, 1) := by decide +kernel
theorem dX3_appendWords_2 : decode cX3_appendWords 2 = .ok (.iload_n 3, 1) := by decide +kernel
theorem dX3_appendWords_3 : decode cX3_appendWords 3 = .ok (.aload_n 1, 1) := by decide +kernel
theorem dX3_appendWords_4 : decode cX3_appendWords 4 = .ok (.invokevirtual 25, 3) := by decide +kernel
theorem dX3_appendWords_7 : decode cX3_appendWords 7 = .ok (.if_icmp .ge 60, 3) := by decide +kernel
theorem dX3_appendWords_10 : decode cX3_appendWords 10 = .ok (.aload_n 1, 1) := by decide +kernel
theorem dX3_appendWords_11 : decode cX3_appendWords 11 = .ok (.iload_n 3, 1) := by decide +kernel
theorem dX3_appendWords_12 : decode cX3_appendWords 12 = .ok (.invokevirtual 64, 3) := by decide +kernel
theorem dX3_appendWords_15 : decode cX3_appendWords 15 = .ok (.istore 4, 2) := by decide +kernel
theorem dX3_appendWords_17 : decode cX3_appendWords 17 = .ok (.iload_n 2, 1) := by decide +kernel
theorem dX3_appendWords_18 : decode cX3_appendWords 18 = .ok (.iconst 2, 1) := by decide +kernel
theorem dX3_appendWords_19 : decode cX3_appendWords 19 = .ok (.iload_n 3, 1) := by decide +kernel
theorem dX3_appendWords_20 : decode cX3_appendWords 20 = .ok (.imul, 1) := by decide +kernel
theorem dX3_appendWords_21 : decode cX3_appendWords 21 = .ok (.iadd, 1) := by decide +kernel
theorem dX3_appendWords_22 : decode cX3_appendWords 22 = .ok (.istore 5, 2) := by decide +kernel
theorem dX3_appendWords_24 : decode cX3_appendWords 24 = .ok (.aload_n 0, 1) := by decide +kernel
theorem dX3_appendWords_25 : decode cX3_appendWords 25 = .ok (.getfield 9, 3) := by decide +kernel
theorem dX3_appendWords_28 : decode cX3_appendWords 28 = .ok (.iload 5, 2) := by decide +kernel
theorem dX3_appendWords_30 : decode cX3_appendWords 30 = .ok (.iload 4, 2) := by decide +kernel
theorem dX3_appendWords_32 : decode cX3_appendWords 32 = .ok (.i2l, 1) := by decide +kernel
theorem dX3_appendWords_33 : decode cX3_appendWords 33 = .ok (.invokevirtual 35, 3) := by decide +kernel
theorem dX3_appendWords_36 : decode cX3_appendWords 36 = .ok (.ifCond .eq 23, 3) := by decide +kernel
theorem dX3_appendWords_39 : decode cX3_appendWords 39 = .ok (.aload_n 0, 1) := by decide +kernel
theorem dX3_appendWords_40 : decode cX3_appendWords 40 = .ok (.getfield 9, 3) := by decide +kernel
theorem dX3_appendWords_43 : decode cX3_appendWords 43 = .ok (.iload 5, 2) := by decide +kernel
theorem dX3_appendWords_45 : decode cX3_appendWords 45 = .ok (.iconst 1, 1) := by decide +kernel
theorem dX3_appendWords_46 : decode cX3_appendWords 46 = .ok (.iadd, 1) := by decide +kernel
theorem dX3_appendWords_47 : decode cX3_appendWords 47 = .ok (.aload_n 1, 1) := by decide +kernel
theorem dX3_appendWords_48 : decode cX3_appendWords 48 = .ok (.iload 4, 2) := by decide +kernel
theorem dX3_appendWords_50 : decode cX3_appendWords 50 = .ok (.invokevirtual 67, 3) := by decide +kernel
theorem dX3_appendWords_53 : decode cX3_appendWords 53 = .ok (.invokevirtual 35, 3) := by decide +kernel
theorem dX3_appendWords_56 : decode cX3_appendWords 56 = .ok (.ifCond .ne 5, 3) := by decide +kernel
theorem dX3_appendWords_59 : decode cX3_appendWords 59 = .ok (.iconst 0, 1) := by decide +kernel
theorem dX3_appendWords_60 : decode cX3_appendWords 60 = .ok (.ireturn, 1) := by decide +kernel
theorem dX3_appendWords_61 : decode cX3_appendWords 61 = .ok (.iinc 3 1, 3) := by decide +kernel
theorem dX3_appendWords_64 : decode cX3_appendWords 64 = .ok (.goto (-62), 3) := by decide +kernel
theorem dX3_appendWords_67 : decode cX3_appendWords 67 = .ok (.iconst 1, 1) := by decide +kernel
theorem dX3_appendWords_68 : decode cX3_appendWords 68 = .ok (.ireturn, 1) := by decide +kernel
theorem dX3_commitSize_0 : decode cX3_commitSize 0 = .ok (.aload_n 0, 1) := by decide +kernel
theorem dX3_commitSize_1 : decode cX3_commitSize 1 = .ok (.getfield 9, 3) := by decide +kernel
theorem dX3_commitSize_4 : decode cX3_commitSize 4 = .ok (.bipush 16, 2) := by decide +kernel
theorem dX3_commitSize_6 : decode cX3_commitSize 6 = .ok (.iload_n 1, 1) := by decide +kernel
theorem dX3_commitSize_7 : decode cX3_commitSize 7 = .ok (.iadd, 1) := by decide +kernel
theorem dX3_commitSize_8 : decode cX3_commitSize 8 = .ok (.invokevirtual 54, 3) := by decide +kernel
theorem dX3_commitSize_11 : decode cX3_commitSize 11 = .ok (.aload_n 0, 1) := by decide +kernel
theorem dX3_commitSize_12 : decode cX3_commitSize 12 = .ok (.iconst 0, 1) := by decide +kernel
theorem dX3_commitSize_13 : decode cX3_commitSize 13 = .ok (.invokevirtual 31, 3) := by decide +kernel
theorem dX3_commitSize_16 : decode cX3_commitSize 16 = .ok (.lsub, 1) := by decide +kernel
theorem dX3_commitSize_17 : decode cX3_commitSize 17 = .ok (.lstore_n 2, 1) := by decide +kernel
theorem dX3_commitSize_18 : decode cX3_commitSize 18 = .ok (.lload_n 2, 1) := by decide +kernel
theorem dX3_commitSize_19 : decode cX3_commitSize 19 = .ok (.lconst 1, 1) := by decide +kernel
theorem dX3_commitSize_20 : decode cX3_commitSize 20 = .ok (.lcmp, 1) := by decide +kernel
theorem dX3_commitSize_21 : decode cX3_commitSize 21 = .ok (.ifCond .lt 11, 3) := by decide +kernel
theorem dX3_commitSize_24 : decode cX3_commitSize 24 = .ok (.lload_n 2, 1) := by decide +kernel
theorem dX3_commitSize_25 : decode cX3_commitSize 25 = .ok (.ldc2_w 68, 3) := by decide +kernel
theorem dX3_commitSize_28 : decode cX3_commitSize 28 = .ok (.lcmp, 1) := by decide +kernel
theorem dX3_commitSize_29 : decode cX3_commitSize 29 = .ok (.ifCond .le 5, 3) := by decide +kernel
theorem dX3_commitSize_32 : decode cX3_commitSize 32 = .ok (.iconst 0, 1) := by decide +kernel
theorem dX3_commitSize_33 : decode cX3_commitSize 33 = .ok (.ireturn, 1) := by decide +kernel
theorem dX3_commitSize_34 : decode cX3_commitSize 34 = .ok (.iconst 2, 1) := by decide +kernel
theorem dX3_commitSize_35 : decode cX3_commitSize 35 = .ok (.iconst 2, 1) := by decide +kernel
theorem dX3_commitSize_36 : decode cX3_commitSize 36 = .ok (.lload_n 2, 1) := by decide +kernel
theorem dX3_commitSize_37 : decode cX3_commitSize 37 = .ok (.l2i, 1) := by decide +kernel
theorem dX3_commitSize_38 : decode cX3_commitSize 38 = .ok (.imul, 1) := by decide +kernel
theorem dX3_commitSize_39 : decode cX3_commitSize 39 = .ok (.iadd, 1) := by decide +kernel
theorem dX3_commitSize_40 : decode cX3_commitSize 40 = .ok (.istore 4, 2) := by decide +kernel
theorem dX3_commitSize_42 : decode cX3_commitSize 42 = .ok (.iload_n 1, 1) := by decide +kernel
theorem dX3_commitSize_43 : decode cX3_commitSize 43 = .ok (.iload 4, 2) := by decide +kernel
theorem dX3_commitSize_45 : decode cX3_commitSize 45 = .ok (.iadd, 1) := by decide +kernel
theorem dX3_commitSize_46 : decode cX3_commitSize 46 = .ok (.sipush 160, 3) := by decide +kernel
theorem dX3_commitSize_49 : decode cX3_commitSize 49 = .ok (.if_icmp .gt 24, 3) := by decide +kernel
theorem dX3_commitSize_52 : decode cX3_commitSize 52 = .ok (.aload_n 0, 1) := by decide +kernel
theorem dX3_commitSize_53 : decode cX3_commitSize 53 = .ok (.getfield 9, 3) := by decide +kernel
theorem dX3_commitSize_56 : decode cX3_commitSize 56 = .ok (.bipush 16, 2) := by decide +kernel
theorem dX3_commitSize_58 : decode cX3_commitSize 58 = .ok (.iload_n 1, 1) := by decide +kernel
theorem dX3_commitSize_59 : decode cX3_commitSize 59 = .ok (.iadd, 1) := by decide +kernel
theorem dX3_commitSize_60 : decode cX3_commitSize 60 = .ok (.iload 4, 2) := by decide +kernel
theorem dX3_commitSize_62 : decode cX3_commitSize 62 = .ok (.iadd, 1) := by decide +kernel
theorem dX3_commitSize_63 : decode cX3_commitSize 63 = .ok (.iconst 1, 1) := by decide +kernel
theorem dX3_commitSize_64 : decode cX3_commitSize 64 = .ok (.isub, 1) := by decide +kernel
theorem dX3_commitSize_65 : decode cX3_commitSize 65 = .ok (.invokevirtual 54, 3) := by decide +kernel
theorem dX3_commitSize_68 : decode cX3_commitSize 68 = .ok (.lconst 0, 1) := by decide +kernel
theorem dX3_commitSize_69 : decode cX3_commitSize 69 = .ok (.lcmp, 1) := by decide +kernel
theorem dX3_commitSize_70 : decode cX3_commitSize 70 = .ok (.ifCond .lt 5, 3) := by decide +kernel
theorem dX3_commitSize_73 : decode cX3_commitSize 73 = .ok (.iconst 0, 1) := by decide +kernel
theorem dX3_commitSize_74 : decode cX3_commitSize 74 = .ok (.ireturn, 1) := by decide +kernel
theorem dX3_commitSize_75 : decode cX3_commitSize 75 = .ok (.iload 4, 2) := by decide +kernel
theorem dX3_commitSize_77 : decode cX3_commitSize 77 = .ok (.ireturn, 1) := by decide +kernel
theorem dX3_front_0 : decode cX3_front 0 = .ok (.ldc2_w 70, 3) := by decide +kernel
theorem dX3_front_3 : decode cX3_front 3 = .ok (.aload_n 0, 1) := by decide +kernel
theorem dX3_front_4 : decode cX3_front 4 = .ok (.getfield 9, 3) := by decide +kernel
theorem dX3_front_7 : decode cX3_front 7 = .ok (.iconst 0, 1) := by decide +kernel
theorem dX3_front_8 : decode cX3_front 8 = .ok (.invokevirtual 54, 3) := by decide +kernel
theorem dX3_front_11 : decode cX3_front 11 = .ok (.lmul, 1) := by decide +kernel
theorem dX3_front_12 : decode cX3_front 12 = .ok (.iload_n 1, 1) := by decide +kernel
theorem dX3_front_13 : decode cX3_front 13 = .ok (.i2l, 1) := by decide +kernel
theorem dX3_front_14 : decode cX3_front 14 = .ok (.ladd, 1) := by decide +kernel
theorem dX3_front_15 : decode cX3_front 15 = .ok (.lreturn, 1) := by decide +kernel
end
section
-- rows of claim/NAMES.whole.lean.txt (starting text): what each instruction is
theorem dX4_init_0 : decode cX4_init 0 = .ok (.aload_n 0, 1) := by decide +kernel
theorem dX4_init_1 : decode cX4_init 1 = .ok (.invokespecial 1, 3) := by decide +kernel
theorem dX4_init_4 : decode cX4_init 4 = .ok (.aload_n 0, 1) := by decide +kernel
theorem dX4_init_5 : decode cX4_init 5 = .ok (.new 7, 3) := by decide +kernel
theorem dX4_init_8 : decode cX4_init 8 = .ok (.dup, 1) := by decide +kernel
theorem dX4_init_9 : decode cX4_init 9 = .ok (.invokespecial 9, 3) := by decide +kernel
theorem dX4_init_12 : decode cX4_init 12 = .ok (.putfield 10, 3) := by decide +kernel
theorem dX4_init_15 : decode cX4_init 15 = .ok (.aload_n 0, 1) := by decide +kernel
theorem dX4_init_16 : decode cX4_init 16 = .ok (.new 16, 3) := by decide +kernel
theorem dX4_init_19 : decode cX4_init 19 = .ok (.dup, 1) := by decide +kernel
theorem dX4_init_20 : decode cX4_init 20 = .ok (.aload_n 0, 1) := by decide +kernel
theorem dX4_init_21 : decode cX4_init 21 = .ok (.getfield 10, 3) := by decide +kernel
theorem dX4_init_24 : decode cX4_init 24 = .ok (.invokespecial 18, 3) := by decide +kernel
theorem dX4_init_27 : decode cX4_init 27 = .ok (.putfield 21, 3) := by decide +kernel
theorem dX4_init_30 : decode cX4_init 30 = .ok (.aload_n 0, 1) := by decide +kernel
theorem dX4_init_31 : decode cX4_init 31 = .ok (.new 25, 3) := by decide +kernel
theorem dX4_init_34 : decode cX4_init 34 = .ok (.dup, 1) := by decide +kernel
theorem dX4_init_35 : decode cX4_init 35 = .ok (.invokespecial 27, 3) := by decide +kernel
theorem dX4_init_38 : decode cX4_init 38 = .ok (.putfield 28, 3) := by decide +kernel
theorem dX4_init_41 : decode cX4_init 41 = .ok (.aload_n 0, 1) := by decide +kernel
theorem dX4_init_42 : decode cX4_init 42 = .ok (.new 32, 3) := by decide +kernel
theorem dX4_init_45 : decode cX4_init 45 = .ok (.dup, 1) := by decide +kernel
theorem dX4_init_46 : decode cX4_init 46 = .ok (.aload_n 0, 1) := by decide +kernel
theorem dX4_init_47 : decode cX4_init 47 = .ok (.getfield 28, 3) := by decide +kernel
theorem dX4_init_50 : decode cX4_init 50 = .ok (.invokespecial 34, 3) := by decide +kernel
theorem dX4_init_53 : decode cX4_init 53 = .ok (.putfield 37, 3) := by decide +kernel
theorem dX4_init_56 : decode cX4_init 56 = .ok (.return_, 1) := by decide +kernel
theorem dX4_begin_0 : decode cX4_begin 0 = .ok (.aload_n 0, 1) := by decide +kernel
theorem dX4_begin_1 : decode cX4_begin 1 = .ok (.invokevirtual 41, 3) := by decide +kernel
theorem dX4_begin_4 : decode cX4_begin 4 = .ok (.aload_n 0, 1) := by decide +kernel
theorem dX4_begin_5 : decode cX4_begin 5 = .ok (.getfield 28, 3) := by decide +kernel
theorem dX4_begin_8 : decode cX4_begin 8 = .ok (.invokevirtual 44, 3) := by decide +kernel
theorem dX4_begin_11 : decode cX4_begin 11 = .ok (.ifCond .eq 13, 3) := by decide +kernel
theorem dX4_begin_14 : decode cX4_begin 14 = .ok (.new 48, 3) := by decide +kernel
theorem dX4_begin_17 : decode cX4_begin 17 = .ok (.dup, 1) := by decide +kernel
theorem dX4_begin_18 : decode cX4_begin 18 = .ok (.ldc 50, 2) := by decide +kernel
theorem dX4_begin_20 : decode cX4_begin 20 = .ok (.invokespecial 52, 3) := by decide +kernel
theorem dX4_begin_23 : decode cX4_begin 23 = .ok (.athrow, 1) := by decide +kernel
theorem dX4_begin_24 : decode cX4_begin 24 = .ok (.aload_n 0, 1) := by decide +kernel
theorem dX4_begin_25 : decode cX4_begin 25 = .ok (.getfield 28, 3) := by decide +kernel
theorem dX4_begin_28 : decode cX4_begin 28 = .ok (.invokevirtual 55, 3) := by decide +kernel
theorem dX4_begin_31 : decode cX4_begin 31 = .ok (.aload_n 0, 1) := by decide +kernel
theorem dX4_begin_32 : decode cX4_begin 32 = .ok (.getfield 21, 3) := by decide +kernel
theorem dX4_begin_35 : decode cX4_begin 35 = .ok (.invokevirtual 58, 3) := by decide +kernel
theorem dX4_begin_38 : decode cX4_begin 38 = .ok (.iconst 1, 1) := by decide +kernel
theorem dX4_begin_39 : decode cX4_begin 39 = .ok (.iadd, 1) := by decide +kernel
theorem dX4_begin_40 : decode cX4_begin 40 = .ok (.ireturn, 1) := by decide +kernel
theorem dX4_take_0 : decode cX4_take 0 = .ok (.aload_n 0, 1) := by decide +kernel
theorem dX4_take_1 : decode cX4_take 1 = .ok (.invokevirtual 62, 3) := by decide +kernel
theorem dX4_take_4 : decode cX4_take 4 = .ok (.iload_n 1, 1) := by decide +kernel
theorem dX4_take_5 : decode cX4_take 5 = .ok (.iconst 1, 1) := by decide +kernel
theorem dX4_take_6 : decode cX4_take 6 = .ok (.if_icmp .lt 10, 3) := by decide +kernel
theorem dX4_take_9 : decode cX4_take 9 = .ok (.iload_n 1, 1) := by decide +kernel
theorem dX4_take_10 : decode cX4_take 10 = .ok (.sipush 847, 3) := by decide +kernel
theorem dX4_take_13 : decode cX4_take 13 = .ok (.if_icmp .le 13, 3) := by decide +kernel
theorem dX4_take_16 : decode cX4_take 16 = .ok (.new 65, 3) := by decide +kernel
theorem dX4_take_19 : decode cX4_take 19 = .ok (.dup, 1) := by decide +kernel
theorem dX4_take_20 : decode cX4_take 20 = .ok (.ldc 67, 2) := by decide +kernel
theorem dX4_take_22 : decode cX4_take 22 = .ok (.invokespecial 69, 3) := by decide +kernel
theorem dX4_take_25 : decode cX4_take 25 = .ok (.athrow, 1) := by decide +kernel
theorem dX4_take_26 : decode cX4_take 26 = .ok (.aload_n 0, 1) := by decide +kernel
theorem dX4_take_27 : decode cX4_take 27 = .ok (.getfield 37, 3) := by decide +kernel
theorem dX4_take_30 : decode cX4_take 30 = .ok (.iload_n 1, 1) := by decide +kernel
theorem dX4_take_31 : decode cX4_take 31 = .ok (.invokevirtual 70, 3) := by decide +kernel
theorem dX4_take_34 : decode cX4_take 34 = .ok (.ireturn, 1) := by decide +kernel
theorem dX4_give_0 : decode cX4_give 0 = .ok (.aload_n 0, 1) := by decide +kernel
theorem dX4_give_1 : decode cX4_give 1 = .ok (.invokevirtual 62, 3) := by decide +kernel
theorem dX4_give_4 : decode cX4_give 4 = .ok (.aload_n 0, 1) := by decide +kernel
theorem dX4_give_5 : decode cX4_give 5 = .ok (.iload_n 1, 1) := by decide +kernel
theorem dX4_give_6 : decode cX4_give 6 = .ok (.invokevirtual 74, 3) := by decide +kernel
theorem dX4_give_9 : decode cX4_give 9 = .ok (.aload_n 0, 1) := by decide +kernel
theorem dX4_give_10 : decode cX4_give 10 = .ok (.getfield 37, 3) := by decide +kernel
theorem dX4_give_13 : decode cX4_give 13 = .ok (.iload_n 1, 1) := by decide +kernel
theorem dX4_give_14 : decode cX4_give 14 = .ok (.iconst 1, 1) := by decide +kernel
theorem dX4_give_15 : decode cX4_give 15 = .ok (.isub, 1) := by decide +kernel
theorem dX4_give_16 : decode cX4_give 16 = .ok (.invokevirtual 78, 3) := by decide +kernel
theorem dX4_give_19 : decode cX4_give 19 = .ok (.ireturn, 1) := by decide +kernel
theorem dX4_set_0 : decode cX4_set 0 = .ok (.aload_n 0, 1) := by decide +kernel
theorem dX4_set_1 : decode cX4_set 1 = .ok (.invokevirtual 62, 3) := by decide +kernel
theorem dX4_set_4 : decode cX4_set 4 = .ok (.aload_n 0, 1) := by decide +kernel
theorem dX4_set_5 : decode cX4_set 5 = .ok (.iload_n 1, 1) := by decide +kernel
theorem dX4_set_6 : decode cX4_set 6 = .ok (.iload_n 2, 1) := by decide +kernel
theorem dX4_set_7 : decode cX4_set 7 = .ok (.invokevirtual 81, 3) := by decide +kernel
theorem dX4_set_10 : decode cX4_set 10 = .ok (.aload_n 0, 1) := by decide +kernel
theorem dX4_set_11 : decode cX4_set 11 = .ok (.getfield 28, 3) := by decide +kernel
theorem dX4_set_14 : decode cX4_set 14 = .ok (.iload_n 1, 1) := by decide +kernel
theorem dX4_set_15 : decode cX4_set 15 = .ok (.iload_n 2, 1) := by decide +kernel
theorem dX4_set_16 : decode cX4_set 16 = .ok (.iadd, 1) := by decide +kernel
theorem dX4_set_17 : decode cX4_set 17 = .ok (.lload_n 3, 1) := by decide +kernel
theorem dX4_set_18 : decode cX4_set 18 = .ok (.invokevirtual 85, 3) := by decide +kernel
theorem dX4_set_21 : decode cX4_set 21 = .ok (.ireturn, 1) := by decide +kernel
theorem dX4_get_0 : decode cX4_get 0 = .ok (.aload_n 0, 1) := by decide +kernel
theorem dX4_get_1 : decode cX4_get 1 = .ok (.invokevirtual 41, 3) := by decide +kernel
theorem dX4_get_4 : decode cX4_get 4 = .ok (.aload_n 0, 1) := by decide +kernel
theorem dX4_get_5 : decode cX4_get 5 = .ok (.iload_n 1, 1) := by decide +kernel
theorem dX4_get_6 : decode cX4_get 6 = .ok (.iload_n 2, 1) := by decide +kernel
theorem dX4_get_7 : decode cX4_get 7 = .ok (.invokevirtual 81, 3) := by decide +kernel
theorem dX4_get_10 : decode cX4_get 10 = .ok (.aload_n 0, 1) := by decide +kernel
theorem dX4_get_11 : decode cX4_get 11 = .ok (.getfield 28, 3) := by decide +kernel
theorem dX4_get_14 : decode cX4_get 14 = .ok (.iload_n 1, 1) := by decide +kernel
theorem dX4_get_15 : decode cX4_get 15 = .ok (.iload_n 2, 1) := by decide +kernel
theorem dX4_get_16 : decode cX4_get 16 = .ok (.iadd, 1) := by decide +kernel
theorem dX4_get_17 : decode cX4_get 17 = .ok (.invokevirtual 89, 3) := by decide +kernel
theorem dX4_get_20 : decode cX4_get 20 = .ok (.lreturn, 1) := by decide +kernel
theorem dX4_setRoot_0 : decode cX4_setRoot 0 = .ok (.aload_n 0, 1) := by decide +kernel
theorem dX4_setRoot_1 : decode cX4_setRoot 1 = .ok (.invokevirtual 62, 3) := by decide +kernel
theorem dX4_setRoot_4 : decode cX4_setRoot 4 = .ok (.iload_n 1, 1) := by decide +kernel
theorem dX4_setRoot_5 : decode cX4_setRoot 5 = .ok (.ifCond .eq 8, 3) := by decide +kernel
theorem dX4_setRoot_8 : decode cX4_setRoot 8 = .ok (.aload_n 0, 1) := by decide +kernel
theorem dX4_setRoot_9 : decode cX4_setRoot 9 = .ok (.iload_n 1, 1) := by decide +kernel
theorem dX4_setRoot_10 : decode cX4_setRoot 10 = .ok (.invokevirtual 74, 3) := by decide +kernel
theorem dX4_setRoot_13 : decode cX4_setRoot 13 = .ok (.aload_n 0, 1) := by decide +kernel
theorem dX4_setRoot_14 : decode cX4_setRoot 14 = .ok (.getfield 28, 3) := by decide +kernel
theorem dX4_setRoot_17 : decode cX4_setRoot 17 = .ok (.iconst 1, 1) := by decide +kernel
theorem dX4_setRoot_18 : decode cX4_setRoot 18 = .ok (.iload_n 1, 1) := by decide +kernel
theorem dX4_setRoot_19 : decode cX4_setRoot 19 = .ok (.i2l, 1) := by decide +kernel
theorem dX4_setRoot_20 : decode cX4_setRoot 20 = .ok (.invokevirtual 85, 3) := by decide +kernel
theorem dX4_setRoot_23 : decode cX4_setRoot 23 = .ok (.ireturn, 1) := by decide +kernel
theorem dX4_root_0 : decode cX4_root 0 = .ok (.aload_n 0, 1) := by decide +kernel
theorem dX4_root_1 : decode cX4_root 1 = .ok (.invokevirtual 41, 3) := by decide +kernel
theorem dX4_root_4 : decode cX4_root 4 = .ok (.aload_n 0, 1) := by decide +kernel
theorem dX4_root_5 : decode cX4_root 5 = .ok (.getfield 28, 3) := by decide +kernel
theorem dX4_root_8 : decode cX4_root 8 = .ok (.iconst 1, 1) := by decide +kernel
theorem dX4_root_9 : decode cX4_root 9 = .ok (.invokevirtual 89, 3) := by decide +kernel
theorem dX4_root_12 : decode cX4_root 12 = .ok (.l2i, 1) := by decide +kernel
theorem dX4_root_13 : decode cX4_root 13 = .ok (.ireturn, 1) := by decide +kernel
theorem dX4_commit_0 : decode cX4_commit 0 = .ok (.aload_n 0, 1) := by decide +kernel
theorem dX4_commit_1 : decode cX4_commit 1 = .ok (.invokevirtual 62, 3) := by decide +kernel
theorem dX4_commit_4 : decode cX4_commit 4 = .ok (.aload_n 0, 1) := by decide +kernel
theorem dX4_commit_5 : decode cX4_commit 5 = .ok (.getfield 28, 3) := by decide +kernel
theorem dX4_commit_8 : decode cX4_commit 8 = .ok (.invokevirtual 93, 3) := by decide +kernel
theorem dX4_commit_11 : decode cX4_commit 11 = .ok (.ifCond .ne 18, 3) := by decide +kernel
theorem dX4_commit_14 : decode cX4_commit 14 = .ok (.aload_n 0, 1) := by decide +kernel
theorem dX4_commit_15 : decode cX4_commit 15 = .ok (.getfield 28, 3) := by decide +kernel
theorem dX4_commit_18 : decode cX4_commit 18 = .ok (.invokevirtual 96, 3) := by decide +kernel
theorem dX4_commit_21 : decode cX4_commit 21 = .ok (.aload_n 0, 1) := by decide +kernel
theorem dX4_commit_22 : decode cX4_commit 22 = .ok (.getfield 21, 3) := by decide +kernel
theorem dX4_commit_25 : decode cX4_commit 25 = .ok (.invokevirtual 58, 3) := by decide +kernel
theorem dX4_commit_28 : decode cX4_commit 28 = .ok (.ireturn, 1) := by decide +kernel
theorem dX4_commit_29 : decode cX4_commit 29 = .ok (.aload_n 0, 1) := by decide +kernel
theorem dX4_commit_30 : decode cX4_commit 30 = .ok (.getfield 21, 3) := by decide +kernel
theorem dX4_commit_33 : decode cX4_commit 33 = .ok (.aload_n 0, 1) := by decide +kernel
theorem dX4_commit_34 : decode cX4_commit 34 = .ok (.getfield 28, 3) := by decide +kernel
theorem dX4_commit_37 : decode cX4_commit 37 = .ok (.invokevirtual 93, 3) := by decide +kernel
theorem dX4_commit_40 : decode cX4_commit 40 = .ok (.invokevirtual 99, 3) := by decide +kernel
theorem dX4_commit_43 : decode cX4_commit 43 = .ok (.ifCond .ne 20, 3) := by decide +kernel
theorem dX4_commit_46 : decode cX4_commit 46 = .ok (.aload_n 0, 1) := by decide +kernel
theorem dX4_commit_47 : decode cX4_commit 47 = .ok (.getfield 21, 3) := by decide +kernel
theorem dX4_commit_50 : decode cX4_commit 50 = .ok (.aload_n 0, 1) := by decide +kernel
theorem dX4_commit_51 : decode cX4_commit 51 = .ok (.getfield 21, 3) := by decide +kernel
theorem dX4_commit_54 : decode cX4_commit 54 = .ok (.invokevirtual 103, 3) := by decide +kernel
theorem dX4_commit_57 : decode cX4_commit 57 = .ok (.invokevirtual 106, 3) := by decide +kernel
theorem dX4_commit_60 : decode cX4_commit 60 = .ok (.ifCond .eq 7, 3) := by decide +kernel
theorem dX4_commit_63 : decode cX4_commit 63 = .ok (.iconst 1, 1) := by decide +kernel
theorem dX4_commit_64 : decode cX4_commit 64 = .ok (.goto 4, 3) := by decide +kernel
theorem dX4_commit_67 : decode cX4_commit 67 = .ok (.iconst 0, 1) := by decide +kernel
theorem dX4_commit_68 : decode cX4_commit 68 = .ok (.istore_n 2, 1) := by decide +kernel
theorem dX4_commit_69 : decode cX4_commit 69 = .ok (.iload_n 2, 1) := by decide +kernel
theorem dX4_commit_70 : decode cX4_commit 70 = .ok (.ifCond .eq 22, 3) := by decide +kernel
theorem dX4_commit_73 : decode cX4_commit 73 = .ok (.aload_n 0, 1) := by decide +kernel
theorem dX4_commit_74 : decode cX4_commit 74 = .ok (.getfield 21, 3) := by decide +kernel
theorem dX4_commit_77 : decode cX4_commit 77 = .ok (.aload_n 0, 1) := by decide +kernel
theorem dX4_commit_78 : decode cX4_commit 78 = .ok (.getfield 28, 3) := by decide +kernel
theorem dX4_commit_81 : decode cX4_commit 81 = .ok (.invokevirtual 93, 3) := by decide +kernel
theorem dX4_commit_84 : decode cX4_commit 84 = .ok (.invokevirtual 99, 3) := by decide +kernel
theorem dX4_commit_87 : decode cX4_commit 87 = .ok (.ifCond .ne 5, 3) := by decide +kernel
theorem dX4_commit_90 : decode cX4_commit 90 = .ok (.iconst (-1), 1) := by decide +kernel
theorem dX4_commit_91 : decode cX4_commit 91 = .ok (.ireturn, 1) := by decide +kernel
theorem dX4_commit_92 : decode cX4_commit 92 = .ok (.iload_n 2, 1) := by decide +kernel
theorem dX4_commit_93 : decode cX4_commit 93 = .ok (.ifCond .eq 18, 3) := by decide +kernel
theorem dX4_commit_96 : decode cX4_commit 96 = .ok (.aload_n 0, 1) := by decide +kernel
theorem dX4_commit_97 : decode cX4_commit 97 = .ok (.getfield 21, 3) := by decide +kernel
theorem dX4_commit_100 : decode cX4_commit 100 = .ok (.aload_n 0, 1) := by decide +kernel
theorem dX4_commit_101 : decode cX4_commit 101 = .ok (.getfield 28, 3) := by decide +kernel
theorem dX4_commit_104 : decode cX4_commit 104 = .ok (.iload_n 1, 1) := by decide +kernel
theorem dX4_commit_105 : decode cX4_commit 105 = .ok (.invokevirtual 109, 3) := by decide +kernel
theorem dX4_commit_108 : decode cX4_commit 108 = .ok (.ifCond .ne 13, 3) := by decide +kernel
theorem dX4_commit_111 : decode cX4_commit 111 = .ok (.aload_n 0, 1) := by decide +kernel
theorem dX4_commit_112 : decode cX4_commit 112 = .ok (.getfield 28, 3) := by decide +kernel
theorem dX4_commit_115 : decode cX4_commit 115 = .ok (.invokevirtual 113, 3) := by decide +kernel
theorem dX4_commit_118 : decode cX4_commit 118 = .ok (.bipush (-2), 2) := by decide +kernel
theorem dX4_commit_120 : decode cX4_commit 120 = .ok (.ireturn, 1) := by decide +kernel
theorem dX4_commit_121 : decode cX4_commit 121 = .ok (.aload_n 0, 1) := by decide +kernel
theorem dX4_commit_122 : decode cX4_commit 122 = .ok (.getfield 28, 3) := by decide +kernel
theorem dX4_commit_125 : decode cX4_commit 125 = .ok (.invokevirtual 96, 3) := by decide +kernel
theorem dX4_commit_128 : decode cX4_commit 128 = .ok (.aload_n 0, 1) := by decide +kernel
theorem dX4_commit_129 : decode cX4_commit 129 = .ok (.getfield 21, 3) := by decide +kernel
theorem dX4_commit_132 : decode cX4_commit 132 = .ok (.invokevirtual 58, 3) := by decide +kernel
theorem dX4_commit_135 : decode cX4_commit 135 = .ok (.ireturn, 1) := by decide +kernel
theorem dX4_sync_0 : decode cX4_sync 0 = .ok (.aload_n 0, 1) := by decide +kernel
theorem dX4_sync_1 : decode cX4_sync 1 = .ok (.invokevirtual 41, 3) := by decide +kernel
theorem dX4_sync_4 : decode cX4_sync 4 = .ok (.aload_n 0, 1) := by decide +kernel
theorem dX4_sync_5 : decode cX4_sync 5 = .ok (.getfield 10, 3) := by decide +kernel
theorem dX4_sync_8 : decode cX4_sync 8 = .ok (.invokevirtual 116, 3) := by decide +kernel
theorem dX4_sync_11 : decode cX4_sync 11 = .ok (.istore_n 1, 1) := by decide +kernel
theorem dX4_sync_12 : decode cX4_sync 12 = .ok (.aload_n 0, 1) := by decide +kernel
theorem dX4_sync_13 : decode cX4_sync 13 = .ok (.getfield 10, 3) := by decide +kernel
theorem dX4_sync_16 : decode cX4_sync 16 = .ok (.invokevirtual 119, 3) := by decide +kernel
theorem dX4_sync_19 : decode cX4_sync 19 = .ok (.iload_n 1, 1) := by decide +kernel
theorem dX4_sync_20 : decode cX4_sync 20 = .ok (.ireturn, 1) := by decide +kernel
theorem dX4_abort_0 : decode cX4_abort 0 = .ok (.aload_n 0, 1) := by decide +kernel
theorem dX4_abort_1 : decode cX4_abort 1 = .ok (.invokevirtual 62, 3) := by decide +kernel
theorem dX4_abort_4 : decode cX4_abort 4 = .ok (.aload_n 0, 1) := by decide +kernel
theorem dX4_abort_5 : decode cX4_abort 5 = .ok (.getfield 28, 3) := by decide +kernel
theorem dX4_abort_8 : decode cX4_abort 8 = .ok (.invokevirtual 93, 3) := by decide +kernel
theorem dX4_abort_11 : decode cX4_abort 11 = .ok (.istore_n 1, 1) := by decide +kernel
theorem dX4_abort_12 : decode cX4_abort 12 = .ok (.aload_n 0, 1) := by decide +kernel
theorem dX4_abort_13 : decode cX4_abort 13 = .ok (.getfield 28, 3) := by decide +kernel
theorem dX4_abort_16 : decode cX4_abort 16 = .ok (.invokevirtual 122, 3) := by decide +kernel
theorem dX4_abort_19 : decode cX4_abort 19 = .ok (.iload_n 1, 1) := by decide +kernel
theorem dX4_abort_20 : decode cX4_abort 20 = .ok (.ireturn, 1) := by decide +kernel
theorem dX4_checkpoint_0 : decode cX4_checkpoint 0 = .ok (.aload_n 0, 1) := by decide +kernel
theorem dX4_checkpoint_1 : decode cX4_checkpoint 1 = .ok (.invokevirtual 41, 3) := by decide +kernel
theorem dX4_checkpoint_4 : decode cX4_checkpoint 4 = .ok (.aload_n 0, 1) := by decide +kernel
theorem dX4_checkpoint_5 : decode cX4_checkpoint 5 = .ok (.getfield 28, 3) := by decide +kernel
theorem dX4_checkpoint_8 : decode cX4_checkpoint 8 = .ok (.invokevirtual 44, 3) := by decide +kernel
theorem dX4_checkpoint_11 : decode cX4_checkpoint 11 = .ok (.ifCond .eq 13, 3) := by decide +kernel
theorem dX4_checkpoint_14 : decode cX4_checkpoint 14 = .ok (.new 48, 3) := by decide +kernel
theorem dX4_checkpoint_17 : decode cX4_checkpoint 17 = .ok (.dup, 1) := by decide +kernel
theorem dX4_checkpoint_18 : decode cX4_checkpoint 18 = .ok (.ldc 50, 2) := by decide +kernel
theorem dX4_checkpoint_20 : decode cX4_checkpoint 20 = .ok (.invokespecial 52, 3) := by decide +kernel
theorem dX4_checkpoint_23 : decode cX4_checkpoint 23 = .ok (.athrow, 1) := by decide +kernel
theorem dX4_checkpoint_24 : decode cX4_checkpoint 24 = .ok (.aload_n 0, 1) := by decide +kernel
theorem dX4_checkpoint_25 : decode cX4_checkpoint 25 = .ok (.getfield 21, 3) := by decide +kernel
theorem dX4_checkpoint_28 : decode cX4_checkpoint 28 = .ok (.invokevirtual 125, 3) := by decide +kernel
theorem dX4_checkpoint_31 : decode cX4_checkpoint 31 = .ok (.istore_n 1, 1) := by decide +kernel
theorem dX4_checkpoint_32 : decode cX4_checkpoint 32 = .ok (.aload_n 0, 1) := by decide +kernel
theorem dX4_checkpoint_33 : decode cX4_checkpoint 33 = .ok (.getfield 21, 3) := by decide +kernel
theorem dX4_checkpoint_36 : decode cX4_checkpoint 36 = .ok (.aload_n 0, 1) := by decide +kernel
theorem dX4_checkpoint_37 : decode cX4_checkpoint 37 = .ok (.getfield 21, 3) := by decide +kernel
theorem dX4_checkpoint_40 : decode cX4_checkpoint 40 = .ok (.invokevirtual 103, 3) := by decide +kernel
theorem dX4_checkpoint_43 : decode cX4_checkpoint 43 = .ok (.invokevirtual 106, 3) := by decide +kernel
theorem dX4_checkpoint_46 : decode cX4_checkpoint 46 = .ok (.ifCond .eq 7, 3) := by decide +kernel
theorem dX4_checkpoint_49 : decode cX4_checkpoint 49 = .ok (.iload_n 1, 1) := by decide +kernel
theorem dX4_checkpoint_50 : decode cX4_checkpoint 50 = .ok (.goto 5, 3) := by decide +kernel
theorem dX4_checkpoint_53 : decode cX4_checkpoint 53 = .ok (.bipush (-2), 2) := by decide +kernel
theorem dX4_checkpoint_55 : decode cX4_checkpoint 55 = .ok (.ireturn, 1) := by decide +kernel
theorem dX4_power_0 : decode cX4_power 0 = .ok (.iload_n 1, 1) := by decide +kernel
theorem dX4_power_1 : decode cX4_power 1 = .ok (.ifCond .lt 21, 3) := by decide +kernel
theorem dX4_power_4 : decode cX4_power 4 = .ok (.iload_n 1, 1) := by decide +kernel
theorem dX4_power_5 : decode cX4_power 5 = .ok (.sipush 5000, 3) := by decide +kernel
theorem dX4_power_8 : decode cX4_power 8 = .ok (.if_icmp .gt 14, 3) := by decide +kernel
theorem dX4_power_11 : decode cX4_power 11 = .ok (.iload_n 2, 1) := by decide +kernel
theorem dX4_power_12 : decode cX4_power 12 = .ok (.ifCond .lt 10, 3) := by decide +kernel
theorem dX4_power_15 : decode cX4_power 15 = .ok (.iload_n 2, 1) := by decide +kernel
theorem dX4_power_16 : decode cX4_power 16 = .ok (.sipush 5000, 3) := by decide +kernel
theorem dX4_power_19 : decode cX4_power 19 = .ok (.if_icmp .le 13, 3) := by decide +kernel
theorem dX4_power_22 : decode cX4_power 22 = .ok (.new 65, 3) := by decide +kernel
theorem dX4_power_25 : decode cX4_power 25 = .ok (.dup, 1) := by decide +kernel
theorem dX4_power_26 : decode cX4_power 26 = .ok (.ldc 128, 2) := by decide +kernel
theorem dX4_power_28 : decode cX4_power 28 = .ok (.invokespecial 69, 3) := by decide +kernel
theorem dX4_power_31 : decode cX4_power 31 = .ok (.athrow, 1) := by decide +kernel
theorem dX4_power_32 : decode cX4_power 32 = .ok (.aload_n 0, 1) := by decide +kernel
theorem dX4_power_33 : decode cX4_power 33 = .ok (.getfield 10, 3) := by decide +kernel
theorem dX4_power_36 : decode cX4_power 36 = .ok (.iload_n 1, 1) := by decide +kernel
theorem dX4_power_37 : decode cX4_power 37 = .ok (.iload_n 2, 1) := by decide +kernel
theorem dX4_power_38 : decode cX4_power 38 = .ok (.invokevirtual 130, 3) := by decide +kernel
theorem dX4_power_41 : decode cX4_power 41 = .ok (.ireturn, 1) := by decide +kernel
theorem dX4_cut_0 : decode cX4_cut 0 = .ok (.aload_n 0, 1) := by decide +kernel
theorem dX4_cut_1 : decode cX4_cut 1 = .ok (.invokevirtual 41, 3) := by decide +kernel
theorem dX4_cut_4 : decode cX4_cut 4 = .ok (.iload_n 1, 1) := by decide +kernel
theorem dX4_cut_5 : decode cX4_cut 5 = .ok (.ifCond .ge 13, 3) := by decide +kernel
theorem dX4_cut_8 : decode cX4_cut 8 = .ok (.new 65, 3) := by decide +kernel
theorem dX4_cut_11 : decode cX4_cut 11 = .ok (.dup, 1) := by decide +kernel
theorem dX4_cut_12 : decode cX4_cut 12 = .ok (.ldc 134, 2) := by decide +kernel
theorem dX4_cut_14 : decode cX4_cut 14 = .ok (.invokespecial 69, 3) := by decide +kernel
theorem dX4_cut_17 : decode cX4_cut 17 = .ok (.athrow, 1) := by decide +kernel
theorem dX4_cut_18 : decode cX4_cut 18 = .ok (.aload_n 0, 1) := by decide +kernel
theorem dX4_cut_19 : decode cX4_cut 19 = .ok (.getfield 10, 3) := by decide +kernel
theorem dX4_cut_22 : decode cX4_cut 22 = .ok (.invokevirtual 116, 3) := by decide +kernel
theorem dX4_cut_25 : decode cX4_cut 25 = .ok (.istore_n 2, 1) := by decide +kernel
theorem dX4_cut_26 : decode cX4_cut 26 = .ok (.aload_n 0, 1) := by decide +kernel
theorem dX4_cut_27 : decode cX4_cut 27 = .ok (.getfield 10, 3) := by decide +kernel
theorem dX4_cut_30 : decode cX4_cut 30 = .ok (.iload_n 1, 1) := by decide +kernel
theorem dX4_cut_31 : decode cX4_cut 31 = .ok (.invokevirtual 136, 3) := by decide +kernel
theorem dX4_cut_34 : decode cX4_cut 34 = .ok (.aload_n 0, 1) := by decide +kernel
theorem dX4_cut_35 : decode cX4_cut 35 = .ok (.getfield 28, 3) := by decide +kernel
theorem dX4_cut_38 : decode cX4_cut 38 = .ok (.invokevirtual 113, 3) := by decide +kernel
theorem dX4_cut_41 : decode cX4_cut 41 = .ok (.iload_n 2, 1) := by decide +kernel
theorem dX4_cut_42 : decode cX4_cut 42 = .ok (.ireturn, 1) := by decide +kernel
theorem dX4_open_0 : decode cX4_open 0 = .ok (.aload_n 0, 1) := by decide +kernel
theorem dX4_open_1 : decode cX4_open 1 = .ok (.getfield 10, 3) := by decide +kernel
theorem dX4_open_4 : decode cX4_open 4 = .ok (.invokevirtual 139, 3) := by decide +kernel
theorem dX4_open_7 : decode cX4_open 7 = .ok (.ifCond .eq 13, 3) := by decide +kernel
theorem dX4_open_10 : decode cX4_open 10 = .ok (.new 48, 3) := by decide +kernel
theorem dX4_open_13 : decode cX4_open 13 = .ok (.dup, 1) := by decide +kernel
theorem dX4_open_14 : decode cX4_open 14 = .ok (.ldc 142, 2) := by decide +kernel
theorem dX4_open_16 : decode cX4_open 16 = .ok (.invokespecial 52, 3) := by decide +kernel
theorem dX4_open_19 : decode cX4_open 19 = .ok (.athrow, 1) := by decide +kernel
theorem dX4_open_20 : decode cX4_open 20 = .ok (.aload_n 0, 1) := by decide +kernel
theorem dX4_open_21 : decode cX4_open 21 = .ok (.getfield 10, 3) := by decide +kernel
theorem dX4_open_24 : decode cX4_open 24 = .ok (.invokevirtual 144, 3) := by decide +kernel
theorem dX4_open_27 : decode cX4_open 27 = .ok (.iconst 0, 1) := by decide +kernel
theorem dX4_open_28 : decode cX4_open 28 = .ok (.istore_n 1, 1) := by decide +kernel
theorem dX4_open_29 : decode cX4_open 29 = .ok (.aload_n 0, 1) := by decide +kernel
theorem dX4_open_30 : decode cX4_open 30 = .ok (.getfield 10, 3) := by decide +kernel
theorem dX4_open_33 : decode cX4_open 33 = .ok (.iconst 0, 1) := by decide +kernel
theorem dX4_open_34 : decode cX4_open 34 = .ok (.invokevirtual 147, 3) := by decide +kernel
theorem dX4_open_37 : decode cX4_open 37 = .ok (.lconst 0, 1) := by decide +kernel
theorem dX4_open_38 : decode cX4_open 38 = .ok (.lcmp, 1) := by decide +kernel
theorem dX4_open_39 : decode cX4_open 39 = .ok (.ifCond .ne 10, 3) := by decide +kernel
theorem dX4_open_42 : decode cX4_open 42 = .ok (.aload_n 0, 1) := by decide +kernel
theorem dX4_open_43 : decode cX4_open 43 = .ok (.invokevirtual 148, 3) := by decide +kernel
theorem dX4_open_46 : decode cX4_open 46 = .ok (.goto 26, 3) := by decide +kernel
theorem dX4_open_49 : decode cX4_open 49 = .ok (.aload_n 0, 1) := by decide +kernel
theorem dX4_open_50 : decode cX4_open 50 = .ok (.getfield 21, 3) := by decide +kernel
theorem dX4_open_53 : decode cX4_open 53 = .ok (.invokevirtual 151, 3) := by decide +kernel
theorem dX4_open_56 : decode cX4_open 56 = .ok (.istore_n 1, 1) := by decide +kernel
theorem dX4_open_57 : decode cX4_open 57 = .ok (.aload_n 0, 1) := by decide +kernel
theorem dX4_open_58 : decode cX4_open 58 = .ok (.getfield 21, 3) := by decide +kernel
theorem dX4_open_61 : decode cX4_open 61 = .ok (.aload_n 0, 1) := by decide +kernel
theorem dX4_open_62 : decode cX4_open 62 = .ok (.getfield 21, 3) := by decide +kernel
theorem dX4_open_65 : decode cX4_open 65 = .ok (.invokevirtual 154, 3) := by decide +kernel
theorem dX4_open_68 : decode cX4_open 68 = .ok (.invokevirtual 106, 3) := by decide +kernel
theorem dX4_open_71 : decode cX4_open 71 = .ok (.pop, 1) := by decide +kernel
theorem dX4_open_72 : decode cX4_open 72 = .ok (.aload_n 0, 1) := by decide +kernel
theorem dX4_open_73 : decode cX4_open 73 = .ok (.getfield 10, 3) := by decide +kernel
theorem dX4_open_76 : decode cX4_open 76 = .ok (.invokevirtual 139, 3) := by decide +kernel
theorem dX4_open_79 : decode cX4_open 79 = .ok (.ifCond .ne 6, 3) := by decide +kernel
theorem dX4_open_82 : decode cX4_open 82 = .ok (.bipush (-2), 2) := by decide +kernel
theorem dX4_open_84 : decode cX4_open 84 = .ok (.ireturn, 1) := by decide +kernel
theorem dX4_open_85 : decode cX4_open 85 = .ok (.aload_n 0, 1) := by decide +kernel
theorem dX4_open_86 : decode cX4_open 86 = .ok (.getfield 28, 3) := by decide +kernel
theorem dX4_open_89 : decode cX4_open 89 = .ok (.aload_n 0, 1) := by decide +kernel
theorem dX4_open_90 : decode cX4_open 90 = .ok (.getfield 10, 3) := by decide +kernel
theorem dX4_open_93 : decode cX4_open 93 = .ok (.invokevirtual 157, 3) := by decide +kernel
theorem dX4_open_96 : decode cX4_open 96 = .ok (.iload_n 1, 1) := by decide +kernel
theorem dX4_open_97 : decode cX4_open 97 = .ok (.ireturn, 1) := by decide +kernel
theorem dX4_word_0 : decode cX4_word 0 = .ok (.iload_n 1, 1) := by decide +kernel
theorem dX4_word_1 : decode cX4_word 1 = .ok (.invokestatic 160, 3) := by decide +kernel
theorem dX4_word_4 : decode cX4_word 4 = .ok (.ifCond .ne 13, 3) := by decide +kernel
theorem dX4_word_7 : decode cX4_word 7 = .ok (.new 163, 3) := by decide +kernel
theorem dX4_word_10 : decode cX4_word 10 = .ok (.dup, 1) := by decide +kernel
theorem dX4_word_11 : decode cX4_word 11 = .ok (.ldc 165, 2) := by decide +kernel
theorem dX4_word_13 : decode cX4_word 13 = .ok (.invokespecial 167, 3) := by decide +kernel
theorem dX4_word_16 : decode cX4_word 16 = .ok (.athrow, 1) := by decide +kernel
theorem dX4_word_17 : decode cX4_word 17 = .ok (.aload_n 0, 1) := by decide +kernel
theorem dX4_word_18 : decode cX4_word 18 = .ok (.getfield 10, 3) := by decide +kernel
theorem dX4_word_21 : decode cX4_word 21 = .ok (.iload_n 1, 1) := by decide +kernel
theorem dX4_word_22 : decode cX4_word 22 = .ok (.invokevirtual 168, 3) := by decide +kernel
theorem dX4_word_25 : decode cX4_word 25 = .ok (.lreturn, 1) := by decide +kernel
theorem dX4_block_0 : decode cX4_block 0 = .ok (.aload_n 0, 1) := by decide +kernel
theorem dX4_block_1 : decode cX4_block 1 = .ok (.invokevirtual 41, 3) := by decide +kernel
theorem dX4_block_4 : decode cX4_block 4 = .ok (.iload_n 2, 1) := by decide +kernel
theorem dX4_block_5 : decode cX4_block 5 = .ok (.ifCond .lt 8, 3) := by decide +kernel
theorem dX4_block_8 : decode cX4_block 8 = .ok (.iload_n 2, 1) := by decide +kernel
theorem dX4_block_9 : decode cX4_block 9 = .ok (.iconst 2, 1) := by decide +kernel
theorem dX4_block_10 : decode cX4_block 10 = .ok (.if_icmp .le 13, 3) := by decide +kernel
theorem dX4_block_13 : decode cX4_block 13 = .ok (.new 163, 3) := by decide +kernel
theorem dX4_block_16 : decode cX4_block 16 = .ok (.dup, 1) := by decide +kernel
theorem dX4_block_17 : decode cX4_block 17 = .ok (.ldc 171, 2) := by decide +kernel
theorem dX4_block_19 : decode cX4_block 19 = .ok (.invokespecial 167, 3) := by decide +kernel
theorem dX4_block_22 : decode cX4_block 22 = .ok (.athrow, 1) := by decide +kernel
theorem dX4_block_23 : decode cX4_block 23 = .ok (.aload_n 0, 1) := by decide +kernel
theorem dX4_block_24 : decode cX4_block 24 = .ok (.getfield 37, 3) := by decide +kernel
theorem dX4_block_27 : decode cX4_block 27 = .ok (.iload_n 1, 1) := by decide +kernel
theorem dX4_block_28 : decode cX4_block 28 = .ok (.invokevirtual 173, 3) := by decide +kernel
theorem dX4_block_31 : decode cX4_block 31 = .ok (.istore_n 3, 1) := by decide +kernel
theorem dX4_block_32 : decode cX4_block 32 = .ok (.iload_n 3, 1) := by decide +kernel
theorem dX4_block_33 : decode cX4_block 33 = .ok (.iconst (-1), 1) := by decide +kernel
theorem dX4_block_34 : decode cX4_block 34 = .ok (.if_icmp .ne 5, 3) := by decide +kernel
theorem dX4_block_37 : decode cX4_block 37 = .ok (.iconst (-1), 1) := by decide +kernel
theorem dX4_block_38 : decode cX4_block 38 = .ok (.ireturn, 1) := by decide +kernel
theorem dX4_block_39 : decode cX4_block 39 = .ok (.iload_n 2, 1) := by decide +kernel
theorem dX4_block_40 : decode cX4_block 40 = .ok (.lookupswitch 41 #[(0, 28), (1, 32)], 28) := by decide +kernel
theorem dX4_block_68 : decode cX4_block 68 = .ok (.iload_n 3, 1) := by decide +kernel
theorem dX4_block_69 : decode cX4_block 69 = .ok (.iconst 1, 1) := by decide +kernel
theorem dX4_block_70 : decode cX4_block 70 = .ok (.iadd, 1) := by decide +kernel
theorem dX4_block_71 : decode cX4_block 71 = .ok (.ireturn, 1) := by decide +kernel
theorem dX4_block_72 : decode cX4_block 72 = .ok (.aload_n 0, 1) := by decide +kernel
theorem dX4_block_73 : decode cX4_block 73 = .ok (.getfield 37, 3) := by decide +kernel
theorem dX4_block_76 : decode cX4_block 76 = .ok (.iload_n 3, 1) := by decide +kernel
theorem dX4_block_77 : decode cX4_block 77 = .ok (.invokevirtual 176, 3) := by decide +kernel
theorem dX4_block_80 : decode cX4_block 80 = .ok (.ireturn, 1) := by decide +kernel
theorem dX4_block_81 : decode cX4_block 81 = .ok (.aload_n 0, 1) := by decide +kernel
theorem dX4_block_82 : decode cX4_block 82 = .ok (.getfield 37, 3) := by decide +kernel
theorem dX4_block_85 : decode cX4_block 85 = .ok (.iload_n 3, 1) := by decide +kernel
theorem dX4_block_86 : decode cX4_block 86 = .ok (.invokevirtual 179, 3) := by decide +kernel
theorem dX4_block_89 : decode cX4_block 89 = .ok (.ifCond .eq 7, 3) := by decide +kernel
theorem dX4_block_92 : decode cX4_block 92 = .ok (.iconst 1, 1) := by decide +kernel
theorem dX4_block_93 : decode cX4_block 93 = .ok (.goto 4, 3) := by decide +kernel
theorem dX4_block_96 : decode cX4_block 96 = .ok (.iconst 0, 1) := by decide +kernel
theorem dX4_block_97 : decode cX4_block 97 = .ok (.ireturn, 1) := by decide +kernel
theorem dX4_told_0 : decode cX4_told 0 = .ok (.aload_n 0, 1) := by decide +kernel
theorem dX4_told_1 : decode cX4_told 1 = .ok (.invokevirtual 41, 3) := by decide +kernel
theorem dX4_told_4 : decode cX4_told 4 = .ok (.iload_n 1, 1) := by decide +kernel
theorem dX4_told_5 : decode cX4_told 5 = .ok (.tableswitch 113 0 7 #[47, 55, 63, 71, 79, 87, 97, 105], 47) := by decide +kernel
theorem dX4_told_52 : decode cX4_told 52 = .ok (.aload_n 0, 1) := by decide +kernel
theorem dX4_told_53 : decode cX4_told 53 = .ok (.getfield 37, 3) := by decide +kernel
theorem dX4_told_56 : decode cX4_told 56 = .ok (.invokevirtual 182, 3) := by decide +kernel
theorem dX4_told_59 : decode cX4_told 59 = .ok (.ireturn, 1) := by decide +kernel
theorem dX4_told_60 : decode cX4_told 60 = .ok (.aload_n 0, 1) := by decide +kernel
theorem dX4_told_61 : decode cX4_told 61 = .ok (.getfield 37, 3) := by decide +kernel
theorem dX4_told_64 : decode cX4_told 64 = .ok (.invokevirtual 185, 3) := by decide +kernel
theorem dX4_told_67 : decode cX4_told 67 = .ok (.ireturn, 1) := by decide +kernel
theorem dX4_told_68 : decode cX4_told 68 = .ok (.aload_n 0, 1) := by decide +kernel
theorem dX4_told_69 : decode cX4_told 69 = .ok (.getfield 37, 3) := by decide +kernel
theorem dX4_told_72 : decode cX4_told 72 = .ok (.invokevirtual 188, 3) := by decide +kernel
theorem dX4_told_75 : decode cX4_told 75 = .ok (.ireturn, 1) := by decide +kernel
theorem dX4_told_76 : decode cX4_told 76 = .ok (.aload_n 0, 1) := by decide +kernel
theorem dX4_told_77 : decode cX4_told 77 = .ok (.getfield 21, 3) := by decide +kernel
theorem dX4_told_80 : decode cX4_told 80 = .ok (.invokevirtual 103, 3) := by decide +kernel
theorem dX4_told_83 : decode cX4_told 83 = .ok (.ireturn, 1) := by decide +kernel
theorem dX4_told_84 : decode cX4_told 84 = .ok (.aload_n 0, 1) := by decide +kernel
theorem dX4_told_85 : decode cX4_told 85 = .ok (.getfield 21, 3) := by decide +kernel
theorem dX4_told_88 : decode cX4_told 88 = .ok (.invokevirtual 125, 3) := by decide +kernel
theorem dX4_told_91 : decode cX4_told 91 = .ok (.ireturn, 1) := by decide +kernel
theorem dX4_told_92 : decode cX4_told 92 = .ok (.aload_n 0, 1) := by decide +kernel
theorem dX4_told_93 : decode cX4_told 93 = .ok (.getfield 10, 3) := by decide +kernel
theorem dX4_told_96 : decode cX4_told 96 = .ok (.iconst 0, 1) := by decide +kernel
theorem dX4_told_97 : decode cX4_told 97 = .ok (.invokevirtual 147, 3) := by decide +kernel
theorem dX4_told_100 : decode cX4_told 100 = .ok (.l2i, 1) := by decide +kernel
theorem dX4_told_101 : decode cX4_told 101 = .ok (.ireturn, 1) := by decide +kernel
theorem dX4_told_102 : decode cX4_told 102 = .ok (.aload_n 0, 1) := by decide +kernel
theorem dX4_told_103 : decode cX4_told 103 = .ok (.getfield 21, 3) := by decide +kernel
theorem dX4_told_106 : decode cX4_told 106 = .ok (.invokevirtual 58, 3) := by decide +kernel
theorem dX4_told_109 : decode cX4_told 109 = .ok (.ireturn, 1) := by decide +kernel
theorem dX4_told_110 : decode cX4_told 110 = .ok (.aload_n 0, 1) := by decide +kernel
theorem dX4_told_111 : decode cX4_told 111 = .ok (.getfield 28, 3) := by decide +kernel
theorem dX4_told_114 : decode cX4_told 114 = .ok (.invokevirtual 93, 3) := by decide +kernel
theorem dX4_told_117 : decode cX4_told 117 = .ok (.ireturn, 1) := by decide +kernel
theorem dX4_told_118 : decode cX4_told 118 = .ok (.new 163, 3) := by decide +kernel
theorem dX4_told_121 : decode cX4_told 121 = .ok (.dup, 1) := by decide +kernel
theorem dX4_told_122 : decode cX4_told 122 = .ok (.ldc 171, 2) := by decide +kernel
theorem dX4_told_124 : decode cX4_told 124 = .ok (.invokespecial 167, 3) := by decide +kernel
theorem dX4_told_127 : decode cX4_told 127 = .ok (.athrow, 1) := by decide +kernel
theorem dX4_count_0 : decode cX4_count 0 = .ok (.iload_n 1, 1) := by decide +kernel
theorem dX4_count_1 : decode cX4_count 1 = .ok (.tableswitch 115 0 6 #[43, 59, 75, 83, 91, 99, 107], 43) := by decide +kernel
theorem dX4_count_44 : decode cX4_count 44 = .ok (.aload_n 0, 1) := by decide +kernel
theorem dX4_count_45 : decode cX4_count 45 = .ok (.getfield 10, 3) := by decide +kernel
theorem dX4_count_48 : decode cX4_count 48 = .ok (.invokevirtual 139, 3) := by decide +kernel
theorem dX4_count_51 : decode cX4_count 51 = .ok (.ifCond .eq 7, 3) := by decide +kernel
theorem dX4_count_54 : decode cX4_count 54 = .ok (.iconst 1, 1) := by decide +kernel
theorem dX4_count_55 : decode cX4_count 55 = .ok (.goto 4, 3) := by decide +kernel
theorem dX4_count_58 : decode cX4_count 58 = .ok (.iconst 0, 1) := by decide +kernel
theorem dX4_count_59 : decode cX4_count 59 = .ok (.ireturn, 1) := by decide +kernel
theorem dX4_count_60 : decode cX4_count 60 = .ok (.aload_n 0, 1) := by decide +kernel
theorem dX4_count_61 : decode cX4_count 61 = .ok (.getfield 28, 3) := by decide +kernel
theorem dX4_count_64 : decode cX4_count 64 = .ok (.invokevirtual 44, 3) := by decide +kernel
theorem dX4_count_67 : decode cX4_count 67 = .ok (.ifCond .eq 7, 3) := by decide +kernel
theorem dX4_count_70 : decode cX4_count 70 = .ok (.iconst 1, 1) := by decide +kernel
theorem dX4_count_71 : decode cX4_count 71 = .ok (.goto 4, 3) := by decide +kernel
theorem dX4_count_74 : decode cX4_count 74 = .ok (.iconst 0, 1) := by decide +kernel
theorem dX4_count_75 : decode cX4_count 75 = .ok (.ireturn, 1) := by decide +kernel
theorem dX4_count_76 : decode cX4_count 76 = .ok (.aload_n 0, 1) := by decide +kernel
theorem dX4_count_77 : decode cX4_count 77 = .ok (.getfield 10, 3) := by decide +kernel
theorem dX4_count_80 : decode cX4_count 80 = .ok (.invokevirtual 191, 3) := by decide +kernel
theorem dX4_count_83 : decode cX4_count 83 = .ok (.ireturn, 1) := by decide +kernel
theorem dX4_count_84 : decode cX4_count 84 = .ok (.aload_n 0, 1) := by decide +kernel
theorem dX4_count_85 : decode cX4_count 85 = .ok (.getfield 10, 3) := by decide +kernel
theorem dX4_count_88 : decode cX4_count 88 = .ok (.invokevirtual 194, 3) := by decide +kernel
theorem dX4_count_91 : decode cX4_count 91 = .ok (.ireturn, 1) := by decide +kernel
theorem dX4_count_92 : decode cX4_count 92 = .ok (.aload_n 0, 1) := by decide +kernel
theorem dX4_count_93 : decode cX4_count 93 = .ok (.getfield 10, 3) := by decide +kernel
theorem dX4_count_96 : decode cX4_count 96 = .ok (.invokevirtual 197, 3) := by decide +kernel
theorem dX4_count_99 : decode cX4_count 99 = .ok (.ireturn, 1) := by decide +kernel
theorem dX4_count_100 : decode cX4_count 100 = .ok (.aload_n 0, 1) := by decide +kernel
theorem dX4_count_101 : decode cX4_count 101 = .ok (.getfield 10, 3) := by decide +kernel
theorem dX4_count_104 : decode cX4_count 104 = .ok (.invokevirtual 200, 3) := by decide +kernel
theorem dX4_count_107 : decode cX4_count 107 = .ok (.ireturn, 1) := by decide +kernel
theorem dX4_count_108 : decode cX4_count 108 = .ok (.aload_n 0, 1) := by decide +kernel
theorem dX4_count_109 : decode cX4_count 109 = .ok (.getfield 10, 3) := by decide +kernel
theorem dX4_count_112 : decode cX4_count 112 = .ok (.invokevirtual 116, 3) := by decide +kernel
theorem dX4_count_115 : decode cX4_count 115 = .ok (.ireturn, 1) := by decide +kernel
theorem dX4_count_116 : decode cX4_count 116 = .ok (.new 163, 3) := by decide +kernel
theorem dX4_count_119 : decode cX4_count 119 = .ok (.dup, 1) := by decide +kernel
theorem dX4_count_120 : decode cX4_count 120 = .ok (.ldc 171, 2) := by decide +kernel
theorem dX4_count_122 : decode cX4_count 122 = .ok (.invokespecial 167, 3) := by decide +kernel
theorem dX4_count_125 : decode cX4_count 125 = .ok (.athrow, 1) := by decide +kernel
theorem dX4_needPower_0 : decode cX4_needPower 0 = .ok (.aload_n 0, 1) := by decide +kernel
theorem dX4_needPower_1 : decode cX4_needPower 1 = .ok (.getfield 10, 3) := by decide +kernel
theorem dX4_needPower_4 : decode cX4_needPower 4 = .ok (.invokevirtual 139, 3) := by decide +kernel
theorem dX4_needPower_7 : decode cX4_needPower 7 = .ok (.ifCond .ne 13, 3) := by decide +kernel
theorem dX4_needPower_10 : decode cX4_needPower 10 = .ok (.new 48, 3) := by decide +kernel
theorem dX4_needPower_13 : decode cX4_needPower 13 = .ok (.dup, 1) := by decide +kernel
theorem dX4_needPower_14 : decode cX4_needPower 14 = .ok (.ldc 203, 2) := by decide +kernel
theorem dX4_needPower_16 : decode cX4_needPower 16 = .ok (.invokespecial 52, 3) := by decide +kernel
theorem dX4_needPower_19 : decode cX4_needPower 19 = .ok (.athrow, 1) := by decide +kernel
theorem dX4_needPower_20 : decode cX4_needPower 20 = .ok (.return_, 1) := by decide +kernel
theorem dX4_needTransaction_0 : decode cX4_needTransaction 0 = .ok (.aload_n 0, 1) := by decide +kernel
theorem dX4_needTransaction_1 : decode cX4_needTransaction 1 = .ok (.invokevirtual 41, 3) := by decide +kernel
theorem dX4_needTransaction_4 : decode cX4_needTransaction 4 = .ok (.aload_n 0, 1) := by decide +kernel
theorem dX4_needTransaction_5 : decode cX4_needTransaction 5 = .ok (.getfield 28, 3) := by decide +kernel
theorem dX4_needTransaction_8 : decode cX4_needTransaction 8 = .ok (.invokevirtual 44, 3) := by decide +kernel
theorem dX4_needTransaction_11 : decode cX4_needTransaction 11 = .ok (.ifCond .ne 13, 3) := by decide +kernel
theorem dX4_needTransaction_14 : decode cX4_needTransaction 14 = .ok (.new 48, 3) := by decide +kernel
theorem dX4_needTransaction_17 : decode cX4_needTransaction 17 = .ok (.dup, 1) := by decide +kernel
theorem dX4_needTransaction_18 : decode cX4_needTransaction 18 = .ok (.ldc 205, 2) := by decide +kernel
theorem dX4_needTransaction_20 : decode cX4_needTransaction 20 = .ok (.invokespecial 52, 3) := by decide +kernel
theorem dX4_needTransaction_23 : decode cX4_needTransaction 23 = .ok (.athrow, 1) := by decide +kernel
theorem dX4_needTransaction_24 : decode cX4_needTransaction 24 = .ok (.return_, 1) := by decide +kernel
theorem dX4_needUsedBlock_0 : decode cX4_needUsedBlock 0 = .ok (.aload_n 0, 1) := by decide +kernel
theorem dX4_needUsedBlock_1 : decode cX4_needUsedBlock 1 = .ok (.getfield 37, 3) := by decide +kernel
theorem dX4_needUsedBlock_4 : decode cX4_needUsedBlock 4 = .ok (.iload_n 1, 1) := by decide +kernel
theorem dX4_needUsedBlock_5 : decode cX4_needUsedBlock 5 = .ok (.invokevirtual 207, 3) := by decide +kernel
theorem dX4_needUsedBlock_8 : decode cX4_needUsedBlock 8 = .ok (.ifCond .ne 13, 3) := by decide +kernel
theorem dX4_needUsedBlock_11 : decode cX4_needUsedBlock 11 = .ok (.new 65, 3) := by decide +kernel
theorem dX4_needUsedBlock_14 : decode cX4_needUsedBlock 14 = .ok (.dup, 1) := by decide +kernel
theorem dX4_needUsedBlock_15 : decode cX4_needUsedBlock 15 = .ok (.ldc 210, 2) := by decide +kernel
theorem dX4_needUsedBlock_17 : decode cX4_needUsedBlock 17 = .ok (.invokespecial 69, 3) := by decide +kernel
theorem dX4_needUsedBlock_20 : decode cX4_needUsedBlock 20 = .ok (.athrow, 1) := by decide +kernel
theorem dX4_needUsedBlock_21 : decode cX4_needUsedBlock 21 = .ok (.return_, 1) := by decide +kernel
theorem dX4_needBodyWord_0 : decode cX4_needBodyWord 0 = .ok (.aload_n 0, 1) := by decide +kernel
theorem dX4_needBodyWord_1 : decode cX4_needBodyWord 1 = .ok (.iload_n 1, 1) := by decide +kernel
theorem dX4_needBodyWord_2 : decode cX4_needBodyWord 2 = .ok (.invokevirtual 74, 3) := by decide +kernel
theorem dX4_needBodyWord_5 : decode cX4_needBodyWord 5 = .ok (.iload_n 2, 1) := by decide +kernel
theorem dX4_needBodyWord_6 : decode cX4_needBodyWord 6 = .ok (.ifCond .lt 17, 3) := by decide +kernel
theorem dX4_needBodyWord_9 : decode cX4_needBodyWord 9 = .ok (.iload_n 2, 1) := by decide +kernel
theorem dX4_needBodyWord_10 : decode cX4_needBodyWord 10 = .ok (.aload_n 0, 1) := by decide +kernel
theorem dX4_needBodyWord_11 : decode cX4_needBodyWord 11 = .ok (.getfield 37, 3) := by decide +kernel
theorem dX4_needBodyWord_14 : decode cX4_needBodyWord 14 = .ok (.iload_n 1, 1) := by decide +kernel
theorem dX4_needBodyWord_15 : decode cX4_needBodyWord 15 = .ok (.iconst 1, 1) := by decide +kernel
theorem dX4_needBodyWord_16 : decode cX4_needBodyWord 16 = .ok (.isub, 1) := by decide +kernel
theorem dX4_needBodyWord_17 : decode cX4_needBodyWord 17 = .ok (.invokevirtual 176, 3) := by decide +kernel
theorem dX4_needBodyWord_20 : decode cX4_needBodyWord 20 = .ok (.if_icmp .lt 13, 3) := by decide +kernel
theorem dX4_needBodyWord_23 : decode cX4_needBodyWord 23 = .ok (.new 65, 3) := by decide +kernel
theorem dX4_needBodyWord_26 : decode cX4_needBodyWord 26 = .ok (.dup, 1) := by decide +kernel
theorem dX4_needBodyWord_27 : decode cX4_needBodyWord 27 = .ok (.ldc 212, 2) := by decide +kernel
theorem dX4_needBodyWord_29 : decode cX4_needBodyWord 29 = .ok (.invokespecial 69, 3) := by decide +kernel
theorem dX4_needBodyWord_32 : decode cX4_needBodyWord 32 = .ok (.athrow, 1) := by decide +kernel
theorem dX4_needBodyWord_33 : decode cX4_needBodyWord 33 = .ok (.return_, 1) := by decide +kernel
theorem dX4_format_0 : decode cX4_format 0 = .ok (.aload_n 0, 1) := by decide +kernel
theorem dX4_format_1 : decode cX4_format 1 = .ok (.getfield 10, 3) := by decide +kernel
theorem dX4_format_4 : decode cX4_format 4 = .ok (.sipush 176, 3) := by decide +kernel
theorem dX4_format_7 : decode cX4_format 7 = .ok (.ldc2_w 214, 3) := by decide +kernel
theorem dX4_format_10 : decode cX4_format 10 = .ok (.invokevirtual 216, 3) := by decide +kernel
theorem dX4_format_13 : decode cX4_format 13 = .ok (.ifCond .eq 41, 3) := by decide +kernel
theorem dX4_format_16 : decode cX4_format 16 = .ok (.aload_n 0, 1) := by decide +kernel
theorem dX4_format_17 : decode cX4_format 17 = .ok (.getfield 10, 3) := by decide +kernel
theorem dX4_format_20 : decode cX4_format 20 = .ok (.iconst 1, 1) := by decide +kernel
theorem dX4_format_21 : decode cX4_format 21 = .ok (.lconst 0, 1) := by decide +kernel
theorem dX4_format_22 : decode cX4_format 22 = .ok (.invokevirtual 216, 3) := by decide +kernel
theorem dX4_format_25 : decode cX4_format 25 = .ok (.ifCond .eq 29, 3) := by decide +kernel
theorem dX4_format_28 : decode cX4_format 28 = .ok (.aload_n 0, 1) := by decide +kernel
theorem dX4_format_29 : decode cX4_format 29 = .ok (.getfield 10, 3) := by decide +kernel
theorem dX4_format_32 : decode cX4_format 32 = .ok (.iconst 0, 1) := by decide +kernel
theorem dX4_format_33 : decode cX4_format 33 = .ok (.lconst 1, 1) := by decide +kernel
theorem dX4_format_34 : decode cX4_format 34 = .ok (.invokevirtual 216, 3) := by decide +kernel
theorem dX4_format_37 : decode cX4_format 37 = .ok (.ifCond .eq 17, 3) := by decide +kernel
theorem dX4_format_40 : decode cX4_format 40 = .ok (.aload_n 0, 1) := by decide +kernel
theorem dX4_format_41 : decode cX4_format 41 = .ok (.getfield 10, 3) := by decide +kernel
theorem dX4_format_44 : decode cX4_format 44 = .ok (.invokevirtual 119, 3) := by decide +kernel
theorem dX4_format_47 : decode cX4_format 47 = .ok (.aload_n 0, 1) := by decide +kernel
theorem dX4_format_48 : decode cX4_format 48 = .ok (.getfield 21, 3) := by decide +kernel
theorem dX4_format_51 : decode cX4_format 51 = .ok (.invokevirtual 219, 3) := by decide +kernel
theorem dX4_format_54 : decode cX4_format 54 = .ok (.return_, 1) := by decide +kernel
theorem dX4_isWord_0 : decode cX4_isWord 0 = .ok (.iload_n 0, 1) := by decide +kernel
theorem dX4_isWord_1 : decode cX4_isWord 1 = .ok (.ifCond .lt 14, 3) := by decide +kernel
theorem dX4_isWord_4 : decode cX4_isWord 4 = .ok (.iload_n 0, 1) := by decide +kernel
theorem dX4_isWord_5 : decode cX4_isWord 5 = .ok (.sipush 1024, 3) := by decide +kernel
theorem dX4_isWord_8 : decode cX4_isWord 8 = .ok (.if_icmp .ge 7, 3) := by decide +kernel
theorem dX4_isWord_11 : decode cX4_isWord 11 = .ok (.iconst 1, 1) := by decide +kernel
theorem dX4_isWord_12 : decode cX4_isWord 12 = .ok (.goto 4, 3) := by decide +kernel
theorem dX4_isWord_15 : decode cX4_isWord 15 = .ok (.iconst 0, 1) := by decide +kernel
theorem dX4_isWord_16 : decode cX4_isWord 16 = .ok (.ireturn, 1) := by decide +kernel
end
section
-- rows of claim/NAMES.whole.lean.txt (starting text): what each instruction is
theorem dX5_init_0 : decode cX5_init 0 = .ok (.aload_n 0, 1) := by decide +kernel
theorem dX5_init_1 : decode cX5_init 1 = .ok (.invokespecial 1, 3) := by decide +kernel
theorem dX5_init_4 : decode cX5_init 4 = .ok (.aload_n 0, 1) := by decide +kernel
theorem dX5_init_5 : decode cX5_init 5 = .ok (.sipush 1024, 3) := by decide +kernel
theorem dX5_init_8 : decode cX5_init 8 = .ok (.newarray .long, 2) := by decide +kernel
theorem dX5_init_10 : decode cX5_init 10 = .ok (.putfield 7, 3) := by decide +kernel
theorem dX5_init_13 : decode cX5_init 13 = .ok (.aload_n 0, 1) := by decide +kernel
theorem dX5_init_14 : decode cX5_init 14 = .ok (.sipush 1024, 3) := by decide +kernel
theorem dX5_init_17 : decode cX5_init 17 = .ok (.newarray .long, 2) := by decide +kernel
theorem dX5_init_19 : decode cX5_init 19 = .ok (.putfield 13, 3) := by decide +kernel
theorem dX5_init_22 : decode cX5_init 22 = .ok (.aload_n 0, 1) := by decide +kernel
theorem dX5_init_23 : decode cX5_init 23 = .ok (.sipush 6000, 3) := by decide +kernel
theorem dX5_init_26 : decode cX5_init 26 = .ok (.newarray .int, 2) := by decide +kernel
theorem dX5_init_28 : decode cX5_init 28 = .ok (.putfield 16, 3) := by decide +kernel
theorem dX5_init_31 : decode cX5_init 31 = .ok (.aload_n 0, 1) := by decide +kernel
theorem dX5_init_32 : decode cX5_init 32 = .ok (.sipush 6000, 3) := by decide +kernel
theorem dX5_init_35 : decode cX5_init 35 = .ok (.newarray .long, 2) := by decide +kernel
theorem dX5_init_37 : decode cX5_init 37 = .ok (.putfield 20, 3) := by decide +kernel
theorem dX5_init_40 : decode cX5_init 40 = .ok (.aload_n 0, 1) := by decide +kernel
theorem dX5_init_41 : decode cX5_init 41 = .ok (.sipush 1024, 3) := by decide +kernel
theorem dX5_init_44 : decode cX5_init 44 = .ok (.newarray .long, 2) := by decide +kernel
theorem dX5_init_46 : decode cX5_init 46 = .ok (.putfield 23, 3) := by decide +kernel
theorem dX5_init_49 : decode cX5_init 49 = .ok (.aload_n 0, 1) := by decide +kernel
theorem dX5_init_50 : decode cX5_init 50 = .ok (.sipush 1024, 3) := by decide +kernel
theorem dX5_init_53 : decode cX5_init 53 = .ok (.newarray .boolean, 2) := by decide +kernel
theorem dX5_init_55 : decode cX5_init 55 = .ok (.putfield 26, 3) := by decide +kernel
theorem dX5_init_58 : decode cX5_init 58 = .ok (.aload_n 0, 1) := by decide +kernel
theorem dX5_init_59 : decode cX5_init 59 = .ok (.sipush 1024, 3) := by decide +kernel
theorem dX5_init_62 : decode cX5_init 62 = .ok (.newarray .long, 2) := by decide +kernel
theorem dX5_init_64 : decode cX5_init 64 = .ok (.putfield 30, 3) := by decide +kernel
theorem dX5_init_67 : decode cX5_init 67 = .ok (.aload_n 0, 1) := by decide +kernel
theorem dX5_init_68 : decode cX5_init 68 = .ok (.iconst 0, 1) := by decide +kernel
theorem dX5_init_69 : decode cX5_init 69 = .ok (.putfield 33, 3) := by decide +kernel
theorem dX5_init_72 : decode cX5_init 72 = .ok (.return_, 1) := by decide +kernel
theorem dX5_thrown_0 : decode cX5_thrown 0 = .ok (.aload_n 0, 1) := by decide +kernel
theorem dX5_thrown_1 : decode cX5_thrown 1 = .ok (.getfield 37, 3) := by decide +kernel
theorem dX5_thrown_4 : decode cX5_thrown 4 = .ok (.ireturn, 1) := by decide +kernel
theorem dX5_settle_0 : decode cX5_settle 0 = .ok (.iconst 0, 1) := by decide +kernel
theorem dX5_settle_1 : decode cX5_settle 1 = .ok (.istore_n 2, 1) := by decide +kernel
theorem dX5_settle_2 : decode cX5_settle 2 = .ok (.iload_n 2, 1) := by decide +kernel
theorem dX5_settle_3 : decode cX5_settle 3 = .ok (.iload_n 1, 1) := by decide +kernel
theorem dX5_settle_4 : decode cX5_settle 4 = .ok (.if_icmp .ge 26, 3) := by decide +kernel
theorem dX5_settle_7 : decode cX5_settle 7 = .ok (.aload_n 0, 1) := by decide +kernel
theorem dX5_settle_8 : decode cX5_settle 8 = .ok (.getfield 7, 3) := by decide +kernel
theorem dX5_settle_11 : decode cX5_settle 11 = .ok (.aload_n 0, 1) := by decide +kernel
theorem dX5_settle_12 : decode cX5_settle 12 = .ok (.getfield 16, 3) := by decide +kernel
theorem dX5_settle_15 : decode cX5_settle 15 = .ok (.iload_n 2, 1) := by decide +kernel
theorem dX5_settle_16 : decode cX5_settle 16 = .ok (.iaload, 1) := by decide +kernel
theorem dX5_settle_17 : decode cX5_settle 17 = .ok (.aload_n 0, 1) := by decide +kernel
theorem dX5_settle_18 : decode cX5_settle 18 = .ok (.getfield 20, 3) := by decide +kernel
theorem dX5_settle_21 : decode cX5_settle 21 = .ok (.iload_n 2, 1) := by decide +kernel
theorem dX5_settle_22 : decode cX5_settle 22 = .ok (.laload, 1) := by decide +kernel
theorem dX5_settle_23 : decode cX5_settle 23 = .ok (.lastore, 1) := by decide +kernel
theorem dX5_settle_24 : decode cX5_settle 24 = .ok (.iinc 2 1, 3) := by decide +kernel
theorem dX5_settle_27 : decode cX5_settle 27 = .ok (.goto (-25), 3) := by decide +kernel
theorem dX5_settle_30 : decode cX5_settle 30 = .ok (.return_, 1) := by decide +kernel
theorem dX5_goOff_0 : decode cX5_goOff 0 = .ok (.iload_n 1, 1) := by decide +kernel
theorem dX5_goOff_1 : decode cX5_goOff 1 = .ok (.aload_n 0, 1) := by decide +kernel
theorem dX5_goOff_2 : decode cX5_goOff 2 = .ok (.getfield 41, 3) := by decide +kernel
theorem dX5_goOff_5 : decode cX5_goOff 5 = .ok (.if_icmp .ge 7, 3) := by decide +kernel
theorem dX5_goOff_8 : decode cX5_goOff 8 = .ok (.iload_n 1, 1) := by decide +kernel
theorem dX5_goOff_9 : decode cX5_goOff 9 = .ok (.goto 7, 3) := by decide +kernel
theorem dX5_goOff_12 : decode cX5_goOff 12 = .ok (.aload_n 0, 1) := by decide +kernel
theorem dX5_goOff_13 : decode cX5_goOff 13 = .ok (.getfield 41, 3) := by decide +kernel
theorem dX5_goOff_16 : decode cX5_goOff 16 = .ok (.istore_n 2, 1) := by decide +kernel
theorem dX5_goOff_17 : decode cX5_goOff 17 = .ok (.aload_n 0, 1) := by decide +kernel
theorem dX5_goOff_18 : decode cX5_goOff 18 = .ok (.iload_n 2, 1) := by decide +kernel
theorem dX5_goOff_19 : decode cX5_goOff 19 = .ok (.invokevirtual 44, 3) := by decide +kernel
theorem dX5_goOff_22 : decode cX5_goOff 22 = .ok (.aload_n 0, 1) := by decide +kernel
theorem dX5_goOff_23 : decode cX5_goOff 23 = .ok (.dup, 1) := by decide +kernel
theorem dX5_goOff_24 : decode cX5_goOff 24 = .ok (.getfield 48, 3) := by decide +kernel
theorem dX5_goOff_27 : decode cX5_goOff 27 = .ok (.aload_n 0, 1) := by decide +kernel
theorem dX5_goOff_28 : decode cX5_goOff 28 = .ok (.getfield 41, 3) := by decide +kernel
theorem dX5_goOff_31 : decode cX5_goOff 31 = .ok (.iload_n 2, 1) := by decide +kernel
theorem dX5_goOff_32 : decode cX5_goOff 32 = .ok (.isub, 1) := by decide +kernel
theorem dX5_goOff_33 : decode cX5_goOff 33 = .ok (.iadd, 1) := by decide +kernel
theorem dX5_goOff_34 : decode cX5_goOff 34 = .ok (.putfield 48, 3) := by decide +kernel
theorem dX5_goOff_37 : decode cX5_goOff 37 = .ok (.aload_n 0, 1) := by decide +kernel
theorem dX5_goOff_38 : decode cX5_goOff 38 = .ok (.iconst 0, 1) := by decide +kernel
theorem dX5_goOff_39 : decode cX5_goOff 39 = .ok (.putfield 41, 3) := by decide +kernel
theorem dX5_goOff_42 : decode cX5_goOff 42 = .ok (.aload_n 0, 1) := by decide +kernel
theorem dX5_goOff_43 : decode cX5_goOff 43 = .ok (.iconst 0, 1) := by decide +kernel
theorem dX5_goOff_44 : decode cX5_goOff 44 = .ok (.putfield 51, 3) := by decide +kernel
theorem dX5_goOff_47 : decode cX5_goOff 47 = .ok (.aload_n 0, 1) := by decide +kernel
theorem dX5_goOff_48 : decode cX5_goOff 48 = .ok (.iconst 0, 1) := by decide +kernel
theorem dX5_goOff_49 : decode cX5_goOff 49 = .ok (.putfield 33, 3) := by decide +kernel
theorem dX5_goOff_52 : decode cX5_goOff 52 = .ok (.aload_n 0, 1) := by decide +kernel
theorem dX5_goOff_53 : decode cX5_goOff 53 = .ok (.dup, 1) := by decide +kernel
theorem dX5_goOff_54 : decode cX5_goOff 54 = .ok (.getfield 54, 3) := by decide +kernel
theorem dX5_goOff_57 : decode cX5_goOff 57 = .ok (.iconst 1, 1) := by decide +kernel
theorem dX5_goOff_58 : decode cX5_goOff 58 = .ok (.iadd, 1) := by decide +kernel
theorem dX5_goOff_59 : decode cX5_goOff 59 = .ok (.putfield 54, 3) := by decide +kernel
theorem dX5_goOff_62 : decode cX5_goOff 62 = .ok (.aload_n 0, 1) := by decide +kernel
theorem dX5_goOff_63 : decode cX5_goOff 63 = .ok (.invokevirtual 57, 3) := by decide +kernel
theorem dX5_goOff_66 : decode cX5_goOff 66 = .ok (.iconst 0, 1) := by decide +kernel
theorem dX5_goOff_67 : decode cX5_goOff 67 = .ok (.istore_n 3, 1) := by decide +kernel
theorem dX5_goOff_68 : decode cX5_goOff 68 = .ok (.iload_n 3, 1) := by decide +kernel
theorem dX5_goOff_69 : decode cX5_goOff 69 = .ok (.sipush 1024, 3) := by decide +kernel
theorem dX5_goOff_72 : decode cX5_goOff 72 = .ok (.if_icmp .ge 21, 3) := by decide +kernel
theorem dX5_goOff_75 : decode cX5_goOff 75 = .ok (.aload_n 0, 1) := by decide +kernel
theorem dX5_goOff_76 : decode cX5_goOff 76 = .ok (.getfield 13, 3) := by decide +kernel
theorem dX5_goOff_79 : decode cX5_goOff 79 = .ok (.iload_n 3, 1) := by decide +kernel
theorem dX5_goOff_80 : decode cX5_goOff 80 = .ok (.aload_n 0, 1) := by decide +kernel
theorem dX5_goOff_81 : decode cX5_goOff 81 = .ok (.getfield 7, 3) := by decide +kernel
theorem dX5_goOff_84 : decode cX5_goOff 84 = .ok (.iload_n 3, 1) := by decide +kernel
theorem dX5_goOff_85 : decode cX5_goOff 85 = .ok (.laload, 1) := by decide +kernel
theorem dX5_goOff_86 : decode cX5_goOff 86 = .ok (.lastore, 1) := by decide +kernel
theorem dX5_goOff_87 : decode cX5_goOff 87 = .ok (.iinc 3 1, 3) := by decide +kernel
theorem dX5_goOff_90 : decode cX5_goOff 90 = .ok (.goto (-22), 3) := by decide +kernel
theorem dX5_goOff_93 : decode cX5_goOff 93 = .ok (.return_, 1) := by decide +kernel
theorem dX5_write_0 : decode cX5_write 0 = .ok (.aload_n 0, 1) := by decide +kernel
theorem dX5_write_1 : decode cX5_write 1 = .ok (.getfield 13, 3) := by decide +kernel
theorem dX5_write_4 : decode cX5_write 4 = .ok (.iload_n 1, 1) := by decide +kernel
theorem dX5_write_5 : decode cX5_write 5 = .ok (.lload_n 2, 1) := by decide +kernel
theorem dX5_write_6 : decode cX5_write 6 = .ok (.lastore, 1) := by decide +kernel
theorem dX5_write_7 : decode cX5_write 7 = .ok (.aload_n 0, 1) := by decide +kernel
theorem dX5_write_8 : decode cX5_write 8 = .ok (.getfield 16, 3) := by decide +kernel
theorem dX5_write_11 : decode cX5_write 11 = .ok (.aload_n 0, 1) := by decide +kernel
theorem dX5_write_12 : decode cX5_write 12 = .ok (.getfield 41, 3) := by decide +kernel
theorem dX5_write_15 : decode cX5_write 15 = .ok (.iload_n 1, 1) := by decide +kernel
theorem dX5_write_16 : decode cX5_write 16 = .ok (.iastore, 1) := by decide +kernel
theorem dX5_write_17 : decode cX5_write 17 = .ok (.aload_n 0, 1) := by decide +kernel
theorem dX5_write_18 : decode cX5_write 18 = .ok (.getfield 20, 3) := by decide +kernel
theorem dX5_write_21 : decode cX5_write 21 = .ok (.aload_n 0, 1) := by decide +kernel
theorem dX5_write_22 : decode cX5_write 22 = .ok (.getfield 41, 3) := by decide +kernel
theorem dX5_write_25 : decode cX5_write 25 = .ok (.lload_n 2, 1) := by decide +kernel
theorem dX5_write_26 : decode cX5_write 26 = .ok (.lastore, 1) := by decide +kernel
theorem dX5_write_27 : decode cX5_write 27 = .ok (.aload_n 0, 1) := by decide +kernel
theorem dX5_write_28 : decode cX5_write 28 = .ok (.dup, 1) := by decide +kernel
theorem dX5_write_29 : decode cX5_write 29 = .ok (.getfield 41, 3) := by decide +kernel
theorem dX5_write_32 : decode cX5_write 32 = .ok (.iconst 1, 1) := by decide +kernel
theorem dX5_write_33 : decode cX5_write 33 = .ok (.iadd, 1) := by decide +kernel
theorem dX5_write_34 : decode cX5_write 34 = .ok (.putfield 41, 3) := by decide +kernel
theorem dX5_write_37 : decode cX5_write 37 = .ok (.aload_n 0, 1) := by decide +kernel
theorem dX5_write_38 : decode cX5_write 38 = .ok (.dup, 1) := by decide +kernel
theorem dX5_write_39 : decode cX5_write 39 = .ok (.getfield 60, 3) := by decide +kernel
theorem dX5_write_42 : decode cX5_write 42 = .ok (.iconst 1, 1) := by decide +kernel
theorem dX5_write_43 : decode cX5_write 43 = .ok (.iadd, 1) := by decide +kernel
theorem dX5_write_44 : decode cX5_write 44 = .ok (.putfield 60, 3) := by decide +kernel
theorem dX5_write_47 : decode cX5_write 47 = .ok (.aload_n 0, 1) := by decide +kernel
theorem dX5_write_48 : decode cX5_write 48 = .ok (.getfield 51, 3) := by decide +kernel
theorem dX5_write_51 : decode cX5_write 51 = .ok (.ifCond .le 30, 3) := by decide +kernel
theorem dX5_write_54 : decode cX5_write 54 = .ok (.aload_n 0, 1) := by decide +kernel
theorem dX5_write_55 : decode cX5_write 55 = .ok (.dup, 1) := by decide +kernel
theorem dX5_write_56 : decode cX5_write 56 = .ok (.getfield 51, 3) := by decide +kernel
theorem dX5_write_59 : decode cX5_write 59 = .ok (.iconst 1, 1) := by decide +kernel
theorem dX5_write_60 : decode cX5_write 60 = .ok (.isub, 1) := by decide +kernel
theorem dX5_write_61 : decode cX5_write 61 = .ok (.putfield 51, 3) := by decide +kernel
theorem dX5_write_64 : decode cX5_write 64 = .ok (.aload_n 0, 1) := by decide +kernel
theorem dX5_write_65 : decode cX5_write 65 = .ok (.getfield 51, 3) := by decide +kernel
theorem dX5_write_68 : decode cX5_write 68 = .ok (.ifCond .ne 13, 3) := by decide +kernel
theorem dX5_write_71 : decode cX5_write 71 = .ok (.aload_n 0, 1) := by decide +kernel
theorem dX5_write_72 : decode cX5_write 72 = .ok (.aload_n 0, 1) := by decide +kernel
theorem dX5_write_73 : decode cX5_write 73 = .ok (.getfield 63, 3) := by decide +kernel
theorem dX5_write_76 : decode cX5_write 76 = .ok (.invokevirtual 66, 3) := by decide +kernel
theorem dX5_write_79 : decode cX5_write 79 = .ok (.iconst 0, 1) := by decide +kernel
theorem dX5_write_80 : decode cX5_write 80 = .ok (.ireturn, 1) := by decide +kernel
theorem dX5_write_81 : decode cX5_write 81 = .ok (.iconst 1, 1) := by decide +kernel
theorem dX5_write_82 : decode cX5_write 82 = .ok (.ireturn, 1) := by decide +kernel
theorem dX5_syncAll_0 : decode cX5_syncAll 0 = .ok (.aload_n 0, 1) := by decide +kernel
theorem dX5_syncAll_1 : decode cX5_syncAll 1 = .ok (.getfield 41, 3) := by decide +kernel
theorem dX5_syncAll_4 : decode cX5_syncAll 4 = .ok (.istore_n 1, 1) := by decide +kernel
theorem dX5_syncAll_5 : decode cX5_syncAll 5 = .ok (.aload_n 0, 1) := by decide +kernel
theorem dX5_syncAll_6 : decode cX5_syncAll 6 = .ok (.iload_n 1, 1) := by decide +kernel
theorem dX5_syncAll_7 : decode cX5_syncAll 7 = .ok (.invokevirtual 44, 3) := by decide +kernel
theorem dX5_syncAll_10 : decode cX5_syncAll 10 = .ok (.aload_n 0, 1) := by decide +kernel
theorem dX5_syncAll_11 : decode cX5_syncAll 11 = .ok (.iconst 0, 1) := by decide +kernel
theorem dX5_syncAll_12 : decode cX5_syncAll 12 = .ok (.putfield 41, 3) := by decide +kernel
theorem dX5_syncAll_15 : decode cX5_syncAll 15 = .ok (.aload_n 0, 1) := by decide +kernel
theorem dX5_syncAll_16 : decode cX5_syncAll 16 = .ok (.dup, 1) := by decide +kernel
theorem dX5_syncAll_17 : decode cX5_syncAll 17 = .ok (.getfield 69, 3) := by decide +kernel
theorem dX5_syncAll_20 : decode cX5_syncAll 20 = .ok (.iconst 1, 1) := by decide +kernel
theorem dX5_syncAll_21 : decode cX5_syncAll 21 = .ok (.iadd, 1) := by decide +kernel
theorem dX5_syncAll_22 : decode cX5_syncAll 22 = .ok (.putfield 69, 3) := by decide +kernel
theorem dX5_syncAll_25 : decode cX5_syncAll 25 = .ok (.iload_n 1, 1) := by decide +kernel
theorem dX5_syncAll_26 : decode cX5_syncAll 26 = .ok (.ireturn, 1) := by decide +kernel
theorem dX5_drop_0 : decode cX5_drop 0 = .ok (.aload_n 0, 1) := by decide +kernel
theorem dX5_drop_1 : decode cX5_drop 1 = .ok (.iconst 0, 1) := by decide +kernel
theorem dX5_drop_2 : decode cX5_drop 2 = .ok (.putfield 72, 3) := by decide +kernel
theorem dX5_drop_5 : decode cX5_drop 5 = .ok (.aload_n 0, 1) := by decide +kernel
theorem dX5_drop_6 : decode cX5_drop 6 = .ok (.iconst 0, 1) := by decide +kernel
theorem dX5_drop_7 : decode cX5_drop 7 = .ok (.putfield 75, 3) := by decide +kernel
theorem dX5_drop_10 : decode cX5_drop 10 = .ok (.iconst 0, 1) := by decide +kernel
theorem dX5_drop_11 : decode cX5_drop 11 = .ok (.istore_n 1, 1) := by decide +kernel
theorem dX5_drop_12 : decode cX5_drop 12 = .ok (.iload_n 1, 1) := by decide +kernel
theorem dX5_drop_13 : decode cX5_drop 13 = .ok (.sipush 1024, 3) := by decide +kernel
theorem dX5_drop_16 : decode cX5_drop 16 = .ok (.if_icmp .ge 16, 3) := by decide +kernel
theorem dX5_drop_19 : decode cX5_drop 19 = .ok (.aload_n 0, 1) := by decide +kernel
theorem dX5_drop_20 : decode cX5_drop 20 = .ok (.getfield 26, 3) := by decide +kernel
theorem dX5_drop_23 : decode cX5_drop 23 = .ok (.iload_n 1, 1) := by decide +kernel
theorem dX5_drop_24 : decode cX5_drop 24 = .ok (.iconst 0, 1) := by decide +kernel
theorem dX5_drop_25 : decode cX5_drop 25 = .ok (.bastore, 1) := by decide +kernel
theorem dX5_drop_26 : decode cX5_drop 26 = .ok (.iinc 1 1, 3) := by decide +kernel
theorem dX5_drop_29 : decode cX5_drop 29 = .ok (.goto (-17), 3) := by decide +kernel
theorem dX5_drop_32 : decode cX5_drop 32 = .ok (.return_, 1) := by decide +kernel
theorem dX5_at_0 : decode cX5_at 0 = .ok (.aload_n 0, 1) := by decide +kernel
theorem dX5_at_1 : decode cX5_at 1 = .ok (.getfield 72, 3) := by decide +kernel
theorem dX5_at_4 : decode cX5_at 4 = .ok (.ifCond .eq 21, 3) := by decide +kernel
theorem dX5_at_7 : decode cX5_at 7 = .ok (.aload_n 0, 1) := by decide +kernel
theorem dX5_at_8 : decode cX5_at 8 = .ok (.getfield 26, 3) := by decide +kernel
theorem dX5_at_11 : decode cX5_at 11 = .ok (.iload_n 1, 1) := by decide +kernel
theorem dX5_at_12 : decode cX5_at 12 = .ok (.baload, 1) := by decide +kernel
theorem dX5_at_13 : decode cX5_at 13 = .ok (.ifCond .eq 12, 3) := by decide +kernel
theorem dX5_at_16 : decode cX5_at 16 = .ok (.aload_n 0, 1) := by decide +kernel
theorem dX5_at_17 : decode cX5_at 17 = .ok (.getfield 30, 3) := by decide +kernel
theorem dX5_at_20 : decode cX5_at 20 = .ok (.iload_n 1, 1) := by decide +kernel
theorem dX5_at_21 : decode cX5_at 21 = .ok (.laload, 1) := by decide +kernel
theorem dX5_at_22 : decode cX5_at 22 = .ok (.goto 9, 3) := by decide +kernel
theorem dX5_at_25 : decode cX5_at 25 = .ok (.aload_n 0, 1) := by decide +kernel
theorem dX5_at_26 : decode cX5_at 26 = .ok (.getfield 23, 3) := by decide +kernel
theorem dX5_at_29 : decode cX5_at 29 = .ok (.iload_n 1, 1) := by decide +kernel
theorem dX5_at_30 : decode cX5_at 30 = .ok (.laload, 1) := by decide +kernel
theorem dX5_at_31 : decode cX5_at 31 = .ok (.lreturn, 1) := by decide +kernel
theorem dX5_sizeAt_0 : decode cX5_sizeAt 0 = .ok (.aload_n 0, 1) := by decide +kernel
theorem dX5_sizeAt_1 : decode cX5_sizeAt 1 = .ok (.iload_n 1, 1) := by decide +kernel
theorem dX5_sizeAt_2 : decode cX5_sizeAt 2 = .ok (.invokevirtual 78, 3) := by decide +kernel
theorem dX5_sizeAt_5 : decode cX5_sizeAt 5 = .ok (.ldc2_w 82, 3) := by decide +kernel
theorem dX5_sizeAt_8 : decode cX5_sizeAt 8 = .ok (.ldiv, 1) := by decide +kernel
theorem dX5_sizeAt_9 : decode cX5_sizeAt 9 = .ok (.l2i, 1) := by decide +kernel
theorem dX5_sizeAt_10 : decode cX5_sizeAt 10 = .ok (.ireturn, 1) := by decide +kernel
theorem dX5_isUsedAt_0 : decode cX5_isUsedAt 0 = .ok (.aload_n 0, 1) := by decide +kernel
theorem dX5_isUsedAt_1 : decode cX5_isUsedAt 1 = .ok (.iload_n 1, 1) := by decide +kernel
theorem dX5_isUsedAt_2 : decode cX5_isUsedAt 2 = .ok (.invokevirtual 78, 3) := by decide +kernel
theorem dX5_isUsedAt_5 : decode cX5_isUsedAt 5 = .ok (.ldc2_w 82, 3) := by decide +kernel
theorem dX5_isUsedAt_8 : decode cX5_isUsedAt 8 = .ok (.lrem, 1) := by decide +kernel
theorem dX5_isUsedAt_9 : decode cX5_isUsedAt 9 = .ok (.lconst 0, 1) := by decide +kernel
theorem dX5_isUsedAt_10 : decode cX5_isUsedAt 10 = .ok (.lcmp, 1) := by decide +kernel
theorem dX5_isUsedAt_11 : decode cX5_isUsedAt 11 = .ok (.ifCond .eq 7, 3) := by decide +kernel
theorem dX5_isUsedAt_14 : decode cX5_isUsedAt 14 = .ok (.iconst 1, 1) := by decide +kernel
theorem dX5_isUsedAt_15 : decode cX5_isUsedAt 15 = .ok (.goto 4, 3) := by decide +kernel
theorem dX5_isUsedAt_18 : decode cX5_isUsedAt 18 = .ok (.iconst 0, 1) := by decide +kernel
theorem dX5_isUsedAt_19 : decode cX5_isUsedAt 19 = .ok (.ireturn, 1) := by decide +kernel
theorem dX5_usedHead_0 : decode cX5_usedHead 0 = .ok (.sipush 176, 3) := by decide +kernel
theorem dX5_usedHead_3 : decode cX5_usedHead 3 = .ok (.istore_n 2, 1) := by decide +kernel
theorem dX5_usedHead_4 : decode cX5_usedHead 4 = .ok (.iload_n 2, 1) := by decide +kernel
theorem dX5_usedHead_5 : decode cX5_usedHead 5 = .ok (.sipush 1024, 3) := by decide +kernel
theorem dX5_usedHead_8 : decode cX5_usedHead 8 = .ok (.if_icmp .ge 23, 3) := by decide +kernel
theorem dX5_usedHead_11 : decode cX5_usedHead 11 = .ok (.iload_n 2, 1) := by decide +kernel
theorem dX5_usedHead_12 : decode cX5_usedHead 12 = .ok (.iconst 1, 1) := by decide +kernel
theorem dX5_usedHead_13 : decode cX5_usedHead 13 = .ok (.iadd, 1) := by decide +kernel
theorem dX5_usedHead_14 : decode cX5_usedHead 14 = .ok (.iload_n 1, 1) := by decide +kernel
theorem dX5_usedHead_15 : decode cX5_usedHead 15 = .ok (.if_icmp .eq 16, 3) := by decide +kernel
theorem dX5_usedHead_18 : decode cX5_usedHead 18 = .ok (.iload_n 2, 1) := by decide +kernel
theorem dX5_usedHead_19 : decode cX5_usedHead 19 = .ok (.aload_n 0, 1) := by decide +kernel
theorem dX5_usedHead_20 : decode cX5_usedHead 20 = .ok (.iload_n 2, 1) := by decide +kernel
theorem dX5_usedHead_21 : decode cX5_usedHead 21 = .ok (.invokevirtual 84, 3) := by decide +kernel
theorem dX5_usedHead_24 : decode cX5_usedHead 24 = .ok (.iconst 1, 1) := by decide +kernel
theorem dX5_usedHead_25 : decode cX5_usedHead 25 = .ok (.iadd, 1) := by decide +kernel
theorem dX5_usedHead_26 : decode cX5_usedHead 26 = .ok (.iadd, 1) := by decide +kernel
theorem dX5_usedHead_27 : decode cX5_usedHead 27 = .ok (.istore_n 2, 1) := by decide +kernel
theorem dX5_usedHead_28 : decode cX5_usedHead 28 = .ok (.goto (-24), 3) := by decide +kernel
theorem dX5_usedHead_31 : decode cX5_usedHead 31 = .ok (.iload_n 2, 1) := by decide +kernel
theorem dX5_usedHead_32 : decode cX5_usedHead 32 = .ok (.sipush 1024, 3) := by decide +kernel
theorem dX5_usedHead_35 : decode cX5_usedHead 35 = .ok (.if_icmp .ge 15, 3) := by decide +kernel
theorem dX5_usedHead_38 : decode cX5_usedHead 38 = .ok (.aload_n 0, 1) := by decide +kernel
theorem dX5_usedHead_39 : decode cX5_usedHead 39 = .ok (.iload_n 2, 1) := by decide +kernel
theorem dX5_usedHead_40 : decode cX5_usedHead 40 = .ok (.invokevirtual 88, 3) := by decide +kernel
theorem dX5_usedHead_43 : decode cX5_usedHead 43 = .ok (.ifCond .eq 7, 3) := by decide +kernel
theorem dX5_usedHead_46 : decode cX5_usedHead 46 = .ok (.iload_n 2, 1) := by decide +kernel
theorem dX5_usedHead_47 : decode cX5_usedHead 47 = .ok (.goto 4, 3) := by decide +kernel
theorem dX5_usedHead_50 : decode cX5_usedHead 50 = .ok (.iconst (-1), 1) := by decide +kernel
theorem dX5_usedHead_51 : decode cX5_usedHead 51 = .ok (.ireturn, 1) := by decide +kernel
theorem dX5_isMore_0 : decode cX5_isMore 0 = .ok (.aload_n 0, 1) := by decide +kernel
theorem dX5_isMore_1 : decode cX5_isMore 1 = .ok (.getfield 26, 3) := by decide +kernel
theorem dX5_isMore_4 : decode cX5_isMore 4 = .ok (.iload_n 1, 1) := by decide +kernel
theorem dX5_isMore_5 : decode cX5_isMore 5 = .ok (.baload, 1) := by decide +kernel
theorem dX5_isMore_6 : decode cX5_isMore 6 = .ok (.ifCond .ne 18, 3) := by decide +kernel
theorem dX5_isMore_9 : decode cX5_isMore 9 = .ok (.aload_n 0, 1) := by decide +kernel
theorem dX5_isMore_10 : decode cX5_isMore 10 = .ok (.getfield 23, 3) := by decide +kernel
theorem dX5_isMore_13 : decode cX5_isMore 13 = .ok (.iload_n 1, 1) := by decide +kernel
theorem dX5_isMore_14 : decode cX5_isMore 14 = .ok (.laload, 1) := by decide +kernel
theorem dX5_isMore_15 : decode cX5_isMore 15 = .ok (.lload_n 2, 1) := by decide +kernel
theorem dX5_isMore_16 : decode cX5_isMore 16 = .ok (.lcmp, 1) := by decide +kernel
theorem dX5_isMore_17 : decode cX5_isMore 17 = .ok (.ifCond .eq 7, 3) := by decide +kernel
theorem dX5_isMore_20 : decode cX5_isMore 20 = .ok (.iconst 1, 1) := by decide +kernel
theorem dX5_isMore_21 : decode cX5_isMore 21 = .ok (.goto 4, 3) := by decide +kernel
theorem dX5_isMore_24 : decode cX5_isMore 24 = .ok (.iconst 0, 1) := by decide +kernel
theorem dX5_isMore_25 : decode cX5_isMore 25 = .ok (.ireturn, 1) := by decide +kernel
theorem dX5_become_0 : decode cX5_become 0 = .ok (.aload_n 0, 1) := by decide +kernel
theorem dX5_become_1 : decode cX5_become 1 = .ok (.getfield 26, 3) := by decide +kernel
theorem dX5_become_4 : decode cX5_become 4 = .ok (.iload_n 1, 1) := by decide +kernel
theorem dX5_become_5 : decode cX5_become 5 = .ok (.baload, 1) := by decide +kernel
theorem dX5_become_6 : decode cX5_become 6 = .ok (.ifCond .ne 14, 3) := by decide +kernel
theorem dX5_become_9 : decode cX5_become 9 = .ok (.aload_n 0, 1) := by decide +kernel
theorem dX5_become_10 : decode cX5_become 10 = .ok (.getfield 23, 3) := by decide +kernel
theorem dX5_become_13 : decode cX5_become 13 = .ok (.iload_n 1, 1) := by decide +kernel
theorem dX5_become_14 : decode cX5_become 14 = .ok (.laload, 1) := by decide +kernel
theorem dX5_become_15 : decode cX5_become 15 = .ok (.lload_n 2, 1) := by decide +kernel
theorem dX5_become_16 : decode cX5_become 16 = .ok (.lcmp, 1) := by decide +kernel
theorem dX5_become_17 : decode cX5_become 17 = .ok (.ifCond .eq 40, 3) := by decide +kernel
theorem dX5_become_20 : decode cX5_become 20 = .ok (.aload_n 0, 1) := by decide +kernel
theorem dX5_become_21 : decode cX5_become 21 = .ok (.dup, 1) := by decide +kernel
theorem dX5_become_22 : decode cX5_become 22 = .ok (.getfield 75, 3) := by decide +kernel
theorem dX5_become_25 : decode cX5_become 25 = .ok (.aload_n 0, 1) := by decide +kernel
theorem dX5_become_26 : decode cX5_become 26 = .ok (.getfield 26, 3) := by decide +kernel
theorem dX5_become_29 : decode cX5_become 29 = .ok (.iload_n 1, 1) := by decide +kernel
theorem dX5_become_30 : decode cX5_become 30 = .ok (.baload, 1) := by decide +kernel
theorem dX5_become_31 : decode cX5_become 31 = .ok (.ifCond .eq 7, 3) := by decide +kernel
theorem dX5_become_34 : decode cX5_become 34 = .ok (.iconst 0, 1) := by decide +kernel
theorem dX5_become_35 : decode cX5_become 35 = .ok (.goto 4, 3) := by decide +kernel
theorem dX5_become_38 : decode cX5_become 38 = .ok (.iconst 1, 1) := by decide +kernel
theorem dX5_become_39 : decode cX5_become 39 = .ok (.iadd, 1) := by decide +kernel
theorem dX5_become_40 : decode cX5_become 40 = .ok (.putfield 75, 3) := by decide +kernel
theorem dX5_become_43 : decode cX5_become 43 = .ok (.aload_n 0, 1) := by decide +kernel
theorem dX5_become_44 : decode cX5_become 44 = .ok (.getfield 26, 3) := by decide +kernel
theorem dX5_become_47 : decode cX5_become 47 = .ok (.iload_n 1, 1) := by decide +kernel
theorem dX5_become_48 : decode cX5_become 48 = .ok (.iconst 1, 1) := by decide +kernel
theorem dX5_become_49 : decode cX5_become 49 = .ok (.bastore, 1) := by decide +kernel
theorem dX5_become_50 : decode cX5_become 50 = .ok (.aload_n 0, 1) := by decide +kernel
theorem dX5_become_51 : decode cX5_become 51 = .ok (.getfield 30, 3) := by decide +kernel
theorem dX5_become_54 : decode cX5_become 54 = .ok (.iload_n 1, 1) := by decide +kernel
theorem dX5_become_55 : decode cX5_become 55 = .ok (.lload_n 2, 1) := by decide +kernel
theorem dX5_become_56 : decode cX5_become 56 = .ok (.lastore, 1) := by decide +kernel
theorem dX5_become_57 : decode cX5_become 57 = .ok (.return_, 1) := by decide +kernel
theorem dX5_tryOne_0 : decode cX5_tryOne 0 = .ok (.aload_n 0, 1) := by decide +kernel
theorem dX5_tryOne_1 : decode cX5_tryOne 1 = .ok (.iload_n 1, 1) := by decide +kernel
theorem dX5_tryOne_2 : decode cX5_tryOne 2 = .ok (.lload_n 2, 1) := by decide +kernel
theorem dX5_tryOne_3 : decode cX5_tryOne 3 = .ok (.invokevirtual 92, 3) := by decide +kernel
theorem dX5_tryOne_6 : decode cX5_tryOne 6 = .ok (.ifCond .eq 14, 3) := by decide +kernel
theorem dX5_tryOne_9 : decode cX5_tryOne 9 = .ok (.aload_n 0, 1) := by decide +kernel
theorem dX5_tryOne_10 : decode cX5_tryOne 10 = .ok (.getfield 75, 3) := by decide +kernel
theorem dX5_tryOne_13 : decode cX5_tryOne 13 = .ok (.bipush 96, 2) := by decide +kernel
theorem dX5_tryOne_15 : decode cX5_tryOne 15 = .ok (.if_icmp .ne 5, 3) := by decide +kernel
theorem dX5_tryOne_18 : decode cX5_tryOne 18 = .ok (.iconst 0, 1) := by decide +kernel
theorem dX5_tryOne_19 : decode cX5_tryOne 19 = .ok (.ireturn, 1) := by decide +kernel
theorem dX5_tryOne_20 : decode cX5_tryOne 20 = .ok (.aload_n 0, 1) := by decide +kernel
theorem dX5_tryOne_21 : decode cX5_tryOne 21 = .ok (.iload_n 1, 1) := by decide +kernel
theorem dX5_tryOne_22 : decode cX5_tryOne 22 = .ok (.lload_n 2, 1) := by decide +kernel
theorem dX5_tryOne_23 : decode cX5_tryOne 23 = .ok (.invokevirtual 96, 3) := by decide +kernel
theorem dX5_tryOne_26 : decode cX5_tryOne 26 = .ok (.iconst 1, 1) := by decide +kernel
theorem dX5_tryOne_27 : decode cX5_tryOne 27 = .ok (.ireturn, 1) := by decide +kernel
theorem dX5_begin_0 : decode cX5_begin 0 = .ok (.aload_n 0, 1) := by decide +kernel
theorem dX5_begin_1 : decode cX5_begin 1 = .ok (.aload_n 0, 1) := by decide +kernel
theorem dX5_begin_2 : decode cX5_begin 2 = .ok (.getfield 33, 3) := by decide +kernel
theorem dX5_begin_5 : decode cX5_begin 5 = .ok (.ifCond .eq 10, 3) := by decide +kernel
theorem dX5_begin_8 : decode cX5_begin 8 = .ok (.aload_n 0, 1) := by decide +kernel
theorem dX5_begin_9 : decode cX5_begin 9 = .ok (.getfield 72, 3) := by decide +kernel
theorem dX5_begin_12 : decode cX5_begin 12 = .ok (.ifCond .eq 7, 3) := by decide +kernel
theorem dX5_begin_15 : decode cX5_begin 15 = .ok (.iconst 1, 1) := by decide +kernel
theorem dX5_begin_16 : decode cX5_begin 16 = .ok (.goto 4, 3) := by decide +kernel
theorem dX5_begin_19 : decode cX5_begin 19 = .ok (.iconst 0, 1) := by decide +kernel
theorem dX5_begin_20 : decode cX5_begin 20 = .ok (.putfield 37, 3) := by decide +kernel
theorem dX5_begin_23 : decode cX5_begin 23 = .ok (.aload_n 0, 1) := by decide +kernel
theorem dX5_begin_24 : decode cX5_begin 24 = .ok (.getfield 37, 3) := by decide +kernel
theorem dX5_begin_27 : decode cX5_begin 27 = .ok (.ifCond .le 5, 3) := by decide +kernel
theorem dX5_begin_30 : decode cX5_begin 30 = .ok (.iconst 0, 1) := by decide +kernel
theorem dX5_begin_31 : decode cX5_begin 31 = .ok (.ireturn, 1) := by decide +kernel
theorem dX5_begin_32 : decode cX5_begin 32 = .ok (.aload_n 0, 1) := by decide +kernel
theorem dX5_begin_33 : decode cX5_begin 33 = .ok (.invokevirtual 57, 3) := by decide +kernel
theorem dX5_begin_36 : decode cX5_begin 36 = .ok (.aload_n 0, 1) := by decide +kernel
theorem dX5_begin_37 : decode cX5_begin 37 = .ok (.iconst 1, 1) := by decide +kernel
theorem dX5_begin_38 : decode cX5_begin 38 = .ok (.putfield 72, 3) := by decide +kernel
theorem dX5_begin_41 : decode cX5_begin 41 = .ok (.aload_n 0, 1) := by decide +kernel
theorem dX5_begin_42 : decode cX5_begin 42 = .ok (.getfield 100, 3) := by decide +kernel
theorem dX5_begin_45 : decode cX5_begin 45 = .ok (.lconst 1, 1) := by decide +kernel
theorem dX5_begin_46 : decode cX5_begin 46 = .ok (.ladd, 1) := by decide +kernel
theorem dX5_begin_47 : decode cX5_begin 47 = .ok (.l2i, 1) := by decide +kernel
theorem dX5_begin_48 : decode cX5_begin 48 = .ok (.ireturn, 1) := by decide +kernel
theorem dX5_isShut_0 : decode cX5_isShut 0 = .ok (.aload_n 0, 1) := by decide +kernel
theorem dX5_isShut_1 : decode cX5_isShut 1 = .ok (.getfield 33, 3) := by decide +kernel
theorem dX5_isShut_4 : decode cX5_isShut 4 = .ok (.ifCond .eq 10, 3) := by decide +kernel
theorem dX5_isShut_7 : decode cX5_isShut 7 = .ok (.aload_n 0, 1) := by decide +kernel
theorem dX5_isShut_8 : decode cX5_isShut 8 = .ok (.getfield 72, 3) := by decide +kernel
theorem dX5_isShut_11 : decode cX5_isShut 11 = .ok (.ifCond .ne 7, 3) := by decide +kernel
theorem dX5_isShut_14 : decode cX5_isShut 14 = .ok (.iconst 1, 1) := by decide +kernel
theorem dX5_isShut_15 : decode cX5_isShut 15 = .ok (.goto 4, 3) := by decide +kernel
theorem dX5_isShut_18 : decode cX5_isShut 18 = .ok (.iconst 0, 1) := by decide +kernel
theorem dX5_isShut_19 : decode cX5_isShut 19 = .ok (.ireturn, 1) := by decide +kernel
theorem dX5_take_0 : decode cX5_take 0 = .ok (.aload_n 0, 1) := by decide +kernel
theorem dX5_take_1 : decode cX5_take 1 = .ok (.aload_n 0, 1) := by decide +kernel
theorem dX5_take_2 : decode cX5_take 2 = .ok (.invokevirtual 104, 3) := by decide +kernel
theorem dX5_take_5 : decode cX5_take 5 = .ok (.ifCond .eq 7, 3) := by decide +kernel
theorem dX5_take_8 : decode cX5_take 8 = .ok (.iconst 1, 1) := by decide +kernel
theorem dX5_take_9 : decode cX5_take 9 = .ok (.goto 20, 3) := by decide +kernel
theorem dX5_take_12 : decode cX5_take 12 = .ok (.iload_n 1, 1) := by decide +kernel
theorem dX5_take_13 : decode cX5_take 13 = .ok (.iconst 1, 1) := by decide +kernel
theorem dX5_take_14 : decode cX5_take 14 = .ok (.if_icmp .lt 10, 3) := by decide +kernel
theorem dX5_take_17 : decode cX5_take 17 = .ok (.iload_n 1, 1) := by decide +kernel
theorem dX5_take_18 : decode cX5_take 18 = .ok (.sipush 847, 3) := by decide +kernel
theorem dX5_take_21 : decode cX5_take 21 = .ok (.if_icmp .le 7, 3) := by decide +kernel
theorem dX5_take_24 : decode cX5_take 24 = .ok (.iconst 2, 1) := by decide +kernel
theorem dX5_take_25 : decode cX5_take 25 = .ok (.goto 4, 3) := by decide +kernel
theorem dX5_take_28 : decode cX5_take 28 = .ok (.iconst 0, 1) := by decide +kernel
theorem dX5_take_29 : decode cX5_take 29 = .ok (.putfield 37, 3) := by decide +kernel
theorem dX5_take_32 : decode cX5_take 32 = .ok (.aload_n 0, 1) := by decide +kernel
theorem dX5_take_33 : decode cX5_take 33 = .ok (.getfield 37, 3) := by decide +kernel
theorem dX5_take_36 : decode cX5_take 36 = .ok (.ifCond .le 5, 3) := by decide +kernel
theorem dX5_take_39 : decode cX5_take 39 = .ok (.iconst 0, 1) := by decide +kernel
theorem dX5_take_40 : decode cX5_take 40 = .ok (.ireturn, 1) := by decide +kernel
theorem dX5_take_41 : decode cX5_take 41 = .ok (.sipush 176, 3) := by decide +kernel
theorem dX5_take_44 : decode cX5_take 44 = .ok (.istore_n 2, 1) := by decide +kernel
theorem dX5_take_45 : decode cX5_take 45 = .ok (.iload_n 2, 1) := by decide +kernel
theorem dX5_take_46 : decode cX5_take 46 = .ok (.sipush 1024, 3) := by decide +kernel
theorem dX5_take_49 : decode cX5_take 49 = .ok (.if_icmp .ge 33, 3) := by decide +kernel
theorem dX5_take_52 : decode cX5_take 52 = .ok (.aload_n 0, 1) := by decide +kernel
theorem dX5_take_53 : decode cX5_take 53 = .ok (.iload_n 2, 1) := by decide +kernel
theorem dX5_take_54 : decode cX5_take 54 = .ok (.invokevirtual 88, 3) := by decide +kernel
theorem dX5_take_57 : decode cX5_take 57 = .ok (.ifCond .ne 12, 3) := by decide +kernel
theorem dX5_take_60 : decode cX5_take 60 = .ok (.aload_n 0, 1) := by decide +kernel
theorem dX5_take_61 : decode cX5_take 61 = .ok (.iload_n 2, 1) := by decide +kernel
theorem dX5_take_62 : decode cX5_take 62 = .ok (.invokevirtual 84, 3) := by decide +kernel
theorem dX5_take_65 : decode cX5_take 65 = .ok (.iload_n 1, 1) := by decide +kernel
theorem dX5_take_66 : decode cX5_take 66 = .ok (.if_icmp .ge 16, 3) := by decide +kernel
theorem dX5_take_69 : decode cX5_take 69 = .ok (.iload_n 2, 1) := by decide +kernel
theorem dX5_take_70 : decode cX5_take 70 = .ok (.aload_n 0, 1) := by decide +kernel
theorem dX5_take_71 : decode cX5_take 71 = .ok (.iload_n 2, 1) := by decide +kernel
theorem dX5_take_72 : decode cX5_take 72 = .ok (.invokevirtual 84, 3) := by decide +kernel
theorem dX5_take_75 : decode cX5_take 75 = .ok (.iconst 1, 1) := by decide +kernel
theorem dX5_take_76 : decode cX5_take 76 = .ok (.iadd, 1) := by decide +kernel
theorem dX5_take_77 : decode cX5_take 77 = .ok (.iadd, 1) := by decide +kernel
theorem dX5_take_78 : decode cX5_take 78 = .ok (.istore_n 2, 1) := by decide +kernel
theorem dX5_take_79 : decode cX5_take 79 = .ok (.goto (-34), 3) := by decide +kernel
theorem dX5_take_82 : decode cX5_take 82 = .ok (.iload_n 2, 1) := by decide +kernel
theorem dX5_take_83 : decode cX5_take 83 = .ok (.sipush 1024, 3) := by decide +kernel
theorem dX5_take_86 : decode cX5_take 86 = .ok (.if_icmp .lt 5, 3) := by decide +kernel
theorem dX5_take_89 : decode cX5_take 89 = .ok (.iconst (-1), 1) := by decide +kernel
theorem dX5_take_90 : decode cX5_take 90 = .ok (.ireturn, 1) := by decide +kernel
theorem dX5_take_91 : decode cX5_take 91 = .ok (.aload_n 0, 1) := by decide +kernel
theorem dX5_take_92 : decode cX5_take 92 = .ok (.iload_n 2, 1) := by decide +kernel
theorem dX5_take_93 : decode cX5_take 93 = .ok (.invokevirtual 84, 3) := by decide +kernel
theorem dX5_take_96 : decode cX5_take 96 = .ok (.istore_n 3, 1) := by decide +kernel
theorem dX5_take_97 : decode cX5_take 97 = .ok (.iload_n 3, 1) := by decide +kernel
theorem dX5_take_98 : decode cX5_take 98 = .ok (.iload_n 1, 1) := by decide +kernel
theorem dX5_take_99 : decode cX5_take 99 = .ok (.iconst 2, 1) := by decide +kernel
theorem dX5_take_100 : decode cX5_take 100 = .ok (.iadd, 1) := by decide +kernel
theorem dX5_take_101 : decode cX5_take 101 = .ok (.if_icmp .lt 7, 3) := by decide +kernel
theorem dX5_take_104 : decode cX5_take 104 = .ok (.iconst 1, 1) := by decide +kernel
theorem dX5_take_105 : decode cX5_take 105 = .ok (.goto 4, 3) := by decide +kernel
theorem dX5_take_108 : decode cX5_take 108 = .ok (.iconst 0, 1) := by decide +kernel
theorem dX5_take_109 : decode cX5_take 109 = .ok (.istore 4, 2) := by decide +kernel
theorem dX5_take_111 : decode cX5_take 111 = .ok (.iload_n 2, 1) := by decide +kernel
theorem dX5_take_112 : decode cX5_take 112 = .ok (.iconst 1, 1) := by decide +kernel
theorem dX5_take_113 : decode cX5_take 113 = .ok (.iadd, 1) := by decide +kernel
theorem dX5_take_114 : decode cX5_take 114 = .ok (.iload_n 1, 1) := by decide +kernel
theorem dX5_take_115 : decode cX5_take 115 = .ok (.iadd, 1) := by decide +kernel
theorem dX5_take_116 : decode cX5_take 116 = .ok (.istore 5, 2) := by decide +kernel
theorem dX5_take_118 : decode cX5_take 118 = .ok (.ldc2_w 82, 3) := by decide +kernel
theorem dX5_take_121 : decode cX5_take 121 = .ok (.iload_n 3, 1) := by decide +kernel
theorem dX5_take_122 : decode cX5_take 122 = .ok (.iload_n 1, 1) := by decide +kernel
theorem dX5_take_123 : decode cX5_take 123 = .ok (.isub, 1) := by decide +kernel
theorem dX5_take_124 : decode cX5_take 124 = .ok (.iconst 1, 1) := by decide +kernel
theorem dX5_take_125 : decode cX5_take 125 = .ok (.isub, 1) := by decide +kernel
theorem dX5_take_126 : decode cX5_take 126 = .ok (.i2l, 1) := by decide +kernel
theorem dX5_take_127 : decode cX5_take 127 = .ok (.lmul, 1) := by decide +kernel
theorem dX5_take_128 : decode cX5_take 128 = .ok (.lstore 6, 2) := by decide +kernel
theorem dX5_take_130 : decode cX5_take 130 = .ok (.iload 4, 2) := by decide +kernel
theorem dX5_take_132 : decode cX5_take 132 = .ok (.ifCond .eq 14, 3) := by decide +kernel
theorem dX5_take_135 : decode cX5_take 135 = .ok (.ldc2_w 82, 3) := by decide +kernel
theorem dX5_take_138 : decode cX5_take 138 = .ok (.iload_n 1, 1) := by decide +kernel
theorem dX5_take_139 : decode cX5_take 139 = .ok (.i2l, 1) := by decide +kernel
theorem dX5_take_140 : decode cX5_take 140 = .ok (.lmul, 1) := by decide +kernel
theorem dX5_take_141 : decode cX5_take 141 = .ok (.lconst 1, 1) := by decide +kernel
theorem dX5_take_142 : decode cX5_take 142 = .ok (.ladd, 1) := by decide +kernel
theorem dX5_take_143 : decode cX5_take 143 = .ok (.goto 11, 3) := by decide +kernel
theorem dX5_take_146 : decode cX5_take 146 = .ok (.ldc2_w 82, 3) := by decide +kernel
theorem dX5_take_149 : decode cX5_take 149 = .ok (.iload_n 3, 1) := by decide +kernel
theorem dX5_take_150 : decode cX5_take 150 = .ok (.i2l, 1) := by decide +kernel
theorem dX5_take_151 : decode cX5_take 151 = .ok (.lmul, 1) := by decide +kernel
theorem dX5_take_152 : decode cX5_take 152 = .ok (.lconst 1, 1) := by decide +kernel
theorem dX5_take_153 : decode cX5_take 153 = .ok (.ladd, 1) := by decide +kernel
theorem dX5_take_154 : decode cX5_take 154 = .ok (.lstore 8, 2) := by decide +kernel
theorem dX5_take_156 : decode cX5_take 156 = .ok (.iload 4, 2) := by decide +kernel
theorem dX5_take_158 : decode cX5_take 158 = .ok (.ifCond .eq 18, 3) := by decide +kernel
theorem dX5_take_161 : decode cX5_take 161 = .ok (.aload_n 0, 1) := by decide +kernel
theorem dX5_take_162 : decode cX5_take 162 = .ok (.iload 5, 2) := by decide +kernel
theorem dX5_take_164 : decode cX5_take 164 = .ok (.lload 6, 2) := by decide +kernel
theorem dX5_take_166 : decode cX5_take 166 = .ok (.invokevirtual 92, 3) := by decide +kernel
theorem dX5_take_169 : decode cX5_take 169 = .ok (.ifCond .eq 7, 3) := by decide +kernel
theorem dX5_take_172 : decode cX5_take 172 = .ok (.iconst 1, 1) := by decide +kernel
theorem dX5_take_173 : decode cX5_take 173 = .ok (.goto 4, 3) := by decide +kernel
theorem dX5_take_176 : decode cX5_take 176 = .ok (.iconst 0, 1) := by decide +kernel
theorem dX5_take_177 : decode cX5_take 177 = .ok (.aload_n 0, 1) := by decide +kernel
theorem dX5_take_178 : decode cX5_take 178 = .ok (.iload_n 2, 1) := by decide +kernel
theorem dX5_take_179 : decode cX5_take 179 = .ok (.lload 8, 2) := by decide +kernel
theorem dX5_take_181 : decode cX5_take 181 = .ok (.invokevirtual 92, 3) := by decide +kernel
theorem dX5_take_184 : decode cX5_take 184 = .ok (.ifCond .eq 7, 3) := by decide +kernel
theorem dX5_take_187 : decode cX5_take 187 = .ok (.iconst 1, 1) := by decide +kernel
theorem dX5_take_188 : decode cX5_take 188 = .ok (.goto 4, 3) := by decide +kernel
theorem dX5_take_191 : decode cX5_take 191 = .ok (.iconst 0, 1) := by decide +kernel
theorem dX5_take_192 : decode cX5_take 192 = .ok (.iadd, 1) := by decide +kernel
theorem dX5_take_193 : decode cX5_take 193 = .ok (.istore 10, 2) := by decide +kernel
theorem dX5_take_195 : decode cX5_take 195 = .ok (.aload_n 0, 1) := by decide +kernel
theorem dX5_take_196 : decode cX5_take 196 = .ok (.getfield 75, 3) := by decide +kernel
theorem dX5_take_199 : decode cX5_take 199 = .ok (.iload 10, 2) := by decide +kernel
theorem dX5_take_201 : decode cX5_take 201 = .ok (.iadd, 1) := by decide +kernel
theorem dX5_take_202 : decode cX5_take 202 = .ok (.bipush 96, 2) := by decide +kernel
theorem dX5_take_204 : decode cX5_take 204 = .ok (.if_icmp .le 5, 3) := by decide +kernel
theorem dX5_take_207 : decode cX5_take 207 = .ok (.iconst (-1), 1) := by decide +kernel
theorem dX5_take_208 : decode cX5_take 208 = .ok (.ireturn, 1) := by decide +kernel
theorem dX5_take_209 : decode cX5_take 209 = .ok (.iload 4, 2) := by decide +kernel
theorem dX5_take_211 : decode cX5_take 211 = .ok (.ifCond .eq 11, 3) := by decide +kernel
theorem dX5_take_214 : decode cX5_take 214 = .ok (.aload_n 0, 1) := by decide +kernel
theorem dX5_take_215 : decode cX5_take 215 = .ok (.iload 5, 2) := by decide +kernel
theorem dX5_take_217 : decode cX5_take 217 = .ok (.lload 6, 2) := by decide +kernel
theorem dX5_take_219 : decode cX5_take 219 = .ok (.invokevirtual 96, 3) := by decide +kernel
theorem dX5_take_222 : decode cX5_take 222 = .ok (.aload_n 0, 1) := by decide +kernel
theorem dX5_take_223 : decode cX5_take 223 = .ok (.iload_n 2, 1) := by decide +kernel
theorem dX5_take_224 : decode cX5_take 224 = .ok (.lload 8, 2) := by decide +kernel
theorem dX5_take_226 : decode cX5_take 226 = .ok (.invokevirtual 96, 3) := by decide +kernel
theorem dX5_take_229 : decode cX5_take 229 = .ok (.iload_n 2, 1) := by decide +kernel
theorem dX5_take_230 : decode cX5_take 230 = .ok (.iconst 1, 1) := by decide +kernel
theorem dX5_take_231 : decode cX5_take 231 = .ok (.iadd, 1) := by decide +kernel
theorem dX5_take_232 : decode cX5_take 232 = .ok (.ireturn, 1) := by decide +kernel
theorem dX5_give_0 : decode cX5_give 0 = .ok (.aload_n 0, 1) := by decide +kernel
theorem dX5_give_1 : decode cX5_give 1 = .ok (.invokevirtual 104, 3) := by decide +kernel
theorem dX5_give_4 : decode cX5_give 4 = .ok (.ifCond .eq 7, 3) := by decide +kernel
theorem dX5_give_7 : decode cX5_give 7 = .ok (.iconst (-1), 1) := by decide +kernel
theorem dX5_give_8 : decode cX5_give 8 = .ok (.goto 8, 3) := by decide +kernel
theorem dX5_give_11 : decode cX5_give 11 = .ok (.aload_n 0, 1) := by decide +kernel
theorem dX5_give_12 : decode cX5_give 12 = .ok (.iload_n 1, 1) := by decide +kernel
theorem dX5_give_13 : decode cX5_give 13 = .ok (.invokevirtual 108, 3) := by decide +kernel
theorem dX5_give_16 : decode cX5_give 16 = .ok (.istore_n 2, 1) := by decide +kernel
theorem dX5_give_17 : decode cX5_give 17 = .ok (.aload_n 0, 1) := by decide +kernel
theorem dX5_give_18 : decode cX5_give 18 = .ok (.aload_n 0, 1) := by decide +kernel
theorem dX5_give_19 : decode cX5_give 19 = .ok (.invokevirtual 104, 3) := by decide +kernel
theorem dX5_give_22 : decode cX5_give 22 = .ok (.ifCond .eq 7, 3) := by decide +kernel
theorem dX5_give_25 : decode cX5_give 25 = .ok (.iconst 1, 1) := by decide +kernel
theorem dX5_give_26 : decode cX5_give 26 = .ok (.goto 12, 3) := by decide +kernel
theorem dX5_give_29 : decode cX5_give 29 = .ok (.iload_n 2, 1) := by decide +kernel
theorem dX5_give_30 : decode cX5_give 30 = .ok (.ifCond .ge 7, 3) := by decide +kernel
theorem dX5_give_33 : decode cX5_give 33 = .ok (.iconst 2, 1) := by decide +kernel
theorem dX5_give_34 : decode cX5_give 34 = .ok (.goto 4, 3) := by decide +kernel
theorem dX5_give_37 : decode cX5_give 37 = .ok (.iconst 0, 1) := by decide +kernel
theorem dX5_give_38 : decode cX5_give 38 = .ok (.putfield 37, 3) := by decide +kernel
theorem dX5_give_41 : decode cX5_give 41 = .ok (.aload_n 0, 1) := by decide +kernel
theorem dX5_give_42 : decode cX5_give 42 = .ok (.getfield 37, 3) := by decide +kernel
theorem dX5_give_45 : decode cX5_give 45 = .ok (.ifCond .le 5, 3) := by decide +kernel
theorem dX5_give_48 : decode cX5_give 48 = .ok (.iconst 0, 1) := by decide +kernel
theorem dX5_give_49 : decode cX5_give 49 = .ok (.ireturn, 1) := by decide +kernel
theorem dX5_give_50 : decode cX5_give 50 = .ok (.aload_n 0, 1) := by decide +kernel
theorem dX5_give_51 : decode cX5_give 51 = .ok (.iload_n 2, 1) := by decide +kernel
theorem dX5_give_52 : decode cX5_give 52 = .ok (.invokevirtual 84, 3) := by decide +kernel
theorem dX5_give_55 : decode cX5_give 55 = .ok (.istore_n 3, 1) := by decide +kernel
theorem dX5_give_56 : decode cX5_give 56 = .ok (.iload_n 2, 1) := by decide +kernel
theorem dX5_give_57 : decode cX5_give 57 = .ok (.iconst 1, 1) := by decide +kernel
theorem dX5_give_58 : decode cX5_give 58 = .ok (.iadd, 1) := by decide +kernel
theorem dX5_give_59 : decode cX5_give 59 = .ok (.iload_n 3, 1) := by decide +kernel
theorem dX5_give_60 : decode cX5_give 60 = .ok (.iadd, 1) := by decide +kernel
theorem dX5_give_61 : decode cX5_give 61 = .ok (.istore 4, 2) := by decide +kernel
theorem dX5_give_63 : decode cX5_give 63 = .ok (.iload 4, 2) := by decide +kernel
theorem dX5_give_65 : decode cX5_give 65 = .ok (.sipush 1024, 3) := by decide +kernel
theorem dX5_give_68 : decode cX5_give 68 = .ok (.if_icmp .ge 23, 3) := by decide +kernel
theorem dX5_give_71 : decode cX5_give 71 = .ok (.aload_n 0, 1) := by decide +kernel
theorem dX5_give_72 : decode cX5_give 72 = .ok (.iload 4, 2) := by decide +kernel
theorem dX5_give_74 : decode cX5_give 74 = .ok (.invokevirtual 88, 3) := by decide +kernel
theorem dX5_give_77 : decode cX5_give 77 = .ok (.ifCond .ne 14, 3) := by decide +kernel
theorem dX5_give_80 : decode cX5_give 80 = .ok (.iload_n 3, 1) := by decide +kernel
theorem dX5_give_81 : decode cX5_give 81 = .ok (.aload_n 0, 1) := by decide +kernel
theorem dX5_give_82 : decode cX5_give 82 = .ok (.iload 4, 2) := by decide +kernel
theorem dX5_give_84 : decode cX5_give 84 = .ok (.invokevirtual 84, 3) := by decide +kernel
theorem dX5_give_87 : decode cX5_give 87 = .ok (.iconst 1, 1) := by decide +kernel
theorem dX5_give_88 : decode cX5_give 88 = .ok (.iadd, 1) := by decide +kernel
theorem dX5_give_89 : decode cX5_give 89 = .ok (.iadd, 1) := by decide +kernel
theorem dX5_give_90 : decode cX5_give 90 = .ok (.istore_n 3, 1) := by decide +kernel
theorem dX5_give_91 : decode cX5_give 91 = .ok (.iconst (-1), 1) := by decide +kernel
theorem dX5_give_92 : decode cX5_give 92 = .ok (.istore 5, 2) := by decide +kernel
theorem dX5_give_94 : decode cX5_give 94 = .ok (.sipush 176, 3) := by decide +kernel
theorem dX5_give_97 : decode cX5_give 97 = .ok (.istore 6, 2) := by decide +kernel
theorem dX5_give_99 : decode cX5_give 99 = .ok (.iload 6, 2) := by decide +kernel
theorem dX5_give_101 : decode cX5_give 101 = .ok (.iload_n 2, 1) := by decide +kernel
theorem dX5_give_102 : decode cX5_give 102 = .ok (.if_icmp .ge 23, 3) := by decide +kernel
theorem dX5_give_105 : decode cX5_give 105 = .ok (.iload 6, 2) := by decide +kernel
theorem dX5_give_107 : decode cX5_give 107 = .ok (.istore 5, 2) := by decide +kernel
theorem dX5_give_109 : decode cX5_give 109 = .ok (.iload 6, 2) := by decide +kernel
theorem dX5_give_111 : decode cX5_give 111 = .ok (.aload_n 0, 1) := by decide +kernel
theorem dX5_give_112 : decode cX5_give 112 = .ok (.iload 6, 2) := by decide +kernel
theorem dX5_give_114 : decode cX5_give 114 = .ok (.invokevirtual 84, 3) := by decide +kernel
theorem dX5_give_117 : decode cX5_give 117 = .ok (.iconst 1, 1) := by decide +kernel
theorem dX5_give_118 : decode cX5_give 118 = .ok (.iadd, 1) := by decide +kernel
theorem dX5_give_119 : decode cX5_give 119 = .ok (.iadd, 1) := by decide +kernel
theorem dX5_give_120 : decode cX5_give 120 = .ok (.istore 6, 2) := by decide +kernel
theorem dX5_give_122 : decode cX5_give 122 = .ok (.goto (-23), 3) := by decide +kernel
theorem dX5_give_125 : decode cX5_give 125 = .ok (.iload_n 2, 1) := by decide +kernel
theorem dX5_give_126 : decode cX5_give 126 = .ok (.istore 7, 2) := by decide +kernel
theorem dX5_give_128 : decode cX5_give 128 = .ok (.iload 5, 2) := by decide +kernel
theorem dX5_give_130 : decode cX5_give 130 = .ok (.ifCond .lt 27, 3) := by decide +kernel
theorem dX5_give_133 : decode cX5_give 133 = .ok (.aload_n 0, 1) := by decide +kernel
theorem dX5_give_134 : decode cX5_give 134 = .ok (.iload 5, 2) := by decide +kernel
theorem dX5_give_136 : decode cX5_give 136 = .ok (.invokevirtual 88, 3) := by decide +kernel
theorem dX5_give_139 : decode cX5_give 139 = .ok (.ifCond .ne 18, 3) := by decide +kernel
theorem dX5_give_142 : decode cX5_give 142 = .ok (.iload_n 3, 1) := by decide +kernel
theorem dX5_give_143 : decode cX5_give 143 = .ok (.aload_n 0, 1) := by decide +kernel
theorem dX5_give_144 : decode cX5_give 144 = .ok (.iload 5, 2) := by decide +kernel
theorem dX5_give_146 : decode cX5_give 146 = .ok (.invokevirtual 84, 3) := by decide +kernel
theorem dX5_give_149 : decode cX5_give 149 = .ok (.iconst 1, 1) := by decide +kernel
theorem dX5_give_150 : decode cX5_give 150 = .ok (.iadd, 1) := by decide +kernel
theorem dX5_give_151 : decode cX5_give 151 = .ok (.iadd, 1) := by decide +kernel
theorem dX5_give_152 : decode cX5_give 152 = .ok (.istore_n 3, 1) := by decide +kernel
theorem dX5_give_153 : decode cX5_give 153 = .ok (.iload 5, 2) := by decide +kernel
theorem dX5_give_155 : decode cX5_give 155 = .ok (.istore 7, 2) := by decide +kernel
theorem dX5_give_157 : decode cX5_give 157 = .ok (.aload_n 0, 1) := by decide +kernel
theorem dX5_give_158 : decode cX5_give 158 = .ok (.iload 7, 2) := by decide +kernel
theorem dX5_give_160 : decode cX5_give 160 = .ok (.ldc2_w 82, 3) := by decide +kernel
theorem dX5_give_163 : decode cX5_give 163 = .ok (.iload_n 3, 1) := by decide +kernel
theorem dX5_give_164 : decode cX5_give 164 = .ok (.i2l, 1) := by decide +kernel
theorem dX5_give_165 : decode cX5_give 165 = .ok (.lmul, 1) := by decide +kernel
theorem dX5_give_166 : decode cX5_give 166 = .ok (.invokevirtual 111, 3) := by decide +kernel
theorem dX5_give_169 : decode cX5_give 169 = .ok (.ifCond .eq 7, 3) := by decide +kernel
theorem dX5_give_172 : decode cX5_give 172 = .ok (.iload_n 3, 1) := by decide +kernel
theorem dX5_give_173 : decode cX5_give 173 = .ok (.goto 4, 3) := by decide +kernel
theorem dX5_give_176 : decode cX5_give 176 = .ok (.iconst (-1), 1) := by decide +kernel
theorem dX5_give_177 : decode cX5_give 177 = .ok (.ireturn, 1) := by decide +kernel
theorem dX5_set_0 : decode cX5_set 0 = .ok (.aload_n 0, 1) := by decide +kernel
theorem dX5_set_1 : decode cX5_set 1 = .ok (.invokevirtual 104, 3) := by decide +kernel
theorem dX5_set_4 : decode cX5_set 4 = .ok (.ifCond .eq 7, 3) := by decide +kernel
theorem dX5_set_7 : decode cX5_set 7 = .ok (.iconst (-1), 1) := by decide +kernel
theorem dX5_set_8 : decode cX5_set 8 = .ok (.goto 8, 3) := by decide +kernel
theorem dX5_set_11 : decode cX5_set 11 = .ok (.aload_n 0, 1) := by decide +kernel
theorem dX5_set_12 : decode cX5_set 12 = .ok (.iload_n 1, 1) := by decide +kernel
theorem dX5_set_13 : decode cX5_set 13 = .ok (.invokevirtual 108, 3) := by decide +kernel
theorem dX5_set_16 : decode cX5_set 16 = .ok (.istore 5, 2) := by decide +kernel
theorem dX5_set_18 : decode cX5_set 18 = .ok (.aload_n 0, 1) := by decide +kernel
theorem dX5_set_19 : decode cX5_set 19 = .ok (.aload_n 0, 1) := by decide +kernel
theorem dX5_set_20 : decode cX5_set 20 = .ok (.invokevirtual 104, 3) := by decide +kernel
theorem dX5_set_23 : decode cX5_set 23 = .ok (.ifCond .eq 7, 3) := by decide +kernel
theorem dX5_set_26 : decode cX5_set 26 = .ok (.iconst 1, 1) := by decide +kernel
theorem dX5_set_27 : decode cX5_set 27 = .ok (.goto 27, 3) := by decide +kernel
theorem dX5_set_30 : decode cX5_set 30 = .ok (.iload 5, 2) := by decide +kernel
theorem dX5_set_32 : decode cX5_set 32 = .ok (.ifCond .lt 17, 3) := by decide +kernel
theorem dX5_set_35 : decode cX5_set 35 = .ok (.iload_n 2, 1) := by decide +kernel
theorem dX5_set_36 : decode cX5_set 36 = .ok (.ifCond .lt 13, 3) := by decide +kernel
theorem dX5_set_39 : decode cX5_set 39 = .ok (.iload_n 2, 1) := by decide +kernel
theorem dX5_set_40 : decode cX5_set 40 = .ok (.aload_n 0, 1) := by decide +kernel
theorem dX5_set_41 : decode cX5_set 41 = .ok (.iload 5, 2) := by decide +kernel
theorem dX5_set_43 : decode cX5_set 43 = .ok (.invokevirtual 84, 3) := by decide +kernel
theorem dX5_set_46 : decode cX5_set 46 = .ok (.if_icmp .lt 7, 3) := by decide +kernel
theorem dX5_set_49 : decode cX5_set 49 = .ok (.iconst 2, 1) := by decide +kernel
theorem dX5_set_50 : decode cX5_set 50 = .ok (.goto 4, 3) := by decide +kernel
theorem dX5_set_53 : decode cX5_set 53 = .ok (.iconst 0, 1) := by decide +kernel
theorem dX5_set_54 : decode cX5_set 54 = .ok (.putfield 37, 3) := by decide +kernel
theorem dX5_set_57 : decode cX5_set 57 = .ok (.aload_n 0, 1) := by decide +kernel
theorem dX5_set_58 : decode cX5_set 58 = .ok (.getfield 37, 3) := by decide +kernel
theorem dX5_set_61 : decode cX5_set 61 = .ok (.ifCond .ne 18, 3) := by decide +kernel
theorem dX5_set_64 : decode cX5_set 64 = .ok (.aload_n 0, 1) := by decide +kernel
theorem dX5_set_65 : decode cX5_set 65 = .ok (.iload_n 1, 1) := by decide +kernel
theorem dX5_set_66 : decode cX5_set 66 = .ok (.iload_n 2, 1) := by decide +kernel
theorem dX5_set_67 : decode cX5_set 67 = .ok (.iadd, 1) := by decide +kernel
theorem dX5_set_68 : decode cX5_set 68 = .ok (.lload_n 3, 1) := by decide +kernel
theorem dX5_set_69 : decode cX5_set 69 = .ok (.invokevirtual 111, 3) := by decide +kernel
theorem dX5_set_72 : decode cX5_set 72 = .ok (.ifCond .eq 7, 3) := by decide +kernel
theorem dX5_set_75 : decode cX5_set 75 = .ok (.iconst 1, 1) := by decide +kernel
theorem dX5_set_76 : decode cX5_set 76 = .ok (.goto 4, 3) := by decide +kernel
theorem dX5_set_79 : decode cX5_set 79 = .ok (.iconst 0, 1) := by decide +kernel
theorem dX5_set_80 : decode cX5_set 80 = .ok (.ireturn, 1) := by decide +kernel
theorem dX5_get_0 : decode cX5_get 0 = .ok (.aload_n 0, 1) := by decide +kernel
theorem dX5_get_1 : decode cX5_get 1 = .ok (.getfield 33, 3) := by decide +kernel
theorem dX5_get_4 : decode cX5_get 4 = .ok (.ifCond .ne 7, 3) := by decide +kernel
theorem dX5_get_7 : decode cX5_get 7 = .ok (.iconst (-1), 1) := by decide +kernel
theorem dX5_get_8 : decode cX5_get 8 = .ok (.goto 8, 3) := by decide +kernel
theorem dX5_get_11 : decode cX5_get 11 = .ok (.aload_n 0, 1) := by decide +kernel
theorem dX5_get_12 : decode cX5_get 12 = .ok (.iload_n 1, 1) := by decide +kernel
theorem dX5_get_13 : decode cX5_get 13 = .ok (.invokevirtual 108, 3) := by decide +kernel
theorem dX5_get_16 : decode cX5_get 16 = .ok (.istore_n 3, 1) := by decide +kernel
theorem dX5_get_17 : decode cX5_get 17 = .ok (.aload_n 0, 1) := by decide +kernel
theorem dX5_get_18 : decode cX5_get 18 = .ok (.aload_n 0, 1) := by decide +kernel
theorem dX5_get_19 : decode cX5_get 19 = .ok (.getfield 33, 3) := by decide +kernel
theorem dX5_get_22 : decode cX5_get 22 = .ok (.ifCond .ne 7, 3) := by decide +kernel
theorem dX5_get_25 : decode cX5_get 25 = .ok (.iconst 1, 1) := by decide +kernel
theorem dX5_get_26 : decode cX5_get 26 = .ok (.goto 25, 3) := by decide +kernel
theorem dX5_get_29 : decode cX5_get 29 = .ok (.iload_n 3, 1) := by decide +kernel
theorem dX5_get_30 : decode cX5_get 30 = .ok (.ifCond .lt 16, 3) := by decide +kernel
theorem dX5_get_33 : decode cX5_get 33 = .ok (.iload_n 2, 1) := by decide +kernel
theorem dX5_get_34 : decode cX5_get 34 = .ok (.ifCond .lt 12, 3) := by decide +kernel
theorem dX5_get_37 : decode cX5_get 37 = .ok (.iload_n 2, 1) := by decide +kernel
theorem dX5_get_38 : decode cX5_get 38 = .ok (.aload_n 0, 1) := by decide +kernel
theorem dX5_get_39 : decode cX5_get 39 = .ok (.iload_n 3, 1) := by decide +kernel
theorem dX5_get_40 : decode cX5_get 40 = .ok (.invokevirtual 84, 3) := by decide +kernel
theorem dX5_get_43 : decode cX5_get 43 = .ok (.if_icmp .lt 7, 3) := by decide +kernel
theorem dX5_get_46 : decode cX5_get 46 = .ok (.iconst 2, 1) := by decide +kernel
theorem dX5_get_47 : decode cX5_get 47 = .ok (.goto 4, 3) := by decide +kernel
theorem dX5_get_50 : decode cX5_get 50 = .ok (.iconst 0, 1) := by decide +kernel
theorem dX5_get_51 : decode cX5_get 51 = .ok (.putfield 37, 3) := by decide +kernel
theorem dX5_get_54 : decode cX5_get 54 = .ok (.aload_n 0, 1) := by decide +kernel
theorem dX5_get_55 : decode cX5_get 55 = .ok (.getfield 37, 3) := by decide +kernel
theorem dX5_get_58 : decode cX5_get 58 = .ok (.ifCond .le 7, 3) := by decide +kernel
theorem dX5_get_61 : decode cX5_get 61 = .ok (.lconst 0, 1) := by decide +kernel
theorem dX5_get_62 : decode cX5_get 62 = .ok (.goto 10, 3) := by decide +kernel
theorem dX5_get_65 : decode cX5_get 65 = .ok (.aload_n 0, 1) := by decide +kernel
theorem dX5_get_66 : decode cX5_get 66 = .ok (.iload_n 1, 1) := by decide +kernel
theorem dX5_get_67 : decode cX5_get 67 = .ok (.iload_n 2, 1) := by decide +kernel
theorem dX5_get_68 : decode cX5_get 68 = .ok (.iadd, 1) := by decide +kernel
theorem dX5_get_69 : decode cX5_get 69 = .ok (.invokevirtual 78, 3) := by decide +kernel
theorem dX5_get_72 : decode cX5_get 72 = .ok (.lreturn, 1) := by decide +kernel
theorem dX5_setRoot_0 : decode cX5_setRoot 0 = .ok (.aload_n 0, 1) := by decide +kernel
theorem dX5_setRoot_1 : decode cX5_setRoot 1 = .ok (.aload_n 0, 1) := by decide +kernel
theorem dX5_setRoot_2 : decode cX5_setRoot 2 = .ok (.invokevirtual 104, 3) := by decide +kernel
theorem dX5_setRoot_5 : decode cX5_setRoot 5 = .ok (.ifCond .eq 7, 3) := by decide +kernel
theorem dX5_setRoot_8 : decode cX5_setRoot 8 = .ok (.iconst 1, 1) := by decide +kernel
theorem dX5_setRoot_9 : decode cX5_setRoot 9 = .ok (.goto 20, 3) := by decide +kernel
theorem dX5_setRoot_12 : decode cX5_setRoot 12 = .ok (.iload_n 1, 1) := by decide +kernel
theorem dX5_setRoot_13 : decode cX5_setRoot 13 = .ok (.ifCond .eq 15, 3) := by decide +kernel
theorem dX5_setRoot_16 : decode cX5_setRoot 16 = .ok (.aload_n 0, 1) := by decide +kernel
theorem dX5_setRoot_17 : decode cX5_setRoot 17 = .ok (.iload_n 1, 1) := by decide +kernel
theorem dX5_setRoot_18 : decode cX5_setRoot 18 = .ok (.invokevirtual 108, 3) := by decide +kernel
theorem dX5_setRoot_21 : decode cX5_setRoot 21 = .ok (.ifCond .ge 7, 3) := by decide +kernel
theorem dX5_setRoot_24 : decode cX5_setRoot 24 = .ok (.iconst 2, 1) := by decide +kernel
theorem dX5_setRoot_25 : decode cX5_setRoot 25 = .ok (.goto 4, 3) := by decide +kernel
theorem dX5_setRoot_28 : decode cX5_setRoot 28 = .ok (.iconst 0, 1) := by decide +kernel
theorem dX5_setRoot_29 : decode cX5_setRoot 29 = .ok (.putfield 37, 3) := by decide +kernel
theorem dX5_setRoot_32 : decode cX5_setRoot 32 = .ok (.aload_n 0, 1) := by decide +kernel
theorem dX5_setRoot_33 : decode cX5_setRoot 33 = .ok (.getfield 37, 3) := by decide +kernel
theorem dX5_setRoot_36 : decode cX5_setRoot 36 = .ok (.ifCond .ne 17, 3) := by decide +kernel
theorem dX5_setRoot_39 : decode cX5_setRoot 39 = .ok (.aload_n 0, 1) := by decide +kernel
theorem dX5_setRoot_40 : decode cX5_setRoot 40 = .ok (.iconst 1, 1) := by decide +kernel
theorem dX5_setRoot_41 : decode cX5_setRoot 41 = .ok (.iload_n 1, 1) := by decide +kernel
theorem dX5_setRoot_42 : decode cX5_setRoot 42 = .ok (.i2l, 1) := by decide +kernel
theorem dX5_setRoot_43 : decode cX5_setRoot 43 = .ok (.invokevirtual 111, 3) := by decide +kernel
theorem dX5_setRoot_46 : decode cX5_setRoot 46 = .ok (.ifCond .eq 7, 3) := by decide +kernel
theorem dX5_setRoot_49 : decode cX5_setRoot 49 = .ok (.iconst 1, 1) := by decide +kernel
theorem dX5_setRoot_50 : decode cX5_setRoot 50 = .ok (.goto 4, 3) := by decide +kernel
theorem dX5_setRoot_53 : decode cX5_setRoot 53 = .ok (.iconst 0, 1) := by decide +kernel
theorem dX5_setRoot_54 : decode cX5_setRoot 54 = .ok (.ireturn, 1) := by decide +kernel
theorem dX5_root_0 : decode cX5_root 0 = .ok (.aload_n 0, 1) := by decide +kernel
theorem dX5_root_1 : decode cX5_root 1 = .ok (.aload_n 0, 1) := by decide +kernel
theorem dX5_root_2 : decode cX5_root 2 = .ok (.getfield 33, 3) := by decide +kernel
theorem dX5_root_5 : decode cX5_root 5 = .ok (.ifCond .eq 7, 3) := by decide +kernel
theorem dX5_root_8 : decode cX5_root 8 = .ok (.iconst 0, 1) := by decide +kernel
theorem dX5_root_9 : decode cX5_root 9 = .ok (.goto 4, 3) := by decide +kernel
theorem dX5_root_12 : decode cX5_root 12 = .ok (.iconst 1, 1) := by decide +kernel
theorem dX5_root_13 : decode cX5_root 13 = .ok (.putfield 37, 3) := by decide +kernel
theorem dX5_root_16 : decode cX5_root 16 = .ok (.aload_n 0, 1) := by decide +kernel
theorem dX5_root_17 : decode cX5_root 17 = .ok (.getfield 37, 3) := by decide +kernel
theorem dX5_root_20 : decode cX5_root 20 = .ok (.ifCond .le 7, 3) := by decide +kernel
theorem dX5_root_23 : decode cX5_root 23 = .ok (.iconst 0, 1) := by decide +kernel
theorem dX5_root_24 : decode cX5_root 24 = .ok (.goto 9, 3) := by decide +kernel
theorem dX5_root_27 : decode cX5_root 27 = .ok (.aload_n 0, 1) := by decide +kernel
theorem dX5_root_28 : decode cX5_root 28 = .ok (.iconst 1, 1) := by decide +kernel
theorem dX5_root_29 : decode cX5_root 29 = .ok (.invokevirtual 78, 3) := by decide +kernel
theorem dX5_root_32 : decode cX5_root 32 = .ok (.l2i, 1) := by decide +kernel
theorem dX5_root_33 : decode cX5_root 33 = .ok (.ireturn, 1) := by decide +kernel
theorem dX5_empty_0 : decode cX5_empty 0 = .ok (.bipush 16, 2) := by decide +kernel
theorem dX5_empty_2 : decode cX5_empty 2 = .ok (.istore_n 3, 1) := by decide +kernel
theorem dX5_empty_3 : decode cX5_empty 3 = .ok (.aload_n 0, 1) := by decide +kernel
theorem dX5_empty_4 : decode cX5_empty 4 = .ok (.getfield 13, 3) := by decide +kernel
theorem dX5_empty_7 : decode cX5_empty 7 = .ok (.iconst 2, 1) := by decide +kernel
theorem dX5_empty_8 : decode cX5_empty 8 = .ok (.laload, 1) := by decide +kernel
theorem dX5_empty_9 : decode cX5_empty 9 = .ok (.lstore 4, 2) := by decide +kernel
theorem dX5_empty_11 : decode cX5_empty 11 = .ok (.iload_n 3, 1) := by decide +kernel
theorem dX5_empty_12 : decode cX5_empty 12 = .ok (.bipush 16, 2) := by decide +kernel
theorem dX5_empty_14 : decode cX5_empty 14 = .ok (.iload_n 1, 1) := by decide +kernel
theorem dX5_empty_15 : decode cX5_empty 15 = .ok (.iadd, 1) := by decide +kernel
theorem dX5_empty_16 : decode cX5_empty 16 = .ok (.if_icmp .ge 99, 3) := by decide +kernel
theorem dX5_empty_19 : decode cX5_empty 19 = .ok (.aload_n 0, 1) := by decide +kernel
theorem dX5_empty_20 : decode cX5_empty 20 = .ok (.getfield 13, 3) := by decide +kernel
theorem dX5_empty_23 : decode cX5_empty 23 = .ok (.iload_n 3, 1) := by decide +kernel
theorem dX5_empty_24 : decode cX5_empty 24 = .ok (.laload, 1) := by decide +kernel
theorem dX5_empty_25 : decode cX5_empty 25 = .ok (.ldc2_w 114, 3) := by decide +kernel
theorem dX5_empty_28 : decode cX5_empty 28 = .ok (.land, 1) := by decide +kernel
theorem dX5_empty_29 : decode cX5_empty 29 = .ok (.l2i, 1) := by decide +kernel
theorem dX5_empty_30 : decode cX5_empty 30 = .ok (.istore 6, 2) := by decide +kernel
theorem dX5_empty_32 : decode cX5_empty 32 = .ok (.iconst 0, 1) := by decide +kernel
theorem dX5_empty_33 : decode cX5_empty 33 = .ok (.istore 7, 2) := by decide +kernel
theorem dX5_empty_35 : decode cX5_empty 35 = .ok (.iload 7, 2) := by decide +kernel
theorem dX5_empty_37 : decode cX5_empty 37 = .ok (.iload 6, 2) := by decide +kernel
theorem dX5_empty_39 : decode cX5_empty 39 = .ok (.if_icmp .ge 45, 3) := by decide +kernel
theorem dX5_empty_42 : decode cX5_empty 42 = .ok (.aload_n 0, 1) := by decide +kernel
theorem dX5_empty_43 : decode cX5_empty 43 = .ok (.aload_n 0, 1) := by decide +kernel
theorem dX5_empty_44 : decode cX5_empty 44 = .ok (.getfield 13, 3) := by decide +kernel
theorem dX5_empty_47 : decode cX5_empty 47 = .ok (.iload_n 3, 1) := by decide +kernel
theorem dX5_empty_48 : decode cX5_empty 48 = .ok (.iconst 1, 1) := by decide +kernel
theorem dX5_empty_49 : decode cX5_empty 49 = .ok (.iadd, 1) := by decide +kernel
theorem dX5_empty_50 : decode cX5_empty 50 = .ok (.iconst 2, 1) := by decide +kernel
theorem dX5_empty_51 : decode cX5_empty 51 = .ok (.iload 7, 2) := by decide +kernel
theorem dX5_empty_53 : decode cX5_empty 53 = .ok (.imul, 1) := by decide +kernel
theorem dX5_empty_54 : decode cX5_empty 54 = .ok (.iadd, 1) := by decide +kernel
theorem dX5_empty_55 : decode cX5_empty 55 = .ok (.laload, 1) := by decide +kernel
theorem dX5_empty_56 : decode cX5_empty 56 = .ok (.l2i, 1) := by decide +kernel
theorem dX5_empty_57 : decode cX5_empty 57 = .ok (.aload_n 0, 1) := by decide +kernel
theorem dX5_empty_58 : decode cX5_empty 58 = .ok (.getfield 13, 3) := by decide +kernel
theorem dX5_empty_61 : decode cX5_empty 61 = .ok (.iload_n 3, 1) := by decide +kernel
theorem dX5_empty_62 : decode cX5_empty 62 = .ok (.iconst 2, 1) := by decide +kernel
theorem dX5_empty_63 : decode cX5_empty 63 = .ok (.iadd, 1) := by decide +kernel
theorem dX5_empty_64 : decode cX5_empty 64 = .ok (.iconst 2, 1) := by decide +kernel
theorem dX5_empty_65 : decode cX5_empty 65 = .ok (.iload 7, 2) := by decide +kernel
theorem dX5_empty_67 : decode cX5_empty 67 = .ok (.imul, 1) := by decide +kernel
theorem dX5_empty_68 : decode cX5_empty 68 = .ok (.iadd, 1) := by decide +kernel
theorem dX5_empty_69 : decode cX5_empty 69 = .ok (.laload, 1) := by decide +kernel
theorem dX5_empty_70 : decode cX5_empty 70 = .ok (.invokevirtual 116, 3) := by decide +kernel
theorem dX5_empty_73 : decode cX5_empty 73 = .ok (.ifCond .ne 5, 3) := by decide +kernel
theorem dX5_empty_76 : decode cX5_empty 76 = .ok (.iconst 0, 1) := by decide +kernel
theorem dX5_empty_77 : decode cX5_empty 77 = .ok (.ireturn, 1) := by decide +kernel
theorem dX5_empty_78 : decode cX5_empty 78 = .ok (.iinc 7 1, 3) := by decide +kernel
theorem dX5_empty_81 : decode cX5_empty 81 = .ok (.goto (-46), 3) := by decide +kernel
theorem dX5_empty_84 : decode cX5_empty 84 = .ok (.ldc2_w 119, 3) := by decide +kernel
theorem dX5_empty_87 : decode cX5_empty 87 = .ok (.aload_n 0, 1) := by decide +kernel
theorem dX5_empty_88 : decode cX5_empty 88 = .ok (.getfield 13, 3) := by decide +kernel
theorem dX5_empty_91 : decode cX5_empty 91 = .ok (.iload_n 3, 1) := by decide +kernel
theorem dX5_empty_92 : decode cX5_empty 92 = .ok (.iconst 1, 1) := by decide +kernel
theorem dX5_empty_93 : decode cX5_empty 93 = .ok (.iadd, 1) := by decide +kernel
theorem dX5_empty_94 : decode cX5_empty 94 = .ok (.iconst 2, 1) := by decide +kernel
theorem dX5_empty_95 : decode cX5_empty 95 = .ok (.iload 6, 2) := by decide +kernel
theorem dX5_empty_97 : decode cX5_empty 97 = .ok (.imul, 1) := by decide +kernel
theorem dX5_empty_98 : decode cX5_empty 98 = .ok (.iadd, 1) := by decide +kernel
theorem dX5_empty_99 : decode cX5_empty 99 = .ok (.laload, 1) := by decide +kernel
theorem dX5_empty_100 : decode cX5_empty 100 = .ok (.lsub, 1) := by decide +kernel
theorem dX5_empty_101 : decode cX5_empty 101 = .ok (.lstore 4, 2) := by decide +kernel
theorem dX5_empty_103 : decode cX5_empty 103 = .ok (.iload_n 3, 1) := by decide +kernel
theorem dX5_empty_104 : decode cX5_empty 104 = .ok (.iconst 2, 1) := by decide +kernel
theorem dX5_empty_105 : decode cX5_empty 105 = .ok (.iconst 2, 1) := by decide +kernel
theorem dX5_empty_106 : decode cX5_empty 106 = .ok (.iload 6, 2) := by decide +kernel
theorem dX5_empty_108 : decode cX5_empty 108 = .ok (.imul, 1) := by decide +kernel
theorem dX5_empty_109 : decode cX5_empty 109 = .ok (.iadd, 1) := by decide +kernel
theorem dX5_empty_110 : decode cX5_empty 110 = .ok (.iadd, 1) := by decide +kernel
theorem dX5_empty_111 : decode cX5_empty 111 = .ok (.istore_n 3, 1) := by decide +kernel
theorem dX5_empty_112 : decode cX5_empty 112 = .ok (.goto (-101), 3) := by decide +kernel
theorem dX5_empty_115 : decode cX5_empty 115 = .ok (.aload_n 0, 1) := by decide +kernel
theorem dX5_empty_116 : decode cX5_empty 116 = .ok (.iconst 2, 1) := by decide +kernel
theorem dX5_empty_117 : decode cX5_empty 117 = .ok (.lload 4, 2) := by decide +kernel
theorem dX5_empty_119 : decode cX5_empty 119 = .ok (.invokevirtual 116, 3) := by decide +kernel
theorem dX5_empty_122 : decode cX5_empty 122 = .ok (.ifCond .ne 5, 3) := by decide +kernel
theorem dX5_empty_125 : decode cX5_empty 125 = .ok (.iconst 0, 1) := by decide +kernel
theorem dX5_empty_126 : decode cX5_empty 126 = .ok (.ireturn, 1) := by decide +kernel
theorem dX5_empty_127 : decode cX5_empty 127 = .ok (.aload_n 0, 1) := by decide +kernel
theorem dX5_empty_128 : decode cX5_empty 128 = .ok (.invokevirtual 121, 3) := by decide +kernel
theorem dX5_empty_131 : decode cX5_empty 131 = .ok (.istore 6, 2) := by decide +kernel
theorem dX5_empty_133 : decode cX5_empty 133 = .ok (.bipush 16, 2) := by decide +kernel
theorem dX5_empty_135 : decode cX5_empty 135 = .ok (.istore 7, 2) := by decide +kernel
theorem dX5_empty_137 : decode cX5_empty 137 = .ok (.iload 7, 2) := by decide +kernel
theorem dX5_empty_139 : decode cX5_empty 139 = .ok (.bipush 16, 2) := by decide +kernel
theorem dX5_empty_141 : decode cX5_empty 141 = .ok (.iload_n 2, 1) := by decide +kernel
theorem dX5_empty_142 : decode cX5_empty 142 = .ok (.iadd, 1) := by decide +kernel
theorem dX5_empty_143 : decode cX5_empty 143 = .ok (.if_icmp .ge 21, 3) := by decide +kernel
theorem dX5_empty_146 : decode cX5_empty 146 = .ok (.aload_n 0, 1) := by decide +kernel
theorem dX5_empty_147 : decode cX5_empty 147 = .ok (.iload 7, 2) := by decide +kernel
theorem dX5_empty_149 : decode cX5_empty 149 = .ok (.lconst 0, 1) := by decide +kernel
theorem dX5_empty_150 : decode cX5_empty 150 = .ok (.invokevirtual 116, 3) := by decide +kernel
theorem dX5_empty_153 : decode cX5_empty 153 = .ok (.ifCond .ne 5, 3) := by decide +kernel
theorem dX5_empty_156 : decode cX5_empty 156 = .ok (.iconst 0, 1) := by decide +kernel
theorem dX5_empty_157 : decode cX5_empty 157 = .ok (.ireturn, 1) := by decide +kernel
theorem dX5_empty_158 : decode cX5_empty 158 = .ok (.iinc 7 1, 3) := by decide +kernel
theorem dX5_empty_161 : decode cX5_empty 161 = .ok (.goto (-24), 3) := by decide +kernel
theorem dX5_empty_164 : decode cX5_empty 164 = .ok (.aload_n 0, 1) := by decide +kernel
theorem dX5_empty_165 : decode cX5_empty 165 = .ok (.iconst 0, 1) := by decide +kernel
theorem dX5_empty_166 : decode cX5_empty 166 = .ok (.aload_n 0, 1) := by decide +kernel
theorem dX5_empty_167 : decode cX5_empty 167 = .ok (.getfield 13, 3) := by decide +kernel
theorem dX5_empty_170 : decode cX5_empty 170 = .ok (.iconst 0, 1) := by decide +kernel
theorem dX5_empty_171 : decode cX5_empty 171 = .ok (.laload, 1) := by decide +kernel
theorem dX5_empty_172 : decode cX5_empty 172 = .ok (.lconst 1, 1) := by decide +kernel
theorem dX5_empty_173 : decode cX5_empty 173 = .ok (.ladd, 1) := by decide +kernel
theorem dX5_empty_174 : decode cX5_empty 174 = .ok (.invokevirtual 116, 3) := by decide +kernel
theorem dX5_empty_177 : decode cX5_empty 177 = .ok (.ifCond .ne 5, 3) := by decide +kernel
theorem dX5_empty_180 : decode cX5_empty 180 = .ok (.iconst 0, 1) := by decide +kernel
theorem dX5_empty_181 : decode cX5_empty 181 = .ok (.ireturn, 1) := by decide +kernel
theorem dX5_empty_182 : decode cX5_empty 182 = .ok (.aload_n 0, 1) := by decide +kernel
theorem dX5_empty_183 : decode cX5_empty 183 = .ok (.invokevirtual 121, 3) := by decide +kernel
theorem dX5_empty_186 : decode cX5_empty 186 = .ok (.istore 6, 2) := by decide +kernel
theorem dX5_empty_188 : decode cX5_empty 188 = .ok (.aload_n 0, 1) := by decide +kernel
theorem dX5_empty_189 : decode cX5_empty 189 = .ok (.iconst 0, 1) := by decide +kernel
theorem dX5_empty_190 : decode cX5_empty 190 = .ok (.putfield 125, 3) := by decide +kernel
theorem dX5_empty_193 : decode cX5_empty 193 = .ok (.aload_n 0, 1) := by decide +kernel
theorem dX5_empty_194 : decode cX5_empty 194 = .ok (.iconst 0, 1) := by decide +kernel
theorem dX5_empty_195 : decode cX5_empty 195 = .ok (.putfield 128, 3) := by decide +kernel
theorem dX5_empty_198 : decode cX5_empty 198 = .ok (.iconst 1, 1) := by decide +kernel
theorem dX5_empty_199 : decode cX5_empty 199 = .ok (.ireturn, 1) := by decide +kernel
theorem dX5_commit_0 : decode cX5_commit 0 = .ok (.aload_n 0, 1) := by decide +kernel
theorem dX5_commit_1 : decode cX5_commit 1 = .ok (.aload_n 0, 1) := by decide +kernel
theorem dX5_commit_2 : decode cX5_commit 2 = .ok (.invokevirtual 104, 3) := by decide +kernel
theorem dX5_commit_5 : decode cX5_commit 5 = .ok (.ifCond .eq 7, 3) := by decide +kernel
theorem dX5_commit_8 : decode cX5_commit 8 = .ok (.iconst 1, 1) := by decide +kernel
theorem dX5_commit_9 : decode cX5_commit 9 = .ok (.goto 4, 3) := by decide +kernel
theorem dX5_commit_12 : decode cX5_commit 12 = .ok (.iconst 0, 1) := by decide +kernel
theorem dX5_commit_13 : decode cX5_commit 13 = .ok (.putfield 37, 3) := by decide +kernel
theorem dX5_commit_16 : decode cX5_commit 16 = .ok (.aload_n 0, 1) := by decide +kernel
theorem dX5_commit_17 : decode cX5_commit 17 = .ok (.getfield 37, 3) := by decide +kernel
theorem dX5_commit_20 : decode cX5_commit 20 = .ok (.ifCond .le 5, 3) := by decide +kernel
theorem dX5_commit_23 : decode cX5_commit 23 = .ok (.iconst 0, 1) := by decide +kernel
theorem dX5_commit_24 : decode cX5_commit 24 = .ok (.ireturn, 1) := by decide +kernel
theorem dX5_commit_25 : decode cX5_commit 25 = .ok (.aload_n 0, 1) := by decide +kernel
theorem dX5_commit_26 : decode cX5_commit 26 = .ok (.getfield 75, 3) := by decide +kernel
theorem dX5_commit_29 : decode cX5_commit 29 = .ok (.istore_n 2, 1) := by decide +kernel
theorem dX5_commit_30 : decode cX5_commit 30 = .ok (.iload_n 2, 1) := by decide +kernel
theorem dX5_commit_31 : decode cX5_commit 31 = .ok (.ifCond .ne 13, 3) := by decide +kernel
theorem dX5_commit_34 : decode cX5_commit 34 = .ok (.aload_n 0, 1) := by decide +kernel
theorem dX5_commit_35 : decode cX5_commit 35 = .ok (.invokevirtual 57, 3) := by decide +kernel
theorem dX5_commit_38 : decode cX5_commit 38 = .ok (.aload_n 0, 1) := by decide +kernel
theorem dX5_commit_39 : decode cX5_commit 39 = .ok (.getfield 100, 3) := by decide +kernel
theorem dX5_commit_42 : decode cX5_commit 42 = .ok (.l2i, 1) := by decide +kernel
theorem dX5_commit_43 : decode cX5_commit 43 = .ok (.ireturn, 1) := by decide +kernel
theorem dX5_commit_44 : decode cX5_commit 44 = .ok (.iconst 2, 1) := by decide +kernel
theorem dX5_commit_45 : decode cX5_commit 45 = .ok (.iconst 2, 1) := by decide +kernel
theorem dX5_commit_46 : decode cX5_commit 46 = .ok (.iload_n 2, 1) := by decide +kernel
theorem dX5_commit_47 : decode cX5_commit 47 = .ok (.imul, 1) := by decide +kernel
theorem dX5_commit_48 : decode cX5_commit 48 = .ok (.iadd, 1) := by decide +kernel
theorem dX5_commit_49 : decode cX5_commit 49 = .ok (.istore_n 3, 1) := by decide +kernel
theorem dX5_commit_50 : decode cX5_commit 50 = .ok (.sipush 160, 3) := by decide +kernel
theorem dX5_commit_53 : decode cX5_commit 53 = .ok (.aload_n 0, 1) := by decide +kernel
theorem dX5_commit_54 : decode cX5_commit 54 = .ok (.getfield 125, 3) := by decide +kernel
theorem dX5_commit_57 : decode cX5_commit 57 = .ok (.isub, 1) := by decide +kernel
theorem dX5_commit_58 : decode cX5_commit 58 = .ok (.iload_n 3, 1) := by decide +kernel
theorem dX5_commit_59 : decode cX5_commit 59 = .ok (.if_icmp .ge 28, 3) := by decide +kernel
theorem dX5_commit_62 : decode cX5_commit 62 = .ok (.aload_n 0, 1) := by decide +kernel
theorem dX5_commit_63 : decode cX5_commit 63 = .ok (.getfield 125, 3) := by decide +kernel
theorem dX5_commit_66 : decode cX5_commit 66 = .ok (.ifCond .le 21, 3) := by decide +kernel
theorem dX5_commit_69 : decode cX5_commit 69 = .ok (.aload_n 0, 1) := by decide +kernel
theorem dX5_commit_70 : decode cX5_commit 70 = .ok (.aload_n 0, 1) := by decide +kernel
theorem dX5_commit_71 : decode cX5_commit 71 = .ok (.getfield 125, 3) := by decide +kernel
theorem dX5_commit_74 : decode cX5_commit 74 = .ok (.aload_n 0, 1) := by decide +kernel
theorem dX5_commit_75 : decode cX5_commit 75 = .ok (.getfield 125, 3) := by decide +kernel
theorem dX5_commit_78 : decode cX5_commit 78 = .ok (.invokevirtual 131, 3) := by decide +kernel
theorem dX5_commit_81 : decode cX5_commit 81 = .ok (.ifCond .ne 6, 3) := by decide +kernel
theorem dX5_commit_84 : decode cX5_commit 84 = .ok (.bipush (-2), 2) := by decide +kernel
theorem dX5_commit_86 : decode cX5_commit 86 = .ok (.ireturn, 1) := by decide +kernel
theorem dX5_commit_87 : decode cX5_commit 87 = .ok (.sipush 160, 3) := by decide +kernel
theorem dX5_commit_90 : decode cX5_commit 90 = .ok (.aload_n 0, 1) := by decide +kernel
theorem dX5_commit_91 : decode cX5_commit 91 = .ok (.getfield 125, 3) := by decide +kernel
theorem dX5_commit_94 : decode cX5_commit 94 = .ok (.isub, 1) := by decide +kernel
theorem dX5_commit_95 : decode cX5_commit 95 = .ok (.iload_n 3, 1) := by decide +kernel
theorem dX5_commit_96 : decode cX5_commit 96 = .ok (.if_icmp .ge 5, 3) := by decide +kernel
theorem dX5_commit_99 : decode cX5_commit 99 = .ok (.iconst (-1), 1) := by decide +kernel
theorem dX5_commit_100 : decode cX5_commit 100 = .ok (.ireturn, 1) := by decide +kernel
theorem dX5_commit_101 : decode cX5_commit 101 = .ok (.bipush 16, 2) := by decide +kernel
theorem dX5_commit_103 : decode cX5_commit 103 = .ok (.aload_n 0, 1) := by decide +kernel
theorem dX5_commit_104 : decode cX5_commit 104 = .ok (.getfield 125, 3) := by decide +kernel
theorem dX5_commit_107 : decode cX5_commit 107 = .ok (.iadd, 1) := by decide +kernel
theorem dX5_commit_108 : decode cX5_commit 108 = .ok (.istore 4, 2) := by decide +kernel
theorem dX5_commit_110 : decode cX5_commit 110 = .ok (.aload_n 0, 1) := by decide +kernel
theorem dX5_commit_111 : decode cX5_commit 111 = .ok (.iload 4, 2) := by decide +kernel
theorem dX5_commit_113 : decode cX5_commit 113 = .ok (.ldc2_w 135, 3) := by decide +kernel
theorem dX5_commit_116 : decode cX5_commit 116 = .ok (.aload_n 0, 1) := by decide +kernel
theorem dX5_commit_117 : decode cX5_commit 117 = .ok (.getfield 13, 3) := by decide +kernel
theorem dX5_commit_120 : decode cX5_commit 120 = .ok (.iconst 0, 1) := by decide +kernel
theorem dX5_commit_121 : decode cX5_commit 121 = .ok (.laload, 1) := by decide +kernel
theorem dX5_commit_122 : decode cX5_commit 122 = .ok (.lmul, 1) := by decide +kernel
theorem dX5_commit_123 : decode cX5_commit 123 = .ok (.iload_n 2, 1) := by decide +kernel
theorem dX5_commit_124 : decode cX5_commit 124 = .ok (.i2l, 1) := by decide +kernel
theorem dX5_commit_125 : decode cX5_commit 125 = .ok (.ladd, 1) := by decide +kernel
theorem dX5_commit_126 : decode cX5_commit 126 = .ok (.invokevirtual 116, 3) := by decide +kernel
theorem dX5_commit_129 : decode cX5_commit 129 = .ok (.ifCond .ne 6, 3) := by decide +kernel
theorem dX5_commit_132 : decode cX5_commit 132 = .ok (.bipush (-2), 2) := by decide +kernel
theorem dX5_commit_134 : decode cX5_commit 134 = .ok (.ireturn, 1) := by decide +kernel
theorem dX5_commit_135 : decode cX5_commit 135 = .ok (.iinc 4 1, 3) := by decide +kernel
theorem dX5_commit_138 : decode cX5_commit 138 = .ok (.iconst 0, 1) := by decide +kernel
theorem dX5_commit_139 : decode cX5_commit 139 = .ok (.istore 5, 2) := by decide +kernel
theorem dX5_commit_141 : decode cX5_commit 141 = .ok (.iload 5, 2) := by decide +kernel
theorem dX5_commit_143 : decode cX5_commit 143 = .ok (.sipush 1024, 3) := by decide +kernel
theorem dX5_commit_146 : decode cX5_commit 146 = .ok (.if_icmp .ge 55, 3) := by decide +kernel
theorem dX5_commit_149 : decode cX5_commit 149 = .ok (.aload_n 0, 1) := by decide +kernel
theorem dX5_commit_150 : decode cX5_commit 150 = .ok (.getfield 26, 3) := by decide +kernel
theorem dX5_commit_153 : decode cX5_commit 153 = .ok (.iload 5, 2) := by decide +kernel
theorem dX5_commit_155 : decode cX5_commit 155 = .ok (.baload, 1) := by decide +kernel
theorem dX5_commit_156 : decode cX5_commit 156 = .ok (.ifCond .eq 39, 3) := by decide +kernel
theorem dX5_commit_159 : decode cX5_commit 159 = .ok (.aload_n 0, 1) := by decide +kernel
theorem dX5_commit_160 : decode cX5_commit 160 = .ok (.iload 4, 2) := by decide +kernel
theorem dX5_commit_162 : decode cX5_commit 162 = .ok (.iload 5, 2) := by decide +kernel
theorem dX5_commit_164 : decode cX5_commit 164 = .ok (.i2l, 1) := by decide +kernel
theorem dX5_commit_165 : decode cX5_commit 165 = .ok (.invokevirtual 116, 3) := by decide +kernel
theorem dX5_commit_168 : decode cX5_commit 168 = .ok (.ifCond .eq 21, 3) := by decide +kernel
theorem dX5_commit_171 : decode cX5_commit 171 = .ok (.aload_n 0, 1) := by decide +kernel
theorem dX5_commit_172 : decode cX5_commit 172 = .ok (.iload 4, 2) := by decide +kernel
theorem dX5_commit_174 : decode cX5_commit 174 = .ok (.iconst 1, 1) := by decide +kernel
theorem dX5_commit_175 : decode cX5_commit 175 = .ok (.iadd, 1) := by decide +kernel
theorem dX5_commit_176 : decode cX5_commit 176 = .ok (.aload_n 0, 1) := by decide +kernel
theorem dX5_commit_177 : decode cX5_commit 177 = .ok (.getfield 30, 3) := by decide +kernel
theorem dX5_commit_180 : decode cX5_commit 180 = .ok (.iload 5, 2) := by decide +kernel
theorem dX5_commit_182 : decode cX5_commit 182 = .ok (.laload, 1) := by decide +kernel
theorem dX5_commit_183 : decode cX5_commit 183 = .ok (.invokevirtual 116, 3) := by decide +kernel
theorem dX5_commit_186 : decode cX5_commit 186 = .ok (.ifCond .ne 6, 3) := by decide +kernel
theorem dX5_commit_189 : decode cX5_commit 189 = .ok (.bipush (-2), 2) := by decide +kernel
theorem dX5_commit_191 : decode cX5_commit 191 = .ok (.ireturn, 1) := by decide +kernel
theorem dX5_commit_192 : decode cX5_commit 192 = .ok (.iinc 4 2, 3) := by decide +kernel
theorem dX5_commit_195 : decode cX5_commit 195 = .ok (.iinc 5 1, 3) := by decide +kernel
theorem dX5_commit_198 : decode cX5_commit 198 = .ok (.goto (-57), 3) := by decide +kernel
theorem dX5_commit_201 : decode cX5_commit 201 = .ok (.aload_n 0, 1) := by decide +kernel
theorem dX5_commit_202 : decode cX5_commit 202 = .ok (.iload 4, 2) := by decide +kernel
theorem dX5_commit_204 : decode cX5_commit 204 = .ok (.ldc2_w 137, 3) := by decide +kernel
theorem dX5_commit_207 : decode cX5_commit 207 = .ok (.aload_n 0, 1) := by decide +kernel
theorem dX5_commit_208 : decode cX5_commit 208 = .ok (.getfield 100, 3) := by decide +kernel
theorem dX5_commit_211 : decode cX5_commit 211 = .ok (.lsub, 1) := by decide +kernel
theorem dX5_commit_212 : decode cX5_commit 212 = .ok (.invokevirtual 116, 3) := by decide +kernel
theorem dX5_commit_215 : decode cX5_commit 215 = .ok (.ifCond .ne 6, 3) := by decide +kernel
theorem dX5_commit_218 : decode cX5_commit 218 = .ok (.bipush (-2), 2) := by decide +kernel
theorem dX5_commit_220 : decode cX5_commit 220 = .ok (.ireturn, 1) := by decide +kernel
theorem dX5_commit_221 : decode cX5_commit 221 = .ok (.iload_n 1, 1) := by decide +kernel
theorem dX5_commit_222 : decode cX5_commit 222 = .ok (.ifCond .eq 9, 3) := by decide +kernel
theorem dX5_commit_225 : decode cX5_commit 225 = .ok (.aload_n 0, 1) := by decide +kernel
theorem dX5_commit_226 : decode cX5_commit 226 = .ok (.invokevirtual 121, 3) := by decide +kernel
theorem dX5_commit_229 : decode cX5_commit 229 = .ok (.istore 5, 2) := by decide +kernel
theorem dX5_commit_231 : decode cX5_commit 231 = .ok (.iconst 0, 1) := by decide +kernel
theorem dX5_commit_232 : decode cX5_commit 232 = .ok (.istore 5, 2) := by decide +kernel
theorem dX5_commit_234 : decode cX5_commit 234 = .ok (.iload 5, 2) := by decide +kernel
theorem dX5_commit_236 : decode cX5_commit 236 = .ok (.sipush 1024, 3) := by decide +kernel
theorem dX5_commit_239 : decode cX5_commit 239 = .ok (.if_icmp .ge 43, 3) := by decide +kernel
theorem dX5_commit_242 : decode cX5_commit 242 = .ok (.aload_n 0, 1) := by decide +kernel
theorem dX5_commit_243 : decode cX5_commit 243 = .ok (.getfield 23, 3) := by decide +kernel
theorem dX5_commit_246 : decode cX5_commit 246 = .ok (.iload 5, 2) := by decide +kernel
theorem dX5_commit_248 : decode cX5_commit 248 = .ok (.aload_n 0, 1) := by decide +kernel
theorem dX5_commit_249 : decode cX5_commit 249 = .ok (.getfield 26, 3) := by decide +kernel
theorem dX5_commit_252 : decode cX5_commit 252 = .ok (.iload 5, 2) := by decide +kernel
theorem dX5_commit_254 : decode cX5_commit 254 = .ok (.baload, 1) := by decide +kernel
theorem dX5_commit_255 : decode cX5_commit 255 = .ok (.ifCond .eq 13, 3) := by decide +kernel
theorem dX5_commit_258 : decode cX5_commit 258 = .ok (.aload_n 0, 1) := by decide +kernel
theorem dX5_commit_259 : decode cX5_commit 259 = .ok (.getfield 30, 3) := by decide +kernel
theorem dX5_commit_262 : decode cX5_commit 262 = .ok (.iload 5, 2) := by decide +kernel
theorem dX5_commit_264 : decode cX5_commit 264 = .ok (.laload, 1) := by decide +kernel
theorem dX5_commit_265 : decode cX5_commit 265 = .ok (.goto 10, 3) := by decide +kernel
theorem dX5_commit_268 : decode cX5_commit 268 = .ok (.aload_n 0, 1) := by decide +kernel
theorem dX5_commit_269 : decode cX5_commit 269 = .ok (.getfield 23, 3) := by decide +kernel
theorem dX5_commit_272 : decode cX5_commit 272 = .ok (.iload 5, 2) := by decide +kernel
theorem dX5_commit_274 : decode cX5_commit 274 = .ok (.laload, 1) := by decide +kernel
theorem dX5_commit_275 : decode cX5_commit 275 = .ok (.lastore, 1) := by decide +kernel
theorem dX5_commit_276 : decode cX5_commit 276 = .ok (.iinc 5 1, 3) := by decide +kernel
theorem dX5_commit_279 : decode cX5_commit 279 = .ok (.goto (-45), 3) := by decide +kernel
theorem dX5_commit_282 : decode cX5_commit 282 = .ok (.aload_n 0, 1) := by decide +kernel
theorem dX5_commit_283 : decode cX5_commit 283 = .ok (.dup, 1) := by decide +kernel
theorem dX5_commit_284 : decode cX5_commit 284 = .ok (.getfield 125, 3) := by decide +kernel
theorem dX5_commit_287 : decode cX5_commit 287 = .ok (.iload_n 3, 1) := by decide +kernel
theorem dX5_commit_288 : decode cX5_commit 288 = .ok (.iadd, 1) := by decide +kernel
theorem dX5_commit_289 : decode cX5_commit 289 = .ok (.putfield 125, 3) := by decide +kernel
theorem dX5_commit_292 : decode cX5_commit 292 = .ok (.aload_n 0, 1) := by decide +kernel
theorem dX5_commit_293 : decode cX5_commit 293 = .ok (.dup, 1) := by decide +kernel
theorem dX5_commit_294 : decode cX5_commit 294 = .ok (.getfield 128, 3) := by decide +kernel
theorem dX5_commit_297 : decode cX5_commit 297 = .ok (.iconst 1, 1) := by decide +kernel
theorem dX5_commit_298 : decode cX5_commit 298 = .ok (.iadd, 1) := by decide +kernel
theorem dX5_commit_299 : decode cX5_commit 299 = .ok (.putfield 128, 3) := by decide +kernel
theorem dX5_commit_302 : decode cX5_commit 302 = .ok (.aload_n 0, 1) := by decide +kernel
theorem dX5_commit_303 : decode cX5_commit 303 = .ok (.dup, 1) := by decide +kernel
theorem dX5_commit_304 : decode cX5_commit 304 = .ok (.getfield 100, 3) := by decide +kernel
theorem dX5_commit_307 : decode cX5_commit 307 = .ok (.lconst 1, 1) := by decide +kernel
theorem dX5_commit_308 : decode cX5_commit 308 = .ok (.ladd, 1) := by decide +kernel
theorem dX5_commit_309 : decode cX5_commit 309 = .ok (.putfield 100, 3) := by decide +kernel
theorem dX5_commit_312 : decode cX5_commit 312 = .ok (.aload_n 0, 1) := by decide +kernel
theorem dX5_commit_313 : decode cX5_commit 313 = .ok (.invokevirtual 57, 3) := by decide +kernel
theorem dX5_commit_316 : decode cX5_commit 316 = .ok (.aload_n 0, 1) := by decide +kernel
theorem dX5_commit_317 : decode cX5_commit 317 = .ok (.getfield 100, 3) := by decide +kernel
theorem dX5_commit_320 : decode cX5_commit 320 = .ok (.l2i, 1) := by decide +kernel
theorem dX5_commit_321 : decode cX5_commit 321 = .ok (.ireturn, 1) := by decide +kernel
theorem dX5_sync_0 : decode cX5_sync 0 = .ok (.aload_n 0, 1) := by decide +kernel
theorem dX5_sync_1 : decode cX5_sync 1 = .ok (.aload_n 0, 1) := by decide +kernel
theorem dX5_sync_2 : decode cX5_sync 2 = .ok (.getfield 33, 3) := by decide +kernel
theorem dX5_sync_5 : decode cX5_sync 5 = .ok (.ifCond .eq 7, 3) := by decide +kernel
theorem dX5_sync_8 : decode cX5_sync 8 = .ok (.iconst 0, 1) := by decide +kernel
theorem dX5_sync_9 : decode cX5_sync 9 = .ok (.goto 4, 3) := by decide +kernel
theorem dX5_sync_12 : decode cX5_sync 12 = .ok (.iconst 1, 1) := by decide +kernel
theorem dX5_sync_13 : decode cX5_sync 13 = .ok (.putfield 37, 3) := by decide +kernel
theorem dX5_sync_16 : decode cX5_sync 16 = .ok (.aload_n 0, 1) := by decide +kernel
theorem dX5_sync_17 : decode cX5_sync 17 = .ok (.getfield 37, 3) := by decide +kernel
theorem dX5_sync_20 : decode cX5_sync 20 = .ok (.ifCond .le 7, 3) := by decide +kernel
theorem dX5_sync_23 : decode cX5_sync 23 = .ok (.iconst 0, 1) := by decide +kernel
theorem dX5_sync_24 : decode cX5_sync 24 = .ok (.goto 7, 3) := by decide +kernel
theorem dX5_sync_27 : decode cX5_sync 27 = .ok (.aload_n 0, 1) := by decide +kernel
theorem dX5_sync_28 : decode cX5_sync 28 = .ok (.invokevirtual 121, 3) := by decide +kernel
theorem dX5_sync_31 : decode cX5_sync 31 = .ok (.ireturn, 1) := by decide +kernel
theorem dX5_abort_0 : decode cX5_abort 0 = .ok (.aload_n 0, 1) := by decide +kernel
theorem dX5_abort_1 : decode cX5_abort 1 = .ok (.aload_n 0, 1) := by decide +kernel
theorem dX5_abort_2 : decode cX5_abort 2 = .ok (.invokevirtual 104, 3) := by decide +kernel
theorem dX5_abort_5 : decode cX5_abort 5 = .ok (.ifCond .eq 7, 3) := by decide +kernel
theorem dX5_abort_8 : decode cX5_abort 8 = .ok (.iconst 1, 1) := by decide +kernel
theorem dX5_abort_9 : decode cX5_abort 9 = .ok (.goto 4, 3) := by decide +kernel
theorem dX5_abort_12 : decode cX5_abort 12 = .ok (.iconst 0, 1) := by decide +kernel
theorem dX5_abort_13 : decode cX5_abort 13 = .ok (.putfield 37, 3) := by decide +kernel
theorem dX5_abort_16 : decode cX5_abort 16 = .ok (.aload_n 0, 1) := by decide +kernel
theorem dX5_abort_17 : decode cX5_abort 17 = .ok (.getfield 37, 3) := by decide +kernel
theorem dX5_abort_20 : decode cX5_abort 20 = .ok (.ifCond .le 5, 3) := by decide +kernel
theorem dX5_abort_23 : decode cX5_abort 23 = .ok (.iconst 0, 1) := by decide +kernel
theorem dX5_abort_24 : decode cX5_abort 24 = .ok (.ireturn, 1) := by decide +kernel
theorem dX5_abort_25 : decode cX5_abort 25 = .ok (.aload_n 0, 1) := by decide +kernel
theorem dX5_abort_26 : decode cX5_abort 26 = .ok (.getfield 75, 3) := by decide +kernel
theorem dX5_abort_29 : decode cX5_abort 29 = .ok (.istore_n 1, 1) := by decide +kernel
theorem dX5_abort_30 : decode cX5_abort 30 = .ok (.aload_n 0, 1) := by decide +kernel
theorem dX5_abort_31 : decode cX5_abort 31 = .ok (.invokevirtual 57, 3) := by decide +kernel
theorem dX5_abort_34 : decode cX5_abort 34 = .ok (.iload_n 1, 1) := by decide +kernel
theorem dX5_abort_35 : decode cX5_abort 35 = .ok (.ireturn, 1) := by decide +kernel
theorem dX5_checkpoint_0 : decode cX5_checkpoint 0 = .ok (.aload_n 0, 1) := by decide +kernel
theorem dX5_checkpoint_1 : decode cX5_checkpoint 1 = .ok (.aload_n 0, 1) := by decide +kernel
theorem dX5_checkpoint_2 : decode cX5_checkpoint 2 = .ok (.getfield 33, 3) := by decide +kernel
theorem dX5_checkpoint_5 : decode cX5_checkpoint 5 = .ok (.ifCond .eq 10, 3) := by decide +kernel
theorem dX5_checkpoint_8 : decode cX5_checkpoint 8 = .ok (.aload_n 0, 1) := by decide +kernel
theorem dX5_checkpoint_9 : decode cX5_checkpoint 9 = .ok (.getfield 72, 3) := by decide +kernel
theorem dX5_checkpoint_12 : decode cX5_checkpoint 12 = .ok (.ifCond .eq 7, 3) := by decide +kernel
theorem dX5_checkpoint_15 : decode cX5_checkpoint 15 = .ok (.iconst 1, 1) := by decide +kernel
theorem dX5_checkpoint_16 : decode cX5_checkpoint 16 = .ok (.goto 4, 3) := by decide +kernel
theorem dX5_checkpoint_19 : decode cX5_checkpoint 19 = .ok (.iconst 0, 1) := by decide +kernel
theorem dX5_checkpoint_20 : decode cX5_checkpoint 20 = .ok (.putfield 37, 3) := by decide +kernel
theorem dX5_checkpoint_23 : decode cX5_checkpoint 23 = .ok (.aload_n 0, 1) := by decide +kernel
theorem dX5_checkpoint_24 : decode cX5_checkpoint 24 = .ok (.getfield 37, 3) := by decide +kernel
theorem dX5_checkpoint_27 : decode cX5_checkpoint 27 = .ok (.ifCond .le 5, 3) := by decide +kernel
theorem dX5_checkpoint_30 : decode cX5_checkpoint 30 = .ok (.iconst 0, 1) := by decide +kernel
theorem dX5_checkpoint_31 : decode cX5_checkpoint 31 = .ok (.ireturn, 1) := by decide +kernel
theorem dX5_checkpoint_32 : decode cX5_checkpoint 32 = .ok (.aload_n 0, 1) := by decide +kernel
theorem dX5_checkpoint_33 : decode cX5_checkpoint 33 = .ok (.getfield 128, 3) := by decide +kernel
theorem dX5_checkpoint_36 : decode cX5_checkpoint 36 = .ok (.istore_n 1, 1) := by decide +kernel
theorem dX5_checkpoint_37 : decode cX5_checkpoint 37 = .ok (.iload_n 1, 1) := by decide +kernel
theorem dX5_checkpoint_38 : decode cX5_checkpoint 38 = .ok (.ifCond .eq 18, 3) := by decide +kernel
theorem dX5_checkpoint_41 : decode cX5_checkpoint 41 = .ok (.aload_n 0, 1) := by decide +kernel
theorem dX5_checkpoint_42 : decode cX5_checkpoint 42 = .ok (.aload_n 0, 1) := by decide +kernel
theorem dX5_checkpoint_43 : decode cX5_checkpoint 43 = .ok (.getfield 125, 3) := by decide +kernel
theorem dX5_checkpoint_46 : decode cX5_checkpoint 46 = .ok (.aload_n 0, 1) := by decide +kernel
theorem dX5_checkpoint_47 : decode cX5_checkpoint 47 = .ok (.getfield 125, 3) := by decide +kernel
theorem dX5_checkpoint_50 : decode cX5_checkpoint 50 = .ok (.invokevirtual 131, 3) := by decide +kernel
theorem dX5_checkpoint_53 : decode cX5_checkpoint 53 = .ok (.ifCond .eq 7, 3) := by decide +kernel
theorem dX5_checkpoint_56 : decode cX5_checkpoint 56 = .ok (.iload_n 1, 1) := by decide +kernel
theorem dX5_checkpoint_57 : decode cX5_checkpoint 57 = .ok (.goto 5, 3) := by decide +kernel
theorem dX5_checkpoint_60 : decode cX5_checkpoint 60 = .ok (.bipush (-2), 2) := by decide +kernel
theorem dX5_checkpoint_62 : decode cX5_checkpoint 62 = .ok (.ireturn, 1) := by decide +kernel
theorem dX5_power_0 : decode cX5_power 0 = .ok (.aload_n 0, 1) := by decide +kernel
theorem dX5_power_1 : decode cX5_power 1 = .ok (.iload_n 1, 1) := by decide +kernel
theorem dX5_power_2 : decode cX5_power 2 = .ok (.ifCond .lt 21, 3) := by decide +kernel
theorem dX5_power_5 : decode cX5_power 5 = .ok (.iload_n 1, 1) := by decide +kernel
theorem dX5_power_6 : decode cX5_power 6 = .ok (.sipush 5000, 3) := by decide +kernel
theorem dX5_power_9 : decode cX5_power 9 = .ok (.if_icmp .gt 14, 3) := by decide +kernel
theorem dX5_power_12 : decode cX5_power 12 = .ok (.iload_n 2, 1) := by decide +kernel
theorem dX5_power_13 : decode cX5_power 13 = .ok (.ifCond .lt 10, 3) := by decide +kernel
theorem dX5_power_16 : decode cX5_power 16 = .ok (.iload_n 2, 1) := by decide +kernel
theorem dX5_power_17 : decode cX5_power 17 = .ok (.sipush 5000, 3) := by decide +kernel
theorem dX5_power_20 : decode cX5_power 20 = .ok (.if_icmp .le 7, 3) := by decide +kernel
theorem dX5_power_23 : decode cX5_power 23 = .ok (.iconst 1, 1) := by decide +kernel
theorem dX5_power_24 : decode cX5_power 24 = .ok (.goto 4, 3) := by decide +kernel
theorem dX5_power_27 : decode cX5_power 27 = .ok (.iconst 0, 1) := by decide +kernel
theorem dX5_power_28 : decode cX5_power 28 = .ok (.putfield 37, 3) := by decide +kernel
theorem dX5_power_31 : decode cX5_power 31 = .ok (.aload_n 0, 1) := by decide +kernel
theorem dX5_power_32 : decode cX5_power 32 = .ok (.getfield 37, 3) := by decide +kernel
theorem dX5_power_35 : decode cX5_power 35 = .ok (.ifCond .le 5, 3) := by decide +kernel
theorem dX5_power_38 : decode cX5_power 38 = .ok (.iconst 0, 1) := by decide +kernel
theorem dX5_power_39 : decode cX5_power 39 = .ok (.ireturn, 1) := by decide +kernel
theorem dX5_power_40 : decode cX5_power 40 = .ok (.aload_n 0, 1) := by decide +kernel
theorem dX5_power_41 : decode cX5_power 41 = .ok (.getfield 51, 3) := by decide +kernel
theorem dX5_power_44 : decode cX5_power 44 = .ok (.istore_n 3, 1) := by decide +kernel
theorem dX5_power_45 : decode cX5_power 45 = .ok (.aload_n 0, 1) := by decide +kernel
theorem dX5_power_46 : decode cX5_power 46 = .ok (.iload_n 1, 1) := by decide +kernel
theorem dX5_power_47 : decode cX5_power 47 = .ok (.putfield 51, 3) := by decide +kernel
theorem dX5_power_50 : decode cX5_power 50 = .ok (.aload_n 0, 1) := by decide +kernel
theorem dX5_power_51 : decode cX5_power 51 = .ok (.iload_n 2, 1) := by decide +kernel
theorem dX5_power_52 : decode cX5_power 52 = .ok (.putfield 63, 3) := by decide +kernel
theorem dX5_power_55 : decode cX5_power 55 = .ok (.iload_n 3, 1) := by decide +kernel
theorem dX5_power_56 : decode cX5_power 56 = .ok (.ireturn, 1) := by decide +kernel
theorem dX5_cut_0 : decode cX5_cut 0 = .ok (.aload_n 0, 1) := by decide +kernel
theorem dX5_cut_1 : decode cX5_cut 1 = .ok (.aload_n 0, 1) := by decide +kernel
theorem dX5_cut_2 : decode cX5_cut 2 = .ok (.getfield 33, 3) := by decide +kernel
theorem dX5_cut_5 : decode cX5_cut 5 = .ok (.ifCond .ne 7, 3) := by decide +kernel
theorem dX5_cut_8 : decode cX5_cut 8 = .ok (.iconst 1, 1) := by decide +kernel
theorem dX5_cut_9 : decode cX5_cut 9 = .ok (.goto 12, 3) := by decide +kernel
theorem dX5_cut_12 : decode cX5_cut 12 = .ok (.iload_n 1, 1) := by decide +kernel
theorem dX5_cut_13 : decode cX5_cut 13 = .ok (.ifCond .ge 7, 3) := by decide +kernel
theorem dX5_cut_16 : decode cX5_cut 16 = .ok (.iconst 2, 1) := by decide +kernel
theorem dX5_cut_17 : decode cX5_cut 17 = .ok (.goto 4, 3) := by decide +kernel
theorem dX5_cut_20 : decode cX5_cut 20 = .ok (.iconst 0, 1) := by decide +kernel
theorem dX5_cut_21 : decode cX5_cut 21 = .ok (.putfield 37, 3) := by decide +kernel
theorem dX5_cut_24 : decode cX5_cut 24 = .ok (.aload_n 0, 1) := by decide +kernel
theorem dX5_cut_25 : decode cX5_cut 25 = .ok (.getfield 37, 3) := by decide +kernel
theorem dX5_cut_28 : decode cX5_cut 28 = .ok (.ifCond .le 5, 3) := by decide +kernel
theorem dX5_cut_31 : decode cX5_cut 31 = .ok (.iconst 0, 1) := by decide +kernel
theorem dX5_cut_32 : decode cX5_cut 32 = .ok (.ireturn, 1) := by decide +kernel
theorem dX5_cut_33 : decode cX5_cut 33 = .ok (.aload_n 0, 1) := by decide +kernel
theorem dX5_cut_34 : decode cX5_cut 34 = .ok (.getfield 41, 3) := by decide +kernel
theorem dX5_cut_37 : decode cX5_cut 37 = .ok (.istore_n 2, 1) := by decide +kernel
theorem dX5_cut_38 : decode cX5_cut 38 = .ok (.aload_n 0, 1) := by decide +kernel
theorem dX5_cut_39 : decode cX5_cut 39 = .ok (.iload_n 1, 1) := by decide +kernel
theorem dX5_cut_40 : decode cX5_cut 40 = .ok (.invokevirtual 66, 3) := by decide +kernel
theorem dX5_cut_43 : decode cX5_cut 43 = .ok (.iload_n 2, 1) := by decide +kernel
theorem dX5_cut_44 : decode cX5_cut 44 = .ok (.ireturn, 1) := by decide +kernel
theorem dX5_find_0 : decode cX5_find 0 = .ok (.bipush 16, 2) := by decide +kernel
theorem dX5_find_2 : decode cX5_find 2 = .ok (.istore_n 1, 1) := by decide +kernel
theorem dX5_find_3 : decode cX5_find 3 = .ok (.aload_n 0, 1) := by decide +kernel
theorem dX5_find_4 : decode cX5_find 4 = .ok (.iconst 0, 1) := by decide +kernel
theorem dX5_find_5 : decode cX5_find 5 = .ok (.putfield 128, 3) := by decide +kernel
theorem dX5_find_8 : decode cX5_find 8 = .ok (.iconst 1, 1) := by decide +kernel
theorem dX5_find_9 : decode cX5_find 9 = .ok (.istore_n 2, 1) := by decide +kernel
theorem dX5_find_10 : decode cX5_find 10 = .ok (.iload_n 2, 1) := by decide +kernel
theorem dX5_find_11 : decode cX5_find 11 = .ok (.ifCond .eq 111, 3) := by decide +kernel
theorem dX5_find_14 : decode cX5_find 14 = .ok (.iload_n 1, 1) := by decide +kernel
theorem dX5_find_15 : decode cX5_find 15 = .ok (.sipush 176, 3) := by decide +kernel
theorem dX5_find_18 : decode cX5_find 18 = .ok (.if_icmp .ge 104, 3) := by decide +kernel
theorem dX5_find_21 : decode cX5_find 21 = .ok (.aload_n 0, 1) := by decide +kernel
theorem dX5_find_22 : decode cX5_find 22 = .ok (.getfield 13, 3) := by decide +kernel
theorem dX5_find_25 : decode cX5_find 25 = .ok (.iload_n 1, 1) := by decide +kernel
theorem dX5_find_26 : decode cX5_find 26 = .ok (.laload, 1) := by decide +kernel
theorem dX5_find_27 : decode cX5_find 27 = .ok (.ldc2_w 135, 3) := by decide +kernel
theorem dX5_find_30 : decode cX5_find 30 = .ok (.aload_n 0, 1) := by decide +kernel
theorem dX5_find_31 : decode cX5_find 31 = .ok (.getfield 13, 3) := by decide +kernel
theorem dX5_find_34 : decode cX5_find 34 = .ok (.iconst 0, 1) := by decide +kernel
theorem dX5_find_35 : decode cX5_find 35 = .ok (.laload, 1) := by decide +kernel
theorem dX5_find_36 : decode cX5_find 36 = .ok (.lmul, 1) := by decide +kernel
theorem dX5_find_37 : decode cX5_find 37 = .ok (.lsub, 1) := by decide +kernel
theorem dX5_find_38 : decode cX5_find 38 = .ok (.lstore_n 3, 1) := by decide +kernel
theorem dX5_find_39 : decode cX5_find 39 = .ok (.lload_n 3, 1) := by decide +kernel
theorem dX5_find_40 : decode cX5_find 40 = .ok (.lconst 1, 1) := by decide +kernel
theorem dX5_find_41 : decode cX5_find 41 = .ok (.lcmp, 1) := by decide +kernel
theorem dX5_find_42 : decode cX5_find 42 = .ok (.ifCond .lt 52, 3) := by decide +kernel
theorem dX5_find_45 : decode cX5_find 45 = .ok (.lload_n 3, 1) := by decide +kernel
theorem dX5_find_46 : decode cX5_find 46 = .ok (.ldc2_w 139, 3) := by decide +kernel
theorem dX5_find_49 : decode cX5_find 49 = .ok (.lcmp, 1) := by decide +kernel
theorem dX5_find_50 : decode cX5_find 50 = .ok (.ifCond .gt 44, 3) := by decide +kernel
theorem dX5_find_53 : decode cX5_find 53 = .ok (.iload_n 1, 1) := by decide +kernel
theorem dX5_find_54 : decode cX5_find 54 = .ok (.i2l, 1) := by decide +kernel
theorem dX5_find_55 : decode cX5_find 55 = .ok (.ldc2_w 82, 3) := by decide +kernel
theorem dX5_find_58 : decode cX5_find 58 = .ok (.ladd, 1) := by decide +kernel
theorem dX5_find_59 : decode cX5_find 59 = .ok (.ldc2_w 82, 3) := by decide +kernel
theorem dX5_find_62 : decode cX5_find 62 = .ok (.lload_n 3, 1) := by decide +kernel
theorem dX5_find_63 : decode cX5_find 63 = .ok (.lmul, 1) := by decide +kernel
theorem dX5_find_64 : decode cX5_find 64 = .ok (.ladd, 1) := by decide +kernel
theorem dX5_find_65 : decode cX5_find 65 = .ok (.ldc2_w 141, 3) := by decide +kernel
theorem dX5_find_68 : decode cX5_find 68 = .ok (.lcmp, 1) := by decide +kernel
theorem dX5_find_69 : decode cX5_find 69 = .ok (.ifCond .gt 25, 3) := by decide +kernel
theorem dX5_find_72 : decode cX5_find 72 = .ok (.aload_n 0, 1) := by decide +kernel
theorem dX5_find_73 : decode cX5_find 73 = .ok (.getfield 13, 3) := by decide +kernel
theorem dX5_find_76 : decode cX5_find 76 = .ok (.iload_n 1, 1) := by decide +kernel
theorem dX5_find_77 : decode cX5_find 77 = .ok (.iconst 1, 1) := by decide +kernel
theorem dX5_find_78 : decode cX5_find 78 = .ok (.iadd, 1) := by decide +kernel
theorem dX5_find_79 : decode cX5_find 79 = .ok (.iconst 2, 1) := by decide +kernel
theorem dX5_find_80 : decode cX5_find 80 = .ok (.lload_n 3, 1) := by decide +kernel
theorem dX5_find_81 : decode cX5_find 81 = .ok (.l2i, 1) := by decide +kernel
theorem dX5_find_82 : decode cX5_find 82 = .ok (.imul, 1) := by decide +kernel
theorem dX5_find_83 : decode cX5_find 83 = .ok (.iadd, 1) := by decide +kernel
theorem dX5_find_84 : decode cX5_find 84 = .ok (.laload, 1) := by decide +kernel
theorem dX5_find_85 : decode cX5_find 85 = .ok (.lconst 0, 1) := by decide +kernel
theorem dX5_find_86 : decode cX5_find 86 = .ok (.lcmp, 1) := by decide +kernel
theorem dX5_find_87 : decode cX5_find 87 = .ok (.ifCond .ge 7, 3) := by decide +kernel
theorem dX5_find_90 : decode cX5_find 90 = .ok (.iconst 1, 1) := by decide +kernel
theorem dX5_find_91 : decode cX5_find 91 = .ok (.goto 4, 3) := by decide +kernel
theorem dX5_find_94 : decode cX5_find 94 = .ok (.iconst 0, 1) := by decide +kernel
theorem dX5_find_95 : decode cX5_find 95 = .ok (.istore_n 2, 1) := by decide +kernel
theorem dX5_find_96 : decode cX5_find 96 = .ok (.iload_n 2, 1) := by decide +kernel
theorem dX5_find_97 : decode cX5_find 97 = .ok (.ifCond .eq 22, 3) := by decide +kernel
theorem dX5_find_100 : decode cX5_find 100 = .ok (.aload_n 0, 1) := by decide +kernel
theorem dX5_find_101 : decode cX5_find 101 = .ok (.dup, 1) := by decide +kernel
theorem dX5_find_102 : decode cX5_find 102 = .ok (.getfield 128, 3) := by decide +kernel
theorem dX5_find_105 : decode cX5_find 105 = .ok (.iconst 1, 1) := by decide +kernel
theorem dX5_find_106 : decode cX5_find 106 = .ok (.iadd, 1) := by decide +kernel
theorem dX5_find_107 : decode cX5_find 107 = .ok (.putfield 128, 3) := by decide +kernel
theorem dX5_find_110 : decode cX5_find 110 = .ok (.iload_n 1, 1) := by decide +kernel
theorem dX5_find_111 : decode cX5_find 111 = .ok (.iconst 2, 1) := by decide +kernel
theorem dX5_find_112 : decode cX5_find 112 = .ok (.iconst 2, 1) := by decide +kernel
theorem dX5_find_113 : decode cX5_find 113 = .ok (.lload_n 3, 1) := by decide +kernel
theorem dX5_find_114 : decode cX5_find 114 = .ok (.l2i, 1) := by decide +kernel
theorem dX5_find_115 : decode cX5_find 115 = .ok (.imul, 1) := by decide +kernel
theorem dX5_find_116 : decode cX5_find 116 = .ok (.iadd, 1) := by decide +kernel
theorem dX5_find_117 : decode cX5_find 117 = .ok (.iadd, 1) := by decide +kernel
theorem dX5_find_118 : decode cX5_find 118 = .ok (.istore_n 1, 1) := by decide +kernel
theorem dX5_find_119 : decode cX5_find 119 = .ok (.goto (-109), 3) := by decide +kernel
theorem dX5_find_122 : decode cX5_find 122 = .ok (.iload_n 1, 1) := by decide +kernel
theorem dX5_find_123 : decode cX5_find 123 = .ok (.bipush 16, 2) := by decide +kernel
theorem dX5_find_125 : decode cX5_find 125 = .ok (.isub, 1) := by decide +kernel
theorem dX5_find_126 : decode cX5_find 126 = .ok (.ireturn, 1) := by decide +kernel
theorem dX5_open_0 : decode cX5_open 0 = .ok (.aload_n 0, 1) := by decide +kernel
theorem dX5_open_1 : decode cX5_open 1 = .ok (.aload_n 0, 1) := by decide +kernel
theorem dX5_open_2 : decode cX5_open 2 = .ok (.getfield 33, 3) := by decide +kernel
theorem dX5_open_5 : decode cX5_open 5 = .ok (.ifCond .eq 7, 3) := by decide +kernel
theorem dX5_open_8 : decode cX5_open 8 = .ok (.iconst 1, 1) := by decide +kernel
theorem dX5_open_9 : decode cX5_open 9 = .ok (.goto 4, 3) := by decide +kernel
theorem dX5_open_12 : decode cX5_open 12 = .ok (.iconst 0, 1) := by decide +kernel
theorem dX5_open_13 : decode cX5_open 13 = .ok (.putfield 37, 3) := by decide +kernel
theorem dX5_open_16 : decode cX5_open 16 = .ok (.aload_n 0, 1) := by decide +kernel
theorem dX5_open_17 : decode cX5_open 17 = .ok (.getfield 37, 3) := by decide +kernel
theorem dX5_open_20 : decode cX5_open 20 = .ok (.ifCond .le 5, 3) := by decide +kernel
theorem dX5_open_23 : decode cX5_open 23 = .ok (.iconst 0, 1) := by decide +kernel
theorem dX5_open_24 : decode cX5_open 24 = .ok (.ireturn, 1) := by decide +kernel
theorem dX5_open_25 : decode cX5_open 25 = .ok (.aload_n 0, 1) := by decide +kernel
theorem dX5_open_26 : decode cX5_open 26 = .ok (.iconst 1, 1) := by decide +kernel
theorem dX5_open_27 : decode cX5_open 27 = .ok (.putfield 33, 3) := by decide +kernel
theorem dX5_open_30 : decode cX5_open 30 = .ok (.aload_n 0, 1) := by decide +kernel
theorem dX5_open_31 : decode cX5_open 31 = .ok (.invokevirtual 57, 3) := by decide +kernel
theorem dX5_open_34 : decode cX5_open 34 = .ok (.aload_n 0, 1) := by decide +kernel
theorem dX5_open_35 : decode cX5_open 35 = .ok (.iconst 0, 1) := by decide +kernel
theorem dX5_open_36 : decode cX5_open 36 = .ok (.putfield 125, 3) := by decide +kernel
theorem dX5_open_39 : decode cX5_open 39 = .ok (.aload_n 0, 1) := by decide +kernel
theorem dX5_open_40 : decode cX5_open 40 = .ok (.iconst 0, 1) := by decide +kernel
theorem dX5_open_41 : decode cX5_open 41 = .ok (.putfield 128, 3) := by decide +kernel
theorem dX5_open_44 : decode cX5_open 44 = .ok (.iconst 0, 1) := by decide +kernel
theorem dX5_open_45 : decode cX5_open 45 = .ok (.istore_n 1, 1) := by decide +kernel
theorem dX5_open_46 : decode cX5_open 46 = .ok (.aload_n 0, 1) := by decide +kernel
theorem dX5_open_47 : decode cX5_open 47 = .ok (.getfield 13, 3) := by decide +kernel
theorem dX5_open_50 : decode cX5_open 50 = .ok (.iconst 0, 1) := by decide +kernel
theorem dX5_open_51 : decode cX5_open 51 = .ok (.laload, 1) := by decide +kernel
theorem dX5_open_52 : decode cX5_open 52 = .ok (.lconst 0, 1) := by decide +kernel
theorem dX5_open_53 : decode cX5_open 53 = .ok (.lcmp, 1) := by decide +kernel
theorem dX5_open_54 : decode cX5_open 54 = .ok (.ifCond .ne 45, 3) := by decide +kernel
theorem dX5_open_57 : decode cX5_open 57 = .ok (.aload_n 0, 1) := by decide +kernel
theorem dX5_open_58 : decode cX5_open 58 = .ok (.sipush 176, 3) := by decide +kernel
theorem dX5_open_61 : decode cX5_open 61 = .ok (.ldc2_w 143, 3) := by decide +kernel
theorem dX5_open_64 : decode cX5_open 64 = .ok (.invokevirtual 116, 3) := by decide +kernel
theorem dX5_open_67 : decode cX5_open 67 = .ok (.ifCond .eq 21, 3) := by decide +kernel
theorem dX5_open_70 : decode cX5_open 70 = .ok (.aload_n 0, 1) := by decide +kernel
theorem dX5_open_71 : decode cX5_open 71 = .ok (.iconst 1, 1) := by decide +kernel
theorem dX5_open_72 : decode cX5_open 72 = .ok (.lconst 0, 1) := by decide +kernel
theorem dX5_open_73 : decode cX5_open 73 = .ok (.invokevirtual 116, 3) := by decide +kernel
theorem dX5_open_76 : decode cX5_open 76 = .ok (.ifCond .eq 12, 3) := by decide +kernel
theorem dX5_open_79 : decode cX5_open 79 = .ok (.aload_n 0, 1) := by decide +kernel
theorem dX5_open_80 : decode cX5_open 80 = .ok (.iconst 0, 1) := by decide +kernel
theorem dX5_open_81 : decode cX5_open 81 = .ok (.lconst 1, 1) := by decide +kernel
theorem dX5_open_82 : decode cX5_open 82 = .ok (.invokevirtual 116, 3) := by decide +kernel
theorem dX5_open_85 : decode cX5_open 85 = .ok (.ifCond .ne 6, 3) := by decide +kernel
theorem dX5_open_88 : decode cX5_open 88 = .ok (.bipush (-2), 2) := by decide +kernel
theorem dX5_open_90 : decode cX5_open 90 = .ok (.ireturn, 1) := by decide +kernel
theorem dX5_open_91 : decode cX5_open 91 = .ok (.aload_n 0, 1) := by decide +kernel
theorem dX5_open_92 : decode cX5_open 92 = .ok (.invokevirtual 121, 3) := by decide +kernel
theorem dX5_open_95 : decode cX5_open 95 = .ok (.istore_n 2, 1) := by decide +kernel
theorem dX5_open_96 : decode cX5_open 96 = .ok (.goto 73, 3) := by decide +kernel
theorem dX5_open_99 : decode cX5_open 99 = .ok (.aload_n 0, 1) := by decide +kernel
theorem dX5_open_100 : decode cX5_open 100 = .ok (.invokevirtual 145, 3) := by decide +kernel
theorem dX5_open_103 : decode cX5_open 103 = .ok (.istore_n 2, 1) := by decide +kernel
theorem dX5_open_104 : decode cX5_open 104 = .ok (.aload_n 0, 1) := by decide +kernel
theorem dX5_open_105 : decode cX5_open 105 = .ok (.getfield 128, 3) := by decide +kernel
theorem dX5_open_108 : decode cX5_open 108 = .ok (.istore_n 1, 1) := by decide +kernel
theorem dX5_open_109 : decode cX5_open 109 = .ok (.iconst 0, 1) := by decide +kernel
theorem dX5_open_110 : decode cX5_open 110 = .ok (.istore_n 3, 1) := by decide +kernel
theorem dX5_open_111 : decode cX5_open 111 = .ok (.bipush 16, 2) := by decide +kernel
theorem dX5_open_113 : decode cX5_open 113 = .ok (.istore 4, 2) := by decide +kernel
theorem dX5_open_115 : decode cX5_open 115 = .ok (.iload 4, 2) := by decide +kernel
theorem dX5_open_117 : decode cX5_open 117 = .ok (.sipush 176, 3) := by decide +kernel
theorem dX5_open_120 : decode cX5_open 120 = .ok (.if_icmp .ge 33, 3) := by decide +kernel
theorem dX5_open_123 : decode cX5_open 123 = .ok (.aload_n 0, 1) := by decide +kernel
theorem dX5_open_124 : decode cX5_open 124 = .ok (.getfield 13, 3) := by decide +kernel
theorem dX5_open_127 : decode cX5_open 127 = .ok (.iload 4, 2) := by decide +kernel
theorem dX5_open_129 : decode cX5_open 129 = .ok (.laload, 1) := by decide +kernel
theorem dX5_open_130 : decode cX5_open 130 = .ok (.lconst 0, 1) := by decide +kernel
theorem dX5_open_131 : decode cX5_open 131 = .ok (.lcmp, 1) := by decide +kernel
theorem dX5_open_132 : decode cX5_open 132 = .ok (.ifCond .eq 13, 3) := by decide +kernel
theorem dX5_open_135 : decode cX5_open 135 = .ok (.iload 4, 2) := by decide +kernel
theorem dX5_open_137 : decode cX5_open 137 = .ok (.bipush 16, 2) := by decide +kernel
theorem dX5_open_139 : decode cX5_open 139 = .ok (.isub, 1) := by decide +kernel
theorem dX5_open_140 : decode cX5_open 140 = .ok (.iconst 1, 1) := by decide +kernel
theorem dX5_open_141 : decode cX5_open 141 = .ok (.iadd, 1) := by decide +kernel
theorem dX5_open_142 : decode cX5_open 142 = .ok (.goto 4, 3) := by decide +kernel
theorem dX5_open_145 : decode cX5_open 145 = .ok (.iload_n 3, 1) := by decide +kernel
theorem dX5_open_146 : decode cX5_open 146 = .ok (.istore_n 3, 1) := by decide +kernel
theorem dX5_open_147 : decode cX5_open 147 = .ok (.iinc 4 1, 3) := by decide +kernel
theorem dX5_open_150 : decode cX5_open 150 = .ok (.goto (-35), 3) := by decide +kernel
theorem dX5_open_153 : decode cX5_open 153 = .ok (.iload_n 3, 1) := by decide +kernel
theorem dX5_open_154 : decode cX5_open 154 = .ok (.ifCond .le 15, 3) := by decide +kernel
theorem dX5_open_157 : decode cX5_open 157 = .ok (.aload_n 0, 1) := by decide +kernel
theorem dX5_open_158 : decode cX5_open 158 = .ok (.iload_n 2, 1) := by decide +kernel
theorem dX5_open_159 : decode cX5_open 159 = .ok (.iload_n 3, 1) := by decide +kernel
theorem dX5_open_160 : decode cX5_open 160 = .ok (.invokevirtual 131, 3) := by decide +kernel
theorem dX5_open_163 : decode cX5_open 163 = .ok (.ifCond .ne 6, 3) := by decide +kernel
theorem dX5_open_166 : decode cX5_open 166 = .ok (.bipush (-2), 2) := by decide +kernel
theorem dX5_open_168 : decode cX5_open 168 = .ok (.ireturn, 1) := by decide +kernel
theorem dX5_open_169 : decode cX5_open 169 = .ok (.aload_n 0, 1) := by decide +kernel
theorem dX5_open_170 : decode cX5_open 170 = .ok (.iconst 0, 1) := by decide +kernel
theorem dX5_open_171 : decode cX5_open 171 = .ok (.putfield 125, 3) := by decide +kernel
theorem dX5_open_174 : decode cX5_open 174 = .ok (.aload_n 0, 1) := by decide +kernel
theorem dX5_open_175 : decode cX5_open 175 = .ok (.iconst 0, 1) := by decide +kernel
theorem dX5_open_176 : decode cX5_open 176 = .ok (.putfield 128, 3) := by decide +kernel
theorem dX5_open_179 : decode cX5_open 179 = .ok (.iconst 0, 1) := by decide +kernel
theorem dX5_open_180 : decode cX5_open 180 = .ok (.istore_n 2, 1) := by decide +kernel
theorem dX5_open_181 : decode cX5_open 181 = .ok (.iload_n 2, 1) := by decide +kernel
theorem dX5_open_182 : decode cX5_open 182 = .ok (.sipush 1024, 3) := by decide +kernel
theorem dX5_open_185 : decode cX5_open 185 = .ok (.if_icmp .ge 21, 3) := by decide +kernel
theorem dX5_open_188 : decode cX5_open 188 = .ok (.aload_n 0, 1) := by decide +kernel
theorem dX5_open_189 : decode cX5_open 189 = .ok (.getfield 23, 3) := by decide +kernel
theorem dX5_open_192 : decode cX5_open 192 = .ok (.iload_n 2, 1) := by decide +kernel
theorem dX5_open_193 : decode cX5_open 193 = .ok (.aload_n 0, 1) := by decide +kernel
theorem dX5_open_194 : decode cX5_open 194 = .ok (.getfield 13, 3) := by decide +kernel
theorem dX5_open_197 : decode cX5_open 197 = .ok (.iload_n 2, 1) := by decide +kernel
theorem dX5_open_198 : decode cX5_open 198 = .ok (.laload, 1) := by decide +kernel
theorem dX5_open_199 : decode cX5_open 199 = .ok (.lastore, 1) := by decide +kernel
theorem dX5_open_200 : decode cX5_open 200 = .ok (.iinc 2 1, 3) := by decide +kernel
theorem dX5_open_203 : decode cX5_open 203 = .ok (.goto (-22), 3) := by decide +kernel
theorem dX5_open_206 : decode cX5_open 206 = .ok (.aload_n 0, 1) := by decide +kernel
theorem dX5_open_207 : decode cX5_open 207 = .ok (.aload_n 0, 1) := by decide +kernel
theorem dX5_open_208 : decode cX5_open 208 = .ok (.getfield 13, 3) := by decide +kernel
theorem dX5_open_211 : decode cX5_open 211 = .ok (.iconst 2, 1) := by decide +kernel
theorem dX5_open_212 : decode cX5_open 212 = .ok (.laload, 1) := by decide +kernel
theorem dX5_open_213 : decode cX5_open 213 = .ok (.putfield 100, 3) := by decide +kernel
theorem dX5_open_216 : decode cX5_open 216 = .ok (.iload_n 1, 1) := by decide +kernel
theorem dX5_open_217 : decode cX5_open 217 = .ok (.ireturn, 1) := by decide +kernel
theorem dX5_word_0 : decode cX5_word 0 = .ok (.aload_n 0, 1) := by decide +kernel
theorem dX5_word_1 : decode cX5_word 1 = .ok (.iload_n 1, 1) := by decide +kernel
theorem dX5_word_2 : decode cX5_word 2 = .ok (.ifCond .lt 10, 3) := by decide +kernel
theorem dX5_word_5 : decode cX5_word 5 = .ok (.iload_n 1, 1) := by decide +kernel
theorem dX5_word_6 : decode cX5_word 6 = .ok (.sipush 1024, 3) := by decide +kernel
theorem dX5_word_9 : decode cX5_word 9 = .ok (.if_icmp .lt 7, 3) := by decide +kernel
theorem dX5_word_12 : decode cX5_word 12 = .ok (.iconst 1, 1) := by decide +kernel
theorem dX5_word_13 : decode cX5_word 13 = .ok (.goto 4, 3) := by decide +kernel
theorem dX5_word_16 : decode cX5_word 16 = .ok (.iconst 0, 1) := by decide +kernel
theorem dX5_word_17 : decode cX5_word 17 = .ok (.putfield 37, 3) := by decide +kernel
theorem dX5_word_20 : decode cX5_word 20 = .ok (.aload_n 0, 1) := by decide +kernel
theorem dX5_word_21 : decode cX5_word 21 = .ok (.getfield 37, 3) := by decide +kernel
theorem dX5_word_24 : decode cX5_word 24 = .ok (.ifCond .le 7, 3) := by decide +kernel
theorem dX5_word_27 : decode cX5_word 27 = .ok (.lconst 0, 1) := by decide +kernel
theorem dX5_word_28 : decode cX5_word 28 = .ok (.goto 9, 3) := by decide +kernel
theorem dX5_word_31 : decode cX5_word 31 = .ok (.aload_n 0, 1) := by decide +kernel
theorem dX5_word_32 : decode cX5_word 32 = .ok (.getfield 7, 3) := by decide +kernel
theorem dX5_word_35 : decode cX5_word 35 = .ok (.iload_n 1, 1) := by decide +kernel
theorem dX5_word_36 : decode cX5_word 36 = .ok (.laload, 1) := by decide +kernel
theorem dX5_word_37 : decode cX5_word 37 = .ok (.lreturn, 1) := by decide +kernel
theorem dX5_block_0 : decode cX5_block 0 = .ok (.aload_n 0, 1) := by decide +kernel
theorem dX5_block_1 : decode cX5_block 1 = .ok (.aload_n 0, 1) := by decide +kernel
theorem dX5_block_2 : decode cX5_block 2 = .ok (.getfield 33, 3) := by decide +kernel
theorem dX5_block_5 : decode cX5_block 5 = .ok (.ifCond .ne 7, 3) := by decide +kernel
theorem dX5_block_8 : decode cX5_block 8 = .ok (.iconst 1, 1) := by decide +kernel
theorem dX5_block_9 : decode cX5_block 9 = .ok (.goto 17, 3) := by decide +kernel
theorem dX5_block_12 : decode cX5_block 12 = .ok (.iload_n 2, 1) := by decide +kernel
theorem dX5_block_13 : decode cX5_block 13 = .ok (.ifCond .lt 8, 3) := by decide +kernel
theorem dX5_block_16 : decode cX5_block 16 = .ok (.iload_n 2, 1) := by decide +kernel
theorem dX5_block_17 : decode cX5_block 17 = .ok (.iconst 2, 1) := by decide +kernel
theorem dX5_block_18 : decode cX5_block 18 = .ok (.if_icmp .le 7, 3) := by decide +kernel
theorem dX5_block_21 : decode cX5_block 21 = .ok (.iconst 2, 1) := by decide +kernel
theorem dX5_block_22 : decode cX5_block 22 = .ok (.goto 4, 3) := by decide +kernel
theorem dX5_block_25 : decode cX5_block 25 = .ok (.iconst 0, 1) := by decide +kernel
theorem dX5_block_26 : decode cX5_block 26 = .ok (.putfield 37, 3) := by decide +kernel
theorem dX5_block_29 : decode cX5_block 29 = .ok (.aload_n 0, 1) := by decide +kernel
theorem dX5_block_30 : decode cX5_block 30 = .ok (.getfield 37, 3) := by decide +kernel
theorem dX5_block_33 : decode cX5_block 33 = .ok (.ifCond .le 5, 3) := by decide +kernel
theorem dX5_block_36 : decode cX5_block 36 = .ok (.iconst 0, 1) := by decide +kernel
theorem dX5_block_37 : decode cX5_block 37 = .ok (.ireturn, 1) := by decide +kernel
theorem dX5_block_38 : decode cX5_block 38 = .ok (.sipush 176, 3) := by decide +kernel
theorem dX5_block_41 : decode cX5_block 41 = .ok (.istore_n 3, 1) := by decide +kernel
theorem dX5_block_42 : decode cX5_block 42 = .ok (.iconst 0, 1) := by decide +kernel
theorem dX5_block_43 : decode cX5_block 43 = .ok (.istore 4, 2) := by decide +kernel
theorem dX5_block_45 : decode cX5_block 45 = .ok (.iload_n 3, 1) := by decide +kernel
theorem dX5_block_46 : decode cX5_block 46 = .ok (.sipush 1024, 3) := by decide +kernel
theorem dX5_block_49 : decode cX5_block 49 = .ok (.if_icmp .ge 25, 3) := by decide +kernel
theorem dX5_block_52 : decode cX5_block 52 = .ok (.iload 4, 2) := by decide +kernel
theorem dX5_block_54 : decode cX5_block 54 = .ok (.iload_n 1, 1) := by decide +kernel
theorem dX5_block_55 : decode cX5_block 55 = .ok (.if_icmp .ge 19, 3) := by decide +kernel
theorem dX5_block_58 : decode cX5_block 58 = .ok (.iload_n 3, 1) := by decide +kernel
theorem dX5_block_59 : decode cX5_block 59 = .ok (.aload_n 0, 1) := by decide +kernel
theorem dX5_block_60 : decode cX5_block 60 = .ok (.iload_n 3, 1) := by decide +kernel
theorem dX5_block_61 : decode cX5_block 61 = .ok (.invokevirtual 84, 3) := by decide +kernel
theorem dX5_block_64 : decode cX5_block 64 = .ok (.iconst 1, 1) := by decide +kernel
theorem dX5_block_65 : decode cX5_block 65 = .ok (.iadd, 1) := by decide +kernel
theorem dX5_block_66 : decode cX5_block 66 = .ok (.iadd, 1) := by decide +kernel
theorem dX5_block_67 : decode cX5_block 67 = .ok (.istore_n 3, 1) := by decide +kernel
theorem dX5_block_68 : decode cX5_block 68 = .ok (.iinc 4 1, 3) := by decide +kernel
theorem dX5_block_71 : decode cX5_block 71 = .ok (.goto (-26), 3) := by decide +kernel
theorem dX5_block_74 : decode cX5_block 74 = .ok (.iload_n 1, 1) := by decide +kernel
theorem dX5_block_75 : decode cX5_block 75 = .ok (.ifCond .lt 10, 3) := by decide +kernel
theorem dX5_block_78 : decode cX5_block 78 = .ok (.iload_n 3, 1) := by decide +kernel
theorem dX5_block_79 : decode cX5_block 79 = .ok (.sipush 1024, 3) := by decide +kernel
theorem dX5_block_82 : decode cX5_block 82 = .ok (.if_icmp .lt 5, 3) := by decide +kernel
theorem dX5_block_85 : decode cX5_block 85 = .ok (.iconst (-1), 1) := by decide +kernel
theorem dX5_block_86 : decode cX5_block 86 = .ok (.ireturn, 1) := by decide +kernel
theorem dX5_block_87 : decode cX5_block 87 = .ok (.iload_n 2, 1) := by decide +kernel
theorem dX5_block_88 : decode cX5_block 88 = .ok (.ifCond .ne 9, 3) := by decide +kernel
theorem dX5_block_91 : decode cX5_block 91 = .ok (.iload_n 3, 1) := by decide +kernel
theorem dX5_block_92 : decode cX5_block 92 = .ok (.iconst 1, 1) := by decide +kernel
theorem dX5_block_93 : decode cX5_block 93 = .ok (.iadd, 1) := by decide +kernel
theorem dX5_block_94 : decode cX5_block 94 = .ok (.goto 29, 3) := by decide +kernel
theorem dX5_block_97 : decode cX5_block 97 = .ok (.iload_n 2, 1) := by decide +kernel
theorem dX5_block_98 : decode cX5_block 98 = .ok (.iconst 1, 1) := by decide +kernel
theorem dX5_block_99 : decode cX5_block 99 = .ok (.if_icmp .ne 11, 3) := by decide +kernel
theorem dX5_block_102 : decode cX5_block 102 = .ok (.aload_n 0, 1) := by decide +kernel
theorem dX5_block_103 : decode cX5_block 103 = .ok (.iload_n 3, 1) := by decide +kernel
theorem dX5_block_104 : decode cX5_block 104 = .ok (.invokevirtual 84, 3) := by decide +kernel
theorem dX5_block_107 : decode cX5_block 107 = .ok (.goto 16, 3) := by decide +kernel
theorem dX5_block_110 : decode cX5_block 110 = .ok (.aload_n 0, 1) := by decide +kernel
theorem dX5_block_111 : decode cX5_block 111 = .ok (.iload_n 3, 1) := by decide +kernel
theorem dX5_block_112 : decode cX5_block 112 = .ok (.invokevirtual 88, 3) := by decide +kernel
theorem dX5_block_115 : decode cX5_block 115 = .ok (.ifCond .eq 7, 3) := by decide +kernel
theorem dX5_block_118 : decode cX5_block 118 = .ok (.iconst 1, 1) := by decide +kernel
theorem dX5_block_119 : decode cX5_block 119 = .ok (.goto 4, 3) := by decide +kernel
theorem dX5_block_122 : decode cX5_block 122 = .ok (.iconst 0, 1) := by decide +kernel
theorem dX5_block_123 : decode cX5_block 123 = .ok (.ireturn, 1) := by decide +kernel
theorem dX5_told_0 : decode cX5_told 0 = .ok (.aload_n 0, 1) := by decide +kernel
theorem dX5_told_1 : decode cX5_told 1 = .ok (.aload_n 0, 1) := by decide +kernel
theorem dX5_told_2 : decode cX5_told 2 = .ok (.getfield 33, 3) := by decide +kernel
theorem dX5_told_5 : decode cX5_told 5 = .ok (.ifCond .ne 7, 3) := by decide +kernel
theorem dX5_told_8 : decode cX5_told 8 = .ok (.iconst 1, 1) := by decide +kernel
theorem dX5_told_9 : decode cX5_told 9 = .ok (.goto 18, 3) := by decide +kernel
theorem dX5_told_12 : decode cX5_told 12 = .ok (.iload_n 1, 1) := by decide +kernel
theorem dX5_told_13 : decode cX5_told 13 = .ok (.ifCond .lt 9, 3) := by decide +kernel
theorem dX5_told_16 : decode cX5_told 16 = .ok (.iload_n 1, 1) := by decide +kernel
theorem dX5_told_17 : decode cX5_told 17 = .ok (.bipush 7, 2) := by decide +kernel
theorem dX5_told_19 : decode cX5_told 19 = .ok (.if_icmp .le 7, 3) := by decide +kernel
theorem dX5_told_22 : decode cX5_told 22 = .ok (.iconst 2, 1) := by decide +kernel
theorem dX5_told_23 : decode cX5_told 23 = .ok (.goto 4, 3) := by decide +kernel
theorem dX5_told_26 : decode cX5_told 26 = .ok (.iconst 0, 1) := by decide +kernel
theorem dX5_told_27 : decode cX5_told 27 = .ok (.putfield 37, 3) := by decide +kernel
theorem dX5_told_30 : decode cX5_told 30 = .ok (.aload_n 0, 1) := by decide +kernel
theorem dX5_told_31 : decode cX5_told 31 = .ok (.getfield 37, 3) := by decide +kernel
theorem dX5_told_34 : decode cX5_told 34 = .ok (.ifCond .le 5, 3) := by decide +kernel
theorem dX5_told_37 : decode cX5_told 37 = .ok (.iconst 0, 1) := by decide +kernel
theorem dX5_told_38 : decode cX5_told 38 = .ok (.ireturn, 1) := by decide +kernel
theorem dX5_told_39 : decode cX5_told 39 = .ok (.iconst 0, 1) := by decide +kernel
theorem dX5_told_40 : decode cX5_told 40 = .ok (.istore_n 2, 1) := by decide +kernel
theorem dX5_told_41 : decode cX5_told 41 = .ok (.iconst 0, 1) := by decide +kernel
theorem dX5_told_42 : decode cX5_told 42 = .ok (.istore_n 3, 1) := by decide +kernel
theorem dX5_told_43 : decode cX5_told 43 = .ok (.iconst 0, 1) := by decide +kernel
theorem dX5_told_44 : decode cX5_told 44 = .ok (.istore 4, 2) := by decide +kernel
theorem dX5_told_46 : decode cX5_told 46 = .ok (.sipush 176, 3) := by decide +kernel
theorem dX5_told_49 : decode cX5_told 49 = .ok (.istore 5, 2) := by decide +kernel
theorem dX5_told_51 : decode cX5_told 51 = .ok (.iload 5, 2) := by decide +kernel
theorem dX5_told_53 : decode cX5_told 53 = .ok (.sipush 1024, 3) := by decide +kernel
theorem dX5_told_56 : decode cX5_told 56 = .ok (.if_icmp .ge 53, 3) := by decide +kernel
theorem dX5_told_59 : decode cX5_told 59 = .ok (.aload_n 0, 1) := by decide +kernel
theorem dX5_told_60 : decode cX5_told 60 = .ok (.iload 5, 2) := by decide +kernel
theorem dX5_told_62 : decode cX5_told 62 = .ok (.invokevirtual 84, 3) := by decide +kernel
theorem dX5_told_65 : decode cX5_told 65 = .ok (.istore 6, 2) := by decide +kernel
theorem dX5_told_67 : decode cX5_told 67 = .ok (.aload_n 0, 1) := by decide +kernel
theorem dX5_told_68 : decode cX5_told 68 = .ok (.iload 5, 2) := by decide +kernel
theorem dX5_told_70 : decode cX5_told 70 = .ok (.invokevirtual 88, 3) := by decide +kernel
theorem dX5_told_73 : decode cX5_told 73 = .ok (.ifCond .ne 21, 3) := by decide +kernel
theorem dX5_told_76 : decode cX5_told 76 = .ok (.iload_n 2, 1) := by decide +kernel
theorem dX5_told_77 : decode cX5_told 77 = .ok (.iload 6, 2) := by decide +kernel
theorem dX5_told_79 : decode cX5_told 79 = .ok (.iadd, 1) := by decide +kernel
theorem dX5_told_80 : decode cX5_told 80 = .ok (.istore_n 2, 1) := by decide +kernel
theorem dX5_told_81 : decode cX5_told 81 = .ok (.iload 6, 2) := by decide +kernel
theorem dX5_told_83 : decode cX5_told 83 = .ok (.iload_n 3, 1) := by decide +kernel
theorem dX5_told_84 : decode cX5_told 84 = .ok (.if_icmp .le 8, 3) := by decide +kernel
theorem dX5_told_87 : decode cX5_told 87 = .ok (.iload 6, 2) := by decide +kernel
theorem dX5_told_89 : decode cX5_told 89 = .ok (.goto 4, 3) := by decide +kernel
theorem dX5_told_92 : decode cX5_told 92 = .ok (.iload_n 3, 1) := by decide +kernel
theorem dX5_told_93 : decode cX5_told 93 = .ok (.istore_n 3, 1) := by decide +kernel
theorem dX5_told_94 : decode cX5_told 94 = .ok (.iinc 4 1, 3) := by decide +kernel
theorem dX5_told_97 : decode cX5_told 97 = .ok (.iload 5, 2) := by decide +kernel
theorem dX5_told_99 : decode cX5_told 99 = .ok (.iload 6, 2) := by decide +kernel
theorem dX5_told_101 : decode cX5_told 101 = .ok (.iconst 1, 1) := by decide +kernel
theorem dX5_told_102 : decode cX5_told 102 = .ok (.iadd, 1) := by decide +kernel
theorem dX5_told_103 : decode cX5_told 103 = .ok (.iadd, 1) := by decide +kernel
theorem dX5_told_104 : decode cX5_told 104 = .ok (.istore 5, 2) := by decide +kernel
theorem dX5_told_106 : decode cX5_told 106 = .ok (.goto (-55), 3) := by decide +kernel
theorem dX5_told_109 : decode cX5_told 109 = .ok (.iload_n 1, 1) := by decide +kernel
theorem dX5_told_110 : decode cX5_told 110 = .ok (.tableswitch 73 0 6 #[42, 44, 46, 49, 54, 59, 67], 42) := by decide +kernel
theorem dX5_told_152 : decode cX5_told 152 = .ok (.iload_n 2, 1) := by decide +kernel
theorem dX5_told_153 : decode cX5_told 153 = .ok (.ireturn, 1) := by decide +kernel
theorem dX5_told_154 : decode cX5_told 154 = .ok (.iload_n 3, 1) := by decide +kernel
theorem dX5_told_155 : decode cX5_told 155 = .ok (.ireturn, 1) := by decide +kernel
theorem dX5_told_156 : decode cX5_told 156 = .ok (.iload 4, 2) := by decide +kernel
theorem dX5_told_158 : decode cX5_told 158 = .ok (.ireturn, 1) := by decide +kernel
theorem dX5_told_159 : decode cX5_told 159 = .ok (.aload_n 0, 1) := by decide +kernel
theorem dX5_told_160 : decode cX5_told 160 = .ok (.getfield 125, 3) := by decide +kernel
theorem dX5_told_163 : decode cX5_told 163 = .ok (.ireturn, 1) := by decide +kernel
theorem dX5_told_164 : decode cX5_told 164 = .ok (.aload_n 0, 1) := by decide +kernel
theorem dX5_told_165 : decode cX5_told 165 = .ok (.getfield 128, 3) := by decide +kernel
theorem dX5_told_168 : decode cX5_told 168 = .ok (.ireturn, 1) := by decide +kernel
theorem dX5_told_169 : decode cX5_told 169 = .ok (.aload_n 0, 1) := by decide +kernel
theorem dX5_told_170 : decode cX5_told 170 = .ok (.getfield 13, 3) := by decide +kernel
theorem dX5_told_173 : decode cX5_told 173 = .ok (.iconst 0, 1) := by decide +kernel
theorem dX5_told_174 : decode cX5_told 174 = .ok (.laload, 1) := by decide +kernel
theorem dX5_told_175 : decode cX5_told 175 = .ok (.l2i, 1) := by decide +kernel
theorem dX5_told_176 : decode cX5_told 176 = .ok (.ireturn, 1) := by decide +kernel
theorem dX5_told_177 : decode cX5_told 177 = .ok (.aload_n 0, 1) := by decide +kernel
theorem dX5_told_178 : decode cX5_told 178 = .ok (.getfield 100, 3) := by decide +kernel
theorem dX5_told_181 : decode cX5_told 181 = .ok (.l2i, 1) := by decide +kernel
theorem dX5_told_182 : decode cX5_told 182 = .ok (.ireturn, 1) := by decide +kernel
theorem dX5_told_183 : decode cX5_told 183 = .ok (.aload_n 0, 1) := by decide +kernel
theorem dX5_told_184 : decode cX5_told 184 = .ok (.getfield 72, 3) := by decide +kernel
theorem dX5_told_187 : decode cX5_told 187 = .ok (.ifCond .eq 10, 3) := by decide +kernel
theorem dX5_told_190 : decode cX5_told 190 = .ok (.aload_n 0, 1) := by decide +kernel
theorem dX5_told_191 : decode cX5_told 191 = .ok (.getfield 75, 3) := by decide +kernel
theorem dX5_told_194 : decode cX5_told 194 = .ok (.goto 4, 3) := by decide +kernel
theorem dX5_told_197 : decode cX5_told 197 = .ok (.iconst 0, 1) := by decide +kernel
theorem dX5_told_198 : decode cX5_told 198 = .ok (.ireturn, 1) := by decide +kernel
theorem dX5_count_0 : decode cX5_count 0 = .ok (.aload_n 0, 1) := by decide +kernel
theorem dX5_count_1 : decode cX5_count 1 = .ok (.iload_n 1, 1) := by decide +kernel
theorem dX5_count_2 : decode cX5_count 2 = .ok (.ifCond .lt 9, 3) := by decide +kernel
theorem dX5_count_5 : decode cX5_count 5 = .ok (.iload_n 1, 1) := by decide +kernel
theorem dX5_count_6 : decode cX5_count 6 = .ok (.bipush 6, 2) := by decide +kernel
theorem dX5_count_8 : decode cX5_count 8 = .ok (.if_icmp .le 7, 3) := by decide +kernel
theorem dX5_count_11 : decode cX5_count 11 = .ok (.iconst 1, 1) := by decide +kernel
theorem dX5_count_12 : decode cX5_count 12 = .ok (.goto 4, 3) := by decide +kernel
theorem dX5_count_15 : decode cX5_count 15 = .ok (.iconst 0, 1) := by decide +kernel
theorem dX5_count_16 : decode cX5_count 16 = .ok (.putfield 37, 3) := by decide +kernel
theorem dX5_count_19 : decode cX5_count 19 = .ok (.aload_n 0, 1) := by decide +kernel
theorem dX5_count_20 : decode cX5_count 20 = .ok (.getfield 37, 3) := by decide +kernel
theorem dX5_count_23 : decode cX5_count 23 = .ok (.ifCond .le 5, 3) := by decide +kernel
theorem dX5_count_26 : decode cX5_count 26 = .ok (.iconst 0, 1) := by decide +kernel
theorem dX5_count_27 : decode cX5_count 27 = .ok (.ireturn, 1) := by decide +kernel
theorem dX5_count_28 : decode cX5_count 28 = .ok (.iload_n 1, 1) := by decide +kernel
theorem dX5_count_29 : decode cX5_count 29 = .ok (.tableswitch 85 0 5 #[39, 52, 65, 70, 75, 80], 39) := by decide +kernel
theorem dX5_count_68 : decode cX5_count 68 = .ok (.aload_n 0, 1) := by decide +kernel
theorem dX5_count_69 : decode cX5_count 69 = .ok (.getfield 33, 3) := by decide +kernel
theorem dX5_count_72 : decode cX5_count 72 = .ok (.ifCond .eq 7, 3) := by decide +kernel
theorem dX5_count_75 : decode cX5_count 75 = .ok (.iconst 1, 1) := by decide +kernel
theorem dX5_count_76 : decode cX5_count 76 = .ok (.goto 4, 3) := by decide +kernel
theorem dX5_count_79 : decode cX5_count 79 = .ok (.iconst 0, 1) := by decide +kernel
theorem dX5_count_80 : decode cX5_count 80 = .ok (.ireturn, 1) := by decide +kernel
theorem dX5_count_81 : decode cX5_count 81 = .ok (.aload_n 0, 1) := by decide +kernel
theorem dX5_count_82 : decode cX5_count 82 = .ok (.getfield 72, 3) := by decide +kernel
theorem dX5_count_85 : decode cX5_count 85 = .ok (.ifCond .eq 7, 3) := by decide +kernel
theorem dX5_count_88 : decode cX5_count 88 = .ok (.iconst 1, 1) := by decide +kernel
theorem dX5_count_89 : decode cX5_count 89 = .ok (.goto 4, 3) := by decide +kernel
theorem dX5_count_92 : decode cX5_count 92 = .ok (.iconst 0, 1) := by decide +kernel
theorem dX5_count_93 : decode cX5_count 93 = .ok (.ireturn, 1) := by decide +kernel
theorem dX5_count_94 : decode cX5_count 94 = .ok (.aload_n 0, 1) := by decide +kernel
theorem dX5_count_95 : decode cX5_count 95 = .ok (.getfield 60, 3) := by decide +kernel
theorem dX5_count_98 : decode cX5_count 98 = .ok (.ireturn, 1) := by decide +kernel
theorem dX5_count_99 : decode cX5_count 99 = .ok (.aload_n 0, 1) := by decide +kernel
theorem dX5_count_100 : decode cX5_count 100 = .ok (.getfield 69, 3) := by decide +kernel
theorem dX5_count_103 : decode cX5_count 103 = .ok (.ireturn, 1) := by decide +kernel
theorem dX5_count_104 : decode cX5_count 104 = .ok (.aload_n 0, 1) := by decide +kernel
theorem dX5_count_105 : decode cX5_count 105 = .ok (.getfield 54, 3) := by decide +kernel
theorem dX5_count_108 : decode cX5_count 108 = .ok (.ireturn, 1) := by decide +kernel
theorem dX5_count_109 : decode cX5_count 109 = .ok (.aload_n 0, 1) := by decide +kernel
theorem dX5_count_110 : decode cX5_count 110 = .ok (.getfield 48, 3) := by decide +kernel
theorem dX5_count_113 : decode cX5_count 113 = .ok (.ireturn, 1) := by decide +kernel
theorem dX5_count_114 : decode cX5_count 114 = .ok (.aload_n 0, 1) := by decide +kernel
theorem dX5_count_115 : decode cX5_count 115 = .ok (.getfield 41, 3) := by decide +kernel
theorem dX5_count_118 : decode cX5_count 118 = .ok (.ireturn, 1) := by decide +kernel
end
section
/-! base: truth values as ints, guards of the pure functions -/
def bI (b : Bool) : Int32 := if b then 1 else 0
theorem bI_nar (b : Bool) : narrow .boolean (.int (bI b)) = .int (bI b) := by cases b <;> rfl
theorem bI_fit (b : Bool) : fits .boolean (.int (bI b)) = true := by cases b <;> rfl
theorem bI_z {b : Bool} (h : bI b = 0) : ¬ b = true := by
  intro hb
  rw [hb] at h
  exact absurd h (by decide)
theorem bI_nz {b : Bool} (h : ¬ bI b = 0) : b = true := by
  cases b with
  | false => exact absurd rfl h
  | true => rfl
/-- the place i is one of an array of n -/
def gI (i : Int32) (n : Nat) : Bool := decide (¬ (i < 0 ∨ n ≤ i.toNatClampNeg))
theorem gI_in {i : Int32} {n : Nat} (h : gI i n = true) : vp_in i n := (of_decide_eq_true h : ¬ (i < 0 ∨ n ≤ i.toNatClampNeg))
theorem gGuard {α : Type} {b : Bool} {x : Option α} {r : α} (h : (if b = true then x else none) = some r) : b = true ∧ x = some r := by
  cases b with
  | false => exact absurd h (by simp)
  | true => exact ⟨rfl, by simpa using h⟩
theorem gIfP {α : Type} {c : Prop} [Decidable c] {a b : α} {r : α} (hc : c) (h : (if c then a else b) = r) : a = r := by rw [if_pos hc] at h; exact h
theorem gIfN {α : Type} {c : Prop} [Decidable c] {a b : α} {r : α} (hc : ¬ c) (h : (if c then a else b) = r) : b = r := by rw [if_neg hc] at h; exact h
/-- on, if the call before answered; a throw goes on out -/
def gE {α β : Type} (o : Option (Except String α)) (k : α → Option (Except String β)) : Option (Except String β) := match o with
  | none => none
  | some (.error E) => some (.error E)
  | some (.ok y) => k y
theorem gE_of {α β : Type} {o : Option (Except String α)} {k : α → Option (Except String β)} {r : Except String β} (h : gE o k = some r) : (∃ E, o = some (.error E) ∧ r = .error E) ∨ ∃ y, o = some (.ok y) ∧ k y = some r := by
  cases o with
  | none => exact absurd h (by simp [gE])
  | some x =>
    cases x with
    | error E => exact Or.inl ⟨E, rfl, (Option.some.inj h).symm⟩
    | ok y => exact Or.inr ⟨y, rfl, h⟩
/-- links to private members of a nest mate: words that a caller must hand on -/
def gN (U : State) : Prop := va_Nw (.methodLinkNest RX4 9 yX2_init "RedoHeap") U ∧ va_Nw (.methodLinkNest RX4 27 yX1_init "RedoHeap") U ∧ va_Nw (.methodLinkNest RX1 34 yX4_isWord "RedoHeap") U ∧ va_Nw (.methodLinkNest RX2 45 yX4_isWord "RedoHeap") U
theorem gN.warm {s U : State} (hW : s.WarmedH U.vm) (h : gN s) : gN U := ⟨va_Nw.warmM hW h.1, va_Nw.warmM hW h.2.1, va_Nw.warmM hW h.2.2.1, va_Nw.warmM hW h.2.2.2⟩
theorem gN.same {s U : State} (hv : s.vm = U.vm) (h : gN s) : gN U := ⟨va_Nw.same rfl hv h.1, va_Nw.same rfl hv h.2.1, va_Nw.same rfl hv h.2.2.1, va_Nw.same rfl hv h.2.2.2⟩
end
section
section GW
variable {p : Program} {l : Launch} {e : Env} {R : Room} {s : State} {m : MethodId} {args : Array Value} {below : List Frame} {meth : Method} {c : Code} {cells slots : Nat} {Q : State → Prop}
variable {cc : ByteArray} {nL : Nat} {own : String} {Ts : List Cond} {A : Nat → Prop} {D : va_G} {cl : List vw_C} {tys : List (ClassId × FieldType)}
variable {ws ws' : va_W} {lv lv' : List (Nat × Value)} {pc : Nat} {st rest : List Value}
/-- what holds all through a method's walk -/
def gZ (p : Program) (s : State) (m : MethodId) (args : Array Value) (meth : Method) (c : Code) (cc : ByteArray) (nL : Nat) (own : String) (Ts : List Cond) (A : Nat → Prop) (D : va_G) (cl : List vw_C) (tys : List (ClassId × FieldType)) : Prop :=
  p.tables.exec = Jvm.exec ∧ c.code = cc ∧ c.maxLocals = nL ∧ s.vm.findClass own = some m.cls ∧ (∀ w ∈ Ts, w.before args s = true) ∧ va_K D cl tys s ∧ (∀ q, s.heap.size ≤ q → A q) ∧ meth.locks = false ∧ gN s
/-- the walk's goal at a world, locals, a place in the code, a stack: in any heap that holds the world -/
def gW (p : Program) (l : Launch) (e : Env) (R : Room) (s : State) (m : MethodId) (args : Array Value) (below : List Frame) (meth : Method) (c : Code) (nL : Nat) (A : Nat → Prop) (D : va_G) (cl : List vw_C) (cells slots : Nat) (Q : State → Prop) (ws : va_W) (lv : List (Nat × Value)) (pc : Nat) (st : List Value) : Prop :=
  ∀ (H : Heap) (locs : List Loc) (ls : Array Slot), va_P D cl ws H → va_D A ws → va_S A s.heap H locs → lv_has ls nL lv → W p l e R s m args below meth c H locs cells slots Q (F0 m pc ls st)
theorem g_iconst (Z : gZ p s m args meth c cc nL own Ts A D cl tys) {n : Int} {v : Int32} (d : decode cc pc = .ok (.iconst n, 1)) (hv : Int32.ofInt n = v) (k : gW p l e R s m args below meth c nL A D cl cells slots Q ws lv (pc + 1) (.int v :: st)) : gW p l e R s m args below meth c nL A D cl cells slots Q ws lv (pc) (st) := fun H locs ls hP hD hS hl => lv_iconst Z.1 Z.2.1 d hv (k H locs ls hP hD hS hl)
theorem g_bipush (Z : gZ p s m args meth c cc nL own Ts A D cl tys) {n : Int} {v : Int32} (d : decode cc pc = .ok (.bipush n, 2)) (hv : (Int8.ofInt n).toInt32 = v) (k : gW p l e R s m args below meth c nL A D cl cells slots Q ws lv (pc + 2) (.int v :: st)) : gW p l e R s m args below meth c nL A D cl cells slots Q ws lv (pc) (st) := fun H locs ls hP hD hS hl => lv_bipush Z.1 Z.2.1 d hv (k H locs ls hP hD hS hl)
theorem g_sipush (Z : gZ p s m args meth c cc nL own Ts A D cl tys) {n : Int} {v : Int32} (d : decode cc pc = .ok (.sipush n, 3)) (hv : (Int16.ofInt n).toInt32 = v) (k : gW p l e R s m args below meth c nL A D cl cells slots Q ws lv (pc + 3) (.int v :: st)) : gW p l e R s m args below meth c nL A D cl cells slots Q ws lv (pc) (st) := fun H locs ls hP hD hS hl => lv_sipush Z.1 Z.2.1 d hv (k H locs ls hP hD hS hl)
theorem g_lconst (Z : gZ p s m args meth c cc nL own Ts A D cl tys) {n : Fin 2} {v : Int64} (d : decode cc pc = .ok (.lconst n, 1)) (hv : Int64.ofNat (n : Nat) = v) (k : gW p l e R s m args below meth c nL A D cl cells slots Q ws lv (pc + 1) (.long v :: st)) : gW p l e R s m args below meth c nL A D cl cells slots Q ws lv (pc) (st) := fun H locs ls hP hD hS hl => lv_lconst Z.1 Z.2.1 d hv (k H locs ls hP hD hS hl)
theorem g_ldc (Z : gZ p s m args meth c cc nL own Ts A D cl tys) {i : Nat} {v : Int32} (d : decode cc pc = .ok (.ldc i, 2)) (hc : Jvm.Cond.constant own i v ∈ Ts) (k : gW p l e R s m args below meth c nL A D cl cells slots Q ws lv (pc + 2) (.int v :: st)) : gW p l e R s m args below meth c nL A D cl cells slots Q ws lv (pc) (st) := fun H locs ls hP hD hS hl => lv_ldc Z.1 Z.2.1 Z.2.2.2.1 (Z.2.2.2.2.1 _ hc) d (k H locs ls hP hD hS hl)
theorem g_ldc2 (Z : gZ p s m args meth c cc nL own Ts A D cl tys) {i : Nat} {v : Int64} (d : decode cc pc = .ok (.ldc2_w i, 3)) (hc : Jvm.Cond.constantLong own i v ∈ Ts) (k : gW p l e R s m args below meth c nL A D cl cells slots Q ws lv (pc + 3) (.long v :: st)) : gW p l e R s m args below meth c nL A D cl cells slots Q ws lv (pc) (st) := fun H locs ls hP hD hS hl => lv_ldc2 Z.1 Z.2.1 Z.2.2.2.1 (Z.2.2.2.2.1 _ hc) d (k H locs ls hP hD hS hl)
theorem g_iload_n (Z : gZ p s m args meth c cc nL own Ts A D cl tys) {f : Fin 4} {x : Int32} (i : Nat) (d : decode cc pc = .ok (.iload_n f, 1)) (hk : lv[i]? = some ((f : Nat), .int x)) (k : gW p l e R s m args below meth c nL A D cl cells slots Q ws lv (pc + 1) (.int x :: st)) : gW p l e R s m args below meth c nL A D cl cells slots Q ws lv (pc) (st) := fun H locs ls hP hD hS hl => lv_iload_n Z.1 Z.2.1 d rfl (lv_at hl i hk) (k H locs ls hP hD hS hl)
theorem g_iload (Z : gZ p s m args meth c cc nL own Ts A D cl tys) {f : Nat} {x : Int32} (i : Nat) (d : decode cc pc = .ok (.iload f, 2)) (hk : lv[i]? = some (f, .int x)) (k : gW p l e R s m args below meth c nL A D cl cells slots Q ws lv (pc + 2) (.int x :: st)) : gW p l e R s m args below meth c nL A D cl cells slots Q ws lv (pc) (st) := fun H locs ls hP hD hS hl => lv_iload Z.1 Z.2.1 d (lv_at hl i hk) (k H locs ls hP hD hS hl)
theorem g_istore_n (Z : gZ p s m args meth c cc nL own Ts A D cl tys) {f : Fin 4} {x : Int32} (d : decode cc pc = .ok (.istore_n f, 1)) (hn : (f : Nat) < nL) (hl2 : ((f : Nat), Value.int x) :: lv.filter (fun q => !(q.1 == (f : Nat)) && !(q.1 + 1 == (f : Nat) && q.2.category == 2)) = lv') (k : gW p l e R s m args below meth c nL A D cl cells slots Q ws lv' (pc + 1) (st)) : gW p l e R s m args below meth c nL A D cl cells slots Q ws lv (pc) (.int x :: st) := fun H locs ls hP hD hS hl => lv_istore_n Z.1 Z.2.1 d rfl hl hn hl2 (fun ls hl => (k H locs ls hP hD hS hl))
theorem g_istore (Z : gZ p s m args meth c cc nL own Ts A D cl tys) {f : Nat} {x : Int32} (d : decode cc pc = .ok (.istore f, 2)) (hn : f < nL) (hl2 : (f, Value.int x) :: lv.filter (fun q => !(q.1 == f) && !(q.1 + 1 == f && q.2.category == 2)) = lv') (k : gW p l e R s m args below meth c nL A D cl cells slots Q ws lv' (pc + 2) (st)) : gW p l e R s m args below meth c nL A D cl cells slots Q ws lv (pc) (.int x :: st) := fun H locs ls hP hD hS hl => lv_istore Z.1 Z.2.1 d hl hn hl2 (fun ls hl => (k H locs ls hP hD hS hl))
theorem g_lload_n (Z : gZ p s m args meth c cc nL own Ts A D cl tys) {f : Fin 4} {x : Int64} (i : Nat) (d : decode cc pc = .ok (.lload_n f, 1)) (hk : lv[i]? = some ((f : Nat), .long x)) (k : gW p l e R s m args below meth c nL A D cl cells slots Q ws lv (pc + 1) (.long x :: st)) : gW p l e R s m args below meth c nL A D cl cells slots Q ws lv (pc) (st) := fun H locs ls hP hD hS hl => lv_lload_n Z.1 Z.2.1 d rfl (lv_at hl i hk) (k H locs ls hP hD hS hl)
theorem g_lload (Z : gZ p s m args meth c cc nL own Ts A D cl tys) {f : Nat} {x : Int64} (i : Nat) (d : decode cc pc = .ok (.lload f, 2)) (hk : lv[i]? = some (f, .long x)) (k : gW p l e R s m args below meth c nL A D cl cells slots Q ws lv (pc + 2) (.long x :: st)) : gW p l e R s m args below meth c nL A D cl cells slots Q ws lv (pc) (st) := fun H locs ls hP hD hS hl => lv_lload Z.1 Z.2.1 d (lv_at hl i hk) (k H locs ls hP hD hS hl)
theorem g_lstore_n (Z : gZ p s m args meth c cc nL own Ts A D cl tys) {f : Fin 4} {x : Int64} (d : decode cc pc = .ok (.lstore_n f, 1)) (hn : (f : Nat) + 1 < nL) (hl2 : ((f : Nat), Value.long x) :: lv.filter (fun q => !(q.1 == (f : Nat)) && (!(q.1 == (f : Nat) + 1) && !(q.1 + 1 == (f : Nat) && q.2.category == 2))) = lv') (k : gW p l e R s m args below meth c nL A D cl cells slots Q ws lv' (pc + 1) (st)) : gW p l e R s m args below meth c nL A D cl cells slots Q ws lv (pc) (.long x :: st) := fun H locs ls hP hD hS hl => lv_lstore_n Z.1 Z.2.1 d rfl hl hn hl2 (fun ls hl => (k H locs ls hP hD hS hl))
theorem g_lstore (Z : gZ p s m args meth c cc nL own Ts A D cl tys) {f : Nat} {x : Int64} (d : decode cc pc = .ok (.lstore f, 2)) (hn : f + 1 < nL) (hl2 : (f, Value.long x) :: lv.filter (fun q => !(q.1 == f) && (!(q.1 == f + 1) && !(q.1 + 1 == f && q.2.category == 2))) = lv') (k : gW p l e R s m args below meth c nL A D cl cells slots Q ws lv' (pc + 2) (st)) : gW p l e R s m args below meth c nL A D cl cells slots Q ws lv (pc) (.long x :: st) := fun H locs ls hP hD hS hl => lv_lstore Z.1 Z.2.1 d hl hn hl2 (fun ls hl => (k H locs ls hP hD hS hl))
theorem g_aload_n (Z : gZ p s m args meth c cc nL own Ts A D cl tys) {f : Fin 4} {x : Nat} (i : Nat) (d : decode cc pc = .ok (.aload_n f, 1)) (hk : lv[i]? = some ((f : Nat), .ref x)) (k : gW p l e R s m args below meth c nL A D cl cells slots Q ws lv (pc + 1) (.ref x :: st)) : gW p l e R s m args below meth c nL A D cl cells slots Q ws lv (pc) (st) := fun H locs ls hP hD hS hl => lv_aload_n Z.1 Z.2.1 d rfl (lv_at hl i hk) (k H locs ls hP hD hS hl)
theorem g_aload (Z : gZ p s m args meth c cc nL own Ts A D cl tys) {f : Nat} {x : Nat} (i : Nat) (d : decode cc pc = .ok (.aload f, 2)) (hk : lv[i]? = some (f, .ref x)) (k : gW p l e R s m args below meth c nL A D cl cells slots Q ws lv (pc + 2) (.ref x :: st)) : gW p l e R s m args below meth c nL A D cl cells slots Q ws lv (pc) (st) := fun H locs ls hP hD hS hl => lv_aload Z.1 Z.2.1 d (lv_at hl i hk) (k H locs ls hP hD hS hl)
theorem g_astore_n (Z : gZ p s m args meth c cc nL own Ts A D cl tys) {f : Fin 4} {x : Nat} (d : decode cc pc = .ok (.astore_n f, 1)) (hn : (f : Nat) < nL) (hl2 : ((f : Nat), Value.ref x) :: lv.filter (fun q => !(q.1 == (f : Nat)) && !(q.1 + 1 == (f : Nat) && q.2.category == 2)) = lv') (k : gW p l e R s m args below meth c nL A D cl cells slots Q ws lv' (pc + 1) (st)) : gW p l e R s m args below meth c nL A D cl cells slots Q ws lv (pc) (.ref x :: st) := fun H locs ls hP hD hS hl => lv_astore_n Z.1 Z.2.1 d rfl hl hn hl2 (fun ls hl => (k H locs ls hP hD hS hl))
theorem g_astore (Z : gZ p s m args meth c cc nL own Ts A D cl tys) {f : Nat} {x : Nat} (d : decode cc pc = .ok (.astore f, 2)) (hn : f < nL) (hl2 : (f, Value.ref x) :: lv.filter (fun q => !(q.1 == f) && !(q.1 + 1 == f && q.2.category == 2)) = lv') (k : gW p l e R s m args below meth c nL A D cl cells slots Q ws lv' (pc + 2) (st)) : gW p l e R s m args below meth c nL A D cl cells slots Q ws lv (pc) (.ref x :: st) := fun H locs ls hP hD hS hl => lv_astore Z.1 Z.2.1 d hl hn hl2 (fun ls hl => (k H locs ls hP hD hS hl))
theorem g_iinc (Z : gZ p s m args meth c cc nL own Ts A D cl tys) {f : Nat} {n : Int} {x v : Int32} (i : Nat) (d : decode cc pc = .ok (.iinc f n, 3)) (hk : lv[i]? = some (f, .int x)) (hv : x + Int32.ofInt n = v) (hn : f < nL) (hl2 : (f, Value.int v) :: lv.filter (fun q => !(q.1 == f) && !(q.1 + 1 == f && q.2.category == 2)) = lv') (k : gW p l e R s m args below meth c nL A D cl cells slots Q ws lv' (pc + 3) (st)) : gW p l e R s m args below meth c nL A D cl cells slots Q ws lv (pc) (st) := fun H locs ls hP hD hS hl => lv_iinc Z.1 Z.2.1 d hl hk hv hn hl2 (fun ls hl => (k H locs ls hP hD hS hl))
theorem g_iadd (Z : gZ p s m args meth c cc nL own Ts A D cl tys) {x y : Int32} (d : decode cc pc = .ok (.iadd, 1)) (k : gW p l e R s m args below meth c nL A D cl cells slots Q ws lv (pc + 1) (.int (x + y) :: st)) : gW p l e R s m args below meth c nL A D cl cells slots Q ws lv (pc) (.int y :: .int x :: st) := fun H locs ls hP hD hS hl => lv_iadd Z.1 Z.2.1 d (k H locs ls hP hD hS hl)
theorem g_isub (Z : gZ p s m args meth c cc nL own Ts A D cl tys) {x y : Int32} (d : decode cc pc = .ok (.isub, 1)) (k : gW p l e R s m args below meth c nL A D cl cells slots Q ws lv (pc + 1) (.int (x - y) :: st)) : gW p l e R s m args below meth c nL A D cl cells slots Q ws lv (pc) (.int y :: .int x :: st) := fun H locs ls hP hD hS hl => lv_isub Z.1 Z.2.1 d (k H locs ls hP hD hS hl)
theorem g_imul (Z : gZ p s m args meth c cc nL own Ts A D cl tys) {x y : Int32} (d : decode cc pc = .ok (.imul, 1)) (k : gW p l e R s m args below meth c nL A D cl cells slots Q ws lv (pc + 1) (.int (x * y) :: st)) : gW p l e R s m args below meth c nL A D cl cells slots Q ws lv (pc) (.int y :: .int x :: st) := fun H locs ls hP hD hS hl => lv_imul Z.1 Z.2.1 d (k H locs ls hP hD hS hl)
theorem g_iand (Z : gZ p s m args meth c cc nL own Ts A D cl tys) {x y : Int32} (d : decode cc pc = .ok (.iand, 1)) (k : gW p l e R s m args below meth c nL A D cl cells slots Q ws lv (pc + 1) (.int (x &&& y) :: st)) : gW p l e R s m args below meth c nL A D cl cells slots Q ws lv (pc) (.int y :: .int x :: st) := fun H locs ls hP hD hS hl => lv_iand Z.1 Z.2.1 d (k H locs ls hP hD hS hl)
theorem g_ior (Z : gZ p s m args meth c cc nL own Ts A D cl tys) {x y : Int32} (d : decode cc pc = .ok (.ior, 1)) (k : gW p l e R s m args below meth c nL A D cl cells slots Q ws lv (pc + 1) (.int (x ||| y) :: st)) : gW p l e R s m args below meth c nL A D cl cells slots Q ws lv (pc) (.int y :: .int x :: st) := fun H locs ls hP hD hS hl => lv_ior Z.1 Z.2.1 d (k H locs ls hP hD hS hl)
theorem g_ixor (Z : gZ p s m args meth c cc nL own Ts A D cl tys) {x y : Int32} (d : decode cc pc = .ok (.ixor, 1)) (k : gW p l e R s m args below meth c nL A D cl cells slots Q ws lv (pc + 1) (.int (x ^^^ y) :: st)) : gW p l e R s m args below meth c nL A D cl cells slots Q ws lv (pc) (.int y :: .int x :: st) := fun H locs ls hP hD hS hl => lv_ixor Z.1 Z.2.1 d (k H locs ls hP hD hS hl)
theorem g_ishl (Z : gZ p s m args meth c cc nL own Ts A D cl tys) {x y : Int32} (d : decode cc pc = .ok (.ishl, 1)) (k : gW p l e R s m args below meth c nL A D cl cells slots Q ws lv (pc + 1) (.int (x <<< (y &&& 31)) :: st)) : gW p l e R s m args below meth c nL A D cl cells slots Q ws lv (pc) (.int y :: .int x :: st) := fun H locs ls hP hD hS hl => lv_ishl Z.1 Z.2.1 d (k H locs ls hP hD hS hl)
theorem g_ishr (Z : gZ p s m args meth c cc nL own Ts A D cl tys) {x y : Int32} (d : decode cc pc = .ok (.ishr, 1)) (k : gW p l e R s m args below meth c nL A D cl cells slots Q ws lv (pc + 1) (.int (x >>> (y &&& 31)) :: st)) : gW p l e R s m args below meth c nL A D cl cells slots Q ws lv (pc) (.int y :: .int x :: st) := fun H locs ls hP hD hS hl => lv_ishr Z.1 Z.2.1 d (k H locs ls hP hD hS hl)
theorem g_idiv (Z : gZ p s m args meth c cc nL own Ts A D cl tys) {x y : Int32} (d : decode cc pc = .ok (.idiv, 1)) (h0 : ¬ y = 0) (k : gW p l e R s m args below meth c nL A D cl cells slots Q ws lv (pc + 1) (.int (x / y) :: st)) : gW p l e R s m args below meth c nL A D cl cells slots Q ws lv (pc) (.int y :: .int x :: st) := fun H locs ls hP hD hS hl => lv_idiv Z.1 Z.2.1 d h0 (k H locs ls hP hD hS hl)
theorem g_irem (Z : gZ p s m args meth c cc nL own Ts A D cl tys) {x y : Int32} (d : decode cc pc = .ok (.irem, 1)) (h0 : ¬ y = 0) (k : gW p l e R s m args below meth c nL A D cl cells slots Q ws lv (pc + 1) (.int (x - x / y * y) :: st)) : gW p l e R s m args below meth c nL A D cl cells slots Q ws lv (pc) (.int y :: .int x :: st) := fun H locs ls hP hD hS hl => lv_irem Z.1 Z.2.1 d h0 (k H locs ls hP hD hS hl)
theorem g_ineg (Z : gZ p s m args meth c cc nL own Ts A D cl tys) {x : Int32} (d : decode cc pc = .ok (.ineg, 1)) (k : gW p l e R s m args below meth c nL A D cl cells slots Q ws lv (pc + 1) (.int (-x) :: st)) : gW p l e R s m args below meth c nL A D cl cells slots Q ws lv (pc) (.int x :: st) := fun H locs ls hP hD hS hl => lv_ineg Z.1 Z.2.1 d (k H locs ls hP hD hS hl)
theorem g_lneg (Z : gZ p s m args meth c cc nL own Ts A D cl tys) {x : Int64} (d : decode cc pc = .ok (.lneg, 1)) (k : gW p l e R s m args below meth c nL A D cl cells slots Q ws lv (pc + 1) (.long (-x) :: st)) : gW p l e R s m args below meth c nL A D cl cells slots Q ws lv (pc) (.long x :: st) := fun H locs ls hP hD hS hl => lv_lneg Z.1 Z.2.1 d (k H locs ls hP hD hS hl)
theorem g_ladd (Z : gZ p s m args meth c cc nL own Ts A D cl tys) {x y : Int64} (d : decode cc pc = .ok (.ladd, 1)) (k : gW p l e R s m args below meth c nL A D cl cells slots Q ws lv (pc + 1) (.long (x + y) :: st)) : gW p l e R s m args below meth c nL A D cl cells slots Q ws lv (pc) (.long y :: .long x :: st) := fun H locs ls hP hD hS hl => lv_ladd Z.1 Z.2.1 d (k H locs ls hP hD hS hl)
theorem g_lsub (Z : gZ p s m args meth c cc nL own Ts A D cl tys) {x y : Int64} (d : decode cc pc = .ok (.lsub, 1)) (k : gW p l e R s m args below meth c nL A D cl cells slots Q ws lv (pc + 1) (.long (x - y) :: st)) : gW p l e R s m args below meth c nL A D cl cells slots Q ws lv (pc) (.long y :: .long x :: st) := fun H locs ls hP hD hS hl => lv_lsub Z.1 Z.2.1 d (k H locs ls hP hD hS hl)
theorem g_lmul (Z : gZ p s m args meth c cc nL own Ts A D cl tys) {x y : Int64} (d : decode cc pc = .ok (.lmul, 1)) (k : gW p l e R s m args below meth c nL A D cl cells slots Q ws lv (pc + 1) (.long (x * y) :: st)) : gW p l e R s m args below meth c nL A D cl cells slots Q ws lv (pc) (.long y :: .long x :: st) := fun H locs ls hP hD hS hl => lv_lmul Z.1 Z.2.1 d (k H locs ls hP hD hS hl)
theorem g_land (Z : gZ p s m args meth c cc nL own Ts A D cl tys) {x y : Int64} (d : decode cc pc = .ok (.land, 1)) (k : gW p l e R s m args below meth c nL A D cl cells slots Q ws lv (pc + 1) (.long (x &&& y) :: st)) : gW p l e R s m args below meth c nL A D cl cells slots Q ws lv (pc) (.long y :: .long x :: st) := fun H locs ls hP hD hS hl => lv_land Z.1 Z.2.1 d (k H locs ls hP hD hS hl)
theorem g_lor (Z : gZ p s m args meth c cc nL own Ts A D cl tys) {x y : Int64} (d : decode cc pc = .ok (.lor, 1)) (k : gW p l e R s m args below meth c nL A D cl cells slots Q ws lv (pc + 1) (.long (x ||| y) :: st)) : gW p l e R s m args below meth c nL A D cl cells slots Q ws lv (pc) (.long y :: .long x :: st) := fun H locs ls hP hD hS hl => lv_lor Z.1 Z.2.1 d (k H locs ls hP hD hS hl)
theorem g_lxor (Z : gZ p s m args meth c cc nL own Ts A D cl tys) {x y : Int64} (d : decode cc pc = .ok (.lxor, 1)) (k : gW p l e R s m args below meth c nL A D cl cells slots Q ws lv (pc + 1) (.long (x ^^^ y) :: st)) : gW p l e R s m args below meth c nL A D cl cells slots Q ws lv (pc) (.long y :: .long x :: st) := fun H locs ls hP hD hS hl => lv_lxor Z.1 Z.2.1 d (k H locs ls hP hD hS hl)
theorem g_lshl (Z : gZ p s m args meth c cc nL own Ts A D cl tys) {x : Int64} {y : Int32} (d : decode cc pc = .ok (.lshl, 1)) (k : gW p l e R s m args below meth c nL A D cl cells slots Q ws lv (pc + 1) (.long (x <<< (y.toInt64 &&& 63)) :: st)) : gW p l e R s m args below meth c nL A D cl cells slots Q ws lv (pc) (.int y :: .long x :: st) := fun H locs ls hP hD hS hl => lv_lshl Z.1 Z.2.1 d rfl (k H locs ls hP hD hS hl)
theorem g_lshr (Z : gZ p s m args meth c cc nL own Ts A D cl tys) {x : Int64} {y : Int32} (d : decode cc pc = .ok (.lshr, 1)) (k : gW p l e R s m args below meth c nL A D cl cells slots Q ws lv (pc + 1) (.long (x >>> (y.toInt64 &&& 63)) :: st)) : gW p l e R s m args below meth c nL A D cl cells slots Q ws lv (pc) (.int y :: .long x :: st) := fun H locs ls hP hD hS hl => lv_lshr Z.1 Z.2.1 d rfl (k H locs ls hP hD hS hl)
theorem g_i2l (Z : gZ p s m args meth c cc nL own Ts A D cl tys) {x : Int32} (d : decode cc pc = .ok (.i2l, 1)) (k : gW p l e R s m args below meth c nL A D cl cells slots Q ws lv (pc + 1) (.long x.toInt64 :: st)) : gW p l e R s m args below meth c nL A D cl cells slots Q ws lv (pc) (.int x :: st) := fun H locs ls hP hD hS hl => lv_i2l Z.1 Z.2.1 d rfl (k H locs ls hP hD hS hl)
theorem g_l2i (Z : gZ p s m args meth c cc nL own Ts A D cl tys) {x : Int64} (d : decode cc pc = .ok (.l2i, 1)) (k : gW p l e R s m args below meth c nL A D cl cells slots Q ws lv (pc + 1) (.int x.toInt32 :: st)) : gW p l e R s m args below meth c nL A D cl cells slots Q ws lv (pc) (.long x :: st) := fun H locs ls hP hD hS hl => lv_l2i Z.1 Z.2.1 d rfl (k H locs ls hP hD hS hl)
theorem g_lcmp (Z : gZ p s m args meth c cc nL own Ts A D cl tys) {x y : Int64} (d : decode cc pc = .ok (.lcmp, 1)) (k : gW p l e R s m args below meth c nL A D cl cells slots Q ws lv (pc + 1) (.int (lg_cmp x y) :: st)) : gW p l e R s m args below meth c nL A D cl cells slots Q ws lv (pc) (.long y :: .long x :: st) := fun H locs ls hP hD hS hl => W.lcmp Z.1 Z.2.1 d (k H locs ls hP hD hS hl)
theorem g_dup (Z : gZ p s m args meth c cc nL own Ts A D cl tys) {va : Value} (d : decode cc pc = .ok (.dup, 1)) (hva : va.category = 1) (k : gW p l e R s m args below meth c nL A D cl cells slots Q ws lv (pc + 1) (va :: va :: st)) : gW p l e R s m args below meth c nL A D cl cells slots Q ws lv (pc) (va :: st) := fun H locs ls hP hD hS hl => lv_dup Z.1 Z.2.1 d hva (k H locs ls hP hD hS hl)
theorem g_pop (Z : gZ p s m args meth c cc nL own Ts A D cl tys) {va : Value} (d : decode cc pc = .ok (.pop, 1)) (hva : va.category = 1) (k : gW p l e R s m args below meth c nL A D cl cells slots Q ws lv (pc + 1) (st)) : gW p l e R s m args below meth c nL A D cl cells slots Q ws lv (pc) (va :: st) := fun H locs ls hP hD hS hl => lv_pop Z.1 Z.2.1 d hva (k H locs ls hP hD hS hl)
theorem g_dup_x1 (Z : gZ p s m args meth c cc nL own Ts A D cl tys) {va vb : Value} (d : decode cc pc = .ok (.dup_x1, 1)) (hva : va.category = 1) (hvb : vb.category = 1) (k : gW p l e R s m args below meth c nL A D cl cells slots Q ws lv (pc + 1) (va :: vb :: va :: st)) : gW p l e R s m args below meth c nL A D cl cells slots Q ws lv (pc) (va :: vb :: st) := fun H locs ls hP hD hS hl => lv_dup_x1 Z.1 Z.2.1 d hva hvb (k H locs ls hP hD hS hl)
theorem g_dup2_11 (Z : gZ p s m args meth c cc nL own Ts A D cl tys) {va vb : Value} (d : decode cc pc = .ok (.dup2, 1)) (hva : va.category = 1) (hvb : vb.category = 1) (k : gW p l e R s m args below meth c nL A D cl cells slots Q ws lv (pc + 1) (va :: vb :: va :: vb :: st)) : gW p l e R s m args below meth c nL A D cl cells slots Q ws lv (pc) (va :: vb :: st) := fun H locs ls hP hD hS hl => lv_dup2_11 Z.1 Z.2.1 d hva hvb (k H locs ls hP hD hS hl)
theorem g_dup2_2 (Z : gZ p s m args meth c cc nL own Ts A D cl tys) {va : Value} (d : decode cc pc = .ok (.dup2, 1)) (hva : va.category = 2) (k : gW p l e R s m args below meth c nL A D cl cells slots Q ws lv (pc + 1) (va :: va :: st)) : gW p l e R s m args below meth c nL A D cl cells slots Q ws lv (pc) (va :: st) := fun H locs ls hP hD hS hl => lv_dup2_2 Z.1 Z.2.1 d hva (k H locs ls hP hD hS hl)
theorem g_goto (Z : gZ p s m args meth c cc nL own Ts A D cl tys) {off : Int} {tgt : Nat} (d : decode cc pc = .ok (.goto off, 3)) (ht : (pc : Int) + off = (tgt : Int)) (k : gW p l e R s m args below meth c nL A D cl cells slots Q ws lv (tgt) (st)) : gW p l e R s m args below meth c nL A D cl cells slots Q ws lv (pc) (st) := fun H locs ls hP hD hS hl => lv_goto Z.1 Z.2.1 d ht (k H locs ls hP hD hS hl)
theorem g_if_eq (Z : gZ p s m args meth c cc nL own Ts A D cl tys) {x : Int32} {off : Int} {tgt : Nat} (d : decode cc pc = .ok (.ifCond .eq off, 3)) (ht : (pc : Int) + off = (tgt : Int)) (kt : x = 0 → gW p l e R s m args below meth c nL A D cl cells slots Q ws lv (tgt) (st)) (kf : ¬ x = 0 → gW p l e R s m args below meth c nL A D cl cells slots Q ws lv (pc + 3) (st)) : gW p l e R s m args below meth c nL A D cl cells slots Q ws lv (pc) (.int x :: st) := fun H locs ls hP hD hS hl => lv_if_eq Z.1 Z.2.1 d ht (fun h => kt h H locs ls hP hD hS hl) (fun h => kf h H locs ls hP hD hS hl)
theorem g_icmp_eq (Z : gZ p s m args meth c cc nL own Ts A D cl tys) {x y : Int32} {off : Int} {tgt : Nat} (d : decode cc pc = .ok (.if_icmp .eq off, 3)) (ht : (pc : Int) + off = (tgt : Int)) (kt : x = y → gW p l e R s m args below meth c nL A D cl cells slots Q ws lv (tgt) (st)) (kf : ¬ x = y → gW p l e R s m args below meth c nL A D cl cells slots Q ws lv (pc + 3) (st)) : gW p l e R s m args below meth c nL A D cl cells slots Q ws lv (pc) (.int y :: .int x :: st) := fun H locs ls hP hD hS hl => lv_icmp_eq Z.1 Z.2.1 d ht (fun h => kt h H locs ls hP hD hS hl) (fun h => kf h H locs ls hP hD hS hl)
theorem g_if_ne (Z : gZ p s m args meth c cc nL own Ts A D cl tys) {x : Int32} {off : Int} {tgt : Nat} (d : decode cc pc = .ok (.ifCond .ne off, 3)) (ht : (pc : Int) + off = (tgt : Int)) (kt : ¬ x = 0 → gW p l e R s m args below meth c nL A D cl cells slots Q ws lv (tgt) (st)) (kf : x = 0 → gW p l e R s m args below meth c nL A D cl cells slots Q ws lv (pc + 3) (st)) : gW p l e R s m args below meth c nL A D cl cells slots Q ws lv (pc) (.int x :: st) := fun H locs ls hP hD hS hl => lv_if_ne Z.1 Z.2.1 d ht (fun h => kt h H locs ls hP hD hS hl) (fun h => kf h H locs ls hP hD hS hl)
theorem g_icmp_ne (Z : gZ p s m args meth c cc nL own Ts A D cl tys) {x y : Int32} {off : Int} {tgt : Nat} (d : decode cc pc = .ok (.if_icmp .ne off, 3)) (ht : (pc : Int) + off = (tgt : Int)) (kt : ¬ x = y → gW p l e R s m args below meth c nL A D cl cells slots Q ws lv (tgt) (st)) (kf : x = y → gW p l e R s m args below meth c nL A D cl cells slots Q ws lv (pc + 3) (st)) : gW p l e R s m args below meth c nL A D cl cells slots Q ws lv (pc) (.int y :: .int x :: st) := fun H locs ls hP hD hS hl => lv_icmp_ne Z.1 Z.2.1 d ht (fun h => kt h H locs ls hP hD hS hl) (fun h => kf h H locs ls hP hD hS hl)
theorem g_if_lt (Z : gZ p s m args meth c cc nL own Ts A D cl tys) {x : Int32} {off : Int} {tgt : Nat} (d : decode cc pc = .ok (.ifCond .lt off, 3)) (ht : (pc : Int) + off = (tgt : Int)) (kt : x < 0 → gW p l e R s m args below meth c nL A D cl cells slots Q ws lv (tgt) (st)) (kf : ¬ x < 0 → gW p l e R s m args below meth c nL A D cl cells slots Q ws lv (pc + 3) (st)) : gW p l e R s m args below meth c nL A D cl cells slots Q ws lv (pc) (.int x :: st) := fun H locs ls hP hD hS hl => lv_if_lt Z.1 Z.2.1 d ht (fun h => kt h H locs ls hP hD hS hl) (fun h => kf h H locs ls hP hD hS hl)
theorem g_icmp_lt (Z : gZ p s m args meth c cc nL own Ts A D cl tys) {x y : Int32} {off : Int} {tgt : Nat} (d : decode cc pc = .ok (.if_icmp .lt off, 3)) (ht : (pc : Int) + off = (tgt : Int)) (kt : x < y → gW p l e R s m args below meth c nL A D cl cells slots Q ws lv (tgt) (st)) (kf : ¬ x < y → gW p l e R s m args below meth c nL A D cl cells slots Q ws lv (pc + 3) (st)) : gW p l e R s m args below meth c nL A D cl cells slots Q ws lv (pc) (.int y :: .int x :: st) := fun H locs ls hP hD hS hl => lv_icmp_lt Z.1 Z.2.1 d ht (fun h => kt h H locs ls hP hD hS hl) (fun h => kf h H locs ls hP hD hS hl)
theorem g_if_ge (Z : gZ p s m args meth c cc nL own Ts A D cl tys) {x : Int32} {off : Int} {tgt : Nat} (d : decode cc pc = .ok (.ifCond .ge off, 3)) (ht : (pc : Int) + off = (tgt : Int)) (kt : 0 ≤ x → gW p l e R s m args below meth c nL A D cl cells slots Q ws lv (tgt) (st)) (kf : ¬ 0 ≤ x → gW p l e R s m args below meth c nL A D cl cells slots Q ws lv (pc + 3) (st)) : gW p l e R s m args below meth c nL A D cl cells slots Q ws lv (pc) (.int x :: st) := fun H locs ls hP hD hS hl => lv_if_ge Z.1 Z.2.1 d ht (fun h => kt h H locs ls hP hD hS hl) (fun h => kf h H locs ls hP hD hS hl)
theorem g_icmp_ge (Z : gZ p s m args meth c cc nL own Ts A D cl tys) {x y : Int32} {off : Int} {tgt : Nat} (d : decode cc pc = .ok (.if_icmp .ge off, 3)) (ht : (pc : Int) + off = (tgt : Int)) (kt : y ≤ x → gW p l e R s m args below meth c nL A D cl cells slots Q ws lv (tgt) (st)) (kf : ¬ y ≤ x → gW p l e R s m args below meth c nL A D cl cells slots Q ws lv (pc + 3) (st)) : gW p l e R s m args below meth c nL A D cl cells slots Q ws lv (pc) (.int y :: .int x :: st) := fun H locs ls hP hD hS hl => lv_icmp_ge Z.1 Z.2.1 d ht (fun h => kt h H locs ls hP hD hS hl) (fun h => kf h H locs ls hP hD hS hl)
theorem g_if_gt (Z : gZ p s m args meth c cc nL own Ts A D cl tys) {x : Int32} {off : Int} {tgt : Nat} (d : decode cc pc = .ok (.ifCond .gt off, 3)) (ht : (pc : Int) + off = (tgt : Int)) (kt : 0 < x → gW p l e R s m args below meth c nL A D cl cells slots Q ws lv (tgt) (st)) (kf : ¬ 0 < x → gW p l e R s m args below meth c nL A D cl cells slots Q ws lv (pc + 3) (st)) : gW p l e R s m args below meth c nL A D cl cells slots Q ws lv (pc) (.int x :: st) := fun H locs ls hP hD hS hl => lv_if_gt Z.1 Z.2.1 d ht (fun h => kt h H locs ls hP hD hS hl) (fun h => kf h H locs ls hP hD hS hl)
theorem g_icmp_gt (Z : gZ p s m args meth c cc nL own Ts A D cl tys) {x y : Int32} {off : Int} {tgt : Nat} (d : decode cc pc = .ok (.if_icmp .gt off, 3)) (ht : (pc : Int) + off = (tgt : Int)) (kt : y < x → gW p l e R s m args below meth c nL A D cl cells slots Q ws lv (tgt) (st)) (kf : ¬ y < x → gW p l e R s m args below meth c nL A D cl cells slots Q ws lv (pc + 3) (st)) : gW p l e R s m args below meth c nL A D cl cells slots Q ws lv (pc) (.int y :: .int x :: st) := fun H locs ls hP hD hS hl => lv_icmp_gt Z.1 Z.2.1 d ht (fun h => kt h H locs ls hP hD hS hl) (fun h => kf h H locs ls hP hD hS hl)
theorem g_if_le (Z : gZ p s m args meth c cc nL own Ts A D cl tys) {x : Int32} {off : Int} {tgt : Nat} (d : decode cc pc = .ok (.ifCond .le off, 3)) (ht : (pc : Int) + off = (tgt : Int)) (kt : x ≤ 0 → gW p l e R s m args below meth c nL A D cl cells slots Q ws lv (tgt) (st)) (kf : ¬ x ≤ 0 → gW p l e R s m args below meth c nL A D cl cells slots Q ws lv (pc + 3) (st)) : gW p l e R s m args below meth c nL A D cl cells slots Q ws lv (pc) (.int x :: st) := fun H locs ls hP hD hS hl => lv_if_le Z.1 Z.2.1 d ht (fun h => kt h H locs ls hP hD hS hl) (fun h => kf h H locs ls hP hD hS hl)
theorem g_icmp_le (Z : gZ p s m args meth c cc nL own Ts A D cl tys) {x y : Int32} {off : Int} {tgt : Nat} (d : decode cc pc = .ok (.if_icmp .le off, 3)) (ht : (pc : Int) + off = (tgt : Int)) (kt : x ≤ y → gW p l e R s m args below meth c nL A D cl cells slots Q ws lv (tgt) (st)) (kf : ¬ x ≤ y → gW p l e R s m args below meth c nL A D cl cells slots Q ws lv (pc + 3) (st)) : gW p l e R s m args below meth c nL A D cl cells slots Q ws lv (pc) (.int y :: .int x :: st) := fun H locs ls hP hD hS hl => lv_icmp_le Z.1 Z.2.1 d ht (fun h => kt h H locs ls hP hD hS hl) (fun h => kf h H locs ls hP hD hS hl)
theorem g_get (Z : gZ p s m args meth c cc nL own Ts A D cl tys) {ref C : String} {T : u_T} {N ci index a : Nat} {fs : List Value} {v : Value} (q0 k0 : Nat) (d : decode cc pc = .ok (.getfield index, 3)) (hlink : Cond.fieldLink own index ref (T k0).2.1 (T k0).2.2.1 ∈ Ts) (hin : ∀ w ∈ u_ws C T N, w ∈ Ts) (hr : (T k0).1 = ref) (hk : k0 < N) (hc : cl[ci]? = some (C, T, N)) (he : ws[q0]? = some (a, .inr (ci, fs))) (hv : fs[k0]? = some v) (k : gW p l e R s m args below meth c nL A D cl cells slots Q ws lv (pc + 3) (v :: st)) : gW p l e R s m args below meth c nL A D cl cells slots Q ws lv (pc) (.ref a :: st) := fun H locs ls hP hD hS hl => va_get Z.1 Z.2.1 Z.2.2.2.2.1 hin Z.2.2.2.1 Z.2.2.2.2.2.1 hP q0 he hc k0 hk (Z.2.2.2.2.1 _ hlink) (fun _ h9 => hr ▸ h9) hv d (k H locs ls hP hD hS hl)
theorem g_put (Z : gZ p s m args meth c cc nL own Ts A D cl tys) {ref C : String} {T : u_T} {N ci index a : Nat} {fs : List Value} {v : Value} {ty : FieldType} {ty0 : Nat → FieldType} (q0 k0 : Nat) (d : decode cc pc = .ok (.putfield index, 3)) (hlink : Cond.fieldLink own index ref (T k0).2.1 (T k0).2.2.1 ∈ Ts) (hin : ∀ w ∈ u_ws C T N, w ∈ Ts) (hty : ∀ k, k < N → parseFieldDescriptor (T k).2.2.1 = some (ty0 k)) (hnm : ∀ a, a < N → ∀ b, b < N → a ≠ b → (T a).2.1 ≠ (T b).2.1) (hr : (T k0).1 = ref) (hk : k0 < N) (hfin : (T k0).2.2.2 = false) (hd : ty0 k0 = ty) (hc : cl[ci]? = some (C, T, N)) (he : ws[q0]? = some (a, .inr (ci, fs))) (hn : narrow ty v = v) (hfit : fits ty v = true) (hfs : k0 < fs.length) (hw : ws.set q0 (a, .inr (ci, fs.set k0 v)) = ws') (k : gW p l e R s m args below meth c nL A D cl cells slots Q ws' lv (pc + 3) (st)) : gW p l e R s m args below meth c nL A D cl cells slots Q ws lv (pc) (v :: .ref a :: st) := fun H locs ls hP hD hS hl => va_put Z.1 Z.2.1 Z.2.2.2.2.1 hin ty0 hty hnm Z.2.2.2.1 Z.2.2.2.2.2.1 hP hD hS q0 he hc k0 hk (Z.2.2.2.2.1 _ hlink) (fun _ h9 => hr ▸ h9) hfin (hd ▸ hty k0 hk) hn hfit hfs d (fun H1 locs1 hP hD hS => k H1 locs1 ls (hw ▸ hP) (hw ▸ hD) hS hl)
theorem g_putF (Z : gZ p s m args meth c cc nL own Ts A D cl tys) {ref C : String} {T : u_T} {N ci index a : Nat} {fs : List Value} {v : Value} {ty : FieldType} {ty0 : Nat → FieldType} (q0 k0 : Nat) (d : decode cc pc = .ok (.putfield index, 3)) (hlink : Cond.fieldLink own index ref (T k0).2.1 (T k0).2.2.1 ∈ Ts) (hin : ∀ w ∈ u_ws C T N, w ∈ Ts) (hty : ∀ k, k < N → parseFieldDescriptor (T k).2.2.1 = some (ty0 k)) (hnm : ∀ a, a < N → ∀ b, b < N → a ≠ b → (T a).2.1 ≠ (T b).2.1) (hr : (T k0).1 = ref) (hk : k0 < N) (hfin : (T k0).2.2.2 = true) (hini : meth.name = "<init>") (hdecl : (T k0).1 = own) (hd : ty0 k0 = ty) (hc : cl[ci]? = some (C, T, N)) (he : ws[q0]? = some (a, .inr (ci, fs))) (hn : narrow ty v = v) (hfit : fits ty v = true) (hfs : k0 < fs.length) (hw : ws.set q0 (a, .inr (ci, fs.set k0 v)) = ws') (k : gW p l e R s m args below meth c nL A D cl cells slots Q ws' lv (pc + 3) (st)) : gW p l e R s m args below meth c nL A D cl cells slots Q ws lv (pc) (v :: .ref a :: st) := fun H locs ls hP hD hS hl => va_putF Z.1 Z.2.1 Z.2.2.2.2.1 hin ty0 hty hnm Z.2.2.2.1 Z.2.2.2.2.2.1 hP hD hS q0 he hc k0 hk (Z.2.2.2.2.1 _ hlink) (fun _ h9 => hr ▸ h9) hfin hini hdecl (hd ▸ hty k0 hk) hn hfit hfs d (fun H1 locs1 hP hD hS => k H1 locs1 ls (hw ▸ hP) (hw ▸ hD) hS hl)
theorem g_iald (Z : gZ p s m args meth c cc nL own Ts A D cl tys) {a : Nat} {cA : ClassId} {n : Nat} {f : Nat → Int32} {i : Int32} (q0 t0 : Nat) (d : decode cc pc = .ok (.iaload, 1)) (ha : ws[q0]? = some (a, .inl (cA, n, .inl f))) (ht : tys[t0]? = some (cA, .int)) (hi : vp_in i n) (k : gW p l e R s m args below meth c nL A D cl cells slots Q ws lv (pc + 1) (.int (f i.toNatClampNeg) :: st)) : gW p l e R s m args below meth c nL A D cl cells slots Q ws lv (pc) (.int i :: .ref a :: st) := fun H locs ls hP hD hS hl => va_iald Z.1 Z.2.1 Z.2.2.2.2.2.1 hP q0 t0 ha ht hi d (k H locs ls hP hD hS hl)
theorem g_zald (Z : gZ p s m args meth c cc nL own Ts A D cl tys) {a : Nat} {cA : ClassId} {n : Nat} {f : Nat → Int32} {i : Int32} (q0 t0 : Nat) (d : decode cc pc = .ok (.baload, 1)) (ha : ws[q0]? = some (a, .inl (cA, n, .inl f))) (ht : tys[t0]? = some (cA, .boolean)) (hi : vp_in i n) (k : gW p l e R s m args below meth c nL A D cl cells slots Q ws lv (pc + 1) (.int (f i.toNatClampNeg) :: st)) : gW p l e R s m args below meth c nL A D cl cells slots Q ws lv (pc) (.int i :: .ref a :: st) := fun H locs ls hP hD hS hl => va_zald Z.1 Z.2.1 Z.2.2.2.2.2.1 hP q0 t0 ha ht hi d (k H locs ls hP hD hS hl)
theorem g_lald (Z : gZ p s m args meth c cc nL own Ts A D cl tys) {a : Nat} {cA : ClassId} {n : Nat} {f : Nat → Int64} {i : Int32} (q0 t0 : Nat) (d : decode cc pc = .ok (.laload, 1)) (ha : ws[q0]? = some (a, .inl (cA, n, .inr (.inl f)))) (ht : tys[t0]? = some (cA, .long)) (hi : vp_in i n) (k : gW p l e R s m args below meth c nL A D cl cells slots Q ws lv (pc + 1) (.long (f i.toNatClampNeg) :: st)) : gW p l e R s m args below meth c nL A D cl cells slots Q ws lv (pc) (.int i :: .ref a :: st) := fun H locs ls hP hD hS hl => va_lald Z.1 Z.2.1 Z.2.2.2.2.2.1 hP q0 t0 ha ht hi d (k H locs ls hP hD hS hl)
theorem g_iast (Z : gZ p s m args meth c cc nL own Ts A D cl tys) {a : Nat} {cA : ClassId} {n : Nat} {f : Nat → Int32} {i : Int32} {x : Int32} (q0 t0 : Nat) (d : decode cc pc = .ok (.iastore, 1)) (ha : ws[q0]? = some (a, .inl (cA, n, .inl f))) (ht : tys[t0]? = some (cA, .int)) (hi : vp_in i n) (hw : ws.set q0 (a, .inl (cA, n, .inl (upd f i.toNatClampNeg x))) = ws') (k : gW p l e R s m args below meth c nL A D cl cells slots Q ws' lv (pc + 1) (st)) : gW p l e R s m args below meth c nL A D cl cells slots Q ws lv (pc) (.int x :: .int i :: .ref a :: st) := fun H locs ls hP hD hS hl => va_iast Z.1 Z.2.1 Z.2.2.2.2.2.1 hP hD hS q0 t0 ha ht hi d (fun H1 locs1 hP hD hS => k H1 locs1 ls (hw ▸ hP) (hw ▸ hD) hS hl)
theorem g_zast (Z : gZ p s m args meth c cc nL own Ts A D cl tys) {a : Nat} {cA : ClassId} {n : Nat} {f : Nat → Int32} {i : Int32} {x : Int32} (q0 t0 : Nat) (d : decode cc pc = .ok (.bastore, 1)) (ha : ws[q0]? = some (a, .inl (cA, n, .inl f))) (ht : tys[t0]? = some (cA, .boolean)) (hi : vp_in i n) (hw : ws.set q0 (a, .inl (cA, n, .inl (upd f i.toNatClampNeg (vp_nar .boolean x)))) = ws') (k : gW p l e R s m args below meth c nL A D cl cells slots Q ws' lv (pc + 1) (st)) : gW p l e R s m args below meth c nL A D cl cells slots Q ws lv (pc) (.int x :: .int i :: .ref a :: st) := fun H locs ls hP hD hS hl => va_zast Z.1 Z.2.1 Z.2.2.2.2.2.1 hP hD hS q0 t0 ha ht hi d (fun H1 locs1 hP hD hS => k H1 locs1 ls (hw ▸ hP) (hw ▸ hD) hS hl)
theorem g_last (Z : gZ p s m args meth c cc nL own Ts A D cl tys) {a : Nat} {cA : ClassId} {n : Nat} {f : Nat → Int64} {i : Int32} {x : Int64} (q0 t0 : Nat) (d : decode cc pc = .ok (.lastore, 1)) (ha : ws[q0]? = some (a, .inl (cA, n, .inr (.inl f)))) (ht : tys[t0]? = some (cA, .long)) (hi : vp_in i n) (hw : ws.set q0 (a, .inl (cA, n, .inr (.inl (vp_updL f i.toNatClampNeg x)))) = ws') (k : gW p l e R s m args below meth c nL A D cl cells slots Q ws' lv (pc + 1) (st)) : gW p l e R s m args below meth c nL A D cl cells slots Q ws lv (pc) (.long x :: .int i :: .ref a :: st) := fun H locs ls hP hD hS hl => va_last Z.1 Z.2.1 Z.2.2.2.2.2.1 hP hD hS q0 t0 ha ht hi d (fun H1 locs1 hP hD hS => k H1 locs1 ls (hw ▸ hP) (hw ▸ hD) hS hl)
theorem g_copyl (Z : gZ p s m args meth c cc nL own Ts A D cl tys) {index a a0 : Nat} {c0 c1 : ClassId} {n0 n1 : Nat} {f g : Nat → Int64} {sp dp n : Int32} (q0 q1 t0 t1 : Nat) (d : decode cc pc = .ok (.invokestatic index, 3)) (hlink : Cond.methodLink own index arraycopyName ∈ Ts) (hnat : Cond.native arraycopyName ∈ Ts) (hstat : Cond.static arraycopyName ∈ Ts) (hini : Cond.initialized "java/lang/System" ∈ Ts) (ha0 : ws[q0]? = some (a0, .inl (c0, n0, .inr (.inl f)))) (ha1 : ws[q1]? = some (a, .inl (c1, n1, .inr (.inl g)))) (ht0 : tys[t0]? = some (c0, .long)) (ht1 : tys[t1]? = some (c1, .long)) (h1 : ¬ sp < 0) (h2 : ¬ dp < 0) (h3 : ¬ n < 0) (h4 : sp.toNatClampNeg + n.toNatClampNeg ≤ n0) (h5 : dp.toNatClampNeg + n.toNatClampNeg ≤ n1) (hframes : 1 ≤ R.frames) (hlocals : (st.map fun v => v.category).sum + (nativeFrameWords "java/lang/System" "arraycopy" 5 + 11) ≤ R.locals) (hw : ws.set q1 (a, .inl (c1, n1, .inr (.inl (va_cpy f g sp.toNatClampNeg dp.toNatClampNeg n.toNatClampNeg)))) = ws') (k : gW p l e R s m args below meth c nL A D cl cells slots Q ws' lv (pc + 3) (st)) : gW p l e R s m args below meth c nL A D cl cells slots Q ws lv (pc) (.int n :: .int dp :: .ref a :: .int sp :: .ref a0 :: st) := fun H locs ls hP hD hS hl => va_copyl Z.1 Z.2.1 (Z.2.2.1.trans hl.1.symm) Z.2.2.2.1 (Z.2.2.2.2.1 _ hlink) (Z.2.2.2.2.1 _ hnat) (Z.2.2.2.2.1 _ hstat) (Z.2.2.2.2.1 _ hini) Z.2.2.2.2.2.1 hP hD hS q0 q1 t0 t1 ha0 ha1 ht0 ht1 rfl h1 h2 h3 h4 h5 (fun _ _ => rfl) hframes hlocals d (fun H1 locs1 hP hD hS => k H1 locs1 ls (hw ▸ hP) (hw ▸ hD) hS hl)
theorem g_mmin (Z : gZ p s m args meth c cc nL own Ts A D cl tys) {index : Nat} {x y : Int32} (d : decode cc pc = .ok (.invokestatic index, 3)) (hlink : Cond.methodLink own index Lib.Math.min.name ∈ Ts) (hstat : Cond.static Lib.Math.min.name ∈ Ts) (hini : Cond.initialized "java/lang/Math" ∈ Ts) (hcode : Cond.code Lib.Math.min.name Lib.Math.min.code 2 (some .int) ∈ Ts) (hframes : 1 ≤ R.frames) (hlocals : (st.map fun v => v.category).sum + 13 ≤ R.locals) (hc : cells ≤ R.cells) (hs : slots ≤ R.slots) (k : gW p l e R s m args below meth c nL A D cl cells slots Q ws lv (pc + 3) (.int (if y < x then y else x) :: st)) : gW p l e R s m args below meth c nL A D cl cells slots Q ws lv (pc) (.int y :: .int x :: st) := fun H locs ls hP hD hS hl => va_mmin Z.1 Z.2.1 (Z.2.2.1.trans hl.1.symm) Z.2.2.2.1 (Z.2.2.2.2.1 _ hlink) (Z.2.2.2.2.1 _ hstat) (Z.2.2.2.2.1 _ hini) (Z.2.2.2.2.1 _ hcode) hframes hlocals hc hs d (k H locs ls hP hD hS hl)
theorem g_mmax (Z : gZ p s m args meth c cc nL own Ts A D cl tys) {index : Nat} {x y : Int32} (d : decode cc pc = .ok (.invokestatic index, 3)) (hlink : Cond.methodLink own index Lib.Math.max.name ∈ Ts) (hstat : Cond.static Lib.Math.max.name ∈ Ts) (hini : Cond.initialized "java/lang/Math" ∈ Ts) (hcode : Cond.code Lib.Math.max.name Lib.Math.max.code 2 (some .int) ∈ Ts) (hframes : 1 ≤ R.frames) (hlocals : (st.map fun v => v.category).sum + 13 ≤ R.locals) (hc : cells ≤ R.cells) (hs : slots ≤ R.slots) (k : gW p l e R s m args below meth c nL A D cl cells slots Q ws lv (pc + 3) (.int (if x < y then y else x) :: st)) : gW p l e R s m args below meth c nL A D cl cells slots Q ws lv (pc) (.int y :: .int x :: st) := fun H locs ls hP hD hS hl => va_mmax Z.1 Z.2.1 (Z.2.2.1.trans hl.1.symm) Z.2.2.2.1 (Z.2.2.2.2.1 _ hlink) (Z.2.2.2.2.1 _ hstat) (Z.2.2.2.2.1 _ hini) (Z.2.2.2.2.1 _ hcode) hframes hlocals hc hs d (k H locs ls hP hD hS hl)
/-- a contract's start and end, in worlds -/
def gP (D : va_G) (cl : List vw_C) (tys : List (ClassId × FieldType)) (wc : va_W) (sz : Nat) : State → Prop := fun U => U.heap.size = sz ∧ va_P D cl wc U.heap ∧ va_K D cl tys U ∧ va_D (fun _ => True) wc ∧ gN U
def gB {S : Type} (D : va_G) (cl : List vw_C) (tys : List (ClassId × FieldType)) (A : Nat → Prop) (w1 : S → va_W) : S → State → Prop := fun u t => va_P D cl (w1 u) t.heap ∧ va_K D cl tys t ∧ va_D A (w1 u)
theorem gP_blind {av : List Value} {wc : va_W} {sz : Nat} : FrameBlind (va_Pc av (gP D cl tys wc sz)) := fun a U g mk q => by
  obtain ⟨q0, q1, qP, qK, qD, qN⟩ := q
  exact ⟨q0, q1, qP, va_K.moved (u := U) (U := U.calling g mk a) (Vm.Alike.refl U.vm) qK, qD, gN.same (s := U) (U := U.calling g mk a) rfl qN⟩
/-- a method's contract out of the walk of its body -/
theorem g_met {y : MethodName} {wsy wsy' : List Cond} {rm : Room} {maxL : Nat} {ret : Option FieldType} {av : List Value} {wc : va_W} {Qc : (Nat → Prop) → Array Value → State → Outcome → State → Prop} {mc ms : Nat}
    (hy : plainName y.cls = true) (hw : wsy = Cond.code y cc maxL ret :: wsy') (ho : y.cls = own) (hlen : (lg_sl av).length ≤ maxL) (hlv : lv_args 0 av = lv) (sz : Nat)
    (body : ∀ (p : Program) (e : Env) (s : State) (m : MethodId) (args : Array Value) (below : List Frame) (meth : Method) (c : Code) (A : Nat → Prop), gZ p s m args meth c cc maxL own wsy A D cl tys → meth.sig.returnType = ret → meth.name = y.name → gW p l e rm s m args below meth c maxL A D cl 0 0 (MQ below (Qc A) args s mc ms A) wc lv 0 []) :
    Met l y wsy rm (va_Pc av (gP D cl tys wc sz)) (Qc (va_A wc sz)) mc ms (va_A wc sz) := by
  refine Met.ofW (cc := cc) (maxL := maxL) (ret := ret) hy hw ?_
  intro p e s m args below meth c s₁ B hml hv
  obtain ⟨rfl, hsz, hP, hK, hD0, hN⟩ := hv
  subst hsz
  have hl := lv_entry av (n := maxL) hlen
  rw [lg_entry_eq]
  rw [hlv] at hl
  exact body p e s m _ below meth c _ ⟨B.exec, B.bytes, hml, ho ▸ findClass_of_methodNamed B.named, atoms_spec (ws := wsy) B.pre, hK, fun q h => Or.inr h, B.notSynchronized, hN⟩ B.returns (name_of_methodNamed B.named B.method).1 _ _ _ hP (hD0.self) va_S.rf hl

theorem g_iret {S : Type} {post : Int32 → S → Prop} {w1 : S → va_W} (Z : gZ p s m args meth c cc nL own Ts A D cl tys) {v : Int32} (hr : meth.sig.returnType = some .int) (d : decode cc pc = .ok (.ireturn, 1)) (u : S) (hu : post v u) (hw : ws = w1 u) : gW p l e R s m args below meth c nL A D cl cells slots (MQ below (va_Qi post (gB D cl tys A w1) A) args s cells slots A) ws lv pc [.int v] := fun H locs ls hP hD hS hl => W.iret Z.1 Z.2.1 hr (fun t ht hW => ⟨⟨v, u, rfl, hu, by rw [ht, ← hw]; exact hP, va_K.moved hW.alike Z.2.2.2.2.2.1, hw ▸ hD⟩, hS.F ht⟩) hS.2.2 d Z.2.2.2.2.2.2.2.1
theorem g_lret {S : Type} {post : Int64 → S → Prop} {w1 : S → va_W} (Z : gZ p s m args meth c cc nL own Ts A D cl tys) {v : Int64} (hr : meth.sig.returnType = some .long) (d : decode cc pc = .ok (.lreturn, 1)) (u : S) (hu : post v u) (hw : ws = w1 u) : gW p l e R s m args below meth c nL A D cl cells slots (MQ below (va_Ql post (gB D cl tys A w1) A) args s cells slots A) ws lv pc [.long v] := fun H locs ls hP hD hS hl => W.lret Z.1 Z.2.1 hr (fun t ht hW => ⟨⟨v, u, rfl, hu, by rw [ht, ← hw]; exact hP, va_K.moved hW.alike Z.2.2.2.2.2.1, hw ▸ hD⟩, hS.F ht⟩) hS.2.2 d Z.2.2.2.2.2.2.2.1
theorem g_zret {S : Type} {post : Int32 → S → Prop} {w1 : S → va_W} (Z : gZ p s m args meth c cc nL own Ts A D cl tys) {v : Int32} (hr : meth.sig.returnType = some .boolean) (hn : narrow .boolean (.int v) = .int v) (d : decode cc pc = .ok (.ireturn, 1)) (u : S) (hu : post v u) (hw : ws = w1 u) : gW p l e R s m args below meth c nL A D cl cells slots (MQ below (va_Qi post (gB D cl tys A w1) A) args s cells slots A) ws lv pc [.int v] := fun H locs ls hP hD hS hl => W.zret Z.1 Z.2.1 hr hn (fun t ht hW => ⟨⟨v, u, rfl, hu, by rw [ht, ← hw]; exact hP, va_K.moved hW.alike Z.2.2.2.2.2.1, hw ▸ hD⟩, hS.F ht⟩) hS.2.2 d Z.2.2.2.2.2.2.2.1
theorem g_vret {S : Type} {post : S → Prop} {w1 : S → va_W} (Z : gZ p s m args meth c cc nL own Ts A D cl tys) (hr : meth.sig.returnType = none) (d : decode cc pc = .ok (.return_, 1)) (u : S) (hu : post u) (hw : ws = w1 u) : gW p l e R s m args below meth c nL A D cl cells slots (MQ below (va_Qv post (gB D cl tys A w1) A) args s cells slots A) ws lv pc [] := fun H locs ls hP hD hS hl => W.vret Z.1 Z.2.1 hr (fun t ht hW => ⟨⟨u, rfl, hu, by rw [ht, ← hw]; exact hP, va_K.moved hW.alike Z.2.2.2.2.2.1, hw ▸ hD⟩, hS.F ht⟩) hS.2.2 d Z.2.2.2.2.2.2.2.1
theorem g_tabIn (Z : gZ p s m args meth c cc nL own Ts A D cl tys) {dflt lo hi off : Int} {offs : Array Int} {len tgt : Nat} {x k0 : Int32} (d : decode cc pc = .ok (.tableswitch dflt lo hi offs, len)) (hx : x = k0) (h1 : ¬ k0.toInt < lo) (h2 : ¬ hi < k0.toInt) (ho : offs[(k0.toInt - lo).toNat]? = some off) (ht : (pc : Int) + off = (tgt : Int)) (k : gW p l e R s m args below meth c nL A D cl cells slots Q ws lv (tgt) (st)) : gW p l e R s m args below meth c nL A D cl cells slots Q ws lv (pc) (.int x :: st) := fun H locs ls hP hD hS hl => lv_tableIn Z.1 Z.2.1 d (hx ▸ h1) (hx ▸ h2) (hx ▸ ho) ht (k H locs ls hP hD hS hl)
theorem g_tabOut (Z : gZ p s m args meth c cc nL own Ts A D cl tys) {dflt lo hi : Int} {offs : Array Int} {len tgt : Nat} {x : Int32} (d : decode cc pc = .ok (.tableswitch dflt lo hi offs, len)) (h : x.toInt < lo ∨ hi < x.toInt) (ht : (pc : Int) + dflt = (tgt : Int)) (k : gW p l e R s m args below meth c nL A D cl cells slots Q ws lv (tgt) (st)) : gW p l e R s m args below meth c nL A D cl cells slots Q ws lv (pc) (.int x :: st) := fun H locs ls hP hD hS hl => lv_tableOut Z.1 Z.2.1 d h ht (k H locs ls hP hD hS hl)
theorem g_lookIn (Z : gZ p s m args meth c cc nL own Ts A D cl tys) {dflt off : Int} {ps : Array (Int × Int)} {len tgt : Nat} {x k0 : Int32} (d : decode cc pc = .ok (.lookupswitch dflt ps, len)) (hx : x = k0) (hp : (ps.toList.zip (ps.toList.drop 1)).all (fun (a, next) => a.1 < next.1) = true) (ho : Op.lookupswitch.offset ps.toList dflt k0.toInt = off) (ht : (pc : Int) + off = (tgt : Int)) (k : gW p l e R s m args below meth c nL A D cl cells slots Q ws lv (tgt) (st)) : gW p l e R s m args below meth c nL A D cl cells slots Q ws lv (pc) (.int x :: st) := fun H locs ls hP hD hS hl => lv_lookup Z.1 Z.2.1 d hp (hx ▸ ho) ht (k H locs ls hP hD hS hl)
theorem g_lookOut (Z : gZ p s m args meth c cc nL own Ts A D cl tys) {dflt off : Int} {ps : Array (Int × Int)} {len tgt : Nat} {x : Int32} (d : decode cc pc = .ok (.lookupswitch dflt ps, len)) (hp : (ps.toList.zip (ps.toList.drop 1)).all (fun (a, next) => a.1 < next.1) = true) (ho : Op.lookupswitch.offset ps.toList dflt x.toInt = off) (ht : (pc : Int) + off = (tgt : Int)) (k : gW p l e R s m args below meth c nL A D cl cells slots Q ws lv (tgt) (st)) : gW p l e R s m args below meth c nL A D cl cells slots Q ws lv (pc) (.int x :: st) := fun H locs ls hP hD hS hl => lv_lookup Z.1 Z.2.1 d hp ho ht (k H locs ls hP hD hS hl)
end GW
end
section
section GC
variable {p : Program} {l : Launch} {e : Env} {R : Room} {s : State} {m : MethodId} {args : Array Value} {below : List Frame} {meth : Method} {c : Code} {cells slots : Nat} {Q : State → Prop}
variable {cc : ByteArray} {nL : Nat} {own : String} {Ts : List Cond} {A : Nat → Prop} {D : va_G} {cl : List vw_C} {tys : List (ClassId × FieldType)}
variable {ws ws' : va_W} {lv lv' : List (Nat × Value)} {pc : Nat} {st rest : List Value}
theorem g_fm {ws wc : va_W} {is : List Nat} (h : is.map (fun i => ws[i]?) = wc.map some) : is.filterMap (fun i => ws[i]?) = wc := by
  have h2 : (is.map (fun i => ws[i]?)).filterMap id = (wc.map some).filterMap id := by rw [h]
  rw [List.filterMap_map, List.filterMap_map] at h2
  have h3 : wc.filterMap (id ∘ some) = wc := by
    induction wc with
    | nil => rfl
    | cons a t ih => simp
  rw [h3] at h2
  exact h2
/-- more cells and slots than were made -/
theorem g_widen {k n : Nat} (h1 : cells ≤ k) (h2 : slots ≤ n) (kk : gW p l e R s m args below meth c nL A D cl k n Q ws lv pc st) : gW p l e R s m args below meth c nL A D cl cells slots Q ws lv pc st := fun H locs ls hP hD hS hl => W.widen h1 h2 (kk H locs ls hP hD hS hl)
/-- the world's cells in another order, or fewer of them -/
theorem g_perm {ws2 : va_W} (pm : List Nat) (hn : va_nd pm = true) (hp : pm.map (fun i => ws[i]?) = ws2.map some) (kk : gW p l e R s m args below meth c nL A D cl cells slots Q ws2 lv pc st) : gW p l e R s m args below meth c nL A D cl cells slots Q ws lv pc st := fun H locs ls hP hD hS hl => kk H locs ls (hP.sub pm (g_fm hp)) (hD.sub pm hn hp) hS hl
theorem g_locals {lv2 : List (Nat × Value)} (ks : List Nat) (hp : lv_pick lv ks = lv2) (kk : gW p l e R s m args below meth c nL A D cl cells slots Q ws lv2 pc st) : gW p l e R s m args below meth c nL A D cl cells slots Q ws lv pc st := fun H locs ls hP hD hS hl => kk H locs ls hP hD hS (lv_sub hl ks hp)

theorem g_calli {S : Type} {post : Int32 → S → Prop} {w1 ws2 : S → va_W} {wc wr : va_W} {mc ms : Nat} {a : Array Value} (Z : gZ p s m args meth c cc nL own Ts A D cl tys) (isC isR pm : List Nat)
    (run : ∀ (H : Heap) (locs : List Loc) (ls : Array Slot), va_P D cl ws H → va_D A ws → va_S A s.heap H locs → lv_has ls nL lv → va_Run p l e R s m args below meth c H locs cells slots mc ms (F0 m pc ls st) rest (va_Qi post (gB D cl tys (va_A wc H.size) w1) (va_A wc H.size) a) (va_A wc H.size))
    (hC : isC.map (fun i => ws[i]?) = wc.map some) (hR : isR.map (fun i => ws[i]?) = wr.map some) (hn : va_nd isR = true) (hdis : ∀ i ∈ isR, i ∉ isC) (hpn : va_nd pm = true) (hp : ∀ u, pm.map (fun i => (wr ++ w1 u)[i]?) = (ws2 u).map some)
    (k : ∀ (r : Int32) (u : S), post r u → gW p l e R s m args below meth c nL A D cl (cells + mc) (slots + ms) Q (ws2 u) lv (pc + 3) (.int r :: rest)) : gW p l e R s m args below meth c nL A D cl cells slots Q ws lv (pc) (st) := by
  intro H locs ls hP hD hS hl
  have hF := va_free (wc := wc) hD hS Z.2.2.2.2.2.2.1 isC hC
  refine va_calli (run H locs ls hP hD hS hl) hS (fun q _ h => hF q h) hF (fun r u t H1 locs1 ht hvm hw hB hz1 hk1 hS => ?_)
  obtain ⟨hP1, hK1, hD1⟩ := hB
  rw [ht] at hP1
  obtain ⟨hP, hD⟩ := va_join (wr := wr) (w1 := w1 u) hP hD isC isR hC hR hn hdis hk1 hF hP1 hD1
  exact k r u hw H1 locs1 ls (hP.sub pm (g_fm (hp u))) (hD.sub pm hpn (hp u)) hS hl

theorem g_calll {S : Type} {post : Int64 → S → Prop} {w1 ws2 : S → va_W} {wc wr : va_W} {mc ms : Nat} {a : Array Value} (Z : gZ p s m args meth c cc nL own Ts A D cl tys) (isC isR pm : List Nat)
    (run : ∀ (H : Heap) (locs : List Loc) (ls : Array Slot), va_P D cl ws H → va_D A ws → va_S A s.heap H locs → lv_has ls nL lv → va_Run p l e R s m args below meth c H locs cells slots mc ms (F0 m pc ls st) rest (va_Ql post (gB D cl tys (va_A wc H.size) w1) (va_A wc H.size) a) (va_A wc H.size))
    (hC : isC.map (fun i => ws[i]?) = wc.map some) (hR : isR.map (fun i => ws[i]?) = wr.map some) (hn : va_nd isR = true) (hdis : ∀ i ∈ isR, i ∉ isC) (hpn : va_nd pm = true) (hp : ∀ u, pm.map (fun i => (wr ++ w1 u)[i]?) = (ws2 u).map some)
    (k : ∀ (r : Int64) (u : S), post r u → gW p l e R s m args below meth c nL A D cl (cells + mc) (slots + ms) Q (ws2 u) lv (pc + 3) (.long r :: rest)) : gW p l e R s m args below meth c nL A D cl cells slots Q ws lv (pc) (st) := by
  intro H locs ls hP hD hS hl
  have hF := va_free (wc := wc) hD hS Z.2.2.2.2.2.2.1 isC hC
  refine va_calll (run H locs ls hP hD hS hl) hS (fun q _ h => hF q h) hF (fun r u t H1 locs1 ht hvm hw hB hz1 hk1 hS => ?_)
  obtain ⟨hP1, hK1, hD1⟩ := hB
  rw [ht] at hP1
  obtain ⟨hP, hD⟩ := va_join (wr := wr) (w1 := w1 u) hP hD isC isR hC hR hn hdis hk1 hF hP1 hD1
  exact k r u hw H1 locs1 ls (hP.sub pm (g_fm (hp u))) (hD.sub pm hpn (hp u)) hS hl

theorem g_callv {S : Type} {post : S → Prop} {w1 ws2 : S → va_W} {wc wr : va_W} {mc ms : Nat} {a : Array Value} (Z : gZ p s m args meth c cc nL own Ts A D cl tys) (isC isR pm : List Nat)
    (run : ∀ (H : Heap) (locs : List Loc) (ls : Array Slot), va_P D cl ws H → va_D A ws → va_S A s.heap H locs → lv_has ls nL lv → va_Run p l e R s m args below meth c H locs cells slots mc ms (F0 m pc ls st) rest (va_Qv post (gB D cl tys (va_A wc H.size) w1) (va_A wc H.size) a) (va_A wc H.size))
    (hC : isC.map (fun i => ws[i]?) = wc.map some) (hR : isR.map (fun i => ws[i]?) = wr.map some) (hn : va_nd isR = true) (hdis : ∀ i ∈ isR, i ∉ isC) (hpn : va_nd pm = true) (hp : ∀ u, pm.map (fun i => (wr ++ w1 u)[i]?) = (ws2 u).map some)
    (k : ∀ u : S, post u → gW p l e R s m args below meth c nL A D cl (cells + mc) (slots + ms) Q (ws2 u) lv (pc + 3) (rest)) : gW p l e R s m args below meth c nL A D cl cells slots Q ws lv (pc) (st) := by
  intro H locs ls hP hD hS hl
  have hF := va_free (wc := wc) hD hS Z.2.2.2.2.2.2.1 isC hC
  refine va_callv (run H locs ls hP hD hS hl) hS (fun q _ h => hF q h) hF (fun u t H1 locs1 ht hvm hw hB hz1 hk1 hS => ?_)
  obtain ⟨hP1, hK1, hD1⟩ := hB
  rw [ht] at hP1
  obtain ⟨hP, hD⟩ := va_join (wr := wr) (w1 := w1 u) hP hD isC isR hC hR hn hdis hk1 hF hP1 hD1
  exact k u hw H1 locs1 ls (hP.sub pm (g_fm (hp u))) (hD.sub pm hpn (hp u)) hS hl

theorem g_runV {y : MethodName} {bytes : ByteArray} {maxL mc ms n index : Nat} {ret : Option FieldType} {wsy : List Cond} {rm : Room} {wc : va_W} {Qc : Nat → Array Value → State → Outcome → State → Prop} {As : List Value} {C : String} {b : Addr} {ci : Nat} {fs : List Value} {q : vw_C} (Z : gZ p s m args meth c cc nL own Ts A D cl tys) (hM : ∀ sz : Nat, Met l y wsy rm (va_Pc (.ref b :: As) (gP D cl tys wc sz)) (Qc sz) mc ms (va_A wc sz)) (cw : CallW R s args own C index y bytes maxL ret wsy rm mc ms n) (isC : List Nat) (hC : isC.map (fun i => ws[i]?) = wc.map some) (hnC : va_nd isC = true) (r0 : Nat) (hr0 : wc[r0]? = some (b, .inr (ci, fs))) (hcl : cl[ci]? = some q) (hq : q.1 = C) (hst : st = As.reverse ++ .ref b :: rest) (hn : As.length = n) (hW : (rest.map fun v => v.category).sum ≤ 8) (d : decode cc pc = .ok (.invokevirtual index, 3)) (hf : cells + mc ≤ R.cells ∧ slots + ms ≤ R.slots) :
    ∀ (H : Heap) (locs : List Loc) (ls : Array Slot), va_P D cl ws H → va_D A ws → va_S A s.heap H locs → lv_has ls nL lv → va_Run p l e R s m args below meth c H locs cells slots mc ms (F0 m pc ls st) rest (Qc H.size (Value.ref b :: As).toArray) (va_A wc H.size) := by
  intro H locs ls hP hD hS hl
  have hPc := hP.sub isC (g_fm hC)
  have hDc := hD.sub isC hnC hC
  exact va_runV (As := As) (rest := rest) ⟨Z.1, Z.2.1, Z.2.2.1, Z.2.2.2.1, Z.2.2.2.2.1⟩ (hM H.size) cw ⟨gP_blind, hq ▸ va_recv Z.2.2.2.2.2.1 hPc hcl hr0, fun U hU hW => ⟨rfl, by rw [hU], by rw [hU]; exact hPc, va_K.moved hW.alike Z.2.2.2.2.2.1, hDc.weaken (fun _ _ _ _ => trivial), gN.warm hW Z.2.2.2.2.2.2.2.2⟩⟩ rfl hn hl.1 hst (lv_room hW) d hf

theorem g_runVN {y : MethodName} {bytes : ByteArray} {maxL mc ms n index : Nat} {ret : Option FieldType} {wsy : List Cond} {rm : Room} {wc : va_W} {Qc : Nat → Array Value → State → Outcome → State → Prop} {As : List Value} {C host : String} {b : Addr} {ci : Nat} {fs : List Value} {q : vw_C} (Z : gZ p s m args meth c cc nL own Ts A D cl tys) (hM : ∀ sz : Nat, Met l y wsy rm (va_Pc (.ref b :: As) (gP D cl tys wc sz)) (Qc sz) mc ms (va_A wc sz)) (cw : va_CN R s args own index y host bytes maxL ret wsy rm mc ms n ∧ (Cond.instanceMethod y).before args s = true ∧ (Cond.selects C y y).before args s = true) (isC : List Nat) (hC : isC.map (fun i => ws[i]?) = wc.map some) (hnC : va_nd isC = true) (r0 : Nat) (hr0 : wc[r0]? = some (b, .inr (ci, fs))) (hcl : cl[ci]? = some q) (hq : q.1 = C) (hst : st = As.reverse ++ .ref b :: rest) (hn : As.length = n) (hW : (rest.map fun v => v.category).sum ≤ 8) (d : decode cc pc = .ok (.invokevirtual index, 3)) (hf : cells + mc ≤ R.cells ∧ slots + ms ≤ R.slots) :
    ∀ (H : Heap) (locs : List Loc) (ls : Array Slot), va_P D cl ws H → va_D A ws → va_S A s.heap H locs → lv_has ls nL lv → va_Run p l e R s m args below meth c H locs cells slots mc ms (F0 m pc ls st) rest (Qc H.size (Value.ref b :: As).toArray) (va_A wc H.size) := by
  intro H locs ls hP hD hS hl
  have hPc := hP.sub isC (g_fm hC)
  have hDc := hD.sub isC hnC hC
  exact va_runVN (As := As) (rest := rest) ⟨Z.1, Z.2.1, Z.2.2.1, Z.2.2.2.1, Z.2.2.2.2.1⟩ (hM H.size) cw ⟨gP_blind, hq ▸ va_recv Z.2.2.2.2.2.1 hPc hcl hr0, fun U hU hW => ⟨rfl, by rw [hU], by rw [hU]; exact hPc, va_K.moved hW.alike Z.2.2.2.2.2.1, hDc.weaken (fun _ _ _ _ => trivial), gN.warm hW Z.2.2.2.2.2.2.2.2⟩⟩ rfl hn hl.1 hst (lv_room hW) d hf

theorem g_runS {y : MethodName} {bytes : ByteArray} {maxL mc ms n index : Nat} {ret : Option FieldType} {wsy : List Cond} {rm : Room} {wc : va_W} {Qc : Nat → Array Value → State → Outcome → State → Prop} {As : List Value}   (Z : gZ p s m args meth c cc nL own Ts A D cl tys) (hM : ∀ sz : Nat, Met l y wsy rm (va_Pc As (gP D cl tys wc sz)) (Qc sz) mc ms (va_A wc sz)) (cw : CallB R s args own index y bytes maxL ret wsy rm mc ms n ∧ (Cond.static y).before args s = true) (isC : List Nat) (hC : isC.map (fun i => ws[i]?) = wc.map some) (hnC : va_nd isC = true)  (hst : st = As.reverse ++ rest) (hn : As.length = n) (hW : (rest.map fun v => v.category).sum ≤ 8) (d : decode cc pc = .ok (.invokestatic index, 3)) (hf : cells + mc ≤ R.cells ∧ slots + ms ≤ R.slots) :
    ∀ (H : Heap) (locs : List Loc) (ls : Array Slot), va_P D cl ws H → va_D A ws → va_S A s.heap H locs → lv_has ls nL lv → va_Run p l e R s m args below meth c H locs cells slots mc ms (F0 m pc ls st) rest (Qc H.size As.toArray) (va_A wc H.size) := by
  intro H locs ls hP hD hS hl
  have hPc := hP.sub isC (g_fm hC)
  have hDc := hD.sub isC hnC hC
  exact va_runS (As := As) (rest := rest) ⟨Z.1, Z.2.1, Z.2.2.1, Z.2.2.2.1, Z.2.2.2.2.1⟩ (hM H.size) cw ⟨gP_blind, fun U hU hW => ⟨rfl, by rw [hU], by rw [hU]; exact hPc, va_K.moved hW.alike Z.2.2.2.2.2.1, hDc.weaken (fun _ _ _ _ => trivial), gN.warm hW Z.2.2.2.2.2.2.2.2⟩⟩ rfl hn hl.1 hst (lv_room hW) d hf

theorem g_runSN {y : MethodName} {bytes : ByteArray} {maxL mc ms n index : Nat} {ret : Option FieldType} {wsy : List Cond} {rm : Room} {wc : va_W} {Qc : Nat → Array Value → State → Outcome → State → Prop} {As : List Value} {host : String}  (Z : gZ p s m args meth c cc nL own Ts A D cl tys) (hM : ∀ sz : Nat, Met l y wsy rm (va_Pc As (gP D cl tys wc sz)) (Qc sz) mc ms (va_A wc sz)) (cw : va_CN R s args own index y host bytes maxL ret wsy rm mc ms n ∧ (Cond.static y).before args s = true ∧ True) (isC : List Nat) (hC : isC.map (fun i => ws[i]?) = wc.map some) (hnC : va_nd isC = true)  (hst : st = As.reverse ++ rest) (hn : As.length = n) (hW : (rest.map fun v => v.category).sum ≤ 8) (d : decode cc pc = .ok (.invokestatic index, 3)) (hf : cells + mc ≤ R.cells ∧ slots + ms ≤ R.slots) :
    ∀ (H : Heap) (locs : List Loc) (ls : Array Slot), va_P D cl ws H → va_D A ws → va_S A s.heap H locs → lv_has ls nL lv → va_Run p l e R s m args below meth c H locs cells slots mc ms (F0 m pc ls st) rest (Qc H.size As.toArray) (va_A wc H.size) := by
  intro H locs ls hP hD hS hl
  have hPc := hP.sub isC (g_fm hC)
  have hDc := hD.sub isC hnC hC
  exact va_runSN (As := As) (rest := rest) ⟨Z.1, Z.2.1, Z.2.2.1, Z.2.2.2.1, Z.2.2.2.2.1⟩ (hM H.size) cw ⟨gP_blind, fun U hU hW => ⟨rfl, by rw [hU], by rw [hU]; exact hPc, va_K.moved hW.alike Z.2.2.2.2.2.1, hDc.weaken (fun _ _ _ _ => trivial), gN.warm hW Z.2.2.2.2.2.2.2.2⟩⟩ rfl hn hl.1 hst (lv_room hW) d hf

theorem g_runI {y : MethodName} {bytes : ByteArray} {maxL mc ms n index : Nat} {ret : Option FieldType} {wsy : List Cond} {rm : Room} {wc : va_W} {Qc : Nat → Array Value → State → Outcome → State → Prop} {As : List Value} {b : Addr}  (Z : gZ p s m args meth c cc nL own Ts A D cl tys) (hM : ∀ sz : Nat, Met l y wsy rm (va_Pc (.ref b :: As) (gP D cl tys wc sz)) (Qc sz) mc ms (va_A wc sz)) (cw : CallB R s args own index y bytes maxL none wsy rm mc ms n ∧ y.name = "<init>" ∧ (Cond.instanceMethod y).before args s = true) (isC : List Nat) (hC : isC.map (fun i => ws[i]?) = wc.map some) (hnC : va_nd isC = true)  (hst : st = As.reverse ++ .ref b :: rest) (hn : As.length = n) (hW : (rest.map fun v => v.category).sum ≤ 8) (d : decode cc pc = .ok (.invokespecial index, 3)) (hf : cells + mc ≤ R.cells ∧ slots + ms ≤ R.slots) :
    ∀ (H : Heap) (locs : List Loc) (ls : Array Slot), va_P D cl ws H → va_D A ws → va_S A s.heap H locs → lv_has ls nL lv → va_Run p l e R s m args below meth c H locs cells slots mc ms (F0 m pc ls st) rest (Qc H.size (Value.ref b :: As).toArray) (va_A wc H.size) := by
  intro H locs ls hP hD hS hl
  have hPc := hP.sub isC (g_fm hC)
  have hDc := hD.sub isC hnC hC
  exact va_runI (As := As) (rest := rest) ⟨Z.1, Z.2.1, Z.2.2.1, Z.2.2.2.1, Z.2.2.2.2.1⟩ (hM H.size) cw ⟨gP_blind, fun U hU hW => ⟨rfl, by rw [hU], by rw [hU]; exact hPc, va_K.moved hW.alike Z.2.2.2.2.2.1, hDc.weaken (fun _ _ _ _ => trivial), gN.warm hW Z.2.2.2.2.2.2.2.2⟩⟩ rfl hn hl.1 hst (lv_room hW) d hf

theorem g_runIN {y : MethodName} {bytes : ByteArray} {maxL mc ms n index : Nat} {ret : Option FieldType} {wsy : List Cond} {rm : Room} {wc : va_W} {Qc : Nat → Array Value → State → Outcome → State → Prop} {As : List Value} {host : String} {b : Addr}  (Z : gZ p s m args meth c cc nL own Ts A D cl tys) (hM : ∀ sz : Nat, Met l y wsy rm (va_Pc (.ref b :: As) (gP D cl tys wc sz)) (Qc sz) mc ms (va_A wc sz)) (cw : va_CN R s args own index y host bytes maxL none wsy rm mc ms n ∧ y.name = "<init>" ∧ (Cond.instanceMethod y).before args s = true) (isC : List Nat) (hC : isC.map (fun i => ws[i]?) = wc.map some) (hnC : va_nd isC = true)  (hst : st = As.reverse ++ .ref b :: rest) (hn : As.length = n) (hW : (rest.map fun v => v.category).sum ≤ 8) (d : decode cc pc = .ok (.invokespecial index, 3)) (hf : cells + mc ≤ R.cells ∧ slots + ms ≤ R.slots) :
    ∀ (H : Heap) (locs : List Loc) (ls : Array Slot), va_P D cl ws H → va_D A ws → va_S A s.heap H locs → lv_has ls nL lv → va_Run p l e R s m args below meth c H locs cells slots mc ms (F0 m pc ls st) rest (Qc H.size (Value.ref b :: As).toArray) (va_A wc H.size) := by
  intro H locs ls hP hD hS hl
  have hPc := hP.sub isC (g_fm hC)
  have hDc := hD.sub isC hnC hC
  exact va_runIN (As := As) (rest := rest) ⟨Z.1, Z.2.1, Z.2.2.1, Z.2.2.2.1, Z.2.2.2.2.1⟩ (hM H.size) cw ⟨gP_blind, fun U hU hW => ⟨rfl, by rw [hU], by rw [hU]; exact hPc, va_K.moved hW.alike Z.2.2.2.2.2.1, hDc.weaken (fun _ _ _ _ => trivial), gN.warm hW Z.2.2.2.2.2.2.2.2⟩⟩ rfl hn hl.1 hst (lv_room hW) d hf

theorem g_new (Z : gZ p s m args meth c cc nL own Ts A D cl tys) {C : String} {T : u_T} {N ci index : Nat} {fs : List Value} {ty0 : Nat → FieldType} (d : decode cc pc = .ok (.new index, 3)) (hcl : Cond.classLink own index C ∈ Ts) (hinst : Cond.instantiable C N ∈ Ts) (hini : Cond.initialized C ∈ Ts) (hin : ∀ w ∈ u_ws C T N, w ∈ Ts) (hty : ∀ k, k < N → parseFieldDescriptor (T k).2.2.1 = some (ty0 k)) (hc : cl[ci]? = some (C, T, N)) (hfs : ∀ j, j < N → defaultValue (ty0 j) = vp_V fs j) (hcells : cells + 1 ≤ R.cells) (hslots : slots + N ≤ R.slots)
    (k : ∀ q : Nat, gW p l e R s m args below meth c nL A D cl (cells + 1) (slots + N) Q (ws ++ [(q, .inr (ci, fs))]) lv (pc + 3) (.ref q :: st)) : gW p l e R s m args below meth c nL A D cl cells slots Q ws lv (pc) (st) := fun H locs ls hP hD hS hl => va_new Z.1 Z.2.1 Z.2.2.2.2.1 hin ty0 hty Z.2.2.2.1 (Z.2.2.2.2.1 _ hcl) (Z.2.2.2.2.1 _ hinst) (Z.2.2.2.2.1 _ hini) Z.2.2.2.2.2.1 hP hD hS Z.2.2.2.2.2.2.1 hc hfs hcells hslots d (fun q H1 hP hD hS => k q H1 locs ls hP hD hS hl)
theorem g_newa (Z : gZ p s m args meth c cc nL own Ts A D cl tys) {atype : ArrayType} {ty : FieldType} {n : Int32} {N' : Nat} {a0 : vp_A} {cA : ClassId} (t0 : Nat) (d : decode cc pc = .ok (.newarray atype, 2)) (harr : Cond.arrayClass (newarray.typeOf atype) ∈ Ts) (hty : newarray.typeOf atype = ty) (hra : ∀ (U : State) (c9 : ClassId), va_RA U c9 ty → U.vm.findClass ("[" ++ ty.toString) = some c9) (ht : tys[t0]? = some (cA, ty)) (ha : ∀ cA : ClassId, vp_cell cA a0 = arrV cA N' (fun _ => defaultValue ty)) (hn : ¬ n < 0) (hN : n.toNatClampNeg = N') (hbytes : N' * componentBytes ty ≤ 536870912) (hcells : cells + 1 ≤ R.cells) (hslots : slots + N' ≤ R.slots)
    (k : ∀ q : Nat, gW p l e R s m args below meth c nL A D cl (cells + 1) (slots + N') Q (ws ++ [(q, .inl (cA, a0))]) lv (pc + 2) (.ref q :: st)) : gW p l e R s m args below meth c nL A D cl cells slots Q ws lv (pc) (.int n :: st) := fun H locs ls hP hD hS hl => va_newa Z.1 Z.2.1 (Z.2.2.2.2.1 _ harr) hty Z.2.2.2.2.2.1 hP hD hS Z.2.2.2.2.2.2.1 ha hn hN hbytes hcells hslots d (fun q cA' H1 hK hP hD hS => by
      have e1 := hra _ _ (hK.2 tys.length (cA', ty) (by simp)).2
      have e2 := hra _ _ (Z.2.2.2.2.2.1.2 t0 _ ht).2
      have e3 : cA' = cA := Option.some.inj (e1.symm.trans e2)
      subst e3
      exact k q H1 locs ls hP hD hS hl)
theorem g_objInit (Z : gZ p s m args meth c cc nL own Ts A D cl tys) {index a : Nat} (d : decode cc pc = .ok (.invokespecial index, 3)) (hlink : Cond.methodLink own index Lib.objectInit ∈ Ts) (hinst : Cond.instanceMethod Lib.objectInit ∈ Ts) (hcode : Cond.code Lib.objectInit ⟨#[0xb1]⟩ 1 none ∈ Ts) (hframes : 1 ≤ R.frames) (hlocals : 2 * 0 + (st.map fun v => v.category).sum + 12 ≤ R.locals)
    (k : gW p l e R s m args below meth c nL A D cl cells slots Q ws lv (pc + 3) (st)) : gW p l e R s m args below meth c nL A D cl cells slots Q ws lv (pc) (.ref a :: st) := fun H locs ls hP hD hS hl => W.objInit Z.1 Z.2.1 Z.2.2.2.1 (Z.2.2.2.2.1 _ hlink) (Z.2.2.2.2.1 _ hinst) (Z.2.2.2.2.1 _ hcode) rfl (Z.2.2.1.symm ▸ hl.1) rfl d hframes hlocals (k H locs ls hP hD hS hl)
end GC
end
section
/-! the words: all good words of the tables -/
def gA : List Cond := lw_tbl.filter goodWord
theorem wtS (i : Nat) {w : Cond} (h : (k2_sels lw_privs)[i]? = some w) (hg : goodWord w = true) : w ∈ gA := List.mem_filter.mpr ⟨List.mem_append_left _ (List.mem_of_getElem? h), hg⟩
theorem wtT {w : Cond} (h : w ∈ tables_1) (hg : goodWord w = true) : w ∈ gA := List.mem_filter.mpr ⟨List.mem_append_right _ h, hg⟩
theorem wt1 (i : Nat) {w : Cond} (h : tables_1_1[i]? = some w) (hg : goodWord w = true) : w ∈ gA := wtT (List.mem_append_left _ (List.mem_of_getElem? h)) hg
theorem wt2 (i : Nat) {w : Cond} (h : tables_1_2[i]? = some w) (hg : goodWord w = true) : w ∈ gA := wtT (List.mem_append_right _ (List.mem_append_left _ (List.mem_of_getElem? h))) hg
theorem wt3 (i : Nat) {w : Cond} (h : tables_1_3[i]? = some w) (hg : goodWord w = true) : w ∈ gA := wtT (List.mem_append_right _ (List.mem_append_right _ (List.mem_append_left _ (List.mem_of_getElem? h)))) hg
theorem wt4 (i : Nat) {w : Cond} (h : tables_1_4[i]? = some w) (hg : goodWord w = true) : w ∈ gA := wtT (List.mem_append_right _ (List.mem_append_right _ (List.mem_append_right _ (List.mem_of_getElem? h)))) hg
theorem mm {w x : Cond} (h : w ∈ gA) : w ∈ x :: gA := List.mem_cons_of_mem _ h
theorem gA_ok {w : Cond} (h : w ∈ gA) : (w.onTables && w.keeps) = true ∨ ∃ ty, w = .arrayClass ty := good_of_word (List.mem_filter.mp h).2
theorem gg_C {x cd : Cond} (h : cd ∈ gA) : GoodIn (x :: gA) (cd :: gA) := fun w hw => (List.mem_cons.mp hw).elim (fun e => by rw [e]; exact ⟨mm h, gA_ok h⟩) (fun h => ⟨mm h, gA_ok h⟩)
theorem gg_V {x cd : Cond} {own C : String} {idx : Nat} {y : MethodName} (h1 : Cond.methodLink own idx y ∈ gA) (h2 : Cond.instanceMethod y ∈ gA) (h3 : Cond.selects C y y ∈ gA) (h4 : Cond.initialized C ∈ gA) (h5 : cd ∈ gA) : GoodIn (x :: gA) (wsV own idx C y (cd :: gA)) := by
  intro w hw
  rcases List.mem_append.mp hw with h | h
  · have h9 : w ∈ gA := by
      rcases List.mem_cons.mp h with rfl | h
      · exact h1
      · rcases List.mem_cons.mp h with rfl | h
        · exact h2
        · rcases List.mem_cons.mp h with rfl | h
          · exact h3
          · rcases List.mem_cons.mp h with rfl | h
            · exact h4
            · cases h
    exact ⟨mm h9, gA_ok h9⟩
  · exact gg_C h5 w h
theorem gg_S {x cd : Cond} {own : String} {idx : Nat} {y : MethodName} (h1 : Cond.methodLink own idx y ∈ gA) (h2 : Cond.static y ∈ gA) (h4 : Cond.initialized y.cls ∈ gA) (h5 : cd ∈ gA) : GoodIn (x :: gA) (va_wsS own idx y (cd :: gA)) := by
  intro w hw
  rcases List.mem_append.mp hw with h | h
  · have h9 : w ∈ gA := by
      rcases List.mem_cons.mp h with rfl | h
      · exact h1
      · rcases List.mem_cons.mp h with rfl | h
        · exact h2
        · rcases List.mem_cons.mp h with rfl | h
          · exact h4
          · cases h
    exact ⟨mm h9, gA_ok h9⟩
  · exact gg_C h5 w h
theorem yv_of {y : MethodName} {C : String} {n : Nat} (h : y.cls = C) (hd : y.cls ≠ "java/lang/invoke/MethodHandle" ∧ y.cls ≠ "java/lang/invoke/VarHandle" ∧ (parseMethodDescriptor y.desc).map (fun d => d.parameters.length) = some n) : y.cls = C ∧ y.cls ≠ "java/lang/invoke/MethodHandle" ∧ y.cls ≠ "java/lang/invoke/VarHandle" ∧ (parseMethodDescriptor y.desc).map (fun d => d.parameters.length) = some n := ⟨h, hd⟩
abbrev cls : List vw_C := vwCl
/-- the array classes: longs, ints, truth values -/
abbrev tys (ca : Nat → ClassId) : List (ClassId × FieldType) := [(ca 0, .long), (ca 1, .int), (ca 2, .boolean)]
theorem in_X0 : ∀ w ∈ u_ws RX0 TX0 1, w ∈ gA := by decide +kernel
theorem inx_X0 {x : Cond} : ∀ w ∈ u_ws RX0 TX0 1, w ∈ x :: gA := fun w h => mm (in_X0 w h)
theorem in_X1 : ∀ w ∈ u_ws RX1 TX1 6, w ∈ gA := by decide +kernel
theorem inx_X1 {x : Cond} : ∀ w ∈ u_ws RX1 TX1 6, w ∈ x :: gA := fun w h => mm (in_X1 w h)
theorem in_X2 : ∀ w ∈ u_ws RX2 TX2 12, w ∈ gA := by decide +kernel
theorem inx_X2 {x : Cond} : ∀ w ∈ u_ws RX2 TX2 12, w ∈ x :: gA := fun w h => mm (in_X2 w h)
theorem in_X3 : ∀ w ∈ u_ws RX3 TX3 4, w ∈ gA := by decide +kernel
theorem inx_X3 {x : Cond} : ∀ w ∈ u_ws RX3 TX3 4, w ∈ x :: gA := fun w h => mm (in_X3 w h)
theorem in_X4 : ∀ w ∈ u_ws RX4 TX4 4, w ∈ gA := by decide +kernel
theorem inx_X4 {x : Cond} : ∀ w ∈ u_ws RX4 TX4 4, w ∈ x :: gA := fun w h => mm (in_X4 w h)
theorem in_X5 : ∀ w ∈ u_ws RX5 TX5 21, w ∈ gA := by decide +kernel
theorem inx_X5 {x : Cond} : ∀ w ∈ u_ws RX5 TX5 21, w ∈ x :: gA := fun w h => mm (in_X5 w h)
/-! the worlds of the class: addresses by ad: 0 RedoHeap, 1 Disk, 2 settled, 3 latest, 4 waitingPlace, 5 waitingValue, 6 Log, 7 Changes, 8 good, 9 own, 10 changed, 11 places, 12 Blocks -/
/-- Disk: settled, latest, waitingPlace, waitingValue, waiting, on, writesLeft, keepsThen, writes, syncs, failures, lost -/
abbrev DT : Type := (Nat → Int64) × (Nat → Int64) × (Nat → Int32) × (Nat → Int64) × Int32 × Bool × Int32 × Int32 × Int32 × Int32 × Int32 × Int32
/-- Log: used, commits, lastNumber -/
abbrev LT : Type := Int32 × Int32 × Int32
/-- Changes: good, own, changed, places, size, open -/
abbrev CT : Type := (Nat → Int64) × (Nat → Int64) × (Nat → Int32) × (Nat → Int32) × Int32 × Bool
def wH (ad : Nat → Nat) : va_W := [(ad 0, .inr (4, [.ref (ad 1), .ref (ad 6), .ref (ad 7), .ref (ad 12)]))]
def wB (ad : Nat → Nat) : va_W := [(ad 12, .inr (0, [.ref (ad 7)]))]
def wL (ad : Nat → Nat) (_ : Nat → ClassId) (g : LT) : va_W := [(ad 6, .inr (3, [.ref (ad 1), .int g.1, .int g.2.1, .int g.2.2]))]
def wD (ad : Nat → Nat) (ca : Nat → ClassId) (d : DT) : va_W := [(ad 1, .inr (2, [.ref (ad 2), .ref (ad 3), .ref (ad 4), .ref (ad 5), .int d.2.2.2.2.1, .int (bI d.2.2.2.2.2.1), .int d.2.2.2.2.2.2.1, .int d.2.2.2.2.2.2.2.1, .int d.2.2.2.2.2.2.2.2.1, .int d.2.2.2.2.2.2.2.2.2.1, .int d.2.2.2.2.2.2.2.2.2.2.1, .int d.2.2.2.2.2.2.2.2.2.2.2])), (ad 2, .inl (ca 0, 1024, .inr (.inl d.1))), (ad 3, .inl (ca 0, 1024, .inr (.inl d.2.1))), (ad 4, .inl (ca 1, 320, .inl d.2.2.1)), (ad 5, .inl (ca 0, 320, .inr (.inl d.2.2.2.1)))]
def wC (ad : Nat → Nat) (ca : Nat → ClassId) (h : CT) : va_W := [(ad 7, .inr (1, [.ref (ad 8), .ref (ad 9), .ref (ad 10), .ref (ad 11), .int h.2.2.2.2.1, .int (bI h.2.2.2.2.2)])), (ad 8, .inl (ca 0, 1024, .inr (.inl h.1))), (ad 9, .inl (ca 0, 1024, .inr (.inl h.2.1))), (ad 10, .inl (ca 2, 1024, .inl h.2.2.1)), (ad 11, .inl (ca 1, 96, .inl h.2.2.2.1))]
end
section
theorem ww0 : Cond.fieldLink RX2 25 "RedoHeap$Disk" "on" "Z" ∈ gA := wt1 34 rfl rfl
/-! RedoHeap$Disk.isOn()Z -/
def f_Disk_isOn (vD : DT) : Option (Bool) :=
  some vD.2.2.2.2.2.1
abbrev cd_Disk_isOn : Cond := .code yX2_isOn cX2_isOn 1 (some .boolean)
theorem yd_Disk_isOn : yX2_isOn.cls ≠ "java/lang/invoke/MethodHandle" ∧ yX2_isOn.cls ≠ "java/lang/invoke/VarHandle" ∧ (parseMethodDescriptor yX2_isOn.desc).map (fun d => d.parameters.length) = some 0 := by decide +kernel
abbrev rm_Disk_isOn : Room := { frames := 0, cells := 0, slots := 0, locals := 0 }
abbrev q_Disk_isOn (D : va_G) (ad : Nat → Nat) (ca : Nat → ClassId) (vD : DT) (res : Bool) (A : Nat → Prop) : Array Value → State → Outcome → State → Prop := va_Qi (fun (r : Int32) (_ : Unit) => r = bI res) (gB D cls (tys ca) A (fun (u : Unit) => (wD ad ca vD))) A
set_option maxHeartbeats 4000000 in
set_option maxRecDepth 100000 in
theorem c_Disk_isOn (l : Launch) (D : va_G) (ad : Nat → Nat) (ca : Nat → ClassId) (vD : DT) (res : Bool) (hf : f_Disk_isOn vD = some res) (sz : Nat) : Met l yX2_isOn (cd_Disk_isOn :: gA) rm_Disk_isOn (va_Pc [.ref (ad 1)] (gP D cls (tys ca) (wD ad ca vD) sz)) (q_Disk_isOn D ad ca vD res (va_A (wD ad ca vD) sz)) 0 0 (va_A (wD ad ca vD) sz) := by
  refine g_met (cc := cX2_isOn) (Qc := q_Disk_isOn D ad ca vD res) (lv := [(0, .ref (ad 1))]) (own := RX2) (by decide) rfl rfl (Nat.le_of_ble_eq_true rfl) rfl sz ?_
  intro p e s m args below meth c A Z hr hnm
  unfold f_Disk_isOn at hf
  refine g_aload_n (pc := 0) Z 0 dX2_isOn_0 rfl ?_
  refine g_get (pc := 1) (T := TX2) (N := 12) Z 0 5 dX2_isOn_1 (mm ww0) inx_X2 rfl (by decide) rfl rfl rfl ?_
  obtain rfl := Option.some.inj hf
  exact g_zret Z hr (bI_nar vD.2.2.2.2.2.1) dX2_isOn_4 () rfl rfl
/-! RedoHeap.isWord(I)Z -/
def f_Heap_isWord (p1 : Int32) : Option (Bool) :=
  if p1 < 0 then some false else if (1024 : Int32) ≤ p1 then some false else some true
abbrev cd_Heap_isWord : Cond := .code yX4_isWord cX4_isWord 1 (some .boolean)
theorem yd_Heap_isWord : yX4_isWord.cls ≠ "java/lang/invoke/MethodHandle" ∧ yX4_isWord.cls ≠ "java/lang/invoke/VarHandle" ∧ (parseMethodDescriptor yX4_isWord.desc).map (fun d => d.parameters.length) = some 1 := by decide +kernel
abbrev rm_Heap_isWord : Room := { frames := 0, cells := 0, slots := 0, locals := 0 }
abbrev q_Heap_isWord (D : va_G) (ad : Nat → Nat) (ca : Nat → ClassId) (res : Bool) (A : Nat → Prop) : Array Value → State → Outcome → State → Prop := va_Qi (fun (r : Int32) (_ : Unit) => r = bI res) (gB D cls (tys ca) A (fun (u : Unit) => ([] : va_W))) A
set_option maxHeartbeats 4000000 in
set_option maxRecDepth 100000 in
theorem c_Heap_isWord (l : Launch) (D : va_G) (ad : Nat → Nat) (ca : Nat → ClassId) (p1 : Int32) (res : Bool) (hf : f_Heap_isWord p1 = some res) (sz : Nat) : Met l yX4_isWord (cd_Heap_isWord :: gA) rm_Heap_isWord (va_Pc [.int p1] (gP D cls (tys ca) ([] : va_W) sz)) (q_Heap_isWord D ad ca res (va_A ([] : va_W) sz)) 0 0 (va_A ([] : va_W) sz) := by
  refine g_met (cc := cX4_isWord) (Qc := q_Heap_isWord D ad ca res) (lv := [(0, .int p1)]) (own := RX4) (by decide) rfl rfl (Nat.le_of_ble_eq_true rfl) rfl sz ?_
  intro p e s m args below meth c A Z hr hnm
  unfold f_Heap_isWord at hf
  refine g_iload_n (pc := 0) Z 0 dX4_isWord_0 rfl ?_
  refine g_if_lt (pc := 1) (tgt := 15) Z dX4_isWord_1 (by decide) (fun c1 => ?_) (fun c1 => ?_)
  · replace hf := gIfP c1 hf
    refine g_iconst (pc := 15) (v := 0) Z dX4_isWord_15 (by decide) ?_
    obtain rfl := Option.some.inj hf
    exact g_zret Z hr rfl dX4_isWord_16 () rfl rfl
  · replace hf := gIfN c1 hf
    refine g_iload_n (pc := 4) Z 0 dX4_isWord_4 rfl ?_
    refine g_sipush (pc := 5) (v := 1024) Z dX4_isWord_5 (by decide) ?_
    refine g_icmp_ge (pc := 8) (tgt := 15) Z dX4_isWord_8 (by decide) (fun c2 => ?_) (fun c2 => ?_)
    · replace hf := gIfP c2 hf
      refine g_iconst (pc := 15) (v := 0) Z dX4_isWord_15 (by decide) ?_
      obtain rfl := Option.some.inj hf
      exact g_zret Z hr rfl dX4_isWord_16 () rfl rfl
    · replace hf := gIfN c2 hf
      refine g_iconst (pc := 11) (v := 1) Z dX4_isWord_11 (by decide) ?_
      refine g_goto (pc := 12) (tgt := 16) Z dX4_isWord_12 (by decide) ?_
      obtain rfl := Option.some.inj hf
      exact g_zret Z hr rfl dX4_isWord_16 () rfl rfl
theorem ww1 : cd_Heap_isWord ∈ gA := wt2 44 rfl rfl
theorem ww2 : Cond.initialized RX4 ∈ gA := wt1 1 rfl rfl
theorem ww3 : Cond.static yX4_isWord ∈ gA := wt2 43 rfl rfl
theorem ww4 : Cond.fieldLink RX2 15 "RedoHeap$Disk" "latest" "[J" ∈ gA := wt1 30 rfl rfl
/-! RedoHeap$Disk.read(I)J -/
def f_Disk_read (vD : DT) (p1 : Int32) : Option (Int64) :=
  (f_Heap_isWord p1).bind fun x1 => if x1 = true then if gI p1 1024 = true then some (vD.2.1 p1.toNatClampNeg) else none else some (0 : Int64)
abbrev cd_Disk_read : Cond := .code yX2_read cX2_read 2 (some .long)
theorem yd_Disk_read : yX2_read.cls ≠ "java/lang/invoke/MethodHandle" ∧ yX2_read.cls ≠ "java/lang/invoke/VarHandle" ∧ (parseMethodDescriptor yX2_read.desc).map (fun d => d.parameters.length) = some 1 := by decide +kernel
abbrev rm_Disk_read : Room := { frames := 1, cells := 0, slots := 0, locals := 20 }
abbrev q_Disk_read (D : va_G) (ad : Nat → Nat) (ca : Nat → ClassId) (vD : DT) (res : Int64) (A : Nat → Prop) : Array Value → State → Outcome → State → Prop := va_Ql (fun (r : Int64) (_ : Unit) => r = res) (gB D cls (tys ca) A (fun (u : Unit) => (wD ad ca vD))) A
set_option maxHeartbeats 4000000 in
set_option maxRecDepth 100000 in
theorem c_Disk_read (l : Launch) (D : va_G) (ad : Nat → Nat) (ca : Nat → ClassId) (vD : DT) (p1 : Int32) (res : Int64) (hf : f_Disk_read vD p1 = some res) (sz : Nat) : Met l yX2_read (cd_Disk_read :: gA) rm_Disk_read (va_Pc [.ref (ad 1), .int p1] (gP D cls (tys ca) (wD ad ca vD) sz)) (q_Disk_read D ad ca vD res (va_A (wD ad ca vD) sz)) 0 0 (va_A (wD ad ca vD) sz) := by
  refine g_met (cc := cX2_read) (Qc := q_Disk_read D ad ca vD res) (lv := [(0, .ref (ad 1)), (1, .int p1)]) (own := RX2) (by decide) rfl rfl (Nat.le_of_ble_eq_true rfl) rfl sz ?_
  intro p e s m args below meth c A Z hr hnm
  unfold f_Disk_read at hf
  refine g_iload_n (pc := 0) Z 1 dX2_read_0 rfl ?_
  obtain ⟨x1, h2, hf⟩ := Option.bind_eq_some_iff.mp hf
  refine g_calli (pc := 1) (ws2 := fun u => (wD ad ca vD)) (wr := (wD ad ca vD)) Z [] [0, 1, 2, 3, 4] [0, 1, 2, 3, 4] (g_runSN Z (c_Heap_isWord l D ad ca p1 x1 h2) ⟨va_cnB 1 Z.2.2.2.2.1 (gg_C ww1) rfl rfl rfl Z.2.2.2.2.2.2.2.2.2.2.2 (Z.2.2.2.2.1 _ (mm ww2)) yd_Heap_isWord ⟨Nat.le_of_ble_eq_true rfl, Nat.le_of_ble_eq_true rfl⟩, Z.2.2.2.2.1 _ (mm ww3), trivial⟩ [] rfl (by decide) rfl rfl (Nat.le_of_ble_eq_true rfl) dX2_read_1 ⟨Nat.le_of_ble_eq_true rfl, Nat.le_of_ble_eq_true rfl⟩) rfl rfl (by decide) (by decide) (by decide) (fun _ => rfl) (fun r u hu => ?_)
  obtain rfl := hu.symm
  refine g_if_eq (pc := 4) (tgt := 16) Z dX2_read_4 (by decide) (fun c3 => ?_) (fun c3 => ?_)
  · replace hf := gIfN (bI_z c3) hf
    refine g_lconst (pc := 16) (v := 0) Z dX2_read_16 (by decide) ?_
    obtain rfl := Option.some.inj hf
    exact g_lret Z hr dX2_read_17 () rfl rfl
  · replace hf := gIfP (bI_nz c3) hf
    refine g_aload_n (pc := 7) Z 0 dX2_read_7 rfl ?_
    refine g_get (pc := 8) (T := TX2) (N := 12) Z 0 1 dX2_read_8 (mm ww4) inx_X2 rfl (by decide) rfl rfl rfl ?_
    refine g_iload_n (pc := 11) Z 1 dX2_read_11 rfl ?_
    obtain ⟨b4, hf⟩ := gGuard hf
    refine g_lald (pc := 12) Z 2 0 dX2_read_12 rfl rfl (gI_in b4) ?_
    refine g_goto (pc := 13) (tgt := 17) Z dX2_read_13 (by decide) ?_
    obtain rfl := Option.some.inj hf
    exact g_lret Z hr dX2_read_17 () rfl rfl
theorem ww5 : Cond.fieldLink RX2 18 "RedoHeap$Disk" "waitingPlace" "[I" ∈ gA := wt1 31 rfl rfl
theorem ww6 : Cond.fieldLink RX2 9 "RedoHeap$Disk" "settled" "[J" ∈ gA := wt1 29 rfl rfl
theorem ww7 : Cond.fieldLink RX2 22 "RedoHeap$Disk" "waitingValue" "[J" ∈ gA := wt1 32 rfl rfl
/-! RedoHeap$Disk.settleFirst(I)V -/
def f_Disk_settleFirst_2 (N : Nat) : Nat → DT → Int32 → Int32 → Option (DT)
  | 0, _, _, _ => none
  | n + 1, vD, y1, y2 => if y1 ≤ y2 then some vD else if (320 : Int32) ≤ y2 then some vD else if gI y2 320 = true then (f_Heap_isWord (vD.2.2.1 y2.toNatClampNeg)).bind fun x4 => if x4 = true then if gI y2 320 = true then if gI (vD.2.2.1 y2.toNatClampNeg) 1024 = true then f_Disk_settleFirst_2 N n (vp_updL vD.1 (vD.2.2.1 y2.toNatClampNeg).toNatClampNeg (vD.2.2.2.1 y2.toNatClampNeg), vD.2.1, vD.2.2.1, vD.2.2.2.1, vD.2.2.2.2.1, vD.2.2.2.2.2.1, vD.2.2.2.2.2.2.1, vD.2.2.2.2.2.2.2.1, vD.2.2.2.2.2.2.2.2.1, vD.2.2.2.2.2.2.2.2.2.1, vD.2.2.2.2.2.2.2.2.2.2.1, vD.2.2.2.2.2.2.2.2.2.2.2) y1 (y2 + (1 : Int32)) else none else none else f_Disk_settleFirst_2 N n vD y1 (y2 + (1 : Int32)) else none
def f_Disk_settleFirst (N : Nat) (vD : DT) (p1 : Int32) : Option (DT) :=
  f_Disk_settleFirst_2 N N vD p1 (0 : Int32)
abbrev cd_Disk_settleFirst : Cond := .code yX2_settleFirst cX2_settleFirst 4 none
theorem yd_Disk_settleFirst : yX2_settleFirst.cls ≠ "java/lang/invoke/MethodHandle" ∧ yX2_settleFirst.cls ≠ "java/lang/invoke/VarHandle" ∧ (parseMethodDescriptor yX2_settleFirst.desc).map (fun d => d.parameters.length) = some 1 := by decide +kernel
abbrev rm_Disk_settleFirst : Room := { frames := 1, cells := 0, slots := 0, locals := 20 }
abbrev q_Disk_settleFirst (D : va_G) (ad : Nat → Nat) (ca : Nat → ClassId) (res : DT) (A : Nat → Prop) : Array Value → State → Outcome → State → Prop := va_Qv (fun (u : DT) => u = res) (gB D cls (tys ca) A (fun (u : DT) => (wD ad ca u))) A
set_option maxHeartbeats 4000000 in
set_option maxRecDepth 100000 in
theorem w_Disk_settleFirst_2 {p : Program} {l : Launch} {e : Env} {s : State} {m : MethodId} {args : Array Value} {below : List Frame} {meth : Method} {c : Code} {D : va_G} {ad : Nat → Nat} {ca : Nat → ClassId} {A : Nat → Prop} {N : Nat} {res : DT} (Z : gZ p s m args meth c cX2_settleFirst 4 RX2 (cd_Disk_settleFirst :: gA) A D cls (tys ca)) (hr : meth.sig.returnType = none) : ∀ (n : Nat) (vD : DT) (y1 : Int32) (y2 : Int32), f_Disk_settleFirst_2 N n vD y1 y2 = some res → gW p l e rm_Disk_settleFirst s m args below meth c 4 A D cls 0 0 (MQ below (q_Disk_settleFirst D ad ca res A) args s 0 0 A) (wD ad ca vD) [(0, .ref (ad 1)), (1, .int y1), (2, .int y2)] 2 [] := by
  intro n
  induction n with
  | zero =>
    intro vD y1 y2 hf
    exact absurd hf (by rw [f_Disk_settleFirst_2]; exact fun h => by cases h)
  | succ n ih =>
    intro vD y1 y2 hf
    rw [f_Disk_settleFirst_2] at hf
    refine g_iload_n (pc := 2) Z 2 dX2_settleFirst_2 rfl ?_
    refine g_iload_n (pc := 3) Z 1 dX2_settleFirst_3 rfl ?_
    refine g_icmp_ge (pc := 4) (tgt := 46) Z dX2_settleFirst_4 (by decide) (fun c1 => ?_) (fun c1 => ?_)
    · replace hf := gIfP c1 hf
      obtain rfl := Option.some.inj hf
      exact g_vret Z hr dX2_settleFirst_46 vD rfl rfl
    · replace hf := gIfN c1 hf
      refine g_iload_n (pc := 7) Z 2 dX2_settleFirst_7 rfl ?_
      refine g_sipush (pc := 8) (v := 320) Z dX2_settleFirst_8 (by decide) ?_
      refine g_icmp_ge (pc := 11) (tgt := 46) Z dX2_settleFirst_11 (by decide) (fun c2 => ?_) (fun c2 => ?_)
      · replace hf := gIfP c2 hf
        obtain rfl := Option.some.inj hf
        exact g_vret Z hr dX2_settleFirst_46 vD rfl rfl
      · replace hf := gIfN c2 hf
        refine g_aload_n (pc := 14) Z 0 dX2_settleFirst_14 rfl ?_
        refine g_get (pc := 15) (T := TX2) (N := 12) Z 0 2 dX2_settleFirst_15 (mm ww5) inx_X2 rfl (by decide) rfl rfl rfl ?_
        refine g_iload_n (pc := 18) Z 2 dX2_settleFirst_18 rfl ?_
        obtain ⟨b3, hf⟩ := gGuard hf
        refine g_iald (pc := 19) Z 3 1 dX2_settleFirst_19 rfl rfl (gI_in b3) ?_
        refine g_istore_n (pc := 20) (lv' := [(3, .int (vD.2.2.1 y2.toNatClampNeg)), (0, .ref (ad 1)), (1, .int y1), (2, .int y2)]) Z dX2_settleFirst_20 (by decide) rfl ?_
        refine g_iload_n (pc := 21) Z 0 dX2_settleFirst_21 rfl ?_
        obtain ⟨x4, h5, hf⟩ := Option.bind_eq_some_iff.mp hf
        refine g_calli (pc := 22) (ws2 := fun u => (wD ad ca vD)) (wr := (wD ad ca vD)) Z [] [0, 1, 2, 3, 4] [0, 1, 2, 3, 4] (g_runSN Z (c_Heap_isWord l D ad ca (vD.2.2.1 y2.toNatClampNeg) x4 h5) ⟨va_cnB 1 Z.2.2.2.2.1 (gg_C ww1) rfl rfl rfl Z.2.2.2.2.2.2.2.2.2.2.2 (Z.2.2.2.2.1 _ (mm ww2)) yd_Heap_isWord ⟨Nat.le_of_ble_eq_true rfl, Nat.le_of_ble_eq_true rfl⟩, Z.2.2.2.2.1 _ (mm ww3), trivial⟩ [] rfl (by decide) rfl rfl (Nat.le_of_ble_eq_true rfl) dX2_settleFirst_22 ⟨Nat.le_of_ble_eq_true rfl, Nat.le_of_ble_eq_true rfl⟩) rfl rfl (by decide) (by decide) (by decide) (fun _ => rfl) (fun r u hu => ?_)
        obtain rfl := hu.symm
        refine g_if_eq (pc := 25) (tgt := 40) Z dX2_settleFirst_25 (by decide) (fun c6 => ?_) (fun c6 => ?_)
        · replace hf := gIfN (bI_z c6) hf
          refine g_iinc (pc := 40) (v := y2 + (1 : Int32)) (lv' := [(2, .int (y2 + (1 : Int32))), (3, .int (vD.2.2.1 y2.toNatClampNeg)), (0, .ref (ad 1)), (1, .int y1)]) Z 3 dX2_settleFirst_40 rfl rfl (by decide) rfl ?_
          refine g_goto (pc := 43) (tgt := 2) Z dX2_settleFirst_43 (by decide) ?_
          refine g_locals (lv2 := [(0, .ref (ad 1)), (1, .int y1), (2, .int (y2 + (1 : Int32)))]) [2, 3, 0] rfl ?_
          exact ih _ _ _ hf
        · replace hf := gIfP (bI_nz c6) hf
          refine g_aload_n (pc := 28) Z 1 dX2_settleFirst_28 rfl ?_
          refine g_get (pc := 29) (T := TX2) (N := 12) Z 0 0 dX2_settleFirst_29 (mm ww6) inx_X2 rfl (by decide) rfl rfl rfl ?_
          refine g_iload_n (pc := 32) Z 0 dX2_settleFirst_32 rfl ?_
          refine g_aload_n (pc := 33) Z 1 dX2_settleFirst_33 rfl ?_
          refine g_get (pc := 34) (T := TX2) (N := 12) Z 0 3 dX2_settleFirst_34 (mm ww7) inx_X2 rfl (by decide) rfl rfl rfl ?_
          refine g_iload_n (pc := 37) Z 3 dX2_settleFirst_37 rfl ?_
          obtain ⟨b7, hf⟩ := gGuard hf
          refine g_lald (pc := 38) Z 4 0 dX2_settleFirst_38 rfl rfl (gI_in b7) ?_
          obtain ⟨b8, hf⟩ := gGuard hf
          refine g_last (pc := 39) (ws' := (wD ad ca (vp_updL vD.1 (vD.2.2.1 y2.toNatClampNeg).toNatClampNeg (vD.2.2.2.1 y2.toNatClampNeg), vD.2.1, vD.2.2.1, vD.2.2.2.1, vD.2.2.2.2.1, vD.2.2.2.2.2.1, vD.2.2.2.2.2.2.1, vD.2.2.2.2.2.2.2.1, vD.2.2.2.2.2.2.2.2.1, vD.2.2.2.2.2.2.2.2.2.1, vD.2.2.2.2.2.2.2.2.2.2.1, vD.2.2.2.2.2.2.2.2.2.2.2))) Z 1 0 dX2_settleFirst_39 rfl rfl (gI_in b8) rfl ?_
          refine g_iinc (pc := 40) (v := y2 + (1 : Int32)) (lv' := [(2, .int (y2 + (1 : Int32))), (3, .int (vD.2.2.1 y2.toNatClampNeg)), (0, .ref (ad 1)), (1, .int y1)]) Z 3 dX2_settleFirst_40 rfl rfl (by decide) rfl ?_
          refine g_goto (pc := 43) (tgt := 2) Z dX2_settleFirst_43 (by decide) ?_
          refine g_locals (lv2 := [(0, .ref (ad 1)), (1, .int y1), (2, .int (y2 + (1 : Int32)))]) [2, 3, 0] rfl ?_
          exact ih _ _ _ hf
set_option maxHeartbeats 4000000 in
set_option maxRecDepth 100000 in
theorem c_Disk_settleFirst (l : Launch) (D : va_G) (ad : Nat → Nat) (ca : Nat → ClassId) (N : Nat) (vD : DT) (p1 : Int32) (res : DT) (hf : f_Disk_settleFirst N vD p1 = some res) (sz : Nat) : Met l yX2_settleFirst (cd_Disk_settleFirst :: gA) rm_Disk_settleFirst (va_Pc [.ref (ad 1), .int p1] (gP D cls (tys ca) (wD ad ca vD) sz)) (q_Disk_settleFirst D ad ca res (va_A (wD ad ca vD) sz)) 0 0 (va_A (wD ad ca vD) sz) := by
  refine g_met (cc := cX2_settleFirst) (Qc := q_Disk_settleFirst D ad ca res) (lv := [(0, .ref (ad 1)), (1, .int p1)]) (own := RX2) (by decide) rfl rfl (Nat.le_of_ble_eq_true rfl) rfl sz ?_
  intro p e s m args below meth c A Z hr hnm
  unfold f_Disk_settleFirst at hf
  refine g_iconst (pc := 0) (v := 0) Z dX2_settleFirst_0 (by decide) ?_
  refine g_istore_n (pc := 1) (lv' := [(2, .int (0 : Int32)), (0, .ref (ad 1)), (1, .int p1)]) Z dX2_settleFirst_1 (by decide) rfl ?_
  refine g_locals (lv2 := [(0, .ref (ad 1)), (1, .int p1), (2, .int (0 : Int32))]) [1, 2, 0] rfl ?_
  exact w_Disk_settleFirst_2 Z hr N _ _ _ hf
theorem ww8 : Cond.fieldLink RX2 29 "RedoHeap$Disk" "waiting" "I" ∈ gA := wt1 33 rfl rfl
theorem ww9 : Cond.methodLink RX2 62 Lib.Math.min.name ∈ gA := wt2 195 rfl rfl
theorem ww10 : Cond.static Lib.Math.min.name ∈ gA := wt2 196 rfl rfl
theorem ww11 : Cond.initialized "java/lang/Math" ∈ gA := wt1 12 rfl rfl
theorem ww12 : Cond.code Lib.Math.min.name Lib.Math.min.code 2 (some .int) ∈ gA := wt2 197 rfl rfl
theorem ww13 : Cond.methodLink RX2 59 yX2_settleFirst ∈ gA := wt2 198 rfl rfl
theorem ww14 : Cond.instanceMethod yX2_settleFirst ∈ gA := wt2 200 rfl rfl
theorem ww15 : Cond.selects RX2 yX2_settleFirst yX2_settleFirst ∈ gA := wtS 13 rfl rfl
theorem ww16 : Cond.initialized RX2 ∈ gA := wt1 2 rfl rfl
theorem ww17 : cd_Disk_settleFirst ∈ gA := wt2 201 rfl rfl
theorem ww18 : Cond.fieldLink RX2 42 "RedoHeap$Disk" "lost" "I" ∈ gA := wt1 40 rfl rfl
theorem ww19 : Cond.fieldLink RX2 49 "RedoHeap$Disk" "writesLeft" "I" ∈ gA := wt1 35 rfl rfl
theorem ww20 : Cond.fieldLink RX2 39 "RedoHeap$Disk" "failures" "I" ∈ gA := wt1 39 rfl rfl
theorem ww21 : Cond.methodLink RX2 68 arraycopyName ∈ gA := wt2 202 rfl rfl
theorem ww22 : Cond.native arraycopyName ∈ gA := wt2 204 rfl rfl
theorem ww23 : Cond.static arraycopyName ∈ gA := wt2 203 rfl rfl
theorem ww24 : Cond.initialized "java/lang/System" ∈ gA := wt1 13 rfl rfl
/-! RedoHeap$Disk.losePower(I)V -/
def f_Disk_losePower (N : Nat) (vD : DT) (p1 : Int32) : Option (DT) :=
  (f_Disk_settleFirst N vD (if vD.2.2.2.2.1 < p1 then vD.2.2.2.2.1 else p1)).bind fun x1 => some (x1.1, va_cpy x1.1 x1.2.1 (0 : Int32).toNatClampNeg (0 : Int32).toNatClampNeg (1024 : Int32).toNatClampNeg, x1.2.2.1, x1.2.2.2.1, (0 : Int32), false, (0 : Int32), x1.2.2.2.2.2.2.2.1, x1.2.2.2.2.2.2.2.2.1, x1.2.2.2.2.2.2.2.2.2.1, x1.2.2.2.2.2.2.2.2.2.2.1 + (1 : Int32), x1.2.2.2.2.2.2.2.2.2.2.2 + (x1.2.2.2.2.1 - (if vD.2.2.2.2.1 < p1 then vD.2.2.2.2.1 else p1)))
abbrev cd_Disk_losePower : Cond := .code yX2_losePower cX2_losePower 3 none
theorem yd_Disk_losePower : yX2_losePower.cls ≠ "java/lang/invoke/MethodHandle" ∧ yX2_losePower.cls ≠ "java/lang/invoke/VarHandle" ∧ (parseMethodDescriptor yX2_losePower.desc).map (fun d => d.parameters.length) = some 1 := by decide +kernel
abbrev rm_Disk_losePower : Room := { frames := 2, cells := 0, slots := 0, locals := 60 }
abbrev q_Disk_losePower (D : va_G) (ad : Nat → Nat) (ca : Nat → ClassId) (res : DT) (A : Nat → Prop) : Array Value → State → Outcome → State → Prop := va_Qv (fun (u : DT) => u = res) (gB D cls (tys ca) A (fun (u : DT) => (wD ad ca u))) A
set_option maxHeartbeats 4000000 in
set_option maxRecDepth 100000 in
theorem c_Disk_losePower (l : Launch) (D : va_G) (ad : Nat → Nat) (ca : Nat → ClassId) (N : Nat) (vD : DT) (p1 : Int32) (res : DT) (hf : f_Disk_losePower N vD p1 = some res) (sz : Nat) : Met l yX2_losePower (cd_Disk_losePower :: gA) rm_Disk_losePower (va_Pc [.ref (ad 1), .int p1] (gP D cls (tys ca) (wD ad ca vD) sz)) (q_Disk_losePower D ad ca res (va_A (wD ad ca vD) sz)) 0 0 (va_A (wD ad ca vD) sz) := by
  refine g_met (cc := cX2_losePower) (Qc := q_Disk_losePower D ad ca res) (lv := [(0, .ref (ad 1)), (1, .int p1)]) (own := RX2) (by decide) rfl rfl (Nat.le_of_ble_eq_true rfl) rfl sz ?_
  intro p e s m args below meth c A Z hr hnm
  unfold f_Disk_losePower at hf
  refine g_iload_n (pc := 0) Z 1 dX2_losePower_0 rfl ?_
  refine g_aload_n (pc := 1) Z 0 dX2_losePower_1 rfl ?_
  refine g_get (pc := 2) (T := TX2) (N := 12) Z 0 4 dX2_losePower_2 (mm ww8) inx_X2 rfl (by decide) rfl rfl rfl ?_
  refine g_mmin (pc := 5) Z dX2_losePower_5 (mm ww9) (mm ww10) (mm ww11) (mm ww12) (Nat.le_of_ble_eq_true rfl) (Nat.le_of_ble_eq_true rfl) (Nat.zero_le _) (Nat.zero_le _) ?_
  refine g_istore_n (pc := 8) (lv' := [(2, .int (if vD.2.2.2.2.1 < p1 then vD.2.2.2.2.1 else p1)), (0, .ref (ad 1)), (1, .int p1)]) Z dX2_losePower_8 (by decide) rfl ?_
  refine g_aload_n (pc := 9) Z 1 dX2_losePower_9 rfl ?_
  refine g_iload_n (pc := 10) Z 0 dX2_losePower_10 rfl ?_
  obtain ⟨x1, h2, hf⟩ := Option.bind_eq_some_iff.mp hf
  refine g_callv (pc := 11) (ws2 := fun u => (wD ad ca u)) (wr := ([] : va_W)) Z [0, 1, 2, 3, 4] [] [0, 1, 2, 3, 4] (g_runV Z (c_Disk_settleFirst l D ad ca N vD (if vD.2.2.2.2.1 < p1 then vD.2.2.2.2.1 else p1) x1 h2) (cwV 1 Z.2.2.2.2.1 (gg_V ww13 ww14 ww15 ww16 ww17) rfl rfl rfl (yv_of rfl yd_Disk_settleFirst) ⟨Nat.le_of_ble_eq_true rfl, Nat.le_of_ble_eq_true rfl⟩) [0, 1, 2, 3, 4] rfl (by decide) 0 rfl rfl rfl rfl rfl (Nat.le_of_ble_eq_true rfl) dX2_losePower_11 ⟨Nat.le_of_ble_eq_true rfl, Nat.le_of_ble_eq_true rfl⟩) rfl rfl (by decide) (by decide) (by decide) (fun _ => rfl) (fun u hu => ?_)
  obtain rfl := hu.symm
  refine g_aload_n (pc := 14) Z 1 dX2_losePower_14 rfl ?_
  refine g_dup (pc := 15) Z dX2_losePower_15 rfl ?_
  refine g_get (pc := 16) (T := TX2) (N := 12) Z 0 11 dX2_losePower_16 (mm ww18) inx_X2 rfl (by decide) rfl rfl rfl ?_
  refine g_aload_n (pc := 19) Z 1 dX2_losePower_19 rfl ?_
  refine g_get (pc := 20) (T := TX2) (N := 12) Z 0 4 dX2_losePower_20 (mm ww8) inx_X2 rfl (by decide) rfl rfl rfl ?_
  refine g_iload_n (pc := 23) Z 0 dX2_losePower_23 rfl ?_
  refine g_isub (pc := 24) Z dX2_losePower_24 ?_
  refine g_iadd (pc := 25) Z dX2_losePower_25 ?_
  refine g_put (pc := 26) (T := TX2) (N := 12) (ws' := (wD ad ca (x1.1, x1.2.1, x1.2.2.1, x1.2.2.2.1, x1.2.2.2.2.1, x1.2.2.2.2.2.1, x1.2.2.2.2.2.2.1, x1.2.2.2.2.2.2.2.1, x1.2.2.2.2.2.2.2.2.1, x1.2.2.2.2.2.2.2.2.2.1, x1.2.2.2.2.2.2.2.2.2.2.1, x1.2.2.2.2.2.2.2.2.2.2.2 + (x1.2.2.2.2.1 - (if vD.2.2.2.2.1 < p1 then vD.2.2.2.2.1 else p1))))) Z 0 11 dX2_losePower_26 (mm ww18) inx_X2 tyX2_ok nmX2 rfl (by decide) rfl rfl rfl rfl rfl rfl (Nat.le_of_ble_eq_true rfl) rfl ?_
  refine g_aload_n (pc := 29) Z 1 dX2_losePower_29 rfl ?_
  refine g_iconst (pc := 30) (v := 0) Z dX2_losePower_30 (by decide) ?_
  refine g_put (pc := 31) (T := TX2) (N := 12) (ws' := (wD ad ca (x1.1, x1.2.1, x1.2.2.1, x1.2.2.2.1, (0 : Int32), x1.2.2.2.2.2.1, x1.2.2.2.2.2.2.1, x1.2.2.2.2.2.2.2.1, x1.2.2.2.2.2.2.2.2.1, x1.2.2.2.2.2.2.2.2.2.1, x1.2.2.2.2.2.2.2.2.2.2.1, x1.2.2.2.2.2.2.2.2.2.2.2 + (x1.2.2.2.2.1 - (if vD.2.2.2.2.1 < p1 then vD.2.2.2.2.1 else p1))))) Z 0 4 dX2_losePower_31 (mm ww8) inx_X2 tyX2_ok nmX2 rfl (by decide) rfl rfl rfl rfl rfl rfl (Nat.le_of_ble_eq_true rfl) rfl ?_
  refine g_aload_n (pc := 34) Z 1 dX2_losePower_34 rfl ?_
  refine g_iconst (pc := 35) (v := 0) Z dX2_losePower_35 (by decide) ?_
  refine g_put (pc := 36) (T := TX2) (N := 12) (ws' := (wD ad ca (x1.1, x1.2.1, x1.2.2.1, x1.2.2.2.1, (0 : Int32), x1.2.2.2.2.2.1, (0 : Int32), x1.2.2.2.2.2.2.2.1, x1.2.2.2.2.2.2.2.2.1, x1.2.2.2.2.2.2.2.2.2.1, x1.2.2.2.2.2.2.2.2.2.2.1, x1.2.2.2.2.2.2.2.2.2.2.2 + (x1.2.2.2.2.1 - (if vD.2.2.2.2.1 < p1 then vD.2.2.2.2.1 else p1))))) Z 0 6 dX2_losePower_36 (mm ww19) inx_X2 tyX2_ok nmX2 rfl (by decide) rfl rfl rfl rfl rfl rfl (Nat.le_of_ble_eq_true rfl) rfl ?_
  refine g_aload_n (pc := 39) Z 1 dX2_losePower_39 rfl ?_
  refine g_iconst (pc := 40) (v := 0) Z dX2_losePower_40 (by decide) ?_
  refine g_put (pc := 41) (T := TX2) (N := 12) (ws' := (wD ad ca (x1.1, x1.2.1, x1.2.2.1, x1.2.2.2.1, (0 : Int32), false, (0 : Int32), x1.2.2.2.2.2.2.2.1, x1.2.2.2.2.2.2.2.2.1, x1.2.2.2.2.2.2.2.2.2.1, x1.2.2.2.2.2.2.2.2.2.2.1, x1.2.2.2.2.2.2.2.2.2.2.2 + (x1.2.2.2.2.1 - (if vD.2.2.2.2.1 < p1 then vD.2.2.2.2.1 else p1))))) Z 0 5 dX2_losePower_41 (mm ww0) inx_X2 tyX2_ok nmX2 rfl (by decide) rfl rfl rfl rfl rfl rfl (Nat.le_of_ble_eq_true rfl) rfl ?_
  refine g_aload_n (pc := 44) Z 1 dX2_losePower_44 rfl ?_
  refine g_dup (pc := 45) Z dX2_losePower_45 rfl ?_
  refine g_get (pc := 46) (T := TX2) (N := 12) Z 0 10 dX2_losePower_46 (mm ww20) inx_X2 rfl (by decide) rfl rfl rfl ?_
  refine g_iconst (pc := 49) (v := 1) Z dX2_losePower_49 (by decide) ?_
  refine g_iadd (pc := 50) Z dX2_losePower_50 ?_
  refine g_put (pc := 51) (T := TX2) (N := 12) (ws' := (wD ad ca (x1.1, x1.2.1, x1.2.2.1, x1.2.2.2.1, (0 : Int32), false, (0 : Int32), x1.2.2.2.2.2.2.2.1, x1.2.2.2.2.2.2.2.2.1, x1.2.2.2.2.2.2.2.2.2.1, x1.2.2.2.2.2.2.2.2.2.2.1 + (1 : Int32), x1.2.2.2.2.2.2.2.2.2.2.2 + (x1.2.2.2.2.1 - (if vD.2.2.2.2.1 < p1 then vD.2.2.2.2.1 else p1))))) Z 0 10 dX2_losePower_51 (mm ww20) inx_X2 tyX2_ok nmX2 rfl (by decide) rfl rfl rfl rfl rfl rfl (Nat.le_of_ble_eq_true rfl) rfl ?_
  refine g_aload_n (pc := 54) Z 1 dX2_losePower_54 rfl ?_
  refine g_get (pc := 55) (T := TX2) (N := 12) Z 0 0 dX2_losePower_55 (mm ww6) inx_X2 rfl (by decide) rfl rfl rfl ?_
  refine g_iconst (pc := 58) (v := 0) Z dX2_losePower_58 (by decide) ?_
  refine g_aload_n (pc := 59) Z 1 dX2_losePower_59 rfl ?_
  refine g_get (pc := 60) (T := TX2) (N := 12) Z 0 1 dX2_losePower_60 (mm ww4) inx_X2 rfl (by decide) rfl rfl rfl ?_
  refine g_iconst (pc := 63) (v := 0) Z dX2_losePower_63 (by decide) ?_
  refine g_sipush (pc := 64) (v := 1024) Z dX2_losePower_64 (by decide) ?_
  refine g_copyl (pc := 67) (ws' := (wD ad ca (x1.1, va_cpy x1.1 x1.2.1 (0 : Int32).toNatClampNeg (0 : Int32).toNatClampNeg (1024 : Int32).toNatClampNeg, x1.2.2.1, x1.2.2.2.1, (0 : Int32), false, (0 : Int32), x1.2.2.2.2.2.2.2.1, x1.2.2.2.2.2.2.2.2.1, x1.2.2.2.2.2.2.2.2.2.1, x1.2.2.2.2.2.2.2.2.2.2.1 + (1 : Int32), x1.2.2.2.2.2.2.2.2.2.2.2 + (x1.2.2.2.2.1 - (if vD.2.2.2.2.1 < p1 then vD.2.2.2.2.1 else p1))))) Z 1 2 0 0 dX2_losePower_67 (mm ww21) (mm ww22) (mm ww23) (mm ww24) rfl rfl rfl rfl (by decide) (by decide) (by decide) (by decide) (by decide) (Nat.le_of_ble_eq_true rfl) (by decide +kernel) rfl ?_
  obtain rfl := Option.some.inj hf
  exact g_vret Z hr dX2_losePower_70 (x1.1, va_cpy x1.1 x1.2.1 (0 : Int32).toNatClampNeg (0 : Int32).toNatClampNeg (1024 : Int32).toNatClampNeg, x1.2.2.1, x1.2.2.2.1, (0 : Int32), false, (0 : Int32), x1.2.2.2.2.2.2.2.1, x1.2.2.2.2.2.2.2.2.1, x1.2.2.2.2.2.2.2.2.2.1, x1.2.2.2.2.2.2.2.2.2.2.1 + (1 : Int32), x1.2.2.2.2.2.2.2.2.2.2.2 + (x1.2.2.2.2.1 - (if vD.2.2.2.2.1 < p1 then vD.2.2.2.2.1 else p1))) rfl rfl
theorem ww25 : Cond.fieldLink RX2 33 "RedoHeap$Disk" "writes" "I" ∈ gA := wt1 37 rfl rfl
theorem ww26 : Cond.fieldLink RX2 52 "RedoHeap$Disk" "keepsThen" "I" ∈ gA := wt1 36 rfl rfl
theorem ww27 : Cond.methodLink RX2 55 yX2_losePower ∈ gA := wt2 191 rfl rfl
theorem ww28 : Cond.instanceMethod yX2_losePower ∈ gA := wt2 192 rfl rfl
theorem ww29 : Cond.selects RX2 yX2_losePower yX2_losePower ∈ gA := wt2 193 rfl rfl
theorem ww30 : cd_Disk_losePower ∈ gA := wt2 194 rfl rfl
/-! RedoHeap$Disk.write(IJ)Z -/
def f_Disk_write (N : Nat) (vD : DT) (p1 : Int32) (p2 : Int64) : Option (Bool × DT) :=
  if vD.2.2.2.2.2.1 = true then (f_Heap_isWord p1).bind fun x2 => if x2 = true then if vD.2.2.2.2.1 < (320 : Int32) then if gI p1 1024 = true then if gI vD.2.2.2.2.1 320 = true then if gI vD.2.2.2.2.1 320 = true then if vD.2.2.2.2.2.2.1 ≤ 0 then some (vD.2.2.2.2.2.1, (vD.1, vp_updL vD.2.1 p1.toNatClampNeg p2, upd vD.2.2.1 vD.2.2.2.2.1.toNatClampNeg p1, vp_updL vD.2.2.2.1 vD.2.2.2.2.1.toNatClampNeg p2, vD.2.2.2.2.1 + (1 : Int32), vD.2.2.2.2.2.1, vD.2.2.2.2.2.2.1, vD.2.2.2.2.2.2.2.1, vD.2.2.2.2.2.2.2.2.1 + (1 : Int32), vD.2.2.2.2.2.2.2.2.2.1, vD.2.2.2.2.2.2.2.2.2.2.1, vD.2.2.2.2.2.2.2.2.2.2.2)) else if (vD.2.2.2.2.2.2.1 - (1 : Int32)) = 0 then (f_Disk_losePower N (vD.1, vp_updL vD.2.1 p1.toNatClampNeg p2, upd vD.2.2.1 vD.2.2.2.2.1.toNatClampNeg p1, vp_updL vD.2.2.2.1 vD.2.2.2.2.1.toNatClampNeg p2, vD.2.2.2.2.1 + (1 : Int32), vD.2.2.2.2.2.1, vD.2.2.2.2.2.2.1 - (1 : Int32), vD.2.2.2.2.2.2.2.1, vD.2.2.2.2.2.2.2.2.1 + (1 : Int32), vD.2.2.2.2.2.2.2.2.2.1, vD.2.2.2.2.2.2.2.2.2.2.1, vD.2.2.2.2.2.2.2.2.2.2.2) vD.2.2.2.2.2.2.2.1).bind fun x11 => some (x11.2.2.2.2.2.1, x11) else some (vD.2.2.2.2.2.1, (vD.1, vp_updL vD.2.1 p1.toNatClampNeg p2, upd vD.2.2.1 vD.2.2.2.2.1.toNatClampNeg p1, vp_updL vD.2.2.2.1 vD.2.2.2.2.1.toNatClampNeg p2, vD.2.2.2.2.1 + (1 : Int32), vD.2.2.2.2.2.1, vD.2.2.2.2.2.2.1 - (1 : Int32), vD.2.2.2.2.2.2.2.1, vD.2.2.2.2.2.2.2.2.1 + (1 : Int32), vD.2.2.2.2.2.2.2.2.2.1, vD.2.2.2.2.2.2.2.2.2.2.1, vD.2.2.2.2.2.2.2.2.2.2.2)) else none else none else none else some (vD.2.2.2.2.2.1, vD) else some (vD.2.2.2.2.2.1, vD) else some (vD.2.2.2.2.2.1, vD)
abbrev cd_Disk_write : Cond := .code yX2_write cX2_write 4 (some .boolean)
theorem yd_Disk_write : yX2_write.cls ≠ "java/lang/invoke/MethodHandle" ∧ yX2_write.cls ≠ "java/lang/invoke/VarHandle" ∧ (parseMethodDescriptor yX2_write.desc).map (fun d => d.parameters.length) = some 2 := by decide +kernel
abbrev rm_Disk_write : Room := { frames := 3, cells := 0, slots := 0, locals := 82 }
abbrev q_Disk_write (D : va_G) (ad : Nat → Nat) (ca : Nat → ClassId) (res : Bool × DT) (A : Nat → Prop) : Array Value → State → Outcome → State → Prop := va_Qi (fun (r : Int32) (u : DT) => r = bI res.1 ∧ u = res.2) (gB D cls (tys ca) A (fun (u : DT) => (wD ad ca u))) A
set_option maxHeartbeats 4000000 in
set_option maxRecDepth 100000 in
theorem c_Disk_write (l : Launch) (D : va_G) (ad : Nat → Nat) (ca : Nat → ClassId) (N : Nat) (vD : DT) (p1 : Int32) (p2 : Int64) (res : Bool × DT) (hf : f_Disk_write N vD p1 p2 = some res) (sz : Nat) : Met l yX2_write (cd_Disk_write :: gA) rm_Disk_write (va_Pc [.ref (ad 1), .int p1, .long p2] (gP D cls (tys ca) (wD ad ca vD) sz)) (q_Disk_write D ad ca res (va_A (wD ad ca vD) sz)) 0 0 (va_A (wD ad ca vD) sz) := by
  refine g_met (cc := cX2_write) (Qc := q_Disk_write D ad ca res) (lv := [(0, .ref (ad 1)), (1, .int p1), (2, .long p2)]) (own := RX2) (by decide) rfl rfl (Nat.le_of_ble_eq_true rfl) rfl sz ?_
  intro p e s m args below meth c A Z hr hnm
  unfold f_Disk_write at hf
  refine g_aload_n (pc := 0) Z 0 dX2_write_0 rfl ?_
  refine g_get (pc := 1) (T := TX2) (N := 12) Z 0 5 dX2_write_1 (mm ww0) inx_X2 rfl (by decide) rfl rfl rfl ?_
  refine g_if_eq (pc := 4) (tgt := 24) Z dX2_write_4 (by decide) (fun c1 => ?_) (fun c1 => ?_)
  · replace hf := gIfN (bI_z c1) hf
    refine g_aload_n (pc := 24) Z 0 dX2_write_24 rfl ?_
    refine g_get (pc := 25) (T := TX2) (N := 12) Z 0 5 dX2_write_25 (mm ww0) inx_X2 rfl (by decide) rfl rfl rfl ?_
    obtain rfl := Option.some.inj hf
    exact g_zret Z hr (bI_nar vD.2.2.2.2.2.1) dX2_write_28 vD ⟨rfl, rfl⟩ rfl
  · replace hf := gIfP (bI_nz c1) hf
    refine g_iload_n (pc := 7) Z 1 dX2_write_7 rfl ?_
    obtain ⟨x2, h3, hf⟩ := Option.bind_eq_some_iff.mp hf
    refine g_calli (pc := 8) (ws2 := fun u => (wD ad ca vD)) (wr := (wD ad ca vD)) Z [] [0, 1, 2, 3, 4] [0, 1, 2, 3, 4] (g_runSN Z (c_Heap_isWord l D ad ca p1 x2 h3) ⟨va_cnB 1 Z.2.2.2.2.1 (gg_C ww1) rfl rfl rfl Z.2.2.2.2.2.2.2.2.2.2.2 (Z.2.2.2.2.1 _ (mm ww2)) yd_Heap_isWord ⟨Nat.le_of_ble_eq_true rfl, Nat.le_of_ble_eq_true rfl⟩, Z.2.2.2.2.1 _ (mm ww3), trivial⟩ [] rfl (by decide) rfl rfl (Nat.le_of_ble_eq_true rfl) dX2_write_8 ⟨Nat.le_of_ble_eq_true rfl, Nat.le_of_ble_eq_true rfl⟩) rfl rfl (by decide) (by decide) (by decide) (fun _ => rfl) (fun r u hu => ?_)
    obtain rfl := hu.symm
    refine g_if_eq (pc := 11) (tgt := 24) Z dX2_write_11 (by decide) (fun c4 => ?_) (fun c4 => ?_)
    · replace hf := gIfN (bI_z c4) hf
      refine g_aload_n (pc := 24) Z 0 dX2_write_24 rfl ?_
      refine g_get (pc := 25) (T := TX2) (N := 12) Z 0 5 dX2_write_25 (mm ww0) inx_X2 rfl (by decide) rfl rfl rfl ?_
      obtain rfl := Option.some.inj hf
      exact g_zret Z hr (bI_nar vD.2.2.2.2.2.1) dX2_write_28 vD ⟨rfl, rfl⟩ rfl
    · replace hf := gIfP (bI_nz c4) hf
      refine g_aload_n (pc := 14) Z 0 dX2_write_14 rfl ?_
      refine g_get (pc := 15) (T := TX2) (N := 12) Z 0 4 dX2_write_15 (mm ww8) inx_X2 rfl (by decide) rfl rfl rfl ?_
      refine g_sipush (pc := 18) (v := 320) Z dX2_write_18 (by decide) ?_
      refine g_icmp_lt (pc := 21) (tgt := 29) Z dX2_write_21 (by decide) (fun c5 => ?_) (fun c5 => ?_)
      · replace hf := gIfP c5 hf
        refine g_aload_n (pc := 29) Z 0 dX2_write_29 rfl ?_
        refine g_get (pc := 30) (T := TX2) (N := 12) Z 0 1 dX2_write_30 (mm ww4) inx_X2 rfl (by decide) rfl rfl rfl ?_
        refine g_iload_n (pc := 33) Z 1 dX2_write_33 rfl ?_
        refine g_lload_n (pc := 34) Z 2 dX2_write_34 rfl ?_
        obtain ⟨b6, hf⟩ := gGuard hf
        refine g_last (pc := 35) (ws' := (wD ad ca (vD.1, vp_updL vD.2.1 p1.toNatClampNeg p2, vD.2.2.1, vD.2.2.2.1, vD.2.2.2.2.1, vD.2.2.2.2.2.1, vD.2.2.2.2.2.2.1, vD.2.2.2.2.2.2.2.1, vD.2.2.2.2.2.2.2.2.1, vD.2.2.2.2.2.2.2.2.2.1, vD.2.2.2.2.2.2.2.2.2.2.1, vD.2.2.2.2.2.2.2.2.2.2.2))) Z 2 0 dX2_write_35 rfl rfl (gI_in b6) rfl ?_
        refine g_aload_n (pc := 36) Z 0 dX2_write_36 rfl ?_
        refine g_get (pc := 37) (T := TX2) (N := 12) Z 0 2 dX2_write_37 (mm ww5) inx_X2 rfl (by decide) rfl rfl rfl ?_
        refine g_aload_n (pc := 40) Z 0 dX2_write_40 rfl ?_
        refine g_get (pc := 41) (T := TX2) (N := 12) Z 0 4 dX2_write_41 (mm ww8) inx_X2 rfl (by decide) rfl rfl rfl ?_
        refine g_iload_n (pc := 44) Z 1 dX2_write_44 rfl ?_
        obtain ⟨b7, hf⟩ := gGuard hf
        refine g_iast (pc := 45) (ws' := (wD ad ca (vD.1, vp_updL vD.2.1 p1.toNatClampNeg p2, upd vD.2.2.1 vD.2.2.2.2.1.toNatClampNeg p1, vD.2.2.2.1, vD.2.2.2.2.1, vD.2.2.2.2.2.1, vD.2.2.2.2.2.2.1, vD.2.2.2.2.2.2.2.1, vD.2.2.2.2.2.2.2.2.1, vD.2.2.2.2.2.2.2.2.2.1, vD.2.2.2.2.2.2.2.2.2.2.1, vD.2.2.2.2.2.2.2.2.2.2.2))) Z 3 1 dX2_write_45 rfl rfl (gI_in b7) rfl ?_
        refine g_aload_n (pc := 46) Z 0 dX2_write_46 rfl ?_
        refine g_get (pc := 47) (T := TX2) (N := 12) Z 0 3 dX2_write_47 (mm ww7) inx_X2 rfl (by decide) rfl rfl rfl ?_
        refine g_aload_n (pc := 50) Z 0 dX2_write_50 rfl ?_
        refine g_get (pc := 51) (T := TX2) (N := 12) Z 0 4 dX2_write_51 (mm ww8) inx_X2 rfl (by decide) rfl rfl rfl ?_
        refine g_lload_n (pc := 54) Z 2 dX2_write_54 rfl ?_
        obtain ⟨b8, hf⟩ := gGuard hf
        refine g_last (pc := 55) (ws' := (wD ad ca (vD.1, vp_updL vD.2.1 p1.toNatClampNeg p2, upd vD.2.2.1 vD.2.2.2.2.1.toNatClampNeg p1, vp_updL vD.2.2.2.1 vD.2.2.2.2.1.toNatClampNeg p2, vD.2.2.2.2.1, vD.2.2.2.2.2.1, vD.2.2.2.2.2.2.1, vD.2.2.2.2.2.2.2.1, vD.2.2.2.2.2.2.2.2.1, vD.2.2.2.2.2.2.2.2.2.1, vD.2.2.2.2.2.2.2.2.2.2.1, vD.2.2.2.2.2.2.2.2.2.2.2))) Z 4 0 dX2_write_55 rfl rfl (gI_in b8) rfl ?_
        refine g_aload_n (pc := 56) Z 0 dX2_write_56 rfl ?_
        refine g_dup (pc := 57) Z dX2_write_57 rfl ?_
        refine g_get (pc := 58) (T := TX2) (N := 12) Z 0 4 dX2_write_58 (mm ww8) inx_X2 rfl (by decide) rfl rfl rfl ?_
        refine g_iconst (pc := 61) (v := 1) Z dX2_write_61 (by decide) ?_
        refine g_iadd (pc := 62) Z dX2_write_62 ?_
        refine g_put (pc := 63) (T := TX2) (N := 12) (ws' := (wD ad ca (vD.1, vp_updL vD.2.1 p1.toNatClampNeg p2, upd vD.2.2.1 vD.2.2.2.2.1.toNatClampNeg p1, vp_updL vD.2.2.2.1 vD.2.2.2.2.1.toNatClampNeg p2, vD.2.2.2.2.1 + (1 : Int32), vD.2.2.2.2.2.1, vD.2.2.2.2.2.2.1, vD.2.2.2.2.2.2.2.1, vD.2.2.2.2.2.2.2.2.1, vD.2.2.2.2.2.2.2.2.2.1, vD.2.2.2.2.2.2.2.2.2.2.1, vD.2.2.2.2.2.2.2.2.2.2.2))) Z 0 4 dX2_write_63 (mm ww8) inx_X2 tyX2_ok nmX2 rfl (by decide) rfl rfl rfl rfl rfl rfl (Nat.le_of_ble_eq_true rfl) rfl ?_
        refine g_aload_n (pc := 66) Z 0 dX2_write_66 rfl ?_
        refine g_dup (pc := 67) Z dX2_write_67 rfl ?_
        refine g_get (pc := 68) (T := TX2) (N := 12) Z 0 8 dX2_write_68 (mm ww25) inx_X2 rfl (by decide) rfl rfl rfl ?_
        refine g_iconst (pc := 71) (v := 1) Z dX2_write_71 (by decide) ?_
        refine g_iadd (pc := 72) Z dX2_write_72 ?_
        refine g_put (pc := 73) (T := TX2) (N := 12) (ws' := (wD ad ca (vD.1, vp_updL vD.2.1 p1.toNatClampNeg p2, upd vD.2.2.1 vD.2.2.2.2.1.toNatClampNeg p1, vp_updL vD.2.2.2.1 vD.2.2.2.2.1.toNatClampNeg p2, vD.2.2.2.2.1 + (1 : Int32), vD.2.2.2.2.2.1, vD.2.2.2.2.2.2.1, vD.2.2.2.2.2.2.2.1, vD.2.2.2.2.2.2.2.2.1 + (1 : Int32), vD.2.2.2.2.2.2.2.2.2.1, vD.2.2.2.2.2.2.2.2.2.2.1, vD.2.2.2.2.2.2.2.2.2.2.2))) Z 0 8 dX2_write_73 (mm ww25) inx_X2 tyX2_ok nmX2 rfl (by decide) rfl rfl rfl rfl rfl rfl (Nat.le_of_ble_eq_true rfl) rfl ?_
        refine g_aload_n (pc := 76) Z 0 dX2_write_76 rfl ?_
        refine g_get (pc := 77) (T := TX2) (N := 12) Z 0 6 dX2_write_77 (mm ww19) inx_X2 rfl (by decide) rfl rfl rfl ?_
        refine g_if_le (pc := 80) (tgt := 108) Z dX2_write_80 (by decide) (fun c9 => ?_) (fun c9 => ?_)
        · replace hf := gIfP c9 hf
          refine g_aload_n (pc := 108) Z 0 dX2_write_108 rfl ?_
          refine g_get (pc := 109) (T := TX2) (N := 12) Z 0 5 dX2_write_109 (mm ww0) inx_X2 rfl (by decide) rfl rfl rfl ?_
          obtain rfl := Option.some.inj hf
          exact g_zret Z hr (bI_nar vD.2.2.2.2.2.1) dX2_write_112 (vD.1, vp_updL vD.2.1 p1.toNatClampNeg p2, upd vD.2.2.1 vD.2.2.2.2.1.toNatClampNeg p1, vp_updL vD.2.2.2.1 vD.2.2.2.2.1.toNatClampNeg p2, vD.2.2.2.2.1 + (1 : Int32), vD.2.2.2.2.2.1, vD.2.2.2.2.2.2.1, vD.2.2.2.2.2.2.2.1, vD.2.2.2.2.2.2.2.2.1 + (1 : Int32), vD.2.2.2.2.2.2.2.2.2.1, vD.2.2.2.2.2.2.2.2.2.2.1, vD.2.2.2.2.2.2.2.2.2.2.2) ⟨rfl, rfl⟩ rfl
        · replace hf := gIfN c9 hf
          refine g_aload_n (pc := 83) Z 0 dX2_write_83 rfl ?_
          refine g_dup (pc := 84) Z dX2_write_84 rfl ?_
          refine g_get (pc := 85) (T := TX2) (N := 12) Z 0 6 dX2_write_85 (mm ww19) inx_X2 rfl (by decide) rfl rfl rfl ?_
          refine g_iconst (pc := 88) (v := 1) Z dX2_write_88 (by decide) ?_
          refine g_isub (pc := 89) Z dX2_write_89 ?_
          refine g_put (pc := 90) (T := TX2) (N := 12) (ws' := (wD ad ca (vD.1, vp_updL vD.2.1 p1.toNatClampNeg p2, upd vD.2.2.1 vD.2.2.2.2.1.toNatClampNeg p1, vp_updL vD.2.2.2.1 vD.2.2.2.2.1.toNatClampNeg p2, vD.2.2.2.2.1 + (1 : Int32), vD.2.2.2.2.2.1, vD.2.2.2.2.2.2.1 - (1 : Int32), vD.2.2.2.2.2.2.2.1, vD.2.2.2.2.2.2.2.2.1 + (1 : Int32), vD.2.2.2.2.2.2.2.2.2.1, vD.2.2.2.2.2.2.2.2.2.2.1, vD.2.2.2.2.2.2.2.2.2.2.2))) Z 0 6 dX2_write_90 (mm ww19) inx_X2 tyX2_ok nmX2 rfl (by decide) rfl rfl rfl rfl rfl rfl (Nat.le_of_ble_eq_true rfl) rfl ?_
          refine g_aload_n (pc := 93) Z 0 dX2_write_93 rfl ?_
          refine g_get (pc := 94) (T := TX2) (N := 12) Z 0 6 dX2_write_94 (mm ww19) inx_X2 rfl (by decide) rfl rfl rfl ?_
          refine g_if_ne (pc := 97) (tgt := 108) Z dX2_write_97 (by decide) (fun c10 => ?_) (fun c10 => ?_)
          · replace hf := gIfN c10 hf
            refine g_aload_n (pc := 108) Z 0 dX2_write_108 rfl ?_
            refine g_get (pc := 109) (T := TX2) (N := 12) Z 0 5 dX2_write_109 (mm ww0) inx_X2 rfl (by decide) rfl rfl rfl ?_
            obtain rfl := Option.some.inj hf
            exact g_zret Z hr (bI_nar vD.2.2.2.2.2.1) dX2_write_112 (vD.1, vp_updL vD.2.1 p1.toNatClampNeg p2, upd vD.2.2.1 vD.2.2.2.2.1.toNatClampNeg p1, vp_updL vD.2.2.2.1 vD.2.2.2.2.1.toNatClampNeg p2, vD.2.2.2.2.1 + (1 : Int32), vD.2.2.2.2.2.1, vD.2.2.2.2.2.2.1 - (1 : Int32), vD.2.2.2.2.2.2.2.1, vD.2.2.2.2.2.2.2.2.1 + (1 : Int32), vD.2.2.2.2.2.2.2.2.2.1, vD.2.2.2.2.2.2.2.2.2.2.1, vD.2.2.2.2.2.2.2.2.2.2.2) ⟨rfl, rfl⟩ rfl
          · replace hf := gIfP c10 hf
            refine g_aload_n (pc := 100) Z 0 dX2_write_100 rfl ?_
            refine g_aload_n (pc := 101) Z 0 dX2_write_101 rfl ?_
            refine g_get (pc := 102) (T := TX2) (N := 12) Z 0 7 dX2_write_102 (mm ww26) inx_X2 rfl (by decide) rfl rfl rfl ?_
            obtain ⟨x11, h12, hf⟩ := Option.bind_eq_some_iff.mp hf
            refine g_callv (pc := 105) (ws2 := fun u => (wD ad ca u)) (wr := ([] : va_W)) Z [0, 1, 2, 3, 4] [] [0, 1, 2, 3, 4] (g_runV Z (c_Disk_losePower l D ad ca N (vD.1, vp_updL vD.2.1 p1.toNatClampNeg p2, upd vD.2.2.1 vD.2.2.2.2.1.toNatClampNeg p1, vp_updL vD.2.2.2.1 vD.2.2.2.2.1.toNatClampNeg p2, vD.2.2.2.2.1 + (1 : Int32), vD.2.2.2.2.2.1, vD.2.2.2.2.2.2.1 - (1 : Int32), vD.2.2.2.2.2.2.2.1, vD.2.2.2.2.2.2.2.2.1 + (1 : Int32), vD.2.2.2.2.2.2.2.2.2.1, vD.2.2.2.2.2.2.2.2.2.2.1, vD.2.2.2.2.2.2.2.2.2.2.2) vD.2.2.2.2.2.2.2.1 x11 h12) (cwV 1 Z.2.2.2.2.1 (gg_V ww27 ww28 ww29 ww16 ww30) rfl rfl rfl (yv_of rfl yd_Disk_losePower) ⟨Nat.le_of_ble_eq_true rfl, Nat.le_of_ble_eq_true rfl⟩) [0, 1, 2, 3, 4] rfl (by decide) 0 rfl rfl rfl rfl rfl (Nat.le_of_ble_eq_true rfl) dX2_write_105 ⟨Nat.le_of_ble_eq_true rfl, Nat.le_of_ble_eq_true rfl⟩) rfl rfl (by decide) (by decide) (by decide) (fun _ => rfl) (fun u hu => ?_)
            obtain rfl := hu.symm
            refine g_aload_n (pc := 108) Z 0 dX2_write_108 rfl ?_
            refine g_get (pc := 109) (T := TX2) (N := 12) Z 0 5 dX2_write_109 (mm ww0) inx_X2 rfl (by decide) rfl rfl rfl ?_
            obtain rfl := Option.some.inj hf
            exact g_zret Z hr (bI_nar x11.2.2.2.2.2.1) dX2_write_112 x11 ⟨rfl, rfl⟩ rfl
      · replace hf := gIfN c5 hf
        refine g_aload_n (pc := 24) Z 0 dX2_write_24 rfl ?_
        refine g_get (pc := 25) (T := TX2) (N := 12) Z 0 5 dX2_write_25 (mm ww0) inx_X2 rfl (by decide) rfl rfl rfl ?_
        obtain rfl := Option.some.inj hf
        exact g_zret Z hr (bI_nar vD.2.2.2.2.2.1) dX2_write_28 vD ⟨rfl, rfl⟩ rfl
theorem ww31 : Cond.fieldLink RX2 36 "RedoHeap$Disk" "syncs" "I" ∈ gA := wt1 38 rfl rfl
/-! RedoHeap$Disk.settleAll()V -/
def f_Disk_settleAll (N : Nat) (vD : DT) : Option (DT) :=
  (f_Disk_settleFirst N vD vD.2.2.2.2.1).bind fun x1 => some (x1.1, x1.2.1, x1.2.2.1, x1.2.2.2.1, (0 : Int32), x1.2.2.2.2.2.1, x1.2.2.2.2.2.2.1, x1.2.2.2.2.2.2.2.1, x1.2.2.2.2.2.2.2.2.1, x1.2.2.2.2.2.2.2.2.2.1 + (1 : Int32), x1.2.2.2.2.2.2.2.2.2.2.1, x1.2.2.2.2.2.2.2.2.2.2.2)
abbrev cd_Disk_settleAll : Cond := .code yX2_settleAll cX2_settleAll 1 none
theorem yd_Disk_settleAll : yX2_settleAll.cls ≠ "java/lang/invoke/MethodHandle" ∧ yX2_settleAll.cls ≠ "java/lang/invoke/VarHandle" ∧ (parseMethodDescriptor yX2_settleAll.desc).map (fun d => d.parameters.length) = some 0 := by decide +kernel
abbrev rm_Disk_settleAll : Room := { frames := 2, cells := 0, slots := 0, locals := 43 }
abbrev q_Disk_settleAll (D : va_G) (ad : Nat → Nat) (ca : Nat → ClassId) (res : DT) (A : Nat → Prop) : Array Value → State → Outcome → State → Prop := va_Qv (fun (u : DT) => u = res) (gB D cls (tys ca) A (fun (u : DT) => (wD ad ca u))) A
set_option maxHeartbeats 4000000 in
set_option maxRecDepth 100000 in
theorem c_Disk_settleAll (l : Launch) (D : va_G) (ad : Nat → Nat) (ca : Nat → ClassId) (N : Nat) (vD : DT) (res : DT) (hf : f_Disk_settleAll N vD = some res) (sz : Nat) : Met l yX2_settleAll (cd_Disk_settleAll :: gA) rm_Disk_settleAll (va_Pc [.ref (ad 1)] (gP D cls (tys ca) (wD ad ca vD) sz)) (q_Disk_settleAll D ad ca res (va_A (wD ad ca vD) sz)) 0 0 (va_A (wD ad ca vD) sz) := by
  refine g_met (cc := cX2_settleAll) (Qc := q_Disk_settleAll D ad ca res) (lv := [(0, .ref (ad 1))]) (own := RX2) (by decide) rfl rfl (Nat.le_of_ble_eq_true rfl) rfl sz ?_
  intro p e s m args below meth c A Z hr hnm
  unfold f_Disk_settleAll at hf
  refine g_aload_n (pc := 0) Z 0 dX2_settleAll_0 rfl ?_
  refine g_aload_n (pc := 1) Z 0 dX2_settleAll_1 rfl ?_
  refine g_get (pc := 2) (T := TX2) (N := 12) Z 0 4 dX2_settleAll_2 (mm ww8) inx_X2 rfl (by decide) rfl rfl rfl ?_
  obtain ⟨x1, h2, hf⟩ := Option.bind_eq_some_iff.mp hf
  refine g_callv (pc := 5) (ws2 := fun u => (wD ad ca u)) (wr := ([] : va_W)) Z [0, 1, 2, 3, 4] [] [0, 1, 2, 3, 4] (g_runV Z (c_Disk_settleFirst l D ad ca N vD vD.2.2.2.2.1 x1 h2) (cwV 1 Z.2.2.2.2.1 (gg_V ww13 ww14 ww15 ww16 ww17) rfl rfl rfl (yv_of rfl yd_Disk_settleFirst) ⟨Nat.le_of_ble_eq_true rfl, Nat.le_of_ble_eq_true rfl⟩) [0, 1, 2, 3, 4] rfl (by decide) 0 rfl rfl rfl rfl rfl (Nat.le_of_ble_eq_true rfl) dX2_settleAll_5 ⟨Nat.le_of_ble_eq_true rfl, Nat.le_of_ble_eq_true rfl⟩) rfl rfl (by decide) (by decide) (by decide) (fun _ => rfl) (fun u hu => ?_)
  obtain rfl := hu.symm
  refine g_aload_n (pc := 8) Z 0 dX2_settleAll_8 rfl ?_
  refine g_iconst (pc := 9) (v := 0) Z dX2_settleAll_9 (by decide) ?_
  refine g_put (pc := 10) (T := TX2) (N := 12) (ws' := (wD ad ca (x1.1, x1.2.1, x1.2.2.1, x1.2.2.2.1, (0 : Int32), x1.2.2.2.2.2.1, x1.2.2.2.2.2.2.1, x1.2.2.2.2.2.2.2.1, x1.2.2.2.2.2.2.2.2.1, x1.2.2.2.2.2.2.2.2.2.1, x1.2.2.2.2.2.2.2.2.2.2.1, x1.2.2.2.2.2.2.2.2.2.2.2))) Z 0 4 dX2_settleAll_10 (mm ww8) inx_X2 tyX2_ok nmX2 rfl (by decide) rfl rfl rfl rfl rfl rfl (Nat.le_of_ble_eq_true rfl) rfl ?_
  refine g_aload_n (pc := 13) Z 0 dX2_settleAll_13 rfl ?_
  refine g_dup (pc := 14) Z dX2_settleAll_14 rfl ?_
  refine g_get (pc := 15) (T := TX2) (N := 12) Z 0 9 dX2_settleAll_15 (mm ww31) inx_X2 rfl (by decide) rfl rfl rfl ?_
  refine g_iconst (pc := 18) (v := 1) Z dX2_settleAll_18 (by decide) ?_
  refine g_iadd (pc := 19) Z dX2_settleAll_19 ?_
  refine g_put (pc := 20) (T := TX2) (N := 12) (ws' := (wD ad ca (x1.1, x1.2.1, x1.2.2.1, x1.2.2.2.1, (0 : Int32), x1.2.2.2.2.2.1, x1.2.2.2.2.2.2.1, x1.2.2.2.2.2.2.2.1, x1.2.2.2.2.2.2.2.2.1, x1.2.2.2.2.2.2.2.2.2.1 + (1 : Int32), x1.2.2.2.2.2.2.2.2.2.2.1, x1.2.2.2.2.2.2.2.2.2.2.2))) Z 0 9 dX2_settleAll_20 (mm ww31) inx_X2 tyX2_ok nmX2 rfl (by decide) rfl rfl rfl rfl rfl rfl (Nat.le_of_ble_eq_true rfl) rfl ?_
  obtain rfl := Option.some.inj hf
  exact g_vret Z hr dX2_settleAll_23 (x1.1, x1.2.1, x1.2.2.1, x1.2.2.2.1, (0 : Int32), x1.2.2.2.2.2.1, x1.2.2.2.2.2.2.1, x1.2.2.2.2.2.2.2.1, x1.2.2.2.2.2.2.2.2.1, x1.2.2.2.2.2.2.2.2.2.1 + (1 : Int32), x1.2.2.2.2.2.2.2.2.2.2.1, x1.2.2.2.2.2.2.2.2.2.2.2) rfl rfl
/-! RedoHeap$Disk.waiting()I -/
def f_Disk_waiting (vD : DT) : Option (Int32) :=
  some vD.2.2.2.2.1
abbrev cd_Disk_waiting : Cond := .code yX2_waiting cX2_waiting 1 (some .int)
theorem yd_Disk_waiting : yX2_waiting.cls ≠ "java/lang/invoke/MethodHandle" ∧ yX2_waiting.cls ≠ "java/lang/invoke/VarHandle" ∧ (parseMethodDescriptor yX2_waiting.desc).map (fun d => d.parameters.length) = some 0 := by decide +kernel
abbrev rm_Disk_waiting : Room := { frames := 0, cells := 0, slots := 0, locals := 0 }
abbrev q_Disk_waiting (D : va_G) (ad : Nat → Nat) (ca : Nat → ClassId) (vD : DT) (res : Int32) (A : Nat → Prop) : Array Value → State → Outcome → State → Prop := va_Qi (fun (r : Int32) (_ : Unit) => r = res) (gB D cls (tys ca) A (fun (u : Unit) => (wD ad ca vD))) A
set_option maxHeartbeats 4000000 in
set_option maxRecDepth 100000 in
theorem c_Disk_waiting (l : Launch) (D : va_G) (ad : Nat → Nat) (ca : Nat → ClassId) (vD : DT) (res : Int32) (hf : f_Disk_waiting vD = some res) (sz : Nat) : Met l yX2_waiting (cd_Disk_waiting :: gA) rm_Disk_waiting (va_Pc [.ref (ad 1)] (gP D cls (tys ca) (wD ad ca vD) sz)) (q_Disk_waiting D ad ca vD res (va_A (wD ad ca vD) sz)) 0 0 (va_A (wD ad ca vD) sz) := by
  refine g_met (cc := cX2_waiting) (Qc := q_Disk_waiting D ad ca vD res) (lv := [(0, .ref (ad 1))]) (own := RX2) (by decide) rfl rfl (Nat.le_of_ble_eq_true rfl) rfl sz ?_
  intro p e s m args below meth c A Z hr hnm
  unfold f_Disk_waiting at hf
  refine g_aload_n (pc := 0) Z 0 dX2_waiting_0 rfl ?_
  refine g_get (pc := 1) (T := TX2) (N := 12) Z 0 4 dX2_waiting_1 (mm ww8) inx_X2 rfl (by decide) rfl rfl rfl ?_
  obtain rfl := Option.some.inj hf
  exact g_iret Z hr dX2_waiting_4 () rfl rfl
/-! RedoHeap$Disk.limit(II)I -/
def f_Disk_limit (vD : DT) (p1 : Int32) (p2 : Int32) : Option (Int32 × DT) :=
  some (vD.2.2.2.2.2.2.1, (vD.1, vD.2.1, vD.2.2.1, vD.2.2.2.1, vD.2.2.2.2.1, vD.2.2.2.2.2.1, p1, p2, vD.2.2.2.2.2.2.2.2.1, vD.2.2.2.2.2.2.2.2.2.1, vD.2.2.2.2.2.2.2.2.2.2.1, vD.2.2.2.2.2.2.2.2.2.2.2))
abbrev cd_Disk_limit : Cond := .code yX2_limit cX2_limit 4 (some .int)
theorem yd_Disk_limit : yX2_limit.cls ≠ "java/lang/invoke/MethodHandle" ∧ yX2_limit.cls ≠ "java/lang/invoke/VarHandle" ∧ (parseMethodDescriptor yX2_limit.desc).map (fun d => d.parameters.length) = some 2 := by decide +kernel
abbrev rm_Disk_limit : Room := { frames := 0, cells := 0, slots := 0, locals := 0 }
abbrev q_Disk_limit (D : va_G) (ad : Nat → Nat) (ca : Nat → ClassId) (res : Int32 × DT) (A : Nat → Prop) : Array Value → State → Outcome → State → Prop := va_Qi (fun (r : Int32) (u : DT) => r = res.1 ∧ u = res.2) (gB D cls (tys ca) A (fun (u : DT) => (wD ad ca u))) A
set_option maxHeartbeats 4000000 in
set_option maxRecDepth 100000 in
theorem c_Disk_limit (l : Launch) (D : va_G) (ad : Nat → Nat) (ca : Nat → ClassId) (vD : DT) (p1 : Int32) (p2 : Int32) (res : Int32 × DT) (hf : f_Disk_limit vD p1 p2 = some res) (sz : Nat) : Met l yX2_limit (cd_Disk_limit :: gA) rm_Disk_limit (va_Pc [.ref (ad 1), .int p1, .int p2] (gP D cls (tys ca) (wD ad ca vD) sz)) (q_Disk_limit D ad ca res (va_A (wD ad ca vD) sz)) 0 0 (va_A (wD ad ca vD) sz) := by
  refine g_met (cc := cX2_limit) (Qc := q_Disk_limit D ad ca res) (lv := [(0, .ref (ad 1)), (1, .int p1), (2, .int p2)]) (own := RX2) (by decide) rfl rfl (Nat.le_of_ble_eq_true rfl) rfl sz ?_
  intro p e s m args below meth c A Z hr hnm
  unfold f_Disk_limit at hf
  refine g_aload_n (pc := 0) Z 0 dX2_limit_0 rfl ?_
  refine g_get (pc := 1) (T := TX2) (N := 12) Z 0 6 dX2_limit_1 (mm ww19) inx_X2 rfl (by decide) rfl rfl rfl ?_
  refine g_istore_n (pc := 4) (lv' := [(3, .int vD.2.2.2.2.2.2.1), (0, .ref (ad 1)), (1, .int p1), (2, .int p2)]) Z dX2_limit_4 (by decide) rfl ?_
  refine g_aload_n (pc := 5) Z 1 dX2_limit_5 rfl ?_
  refine g_iload_n (pc := 6) Z 2 dX2_limit_6 rfl ?_
  refine g_put (pc := 7) (T := TX2) (N := 12) (ws' := (wD ad ca (vD.1, vD.2.1, vD.2.2.1, vD.2.2.2.1, vD.2.2.2.2.1, vD.2.2.2.2.2.1, p1, vD.2.2.2.2.2.2.2.1, vD.2.2.2.2.2.2.2.2.1, vD.2.2.2.2.2.2.2.2.2.1, vD.2.2.2.2.2.2.2.2.2.2.1, vD.2.2.2.2.2.2.2.2.2.2.2))) Z 0 6 dX2_limit_7 (mm ww19) inx_X2 tyX2_ok nmX2 rfl (by decide) rfl rfl rfl rfl rfl rfl (Nat.le_of_ble_eq_true rfl) rfl ?_
  refine g_aload_n (pc := 10) Z 1 dX2_limit_10 rfl ?_
  refine g_iload_n (pc := 11) Z 3 dX2_limit_11 rfl ?_
  refine g_put (pc := 12) (T := TX2) (N := 12) (ws' := (wD ad ca (vD.1, vD.2.1, vD.2.2.1, vD.2.2.2.1, vD.2.2.2.2.1, vD.2.2.2.2.2.1, p1, p2, vD.2.2.2.2.2.2.2.2.1, vD.2.2.2.2.2.2.2.2.2.1, vD.2.2.2.2.2.2.2.2.2.2.1, vD.2.2.2.2.2.2.2.2.2.2.2))) Z 0 7 dX2_limit_12 (mm ww26) inx_X2 tyX2_ok nmX2 rfl (by decide) rfl rfl rfl rfl rfl rfl (Nat.le_of_ble_eq_true rfl) rfl ?_
  refine g_iload_n (pc := 15) Z 0 dX2_limit_15 rfl ?_
  obtain rfl := Option.some.inj hf
  exact g_iret Z hr dX2_limit_16 (vD.1, vD.2.1, vD.2.2.1, vD.2.2.2.1, vD.2.2.2.2.1, vD.2.2.2.2.2.1, p1, p2, vD.2.2.2.2.2.2.2.2.1, vD.2.2.2.2.2.2.2.2.2.1, vD.2.2.2.2.2.2.2.2.2.2.1, vD.2.2.2.2.2.2.2.2.2.2.2) ⟨rfl, rfl⟩ rfl
/-! RedoHeap$Disk.powerUp()V -/
def f_Disk_powerUp (vD : DT) : Option (DT) :=
  some (vD.1, vD.2.1, vD.2.2.1, vD.2.2.2.1, vD.2.2.2.2.1, true, vD.2.2.2.2.2.2.1, vD.2.2.2.2.2.2.2.1, vD.2.2.2.2.2.2.2.2.1, vD.2.2.2.2.2.2.2.2.2.1, vD.2.2.2.2.2.2.2.2.2.2.1, vD.2.2.2.2.2.2.2.2.2.2.2)
abbrev cd_Disk_powerUp : Cond := .code yX2_powerUp cX2_powerUp 1 none
theorem yd_Disk_powerUp : yX2_powerUp.cls ≠ "java/lang/invoke/MethodHandle" ∧ yX2_powerUp.cls ≠ "java/lang/invoke/VarHandle" ∧ (parseMethodDescriptor yX2_powerUp.desc).map (fun d => d.parameters.length) = some 0 := by decide +kernel
abbrev rm_Disk_powerUp : Room := { frames := 0, cells := 0, slots := 0, locals := 0 }
abbrev q_Disk_powerUp (D : va_G) (ad : Nat → Nat) (ca : Nat → ClassId) (res : DT) (A : Nat → Prop) : Array Value → State → Outcome → State → Prop := va_Qv (fun (u : DT) => u = res) (gB D cls (tys ca) A (fun (u : DT) => (wD ad ca u))) A
set_option maxHeartbeats 4000000 in
set_option maxRecDepth 100000 in
theorem c_Disk_powerUp (l : Launch) (D : va_G) (ad : Nat → Nat) (ca : Nat → ClassId) (vD : DT) (res : DT) (hf : f_Disk_powerUp vD = some res) (sz : Nat) : Met l yX2_powerUp (cd_Disk_powerUp :: gA) rm_Disk_powerUp (va_Pc [.ref (ad 1)] (gP D cls (tys ca) (wD ad ca vD) sz)) (q_Disk_powerUp D ad ca res (va_A (wD ad ca vD) sz)) 0 0 (va_A (wD ad ca vD) sz) := by
  refine g_met (cc := cX2_powerUp) (Qc := q_Disk_powerUp D ad ca res) (lv := [(0, .ref (ad 1))]) (own := RX2) (by decide) rfl rfl (Nat.le_of_ble_eq_true rfl) rfl sz ?_
  intro p e s m args below meth c A Z hr hnm
  unfold f_Disk_powerUp at hf
  refine g_aload_n (pc := 0) Z 0 dX2_powerUp_0 rfl ?_
  refine g_iconst (pc := 1) (v := 1) Z dX2_powerUp_1 (by decide) ?_
  refine g_put (pc := 2) (T := TX2) (N := 12) (ws' := (wD ad ca (vD.1, vD.2.1, vD.2.2.1, vD.2.2.2.1, vD.2.2.2.2.1, true, vD.2.2.2.2.2.2.1, vD.2.2.2.2.2.2.2.1, vD.2.2.2.2.2.2.2.2.1, vD.2.2.2.2.2.2.2.2.2.1, vD.2.2.2.2.2.2.2.2.2.2.1, vD.2.2.2.2.2.2.2.2.2.2.2))) Z 0 5 dX2_powerUp_2 (mm ww0) inx_X2 tyX2_ok nmX2 rfl (by decide) rfl rfl rfl rfl rfl rfl (Nat.le_of_ble_eq_true rfl) rfl ?_
  obtain rfl := Option.some.inj hf
  exact g_vret Z hr dX2_powerUp_5 (vD.1, vD.2.1, vD.2.2.1, vD.2.2.2.1, vD.2.2.2.2.1, true, vD.2.2.2.2.2.2.1, vD.2.2.2.2.2.2.2.1, vD.2.2.2.2.2.2.2.2.1, vD.2.2.2.2.2.2.2.2.2.1, vD.2.2.2.2.2.2.2.2.2.2.1, vD.2.2.2.2.2.2.2.2.2.2.2) rfl rfl
/-! RedoHeap$Disk.settled(I)J -/
def f_Disk_settled (vD : DT) (p1 : Int32) : Option (Int64) :=
  (f_Heap_isWord p1).bind fun x1 => if x1 = true then if gI p1 1024 = true then some (vD.1 p1.toNatClampNeg) else none else some (0 : Int64)
abbrev cd_Disk_settled : Cond := .code yX2_settled cX2_settled 2 (some .long)
theorem yd_Disk_settled : yX2_settled.cls ≠ "java/lang/invoke/MethodHandle" ∧ yX2_settled.cls ≠ "java/lang/invoke/VarHandle" ∧ (parseMethodDescriptor yX2_settled.desc).map (fun d => d.parameters.length) = some 1 := by decide +kernel
abbrev rm_Disk_settled : Room := { frames := 1, cells := 0, slots := 0, locals := 20 }
abbrev q_Disk_settled (D : va_G) (ad : Nat → Nat) (ca : Nat → ClassId) (vD : DT) (res : Int64) (A : Nat → Prop) : Array Value → State → Outcome → State → Prop := va_Ql (fun (r : Int64) (_ : Unit) => r = res) (gB D cls (tys ca) A (fun (u : Unit) => (wD ad ca vD))) A
set_option maxHeartbeats 4000000 in
set_option maxRecDepth 100000 in
theorem c_Disk_settled (l : Launch) (D : va_G) (ad : Nat → Nat) (ca : Nat → ClassId) (vD : DT) (p1 : Int32) (res : Int64) (hf : f_Disk_settled vD p1 = some res) (sz : Nat) : Met l yX2_settled (cd_Disk_settled :: gA) rm_Disk_settled (va_Pc [.ref (ad 1), .int p1] (gP D cls (tys ca) (wD ad ca vD) sz)) (q_Disk_settled D ad ca vD res (va_A (wD ad ca vD) sz)) 0 0 (va_A (wD ad ca vD) sz) := by
  refine g_met (cc := cX2_settled) (Qc := q_Disk_settled D ad ca vD res) (lv := [(0, .ref (ad 1)), (1, .int p1)]) (own := RX2) (by decide) rfl rfl (Nat.le_of_ble_eq_true rfl) rfl sz ?_
  intro p e s m args below meth c A Z hr hnm
  unfold f_Disk_settled at hf
  refine g_iload_n (pc := 0) Z 1 dX2_settled_0 rfl ?_
  obtain ⟨x1, h2, hf⟩ := Option.bind_eq_some_iff.mp hf
  refine g_calli (pc := 1) (ws2 := fun u => (wD ad ca vD)) (wr := (wD ad ca vD)) Z [] [0, 1, 2, 3, 4] [0, 1, 2, 3, 4] (g_runSN Z (c_Heap_isWord l D ad ca p1 x1 h2) ⟨va_cnB 1 Z.2.2.2.2.1 (gg_C ww1) rfl rfl rfl Z.2.2.2.2.2.2.2.2.2.2.2 (Z.2.2.2.2.1 _ (mm ww2)) yd_Heap_isWord ⟨Nat.le_of_ble_eq_true rfl, Nat.le_of_ble_eq_true rfl⟩, Z.2.2.2.2.1 _ (mm ww3), trivial⟩ [] rfl (by decide) rfl rfl (Nat.le_of_ble_eq_true rfl) dX2_settled_1 ⟨Nat.le_of_ble_eq_true rfl, Nat.le_of_ble_eq_true rfl⟩) rfl rfl (by decide) (by decide) (by decide) (fun _ => rfl) (fun r u hu => ?_)
  obtain rfl := hu.symm
  refine g_if_eq (pc := 4) (tgt := 16) Z dX2_settled_4 (by decide) (fun c3 => ?_) (fun c3 => ?_)
  · replace hf := gIfN (bI_z c3) hf
    refine g_lconst (pc := 16) (v := 0) Z dX2_settled_16 (by decide) ?_
    obtain rfl := Option.some.inj hf
    exact g_lret Z hr dX2_settled_17 () rfl rfl
  · replace hf := gIfP (bI_nz c3) hf
    refine g_aload_n (pc := 7) Z 0 dX2_settled_7 rfl ?_
    refine g_get (pc := 8) (T := TX2) (N := 12) Z 0 0 dX2_settled_8 (mm ww6) inx_X2 rfl (by decide) rfl rfl rfl ?_
    refine g_iload_n (pc := 11) Z 1 dX2_settled_11 rfl ?_
    obtain ⟨b4, hf⟩ := gGuard hf
    refine g_lald (pc := 12) Z 1 0 dX2_settled_12 rfl rfl (gI_in b4) ?_
    refine g_goto (pc := 13) (tgt := 17) Z dX2_settled_13 (by decide) ?_
    obtain rfl := Option.some.inj hf
    exact g_lret Z hr dX2_settled_17 () rfl rfl
/-! RedoHeap$Disk.writes()I -/
def f_Disk_writes (vD : DT) : Option (Int32) :=
  some vD.2.2.2.2.2.2.2.2.1
abbrev cd_Disk_writes : Cond := .code yX2_writes cX2_writes 1 (some .int)
theorem yd_Disk_writes : yX2_writes.cls ≠ "java/lang/invoke/MethodHandle" ∧ yX2_writes.cls ≠ "java/lang/invoke/VarHandle" ∧ (parseMethodDescriptor yX2_writes.desc).map (fun d => d.parameters.length) = some 0 := by decide +kernel
abbrev rm_Disk_writes : Room := { frames := 0, cells := 0, slots := 0, locals := 0 }
abbrev q_Disk_writes (D : va_G) (ad : Nat → Nat) (ca : Nat → ClassId) (vD : DT) (res : Int32) (A : Nat → Prop) : Array Value → State → Outcome → State → Prop := va_Qi (fun (r : Int32) (_ : Unit) => r = res) (gB D cls (tys ca) A (fun (u : Unit) => (wD ad ca vD))) A
set_option maxHeartbeats 4000000 in
set_option maxRecDepth 100000 in
theorem c_Disk_writes (l : Launch) (D : va_G) (ad : Nat → Nat) (ca : Nat → ClassId) (vD : DT) (res : Int32) (hf : f_Disk_writes vD = some res) (sz : Nat) : Met l yX2_writes (cd_Disk_writes :: gA) rm_Disk_writes (va_Pc [.ref (ad 1)] (gP D cls (tys ca) (wD ad ca vD) sz)) (q_Disk_writes D ad ca vD res (va_A (wD ad ca vD) sz)) 0 0 (va_A (wD ad ca vD) sz) := by
  refine g_met (cc := cX2_writes) (Qc := q_Disk_writes D ad ca vD res) (lv := [(0, .ref (ad 1))]) (own := RX2) (by decide) rfl rfl (Nat.le_of_ble_eq_true rfl) rfl sz ?_
  intro p e s m args below meth c A Z hr hnm
  unfold f_Disk_writes at hf
  refine g_aload_n (pc := 0) Z 0 dX2_writes_0 rfl ?_
  refine g_get (pc := 1) (T := TX2) (N := 12) Z 0 8 dX2_writes_1 (mm ww25) inx_X2 rfl (by decide) rfl rfl rfl ?_
  obtain rfl := Option.some.inj hf
  exact g_iret Z hr dX2_writes_4 () rfl rfl
/-! RedoHeap$Disk.syncs()I -/
def f_Disk_syncs (vD : DT) : Option (Int32) :=
  some vD.2.2.2.2.2.2.2.2.2.1
abbrev cd_Disk_syncs : Cond := .code yX2_syncs cX2_syncs 1 (some .int)
theorem yd_Disk_syncs : yX2_syncs.cls ≠ "java/lang/invoke/MethodHandle" ∧ yX2_syncs.cls ≠ "java/lang/invoke/VarHandle" ∧ (parseMethodDescriptor yX2_syncs.desc).map (fun d => d.parameters.length) = some 0 := by decide +kernel
abbrev rm_Disk_syncs : Room := { frames := 0, cells := 0, slots := 0, locals := 0 }
abbrev q_Disk_syncs (D : va_G) (ad : Nat → Nat) (ca : Nat → ClassId) (vD : DT) (res : Int32) (A : Nat → Prop) : Array Value → State → Outcome → State → Prop := va_Qi (fun (r : Int32) (_ : Unit) => r = res) (gB D cls (tys ca) A (fun (u : Unit) => (wD ad ca vD))) A
set_option maxHeartbeats 4000000 in
set_option maxRecDepth 100000 in
theorem c_Disk_syncs (l : Launch) (D : va_G) (ad : Nat → Nat) (ca : Nat → ClassId) (vD : DT) (res : Int32) (hf : f_Disk_syncs vD = some res) (sz : Nat) : Met l yX2_syncs (cd_Disk_syncs :: gA) rm_Disk_syncs (va_Pc [.ref (ad 1)] (gP D cls (tys ca) (wD ad ca vD) sz)) (q_Disk_syncs D ad ca vD res (va_A (wD ad ca vD) sz)) 0 0 (va_A (wD ad ca vD) sz) := by
  refine g_met (cc := cX2_syncs) (Qc := q_Disk_syncs D ad ca vD res) (lv := [(0, .ref (ad 1))]) (own := RX2) (by decide) rfl rfl (Nat.le_of_ble_eq_true rfl) rfl sz ?_
  intro p e s m args below meth c A Z hr hnm
  unfold f_Disk_syncs at hf
  refine g_aload_n (pc := 0) Z 0 dX2_syncs_0 rfl ?_
  refine g_get (pc := 1) (T := TX2) (N := 12) Z 0 9 dX2_syncs_1 (mm ww31) inx_X2 rfl (by decide) rfl rfl rfl ?_
  obtain rfl := Option.some.inj hf
  exact g_iret Z hr dX2_syncs_4 () rfl rfl
/-! RedoHeap$Disk.failures()I -/
def f_Disk_failures (vD : DT) : Option (Int32) :=
  some vD.2.2.2.2.2.2.2.2.2.2.1
abbrev cd_Disk_failures : Cond := .code yX2_failures cX2_failures 1 (some .int)
theorem yd_Disk_failures : yX2_failures.cls ≠ "java/lang/invoke/MethodHandle" ∧ yX2_failures.cls ≠ "java/lang/invoke/VarHandle" ∧ (parseMethodDescriptor yX2_failures.desc).map (fun d => d.parameters.length) = some 0 := by decide +kernel
abbrev rm_Disk_failures : Room := { frames := 0, cells := 0, slots := 0, locals := 0 }
abbrev q_Disk_failures (D : va_G) (ad : Nat → Nat) (ca : Nat → ClassId) (vD : DT) (res : Int32) (A : Nat → Prop) : Array Value → State → Outcome → State → Prop := va_Qi (fun (r : Int32) (_ : Unit) => r = res) (gB D cls (tys ca) A (fun (u : Unit) => (wD ad ca vD))) A
set_option maxHeartbeats 4000000 in
set_option maxRecDepth 100000 in
theorem c_Disk_failures (l : Launch) (D : va_G) (ad : Nat → Nat) (ca : Nat → ClassId) (vD : DT) (res : Int32) (hf : f_Disk_failures vD = some res) (sz : Nat) : Met l yX2_failures (cd_Disk_failures :: gA) rm_Disk_failures (va_Pc [.ref (ad 1)] (gP D cls (tys ca) (wD ad ca vD) sz)) (q_Disk_failures D ad ca vD res (va_A (wD ad ca vD) sz)) 0 0 (va_A (wD ad ca vD) sz) := by
  refine g_met (cc := cX2_failures) (Qc := q_Disk_failures D ad ca vD res) (lv := [(0, .ref (ad 1))]) (own := RX2) (by decide) rfl rfl (Nat.le_of_ble_eq_true rfl) rfl sz ?_
  intro p e s m args below meth c A Z hr hnm
  unfold f_Disk_failures at hf
  refine g_aload_n (pc := 0) Z 0 dX2_failures_0 rfl ?_
  refine g_get (pc := 1) (T := TX2) (N := 12) Z 0 10 dX2_failures_1 (mm ww20) inx_X2 rfl (by decide) rfl rfl rfl ?_
  obtain rfl := Option.some.inj hf
  exact g_iret Z hr dX2_failures_4 () rfl rfl
/-! RedoHeap$Disk.lost()I -/
def f_Disk_lost (vD : DT) : Option (Int32) :=
  some vD.2.2.2.2.2.2.2.2.2.2.2
abbrev cd_Disk_lost : Cond := .code yX2_lost cX2_lost 1 (some .int)
theorem yd_Disk_lost : yX2_lost.cls ≠ "java/lang/invoke/MethodHandle" ∧ yX2_lost.cls ≠ "java/lang/invoke/VarHandle" ∧ (parseMethodDescriptor yX2_lost.desc).map (fun d => d.parameters.length) = some 0 := by decide +kernel
abbrev rm_Disk_lost : Room := { frames := 0, cells := 0, slots := 0, locals := 0 }
abbrev q_Disk_lost (D : va_G) (ad : Nat → Nat) (ca : Nat → ClassId) (vD : DT) (res : Int32) (A : Nat → Prop) : Array Value → State → Outcome → State → Prop := va_Qi (fun (r : Int32) (_ : Unit) => r = res) (gB D cls (tys ca) A (fun (u : Unit) => (wD ad ca vD))) A
set_option maxHeartbeats 4000000 in
set_option maxRecDepth 100000 in
theorem c_Disk_lost (l : Launch) (D : va_G) (ad : Nat → Nat) (ca : Nat → ClassId) (vD : DT) (res : Int32) (hf : f_Disk_lost vD = some res) (sz : Nat) : Met l yX2_lost (cd_Disk_lost :: gA) rm_Disk_lost (va_Pc [.ref (ad 1)] (gP D cls (tys ca) (wD ad ca vD) sz)) (q_Disk_lost D ad ca vD res (va_A (wD ad ca vD) sz)) 0 0 (va_A (wD ad ca vD) sz) := by
  refine g_met (cc := cX2_lost) (Qc := q_Disk_lost D ad ca vD res) (lv := [(0, .ref (ad 1))]) (own := RX2) (by decide) rfl rfl (Nat.le_of_ble_eq_true rfl) rfl sz ?_
  intro p e s m args below meth c A Z hr hnm
  unfold f_Disk_lost at hf
  refine g_aload_n (pc := 0) Z 0 dX2_lost_0 rfl ?_
  refine g_get (pc := 1) (T := TX2) (N := 12) Z 0 11 dX2_lost_1 (mm ww18) inx_X2 rfl (by decide) rfl rfl rfl ?_
  obtain rfl := Option.some.inj hf
  exact g_iret Z hr dX2_lost_4 () rfl rfl
end
section
theorem ww32 : Cond.fieldLink RX1 26 "RedoHeap$Changes" "open" "Z" ∈ gA := wt1 98 rfl rfl
/-! RedoHeap$Changes.areOpen()Z -/
def f_Chg_areOpen (vC : CT) : Option (Bool) :=
  some vC.2.2.2.2.2
abbrev cd_Chg_areOpen : Cond := .code yX1_areOpen cX1_areOpen 1 (some .boolean)
theorem yd_Chg_areOpen : yX1_areOpen.cls ≠ "java/lang/invoke/MethodHandle" ∧ yX1_areOpen.cls ≠ "java/lang/invoke/VarHandle" ∧ (parseMethodDescriptor yX1_areOpen.desc).map (fun d => d.parameters.length) = some 0 := by decide +kernel
abbrev rm_Chg_areOpen : Room := { frames := 0, cells := 0, slots := 0, locals := 0 }
abbrev q_Chg_areOpen (D : va_G) (ad : Nat → Nat) (ca : Nat → ClassId) (vC : CT) (res : Bool) (A : Nat → Prop) : Array Value → State → Outcome → State → Prop := va_Qi (fun (r : Int32) (_ : Unit) => r = bI res) (gB D cls (tys ca) A (fun (u : Unit) => (wC ad ca vC))) A
set_option maxHeartbeats 4000000 in
set_option maxRecDepth 100000 in
theorem c_Chg_areOpen (l : Launch) (D : va_G) (ad : Nat → Nat) (ca : Nat → ClassId) (vC : CT) (res : Bool) (hf : f_Chg_areOpen vC = some res) (sz : Nat) : Met l yX1_areOpen (cd_Chg_areOpen :: gA) rm_Chg_areOpen (va_Pc [.ref (ad 7)] (gP D cls (tys ca) (wC ad ca vC) sz)) (q_Chg_areOpen D ad ca vC res (va_A (wC ad ca vC) sz)) 0 0 (va_A (wC ad ca vC) sz) := by
  refine g_met (cc := cX1_areOpen) (Qc := q_Chg_areOpen D ad ca vC res) (lv := [(0, .ref (ad 7))]) (own := RX1) (by decide) rfl rfl (Nat.le_of_ble_eq_true rfl) rfl sz ?_
  intro p e s m args below meth c A Z hr hnm
  unfold f_Chg_areOpen at hf
  refine g_aload_n (pc := 0) Z 0 dX1_areOpen_0 rfl ?_
  refine g_get (pc := 1) (T := TX1) (N := 6) Z 0 5 dX1_areOpen_1 (mm ww32) inx_X1 rfl (by decide) rfl rfl rfl ?_
  obtain rfl := Option.some.inj hf
  exact g_zret Z hr (bI_nar vC.2.2.2.2.2) dX1_areOpen_4 () rfl rfl
/-! RedoHeap$Changes.start()V -/
def f_Chg_start (vC : CT) : Option (CT) :=
  some (vC.1, vC.2.1, vC.2.2.1, vC.2.2.2.1, vC.2.2.2.2.1, true)
abbrev cd_Chg_start : Cond := .code yX1_start cX1_start 1 none
theorem yd_Chg_start : yX1_start.cls ≠ "java/lang/invoke/MethodHandle" ∧ yX1_start.cls ≠ "java/lang/invoke/VarHandle" ∧ (parseMethodDescriptor yX1_start.desc).map (fun d => d.parameters.length) = some 0 := by decide +kernel
abbrev rm_Chg_start : Room := { frames := 0, cells := 0, slots := 0, locals := 0 }
abbrev q_Chg_start (D : va_G) (ad : Nat → Nat) (ca : Nat → ClassId) (res : CT) (A : Nat → Prop) : Array Value → State → Outcome → State → Prop := va_Qv (fun (u : CT) => u = res) (gB D cls (tys ca) A (fun (u : CT) => (wC ad ca u))) A
set_option maxHeartbeats 4000000 in
set_option maxRecDepth 100000 in
theorem c_Chg_start (l : Launch) (D : va_G) (ad : Nat → Nat) (ca : Nat → ClassId) (vC : CT) (res : CT) (hf : f_Chg_start vC = some res) (sz : Nat) : Met l yX1_start (cd_Chg_start :: gA) rm_Chg_start (va_Pc [.ref (ad 7)] (gP D cls (tys ca) (wC ad ca vC) sz)) (q_Chg_start D ad ca res (va_A (wC ad ca vC) sz)) 0 0 (va_A (wC ad ca vC) sz) := by
  refine g_met (cc := cX1_start) (Qc := q_Chg_start D ad ca res) (lv := [(0, .ref (ad 7))]) (own := RX1) (by decide) rfl rfl (Nat.le_of_ble_eq_true rfl) rfl sz ?_
  intro p e s m args below meth c A Z hr hnm
  unfold f_Chg_start at hf
  refine g_aload_n (pc := 0) Z 0 dX1_start_0 rfl ?_
  refine g_iconst (pc := 1) (v := 1) Z dX1_start_1 (by decide) ?_
  refine g_put (pc := 2) (T := TX1) (N := 6) (ws' := (wC ad ca (vC.1, vC.2.1, vC.2.2.1, vC.2.2.2.1, vC.2.2.2.2.1, true))) Z 0 5 dX1_start_2 (mm ww32) inx_X1 tyX1_ok nmX1 rfl (by decide) rfl rfl rfl rfl rfl rfl (Nat.le_of_ble_eq_true rfl) rfl ?_
  obtain rfl := Option.some.inj hf
  exact g_vret Z hr dX1_start_5 (vC.1, vC.2.1, vC.2.2.1, vC.2.2.2.1, vC.2.2.2.2.1, true) rfl rfl
theorem ww33 : Cond.fieldLink RX1 15 "RedoHeap$Changes" "own" "[J" ∈ gA := wt1 94 rfl rfl
/-! RedoHeap$Changes.read(I)J -/
def f_Chg_read (vC : CT) (p1 : Int32) : Option (Int64) :=
  (f_Heap_isWord p1).bind fun x1 => if x1 = true then if gI p1 1024 = true then some (vC.2.1 p1.toNatClampNeg) else none else some (0 : Int64)
abbrev cd_Chg_read : Cond := .code yX1_read cX1_read 2 (some .long)
theorem yd_Chg_read : yX1_read.cls ≠ "java/lang/invoke/MethodHandle" ∧ yX1_read.cls ≠ "java/lang/invoke/VarHandle" ∧ (parseMethodDescriptor yX1_read.desc).map (fun d => d.parameters.length) = some 1 := by decide +kernel
abbrev rm_Chg_read : Room := { frames := 1, cells := 0, slots := 0, locals := 20 }
abbrev q_Chg_read (D : va_G) (ad : Nat → Nat) (ca : Nat → ClassId) (vC : CT) (res : Int64) (A : Nat → Prop) : Array Value → State → Outcome → State → Prop := va_Ql (fun (r : Int64) (_ : Unit) => r = res) (gB D cls (tys ca) A (fun (u : Unit) => (wC ad ca vC))) A
set_option maxHeartbeats 4000000 in
set_option maxRecDepth 100000 in
theorem c_Chg_read (l : Launch) (D : va_G) (ad : Nat → Nat) (ca : Nat → ClassId) (vC : CT) (p1 : Int32) (res : Int64) (hf : f_Chg_read vC p1 = some res) (sz : Nat) : Met l yX1_read (cd_Chg_read :: gA) rm_Chg_read (va_Pc [.ref (ad 7), .int p1] (gP D cls (tys ca) (wC ad ca vC) sz)) (q_Chg_read D ad ca vC res (va_A (wC ad ca vC) sz)) 0 0 (va_A (wC ad ca vC) sz) := by
  refine g_met (cc := cX1_read) (Qc := q_Chg_read D ad ca vC res) (lv := [(0, .ref (ad 7)), (1, .int p1)]) (own := RX1) (by decide) rfl rfl (Nat.le_of_ble_eq_true rfl) rfl sz ?_
  intro p e s m args below meth c A Z hr hnm
  unfold f_Chg_read at hf
  refine g_iload_n (pc := 0) Z 1 dX1_read_0 rfl ?_
  obtain ⟨x1, h2, hf⟩ := Option.bind_eq_some_iff.mp hf
  refine g_calli (pc := 1) (ws2 := fun u => (wC ad ca vC)) (wr := (wC ad ca vC)) Z [] [0, 1, 2, 3, 4] [0, 1, 2, 3, 4] (g_runSN Z (c_Heap_isWord l D ad ca p1 x1 h2) ⟨va_cnB 1 Z.2.2.2.2.1 (gg_C ww1) rfl rfl rfl Z.2.2.2.2.2.2.2.2.2.2.1 (Z.2.2.2.2.1 _ (mm ww2)) yd_Heap_isWord ⟨Nat.le_of_ble_eq_true rfl, Nat.le_of_ble_eq_true rfl⟩, Z.2.2.2.2.1 _ (mm ww3), trivial⟩ [] rfl (by decide) rfl rfl (Nat.le_of_ble_eq_true rfl) dX1_read_1 ⟨Nat.le_of_ble_eq_true rfl, Nat.le_of_ble_eq_true rfl⟩) rfl rfl (by decide) (by decide) (by decide) (fun _ => rfl) (fun r u hu => ?_)
  obtain rfl := hu.symm
  refine g_if_eq (pc := 4) (tgt := 16) Z dX1_read_4 (by decide) (fun c3 => ?_) (fun c3 => ?_)
  · replace hf := gIfN (bI_z c3) hf
    refine g_lconst (pc := 16) (v := 0) Z dX1_read_16 (by decide) ?_
    obtain rfl := Option.some.inj hf
    exact g_lret Z hr dX1_read_17 () rfl rfl
  · replace hf := gIfP (bI_nz c3) hf
    refine g_aload_n (pc := 7) Z 0 dX1_read_7 rfl ?_
    refine g_get (pc := 8) (T := TX1) (N := 6) Z 0 1 dX1_read_8 (mm ww33) inx_X1 rfl (by decide) rfl rfl rfl ?_
    refine g_iload_n (pc := 11) Z 1 dX1_read_11 rfl ?_
    obtain ⟨b4, hf⟩ := gGuard hf
    refine g_lald (pc := 12) Z 2 0 dX1_read_12 rfl rfl (gI_in b4) ?_
    refine g_goto (pc := 13) (tgt := 17) Z dX1_read_13 (by decide) ?_
    obtain rfl := Option.some.inj hf
    exact g_lret Z hr dX1_read_17 () rfl rfl
theorem ww34 : Cond.fieldLink RX1 18 "RedoHeap$Changes" "changed" "[Z" ∈ gA := wt1 95 rfl rfl
/-! RedoHeap$Changes.cost(IJ)I -/
def f_Chg_cost (vC : CT) (p1 : Int32) (p2 : Int64) : Option (Int32) :=
  (f_Heap_isWord p1).bind fun x1 => if x1 = true then if gI p1 1024 = true then if (vC.2.2.1 p1.toNatClampNeg) = 0 then if gI p1 1024 = true then if (lg_cmp (vC.2.1 p1.toNatClampNeg) p2) = 0 then some (0 : Int32) else some (1 : Int32) else none else some (0 : Int32) else none else some (0 : Int32)
abbrev cd_Chg_cost : Cond := .code yX1_cost cX1_cost 4 (some .int)
theorem yd_Chg_cost : yX1_cost.cls ≠ "java/lang/invoke/MethodHandle" ∧ yX1_cost.cls ≠ "java/lang/invoke/VarHandle" ∧ (parseMethodDescriptor yX1_cost.desc).map (fun d => d.parameters.length) = some 2 := by decide +kernel
abbrev rm_Chg_cost : Room := { frames := 1, cells := 0, slots := 0, locals := 20 }
abbrev q_Chg_cost (D : va_G) (ad : Nat → Nat) (ca : Nat → ClassId) (vC : CT) (res : Int32) (A : Nat → Prop) : Array Value → State → Outcome → State → Prop := va_Qi (fun (r : Int32) (_ : Unit) => r = res) (gB D cls (tys ca) A (fun (u : Unit) => (wC ad ca vC))) A
set_option maxHeartbeats 4000000 in
set_option maxRecDepth 100000 in
theorem c_Chg_cost (l : Launch) (D : va_G) (ad : Nat → Nat) (ca : Nat → ClassId) (vC : CT) (p1 : Int32) (p2 : Int64) (res : Int32) (hf : f_Chg_cost vC p1 p2 = some res) (sz : Nat) : Met l yX1_cost (cd_Chg_cost :: gA) rm_Chg_cost (va_Pc [.ref (ad 7), .int p1, .long p2] (gP D cls (tys ca) (wC ad ca vC) sz)) (q_Chg_cost D ad ca vC res (va_A (wC ad ca vC) sz)) 0 0 (va_A (wC ad ca vC) sz) := by
  refine g_met (cc := cX1_cost) (Qc := q_Chg_cost D ad ca vC res) (lv := [(0, .ref (ad 7)), (1, .int p1), (2, .long p2)]) (own := RX1) (by decide) rfl rfl (Nat.le_of_ble_eq_true rfl) rfl sz ?_
  intro p e s m args below meth c A Z hr hnm
  unfold f_Chg_cost at hf
  refine g_iload_n (pc := 0) Z 1 dX1_cost_0 rfl ?_
  obtain ⟨x1, h2, hf⟩ := Option.bind_eq_some_iff.mp hf
  refine g_calli (pc := 1) (ws2 := fun u => (wC ad ca vC)) (wr := (wC ad ca vC)) Z [] [0, 1, 2, 3, 4] [0, 1, 2, 3, 4] (g_runSN Z (c_Heap_isWord l D ad ca p1 x1 h2) ⟨va_cnB 1 Z.2.2.2.2.1 (gg_C ww1) rfl rfl rfl Z.2.2.2.2.2.2.2.2.2.2.1 (Z.2.2.2.2.1 _ (mm ww2)) yd_Heap_isWord ⟨Nat.le_of_ble_eq_true rfl, Nat.le_of_ble_eq_true rfl⟩, Z.2.2.2.2.1 _ (mm ww3), trivial⟩ [] rfl (by decide) rfl rfl (Nat.le_of_ble_eq_true rfl) dX1_cost_1 ⟨Nat.le_of_ble_eq_true rfl, Nat.le_of_ble_eq_true rfl⟩) rfl rfl (by decide) (by decide) (by decide) (fun _ => rfl) (fun r u hu => ?_)
  obtain rfl := hu.symm
  refine g_if_eq (pc := 4) (tgt := 27) Z dX1_cost_4 (by decide) (fun c3 => ?_) (fun c3 => ?_)
  · replace hf := gIfN (bI_z c3) hf
    refine g_iconst (pc := 27) (v := 0) Z dX1_cost_27 (by decide) ?_
    refine g_goto (pc := 28) (tgt := 32) Z dX1_cost_28 (by decide) ?_
    obtain rfl := Option.some.inj hf
    exact g_iret Z hr dX1_cost_32 () rfl rfl
  · replace hf := gIfP (bI_nz c3) hf
    refine g_aload_n (pc := 7) Z 0 dX1_cost_7 rfl ?_
    refine g_get (pc := 8) (T := TX1) (N := 6) Z 0 2 dX1_cost_8 (mm ww34) inx_X1 rfl (by decide) rfl rfl rfl ?_
    refine g_iload_n (pc := 11) Z 1 dX1_cost_11 rfl ?_
    obtain ⟨b4, hf⟩ := gGuard hf
    refine g_zald (pc := 12) Z 3 2 dX1_cost_12 rfl rfl (gI_in b4) ?_
    refine g_if_ne (pc := 13) (tgt := 27) Z dX1_cost_13 (by decide) (fun c5 => ?_) (fun c5 => ?_)
    · replace hf := gIfN c5 hf
      refine g_iconst (pc := 27) (v := 0) Z dX1_cost_27 (by decide) ?_
      refine g_goto (pc := 28) (tgt := 32) Z dX1_cost_28 (by decide) ?_
      obtain rfl := Option.some.inj hf
      exact g_iret Z hr dX1_cost_32 () rfl rfl
    · replace hf := gIfP c5 hf
      refine g_aload_n (pc := 16) Z 0 dX1_cost_16 rfl ?_
      refine g_get (pc := 17) (T := TX1) (N := 6) Z 0 1 dX1_cost_17 (mm ww33) inx_X1 rfl (by decide) rfl rfl rfl ?_
      refine g_iload_n (pc := 20) Z 1 dX1_cost_20 rfl ?_
      obtain ⟨b6, hf⟩ := gGuard hf
      refine g_lald (pc := 21) Z 2 0 dX1_cost_21 rfl rfl (gI_in b6) ?_
      refine g_lload_n (pc := 22) Z 2 dX1_cost_22 rfl ?_
      refine g_lcmp (pc := 23) Z dX1_cost_23 ?_
      refine g_if_ne (pc := 24) (tgt := 31) Z dX1_cost_24 (by decide) (fun c7 => ?_) (fun c7 => ?_)
      · replace hf := gIfN c7 hf
        refine g_iconst (pc := 31) (v := 1) Z dX1_cost_31 (by decide) ?_
        obtain rfl := Option.some.inj hf
        exact g_iret Z hr dX1_cost_32 () rfl rfl
      · replace hf := gIfP c7 hf
        refine g_iconst (pc := 27) (v := 0) Z dX1_cost_27 (by decide) ?_
        refine g_goto (pc := 28) (tgt := 32) Z dX1_cost_28 (by decide) ?_
        obtain rfl := Option.some.inj hf
        exact g_iret Z hr dX1_cost_32 () rfl rfl
theorem ww35 : Cond.fieldLink RX1 30 "RedoHeap$Changes" "size" "I" ∈ gA := wt1 97 rfl rfl
/-! RedoHeap$Changes.haveRoomFor(I)Z -/
def f_Chg_haveRoomFor (vC : CT) (p1 : Int32) : Option (Bool) :=
  if (96 : Int32) < (vC.2.2.2.2.1 + p1) then some false else some true
abbrev cd_Chg_haveRoomFor : Cond := .code yX1_haveRoomFor cX1_haveRoomFor 2 (some .boolean)
theorem yd_Chg_haveRoomFor : yX1_haveRoomFor.cls ≠ "java/lang/invoke/MethodHandle" ∧ yX1_haveRoomFor.cls ≠ "java/lang/invoke/VarHandle" ∧ (parseMethodDescriptor yX1_haveRoomFor.desc).map (fun d => d.parameters.length) = some 1 := by decide +kernel
abbrev rm_Chg_haveRoomFor : Room := { frames := 0, cells := 0, slots := 0, locals := 0 }
abbrev q_Chg_haveRoomFor (D : va_G) (ad : Nat → Nat) (ca : Nat → ClassId) (vC : CT) (res : Bool) (A : Nat → Prop) : Array Value → State → Outcome → State → Prop := va_Qi (fun (r : Int32) (_ : Unit) => r = bI res) (gB D cls (tys ca) A (fun (u : Unit) => (wC ad ca vC))) A
set_option maxHeartbeats 4000000 in
set_option maxRecDepth 100000 in
theorem c_Chg_haveRoomFor (l : Launch) (D : va_G) (ad : Nat → Nat) (ca : Nat → ClassId) (vC : CT) (p1 : Int32) (res : Bool) (hf : f_Chg_haveRoomFor vC p1 = some res) (sz : Nat) : Met l yX1_haveRoomFor (cd_Chg_haveRoomFor :: gA) rm_Chg_haveRoomFor (va_Pc [.ref (ad 7), .int p1] (gP D cls (tys ca) (wC ad ca vC) sz)) (q_Chg_haveRoomFor D ad ca vC res (va_A (wC ad ca vC) sz)) 0 0 (va_A (wC ad ca vC) sz) := by
  refine g_met (cc := cX1_haveRoomFor) (Qc := q_Chg_haveRoomFor D ad ca vC res) (lv := [(0, .ref (ad 7)), (1, .int p1)]) (own := RX1) (by decide) rfl rfl (Nat.le_of_ble_eq_true rfl) rfl sz ?_
  intro p e s m args below meth c A Z hr hnm
  unfold f_Chg_haveRoomFor at hf
  refine g_aload_n (pc := 0) Z 0 dX1_haveRoomFor_0 rfl ?_
  refine g_get (pc := 1) (T := TX1) (N := 6) Z 0 4 dX1_haveRoomFor_1 (mm ww35) inx_X1 rfl (by decide) rfl rfl rfl ?_
  refine g_iload_n (pc := 4) Z 1 dX1_haveRoomFor_4 rfl ?_
  refine g_iadd (pc := 5) Z dX1_haveRoomFor_5 ?_
  refine g_bipush (pc := 6) (v := 96) Z dX1_haveRoomFor_6 (by decide) ?_
  refine g_icmp_gt (pc := 8) (tgt := 15) Z dX1_haveRoomFor_8 (by decide) (fun c1 => ?_) (fun c1 => ?_)
  · replace hf := gIfP c1 hf
    refine g_iconst (pc := 15) (v := 0) Z dX1_haveRoomFor_15 (by decide) ?_
    obtain rfl := Option.some.inj hf
    exact g_zret Z hr rfl dX1_haveRoomFor_16 () rfl rfl
  · replace hf := gIfN c1 hf
    refine g_iconst (pc := 11) (v := 1) Z dX1_haveRoomFor_11 (by decide) ?_
    refine g_goto (pc := 12) (tgt := 16) Z dX1_haveRoomFor_12 (by decide) ?_
    obtain rfl := Option.some.inj hf
    exact g_zret Z hr rfl dX1_haveRoomFor_16 () rfl rfl
theorem ww36 : Cond.fieldLink RX1 22 "RedoHeap$Changes" "places" "[I" ∈ gA := wt1 96 rfl rfl
/-! RedoHeap$Changes.insert(I)V -/
def f_Chg_insert_15 (N : Nat) : Nat → CT → Int32 → Int32 → Option (CT)
  | 0, _, _, _ => none
  | n + 1, vC, y1, y2 => if y2 ≤ 0 then if gI y2 96 = true then some (vC.1, vC.2.1, vC.2.2.1, upd vC.2.2.2.1 y2.toNatClampNeg y1, vC.2.2.2.2.1 + (1 : Int32), vC.2.2.2.2.2) else none else if gI (y2 - (1 : Int32)) 96 = true then if (vC.2.2.2.1 (y2 - (1 : Int32)).toNatClampNeg) ≤ y1 then if gI y2 96 = true then some (vC.1, vC.2.1, vC.2.2.1, upd vC.2.2.2.1 y2.toNatClampNeg y1, vC.2.2.2.2.1 + (1 : Int32), vC.2.2.2.2.2) else none else if gI (y2 - (1 : Int32)) 96 = true then if gI y2 96 = true then f_Chg_insert_15 N n (vC.1, vC.2.1, vC.2.2.1, upd vC.2.2.2.1 y2.toNatClampNeg (vC.2.2.2.1 (y2 - (1 : Int32)).toNatClampNeg), vC.2.2.2.2.1, vC.2.2.2.2.2) y1 (y2 + (-1 : Int32)) else none else none else none
def f_Chg_insert (N : Nat) (vC : CT) (p1 : Int32) : Option (CT) :=
  if vC.2.2.2.2.1 < (96 : Int32) then f_Chg_insert_15 N N vC p1 vC.2.2.2.2.1 else some vC
abbrev cd_Chg_insert : Cond := .code yX1_insert cX1_insert 3 none
theorem yd_Chg_insert : yX1_insert.cls ≠ "java/lang/invoke/MethodHandle" ∧ yX1_insert.cls ≠ "java/lang/invoke/VarHandle" ∧ (parseMethodDescriptor yX1_insert.desc).map (fun d => d.parameters.length) = some 1 := by decide +kernel
abbrev rm_Chg_insert : Room := { frames := 0, cells := 0, slots := 0, locals := 0 }
abbrev q_Chg_insert (D : va_G) (ad : Nat → Nat) (ca : Nat → ClassId) (res : CT) (A : Nat → Prop) : Array Value → State → Outcome → State → Prop := va_Qv (fun (u : CT) => u = res) (gB D cls (tys ca) A (fun (u : CT) => (wC ad ca u))) A
set_option maxHeartbeats 4000000 in
set_option maxRecDepth 100000 in
theorem w_Chg_insert_15 {p : Program} {l : Launch} {e : Env} {s : State} {m : MethodId} {args : Array Value} {below : List Frame} {meth : Method} {c : Code} {D : va_G} {ad : Nat → Nat} {ca : Nat → ClassId} {A : Nat → Prop} {N : Nat} {res : CT} (Z : gZ p s m args meth c cX1_insert 3 RX1 (cd_Chg_insert :: gA) A D cls (tys ca)) (hr : meth.sig.returnType = none) : ∀ (n : Nat) (vC : CT) (y1 : Int32) (y2 : Int32), f_Chg_insert_15 N n vC y1 y2 = some res → gW p l e rm_Chg_insert s m args below meth c 3 A D cls 0 0 (MQ below (q_Chg_insert D ad ca res A) args s 0 0 A) (wC ad ca vC) [(0, .ref (ad 7)), (1, .int y1), (2, .int y2)] 15 [] := by
  intro n
  induction n with
  | zero =>
    intro vC y1 y2 hf
    exact absurd hf (by rw [f_Chg_insert_15]; exact fun h => by cases h)
  | succ n ih =>
    intro vC y1 y2 hf
    rw [f_Chg_insert_15] at hf
    refine g_iload_n (pc := 15) Z 2 dX1_insert_15 rfl ?_
    refine g_if_le (pc := 16) (tgt := 51) Z dX1_insert_16 (by decide) (fun c1 => ?_) (fun c1 => ?_)
    · replace hf := gIfP c1 hf
      refine g_aload_n (pc := 51) Z 0 dX1_insert_51 rfl ?_
      refine g_get (pc := 52) (T := TX1) (N := 6) Z 0 3 dX1_insert_52 (mm ww36) inx_X1 rfl (by decide) rfl rfl rfl ?_
      refine g_iload_n (pc := 55) Z 2 dX1_insert_55 rfl ?_
      refine g_iload_n (pc := 56) Z 1 dX1_insert_56 rfl ?_
      obtain ⟨b2, hf⟩ := gGuard hf
      refine g_iast (pc := 57) (ws' := (wC ad ca (vC.1, vC.2.1, vC.2.2.1, upd vC.2.2.2.1 y2.toNatClampNeg y1, vC.2.2.2.2.1, vC.2.2.2.2.2))) Z 4 1 dX1_insert_57 rfl rfl (gI_in b2) rfl ?_
      refine g_aload_n (pc := 58) Z 0 dX1_insert_58 rfl ?_
      refine g_dup (pc := 59) Z dX1_insert_59 rfl ?_
      refine g_get (pc := 60) (T := TX1) (N := 6) Z 0 4 dX1_insert_60 (mm ww35) inx_X1 rfl (by decide) rfl rfl rfl ?_
      refine g_iconst (pc := 63) (v := 1) Z dX1_insert_63 (by decide) ?_
      refine g_iadd (pc := 64) Z dX1_insert_64 ?_
      refine g_put (pc := 65) (T := TX1) (N := 6) (ws' := (wC ad ca (vC.1, vC.2.1, vC.2.2.1, upd vC.2.2.2.1 y2.toNatClampNeg y1, vC.2.2.2.2.1 + (1 : Int32), vC.2.2.2.2.2))) Z 0 4 dX1_insert_65 (mm ww35) inx_X1 tyX1_ok nmX1 rfl (by decide) rfl rfl rfl rfl rfl rfl (Nat.le_of_ble_eq_true rfl) rfl ?_
      obtain rfl := Option.some.inj hf
      exact g_vret Z hr dX1_insert_68 (vC.1, vC.2.1, vC.2.2.1, upd vC.2.2.2.1 y2.toNatClampNeg y1, vC.2.2.2.2.1 + (1 : Int32), vC.2.2.2.2.2) rfl rfl
    · replace hf := gIfN c1 hf
      refine g_aload_n (pc := 19) Z 0 dX1_insert_19 rfl ?_
      refine g_get (pc := 20) (T := TX1) (N := 6) Z 0 3 dX1_insert_20 (mm ww36) inx_X1 rfl (by decide) rfl rfl rfl ?_
      refine g_iload_n (pc := 23) Z 2 dX1_insert_23 rfl ?_
      refine g_iconst (pc := 24) (v := 1) Z dX1_insert_24 (by decide) ?_
      refine g_isub (pc := 25) Z dX1_insert_25 ?_
      obtain ⟨b3, hf⟩ := gGuard hf
      refine g_iald (pc := 26) Z 4 1 dX1_insert_26 rfl rfl (gI_in b3) ?_
      refine g_iload_n (pc := 27) Z 1 dX1_insert_27 rfl ?_
      refine g_icmp_le (pc := 28) (tgt := 51) Z dX1_insert_28 (by decide) (fun c4 => ?_) (fun c4 => ?_)
      · replace hf := gIfP c4 hf
        refine g_aload_n (pc := 51) Z 0 dX1_insert_51 rfl ?_
        refine g_get (pc := 52) (T := TX1) (N := 6) Z 0 3 dX1_insert_52 (mm ww36) inx_X1 rfl (by decide) rfl rfl rfl ?_
        refine g_iload_n (pc := 55) Z 2 dX1_insert_55 rfl ?_
        refine g_iload_n (pc := 56) Z 1 dX1_insert_56 rfl ?_
        obtain ⟨b5, hf⟩ := gGuard hf
        refine g_iast (pc := 57) (ws' := (wC ad ca (vC.1, vC.2.1, vC.2.2.1, upd vC.2.2.2.1 y2.toNatClampNeg y1, vC.2.2.2.2.1, vC.2.2.2.2.2))) Z 4 1 dX1_insert_57 rfl rfl (gI_in b5) rfl ?_
        refine g_aload_n (pc := 58) Z 0 dX1_insert_58 rfl ?_
        refine g_dup (pc := 59) Z dX1_insert_59 rfl ?_
        refine g_get (pc := 60) (T := TX1) (N := 6) Z 0 4 dX1_insert_60 (mm ww35) inx_X1 rfl (by decide) rfl rfl rfl ?_
        refine g_iconst (pc := 63) (v := 1) Z dX1_insert_63 (by decide) ?_
        refine g_iadd (pc := 64) Z dX1_insert_64 ?_
        refine g_put (pc := 65) (T := TX1) (N := 6) (ws' := (wC ad ca (vC.1, vC.2.1, vC.2.2.1, upd vC.2.2.2.1 y2.toNatClampNeg y1, vC.2.2.2.2.1 + (1 : Int32), vC.2.2.2.2.2))) Z 0 4 dX1_insert_65 (mm ww35) inx_X1 tyX1_ok nmX1 rfl (by decide) rfl rfl rfl rfl rfl rfl (Nat.le_of_ble_eq_true rfl) rfl ?_
        obtain rfl := Option.some.inj hf
        exact g_vret Z hr dX1_insert_68 (vC.1, vC.2.1, vC.2.2.1, upd vC.2.2.2.1 y2.toNatClampNeg y1, vC.2.2.2.2.1 + (1 : Int32), vC.2.2.2.2.2) rfl rfl
      · replace hf := gIfN c4 hf
        refine g_aload_n (pc := 31) Z 0 dX1_insert_31 rfl ?_
        refine g_get (pc := 32) (T := TX1) (N := 6) Z 0 3 dX1_insert_32 (mm ww36) inx_X1 rfl (by decide) rfl rfl rfl ?_
        refine g_iload_n (pc := 35) Z 2 dX1_insert_35 rfl ?_
        refine g_aload_n (pc := 36) Z 0 dX1_insert_36 rfl ?_
        refine g_get (pc := 37) (T := TX1) (N := 6) Z 0 3 dX1_insert_37 (mm ww36) inx_X1 rfl (by decide) rfl rfl rfl ?_
        refine g_iload_n (pc := 40) Z 2 dX1_insert_40 rfl ?_
        refine g_iconst (pc := 41) (v := 1) Z dX1_insert_41 (by decide) ?_
        refine g_isub (pc := 42) Z dX1_insert_42 ?_
        obtain ⟨b6, hf⟩ := gGuard hf
        refine g_iald (pc := 43) Z 4 1 dX1_insert_43 rfl rfl (gI_in b6) ?_
        obtain ⟨b7, hf⟩ := gGuard hf
        refine g_iast (pc := 44) (ws' := (wC ad ca (vC.1, vC.2.1, vC.2.2.1, upd vC.2.2.2.1 y2.toNatClampNeg (vC.2.2.2.1 (y2 - (1 : Int32)).toNatClampNeg), vC.2.2.2.2.1, vC.2.2.2.2.2))) Z 4 1 dX1_insert_44 rfl rfl (gI_in b7) rfl ?_
        refine g_iinc (pc := 45) (v := y2 + (-1 : Int32)) (lv' := [(2, .int (y2 + (-1 : Int32))), (0, .ref (ad 7)), (1, .int y1)]) Z 2 dX1_insert_45 rfl rfl (by decide) rfl ?_
        refine g_goto (pc := 48) (tgt := 15) Z dX1_insert_48 (by decide) ?_
        refine g_locals (lv2 := [(0, .ref (ad 7)), (1, .int y1), (2, .int (y2 + (-1 : Int32)))]) [1, 2, 0] rfl ?_
        exact ih _ _ _ hf
set_option maxHeartbeats 4000000 in
set_option maxRecDepth 100000 in
theorem c_Chg_insert (l : Launch) (D : va_G) (ad : Nat → Nat) (ca : Nat → ClassId) (N : Nat) (vC : CT) (p1 : Int32) (res : CT) (hf : f_Chg_insert N vC p1 = some res) (sz : Nat) : Met l yX1_insert (cd_Chg_insert :: gA) rm_Chg_insert (va_Pc [.ref (ad 7), .int p1] (gP D cls (tys ca) (wC ad ca vC) sz)) (q_Chg_insert D ad ca res (va_A (wC ad ca vC) sz)) 0 0 (va_A (wC ad ca vC) sz) := by
  refine g_met (cc := cX1_insert) (Qc := q_Chg_insert D ad ca res) (lv := [(0, .ref (ad 7)), (1, .int p1)]) (own := RX1) (by decide) rfl rfl (Nat.le_of_ble_eq_true rfl) rfl sz ?_
  intro p e s m args below meth c A Z hr hnm
  unfold f_Chg_insert at hf
  refine g_aload_n (pc := 0) Z 0 dX1_insert_0 rfl ?_
  refine g_get (pc := 1) (T := TX1) (N := 6) Z 0 4 dX1_insert_1 (mm ww35) inx_X1 rfl (by decide) rfl rfl rfl ?_
  refine g_bipush (pc := 4) (v := 96) Z dX1_insert_4 (by decide) ?_
  refine g_icmp_lt (pc := 6) (tgt := 10) Z dX1_insert_6 (by decide) (fun c8 => ?_) (fun c8 => ?_)
  · replace hf := gIfP c8 hf
    refine g_aload_n (pc := 10) Z 0 dX1_insert_10 rfl ?_
    refine g_get (pc := 11) (T := TX1) (N := 6) Z 0 4 dX1_insert_11 (mm ww35) inx_X1 rfl (by decide) rfl rfl rfl ?_
    refine g_istore_n (pc := 14) (lv' := [(2, .int vC.2.2.2.2.1), (0, .ref (ad 7)), (1, .int p1)]) Z dX1_insert_14 (by decide) rfl ?_
    refine g_locals (lv2 := [(0, .ref (ad 7)), (1, .int p1), (2, .int vC.2.2.2.2.1)]) [1, 2, 0] rfl ?_
    exact w_Chg_insert_15 Z hr N _ _ _ hf
  · replace hf := gIfN c8 hf
    obtain rfl := Option.some.inj hf
    exact g_vret Z hr dX1_insert_9 vC rfl rfl
theorem ww37 : Cond.methodLink RX1 38 yX1_cost ∈ gA := wt2 67 rfl rfl
theorem ww38 : Cond.instanceMethod yX1_cost ∈ gA := wt2 56 rfl rfl
theorem ww39 : Cond.selects RX1 yX1_cost yX1_cost ∈ gA := wt2 57 rfl rfl
theorem ww40 : Cond.initialized RX1 ∈ gA := wt1 4 rfl rfl
theorem ww41 : cd_Chg_cost ∈ gA := wt2 58 rfl rfl
theorem ww42 : Cond.methodLink RX1 42 yX1_haveRoomFor ∈ gA := wt2 68 rfl rfl
theorem ww43 : Cond.instanceMethod yX1_haveRoomFor ∈ gA := wt2 60 rfl rfl
theorem ww44 : Cond.selects RX1 yX1_haveRoomFor yX1_haveRoomFor ∈ gA := wt2 61 rfl rfl
theorem ww45 : cd_Chg_haveRoomFor ∈ gA := wt2 62 rfl rfl
theorem ww46 : Cond.methodLink RX1 45 yX1_insert ∈ gA := wt2 69 rfl rfl
theorem ww47 : Cond.instanceMethod yX1_insert ∈ gA := wt2 71 rfl rfl
theorem ww48 : Cond.selects RX1 yX1_insert yX1_insert ∈ gA := wtS 6 rfl rfl
theorem ww49 : cd_Chg_insert ∈ gA := wt2 72 rfl rfl
/-! RedoHeap$Changes.change(IJ)Z -/
def f_Chg_change (N : Nat) (vC : CT) (p1 : Int32) (p2 : Int64) : Option (Bool × CT) :=
  (f_Chg_cost vC p1 p2).bind fun x1 => (f_Heap_isWord p1).bind fun x3 => if x3 = true then (f_Chg_haveRoomFor vC x1).bind fun x6 => if x6 = true then if x1 ≤ 0 then if gI p1 1024 = true then some (true, (vC.1, vp_updL vC.2.1 p1.toNatClampNeg p2, vC.2.2.1, vC.2.2.2.1, vC.2.2.2.2.1, vC.2.2.2.2.2)) else none else if gI p1 1024 = true then (f_Chg_insert N (vC.1, vC.2.1, upd vC.2.2.1 p1.toNatClampNeg (vp_nar .boolean (1 : Int32)), vC.2.2.2.1, vC.2.2.2.2.1, vC.2.2.2.2.2) p1).bind fun x12 => if gI p1 1024 = true then some (true, (x12.1, vp_updL x12.2.1 p1.toNatClampNeg p2, x12.2.2.1, x12.2.2.2.1, x12.2.2.2.2.1, x12.2.2.2.2.2)) else none else none else some (false, vC) else some (false, vC)
abbrev cd_Chg_change : Cond := .code yX1_change cX1_change 5 (some .boolean)
theorem yd_Chg_change : yX1_change.cls ≠ "java/lang/invoke/MethodHandle" ∧ yX1_change.cls ≠ "java/lang/invoke/VarHandle" ∧ (parseMethodDescriptor yX1_change.desc).map (fun d => d.parameters.length) = some 2 := by decide +kernel
abbrev rm_Chg_change : Room := { frames := 2, cells := 0, slots := 0, locals := 43 }
abbrev q_Chg_change (D : va_G) (ad : Nat → Nat) (ca : Nat → ClassId) (res : Bool × CT) (A : Nat → Prop) : Array Value → State → Outcome → State → Prop := va_Qi (fun (r : Int32) (u : CT) => r = bI res.1 ∧ u = res.2) (gB D cls (tys ca) A (fun (u : CT) => (wC ad ca u))) A
set_option maxHeartbeats 4000000 in
set_option maxRecDepth 100000 in
theorem c_Chg_change (l : Launch) (D : va_G) (ad : Nat → Nat) (ca : Nat → ClassId) (N : Nat) (vC : CT) (p1 : Int32) (p2 : Int64) (res : Bool × CT) (hf : f_Chg_change N vC p1 p2 = some res) (sz : Nat) : Met l yX1_change (cd_Chg_change :: gA) rm_Chg_change (va_Pc [.ref (ad 7), .int p1, .long p2] (gP D cls (tys ca) (wC ad ca vC) sz)) (q_Chg_change D ad ca res (va_A (wC ad ca vC) sz)) 0 0 (va_A (wC ad ca vC) sz) := by
  refine g_met (cc := cX1_change) (Qc := q_Chg_change D ad ca res) (lv := [(0, .ref (ad 7)), (1, .int p1), (2, .long p2)]) (own := RX1) (by decide) rfl rfl (Nat.le_of_ble_eq_true rfl) rfl sz ?_
  intro p e s m args below meth c A Z hr hnm
  unfold f_Chg_change at hf
  refine g_aload_n (pc := 0) Z 0 dX1_change_0 rfl ?_
  refine g_iload_n (pc := 1) Z 1 dX1_change_1 rfl ?_
  refine g_lload_n (pc := 2) Z 2 dX1_change_2 rfl ?_
  obtain ⟨x1, h2, hf⟩ := Option.bind_eq_some_iff.mp hf
  refine g_calli (pc := 3) (ws2 := fun u => (wC ad ca vC)) (wr := ([] : va_W)) Z [0, 1, 2, 3, 4] [] [0, 1, 2, 3, 4] (g_runV Z (c_Chg_cost l D ad ca vC p1 p2 x1 h2) (cwV 2 Z.2.2.2.2.1 (gg_V ww37 ww38 ww39 ww40 ww41) rfl rfl rfl (yv_of rfl yd_Chg_cost) ⟨Nat.le_of_ble_eq_true rfl, Nat.le_of_ble_eq_true rfl⟩) [0, 1, 2, 3, 4] rfl (by decide) 0 rfl rfl rfl rfl rfl (Nat.le_of_ble_eq_true rfl) dX1_change_3 ⟨Nat.le_of_ble_eq_true rfl, Nat.le_of_ble_eq_true rfl⟩) rfl rfl (by decide) (by decide) (by decide) (fun _ => rfl) (fun r u hu => ?_)
  obtain rfl := hu.symm
  refine g_istore (pc := 6) (lv' := [(4, .int x1), (0, .ref (ad 7)), (1, .int p1), (2, .long p2)]) Z dX1_change_6 (by decide) rfl ?_
  refine g_iload_n (pc := 8) Z 2 dX1_change_8 rfl ?_
  obtain ⟨x3, h4, hf⟩ := Option.bind_eq_some_iff.mp hf
  refine g_calli (pc := 9) (ws2 := fun u => (wC ad ca vC)) (wr := (wC ad ca vC)) Z [] [0, 1, 2, 3, 4] [0, 1, 2, 3, 4] (g_runSN Z (c_Heap_isWord l D ad ca p1 x3 h4) ⟨va_cnB 1 Z.2.2.2.2.1 (gg_C ww1) rfl rfl rfl Z.2.2.2.2.2.2.2.2.2.2.1 (Z.2.2.2.2.1 _ (mm ww2)) yd_Heap_isWord ⟨Nat.le_of_ble_eq_true rfl, Nat.le_of_ble_eq_true rfl⟩, Z.2.2.2.2.1 _ (mm ww3), trivial⟩ [] rfl (by decide) rfl rfl (Nat.le_of_ble_eq_true rfl) dX1_change_9 ⟨Nat.le_of_ble_eq_true rfl, Nat.le_of_ble_eq_true rfl⟩) rfl rfl (by decide) (by decide) (by decide) (fun _ => rfl) (fun r u hu => ?_)
  obtain rfl := hu.symm
  refine g_if_eq (pc := 12) (tgt := 24) Z dX1_change_12 (by decide) (fun c5 => ?_) (fun c5 => ?_)
  · replace hf := gIfN (bI_z c5) hf
    refine g_iconst (pc := 24) (v := 0) Z dX1_change_24 (by decide) ?_
    obtain rfl := Option.some.inj hf
    exact g_zret Z hr rfl dX1_change_25 vC ⟨rfl, rfl⟩ rfl
  · replace hf := gIfP (bI_nz c5) hf
    refine g_aload_n (pc := 15) Z 1 dX1_change_15 rfl ?_
    refine g_iload (pc := 16) Z 0 dX1_change_16 rfl ?_
    obtain ⟨x6, h7, hf⟩ := Option.bind_eq_some_iff.mp hf
    refine g_calli (pc := 18) (ws2 := fun u => (wC ad ca vC)) (wr := ([] : va_W)) Z [0, 1, 2, 3, 4] [] [0, 1, 2, 3, 4] (g_runV Z (c_Chg_haveRoomFor l D ad ca vC x1 x6 h7) (cwV 1 Z.2.2.2.2.1 (gg_V ww42 ww43 ww44 ww40 ww45) rfl rfl rfl (yv_of rfl yd_Chg_haveRoomFor) ⟨Nat.le_of_ble_eq_true rfl, Nat.le_of_ble_eq_true rfl⟩) [0, 1, 2, 3, 4] rfl (by decide) 0 rfl rfl rfl rfl rfl (Nat.le_of_ble_eq_true rfl) dX1_change_18 ⟨Nat.le_of_ble_eq_true rfl, Nat.le_of_ble_eq_true rfl⟩) rfl rfl (by decide) (by decide) (by decide) (fun _ => rfl) (fun r u hu => ?_)
    obtain rfl := hu.symm
    refine g_if_ne (pc := 21) (tgt := 26) Z dX1_change_21 (by decide) (fun c8 => ?_) (fun c8 => ?_)
    · replace hf := gIfP (bI_nz c8) hf
      refine g_iload (pc := 26) Z 0 dX1_change_26 rfl ?_
      refine g_if_le (pc := 28) (tgt := 43) Z dX1_change_28 (by decide) (fun c9 => ?_) (fun c9 => ?_)
      · replace hf := gIfP c9 hf
        refine g_aload_n (pc := 43) Z 1 dX1_change_43 rfl ?_
        refine g_get (pc := 44) (T := TX1) (N := 6) Z 0 1 dX1_change_44 (mm ww33) inx_X1 rfl (by decide) rfl rfl rfl ?_
        refine g_iload_n (pc := 47) Z 2 dX1_change_47 rfl ?_
        refine g_lload_n (pc := 48) Z 3 dX1_change_48 rfl ?_
        obtain ⟨b10, hf⟩ := gGuard hf
        refine g_last (pc := 49) (ws' := (wC ad ca (vC.1, vp_updL vC.2.1 p1.toNatClampNeg p2, vC.2.2.1, vC.2.2.2.1, vC.2.2.2.2.1, vC.2.2.2.2.2))) Z 2 0 dX1_change_49 rfl rfl (gI_in b10) rfl ?_
        refine g_iconst (pc := 50) (v := 1) Z dX1_change_50 (by decide) ?_
        obtain rfl := Option.some.inj hf
        exact g_zret Z hr rfl dX1_change_51 (vC.1, vp_updL vC.2.1 p1.toNatClampNeg p2, vC.2.2.1, vC.2.2.2.1, vC.2.2.2.2.1, vC.2.2.2.2.2) ⟨rfl, rfl⟩ rfl
      · replace hf := gIfN c9 hf
        refine g_aload_n (pc := 31) Z 1 dX1_change_31 rfl ?_
        refine g_get (pc := 32) (T := TX1) (N := 6) Z 0 2 dX1_change_32 (mm ww34) inx_X1 rfl (by decide) rfl rfl rfl ?_
        refine g_iload_n (pc := 35) Z 2 dX1_change_35 rfl ?_
        refine g_iconst (pc := 36) (v := 1) Z dX1_change_36 (by decide) ?_
        obtain ⟨b11, hf⟩ := gGuard hf
        refine g_zast (pc := 37) (ws' := (wC ad ca (vC.1, vC.2.1, upd vC.2.2.1 p1.toNatClampNeg (vp_nar .boolean (1 : Int32)), vC.2.2.2.1, vC.2.2.2.2.1, vC.2.2.2.2.2))) Z 3 2 dX1_change_37 rfl rfl (gI_in b11) rfl ?_
        refine g_aload_n (pc := 38) Z 1 dX1_change_38 rfl ?_
        refine g_iload_n (pc := 39) Z 2 dX1_change_39 rfl ?_
        obtain ⟨x12, h13, hf⟩ := Option.bind_eq_some_iff.mp hf
        refine g_callv (pc := 40) (ws2 := fun u => (wC ad ca u)) (wr := ([] : va_W)) Z [0, 1, 2, 3, 4] [] [0, 1, 2, 3, 4] (g_runV Z (c_Chg_insert l D ad ca N (vC.1, vC.2.1, upd vC.2.2.1 p1.toNatClampNeg (vp_nar .boolean (1 : Int32)), vC.2.2.2.1, vC.2.2.2.2.1, vC.2.2.2.2.2) p1 x12 h13) (cwV 1 Z.2.2.2.2.1 (gg_V ww46 ww47 ww48 ww40 ww49) rfl rfl rfl (yv_of rfl yd_Chg_insert) ⟨Nat.le_of_ble_eq_true rfl, Nat.le_of_ble_eq_true rfl⟩) [0, 1, 2, 3, 4] rfl (by decide) 0 rfl rfl rfl rfl rfl (Nat.le_of_ble_eq_true rfl) dX1_change_40 ⟨Nat.le_of_ble_eq_true rfl, Nat.le_of_ble_eq_true rfl⟩) rfl rfl (by decide) (by decide) (by decide) (fun _ => rfl) (fun u hu => ?_)
        obtain rfl := hu.symm
        refine g_aload_n (pc := 43) Z 1 dX1_change_43 rfl ?_
        refine g_get (pc := 44) (T := TX1) (N := 6) Z 0 1 dX1_change_44 (mm ww33) inx_X1 rfl (by decide) rfl rfl rfl ?_
        refine g_iload_n (pc := 47) Z 2 dX1_change_47 rfl ?_
        refine g_lload_n (pc := 48) Z 3 dX1_change_48 rfl ?_
        obtain ⟨b14, hf⟩ := gGuard hf
        refine g_last (pc := 49) (ws' := (wC ad ca (x12.1, vp_updL x12.2.1 p1.toNatClampNeg p2, x12.2.2.1, x12.2.2.2.1, x12.2.2.2.2.1, x12.2.2.2.2.2))) Z 2 0 dX1_change_49 rfl rfl (gI_in b14) rfl ?_
        refine g_iconst (pc := 50) (v := 1) Z dX1_change_50 (by decide) ?_
        obtain rfl := Option.some.inj hf
        exact g_zret Z hr rfl dX1_change_51 (x12.1, vp_updL x12.2.1 p1.toNatClampNeg p2, x12.2.2.1, x12.2.2.2.1, x12.2.2.2.2.1, x12.2.2.2.2.2) ⟨rfl, rfl⟩ rfl
    · replace hf := gIfN (bI_z c8) hf
      refine g_iconst (pc := 24) (v := 0) Z dX1_change_24 (by decide) ?_
      obtain rfl := Option.some.inj hf
      exact g_zret Z hr rfl dX1_change_25 vC ⟨rfl, rfl⟩ rfl
/-! RedoHeap$Changes.size()I -/
def f_Chg_size (vC : CT) : Option (Int32) :=
  some vC.2.2.2.2.1
abbrev cd_Chg_size : Cond := .code yX1_size cX1_size 1 (some .int)
theorem yd_Chg_size : yX1_size.cls ≠ "java/lang/invoke/MethodHandle" ∧ yX1_size.cls ≠ "java/lang/invoke/VarHandle" ∧ (parseMethodDescriptor yX1_size.desc).map (fun d => d.parameters.length) = some 0 := by decide +kernel
abbrev rm_Chg_size : Room := { frames := 0, cells := 0, slots := 0, locals := 0 }
abbrev q_Chg_size (D : va_G) (ad : Nat → Nat) (ca : Nat → ClassId) (vC : CT) (res : Int32) (A : Nat → Prop) : Array Value → State → Outcome → State → Prop := va_Qi (fun (r : Int32) (_ : Unit) => r = res) (gB D cls (tys ca) A (fun (u : Unit) => (wC ad ca vC))) A
set_option maxHeartbeats 4000000 in
set_option maxRecDepth 100000 in
theorem c_Chg_size (l : Launch) (D : va_G) (ad : Nat → Nat) (ca : Nat → ClassId) (vC : CT) (res : Int32) (hf : f_Chg_size vC = some res) (sz : Nat) : Met l yX1_size (cd_Chg_size :: gA) rm_Chg_size (va_Pc [.ref (ad 7)] (gP D cls (tys ca) (wC ad ca vC) sz)) (q_Chg_size D ad ca vC res (va_A (wC ad ca vC) sz)) 0 0 (va_A (wC ad ca vC) sz) := by
  refine g_met (cc := cX1_size) (Qc := q_Chg_size D ad ca vC res) (lv := [(0, .ref (ad 7))]) (own := RX1) (by decide) rfl rfl (Nat.le_of_ble_eq_true rfl) rfl sz ?_
  intro p e s m args below meth c A Z hr hnm
  unfold f_Chg_size at hf
  refine g_aload_n (pc := 0) Z 0 dX1_size_0 rfl ?_
  refine g_get (pc := 1) (T := TX1) (N := 6) Z 0 4 dX1_size_1 (mm ww35) inx_X1 rfl (by decide) rfl rfl rfl ?_
  obtain rfl := Option.some.inj hf
  exact g_iret Z hr dX1_size_4 () rfl rfl
/-! RedoHeap$Changes.place(I)I -/
def f_Chg_place (vC : CT) (p1 : Int32) : Option (Int32) :=
  if p1 < 0 then some (-1 : Int32) else if vC.2.2.2.2.1 ≤ p1 then some (-1 : Int32) else if (96 : Int32) ≤ p1 then some (-1 : Int32) else if gI p1 96 = true then some (vC.2.2.2.1 p1.toNatClampNeg) else none
abbrev cd_Chg_place : Cond := .code yX1_place cX1_place 2 (some .int)
theorem yd_Chg_place : yX1_place.cls ≠ "java/lang/invoke/MethodHandle" ∧ yX1_place.cls ≠ "java/lang/invoke/VarHandle" ∧ (parseMethodDescriptor yX1_place.desc).map (fun d => d.parameters.length) = some 1 := by decide +kernel
abbrev rm_Chg_place : Room := { frames := 0, cells := 0, slots := 0, locals := 0 }
abbrev q_Chg_place (D : va_G) (ad : Nat → Nat) (ca : Nat → ClassId) (vC : CT) (res : Int32) (A : Nat → Prop) : Array Value → State → Outcome → State → Prop := va_Qi (fun (r : Int32) (_ : Unit) => r = res) (gB D cls (tys ca) A (fun (u : Unit) => (wC ad ca vC))) A
set_option maxHeartbeats 4000000 in
set_option maxRecDepth 100000 in
theorem c_Chg_place (l : Launch) (D : va_G) (ad : Nat → Nat) (ca : Nat → ClassId) (vC : CT) (p1 : Int32) (res : Int32) (hf : f_Chg_place vC p1 = some res) (sz : Nat) : Met l yX1_place (cd_Chg_place :: gA) rm_Chg_place (va_Pc [.ref (ad 7), .int p1] (gP D cls (tys ca) (wC ad ca vC) sz)) (q_Chg_place D ad ca vC res (va_A (wC ad ca vC) sz)) 0 0 (va_A (wC ad ca vC) sz) := by
  refine g_met (cc := cX1_place) (Qc := q_Chg_place D ad ca vC res) (lv := [(0, .ref (ad 7)), (1, .int p1)]) (own := RX1) (by decide) rfl rfl (Nat.le_of_ble_eq_true rfl) rfl sz ?_
  intro p e s m args below meth c A Z hr hnm
  unfold f_Chg_place at hf
  refine g_iload_n (pc := 0) Z 1 dX1_place_0 rfl ?_
  refine g_if_lt (pc := 1) (tgt := 27) Z dX1_place_1 (by decide) (fun c1 => ?_) (fun c1 => ?_)
  · replace hf := gIfP c1 hf
    refine g_iconst (pc := 27) (v := -1) Z dX1_place_27 (by decide) ?_
    obtain rfl := Option.some.inj hf
    exact g_iret Z hr dX1_place_28 () rfl rfl
  · replace hf := gIfN c1 hf
    refine g_iload_n (pc := 4) Z 1 dX1_place_4 rfl ?_
    refine g_aload_n (pc := 5) Z 0 dX1_place_5 rfl ?_
    refine g_get (pc := 6) (T := TX1) (N := 6) Z 0 4 dX1_place_6 (mm ww35) inx_X1 rfl (by decide) rfl rfl rfl ?_
    refine g_icmp_ge (pc := 9) (tgt := 27) Z dX1_place_9 (by decide) (fun c2 => ?_) (fun c2 => ?_)
    · replace hf := gIfP c2 hf
      refine g_iconst (pc := 27) (v := -1) Z dX1_place_27 (by decide) ?_
      obtain rfl := Option.some.inj hf
      exact g_iret Z hr dX1_place_28 () rfl rfl
    · replace hf := gIfN c2 hf
      refine g_iload_n (pc := 12) Z 1 dX1_place_12 rfl ?_
      refine g_bipush (pc := 13) (v := 96) Z dX1_place_13 (by decide) ?_
      refine g_icmp_ge (pc := 15) (tgt := 27) Z dX1_place_15 (by decide) (fun c3 => ?_) (fun c3 => ?_)
      · replace hf := gIfP c3 hf
        refine g_iconst (pc := 27) (v := -1) Z dX1_place_27 (by decide) ?_
        obtain rfl := Option.some.inj hf
        exact g_iret Z hr dX1_place_28 () rfl rfl
      · replace hf := gIfN c3 hf
        refine g_aload_n (pc := 18) Z 0 dX1_place_18 rfl ?_
        refine g_get (pc := 19) (T := TX1) (N := 6) Z 0 3 dX1_place_19 (mm ww36) inx_X1 rfl (by decide) rfl rfl rfl ?_
        refine g_iload_n (pc := 22) Z 1 dX1_place_22 rfl ?_
        obtain ⟨b4, hf⟩ := gGuard hf
        refine g_iald (pc := 23) Z 4 1 dX1_place_23 rfl rfl (gI_in b4) ?_
        refine g_goto (pc := 24) (tgt := 28) Z dX1_place_24 (by decide) ?_
        obtain rfl := Option.some.inj hf
        exact g_iret Z hr dX1_place_28 () rfl rfl
theorem ww50 : Cond.methodLink RX1 49 yX1_place ∈ gA := wt2 148 rfl rfl
theorem ww51 : Cond.instanceMethod yX1_place ∈ gA := wt2 149 rfl rfl
theorem ww52 : Cond.selects RX1 yX1_place yX1_place ∈ gA := wt2 150 rfl rfl
theorem ww53 : cd_Chg_place ∈ gA := wt2 151 rfl rfl
/-! RedoHeap$Changes.drop()V -/
def f_Chg_drop_2 (N : Nat) : Nat → CT → Int32 → Option (CT)
  | 0, _, _ => none
  | n + 1, vC, y1 => if vC.2.2.2.2.1 ≤ y1 then some (vC.1, vC.2.1, vC.2.2.1, vC.2.2.2.1, (0 : Int32), false) else (f_Chg_place vC y1).bind fun x2 => (f_Heap_isWord x2).bind fun x4 => if x4 = true then if gI x2 1024 = true then f_Chg_drop_2 N n (vC.1, vC.2.1, upd vC.2.2.1 x2.toNatClampNeg (vp_nar .boolean (0 : Int32)), vC.2.2.2.1, vC.2.2.2.2.1, vC.2.2.2.2.2) (y1 + (1 : Int32)) else none else f_Chg_drop_2 N n vC (y1 + (1 : Int32))
def f_Chg_drop (N : Nat) (vC : CT) : Option (CT) :=
  f_Chg_drop_2 N N vC (0 : Int32)
abbrev cd_Chg_drop : Cond := .code yX1_drop cX1_drop 3 none
theorem yd_Chg_drop : yX1_drop.cls ≠ "java/lang/invoke/MethodHandle" ∧ yX1_drop.cls ≠ "java/lang/invoke/VarHandle" ∧ (parseMethodDescriptor yX1_drop.desc).map (fun d => d.parameters.length) = some 0 := by decide +kernel
abbrev rm_Chg_drop : Room := { frames := 1, cells := 0, slots := 0, locals := 21 }
abbrev q_Chg_drop (D : va_G) (ad : Nat → Nat) (ca : Nat → ClassId) (res : CT) (A : Nat → Prop) : Array Value → State → Outcome → State → Prop := va_Qv (fun (u : CT) => u = res) (gB D cls (tys ca) A (fun (u : CT) => (wC ad ca u))) A
set_option maxHeartbeats 4000000 in
set_option maxRecDepth 100000 in
theorem w_Chg_drop_2 {p : Program} {l : Launch} {e : Env} {s : State} {m : MethodId} {args : Array Value} {below : List Frame} {meth : Method} {c : Code} {D : va_G} {ad : Nat → Nat} {ca : Nat → ClassId} {A : Nat → Prop} {N : Nat} {res : CT} (Z : gZ p s m args meth c cX1_drop 3 RX1 (cd_Chg_drop :: gA) A D cls (tys ca)) (hr : meth.sig.returnType = none) : ∀ (n : Nat) (vC : CT) (y1 : Int32), f_Chg_drop_2 N n vC y1 = some res → gW p l e rm_Chg_drop s m args below meth c 3 A D cls 0 0 (MQ below (q_Chg_drop D ad ca res A) args s 0 0 A) (wC ad ca vC) [(0, .ref (ad 7)), (1, .int y1)] 2 [] := by
  intro n
  induction n with
  | zero =>
    intro vC y1 hf
    exact absurd hf (by rw [f_Chg_drop_2]; exact fun h => by cases h)
  | succ n ih =>
    intro vC y1 hf
    rw [f_Chg_drop_2] at hf
    refine g_iload_n (pc := 2) Z 1 dX1_drop_2 rfl ?_
    refine g_aload_n (pc := 3) Z 0 dX1_drop_3 rfl ?_
    refine g_get (pc := 4) (T := TX1) (N := 6) Z 0 4 dX1_drop_4 (mm ww35) inx_X1 rfl (by decide) rfl rfl rfl ?_
    refine g_icmp_ge (pc := 7) (tgt := 36) Z dX1_drop_7 (by decide) (fun c1 => ?_) (fun c1 => ?_)
    · replace hf := gIfP c1 hf
      refine g_aload_n (pc := 36) Z 0 dX1_drop_36 rfl ?_
      refine g_iconst (pc := 37) (v := 0) Z dX1_drop_37 (by decide) ?_
      refine g_put (pc := 38) (T := TX1) (N := 6) (ws' := (wC ad ca (vC.1, vC.2.1, vC.2.2.1, vC.2.2.2.1, (0 : Int32), vC.2.2.2.2.2))) Z 0 4 dX1_drop_38 (mm ww35) inx_X1 tyX1_ok nmX1 rfl (by decide) rfl rfl rfl rfl rfl rfl (Nat.le_of_ble_eq_true rfl) rfl ?_
      refine g_aload_n (pc := 41) Z 0 dX1_drop_41 rfl ?_
      refine g_iconst (pc := 42) (v := 0) Z dX1_drop_42 (by decide) ?_
      refine g_put (pc := 43) (T := TX1) (N := 6) (ws' := (wC ad ca (vC.1, vC.2.1, vC.2.2.1, vC.2.2.2.1, (0 : Int32), false))) Z 0 5 dX1_drop_43 (mm ww32) inx_X1 tyX1_ok nmX1 rfl (by decide) rfl rfl rfl rfl rfl rfl (Nat.le_of_ble_eq_true rfl) rfl ?_
      obtain rfl := Option.some.inj hf
      exact g_vret Z hr dX1_drop_46 (vC.1, vC.2.1, vC.2.2.1, vC.2.2.2.1, (0 : Int32), false) rfl rfl
    · replace hf := gIfN c1 hf
      refine g_aload_n (pc := 10) Z 0 dX1_drop_10 rfl ?_
      refine g_iload_n (pc := 11) Z 1 dX1_drop_11 rfl ?_
      obtain ⟨x2, h3, hf⟩ := Option.bind_eq_some_iff.mp hf
      refine g_calli (pc := 12) (ws2 := fun u => (wC ad ca vC)) (wr := ([] : va_W)) Z [0, 1, 2, 3, 4] [] [0, 1, 2, 3, 4] (g_runV Z (c_Chg_place l D ad ca vC y1 x2 h3) (cwV 1 Z.2.2.2.2.1 (gg_V ww50 ww51 ww52 ww40 ww53) rfl rfl rfl (yv_of rfl yd_Chg_place) ⟨Nat.le_of_ble_eq_true rfl, Nat.le_of_ble_eq_true rfl⟩) [0, 1, 2, 3, 4] rfl (by decide) 0 rfl rfl rfl rfl rfl (Nat.le_of_ble_eq_true rfl) dX1_drop_12 ⟨Nat.le_of_ble_eq_true rfl, Nat.le_of_ble_eq_true rfl⟩) rfl rfl (by decide) (by decide) (by decide) (fun _ => rfl) (fun r u hu => ?_)
      obtain rfl := hu.symm
      refine g_istore_n (pc := 15) (lv' := [(2, .int x2), (0, .ref (ad 7)), (1, .int y1)]) Z dX1_drop_15 (by decide) rfl ?_
      refine g_iload_n (pc := 16) Z 0 dX1_drop_16 rfl ?_
      obtain ⟨x4, h5, hf⟩ := Option.bind_eq_some_iff.mp hf
      refine g_calli (pc := 17) (ws2 := fun u => (wC ad ca vC)) (wr := (wC ad ca vC)) Z [] [0, 1, 2, 3, 4] [0, 1, 2, 3, 4] (g_runSN Z (c_Heap_isWord l D ad ca x2 x4 h5) ⟨va_cnB 1 Z.2.2.2.2.1 (gg_C ww1) rfl rfl rfl Z.2.2.2.2.2.2.2.2.2.2.1 (Z.2.2.2.2.1 _ (mm ww2)) yd_Heap_isWord ⟨Nat.le_of_ble_eq_true rfl, Nat.le_of_ble_eq_true rfl⟩, Z.2.2.2.2.1 _ (mm ww3), trivial⟩ [] rfl (by decide) rfl rfl (Nat.le_of_ble_eq_true rfl) dX1_drop_17 ⟨Nat.le_of_ble_eq_true rfl, Nat.le_of_ble_eq_true rfl⟩) rfl rfl (by decide) (by decide) (by decide) (fun _ => rfl) (fun r u hu => ?_)
      obtain rfl := hu.symm
      refine g_if_eq (pc := 20) (tgt := 30) Z dX1_drop_20 (by decide) (fun c6 => ?_) (fun c6 => ?_)
      · replace hf := gIfN (bI_z c6) hf
        refine g_iinc (pc := 30) (v := y1 + (1 : Int32)) (lv' := [(1, .int (y1 + (1 : Int32))), (2, .int x2), (0, .ref (ad 7))]) Z 2 dX1_drop_30 rfl rfl (by decide) rfl ?_
        refine g_goto (pc := 33) (tgt := 2) Z dX1_drop_33 (by decide) ?_
        refine g_locals (lv2 := [(0, .ref (ad 7)), (1, .int (y1 + (1 : Int32)))]) [2, 0] rfl ?_
        exact ih _ _ hf
      · replace hf := gIfP (bI_nz c6) hf
        refine g_aload_n (pc := 23) Z 1 dX1_drop_23 rfl ?_
        refine g_get (pc := 24) (T := TX1) (N := 6) Z 0 2 dX1_drop_24 (mm ww34) inx_X1 rfl (by decide) rfl rfl rfl ?_
        refine g_iload_n (pc := 27) Z 0 dX1_drop_27 rfl ?_
        refine g_iconst (pc := 28) (v := 0) Z dX1_drop_28 (by decide) ?_
        obtain ⟨b7, hf⟩ := gGuard hf
        refine g_zast (pc := 29) (ws' := (wC ad ca (vC.1, vC.2.1, upd vC.2.2.1 x2.toNatClampNeg (vp_nar .boolean (0 : Int32)), vC.2.2.2.1, vC.2.2.2.2.1, vC.2.2.2.2.2))) Z 3 2 dX1_drop_29 rfl rfl (gI_in b7) rfl ?_
        refine g_iinc (pc := 30) (v := y1 + (1 : Int32)) (lv' := [(1, .int (y1 + (1 : Int32))), (2, .int x2), (0, .ref (ad 7))]) Z 2 dX1_drop_30 rfl rfl (by decide) rfl ?_
        refine g_goto (pc := 33) (tgt := 2) Z dX1_drop_33 (by decide) ?_
        refine g_locals (lv2 := [(0, .ref (ad 7)), (1, .int (y1 + (1 : Int32)))]) [2, 0] rfl ?_
        exact ih _ _ hf
set_option maxHeartbeats 4000000 in
set_option maxRecDepth 100000 in
theorem c_Chg_drop (l : Launch) (D : va_G) (ad : Nat → Nat) (ca : Nat → ClassId) (N : Nat) (vC : CT) (res : CT) (hf : f_Chg_drop N vC = some res) (sz : Nat) : Met l yX1_drop (cd_Chg_drop :: gA) rm_Chg_drop (va_Pc [.ref (ad 7)] (gP D cls (tys ca) (wC ad ca vC) sz)) (q_Chg_drop D ad ca res (va_A (wC ad ca vC) sz)) 0 0 (va_A (wC ad ca vC) sz) := by
  refine g_met (cc := cX1_drop) (Qc := q_Chg_drop D ad ca res) (lv := [(0, .ref (ad 7))]) (own := RX1) (by decide) rfl rfl (Nat.le_of_ble_eq_true rfl) rfl sz ?_
  intro p e s m args below meth c A Z hr hnm
  unfold f_Chg_drop at hf
  refine g_iconst (pc := 0) (v := 0) Z dX1_drop_0 (by decide) ?_
  refine g_istore_n (pc := 1) (lv' := [(1, .int (0 : Int32)), (0, .ref (ad 7))]) Z dX1_drop_1 (by decide) rfl ?_
  refine g_locals (lv2 := [(0, .ref (ad 7)), (1, .int (0 : Int32))]) [1, 0] rfl ?_
  exact w_Chg_drop_2 Z hr N _ _ hf
theorem ww54 : Cond.methodLink RX1 53 yX1_drop ∈ gA := wt2 152 rfl rfl
theorem ww55 : Cond.instanceMethod yX1_drop ∈ gA := wt2 153 rfl rfl
theorem ww56 : Cond.selects RX1 yX1_drop yX1_drop ∈ gA := wt2 154 rfl rfl
theorem ww57 : cd_Chg_drop ∈ gA := wt2 155 rfl rfl
theorem ww58 : Cond.fieldLink RX1 9 "RedoHeap$Changes" "good" "[J" ∈ gA := wt1 93 rfl rfl
/-! RedoHeap$Changes.accept()V -/
def f_Chg_accept_2 (N : Nat) : Nat → CT → Int32 → Option (CT)
  | 0, _, _ => none
  | n + 1, vC, y1 => if vC.2.2.2.2.1 ≤ y1 then (f_Chg_drop N vC).bind fun x2 => some x2 else (f_Chg_place vC y1).bind fun x4 => (f_Heap_isWord x4).bind fun x6 => if x6 = true then if gI x4 1024 = true then if gI x4 1024 = true then f_Chg_accept_2 N n (vp_updL vC.1 x4.toNatClampNeg (vC.2.1 x4.toNatClampNeg), vC.2.1, vC.2.2.1, vC.2.2.2.1, vC.2.2.2.2.1, vC.2.2.2.2.2) (y1 + (1 : Int32)) else none else none else f_Chg_accept_2 N n vC (y1 + (1 : Int32))
def f_Chg_accept (N : Nat) (vC : CT) : Option (CT) :=
  f_Chg_accept_2 N N vC (0 : Int32)
abbrev cd_Chg_accept : Cond := .code yX1_accept cX1_accept 3 none
theorem yd_Chg_accept : yX1_accept.cls ≠ "java/lang/invoke/MethodHandle" ∧ yX1_accept.cls ≠ "java/lang/invoke/VarHandle" ∧ (parseMethodDescriptor yX1_accept.desc).map (fun d => d.parameters.length) = some 0 := by decide +kernel
abbrev rm_Chg_accept : Room := { frames := 2, cells := 0, slots := 0, locals := 43 }
abbrev q_Chg_accept (D : va_G) (ad : Nat → Nat) (ca : Nat → ClassId) (res : CT) (A : Nat → Prop) : Array Value → State → Outcome → State → Prop := va_Qv (fun (u : CT) => u = res) (gB D cls (tys ca) A (fun (u : CT) => (wC ad ca u))) A
set_option maxHeartbeats 4000000 in
set_option maxRecDepth 100000 in
theorem w_Chg_accept_2 {p : Program} {l : Launch} {e : Env} {s : State} {m : MethodId} {args : Array Value} {below : List Frame} {meth : Method} {c : Code} {D : va_G} {ad : Nat → Nat} {ca : Nat → ClassId} {A : Nat → Prop} {N : Nat} {res : CT} (Z : gZ p s m args meth c cX1_accept 3 RX1 (cd_Chg_accept :: gA) A D cls (tys ca)) (hr : meth.sig.returnType = none) : ∀ (n : Nat) (vC : CT) (y1 : Int32), f_Chg_accept_2 N n vC y1 = some res → gW p l e rm_Chg_accept s m args below meth c 3 A D cls 0 0 (MQ below (q_Chg_accept D ad ca res A) args s 0 0 A) (wC ad ca vC) [(0, .ref (ad 7)), (1, .int y1)] 2 [] := by
  intro n
  induction n with
  | zero =>
    intro vC y1 hf
    exact absurd hf (by rw [f_Chg_accept_2]; exact fun h => by cases h)
  | succ n ih =>
    intro vC y1 hf
    rw [f_Chg_accept_2] at hf
    refine g_iload_n (pc := 2) Z 1 dX1_accept_2 rfl ?_
    refine g_aload_n (pc := 3) Z 0 dX1_accept_3 rfl ?_
    refine g_get (pc := 4) (T := TX1) (N := 6) Z 0 4 dX1_accept_4 (mm ww35) inx_X1 rfl (by decide) rfl rfl rfl ?_
    refine g_icmp_ge (pc := 7) (tgt := 41) Z dX1_accept_7 (by decide) (fun c1 => ?_) (fun c1 => ?_)
    · replace hf := gIfP c1 hf
      refine g_aload_n (pc := 41) Z 0 dX1_accept_41 rfl ?_
      obtain ⟨x2, h3, hf⟩ := Option.bind_eq_some_iff.mp hf
      refine g_callv (pc := 42) (ws2 := fun u => (wC ad ca u)) (wr := ([] : va_W)) Z [0, 1, 2, 3, 4] [] [0, 1, 2, 3, 4] (g_runV Z (c_Chg_drop l D ad ca N vC x2 h3) (cwV 0 Z.2.2.2.2.1 (gg_V ww54 ww55 ww56 ww40 ww57) rfl rfl rfl (yv_of rfl yd_Chg_drop) ⟨Nat.le_of_ble_eq_true rfl, Nat.le_of_ble_eq_true rfl⟩) [0, 1, 2, 3, 4] rfl (by decide) 0 rfl rfl rfl rfl rfl (Nat.le_of_ble_eq_true rfl) dX1_accept_42 ⟨Nat.le_of_ble_eq_true rfl, Nat.le_of_ble_eq_true rfl⟩) rfl rfl (by decide) (by decide) (by decide) (fun _ => rfl) (fun u hu => ?_)
      obtain rfl := hu.symm
      obtain rfl := Option.some.inj hf
      exact g_vret Z hr dX1_accept_45 x2 rfl rfl
    · replace hf := gIfN c1 hf
      refine g_aload_n (pc := 10) Z 0 dX1_accept_10 rfl ?_
      refine g_iload_n (pc := 11) Z 1 dX1_accept_11 rfl ?_
      obtain ⟨x4, h5, hf⟩ := Option.bind_eq_some_iff.mp hf
      refine g_calli (pc := 12) (ws2 := fun u => (wC ad ca vC)) (wr := ([] : va_W)) Z [0, 1, 2, 3, 4] [] [0, 1, 2, 3, 4] (g_runV Z (c_Chg_place l D ad ca vC y1 x4 h5) (cwV 1 Z.2.2.2.2.1 (gg_V ww50 ww51 ww52 ww40 ww53) rfl rfl rfl (yv_of rfl yd_Chg_place) ⟨Nat.le_of_ble_eq_true rfl, Nat.le_of_ble_eq_true rfl⟩) [0, 1, 2, 3, 4] rfl (by decide) 0 rfl rfl rfl rfl rfl (Nat.le_of_ble_eq_true rfl) dX1_accept_12 ⟨Nat.le_of_ble_eq_true rfl, Nat.le_of_ble_eq_true rfl⟩) rfl rfl (by decide) (by decide) (by decide) (fun _ => rfl) (fun r u hu => ?_)
      obtain rfl := hu.symm
      refine g_istore_n (pc := 15) (lv' := [(2, .int x4), (0, .ref (ad 7)), (1, .int y1)]) Z dX1_accept_15 (by decide) rfl ?_
      refine g_iload_n (pc := 16) Z 0 dX1_accept_16 rfl ?_
      obtain ⟨x6, h7, hf⟩ := Option.bind_eq_some_iff.mp hf
      refine g_calli (pc := 17) (ws2 := fun u => (wC ad ca vC)) (wr := (wC ad ca vC)) Z [] [0, 1, 2, 3, 4] [0, 1, 2, 3, 4] (g_runSN Z (c_Heap_isWord l D ad ca x4 x6 h7) ⟨va_cnB 1 Z.2.2.2.2.1 (gg_C ww1) rfl rfl rfl Z.2.2.2.2.2.2.2.2.2.2.1 (Z.2.2.2.2.1 _ (mm ww2)) yd_Heap_isWord ⟨Nat.le_of_ble_eq_true rfl, Nat.le_of_ble_eq_true rfl⟩, Z.2.2.2.2.1 _ (mm ww3), trivial⟩ [] rfl (by decide) rfl rfl (Nat.le_of_ble_eq_true rfl) dX1_accept_17 ⟨Nat.le_of_ble_eq_true rfl, Nat.le_of_ble_eq_true rfl⟩) rfl rfl (by decide) (by decide) (by decide) (fun _ => rfl) (fun r u hu => ?_)
      obtain rfl := hu.symm
      refine g_if_eq (pc := 20) (tgt := 35) Z dX1_accept_20 (by decide) (fun c8 => ?_) (fun c8 => ?_)
      · replace hf := gIfN (bI_z c8) hf
        refine g_iinc (pc := 35) (v := y1 + (1 : Int32)) (lv' := [(1, .int (y1 + (1 : Int32))), (2, .int x4), (0, .ref (ad 7))]) Z 2 dX1_accept_35 rfl rfl (by decide) rfl ?_
        refine g_goto (pc := 38) (tgt := 2) Z dX1_accept_38 (by decide) ?_
        refine g_locals (lv2 := [(0, .ref (ad 7)), (1, .int (y1 + (1 : Int32)))]) [2, 0] rfl ?_
        exact ih _ _ hf
      · replace hf := gIfP (bI_nz c8) hf
        refine g_aload_n (pc := 23) Z 1 dX1_accept_23 rfl ?_
        refine g_get (pc := 24) (T := TX1) (N := 6) Z 0 0 dX1_accept_24 (mm ww58) inx_X1 rfl (by decide) rfl rfl rfl ?_
        refine g_iload_n (pc := 27) Z 0 dX1_accept_27 rfl ?_
        refine g_aload_n (pc := 28) Z 1 dX1_accept_28 rfl ?_
        refine g_get (pc := 29) (T := TX1) (N := 6) Z 0 1 dX1_accept_29 (mm ww33) inx_X1 rfl (by decide) rfl rfl rfl ?_
        refine g_iload_n (pc := 32) Z 0 dX1_accept_32 rfl ?_
        obtain ⟨b9, hf⟩ := gGuard hf
        refine g_lald (pc := 33) Z 2 0 dX1_accept_33 rfl rfl (gI_in b9) ?_
        obtain ⟨b10, hf⟩ := gGuard hf
        refine g_last (pc := 34) (ws' := (wC ad ca (vp_updL vC.1 x4.toNatClampNeg (vC.2.1 x4.toNatClampNeg), vC.2.1, vC.2.2.1, vC.2.2.2.1, vC.2.2.2.2.1, vC.2.2.2.2.2))) Z 1 0 dX1_accept_34 rfl rfl (gI_in b10) rfl ?_
        refine g_iinc (pc := 35) (v := y1 + (1 : Int32)) (lv' := [(1, .int (y1 + (1 : Int32))), (2, .int x4), (0, .ref (ad 7))]) Z 2 dX1_accept_35 rfl rfl (by decide) rfl ?_
        refine g_goto (pc := 38) (tgt := 2) Z dX1_accept_38 (by decide) ?_
        refine g_locals (lv2 := [(0, .ref (ad 7)), (1, .int (y1 + (1 : Int32)))]) [2, 0] rfl ?_
        exact ih _ _ hf
set_option maxHeartbeats 4000000 in
set_option maxRecDepth 100000 in
theorem c_Chg_accept (l : Launch) (D : va_G) (ad : Nat → Nat) (ca : Nat → ClassId) (N : Nat) (vC : CT) (res : CT) (hf : f_Chg_accept N vC = some res) (sz : Nat) : Met l yX1_accept (cd_Chg_accept :: gA) rm_Chg_accept (va_Pc [.ref (ad 7)] (gP D cls (tys ca) (wC ad ca vC) sz)) (q_Chg_accept D ad ca res (va_A (wC ad ca vC) sz)) 0 0 (va_A (wC ad ca vC) sz) := by
  refine g_met (cc := cX1_accept) (Qc := q_Chg_accept D ad ca res) (lv := [(0, .ref (ad 7))]) (own := RX1) (by decide) rfl rfl (Nat.le_of_ble_eq_true rfl) rfl sz ?_
  intro p e s m args below meth c A Z hr hnm
  unfold f_Chg_accept at hf
  refine g_iconst (pc := 0) (v := 0) Z dX1_accept_0 (by decide) ?_
  refine g_istore_n (pc := 1) (lv' := [(1, .int (0 : Int32)), (0, .ref (ad 7))]) Z dX1_accept_1 (by decide) rfl ?_
  refine g_locals (lv2 := [(0, .ref (ad 7)), (1, .int (0 : Int32))]) [1, 0] rfl ?_
  exact w_Chg_accept_2 Z hr N _ _ hf
/-! RedoHeap$Changes.takeBack()V -/
def f_Chg_takeBack_2 (N : Nat) : Nat → CT → Int32 → Option (CT)
  | 0, _, _ => none
  | n + 1, vC, y1 => if vC.2.2.2.2.1 ≤ y1 then (f_Chg_drop N vC).bind fun x2 => some x2 else (f_Chg_place vC y1).bind fun x4 => (f_Heap_isWord x4).bind fun x6 => if x6 = true then if gI x4 1024 = true then if gI x4 1024 = true then f_Chg_takeBack_2 N n (vC.1, vp_updL vC.2.1 x4.toNatClampNeg (vC.1 x4.toNatClampNeg), vC.2.2.1, vC.2.2.2.1, vC.2.2.2.2.1, vC.2.2.2.2.2) (y1 + (1 : Int32)) else none else none else f_Chg_takeBack_2 N n vC (y1 + (1 : Int32))
def f_Chg_takeBack (N : Nat) (vC : CT) : Option (CT) :=
  f_Chg_takeBack_2 N N vC (0 : Int32)
abbrev cd_Chg_takeBack : Cond := .code yX1_takeBack cX1_takeBack 3 none
theorem yd_Chg_takeBack : yX1_takeBack.cls ≠ "java/lang/invoke/MethodHandle" ∧ yX1_takeBack.cls ≠ "java/lang/invoke/VarHandle" ∧ (parseMethodDescriptor yX1_takeBack.desc).map (fun d => d.parameters.length) = some 0 := by decide +kernel
abbrev rm_Chg_takeBack : Room := { frames := 2, cells := 0, slots := 0, locals := 43 }
abbrev q_Chg_takeBack (D : va_G) (ad : Nat → Nat) (ca : Nat → ClassId) (res : CT) (A : Nat → Prop) : Array Value → State → Outcome → State → Prop := va_Qv (fun (u : CT) => u = res) (gB D cls (tys ca) A (fun (u : CT) => (wC ad ca u))) A
set_option maxHeartbeats 4000000 in
set_option maxRecDepth 100000 in
theorem w_Chg_takeBack_2 {p : Program} {l : Launch} {e : Env} {s : State} {m : MethodId} {args : Array Value} {below : List Frame} {meth : Method} {c : Code} {D : va_G} {ad : Nat → Nat} {ca : Nat → ClassId} {A : Nat → Prop} {N : Nat} {res : CT} (Z : gZ p s m args meth c cX1_takeBack 3 RX1 (cd_Chg_takeBack :: gA) A D cls (tys ca)) (hr : meth.sig.returnType = none) : ∀ (n : Nat) (vC : CT) (y1 : Int32), f_Chg_takeBack_2 N n vC y1 = some res → gW p l e rm_Chg_takeBack s m args below meth c 3 A D cls 0 0 (MQ below (q_Chg_takeBack D ad ca res A) args s 0 0 A) (wC ad ca vC) [(0, .ref (ad 7)), (1, .int y1)] 2 [] := by
  intro n
  induction n with
  | zero =>
    intro vC y1 hf
    exact absurd hf (by rw [f_Chg_takeBack_2]; exact fun h => by cases h)
  | succ n ih =>
    intro vC y1 hf
    rw [f_Chg_takeBack_2] at hf
    refine g_iload_n (pc := 2) Z 1 dX1_takeBack_2 rfl ?_
    refine g_aload_n (pc := 3) Z 0 dX1_takeBack_3 rfl ?_
    refine g_get (pc := 4) (T := TX1) (N := 6) Z 0 4 dX1_takeBack_4 (mm ww35) inx_X1 rfl (by decide) rfl rfl rfl ?_
    refine g_icmp_ge (pc := 7) (tgt := 41) Z dX1_takeBack_7 (by decide) (fun c1 => ?_) (fun c1 => ?_)
    · replace hf := gIfP c1 hf
      refine g_aload_n (pc := 41) Z 0 dX1_takeBack_41 rfl ?_
      obtain ⟨x2, h3, hf⟩ := Option.bind_eq_some_iff.mp hf
      refine g_callv (pc := 42) (ws2 := fun u => (wC ad ca u)) (wr := ([] : va_W)) Z [0, 1, 2, 3, 4] [] [0, 1, 2, 3, 4] (g_runV Z (c_Chg_drop l D ad ca N vC x2 h3) (cwV 0 Z.2.2.2.2.1 (gg_V ww54 ww55 ww56 ww40 ww57) rfl rfl rfl (yv_of rfl yd_Chg_drop) ⟨Nat.le_of_ble_eq_true rfl, Nat.le_of_ble_eq_true rfl⟩) [0, 1, 2, 3, 4] rfl (by decide) 0 rfl rfl rfl rfl rfl (Nat.le_of_ble_eq_true rfl) dX1_takeBack_42 ⟨Nat.le_of_ble_eq_true rfl, Nat.le_of_ble_eq_true rfl⟩) rfl rfl (by decide) (by decide) (by decide) (fun _ => rfl) (fun u hu => ?_)
      obtain rfl := hu.symm
      obtain rfl := Option.some.inj hf
      exact g_vret Z hr dX1_takeBack_45 x2 rfl rfl
    · replace hf := gIfN c1 hf
      refine g_aload_n (pc := 10) Z 0 dX1_takeBack_10 rfl ?_
      refine g_iload_n (pc := 11) Z 1 dX1_takeBack_11 rfl ?_
      obtain ⟨x4, h5, hf⟩ := Option.bind_eq_some_iff.mp hf
      refine g_calli (pc := 12) (ws2 := fun u => (wC ad ca vC)) (wr := ([] : va_W)) Z [0, 1, 2, 3, 4] [] [0, 1, 2, 3, 4] (g_runV Z (c_Chg_place l D ad ca vC y1 x4 h5) (cwV 1 Z.2.2.2.2.1 (gg_V ww50 ww51 ww52 ww40 ww53) rfl rfl rfl (yv_of rfl yd_Chg_place) ⟨Nat.le_of_ble_eq_true rfl, Nat.le_of_ble_eq_true rfl⟩) [0, 1, 2, 3, 4] rfl (by decide) 0 rfl rfl rfl rfl rfl (Nat.le_of_ble_eq_true rfl) dX1_takeBack_12 ⟨Nat.le_of_ble_eq_true rfl, Nat.le_of_ble_eq_true rfl⟩) rfl rfl (by decide) (by decide) (by decide) (fun _ => rfl) (fun r u hu => ?_)
      obtain rfl := hu.symm
      refine g_istore_n (pc := 15) (lv' := [(2, .int x4), (0, .ref (ad 7)), (1, .int y1)]) Z dX1_takeBack_15 (by decide) rfl ?_
      refine g_iload_n (pc := 16) Z 0 dX1_takeBack_16 rfl ?_
      obtain ⟨x6, h7, hf⟩ := Option.bind_eq_some_iff.mp hf
      refine g_calli (pc := 17) (ws2 := fun u => (wC ad ca vC)) (wr := (wC ad ca vC)) Z [] [0, 1, 2, 3, 4] [0, 1, 2, 3, 4] (g_runSN Z (c_Heap_isWord l D ad ca x4 x6 h7) ⟨va_cnB 1 Z.2.2.2.2.1 (gg_C ww1) rfl rfl rfl Z.2.2.2.2.2.2.2.2.2.2.1 (Z.2.2.2.2.1 _ (mm ww2)) yd_Heap_isWord ⟨Nat.le_of_ble_eq_true rfl, Nat.le_of_ble_eq_true rfl⟩, Z.2.2.2.2.1 _ (mm ww3), trivial⟩ [] rfl (by decide) rfl rfl (Nat.le_of_ble_eq_true rfl) dX1_takeBack_17 ⟨Nat.le_of_ble_eq_true rfl, Nat.le_of_ble_eq_true rfl⟩) rfl rfl (by decide) (by decide) (by decide) (fun _ => rfl) (fun r u hu => ?_)
      obtain rfl := hu.symm
      refine g_if_eq (pc := 20) (tgt := 35) Z dX1_takeBack_20 (by decide) (fun c8 => ?_) (fun c8 => ?_)
      · replace hf := gIfN (bI_z c8) hf
        refine g_iinc (pc := 35) (v := y1 + (1 : Int32)) (lv' := [(1, .int (y1 + (1 : Int32))), (2, .int x4), (0, .ref (ad 7))]) Z 2 dX1_takeBack_35 rfl rfl (by decide) rfl ?_
        refine g_goto (pc := 38) (tgt := 2) Z dX1_takeBack_38 (by decide) ?_
        refine g_locals (lv2 := [(0, .ref (ad 7)), (1, .int (y1 + (1 : Int32)))]) [2, 0] rfl ?_
        exact ih _ _ hf
      · replace hf := gIfP (bI_nz c8) hf
        refine g_aload_n (pc := 23) Z 1 dX1_takeBack_23 rfl ?_
        refine g_get (pc := 24) (T := TX1) (N := 6) Z 0 1 dX1_takeBack_24 (mm ww33) inx_X1 rfl (by decide) rfl rfl rfl ?_
        refine g_iload_n (pc := 27) Z 0 dX1_takeBack_27 rfl ?_
        refine g_aload_n (pc := 28) Z 1 dX1_takeBack_28 rfl ?_
        refine g_get (pc := 29) (T := TX1) (N := 6) Z 0 0 dX1_takeBack_29 (mm ww58) inx_X1 rfl (by decide) rfl rfl rfl ?_
        refine g_iload_n (pc := 32) Z 0 dX1_takeBack_32 rfl ?_
        obtain ⟨b9, hf⟩ := gGuard hf
        refine g_lald (pc := 33) Z 1 0 dX1_takeBack_33 rfl rfl (gI_in b9) ?_
        obtain ⟨b10, hf⟩ := gGuard hf
        refine g_last (pc := 34) (ws' := (wC ad ca (vC.1, vp_updL vC.2.1 x4.toNatClampNeg (vC.1 x4.toNatClampNeg), vC.2.2.1, vC.2.2.2.1, vC.2.2.2.2.1, vC.2.2.2.2.2))) Z 2 0 dX1_takeBack_34 rfl rfl (gI_in b10) rfl ?_
        refine g_iinc (pc := 35) (v := y1 + (1 : Int32)) (lv' := [(1, .int (y1 + (1 : Int32))), (2, .int x4), (0, .ref (ad 7))]) Z 2 dX1_takeBack_35 rfl rfl (by decide) rfl ?_
        refine g_goto (pc := 38) (tgt := 2) Z dX1_takeBack_38 (by decide) ?_
        refine g_locals (lv2 := [(0, .ref (ad 7)), (1, .int (y1 + (1 : Int32)))]) [2, 0] rfl ?_
        exact ih _ _ hf
set_option maxHeartbeats 4000000 in
set_option maxRecDepth 100000 in
theorem c_Chg_takeBack (l : Launch) (D : va_G) (ad : Nat → Nat) (ca : Nat → ClassId) (N : Nat) (vC : CT) (res : CT) (hf : f_Chg_takeBack N vC = some res) (sz : Nat) : Met l yX1_takeBack (cd_Chg_takeBack :: gA) rm_Chg_takeBack (va_Pc [.ref (ad 7)] (gP D cls (tys ca) (wC ad ca vC) sz)) (q_Chg_takeBack D ad ca res (va_A (wC ad ca vC) sz)) 0 0 (va_A (wC ad ca vC) sz) := by
  refine g_met (cc := cX1_takeBack) (Qc := q_Chg_takeBack D ad ca res) (lv := [(0, .ref (ad 7))]) (own := RX1) (by decide) rfl rfl (Nat.le_of_ble_eq_true rfl) rfl sz ?_
  intro p e s m args below meth c A Z hr hnm
  unfold f_Chg_takeBack at hf
  refine g_iconst (pc := 0) (v := 0) Z dX1_takeBack_0 (by decide) ?_
  refine g_istore_n (pc := 1) (lv' := [(1, .int (0 : Int32)), (0, .ref (ad 7))]) Z dX1_takeBack_1 (by decide) rfl ?_
  refine g_locals (lv2 := [(0, .ref (ad 7)), (1, .int (0 : Int32))]) [1, 0] rfl ?_
  exact w_Chg_takeBack_2 Z hr N _ _ hf
theorem ww59 : Cond.methodLink RX1 62 arraycopyName ∈ gA := wt3 74 rfl rfl
theorem ww60 : Cond.methodLink RX1 56 yX2_read ∈ gA := wt3 73 rfl rfl
theorem ww61 : Cond.instanceMethod yX2_read ∈ gA := wt2 177 rfl rfl
theorem ww62 : Cond.selects RX2 yX2_read yX2_read ∈ gA := wt2 178 rfl rfl
theorem ww63 : cd_Disk_read ∈ gA := wt2 179 rfl rfl
/-! RedoHeap$Changes.load(LRedoHeap$Disk;)V -/
def f_Chg_load_2 (N : Nat) (vD : DT) : Nat → CT → Int32 → Option (CT)
  | 0, _, _ => none
  | n + 1, vC, y2 => if (1024 : Int32) ≤ y2 then some (vC.1, va_cpy vC.1 vC.2.1 (0 : Int32).toNatClampNeg (0 : Int32).toNatClampNeg (1024 : Int32).toNatClampNeg, vC.2.2.1, vC.2.2.2.1, vC.2.2.2.2.1, vC.2.2.2.2.2) else (f_Disk_read vD y2).bind fun x2 => if gI y2 1024 = true then f_Chg_load_2 N vD n (vp_updL vC.1 y2.toNatClampNeg x2, vC.2.1, vC.2.2.1, vC.2.2.2.1, vC.2.2.2.2.1, vC.2.2.2.2.2) (y2 + (1 : Int32)) else none
def f_Chg_load (N : Nat) (vD : DT) (vC : CT) : Option (CT) :=
  f_Chg_load_2 N vD N vC (0 : Int32)
abbrev cd_Chg_load : Cond := .code yX1_load cX1_load 3 none
theorem yd_Chg_load : yX1_load.cls ≠ "java/lang/invoke/MethodHandle" ∧ yX1_load.cls ≠ "java/lang/invoke/VarHandle" ∧ (parseMethodDescriptor yX1_load.desc).map (fun d => d.parameters.length) = some 1 := by decide +kernel
abbrev rm_Chg_load : Room := { frames := 2, cells := 0, slots := 0, locals := 60 }
abbrev q_Chg_load (D : va_G) (ad : Nat → Nat) (ca : Nat → ClassId) (vD : DT) (res : CT) (A : Nat → Prop) : Array Value → State → Outcome → State → Prop := va_Qv (fun (u : CT) => u = res) (gB D cls (tys ca) A (fun (u : CT) => (wD ad ca vD ++ wC ad ca u))) A
set_option maxHeartbeats 4000000 in
set_option maxRecDepth 100000 in
theorem w_Chg_load_2 {p : Program} {l : Launch} {e : Env} {s : State} {m : MethodId} {args : Array Value} {below : List Frame} {meth : Method} {c : Code} {D : va_G} {ad : Nat → Nat} {ca : Nat → ClassId} {A : Nat → Prop} {N : Nat} {vD : DT} {res : CT} (Z : gZ p s m args meth c cX1_load 3 RX1 (cd_Chg_load :: gA) A D cls (tys ca)) (hr : meth.sig.returnType = none) : ∀ (n : Nat) (vC : CT) (y2 : Int32), f_Chg_load_2 N vD n vC y2 = some res → gW p l e rm_Chg_load s m args below meth c 3 A D cls 0 0 (MQ below (q_Chg_load D ad ca vD res A) args s 0 0 A) (wD ad ca vD ++ wC ad ca vC) [(0, .ref (ad 7)), (1, .ref (ad 1)), (2, .int y2)] 2 [] := by
  intro n
  induction n with
  | zero =>
    intro vC y2 hf
    exact absurd hf (by rw [f_Chg_load_2]; exact fun h => by cases h)
  | succ n ih =>
    intro vC y2 hf
    rw [f_Chg_load_2] at hf
    refine g_iload_n (pc := 2) Z 2 dX1_load_2 rfl ?_
    refine g_sipush (pc := 3) (v := 1024) Z dX1_load_3 (by decide) ?_
    refine g_icmp_ge (pc := 6) (tgt := 26) Z dX1_load_6 (by decide) (fun c1 => ?_) (fun c1 => ?_)
    · replace hf := gIfP c1 hf
      refine g_aload_n (pc := 26) Z 0 dX1_load_26 rfl ?_
      refine g_get (pc := 27) (T := TX1) (N := 6) Z 5 0 dX1_load_27 (mm ww58) inx_X1 rfl (by decide) rfl rfl rfl ?_
      refine g_iconst (pc := 30) (v := 0) Z dX1_load_30 (by decide) ?_
      refine g_aload_n (pc := 31) Z 0 dX1_load_31 rfl ?_
      refine g_get (pc := 32) (T := TX1) (N := 6) Z 5 1 dX1_load_32 (mm ww33) inx_X1 rfl (by decide) rfl rfl rfl ?_
      refine g_iconst (pc := 35) (v := 0) Z dX1_load_35 (by decide) ?_
      refine g_sipush (pc := 36) (v := 1024) Z dX1_load_36 (by decide) ?_
      refine g_copyl (pc := 39) (ws' := (wD ad ca vD ++ wC ad ca (vC.1, va_cpy vC.1 vC.2.1 (0 : Int32).toNatClampNeg (0 : Int32).toNatClampNeg (1024 : Int32).toNatClampNeg, vC.2.2.1, vC.2.2.2.1, vC.2.2.2.2.1, vC.2.2.2.2.2))) Z 6 7 0 0 dX1_load_39 (mm ww59) (mm ww22) (mm ww23) (mm ww24) rfl rfl rfl rfl (by decide) (by decide) (by decide) (by decide) (by decide) (Nat.le_of_ble_eq_true rfl) (by decide +kernel) rfl ?_
      obtain rfl := Option.some.inj hf
      exact g_vret Z hr dX1_load_42 (vC.1, va_cpy vC.1 vC.2.1 (0 : Int32).toNatClampNeg (0 : Int32).toNatClampNeg (1024 : Int32).toNatClampNeg, vC.2.2.1, vC.2.2.2.1, vC.2.2.2.2.1, vC.2.2.2.2.2) rfl rfl
    · replace hf := gIfN c1 hf
      refine g_aload_n (pc := 9) Z 0 dX1_load_9 rfl ?_
      refine g_get (pc := 10) (T := TX1) (N := 6) Z 5 0 dX1_load_10 (mm ww58) inx_X1 rfl (by decide) rfl rfl rfl ?_
      refine g_iload_n (pc := 13) Z 2 dX1_load_13 rfl ?_
      refine g_aload_n (pc := 14) Z 1 dX1_load_14 rfl ?_
      refine g_iload_n (pc := 15) Z 2 dX1_load_15 rfl ?_
      obtain ⟨x2, h3, hf⟩ := Option.bind_eq_some_iff.mp hf
      refine g_calll (pc := 16) (ws2 := fun u => (wD ad ca vD ++ wC ad ca vC)) (wr := (wC ad ca vC)) Z [0, 1, 2, 3, 4] [5, 6, 7, 8, 9] [5, 6, 7, 8, 9, 0, 1, 2, 3, 4] (g_runV Z (c_Disk_read l D ad ca vD y2 x2 h3) (cwV 1 Z.2.2.2.2.1 (gg_V ww60 ww61 ww62 ww16 ww63) rfl rfl rfl (yv_of rfl yd_Disk_read) ⟨Nat.le_of_ble_eq_true rfl, Nat.le_of_ble_eq_true rfl⟩) [0, 1, 2, 3, 4] rfl (by decide) 0 rfl rfl rfl rfl rfl (Nat.le_of_ble_eq_true rfl) dX1_load_16 ⟨Nat.le_of_ble_eq_true rfl, Nat.le_of_ble_eq_true rfl⟩) rfl rfl (by decide) (by decide) (by decide) (fun _ => rfl) (fun r u hu => ?_)
      obtain rfl := hu.symm
      obtain ⟨b4, hf⟩ := gGuard hf
      refine g_last (pc := 19) (ws' := (wD ad ca vD ++ wC ad ca (vp_updL vC.1 y2.toNatClampNeg x2, vC.2.1, vC.2.2.1, vC.2.2.2.1, vC.2.2.2.2.1, vC.2.2.2.2.2))) Z 6 0 dX1_load_19 rfl rfl (gI_in b4) rfl ?_
      refine g_iinc (pc := 20) (v := y2 + (1 : Int32)) (lv' := [(2, .int (y2 + (1 : Int32))), (0, .ref (ad 7)), (1, .ref (ad 1))]) Z 2 dX1_load_20 rfl rfl (by decide) rfl ?_
      refine g_goto (pc := 23) (tgt := 2) Z dX1_load_23 (by decide) ?_
      refine g_locals (lv2 := [(0, .ref (ad 7)), (1, .ref (ad 1)), (2, .int (y2 + (1 : Int32)))]) [1, 2, 0] rfl ?_
      exact ih _ _ hf
set_option maxHeartbeats 4000000 in
set_option maxRecDepth 100000 in
theorem c_Chg_load (l : Launch) (D : va_G) (ad : Nat → Nat) (ca : Nat → ClassId) (N : Nat) (vD : DT) (vC : CT) (res : CT) (hf : f_Chg_load N vD vC = some res) (sz : Nat) : Met l yX1_load (cd_Chg_load :: gA) rm_Chg_load (va_Pc [.ref (ad 7), .ref (ad 1)] (gP D cls (tys ca) (wD ad ca vD ++ wC ad ca vC) sz)) (q_Chg_load D ad ca vD res (va_A (wD ad ca vD ++ wC ad ca vC) sz)) 0 0 (va_A (wD ad ca vD ++ wC ad ca vC) sz) := by
  refine g_met (cc := cX1_load) (Qc := q_Chg_load D ad ca vD res) (lv := [(0, .ref (ad 7)), (1, .ref (ad 1))]) (own := RX1) (by decide) rfl rfl (Nat.le_of_ble_eq_true rfl) rfl sz ?_
  intro p e s m args below meth c A Z hr hnm
  unfold f_Chg_load at hf
  refine g_iconst (pc := 0) (v := 0) Z dX1_load_0 (by decide) ?_
  refine g_istore_n (pc := 1) (lv' := [(2, .int (0 : Int32)), (0, .ref (ad 7)), (1, .ref (ad 1))]) Z dX1_load_1 (by decide) rfl ?_
  refine g_locals (lv2 := [(0, .ref (ad 7)), (1, .ref (ad 1)), (2, .int (0 : Int32))]) [1, 2, 0] rfl ?_
  exact w_Chg_load_2 Z hr N _ _ hf
end
section
theorem ww64 : Cond.fieldLink RX3 22 "RedoHeap$Log" "lastNumber" "I" ∈ gA := wt1 77 rfl rfl
/-! RedoHeap$Log.lastNumber()I -/
def f_Log_lastNumber (vL : LT) : Option (Int32) :=
  some vL.2.2
abbrev cd_Log_lastNumber : Cond := .code yX3_lastNumber cX3_lastNumber 1 (some .int)
theorem yd_Log_lastNumber : yX3_lastNumber.cls ≠ "java/lang/invoke/MethodHandle" ∧ yX3_lastNumber.cls ≠ "java/lang/invoke/VarHandle" ∧ (parseMethodDescriptor yX3_lastNumber.desc).map (fun d => d.parameters.length) = some 0 := by decide +kernel
abbrev rm_Log_lastNumber : Room := { frames := 0, cells := 0, slots := 0, locals := 0 }
abbrev q_Log_lastNumber (D : va_G) (ad : Nat → Nat) (ca : Nat → ClassId) (vL : LT) (res : Int32) (A : Nat → Prop) : Array Value → State → Outcome → State → Prop := va_Qi (fun (r : Int32) (_ : Unit) => r = res) (gB D cls (tys ca) A (fun (u : Unit) => (wL ad ca vL))) A
set_option maxHeartbeats 4000000 in
set_option maxRecDepth 100000 in
theorem c_Log_lastNumber (l : Launch) (D : va_G) (ad : Nat → Nat) (ca : Nat → ClassId) (vL : LT) (res : Int32) (hf : f_Log_lastNumber vL = some res) (sz : Nat) : Met l yX3_lastNumber (cd_Log_lastNumber :: gA) rm_Log_lastNumber (va_Pc [.ref (ad 6)] (gP D cls (tys ca) (wL ad ca vL) sz)) (q_Log_lastNumber D ad ca vL res (va_A (wL ad ca vL) sz)) 0 0 (va_A (wL ad ca vL) sz) := by
  refine g_met (cc := cX3_lastNumber) (Qc := q_Log_lastNumber D ad ca vL res) (lv := [(0, .ref (ad 6))]) (own := RX3) (by decide) rfl rfl (Nat.le_of_ble_eq_true rfl) rfl sz ?_
  intro p e s m args below meth c A Z hr hnm
  unfold f_Log_lastNumber at hf
  refine g_aload_n (pc := 0) Z 0 dX3_lastNumber_0 rfl ?_
  refine g_get (pc := 1) (T := TX3) (N := 4) Z 0 3 dX3_lastNumber_1 (mm ww64) inx_X3 rfl (by decide) rfl rfl rfl ?_
  obtain rfl := Option.some.inj hf
  exact g_iret Z hr dX3_lastNumber_4 () rfl rfl
theorem ww65 : Cond.fieldLink RX3 15 "RedoHeap$Log" "used" "I" ∈ gA := wt1 75 rfl rfl
/-! RedoHeap$Log.hasRoomFor(I)Z -/
def f_Log_hasRoomFor (vL : LT) (p1 : Int32) : Option (Bool) :=
  if (160 : Int32) < ((vL.1 + (2 : Int32)) + ((2 : Int32) * p1)) then some false else some true
abbrev cd_Log_hasRoomFor : Cond := .code yX3_hasRoomFor cX3_hasRoomFor 2 (some .boolean)
theorem yd_Log_hasRoomFor : yX3_hasRoomFor.cls ≠ "java/lang/invoke/MethodHandle" ∧ yX3_hasRoomFor.cls ≠ "java/lang/invoke/VarHandle" ∧ (parseMethodDescriptor yX3_hasRoomFor.desc).map (fun d => d.parameters.length) = some 1 := by decide +kernel
abbrev rm_Log_hasRoomFor : Room := { frames := 0, cells := 0, slots := 0, locals := 0 }
abbrev q_Log_hasRoomFor (D : va_G) (ad : Nat → Nat) (ca : Nat → ClassId) (vL : LT) (res : Bool) (A : Nat → Prop) : Array Value → State → Outcome → State → Prop := va_Qi (fun (r : Int32) (_ : Unit) => r = bI res) (gB D cls (tys ca) A (fun (u : Unit) => (wL ad ca vL))) A
set_option maxHeartbeats 4000000 in
set_option maxRecDepth 100000 in
theorem c_Log_hasRoomFor (l : Launch) (D : va_G) (ad : Nat → Nat) (ca : Nat → ClassId) (vL : LT) (p1 : Int32) (res : Bool) (hf : f_Log_hasRoomFor vL p1 = some res) (sz : Nat) : Met l yX3_hasRoomFor (cd_Log_hasRoomFor :: gA) rm_Log_hasRoomFor (va_Pc [.ref (ad 6), .int p1] (gP D cls (tys ca) (wL ad ca vL) sz)) (q_Log_hasRoomFor D ad ca vL res (va_A (wL ad ca vL) sz)) 0 0 (va_A (wL ad ca vL) sz) := by
  refine g_met (cc := cX3_hasRoomFor) (Qc := q_Log_hasRoomFor D ad ca vL res) (lv := [(0, .ref (ad 6)), (1, .int p1)]) (own := RX3) (by decide) rfl rfl (Nat.le_of_ble_eq_true rfl) rfl sz ?_
  intro p e s m args below meth c A Z hr hnm
  unfold f_Log_hasRoomFor at hf
  refine g_aload_n (pc := 0) Z 0 dX3_hasRoomFor_0 rfl ?_
  refine g_get (pc := 1) (T := TX3) (N := 4) Z 0 1 dX3_hasRoomFor_1 (mm ww65) inx_X3 rfl (by decide) rfl rfl rfl ?_
  refine g_iconst (pc := 4) (v := 2) Z dX3_hasRoomFor_4 (by decide) ?_
  refine g_iadd (pc := 5) Z dX3_hasRoomFor_5 ?_
  refine g_iconst (pc := 6) (v := 2) Z dX3_hasRoomFor_6 (by decide) ?_
  refine g_iload_n (pc := 7) Z 1 dX3_hasRoomFor_7 rfl ?_
  refine g_imul (pc := 8) Z dX3_hasRoomFor_8 ?_
  refine g_iadd (pc := 9) Z dX3_hasRoomFor_9 ?_
  refine g_sipush (pc := 10) (v := 160) Z dX3_hasRoomFor_10 (by decide) ?_
  refine g_icmp_gt (pc := 13) (tgt := 20) Z dX3_hasRoomFor_13 (by decide) (fun c1 => ?_) (fun c1 => ?_)
  · replace hf := gIfP c1 hf
    refine g_iconst (pc := 20) (v := 0) Z dX3_hasRoomFor_20 (by decide) ?_
    obtain rfl := Option.some.inj hf
    exact g_zret Z hr rfl dX3_hasRoomFor_21 () rfl rfl
  · replace hf := gIfN c1 hf
    refine g_iconst (pc := 16) (v := 1) Z dX3_hasRoomFor_16 (by decide) ?_
    refine g_goto (pc := 17) (tgt := 21) Z dX3_hasRoomFor_17 (by decide) ?_
    obtain rfl := Option.some.inj hf
    exact g_zret Z hr rfl dX3_hasRoomFor_21 () rfl rfl
/-! RedoHeap$Log.used()I -/
def f_Log_used (vL : LT) : Option (Int32) :=
  some vL.1
abbrev cd_Log_used : Cond := .code yX3_used cX3_used 1 (some .int)
theorem yd_Log_used : yX3_used.cls ≠ "java/lang/invoke/MethodHandle" ∧ yX3_used.cls ≠ "java/lang/invoke/VarHandle" ∧ (parseMethodDescriptor yX3_used.desc).map (fun d => d.parameters.length) = some 0 := by decide +kernel
abbrev rm_Log_used : Room := { frames := 0, cells := 0, slots := 0, locals := 0 }
abbrev q_Log_used (D : va_G) (ad : Nat → Nat) (ca : Nat → ClassId) (vL : LT) (res : Int32) (A : Nat → Prop) : Array Value → State → Outcome → State → Prop := va_Qi (fun (r : Int32) (_ : Unit) => r = res) (gB D cls (tys ca) A (fun (u : Unit) => (wL ad ca vL))) A
set_option maxHeartbeats 4000000 in
set_option maxRecDepth 100000 in
theorem c_Log_used (l : Launch) (D : va_G) (ad : Nat → Nat) (ca : Nat → ClassId) (vL : LT) (res : Int32) (hf : f_Log_used vL = some res) (sz : Nat) : Met l yX3_used (cd_Log_used :: gA) rm_Log_used (va_Pc [.ref (ad 6)] (gP D cls (tys ca) (wL ad ca vL) sz)) (q_Log_used D ad ca vL res (va_A (wL ad ca vL) sz)) 0 0 (va_A (wL ad ca vL) sz) := by
  refine g_met (cc := cX3_used) (Qc := q_Log_used D ad ca vL res) (lv := [(0, .ref (ad 6))]) (own := RX3) (by decide) rfl rfl (Nat.le_of_ble_eq_true rfl) rfl sz ?_
  intro p e s m args below meth c A Z hr hnm
  unfold f_Log_used at hf
  refine g_aload_n (pc := 0) Z 0 dX3_used_0 rfl ?_
  refine g_get (pc := 1) (T := TX3) (N := 4) Z 0 1 dX3_used_1 (mm ww65) inx_X3 rfl (by decide) rfl rfl rfl ?_
  obtain rfl := Option.some.inj hf
  exact g_iret Z hr dX3_used_4 () rfl rfl
theorem ww66 : Jvm.Cond.constantLong RX3 70 (4096) ∈ gA := wt2 185 rfl rfl
theorem ww67 : Cond.fieldLink RX3 9 "RedoHeap$Log" "disk" "LRedoHeap$Disk;" ∈ gA := wt1 74 rfl rfl
theorem ww68 : Cond.methodLink RX3 54 yX2_read ∈ gA := wt2 176 rfl rfl
/-! RedoHeap$Log.front(I)J -/
def f_Log_front (vL : LT) (vD : DT) (p1 : Int32) : Option (Int64) :=
  (f_Disk_read vD (0 : Int32)).bind fun x1 => some (((4096 : Int64) * x1) + p1.toInt64)
abbrev cd_Log_front : Cond := .code yX3_front cX3_front 2 (some .long)
theorem yd_Log_front : yX3_front.cls ≠ "java/lang/invoke/MethodHandle" ∧ yX3_front.cls ≠ "java/lang/invoke/VarHandle" ∧ (parseMethodDescriptor yX3_front.desc).map (fun d => d.parameters.length) = some 1 := by decide +kernel
abbrev rm_Log_front : Room := { frames := 2, cells := 0, slots := 0, locals := 41 }
abbrev q_Log_front (D : va_G) (ad : Nat → Nat) (ca : Nat → ClassId) (vL : LT) (vD : DT) (res : Int64) (A : Nat → Prop) : Array Value → State → Outcome → State → Prop := va_Ql (fun (r : Int64) (_ : Unit) => r = res) (gB D cls (tys ca) A (fun (u : Unit) => (wL ad ca vL ++ wD ad ca vD))) A
set_option maxHeartbeats 4000000 in
set_option maxRecDepth 100000 in
theorem c_Log_front (l : Launch) (D : va_G) (ad : Nat → Nat) (ca : Nat → ClassId) (vL : LT) (vD : DT) (p1 : Int32) (res : Int64) (hf : f_Log_front vL vD p1 = some res) (sz : Nat) : Met l yX3_front (cd_Log_front :: gA) rm_Log_front (va_Pc [.ref (ad 6), .int p1] (gP D cls (tys ca) (wL ad ca vL ++ wD ad ca vD) sz)) (q_Log_front D ad ca vL vD res (va_A (wL ad ca vL ++ wD ad ca vD) sz)) 0 0 (va_A (wL ad ca vL ++ wD ad ca vD) sz) := by
  refine g_met (cc := cX3_front) (Qc := q_Log_front D ad ca vL vD res) (lv := [(0, .ref (ad 6)), (1, .int p1)]) (own := RX3) (by decide) rfl rfl (Nat.le_of_ble_eq_true rfl) rfl sz ?_
  intro p e s m args below meth c A Z hr hnm
  unfold f_Log_front at hf
  refine g_ldc2 (pc := 0) (v := 4096) Z dX3_front_0 (mm ww66) ?_
  refine g_aload_n (pc := 3) Z 0 dX3_front_3 rfl ?_
  refine g_get (pc := 4) (T := TX3) (N := 4) Z 0 0 dX3_front_4 (mm ww67) inx_X3 rfl (by decide) rfl rfl rfl ?_
  refine g_iconst (pc := 7) (v := 0) Z dX3_front_7 (by decide) ?_
  obtain ⟨x1, h2, hf⟩ := Option.bind_eq_some_iff.mp hf
  refine g_calll (pc := 8) (ws2 := fun u => (wL ad ca vL ++ wD ad ca vD)) (wr := (wL ad ca vL)) Z [1, 2, 3, 4, 5] [0] [0, 1, 2, 3, 4, 5] (g_runV Z (c_Disk_read l D ad ca vD (0 : Int32) x1 h2) (cwV 1 Z.2.2.2.2.1 (gg_V ww68 ww61 ww62 ww16 ww63) rfl rfl rfl (yv_of rfl yd_Disk_read) ⟨Nat.le_of_ble_eq_true rfl, Nat.le_of_ble_eq_true rfl⟩) [1, 2, 3, 4, 5] rfl (by decide) 0 rfl rfl rfl rfl rfl (Nat.le_of_ble_eq_true rfl) dX3_front_8 ⟨Nat.le_of_ble_eq_true rfl, Nat.le_of_ble_eq_true rfl⟩) rfl rfl (by decide) (by decide) (by decide) (fun _ => rfl) (fun r u hu => ?_)
  obtain rfl := hu.symm
  refine g_lmul (pc := 11) Z dX3_front_11 ?_
  refine g_iload_n (pc := 12) Z 1 dX3_front_12 rfl ?_
  refine g_i2l (pc := 13) Z dX3_front_13 ?_
  refine g_ladd (pc := 14) Z dX3_front_14 ?_
  obtain rfl := Option.some.inj hf
  exact g_lret Z hr dX3_front_15 () rfl rfl
theorem ww69 : Cond.methodLink RX3 31 yX3_front ∈ gA := wt2 181 rfl rfl
theorem ww70 : Cond.instanceMethod yX3_front ∈ gA := wt2 183 rfl rfl
theorem ww71 : Cond.selects RX3 yX3_front yX3_front ∈ gA := wtS 12 rfl rfl
theorem ww72 : Cond.initialized RX3 ∈ gA := wt1 3 rfl rfl
theorem ww73 : cd_Log_front ∈ gA := wt2 184 rfl rfl
theorem ww74 : Jvm.Cond.constantLong RX3 68 (96) ∈ gA := wt2 186 rfl rfl
/-! RedoHeap$Log.commitSize(I)I -/
def f_Log_commitSize (vL : LT) (vD : DT) (p1 : Int32) : Option (Int32) :=
  (f_Disk_read vD ((16 : Int32) + p1)).bind fun x1 => (f_Log_front vL vD (0 : Int32)).bind fun x3 => if (lg_cmp (x1 - x3) (1 : Int64)) < 0 then some (0 : Int32) else if (lg_cmp (x1 - x3) (96 : Int64)) ≤ 0 then if (160 : Int32) < (p1 + ((2 : Int32) + ((2 : Int32) * ((x1 - x3).toInt32)))) then some (0 : Int32) else (f_Disk_read vD ((((16 : Int32) + p1) + ((2 : Int32) + ((2 : Int32) * ((x1 - x3).toInt32)))) - (1 : Int32))).bind fun x8 => if (lg_cmp x8 (0 : Int64)) < 0 then some ((2 : Int32) + ((2 : Int32) * ((x1 - x3).toInt32))) else some (0 : Int32) else some (0 : Int32)
abbrev cd_Log_commitSize : Cond := .code yX3_commitSize cX3_commitSize 5 (some .int)
theorem yd_Log_commitSize : yX3_commitSize.cls ≠ "java/lang/invoke/MethodHandle" ∧ yX3_commitSize.cls ≠ "java/lang/invoke/VarHandle" ∧ (parseMethodDescriptor yX3_commitSize.desc).map (fun d => d.parameters.length) = some 1 := by decide +kernel
abbrev rm_Log_commitSize : Room := { frames := 3, cells := 0, slots := 0, locals := 62 }
abbrev q_Log_commitSize (D : va_G) (ad : Nat → Nat) (ca : Nat → ClassId) (vL : LT) (vD : DT) (res : Int32) (A : Nat → Prop) : Array Value → State → Outcome → State → Prop := va_Qi (fun (r : Int32) (_ : Unit) => r = res) (gB D cls (tys ca) A (fun (u : Unit) => (wL ad ca vL ++ wD ad ca vD))) A
set_option maxHeartbeats 4000000 in
set_option maxRecDepth 100000 in
theorem c_Log_commitSize (l : Launch) (D : va_G) (ad : Nat → Nat) (ca : Nat → ClassId) (vL : LT) (vD : DT) (p1 : Int32) (res : Int32) (hf : f_Log_commitSize vL vD p1 = some res) (sz : Nat) : Met l yX3_commitSize (cd_Log_commitSize :: gA) rm_Log_commitSize (va_Pc [.ref (ad 6), .int p1] (gP D cls (tys ca) (wL ad ca vL ++ wD ad ca vD) sz)) (q_Log_commitSize D ad ca vL vD res (va_A (wL ad ca vL ++ wD ad ca vD) sz)) 0 0 (va_A (wL ad ca vL ++ wD ad ca vD) sz) := by
  refine g_met (cc := cX3_commitSize) (Qc := q_Log_commitSize D ad ca vL vD res) (lv := [(0, .ref (ad 6)), (1, .int p1)]) (own := RX3) (by decide) rfl rfl (Nat.le_of_ble_eq_true rfl) rfl sz ?_
  intro p e s m args below meth c A Z hr hnm
  unfold f_Log_commitSize at hf
  refine g_aload_n (pc := 0) Z 0 dX3_commitSize_0 rfl ?_
  refine g_get (pc := 1) (T := TX3) (N := 4) Z 0 0 dX3_commitSize_1 (mm ww67) inx_X3 rfl (by decide) rfl rfl rfl ?_
  refine g_bipush (pc := 4) (v := 16) Z dX3_commitSize_4 (by decide) ?_
  refine g_iload_n (pc := 6) Z 1 dX3_commitSize_6 rfl ?_
  refine g_iadd (pc := 7) Z dX3_commitSize_7 ?_
  obtain ⟨x1, h2, hf⟩ := Option.bind_eq_some_iff.mp hf
  refine g_calll (pc := 8) (ws2 := fun u => (wL ad ca vL ++ wD ad ca vD)) (wr := (wL ad ca vL)) Z [1, 2, 3, 4, 5] [0] [0, 1, 2, 3, 4, 5] (g_runV Z (c_Disk_read l D ad ca vD ((16 : Int32) + p1) x1 h2) (cwV 1 Z.2.2.2.2.1 (gg_V ww68 ww61 ww62 ww16 ww63) rfl rfl rfl (yv_of rfl yd_Disk_read) ⟨Nat.le_of_ble_eq_true rfl, Nat.le_of_ble_eq_true rfl⟩) [1, 2, 3, 4, 5] rfl (by decide) 0 rfl rfl rfl rfl rfl (Nat.le_of_ble_eq_true rfl) dX3_commitSize_8 ⟨Nat.le_of_ble_eq_true rfl, Nat.le_of_ble_eq_true rfl⟩) rfl rfl (by decide) (by decide) (by decide) (fun _ => rfl) (fun r u hu => ?_)
  obtain rfl := hu.symm
  refine g_aload_n (pc := 11) Z 0 dX3_commitSize_11 rfl ?_
  refine g_iconst (pc := 12) (v := 0) Z dX3_commitSize_12 (by decide) ?_
  obtain ⟨x3, h4, hf⟩ := Option.bind_eq_some_iff.mp hf
  refine g_calll (pc := 13) (ws2 := fun u => (wL ad ca vL ++ wD ad ca vD)) (wr := ([] : va_W)) Z [0, 1, 2, 3, 4, 5] [] [0, 1, 2, 3, 4, 5] (g_runV Z (c_Log_front l D ad ca vL vD (0 : Int32) x3 h4) (cwV 1 Z.2.2.2.2.1 (gg_V ww69 ww70 ww71 ww72 ww73) rfl rfl rfl (yv_of rfl yd_Log_front) ⟨Nat.le_of_ble_eq_true rfl, Nat.le_of_ble_eq_true rfl⟩) [0, 1, 2, 3, 4, 5] rfl (by decide) 0 rfl rfl rfl rfl rfl (Nat.le_of_ble_eq_true rfl) dX3_commitSize_13 ⟨Nat.le_of_ble_eq_true rfl, Nat.le_of_ble_eq_true rfl⟩) rfl rfl (by decide) (by decide) (by decide) (fun _ => rfl) (fun r u hu => ?_)
  obtain rfl := hu.symm
  refine g_lsub (pc := 16) Z dX3_commitSize_16 ?_
  refine g_lstore_n (pc := 17) (lv' := [(2, .long (x1 - x3)), (0, .ref (ad 6)), (1, .int p1)]) Z dX3_commitSize_17 (by decide) rfl ?_
  refine g_lload_n (pc := 18) Z 0 dX3_commitSize_18 rfl ?_
  refine g_lconst (pc := 19) (v := 1) Z dX3_commitSize_19 (by decide) ?_
  refine g_lcmp (pc := 20) Z dX3_commitSize_20 ?_
  refine g_if_lt (pc := 21) (tgt := 32) Z dX3_commitSize_21 (by decide) (fun c5 => ?_) (fun c5 => ?_)
  · replace hf := gIfP c5 hf
    refine g_iconst (pc := 32) (v := 0) Z dX3_commitSize_32 (by decide) ?_
    obtain rfl := Option.some.inj hf
    exact g_iret Z hr dX3_commitSize_33 () rfl rfl
  · replace hf := gIfN c5 hf
    refine g_lload_n (pc := 24) Z 0 dX3_commitSize_24 rfl ?_
    refine g_ldc2 (pc := 25) (v := 96) Z dX3_commitSize_25 (mm ww74) ?_
    refine g_lcmp (pc := 28) Z dX3_commitSize_28 ?_
    refine g_if_le (pc := 29) (tgt := 34) Z dX3_commitSize_29 (by decide) (fun c6 => ?_) (fun c6 => ?_)
    · replace hf := gIfP c6 hf
      refine g_iconst (pc := 34) (v := 2) Z dX3_commitSize_34 (by decide) ?_
      refine g_iconst (pc := 35) (v := 2) Z dX3_commitSize_35 (by decide) ?_
      refine g_lload_n (pc := 36) Z 0 dX3_commitSize_36 rfl ?_
      refine g_l2i (pc := 37) Z dX3_commitSize_37 ?_
      refine g_imul (pc := 38) Z dX3_commitSize_38 ?_
      refine g_iadd (pc := 39) Z dX3_commitSize_39 ?_
      refine g_istore (pc := 40) (lv' := [(4, .int ((2 : Int32) + ((2 : Int32) * ((x1 - x3).toInt32)))), (2, .long (x1 - x3)), (0, .ref (ad 6)), (1, .int p1)]) Z dX3_commitSize_40 (by decide) rfl ?_
      refine g_iload_n (pc := 42) Z 3 dX3_commitSize_42 rfl ?_
      refine g_iload (pc := 43) Z 0 dX3_commitSize_43 rfl ?_
      refine g_iadd (pc := 45) Z dX3_commitSize_45 ?_
      refine g_sipush (pc := 46) (v := 160) Z dX3_commitSize_46 (by decide) ?_
      refine g_icmp_gt (pc := 49) (tgt := 73) Z dX3_commitSize_49 (by decide) (fun c7 => ?_) (fun c7 => ?_)
      · replace hf := gIfP c7 hf
        refine g_iconst (pc := 73) (v := 0) Z dX3_commitSize_73 (by decide) ?_
        obtain rfl := Option.some.inj hf
        exact g_iret Z hr dX3_commitSize_74 () rfl rfl
      · replace hf := gIfN c7 hf
        refine g_aload_n (pc := 52) Z 2 dX3_commitSize_52 rfl ?_
        refine g_get (pc := 53) (T := TX3) (N := 4) Z 0 0 dX3_commitSize_53 (mm ww67) inx_X3 rfl (by decide) rfl rfl rfl ?_
        refine g_bipush (pc := 56) (v := 16) Z dX3_commitSize_56 (by decide) ?_
        refine g_iload_n (pc := 58) Z 3 dX3_commitSize_58 rfl ?_
        refine g_iadd (pc := 59) Z dX3_commitSize_59 ?_
        refine g_iload (pc := 60) Z 0 dX3_commitSize_60 rfl ?_
        refine g_iadd (pc := 62) Z dX3_commitSize_62 ?_
        refine g_iconst (pc := 63) (v := 1) Z dX3_commitSize_63 (by decide) ?_
        refine g_isub (pc := 64) Z dX3_commitSize_64 ?_
        obtain ⟨x8, h9, hf⟩ := Option.bind_eq_some_iff.mp hf
        refine g_calll (pc := 65) (ws2 := fun u => (wL ad ca vL ++ wD ad ca vD)) (wr := (wL ad ca vL)) Z [1, 2, 3, 4, 5] [0] [0, 1, 2, 3, 4, 5] (g_runV Z (c_Disk_read l D ad ca vD ((((16 : Int32) + p1) + ((2 : Int32) + ((2 : Int32) * ((x1 - x3).toInt32)))) - (1 : Int32)) x8 h9) (cwV 1 Z.2.2.2.2.1 (gg_V ww68 ww61 ww62 ww16 ww63) rfl rfl rfl (yv_of rfl yd_Disk_read) ⟨Nat.le_of_ble_eq_true rfl, Nat.le_of_ble_eq_true rfl⟩) [1, 2, 3, 4, 5] rfl (by decide) 0 rfl rfl rfl rfl rfl (Nat.le_of_ble_eq_true rfl) dX3_commitSize_65 ⟨Nat.le_of_ble_eq_true rfl, Nat.le_of_ble_eq_true rfl⟩) rfl rfl (by decide) (by decide) (by decide) (fun _ => rfl) (fun r u hu => ?_)
        obtain rfl := hu.symm
        refine g_lconst (pc := 68) (v := 0) Z dX3_commitSize_68 (by decide) ?_
        refine g_lcmp (pc := 69) Z dX3_commitSize_69 ?_
        refine g_if_lt (pc := 70) (tgt := 75) Z dX3_commitSize_70 (by decide) (fun c10 => ?_) (fun c10 => ?_)
        · replace hf := gIfP c10 hf
          refine g_iload (pc := 75) Z 0 dX3_commitSize_75 rfl ?_
          obtain rfl := Option.some.inj hf
          exact g_iret Z hr dX3_commitSize_77 () rfl rfl
        · replace hf := gIfN c10 hf
          refine g_iconst (pc := 73) (v := 0) Z dX3_commitSize_73 (by decide) ?_
          obtain rfl := Option.some.inj hf
          exact g_iret Z hr dX3_commitSize_74 () rfl rfl
    · replace hf := gIfN c6 hf
      refine g_iconst (pc := 32) (v := 0) Z dX3_commitSize_32 (by decide) ?_
      obtain rfl := Option.some.inj hf
      exact g_iret Z hr dX3_commitSize_33 () rfl rfl
theorem ww75 : Cond.methodLink RX3 60 yX3_commitSize ∈ gA := wt2 172 rfl rfl
theorem ww76 : Cond.instanceMethod yX3_commitSize ∈ gA := wt2 174 rfl rfl
theorem ww77 : Cond.selects RX3 yX3_commitSize yX3_commitSize ∈ gA := wtS 11 rfl rfl
theorem ww78 : cd_Log_commitSize ∈ gA := wt2 175 rfl rfl
theorem ww79 : Cond.methodLink RX3 35 yX2_write ∈ gA := wt2 187 rfl rfl
theorem ww80 : Cond.instanceMethod yX2_write ∈ gA := wt2 188 rfl rfl
theorem ww81 : Cond.selects RX2 yX2_write yX2_write ∈ gA := wt2 189 rfl rfl
theorem ww82 : cd_Disk_write ∈ gA := wt2 190 rfl rfl
/-! RedoHeap$Log.writePlaces()Z -/
def f_Log_writePlaces_26 (N : Nat) (vL : LT) (K : DT → Int32 → Option (Bool × DT)) : Nat → DT → Int32 → Int32 → Int32 → Option (Bool × DT)
  | 0, _, _, _, _ => none
  | n + 1, vD, y1, y2, y3 => if ((y2 + y1) - (1 : Int32)) ≤ y3 then K vD (y2 + y1) else (f_Disk_read vD ((16 : Int32) + y3)).bind fun x2 => (f_Disk_read vD (((16 : Int32) + y3) + (1 : Int32))).bind fun x4 => (f_Disk_write N vD x2.toInt32 x4).bind fun x6 => if x6.1 = true then f_Log_writePlaces_26 N vL K n x6.2 y1 y2 (y3 + (2 : Int32)) else some (false, x6.2)
def f_Log_writePlaces_2 (N : Nat) (vL : LT) : Nat → DT → Int32 → Option (Bool × DT)
  | 0, _, _ => none
  | n + 1, vD, y2 => if vL.1 ≤ y2 then some (true, vD) else (f_Log_commitSize vL vD y2).bind fun x10 => if x10 = 0 then some (true, vD) else f_Log_writePlaces_26 N vL (fun z0 z1 => f_Log_writePlaces_2 N vL n z0 z1) N vD x10 y2 (y2 + (1 : Int32))
def f_Log_writePlaces (N : Nat) (vL : LT) (vD : DT) : Option (Bool × DT) :=
  f_Log_writePlaces_2 N vL N vD (0 : Int32)
abbrev cd_Log_writePlaces : Cond := .code yX3_writePlaces cX3_writePlaces 5 (some .boolean)
theorem yd_Log_writePlaces : yX3_writePlaces.cls ≠ "java/lang/invoke/MethodHandle" ∧ yX3_writePlaces.cls ≠ "java/lang/invoke/VarHandle" ∧ (parseMethodDescriptor yX3_writePlaces.desc).map (fun d => d.parameters.length) = some 0 := by decide +kernel
abbrev rm_Log_writePlaces : Room := { frames := 4, cells := 0, slots := 0, locals := 105 }
abbrev q_Log_writePlaces (D : va_G) (ad : Nat → Nat) (ca : Nat → ClassId) (vL : LT) (res : Bool × DT) (A : Nat → Prop) : Array Value → State → Outcome → State → Prop := va_Qi (fun (r : Int32) (u : DT) => r = bI res.1 ∧ u = res.2) (gB D cls (tys ca) A (fun (u : DT) => (wL ad ca vL ++ wD ad ca u))) A
set_option maxHeartbeats 4000000 in
set_option maxRecDepth 100000 in
theorem w_Log_writePlaces_26 {p : Program} {l : Launch} {e : Env} {s : State} {m : MethodId} {args : Array Value} {below : List Frame} {meth : Method} {c : Code} {D : va_G} {ad : Nat → Nat} {ca : Nat → ClassId} {A : Nat → Prop} {N : Nat} {vL : LT} {K : DT → Int32 → Option (Bool × DT)} {res : Bool × DT} (Z : gZ p s m args meth c cX3_writePlaces 5 RX3 (cd_Log_writePlaces :: gA) A D cls (tys ca)) (hr : meth.sig.returnType = (some .boolean)) (hK : ∀ (vD : DT) (y2 : Int32), K vD y2 = some res → gW p l e rm_Log_writePlaces s m args below meth c 5 A D cls 0 0 (MQ below (q_Log_writePlaces D ad ca vL res A) args s 0 0 A) (wL ad ca vL ++ wD ad ca vD) [(0, .ref (ad 6)), (2, .int y2)] 2 []) : ∀ (n : Nat) (vD : DT) (y1 : Int32) (y2 : Int32) (y3 : Int32), f_Log_writePlaces_26 N vL K n vD y1 y2 y3 = some res → gW p l e rm_Log_writePlaces s m args below meth c 5 A D cls 0 0 (MQ below (q_Log_writePlaces D ad ca vL res A) args s 0 0 A) (wL ad ca vL ++ wD ad ca vD) [(0, .ref (ad 6)), (1, .int y1), (2, .int y2), (3, .int y3)] 26 [] := by
  intro n
  induction n with
  | zero =>
    intro vD y1 y2 y3 hf
    exact absurd hf (by rw [f_Log_writePlaces_26]; exact fun h => by cases h)
  | succ n ih =>
    intro vD y1 y2 y3 hf
    rw [f_Log_writePlaces_26] at hf
    refine g_iload_n (pc := 26) Z 3 dX3_writePlaces_26 rfl ?_
    refine g_iload_n (pc := 27) Z 2 dX3_writePlaces_27 rfl ?_
    refine g_iload_n (pc := 28) Z 1 dX3_writePlaces_28 rfl ?_
    refine g_iadd (pc := 29) Z dX3_writePlaces_29 ?_
    refine g_iconst (pc := 30) (v := 1) Z dX3_writePlaces_30 (by decide) ?_
    refine g_isub (pc := 31) Z dX3_writePlaces_31 ?_
    refine g_icmp_ge (pc := 32) (tgt := 82) Z dX3_writePlaces_32 (by decide) (fun c1 => ?_) (fun c1 => ?_)
    · replace hf := gIfP c1 hf
      refine g_iload_n (pc := 82) Z 2 dX3_writePlaces_82 rfl ?_
      refine g_iload_n (pc := 83) Z 1 dX3_writePlaces_83 rfl ?_
      refine g_iadd (pc := 84) Z dX3_writePlaces_84 ?_
      refine g_istore_n (pc := 85) (lv' := [(2, .int (y2 + y1)), (0, .ref (ad 6)), (1, .int y1), (3, .int y3)]) Z dX3_writePlaces_85 (by decide) rfl ?_
      refine g_goto (pc := 86) (tgt := 2) Z dX3_writePlaces_86 (by decide) ?_
      refine g_locals (lv2 := [(0, .ref (ad 6)), (2, .int (y2 + y1))]) [1, 0] rfl ?_
      exact hK _ _ hf
    · replace hf := gIfN c1 hf
      refine g_aload_n (pc := 35) Z 0 dX3_writePlaces_35 rfl ?_
      refine g_get (pc := 36) (T := TX3) (N := 4) Z 0 0 dX3_writePlaces_36 (mm ww67) inx_X3 rfl (by decide) rfl rfl rfl ?_
      refine g_bipush (pc := 39) (v := 16) Z dX3_writePlaces_39 (by decide) ?_
      refine g_iload_n (pc := 41) Z 3 dX3_writePlaces_41 rfl ?_
      refine g_iadd (pc := 42) Z dX3_writePlaces_42 ?_
      obtain ⟨x2, h3, hf⟩ := Option.bind_eq_some_iff.mp hf
      refine g_calll (pc := 43) (ws2 := fun u => (wL ad ca vL ++ wD ad ca vD)) (wr := (wL ad ca vL)) Z [1, 2, 3, 4, 5] [0] [0, 1, 2, 3, 4, 5] (g_runV Z (c_Disk_read l D ad ca vD ((16 : Int32) + y3) x2 h3) (cwV 1 Z.2.2.2.2.1 (gg_V ww68 ww61 ww62 ww16 ww63) rfl rfl rfl (yv_of rfl yd_Disk_read) ⟨Nat.le_of_ble_eq_true rfl, Nat.le_of_ble_eq_true rfl⟩) [1, 2, 3, 4, 5] rfl (by decide) 0 rfl rfl rfl rfl rfl (Nat.le_of_ble_eq_true rfl) dX3_writePlaces_43 ⟨Nat.le_of_ble_eq_true rfl, Nat.le_of_ble_eq_true rfl⟩) rfl rfl (by decide) (by decide) (by decide) (fun _ => rfl) (fun r u hu => ?_)
      obtain rfl := hu.symm
      refine g_l2i (pc := 46) Z dX3_writePlaces_46 ?_
      refine g_istore (pc := 47) (lv' := [(4, .int x2.toInt32), (0, .ref (ad 6)), (1, .int y1), (2, .int y2), (3, .int y3)]) Z dX3_writePlaces_47 (by decide) rfl ?_
      refine g_aload_n (pc := 49) Z 1 dX3_writePlaces_49 rfl ?_
      refine g_get (pc := 50) (T := TX3) (N := 4) Z 0 0 dX3_writePlaces_50 (mm ww67) inx_X3 rfl (by decide) rfl rfl rfl ?_
      refine g_iload (pc := 53) Z 0 dX3_writePlaces_53 rfl ?_
      refine g_aload_n (pc := 55) Z 1 dX3_writePlaces_55 rfl ?_
      refine g_get (pc := 56) (T := TX3) (N := 4) Z 0 0 dX3_writePlaces_56 (mm ww67) inx_X3 rfl (by decide) rfl rfl rfl ?_
      refine g_bipush (pc := 59) (v := 16) Z dX3_writePlaces_59 (by decide) ?_
      refine g_iload_n (pc := 61) Z 4 dX3_writePlaces_61 rfl ?_
      refine g_iadd (pc := 62) Z dX3_writePlaces_62 ?_
      refine g_iconst (pc := 63) (v := 1) Z dX3_writePlaces_63 (by decide) ?_
      refine g_iadd (pc := 64) Z dX3_writePlaces_64 ?_
      obtain ⟨x4, h5, hf⟩ := Option.bind_eq_some_iff.mp hf
      refine g_calll (pc := 65) (ws2 := fun u => (wL ad ca vL ++ wD ad ca vD)) (wr := (wL ad ca vL)) Z [1, 2, 3, 4, 5] [0] [0, 1, 2, 3, 4, 5] (g_runV Z (c_Disk_read l D ad ca vD (((16 : Int32) + y3) + (1 : Int32)) x4 h5) (cwV 1 Z.2.2.2.2.1 (gg_V ww68 ww61 ww62 ww16 ww63) rfl rfl rfl (yv_of rfl yd_Disk_read) ⟨Nat.le_of_ble_eq_true rfl, Nat.le_of_ble_eq_true rfl⟩) [1, 2, 3, 4, 5] rfl (by decide) 0 rfl rfl rfl rfl rfl (Nat.le_of_ble_eq_true rfl) dX3_writePlaces_65 ⟨Nat.le_of_ble_eq_true rfl, Nat.le_of_ble_eq_true rfl⟩) rfl rfl (by decide) (by decide) (by decide) (fun _ => rfl) (fun r u hu => ?_)
      obtain rfl := hu.symm
      obtain ⟨x6, h7, hf⟩ := Option.bind_eq_some_iff.mp hf
      refine g_calli (pc := 68) (ws2 := fun u => (wL ad ca vL ++ wD ad ca u)) (wr := (wL ad ca vL)) Z [1, 2, 3, 4, 5] [0] [0, 1, 2, 3, 4, 5] (g_runV Z (c_Disk_write l D ad ca N vD x2.toInt32 x4 x6 h7) (cwV 2 Z.2.2.2.2.1 (gg_V ww79 ww80 ww81 ww16 ww82) rfl rfl rfl (yv_of rfl yd_Disk_write) ⟨Nat.le_of_ble_eq_true rfl, Nat.le_of_ble_eq_true rfl⟩) [1, 2, 3, 4, 5] rfl (by decide) 0 rfl rfl rfl rfl rfl (Nat.le_of_ble_eq_true rfl) dX3_writePlaces_68 ⟨Nat.le_of_ble_eq_true rfl, Nat.le_of_ble_eq_true rfl⟩) rfl rfl (by decide) (by decide) (by decide) (fun _ => rfl) (fun r u hu => ?_)
      obtain ⟨rfl, rfl⟩ := hu
      refine g_if_ne (pc := 71) (tgt := 76) Z dX3_writePlaces_71 (by decide) (fun c8 => ?_) (fun c8 => ?_)
      · replace hf := gIfP (bI_nz c8) hf
        refine g_iinc (pc := 76) (v := y3 + (2 : Int32)) (lv' := [(3, .int (y3 + (2 : Int32))), (4, .int x2.toInt32), (0, .ref (ad 6)), (1, .int y1), (2, .int y2)]) Z 4 dX3_writePlaces_76 rfl rfl (by decide) rfl ?_
        refine g_goto (pc := 79) (tgt := 26) Z dX3_writePlaces_79 (by decide) ?_
        refine g_locals (lv2 := [(0, .ref (ad 6)), (1, .int y1), (2, .int y2), (3, .int (y3 + (2 : Int32)))]) [2, 3, 4, 0] rfl ?_
        exact ih _ _ _ _ hf
      · replace hf := gIfN (bI_z c8) hf
        refine g_iconst (pc := 74) (v := 0) Z dX3_writePlaces_74 (by decide) ?_
        obtain rfl := Option.some.inj hf
        exact g_zret Z hr rfl dX3_writePlaces_75 x6.2 ⟨rfl, rfl⟩ rfl
set_option maxHeartbeats 4000000 in
set_option maxRecDepth 100000 in
theorem w_Log_writePlaces_2 {p : Program} {l : Launch} {e : Env} {s : State} {m : MethodId} {args : Array Value} {below : List Frame} {meth : Method} {c : Code} {D : va_G} {ad : Nat → Nat} {ca : Nat → ClassId} {A : Nat → Prop} {N : Nat} {vL : LT} {res : Bool × DT} (Z : gZ p s m args meth c cX3_writePlaces 5 RX3 (cd_Log_writePlaces :: gA) A D cls (tys ca)) (hr : meth.sig.returnType = (some .boolean)) : ∀ (n : Nat) (vD : DT) (y2 : Int32), f_Log_writePlaces_2 N vL n vD y2 = some res → gW p l e rm_Log_writePlaces s m args below meth c 5 A D cls 0 0 (MQ below (q_Log_writePlaces D ad ca vL res A) args s 0 0 A) (wL ad ca vL ++ wD ad ca vD) [(0, .ref (ad 6)), (2, .int y2)] 2 [] := by
  intro n
  induction n with
  | zero =>
    intro vD y2 hf
    exact absurd hf (by rw [f_Log_writePlaces_2]; exact fun h => by cases h)
  | succ n ih =>
    intro vD y2 hf
    rw [f_Log_writePlaces_2] at hf
    refine g_iload_n (pc := 2) Z 1 dX3_writePlaces_2 rfl ?_
    refine g_aload_n (pc := 3) Z 0 dX3_writePlaces_3 rfl ?_
    refine g_get (pc := 4) (T := TX3) (N := 4) Z 0 1 dX3_writePlaces_4 (mm ww65) inx_X3 rfl (by decide) rfl rfl rfl ?_
    refine g_icmp_ge (pc := 7) (tgt := 89) Z dX3_writePlaces_7 (by decide) (fun c9 => ?_) (fun c9 => ?_)
    · replace hf := gIfP c9 hf
      refine g_iconst (pc := 89) (v := 1) Z dX3_writePlaces_89 (by decide) ?_
      obtain rfl := Option.some.inj hf
      exact g_zret Z hr rfl dX3_writePlaces_90 vD ⟨rfl, rfl⟩ rfl
    · replace hf := gIfN c9 hf
      refine g_aload_n (pc := 10) Z 0 dX3_writePlaces_10 rfl ?_
      refine g_iload_n (pc := 11) Z 1 dX3_writePlaces_11 rfl ?_
      obtain ⟨x10, h11, hf⟩ := Option.bind_eq_some_iff.mp hf
      refine g_calli (pc := 12) (ws2 := fun u => (wL ad ca vL ++ wD ad ca vD)) (wr := ([] : va_W)) Z [0, 1, 2, 3, 4, 5] [] [0, 1, 2, 3, 4, 5] (g_runV Z (c_Log_commitSize l D ad ca vL vD y2 x10 h11) (cwV 1 Z.2.2.2.2.1 (gg_V ww75 ww76 ww77 ww72 ww78) rfl rfl rfl (yv_of rfl yd_Log_commitSize) ⟨Nat.le_of_ble_eq_true rfl, Nat.le_of_ble_eq_true rfl⟩) [0, 1, 2, 3, 4, 5] rfl (by decide) 0 rfl rfl rfl rfl rfl (Nat.le_of_ble_eq_true rfl) dX3_writePlaces_12 ⟨Nat.le_of_ble_eq_true rfl, Nat.le_of_ble_eq_true rfl⟩) rfl rfl (by decide) (by decide) (by decide) (fun _ => rfl) (fun r u hu => ?_)
      obtain rfl := hu.symm
      refine g_istore_n (pc := 15) (lv' := [(1, .int x10), (0, .ref (ad 6)), (2, .int y2)]) Z dX3_writePlaces_15 (by decide) rfl ?_
      refine g_iload_n (pc := 16) Z 0 dX3_writePlaces_16 rfl ?_
      refine g_if_ne (pc := 17) (tgt := 22) Z dX3_writePlaces_17 (by decide) (fun c12 => ?_) (fun c12 => ?_)
      · replace hf := gIfN c12 hf
        refine g_iload_n (pc := 22) Z 2 dX3_writePlaces_22 rfl ?_
        refine g_iconst (pc := 23) (v := 1) Z dX3_writePlaces_23 (by decide) ?_
        refine g_iadd (pc := 24) Z dX3_writePlaces_24 ?_
        refine g_istore_n (pc := 25) (lv' := [(3, .int (y2 + (1 : Int32))), (1, .int x10), (0, .ref (ad 6)), (2, .int y2)]) Z dX3_writePlaces_25 (by decide) rfl ?_
        refine g_locals (lv2 := [(0, .ref (ad 6)), (1, .int x10), (2, .int y2), (3, .int (y2 + (1 : Int32)))]) [2, 1, 3, 0] rfl ?_
        exact w_Log_writePlaces_26 Z hr (fun z0 z1 hf => ih z0 z1 hf) N _ _ _ _ hf
      · replace hf := gIfP c12 hf
        refine g_iconst (pc := 20) (v := 1) Z dX3_writePlaces_20 (by decide) ?_
        obtain rfl := Option.some.inj hf
        exact g_zret Z hr rfl dX3_writePlaces_21 vD ⟨rfl, rfl⟩ rfl
set_option maxHeartbeats 4000000 in
set_option maxRecDepth 100000 in
theorem c_Log_writePlaces (l : Launch) (D : va_G) (ad : Nat → Nat) (ca : Nat → ClassId) (N : Nat) (vL : LT) (vD : DT) (res : Bool × DT) (hf : f_Log_writePlaces N vL vD = some res) (sz : Nat) : Met l yX3_writePlaces (cd_Log_writePlaces :: gA) rm_Log_writePlaces (va_Pc [.ref (ad 6)] (gP D cls (tys ca) (wL ad ca vL ++ wD ad ca vD) sz)) (q_Log_writePlaces D ad ca vL res (va_A (wL ad ca vL ++ wD ad ca vD) sz)) 0 0 (va_A (wL ad ca vL ++ wD ad ca vD) sz) := by
  refine g_met (cc := cX3_writePlaces) (Qc := q_Log_writePlaces D ad ca vL res) (lv := [(0, .ref (ad 6))]) (own := RX3) (by decide) rfl rfl (Nat.le_of_ble_eq_true rfl) rfl sz ?_
  intro p e s m args below meth c A Z hr hnm
  unfold f_Log_writePlaces at hf
  refine g_iconst (pc := 0) (v := 0) Z dX3_writePlaces_0 (by decide) ?_
  refine g_istore_n (pc := 1) (lv' := [(2, .int (0 : Int32)), (0, .ref (ad 6))]) Z dX3_writePlaces_1 (by decide) rfl ?_
  refine g_locals (lv2 := [(0, .ref (ad 6)), (2, .int (0 : Int32))]) [1, 0] rfl ?_
  exact w_Log_writePlaces_2 Z hr N _ _ hf
theorem ww83 : Cond.methodLink RX3 50 yX3_writePlaces ∈ gA := wt2 168 rfl rfl
theorem ww84 : Cond.instanceMethod yX3_writePlaces ∈ gA := wt2 170 rfl rfl
theorem ww85 : Cond.selects RX3 yX3_writePlaces yX3_writePlaces ∈ gA := wtS 10 rfl rfl
theorem ww86 : cd_Log_writePlaces ∈ gA := wt2 171 rfl rfl
theorem ww87 : Cond.methodLink RX3 47 yX2_settleAll ∈ gA := wt2 205 rfl rfl
theorem ww88 : Cond.instanceMethod yX2_settleAll ∈ gA := wt2 206 rfl rfl
theorem ww89 : Cond.selects RX2 yX2_settleAll yX2_settleAll ∈ gA := wt2 207 rfl rfl
theorem ww90 : cd_Disk_settleAll ∈ gA := wt2 208 rfl rfl
theorem ww91 : Cond.fieldLink RX3 19 "RedoHeap$Log" "commits" "I" ∈ gA := wt1 76 rfl rfl
/-! RedoHeap$Log.carryOut(I)Z -/
def f_Log_carryOut_40 (N : Nat) : Nat → LT → DT → Int32 → Int32 → Option (Bool × LT × DT)
  | 0, _, _, _, _ => none
  | n + 1, vL, vD, y1, y2 => if y1 ≤ y2 then (f_Disk_read vD (0 : Int32)).bind fun x2 => (f_Disk_write N vD (0 : Int32) (x2 + (1 : Int64))).bind fun x4 => if x4.1 = true then (f_Disk_settleAll N x4.2).bind fun x7 => some (true, ((0 : Int32), (0 : Int32), vL.2.2), x7) else some (false, vL, x4.2) else (f_Disk_write N vD ((16 : Int32) + y2) (0 : Int64)).bind fun x9 => if x9.1 = true then f_Log_carryOut_40 N n vL x9.2 y1 (y2 + (1 : Int32)) else some (false, vL, x9.2)
def f_Log_carryOut (N : Nat) (vL : LT) (vD : DT) (p1 : Int32) : Option (Bool × LT × DT) :=
  if p1 = 0 then some (true, vL, vD) else (f_Log_writePlaces N vL vD).bind fun x13 => if x13.1 = true then (f_Disk_write N x13.2 (2 : Int32) vL.2.2.toInt64).bind fun x16 => if x16.1 = true then (f_Disk_settleAll N x16.2).bind fun x19 => f_Log_carryOut_40 N N vL x19 p1 (0 : Int32) else some (false, vL, x16.2) else some (false, vL, x13.2)
abbrev cd_Log_carryOut : Cond := .code yX3_carryOut cX3_carryOut 3 (some .boolean)
theorem yd_Log_carryOut : yX3_carryOut.cls ≠ "java/lang/invoke/MethodHandle" ∧ yX3_carryOut.cls ≠ "java/lang/invoke/VarHandle" ∧ (parseMethodDescriptor yX3_carryOut.desc).map (fun d => d.parameters.length) = some 1 := by decide +kernel
abbrev rm_Log_carryOut : Room := { frames := 5, cells := 0, slots := 0, locals := 129 }
abbrev q_Log_carryOut (D : va_G) (ad : Nat → Nat) (ca : Nat → ClassId) (res : Bool × LT × DT) (A : Nat → Prop) : Array Value → State → Outcome → State → Prop := va_Qi (fun (r : Int32) (u : LT × DT) => r = bI res.1 ∧ u = res.2) (gB D cls (tys ca) A (fun (u : LT × DT) => (wL ad ca u.1 ++ wD ad ca u.2))) A
set_option maxHeartbeats 4000000 in
set_option maxRecDepth 100000 in
theorem w_Log_carryOut_40 {p : Program} {l : Launch} {e : Env} {s : State} {m : MethodId} {args : Array Value} {below : List Frame} {meth : Method} {c : Code} {D : va_G} {ad : Nat → Nat} {ca : Nat → ClassId} {A : Nat → Prop} {N : Nat} {res : Bool × LT × DT} (Z : gZ p s m args meth c cX3_carryOut 3 RX3 (cd_Log_carryOut :: gA) A D cls (tys ca)) (hr : meth.sig.returnType = (some .boolean)) : ∀ (n : Nat) (vL : LT) (vD : DT) (y1 : Int32) (y2 : Int32), f_Log_carryOut_40 N n vL vD y1 y2 = some res → gW p l e rm_Log_carryOut s m args below meth c 3 A D cls 0 0 (MQ below (q_Log_carryOut D ad ca res A) args s 0 0 A) (wL ad ca vL ++ wD ad ca vD) [(0, .ref (ad 6)), (1, .int y1), (2, .int y2)] 40 [] := by
  intro n
  induction n with
  | zero =>
    intro vL vD y1 y2 hf
    exact absurd hf (by rw [f_Log_carryOut_40]; exact fun h => by cases h)
  | succ n ih =>
    intro vL vD y1 y2 hf
    rw [f_Log_carryOut_40] at hf
    refine g_iload_n (pc := 40) Z 2 dX3_carryOut_40 rfl ?_
    refine g_iload_n (pc := 41) Z 1 dX3_carryOut_41 rfl ?_
    refine g_icmp_ge (pc := 42) (tgt := 68) Z dX3_carryOut_42 (by decide) (fun c1 => ?_) (fun c1 => ?_)
    · replace hf := gIfP c1 hf
      refine g_aload_n (pc := 68) Z 0 dX3_carryOut_68 rfl ?_
      refine g_get (pc := 69) (T := TX3) (N := 4) Z 0 0 dX3_carryOut_69 (mm ww67) inx_X3 rfl (by decide) rfl rfl rfl ?_
      refine g_iconst (pc := 72) (v := 0) Z dX3_carryOut_72 (by decide) ?_
      refine g_aload_n (pc := 73) Z 0 dX3_carryOut_73 rfl ?_
      refine g_get (pc := 74) (T := TX3) (N := 4) Z 0 0 dX3_carryOut_74 (mm ww67) inx_X3 rfl (by decide) rfl rfl rfl ?_
      refine g_iconst (pc := 77) (v := 0) Z dX3_carryOut_77 (by decide) ?_
      obtain ⟨x2, h3, hf⟩ := Option.bind_eq_some_iff.mp hf
      refine g_calll (pc := 78) (ws2 := fun u => (wL ad ca vL ++ wD ad ca vD)) (wr := (wL ad ca vL)) Z [1, 2, 3, 4, 5] [0] [0, 1, 2, 3, 4, 5] (g_runV Z (c_Disk_read l D ad ca vD (0 : Int32) x2 h3) (cwV 1 Z.2.2.2.2.1 (gg_V ww68 ww61 ww62 ww16 ww63) rfl rfl rfl (yv_of rfl yd_Disk_read) ⟨Nat.le_of_ble_eq_true rfl, Nat.le_of_ble_eq_true rfl⟩) [1, 2, 3, 4, 5] rfl (by decide) 0 rfl rfl rfl rfl rfl (Nat.le_of_ble_eq_true rfl) dX3_carryOut_78 ⟨Nat.le_of_ble_eq_true rfl, Nat.le_of_ble_eq_true rfl⟩) rfl rfl (by decide) (by decide) (by decide) (fun _ => rfl) (fun r u hu => ?_)
      obtain rfl := hu.symm
      refine g_lconst (pc := 81) (v := 1) Z dX3_carryOut_81 (by decide) ?_
      refine g_ladd (pc := 82) Z dX3_carryOut_82 ?_
      obtain ⟨x4, h5, hf⟩ := Option.bind_eq_some_iff.mp hf
      refine g_calli (pc := 83) (ws2 := fun u => (wL ad ca vL ++ wD ad ca u)) (wr := (wL ad ca vL)) Z [1, 2, 3, 4, 5] [0] [0, 1, 2, 3, 4, 5] (g_runV Z (c_Disk_write l D ad ca N vD (0 : Int32) (x2 + (1 : Int64)) x4 h5) (cwV 2 Z.2.2.2.2.1 (gg_V ww79 ww80 ww81 ww16 ww82) rfl rfl rfl (yv_of rfl yd_Disk_write) ⟨Nat.le_of_ble_eq_true rfl, Nat.le_of_ble_eq_true rfl⟩) [1, 2, 3, 4, 5] rfl (by decide) 0 rfl rfl rfl rfl rfl (Nat.le_of_ble_eq_true rfl) dX3_carryOut_83 ⟨Nat.le_of_ble_eq_true rfl, Nat.le_of_ble_eq_true rfl⟩) rfl rfl (by decide) (by decide) (by decide) (fun _ => rfl) (fun r u hu => ?_)
      obtain ⟨rfl, rfl⟩ := hu
      refine g_if_ne (pc := 86) (tgt := 91) Z dX3_carryOut_86 (by decide) (fun c6 => ?_) (fun c6 => ?_)
      · replace hf := gIfP (bI_nz c6) hf
        refine g_aload_n (pc := 91) Z 0 dX3_carryOut_91 rfl ?_
        refine g_get (pc := 92) (T := TX3) (N := 4) Z 0 0 dX3_carryOut_92 (mm ww67) inx_X3 rfl (by decide) rfl rfl rfl ?_
        obtain ⟨x7, h8, hf⟩ := Option.bind_eq_some_iff.mp hf
        refine g_callv (pc := 95) (ws2 := fun u => (wL ad ca vL ++ wD ad ca u)) (wr := (wL ad ca vL)) Z [1, 2, 3, 4, 5] [0] [0, 1, 2, 3, 4, 5] (g_runV Z (c_Disk_settleAll l D ad ca N x4.2 x7 h8) (cwV 0 Z.2.2.2.2.1 (gg_V ww87 ww88 ww89 ww16 ww90) rfl rfl rfl (yv_of rfl yd_Disk_settleAll) ⟨Nat.le_of_ble_eq_true rfl, Nat.le_of_ble_eq_true rfl⟩) [1, 2, 3, 4, 5] rfl (by decide) 0 rfl rfl rfl rfl rfl (Nat.le_of_ble_eq_true rfl) dX3_carryOut_95 ⟨Nat.le_of_ble_eq_true rfl, Nat.le_of_ble_eq_true rfl⟩) rfl rfl (by decide) (by decide) (by decide) (fun _ => rfl) (fun u hu => ?_)
        obtain rfl := hu.symm
        refine g_aload_n (pc := 98) Z 0 dX3_carryOut_98 rfl ?_
        refine g_iconst (pc := 99) (v := 0) Z dX3_carryOut_99 (by decide) ?_
        refine g_put (pc := 100) (T := TX3) (N := 4) (ws' := (wL ad ca ((0 : Int32), vL.2.1, vL.2.2) ++ wD ad ca x7)) Z 0 1 dX3_carryOut_100 (mm ww65) inx_X3 tyX3_ok nmX3 rfl (by decide) rfl rfl rfl rfl rfl rfl (Nat.le_of_ble_eq_true rfl) rfl ?_
        refine g_aload_n (pc := 103) Z 0 dX3_carryOut_103 rfl ?_
        refine g_iconst (pc := 104) (v := 0) Z dX3_carryOut_104 (by decide) ?_
        refine g_put (pc := 105) (T := TX3) (N := 4) (ws' := (wL ad ca ((0 : Int32), (0 : Int32), vL.2.2) ++ wD ad ca x7)) Z 0 2 dX3_carryOut_105 (mm ww91) inx_X3 tyX3_ok nmX3 rfl (by decide) rfl rfl rfl rfl rfl rfl (Nat.le_of_ble_eq_true rfl) rfl ?_
        refine g_iconst (pc := 108) (v := 1) Z dX3_carryOut_108 (by decide) ?_
        obtain rfl := Option.some.inj hf
        exact g_zret Z hr rfl dX3_carryOut_109 (((0 : Int32), (0 : Int32), vL.2.2), x7) ⟨rfl, rfl⟩ rfl
      · replace hf := gIfN (bI_z c6) hf
        refine g_iconst (pc := 89) (v := 0) Z dX3_carryOut_89 (by decide) ?_
        obtain rfl := Option.some.inj hf
        exact g_zret Z hr rfl dX3_carryOut_90 (vL, x4.2) ⟨rfl, rfl⟩ rfl
    · replace hf := gIfN c1 hf
      refine g_aload_n (pc := 45) Z 0 dX3_carryOut_45 rfl ?_
      refine g_get (pc := 46) (T := TX3) (N := 4) Z 0 0 dX3_carryOut_46 (mm ww67) inx_X3 rfl (by decide) rfl rfl rfl ?_
      refine g_bipush (pc := 49) (v := 16) Z dX3_carryOut_49 (by decide) ?_
      refine g_iload_n (pc := 51) Z 2 dX3_carryOut_51 rfl ?_
      refine g_iadd (pc := 52) Z dX3_carryOut_52 ?_
      refine g_lconst (pc := 53) (v := 0) Z dX3_carryOut_53 (by decide) ?_
      obtain ⟨x9, h10, hf⟩ := Option.bind_eq_some_iff.mp hf
      refine g_calli (pc := 54) (ws2 := fun u => (wL ad ca vL ++ wD ad ca u)) (wr := (wL ad ca vL)) Z [1, 2, 3, 4, 5] [0] [0, 1, 2, 3, 4, 5] (g_runV Z (c_Disk_write l D ad ca N vD ((16 : Int32) + y2) (0 : Int64) x9 h10) (cwV 2 Z.2.2.2.2.1 (gg_V ww79 ww80 ww81 ww16 ww82) rfl rfl rfl (yv_of rfl yd_Disk_write) ⟨Nat.le_of_ble_eq_true rfl, Nat.le_of_ble_eq_true rfl⟩) [1, 2, 3, 4, 5] rfl (by decide) 0 rfl rfl rfl rfl rfl (Nat.le_of_ble_eq_true rfl) dX3_carryOut_54 ⟨Nat.le_of_ble_eq_true rfl, Nat.le_of_ble_eq_true rfl⟩) rfl rfl (by decide) (by decide) (by decide) (fun _ => rfl) (fun r u hu => ?_)
      obtain ⟨rfl, rfl⟩ := hu
      refine g_if_ne (pc := 57) (tgt := 62) Z dX3_carryOut_57 (by decide) (fun c11 => ?_) (fun c11 => ?_)
      · replace hf := gIfP (bI_nz c11) hf
        refine g_iinc (pc := 62) (v := y2 + (1 : Int32)) (lv' := [(2, .int (y2 + (1 : Int32))), (0, .ref (ad 6)), (1, .int y1)]) Z 2 dX3_carryOut_62 rfl rfl (by decide) rfl ?_
        refine g_goto (pc := 65) (tgt := 40) Z dX3_carryOut_65 (by decide) ?_
        refine g_locals (lv2 := [(0, .ref (ad 6)), (1, .int y1), (2, .int (y2 + (1 : Int32)))]) [1, 2, 0] rfl ?_
        exact ih _ _ _ _ hf
      · replace hf := gIfN (bI_z c11) hf
        refine g_iconst (pc := 60) (v := 0) Z dX3_carryOut_60 (by decide) ?_
        obtain rfl := Option.some.inj hf
        exact g_zret Z hr rfl dX3_carryOut_61 (vL, x9.2) ⟨rfl, rfl⟩ rfl
set_option maxHeartbeats 4000000 in
set_option maxRecDepth 100000 in
theorem c_Log_carryOut (l : Launch) (D : va_G) (ad : Nat → Nat) (ca : Nat → ClassId) (N : Nat) (vL : LT) (vD : DT) (p1 : Int32) (res : Bool × LT × DT) (hf : f_Log_carryOut N vL vD p1 = some res) (sz : Nat) : Met l yX3_carryOut (cd_Log_carryOut :: gA) rm_Log_carryOut (va_Pc [.ref (ad 6), .int p1] (gP D cls (tys ca) (wL ad ca vL ++ wD ad ca vD) sz)) (q_Log_carryOut D ad ca res (va_A (wL ad ca vL ++ wD ad ca vD) sz)) 0 0 (va_A (wL ad ca vL ++ wD ad ca vD) sz) := by
  refine g_met (cc := cX3_carryOut) (Qc := q_Log_carryOut D ad ca res) (lv := [(0, .ref (ad 6)), (1, .int p1)]) (own := RX3) (by decide) rfl rfl (Nat.le_of_ble_eq_true rfl) rfl sz ?_
  intro p e s m args below meth c A Z hr hnm
  unfold f_Log_carryOut at hf
  refine g_iload_n (pc := 0) Z 1 dX3_carryOut_0 rfl ?_
  refine g_if_ne (pc := 1) (tgt := 6) Z dX3_carryOut_1 (by decide) (fun c12 => ?_) (fun c12 => ?_)
  · replace hf := gIfN c12 hf
    refine g_aload_n (pc := 6) Z 0 dX3_carryOut_6 rfl ?_
    obtain ⟨x13, h14, hf⟩ := Option.bind_eq_some_iff.mp hf
    refine g_calli (pc := 7) (ws2 := fun u => (wL ad ca vL ++ wD ad ca u)) (wr := ([] : va_W)) Z [0, 1, 2, 3, 4, 5] [] [0, 1, 2, 3, 4, 5] (g_runV Z (c_Log_writePlaces l D ad ca N vL vD x13 h14) (cwV 0 Z.2.2.2.2.1 (gg_V ww83 ww84 ww85 ww72 ww86) rfl rfl rfl (yv_of rfl yd_Log_writePlaces) ⟨Nat.le_of_ble_eq_true rfl, Nat.le_of_ble_eq_true rfl⟩) [0, 1, 2, 3, 4, 5] rfl (by decide) 0 rfl rfl rfl rfl rfl (Nat.le_of_ble_eq_true rfl) dX3_carryOut_7 ⟨Nat.le_of_ble_eq_true rfl, Nat.le_of_ble_eq_true rfl⟩) rfl rfl (by decide) (by decide) (by decide) (fun _ => rfl) (fun r u hu => ?_)
    obtain ⟨rfl, rfl⟩ := hu
    refine g_if_eq (pc := 10) (tgt := 29) Z dX3_carryOut_10 (by decide) (fun c15 => ?_) (fun c15 => ?_)
    · replace hf := gIfN (bI_z c15) hf
      refine g_iconst (pc := 29) (v := 0) Z dX3_carryOut_29 (by decide) ?_
      obtain rfl := Option.some.inj hf
      exact g_zret Z hr rfl dX3_carryOut_30 (vL, x13.2) ⟨rfl, rfl⟩ rfl
    · replace hf := gIfP (bI_nz c15) hf
      refine g_aload_n (pc := 13) Z 0 dX3_carryOut_13 rfl ?_
      refine g_get (pc := 14) (T := TX3) (N := 4) Z 0 0 dX3_carryOut_14 (mm ww67) inx_X3 rfl (by decide) rfl rfl rfl ?_
      refine g_iconst (pc := 17) (v := 2) Z dX3_carryOut_17 (by decide) ?_
      refine g_aload_n (pc := 18) Z 0 dX3_carryOut_18 rfl ?_
      refine g_get (pc := 19) (T := TX3) (N := 4) Z 0 3 dX3_carryOut_19 (mm ww64) inx_X3 rfl (by decide) rfl rfl rfl ?_
      refine g_i2l (pc := 22) Z dX3_carryOut_22 ?_
      obtain ⟨x16, h17, hf⟩ := Option.bind_eq_some_iff.mp hf
      refine g_calli (pc := 23) (ws2 := fun u => (wL ad ca vL ++ wD ad ca u)) (wr := (wL ad ca vL)) Z [1, 2, 3, 4, 5] [0] [0, 1, 2, 3, 4, 5] (g_runV Z (c_Disk_write l D ad ca N x13.2 (2 : Int32) vL.2.2.toInt64 x16 h17) (cwV 2 Z.2.2.2.2.1 (gg_V ww79 ww80 ww81 ww16 ww82) rfl rfl rfl (yv_of rfl yd_Disk_write) ⟨Nat.le_of_ble_eq_true rfl, Nat.le_of_ble_eq_true rfl⟩) [1, 2, 3, 4, 5] rfl (by decide) 0 rfl rfl rfl rfl rfl (Nat.le_of_ble_eq_true rfl) dX3_carryOut_23 ⟨Nat.le_of_ble_eq_true rfl, Nat.le_of_ble_eq_true rfl⟩) rfl rfl (by decide) (by decide) (by decide) (fun _ => rfl) (fun r u hu => ?_)
      obtain ⟨rfl, rfl⟩ := hu
      refine g_if_ne (pc := 26) (tgt := 31) Z dX3_carryOut_26 (by decide) (fun c18 => ?_) (fun c18 => ?_)
      · replace hf := gIfP (bI_nz c18) hf
        refine g_aload_n (pc := 31) Z 0 dX3_carryOut_31 rfl ?_
        refine g_get (pc := 32) (T := TX3) (N := 4) Z 0 0 dX3_carryOut_32 (mm ww67) inx_X3 rfl (by decide) rfl rfl rfl ?_
        obtain ⟨x19, h20, hf⟩ := Option.bind_eq_some_iff.mp hf
        refine g_callv (pc := 35) (ws2 := fun u => (wL ad ca vL ++ wD ad ca u)) (wr := (wL ad ca vL)) Z [1, 2, 3, 4, 5] [0] [0, 1, 2, 3, 4, 5] (g_runV Z (c_Disk_settleAll l D ad ca N x16.2 x19 h20) (cwV 0 Z.2.2.2.2.1 (gg_V ww87 ww88 ww89 ww16 ww90) rfl rfl rfl (yv_of rfl yd_Disk_settleAll) ⟨Nat.le_of_ble_eq_true rfl, Nat.le_of_ble_eq_true rfl⟩) [1, 2, 3, 4, 5] rfl (by decide) 0 rfl rfl rfl rfl rfl (Nat.le_of_ble_eq_true rfl) dX3_carryOut_35 ⟨Nat.le_of_ble_eq_true rfl, Nat.le_of_ble_eq_true rfl⟩) rfl rfl (by decide) (by decide) (by decide) (fun _ => rfl) (fun u hu => ?_)
        obtain rfl := hu.symm
        refine g_iconst (pc := 38) (v := 0) Z dX3_carryOut_38 (by decide) ?_
        refine g_istore_n (pc := 39) (lv' := [(2, .int (0 : Int32)), (0, .ref (ad 6)), (1, .int p1)]) Z dX3_carryOut_39 (by decide) rfl ?_
        refine g_locals (lv2 := [(0, .ref (ad 6)), (1, .int p1), (2, .int (0 : Int32))]) [1, 2, 0] rfl ?_
        exact w_Log_carryOut_40 Z hr N _ _ _ _ hf
      · replace hf := gIfN (bI_z c18) hf
        refine g_iconst (pc := 29) (v := 0) Z dX3_carryOut_29 (by decide) ?_
        obtain rfl := Option.some.inj hf
        exact g_zret Z hr rfl dX3_carryOut_30 (vL, x16.2) ⟨rfl, rfl⟩ rfl
  · replace hf := gIfP c12 hf
    refine g_iconst (pc := 4) (v := 1) Z dX3_carryOut_4 (by decide) ?_
    obtain rfl := Option.some.inj hf
    exact g_zret Z hr rfl dX3_carryOut_5 (vL, vD) ⟨rfl, rfl⟩ rfl
theorem ww92 : Cond.methodLink RX3 25 yX1_size ∈ gA := wt2 213 rfl rfl
theorem ww93 : Cond.instanceMethod yX1_size ∈ gA := wt2 141 rfl rfl
theorem ww94 : Cond.selects RX1 yX1_size yX1_size ∈ gA := wt2 142 rfl rfl
theorem ww95 : cd_Chg_size ∈ gA := wt2 143 rfl rfl
theorem ww96 : Cond.methodLink RX3 64 yX1_place ∈ gA := wt2 218 rfl rfl
theorem ww97 : Cond.methodLink RX3 67 yX1_read ∈ gA := wt2 219 rfl rfl
theorem ww98 : Cond.instanceMethod yX1_read ∈ gA := wt2 39 rfl rfl
theorem ww99 : Cond.selects RX1 yX1_read yX1_read ∈ gA := wt2 40 rfl rfl
theorem ww100 : cd_Chg_read ∈ gA := wt2 41 rfl rfl
/-! RedoHeap$Log.appendWords(LRedoHeap$Changes;I)Z -/
def f_Log_appendWords_2 (N : Nat) (vL : LT) (vC : CT) : Nat → DT → Int32 → Int32 → Option (Bool × DT)
  | 0, _, _, _ => none
  | n + 1, vD, y2, y3 => (f_Chg_size vC).bind fun x1 => if x1 ≤ y3 then some (true, vD) else (f_Chg_place vC y3).bind fun x4 => (f_Disk_write N vD (y2 + ((2 : Int32) * y3)) x4.toInt64).bind fun x6 => if x6.1 = true then (f_Chg_read vC x4).bind fun x9 => (f_Disk_write N x6.2 ((y2 + ((2 : Int32) * y3)) + (1 : Int32)) x9).bind fun x11 => if x11.1 = true then f_Log_appendWords_2 N vL vC n x11.2 y2 (y3 + (1 : Int32)) else some (false, x11.2) else some (false, x6.2)
def f_Log_appendWords (N : Nat) (vL : LT) (vD : DT) (vC : CT) (p2 : Int32) : Option (Bool × DT) :=
  f_Log_appendWords_2 N vL vC N vD p2 (0 : Int32)
abbrev cd_Log_appendWords : Cond := .code yX3_appendWords cX3_appendWords 6 (some .boolean)
theorem yd_Log_appendWords : yX3_appendWords.cls ≠ "java/lang/invoke/MethodHandle" ∧ yX3_appendWords.cls ≠ "java/lang/invoke/VarHandle" ∧ (parseMethodDescriptor yX3_appendWords.desc).map (fun d => d.parameters.length) = some 2 := by decide +kernel
abbrev rm_Log_appendWords : Room := { frames := 4, cells := 0, slots := 0, locals := 105 }
abbrev q_Log_appendWords (D : va_G) (ad : Nat → Nat) (ca : Nat → ClassId) (vL : LT) (vC : CT) (res : Bool × DT) (A : Nat → Prop) : Array Value → State → Outcome → State → Prop := va_Qi (fun (r : Int32) (u : DT) => r = bI res.1 ∧ u = res.2) (gB D cls (tys ca) A (fun (u : DT) => (wL ad ca vL ++ wD ad ca u ++ wC ad ca vC))) A
set_option maxHeartbeats 4000000 in
set_option maxRecDepth 100000 in
theorem w_Log_appendWords_2 {p : Program} {l : Launch} {e : Env} {s : State} {m : MethodId} {args : Array Value} {below : List Frame} {meth : Method} {c : Code} {D : va_G} {ad : Nat → Nat} {ca : Nat → ClassId} {A : Nat → Prop} {N : Nat} {vL : LT} {vC : CT} {res : Bool × DT} (Z : gZ p s m args meth c cX3_appendWords 6 RX3 (cd_Log_appendWords :: gA) A D cls (tys ca)) (hr : meth.sig.returnType = (some .boolean)) : ∀ (n : Nat) (vD : DT) (y2 : Int32) (y3 : Int32), f_Log_appendWords_2 N vL vC n vD y2 y3 = some res → gW p l e rm_Log_appendWords s m args below meth c 6 A D cls 0 0 (MQ below (q_Log_appendWords D ad ca vL vC res A) args s 0 0 A) (wL ad ca vL ++ wD ad ca vD ++ wC ad ca vC) [(0, .ref (ad 6)), (1, .ref (ad 7)), (2, .int y2), (3, .int y3)] 2 [] := by
  intro n
  induction n with
  | zero =>
    intro vD y2 y3 hf
    exact absurd hf (by rw [f_Log_appendWords_2]; exact fun h => by cases h)
  | succ n ih =>
    intro vD y2 y3 hf
    rw [f_Log_appendWords_2] at hf
    refine g_iload_n (pc := 2) Z 3 dX3_appendWords_2 rfl ?_
    refine g_aload_n (pc := 3) Z 1 dX3_appendWords_3 rfl ?_
    obtain ⟨x1, h2, hf⟩ := Option.bind_eq_some_iff.mp hf
    refine g_calli (pc := 4) (ws2 := fun u => (wL ad ca vL ++ wD ad ca vD ++ wC ad ca vC)) (wr := (wL ad ca vL ++ wD ad ca vD)) Z [6, 7, 8, 9, 10] [0, 1, 2, 3, 4, 5] [0, 1, 2, 3, 4, 5, 6, 7, 8, 9, 10] (g_runV Z (c_Chg_size l D ad ca vC x1 h2) (cwV 0 Z.2.2.2.2.1 (gg_V ww92 ww93 ww94 ww40 ww95) rfl rfl rfl (yv_of rfl yd_Chg_size) ⟨Nat.le_of_ble_eq_true rfl, Nat.le_of_ble_eq_true rfl⟩) [6, 7, 8, 9, 10] rfl (by decide) 0 rfl rfl rfl rfl rfl (Nat.le_of_ble_eq_true rfl) dX3_appendWords_4 ⟨Nat.le_of_ble_eq_true rfl, Nat.le_of_ble_eq_true rfl⟩) rfl rfl (by decide) (by decide) (by decide) (fun _ => rfl) (fun r u hu => ?_)
    obtain rfl := hu.symm
    refine g_icmp_ge (pc := 7) (tgt := 67) Z dX3_appendWords_7 (by decide) (fun c3 => ?_) (fun c3 => ?_)
    · replace hf := gIfP c3 hf
      refine g_iconst (pc := 67) (v := 1) Z dX3_appendWords_67 (by decide) ?_
      obtain rfl := Option.some.inj hf
      exact g_zret Z hr rfl dX3_appendWords_68 vD ⟨rfl, rfl⟩ rfl
    · replace hf := gIfN c3 hf
      refine g_aload_n (pc := 10) Z 1 dX3_appendWords_10 rfl ?_
      refine g_iload_n (pc := 11) Z 3 dX3_appendWords_11 rfl ?_
      obtain ⟨x4, h5, hf⟩ := Option.bind_eq_some_iff.mp hf
      refine g_calli (pc := 12) (ws2 := fun u => (wL ad ca vL ++ wD ad ca vD ++ wC ad ca vC)) (wr := (wL ad ca vL ++ wD ad ca vD)) Z [6, 7, 8, 9, 10] [0, 1, 2, 3, 4, 5] [0, 1, 2, 3, 4, 5, 6, 7, 8, 9, 10] (g_runV Z (c_Chg_place l D ad ca vC y3 x4 h5) (cwV 1 Z.2.2.2.2.1 (gg_V ww96 ww51 ww52 ww40 ww53) rfl rfl rfl (yv_of rfl yd_Chg_place) ⟨Nat.le_of_ble_eq_true rfl, Nat.le_of_ble_eq_true rfl⟩) [6, 7, 8, 9, 10] rfl (by decide) 0 rfl rfl rfl rfl rfl (Nat.le_of_ble_eq_true rfl) dX3_appendWords_12 ⟨Nat.le_of_ble_eq_true rfl, Nat.le_of_ble_eq_true rfl⟩) rfl rfl (by decide) (by decide) (by decide) (fun _ => rfl) (fun r u hu => ?_)
      obtain rfl := hu.symm
      refine g_istore (pc := 15) (lv' := [(4, .int x4), (0, .ref (ad 6)), (1, .ref (ad 7)), (2, .int y2), (3, .int y3)]) Z dX3_appendWords_15 (by decide) rfl ?_
      refine g_iload_n (pc := 17) Z 3 dX3_appendWords_17 rfl ?_
      refine g_iconst (pc := 18) (v := 2) Z dX3_appendWords_18 (by decide) ?_
      refine g_iload_n (pc := 19) Z 4 dX3_appendWords_19 rfl ?_
      refine g_imul (pc := 20) Z dX3_appendWords_20 ?_
      refine g_iadd (pc := 21) Z dX3_appendWords_21 ?_
      refine g_istore (pc := 22) (lv' := [(5, .int (y2 + ((2 : Int32) * y3))), (4, .int x4), (0, .ref (ad 6)), (1, .ref (ad 7)), (2, .int y2), (3, .int y3)]) Z dX3_appendWords_22 (by decide) rfl ?_
      refine g_aload_n (pc := 24) Z 2 dX3_appendWords_24 rfl ?_
      refine g_get (pc := 25) (T := TX3) (N := 4) Z 0 0 dX3_appendWords_25 (mm ww67) inx_X3 rfl (by decide) rfl rfl rfl ?_
      refine g_iload (pc := 28) Z 0 dX3_appendWords_28 rfl ?_
      refine g_iload (pc := 30) Z 1 dX3_appendWords_30 rfl ?_
      refine g_i2l (pc := 32) Z dX3_appendWords_32 ?_
      obtain ⟨x6, h7, hf⟩ := Option.bind_eq_some_iff.mp hf
      refine g_calli (pc := 33) (ws2 := fun u => (wL ad ca vL ++ wD ad ca u ++ wC ad ca vC)) (wr := (wL ad ca vL ++ wC ad ca vC)) Z [1, 2, 3, 4, 5] [0, 6, 7, 8, 9, 10] [0, 6, 7, 8, 9, 10, 1, 2, 3, 4, 5] (g_runV Z (c_Disk_write l D ad ca N vD (y2 + ((2 : Int32) * y3)) x4.toInt64 x6 h7) (cwV 2 Z.2.2.2.2.1 (gg_V ww79 ww80 ww81 ww16 ww82) rfl rfl rfl (yv_of rfl yd_Disk_write) ⟨Nat.le_of_ble_eq_true rfl, Nat.le_of_ble_eq_true rfl⟩) [1, 2, 3, 4, 5] rfl (by decide) 0 rfl rfl rfl rfl rfl (Nat.le_of_ble_eq_true rfl) dX3_appendWords_33 ⟨Nat.le_of_ble_eq_true rfl, Nat.le_of_ble_eq_true rfl⟩) rfl rfl (by decide) (by decide) (by decide) (fun _ => rfl) (fun r u hu => ?_)
      obtain ⟨rfl, rfl⟩ := hu
      refine g_if_eq (pc := 36) (tgt := 59) Z dX3_appendWords_36 (by decide) (fun c8 => ?_) (fun c8 => ?_)
      · replace hf := gIfN (bI_z c8) hf
        refine g_iconst (pc := 59) (v := 0) Z dX3_appendWords_59 (by decide) ?_
        obtain rfl := Option.some.inj hf
        exact g_zret Z hr rfl dX3_appendWords_60 x6.2 ⟨rfl, rfl⟩ rfl
      · replace hf := gIfP (bI_nz c8) hf
        refine g_aload_n (pc := 39) Z 2 dX3_appendWords_39 rfl ?_
        refine g_get (pc := 40) (T := TX3) (N := 4) Z 0 0 dX3_appendWords_40 (mm ww67) inx_X3 rfl (by decide) rfl rfl rfl ?_
        refine g_iload (pc := 43) Z 0 dX3_appendWords_43 rfl ?_
        refine g_iconst (pc := 45) (v := 1) Z dX3_appendWords_45 (by decide) ?_
        refine g_iadd (pc := 46) Z dX3_appendWords_46 ?_
        refine g_aload_n (pc := 47) Z 3 dX3_appendWords_47 rfl ?_
        refine g_iload (pc := 48) Z 1 dX3_appendWords_48 rfl ?_
        obtain ⟨x9, h10, hf⟩ := Option.bind_eq_some_iff.mp hf
        refine g_calll (pc := 50) (ws2 := fun u => (wL ad ca vL ++ wD ad ca x6.2 ++ wC ad ca vC)) (wr := (wL ad ca vL ++ wD ad ca x6.2)) Z [6, 7, 8, 9, 10] [0, 1, 2, 3, 4, 5] [0, 1, 2, 3, 4, 5, 6, 7, 8, 9, 10] (g_runV Z (c_Chg_read l D ad ca vC x4 x9 h10) (cwV 1 Z.2.2.2.2.1 (gg_V ww97 ww98 ww99 ww40 ww100) rfl rfl rfl (yv_of rfl yd_Chg_read) ⟨Nat.le_of_ble_eq_true rfl, Nat.le_of_ble_eq_true rfl⟩) [6, 7, 8, 9, 10] rfl (by decide) 0 rfl rfl rfl rfl rfl (Nat.le_of_ble_eq_true rfl) dX3_appendWords_50 ⟨Nat.le_of_ble_eq_true rfl, Nat.le_of_ble_eq_true rfl⟩) rfl rfl (by decide) (by decide) (by decide) (fun _ => rfl) (fun r u hu => ?_)
        obtain rfl := hu.symm
        obtain ⟨x11, h12, hf⟩ := Option.bind_eq_some_iff.mp hf
        refine g_calli (pc := 53) (ws2 := fun u => (wL ad ca vL ++ wD ad ca u ++ wC ad ca vC)) (wr := (wL ad ca vL ++ wC ad ca vC)) Z [1, 2, 3, 4, 5] [0, 6, 7, 8, 9, 10] [0, 6, 7, 8, 9, 10, 1, 2, 3, 4, 5] (g_runV Z (c_Disk_write l D ad ca N x6.2 ((y2 + ((2 : Int32) * y3)) + (1 : Int32)) x9 x11 h12) (cwV 2 Z.2.2.2.2.1 (gg_V ww79 ww80 ww81 ww16 ww82) rfl rfl rfl (yv_of rfl yd_Disk_write) ⟨Nat.le_of_ble_eq_true rfl, Nat.le_of_ble_eq_true rfl⟩) [1, 2, 3, 4, 5] rfl (by decide) 0 rfl rfl rfl rfl rfl (Nat.le_of_ble_eq_true rfl) dX3_appendWords_53 ⟨Nat.le_of_ble_eq_true rfl, Nat.le_of_ble_eq_true rfl⟩) rfl rfl (by decide) (by decide) (by decide) (fun _ => rfl) (fun r u hu => ?_)
        obtain ⟨rfl, rfl⟩ := hu
        refine g_if_ne (pc := 56) (tgt := 61) Z dX3_appendWords_56 (by decide) (fun c13 => ?_) (fun c13 => ?_)
        · replace hf := gIfP (bI_nz c13) hf
          refine g_iinc (pc := 61) (v := y3 + (1 : Int32)) (lv' := [(3, .int (y3 + (1 : Int32))), (5, .int (y2 + ((2 : Int32) * y3))), (4, .int x4), (0, .ref (ad 6)), (1, .ref (ad 7)), (2, .int y2)]) Z 5 dX3_appendWords_61 rfl rfl (by decide) rfl ?_
          refine g_goto (pc := 64) (tgt := 2) Z dX3_appendWords_64 (by decide) ?_
          refine g_locals (lv2 := [(0, .ref (ad 6)), (1, .ref (ad 7)), (2, .int y2), (3, .int (y3 + (1 : Int32)))]) [3, 4, 5, 0] rfl ?_
          exact ih _ _ _ hf
        · replace hf := gIfN (bI_z c13) hf
          refine g_iconst (pc := 59) (v := 0) Z dX3_appendWords_59 (by decide) ?_
          obtain rfl := Option.some.inj hf
          exact g_zret Z hr rfl dX3_appendWords_60 x11.2 ⟨rfl, rfl⟩ rfl
set_option maxHeartbeats 4000000 in
set_option maxRecDepth 100000 in
theorem c_Log_appendWords (l : Launch) (D : va_G) (ad : Nat → Nat) (ca : Nat → ClassId) (N : Nat) (vL : LT) (vD : DT) (vC : CT) (p2 : Int32) (res : Bool × DT) (hf : f_Log_appendWords N vL vD vC p2 = some res) (sz : Nat) : Met l yX3_appendWords (cd_Log_appendWords :: gA) rm_Log_appendWords (va_Pc [.ref (ad 6), .ref (ad 7), .int p2] (gP D cls (tys ca) (wL ad ca vL ++ wD ad ca vD ++ wC ad ca vC) sz)) (q_Log_appendWords D ad ca vL vC res (va_A (wL ad ca vL ++ wD ad ca vD ++ wC ad ca vC) sz)) 0 0 (va_A (wL ad ca vL ++ wD ad ca vD ++ wC ad ca vC) sz) := by
  refine g_met (cc := cX3_appendWords) (Qc := q_Log_appendWords D ad ca vL vC res) (lv := [(0, .ref (ad 6)), (1, .ref (ad 7)), (2, .int p2)]) (own := RX3) (by decide) rfl rfl (Nat.le_of_ble_eq_true rfl) rfl sz ?_
  intro p e s m args below meth c A Z hr hnm
  unfold f_Log_appendWords at hf
  refine g_iconst (pc := 0) (v := 0) Z dX3_appendWords_0 (by decide) ?_
  refine g_istore_n (pc := 1) (lv' := [(3, .int (0 : Int32)), (0, .ref (ad 6)), (1, .ref (ad 7)), (2, .int p2)]) Z dX3_appendWords_1 (by decide) rfl ?_
  refine g_locals (lv2 := [(0, .ref (ad 6)), (1, .ref (ad 7)), (2, .int p2), (3, .int (0 : Int32))]) [1, 2, 3, 0] rfl ?_
  exact w_Log_appendWords_2 Z hr N _ _ _ hf
theorem ww101 : Cond.methodLink RX3 41 yX3_appendWords ∈ gA := wt2 214 rfl rfl
theorem ww102 : Cond.instanceMethod yX3_appendWords ∈ gA := wt2 216 rfl rfl
theorem ww103 : Cond.selects RX3 yX3_appendWords yX3_appendWords ∈ gA := wtS 14 rfl rfl
theorem ww104 : cd_Log_appendWords ∈ gA := wt2 217 rfl rfl
theorem ww105 : Jvm.Cond.constantLong RX3 45 (-1) ∈ gA := wt2 220 rfl rfl
/-! RedoHeap$Log.append(LRedoHeap$Changes;Z)Z -/
def f_Log_append (N : Nat) (vL : LT) (vD : DT) (vC : CT) (p2 : Bool) : Option (Bool × LT × DT) :=
  (f_Chg_size vC).bind fun x1 => (f_Chg_size vC).bind fun x3 => (f_Log_front vL vD x3).bind fun x5 => (f_Disk_write N vD ((16 : Int32) + vL.1) x5).bind fun x7 => if x7.1 = true then (f_Log_appendWords N vL x7.2 vC (((16 : Int32) + vL.1) + (1 : Int32))).bind fun x10 => if x10.1 = true then (f_Disk_write N x10.2 ((((16 : Int32) + vL.1) + (1 : Int32)) + ((2 : Int32) * x1)) ((-1 : Int64) - ((vL.2.2 + (1 : Int32)).toInt64))).bind fun x13 => if x13.1 = true then if p2 = true then (f_Disk_settleAll N x13.2).bind fun x17 => some (true, ((((((16 : Int32) + vL.1) + (1 : Int32)) + ((2 : Int32) * x1)) + (1 : Int32)) - (16 : Int32), vL.2.1 + (1 : Int32), vL.2.2 + (1 : Int32)), x17) else some (true, ((((((16 : Int32) + vL.1) + (1 : Int32)) + ((2 : Int32) * x1)) + (1 : Int32)) - (16 : Int32), vL.2.1 + (1 : Int32), vL.2.2 + (1 : Int32)), x13.2) else some (false, vL, x13.2) else some (false, vL, x10.2) else some (false, vL, x7.2)
abbrev cd_Log_append : Cond := .code yX3_append cX3_append 5 (some .boolean)
theorem yd_Log_append : yX3_append.cls ≠ "java/lang/invoke/MethodHandle" ∧ yX3_append.cls ≠ "java/lang/invoke/VarHandle" ∧ (parseMethodDescriptor yX3_append.desc).map (fun d => d.parameters.length) = some 2 := by decide +kernel
abbrev rm_Log_append : Room := { frames := 5, cells := 0, slots := 0, locals := 130 }
abbrev q_Log_append (D : va_G) (ad : Nat → Nat) (ca : Nat → ClassId) (vC : CT) (res : Bool × LT × DT) (A : Nat → Prop) : Array Value → State → Outcome → State → Prop := va_Qi (fun (r : Int32) (u : LT × DT) => r = bI res.1 ∧ u = res.2) (gB D cls (tys ca) A (fun (u : LT × DT) => (wL ad ca u.1 ++ wD ad ca u.2 ++ wC ad ca vC))) A
set_option maxHeartbeats 4000000 in
set_option maxRecDepth 100000 in
theorem c_Log_append (l : Launch) (D : va_G) (ad : Nat → Nat) (ca : Nat → ClassId) (N : Nat) (vL : LT) (vD : DT) (vC : CT) (p2 : Bool) (res : Bool × LT × DT) (hf : f_Log_append N vL vD vC p2 = some res) (sz : Nat) : Met l yX3_append (cd_Log_append :: gA) rm_Log_append (va_Pc [.ref (ad 6), .ref (ad 7), .int (bI p2)] (gP D cls (tys ca) (wL ad ca vL ++ wD ad ca vD ++ wC ad ca vC) sz)) (q_Log_append D ad ca vC res (va_A (wL ad ca vL ++ wD ad ca vD ++ wC ad ca vC) sz)) 0 0 (va_A (wL ad ca vL ++ wD ad ca vD ++ wC ad ca vC) sz) := by
  refine g_met (cc := cX3_append) (Qc := q_Log_append D ad ca vC res) (lv := [(0, .ref (ad 6)), (1, .ref (ad 7)), (2, .int (bI p2))]) (own := RX3) (by decide) rfl rfl (Nat.le_of_ble_eq_true rfl) rfl sz ?_
  intro p e s m args below meth c A Z hr hnm
  unfold f_Log_append at hf
  refine g_bipush (pc := 0) (v := 16) Z dX3_append_0 (by decide) ?_
  refine g_aload_n (pc := 2) Z 0 dX3_append_2 rfl ?_
  refine g_get (pc := 3) (T := TX3) (N := 4) Z 0 1 dX3_append_3 (mm ww65) inx_X3 rfl (by decide) rfl rfl rfl ?_
  refine g_iadd (pc := 6) Z dX3_append_6 ?_
  refine g_istore_n (pc := 7) (lv' := [(3, .int ((16 : Int32) + vL.1)), (0, .ref (ad 6)), (1, .ref (ad 7)), (2, .int (bI p2))]) Z dX3_append_7 (by decide) rfl ?_
  refine g_iload_n (pc := 8) Z 0 dX3_append_8 rfl ?_
  refine g_iconst (pc := 9) (v := 1) Z dX3_append_9 (by decide) ?_
  refine g_iadd (pc := 10) Z dX3_append_10 ?_
  refine g_iconst (pc := 11) (v := 2) Z dX3_append_11 (by decide) ?_
  refine g_aload_n (pc := 12) Z 2 dX3_append_12 rfl ?_
  obtain ⟨x1, h2, hf⟩ := Option.bind_eq_some_iff.mp hf
  refine g_calli (pc := 13) (ws2 := fun u => (wL ad ca vL ++ wD ad ca vD ++ wC ad ca vC)) (wr := (wL ad ca vL ++ wD ad ca vD)) Z [6, 7, 8, 9, 10] [0, 1, 2, 3, 4, 5] [0, 1, 2, 3, 4, 5, 6, 7, 8, 9, 10] (g_runV Z (c_Chg_size l D ad ca vC x1 h2) (cwV 0 Z.2.2.2.2.1 (gg_V ww92 ww93 ww94 ww40 ww95) rfl rfl rfl (yv_of rfl yd_Chg_size) ⟨Nat.le_of_ble_eq_true rfl, Nat.le_of_ble_eq_true rfl⟩) [6, 7, 8, 9, 10] rfl (by decide) 0 rfl rfl rfl rfl rfl (Nat.le_of_ble_eq_true rfl) dX3_append_13 ⟨Nat.le_of_ble_eq_true rfl, Nat.le_of_ble_eq_true rfl⟩) rfl rfl (by decide) (by decide) (by decide) (fun _ => rfl) (fun r u hu => ?_)
  obtain rfl := hu.symm
  refine g_imul (pc := 16) Z dX3_append_16 ?_
  refine g_iadd (pc := 17) Z dX3_append_17 ?_
  refine g_istore (pc := 18) (lv' := [(4, .int ((((16 : Int32) + vL.1) + (1 : Int32)) + ((2 : Int32) * x1))), (3, .int ((16 : Int32) + vL.1)), (0, .ref (ad 6)), (1, .ref (ad 7)), (2, .int (bI p2))]) Z dX3_append_18 (by decide) rfl ?_
  refine g_aload_n (pc := 20) Z 2 dX3_append_20 rfl ?_
  refine g_get (pc := 21) (T := TX3) (N := 4) Z 0 0 dX3_append_21 (mm ww67) inx_X3 rfl (by decide) rfl rfl rfl ?_
  refine g_iload_n (pc := 24) Z 1 dX3_append_24 rfl ?_
  refine g_aload_n (pc := 25) Z 2 dX3_append_25 rfl ?_
  refine g_aload_n (pc := 26) Z 3 dX3_append_26 rfl ?_
  obtain ⟨x3, h4, hf⟩ := Option.bind_eq_some_iff.mp hf
  refine g_calli (pc := 27) (ws2 := fun u => (wL ad ca vL ++ wD ad ca vD ++ wC ad ca vC)) (wr := (wL ad ca vL ++ wD ad ca vD)) Z [6, 7, 8, 9, 10] [0, 1, 2, 3, 4, 5] [0, 1, 2, 3, 4, 5, 6, 7, 8, 9, 10] (g_runV Z (c_Chg_size l D ad ca vC x3 h4) (cwV 0 Z.2.2.2.2.1 (gg_V ww92 ww93 ww94 ww40 ww95) rfl rfl rfl (yv_of rfl yd_Chg_size) ⟨Nat.le_of_ble_eq_true rfl, Nat.le_of_ble_eq_true rfl⟩) [6, 7, 8, 9, 10] rfl (by decide) 0 rfl rfl rfl rfl rfl (Nat.le_of_ble_eq_true rfl) dX3_append_27 ⟨Nat.le_of_ble_eq_true rfl, Nat.le_of_ble_eq_true rfl⟩) rfl rfl (by decide) (by decide) (by decide) (fun _ => rfl) (fun r u hu => ?_)
  obtain rfl := hu.symm
  obtain ⟨x5, h6, hf⟩ := Option.bind_eq_some_iff.mp hf
  refine g_calll (pc := 30) (ws2 := fun u => (wL ad ca vL ++ wD ad ca vD ++ wC ad ca vC)) (wr := (wC ad ca vC)) Z [0, 1, 2, 3, 4, 5] [6, 7, 8, 9, 10] [5, 6, 7, 8, 9, 10, 0, 1, 2, 3, 4] (g_runV Z (c_Log_front l D ad ca vL vD x3 x5 h6) (cwV 1 Z.2.2.2.2.1 (gg_V ww69 ww70 ww71 ww72 ww73) rfl rfl rfl (yv_of rfl yd_Log_front) ⟨Nat.le_of_ble_eq_true rfl, Nat.le_of_ble_eq_true rfl⟩) [0, 1, 2, 3, 4, 5] rfl (by decide) 0 rfl rfl rfl rfl rfl (Nat.le_of_ble_eq_true rfl) dX3_append_30 ⟨Nat.le_of_ble_eq_true rfl, Nat.le_of_ble_eq_true rfl⟩) rfl rfl (by decide) (by decide) (by decide) (fun _ => rfl) (fun r u hu => ?_)
  obtain rfl := hu.symm
  obtain ⟨x7, h8, hf⟩ := Option.bind_eq_some_iff.mp hf
  refine g_calli (pc := 33) (ws2 := fun u => (wL ad ca vL ++ wD ad ca u ++ wC ad ca vC)) (wr := (wL ad ca vL ++ wC ad ca vC)) Z [1, 2, 3, 4, 5] [0, 6, 7, 8, 9, 10] [0, 6, 7, 8, 9, 10, 1, 2, 3, 4, 5] (g_runV Z (c_Disk_write l D ad ca N vD ((16 : Int32) + vL.1) x5 x7 h8) (cwV 2 Z.2.2.2.2.1 (gg_V ww79 ww80 ww81 ww16 ww82) rfl rfl rfl (yv_of rfl yd_Disk_write) ⟨Nat.le_of_ble_eq_true rfl, Nat.le_of_ble_eq_true rfl⟩) [1, 2, 3, 4, 5] rfl (by decide) 0 rfl rfl rfl rfl rfl (Nat.le_of_ble_eq_true rfl) dX3_append_33 ⟨Nat.le_of_ble_eq_true rfl, Nat.le_of_ble_eq_true rfl⟩) rfl rfl (by decide) (by decide) (by decide) (fun _ => rfl) (fun r u hu => ?_)
  obtain ⟨rfl, rfl⟩ := hu
  refine g_if_eq (pc := 36) (tgt := 73) Z dX3_append_36 (by decide) (fun c9 => ?_) (fun c9 => ?_)
  · replace hf := gIfN (bI_z c9) hf
    refine g_iconst (pc := 73) (v := 0) Z dX3_append_73 (by decide) ?_
    obtain rfl := Option.some.inj hf
    exact g_zret Z hr rfl dX3_append_74 (vL, x7.2) ⟨rfl, rfl⟩ rfl
  · replace hf := gIfP (bI_nz c9) hf
    refine g_aload_n (pc := 39) Z 2 dX3_append_39 rfl ?_
    refine g_aload_n (pc := 40) Z 3 dX3_append_40 rfl ?_
    refine g_iload_n (pc := 41) Z 1 dX3_append_41 rfl ?_
    refine g_iconst (pc := 42) (v := 1) Z dX3_append_42 (by decide) ?_
    refine g_iadd (pc := 43) Z dX3_append_43 ?_
    obtain ⟨x10, h11, hf⟩ := Option.bind_eq_some_iff.mp hf
    refine g_calli (pc := 44) (ws2 := fun u => (wL ad ca vL ++ wD ad ca u ++ wC ad ca vC)) (wr := ([] : va_W)) Z [0, 1, 2, 3, 4, 5, 6, 7, 8, 9, 10] [] [0, 1, 2, 3, 4, 5, 6, 7, 8, 9, 10] (g_runV Z (c_Log_appendWords l D ad ca N vL x7.2 vC (((16 : Int32) + vL.1) + (1 : Int32)) x10 h11) (cwV 2 Z.2.2.2.2.1 (gg_V ww101 ww102 ww103 ww72 ww104) rfl rfl rfl (yv_of rfl yd_Log_appendWords) ⟨Nat.le_of_ble_eq_true rfl, Nat.le_of_ble_eq_true rfl⟩) [0, 1, 2, 3, 4, 5, 6, 7, 8, 9, 10] rfl (by decide) 0 rfl rfl rfl rfl rfl (Nat.le_of_ble_eq_true rfl) dX3_append_44 ⟨Nat.le_of_ble_eq_true rfl, Nat.le_of_ble_eq_true rfl⟩) rfl rfl (by decide) (by decide) (by decide) (fun _ => rfl) (fun r u hu => ?_)
    obtain ⟨rfl, rfl⟩ := hu
    refine g_if_eq (pc := 47) (tgt := 73) Z dX3_append_47 (by decide) (fun c12 => ?_) (fun c12 => ?_)
    · replace hf := gIfN (bI_z c12) hf
      refine g_iconst (pc := 73) (v := 0) Z dX3_append_73 (by decide) ?_
      obtain rfl := Option.some.inj hf
      exact g_zret Z hr rfl dX3_append_74 (vL, x10.2) ⟨rfl, rfl⟩ rfl
    · replace hf := gIfP (bI_nz c12) hf
      refine g_aload_n (pc := 50) Z 2 dX3_append_50 rfl ?_
      refine g_get (pc := 51) (T := TX3) (N := 4) Z 0 0 dX3_append_51 (mm ww67) inx_X3 rfl (by decide) rfl rfl rfl ?_
      refine g_iload (pc := 54) Z 0 dX3_append_54 rfl ?_
      refine g_ldc2 (pc := 56) (v := -1) Z dX3_append_56 (mm ww105) ?_
      refine g_aload_n (pc := 59) Z 2 dX3_append_59 rfl ?_
      refine g_get (pc := 60) (T := TX3) (N := 4) Z 0 3 dX3_append_60 (mm ww64) inx_X3 rfl (by decide) rfl rfl rfl ?_
      refine g_iconst (pc := 63) (v := 1) Z dX3_append_63 (by decide) ?_
      refine g_iadd (pc := 64) Z dX3_append_64 ?_
      refine g_i2l (pc := 65) Z dX3_append_65 ?_
      refine g_lsub (pc := 66) Z dX3_append_66 ?_
      obtain ⟨x13, h14, hf⟩ := Option.bind_eq_some_iff.mp hf
      refine g_calli (pc := 67) (ws2 := fun u => (wL ad ca vL ++ wD ad ca u ++ wC ad ca vC)) (wr := (wL ad ca vL ++ wC ad ca vC)) Z [1, 2, 3, 4, 5] [0, 6, 7, 8, 9, 10] [0, 6, 7, 8, 9, 10, 1, 2, 3, 4, 5] (g_runV Z (c_Disk_write l D ad ca N x10.2 ((((16 : Int32) + vL.1) + (1 : Int32)) + ((2 : Int32) * x1)) ((-1 : Int64) - ((vL.2.2 + (1 : Int32)).toInt64)) x13 h14) (cwV 2 Z.2.2.2.2.1 (gg_V ww79 ww80 ww81 ww16 ww82) rfl rfl rfl (yv_of rfl yd_Disk_write) ⟨Nat.le_of_ble_eq_true rfl, Nat.le_of_ble_eq_true rfl⟩) [1, 2, 3, 4, 5] rfl (by decide) 0 rfl rfl rfl rfl rfl (Nat.le_of_ble_eq_true rfl) dX3_append_67 ⟨Nat.le_of_ble_eq_true rfl, Nat.le_of_ble_eq_true rfl⟩) rfl rfl (by decide) (by decide) (by decide) (fun _ => rfl) (fun r u hu => ?_)
      obtain ⟨rfl, rfl⟩ := hu
      refine g_if_ne (pc := 70) (tgt := 75) Z dX3_append_70 (by decide) (fun c15 => ?_) (fun c15 => ?_)
      · replace hf := gIfP (bI_nz c15) hf
        refine g_iload_n (pc := 75) Z 4 dX3_append_75 rfl ?_
        refine g_if_eq (pc := 76) (tgt := 86) Z dX3_append_76 (by decide) (fun c16 => ?_) (fun c16 => ?_)
        · replace hf := gIfN (bI_z c16) hf
          refine g_aload_n (pc := 86) Z 2 dX3_append_86 rfl ?_
          refine g_iload (pc := 87) Z 0 dX3_append_87 rfl ?_
          refine g_iconst (pc := 89) (v := 1) Z dX3_append_89 (by decide) ?_
          refine g_iadd (pc := 90) Z dX3_append_90 ?_
          refine g_bipush (pc := 91) (v := 16) Z dX3_append_91 (by decide) ?_
          refine g_isub (pc := 93) Z dX3_append_93 ?_
          refine g_put (pc := 94) (T := TX3) (N := 4) (ws' := (wL ad ca ((((((16 : Int32) + vL.1) + (1 : Int32)) + ((2 : Int32) * x1)) + (1 : Int32)) - (16 : Int32), vL.2.1, vL.2.2) ++ wD ad ca x13.2 ++ wC ad ca vC)) Z 0 1 dX3_append_94 (mm ww65) inx_X3 tyX3_ok nmX3 rfl (by decide) rfl rfl rfl rfl rfl rfl (Nat.le_of_ble_eq_true rfl) rfl ?_
          refine g_aload_n (pc := 97) Z 2 dX3_append_97 rfl ?_
          refine g_dup (pc := 98) Z dX3_append_98 rfl ?_
          refine g_get (pc := 99) (T := TX3) (N := 4) Z 0 2 dX3_append_99 (mm ww91) inx_X3 rfl (by decide) rfl rfl rfl ?_
          refine g_iconst (pc := 102) (v := 1) Z dX3_append_102 (by decide) ?_
          refine g_iadd (pc := 103) Z dX3_append_103 ?_
          refine g_put (pc := 104) (T := TX3) (N := 4) (ws' := (wL ad ca ((((((16 : Int32) + vL.1) + (1 : Int32)) + ((2 : Int32) * x1)) + (1 : Int32)) - (16 : Int32), vL.2.1 + (1 : Int32), vL.2.2) ++ wD ad ca x13.2 ++ wC ad ca vC)) Z 0 2 dX3_append_104 (mm ww91) inx_X3 tyX3_ok nmX3 rfl (by decide) rfl rfl rfl rfl rfl rfl (Nat.le_of_ble_eq_true rfl) rfl ?_
          refine g_aload_n (pc := 107) Z 2 dX3_append_107 rfl ?_
          refine g_dup (pc := 108) Z dX3_append_108 rfl ?_
          refine g_get (pc := 109) (T := TX3) (N := 4) Z 0 3 dX3_append_109 (mm ww64) inx_X3 rfl (by decide) rfl rfl rfl ?_
          refine g_iconst (pc := 112) (v := 1) Z dX3_append_112 (by decide) ?_
          refine g_iadd (pc := 113) Z dX3_append_113 ?_
          refine g_put (pc := 114) (T := TX3) (N := 4) (ws' := (wL ad ca ((((((16 : Int32) + vL.1) + (1 : Int32)) + ((2 : Int32) * x1)) + (1 : Int32)) - (16 : Int32), vL.2.1 + (1 : Int32), vL.2.2 + (1 : Int32)) ++ wD ad ca x13.2 ++ wC ad ca vC)) Z 0 3 dX3_append_114 (mm ww64) inx_X3 tyX3_ok nmX3 rfl (by decide) rfl rfl rfl rfl rfl rfl (Nat.le_of_ble_eq_true rfl) rfl ?_
          refine g_iconst (pc := 117) (v := 1) Z dX3_append_117 (by decide) ?_
          obtain rfl := Option.some.inj hf
          exact g_zret Z hr rfl dX3_append_118 (((((((16 : Int32) + vL.1) + (1 : Int32)) + ((2 : Int32) * x1)) + (1 : Int32)) - (16 : Int32), vL.2.1 + (1 : Int32), vL.2.2 + (1 : Int32)), x13.2) ⟨rfl, rfl⟩ rfl
        · replace hf := gIfP (bI_nz c16) hf
          refine g_aload_n (pc := 79) Z 2 dX3_append_79 rfl ?_
          refine g_get (pc := 80) (T := TX3) (N := 4) Z 0 0 dX3_append_80 (mm ww67) inx_X3 rfl (by decide) rfl rfl rfl ?_
          obtain ⟨x17, h18, hf⟩ := Option.bind_eq_some_iff.mp hf
          refine g_callv (pc := 83) (ws2 := fun u => (wL ad ca vL ++ wD ad ca u ++ wC ad ca vC)) (wr := (wL ad ca vL ++ wC ad ca vC)) Z [1, 2, 3, 4, 5] [0, 6, 7, 8, 9, 10] [0, 6, 7, 8, 9, 10, 1, 2, 3, 4, 5] (g_runV Z (c_Disk_settleAll l D ad ca N x13.2 x17 h18) (cwV 0 Z.2.2.2.2.1 (gg_V ww87 ww88 ww89 ww16 ww90) rfl rfl rfl (yv_of rfl yd_Disk_settleAll) ⟨Nat.le_of_ble_eq_true rfl, Nat.le_of_ble_eq_true rfl⟩) [1, 2, 3, 4, 5] rfl (by decide) 0 rfl rfl rfl rfl rfl (Nat.le_of_ble_eq_true rfl) dX3_append_83 ⟨Nat.le_of_ble_eq_true rfl, Nat.le_of_ble_eq_true rfl⟩) rfl rfl (by decide) (by decide) (by decide) (fun _ => rfl) (fun u hu => ?_)
          obtain rfl := hu.symm
          refine g_aload_n (pc := 86) Z 2 dX3_append_86 rfl ?_
          refine g_iload (pc := 87) Z 0 dX3_append_87 rfl ?_
          refine g_iconst (pc := 89) (v := 1) Z dX3_append_89 (by decide) ?_
          refine g_iadd (pc := 90) Z dX3_append_90 ?_
          refine g_bipush (pc := 91) (v := 16) Z dX3_append_91 (by decide) ?_
          refine g_isub (pc := 93) Z dX3_append_93 ?_
          refine g_put (pc := 94) (T := TX3) (N := 4) (ws' := (wL ad ca ((((((16 : Int32) + vL.1) + (1 : Int32)) + ((2 : Int32) * x1)) + (1 : Int32)) - (16 : Int32), vL.2.1, vL.2.2) ++ wD ad ca x17 ++ wC ad ca vC)) Z 0 1 dX3_append_94 (mm ww65) inx_X3 tyX3_ok nmX3 rfl (by decide) rfl rfl rfl rfl rfl rfl (Nat.le_of_ble_eq_true rfl) rfl ?_
          refine g_aload_n (pc := 97) Z 2 dX3_append_97 rfl ?_
          refine g_dup (pc := 98) Z dX3_append_98 rfl ?_
          refine g_get (pc := 99) (T := TX3) (N := 4) Z 0 2 dX3_append_99 (mm ww91) inx_X3 rfl (by decide) rfl rfl rfl ?_
          refine g_iconst (pc := 102) (v := 1) Z dX3_append_102 (by decide) ?_
          refine g_iadd (pc := 103) Z dX3_append_103 ?_
          refine g_put (pc := 104) (T := TX3) (N := 4) (ws' := (wL ad ca ((((((16 : Int32) + vL.1) + (1 : Int32)) + ((2 : Int32) * x1)) + (1 : Int32)) - (16 : Int32), vL.2.1 + (1 : Int32), vL.2.2) ++ wD ad ca x17 ++ wC ad ca vC)) Z 0 2 dX3_append_104 (mm ww91) inx_X3 tyX3_ok nmX3 rfl (by decide) rfl rfl rfl rfl rfl rfl (Nat.le_of_ble_eq_true rfl) rfl ?_
          refine g_aload_n (pc := 107) Z 2 dX3_append_107 rfl ?_
          refine g_dup (pc := 108) Z dX3_append_108 rfl ?_
          refine g_get (pc := 109) (T := TX3) (N := 4) Z 0 3 dX3_append_109 (mm ww64) inx_X3 rfl (by decide) rfl rfl rfl ?_
          refine g_iconst (pc := 112) (v := 1) Z dX3_append_112 (by decide) ?_
          refine g_iadd (pc := 113) Z dX3_append_113 ?_
          refine g_put (pc := 114) (T := TX3) (N := 4) (ws' := (wL ad ca ((((((16 : Int32) + vL.1) + (1 : Int32)) + ((2 : Int32) * x1)) + (1 : Int32)) - (16 : Int32), vL.2.1 + (1 : Int32), vL.2.2 + (1 : Int32)) ++ wD ad ca x17 ++ wC ad ca vC)) Z 0 3 dX3_append_114 (mm ww64) inx_X3 tyX3_ok nmX3 rfl (by decide) rfl rfl rfl rfl rfl rfl (Nat.le_of_ble_eq_true rfl) rfl ?_
          refine g_iconst (pc := 117) (v := 1) Z dX3_append_117 (by decide) ?_
          obtain rfl := Option.some.inj hf
          exact g_zret Z hr rfl dX3_append_118 (((((((16 : Int32) + vL.1) + (1 : Int32)) + ((2 : Int32) * x1)) + (1 : Int32)) - (16 : Int32), vL.2.1 + (1 : Int32), vL.2.2 + (1 : Int32)), x17) ⟨rfl, rfl⟩ rfl
      · replace hf := gIfN (bI_z c15) hf
        refine g_iconst (pc := 73) (v := 0) Z dX3_append_73 (by decide) ?_
        obtain rfl := Option.some.inj hf
        exact g_zret Z hr rfl dX3_append_74 (vL, x13.2) ⟨rfl, rfl⟩ rfl
/-! RedoHeap$Log.commits()I -/
def f_Log_commits (vL : LT) : Option (Int32) :=
  some vL.2.1
abbrev cd_Log_commits : Cond := .code yX3_commits cX3_commits 1 (some .int)
theorem yd_Log_commits : yX3_commits.cls ≠ "java/lang/invoke/MethodHandle" ∧ yX3_commits.cls ≠ "java/lang/invoke/VarHandle" ∧ (parseMethodDescriptor yX3_commits.desc).map (fun d => d.parameters.length) = some 0 := by decide +kernel
abbrev rm_Log_commits : Room := { frames := 0, cells := 0, slots := 0, locals := 0 }
abbrev q_Log_commits (D : va_G) (ad : Nat → Nat) (ca : Nat → ClassId) (vL : LT) (res : Int32) (A : Nat → Prop) : Array Value → State → Outcome → State → Prop := va_Qi (fun (r : Int32) (_ : Unit) => r = res) (gB D cls (tys ca) A (fun (u : Unit) => (wL ad ca vL))) A
set_option maxHeartbeats 4000000 in
set_option maxRecDepth 100000 in
theorem c_Log_commits (l : Launch) (D : va_G) (ad : Nat → Nat) (ca : Nat → ClassId) (vL : LT) (res : Int32) (hf : f_Log_commits vL = some res) (sz : Nat) : Met l yX3_commits (cd_Log_commits :: gA) rm_Log_commits (va_Pc [.ref (ad 6)] (gP D cls (tys ca) (wL ad ca vL) sz)) (q_Log_commits D ad ca vL res (va_A (wL ad ca vL) sz)) 0 0 (va_A (wL ad ca vL) sz) := by
  refine g_met (cc := cX3_commits) (Qc := q_Log_commits D ad ca vL res) (lv := [(0, .ref (ad 6))]) (own := RX3) (by decide) rfl rfl (Nat.le_of_ble_eq_true rfl) rfl sz ?_
  intro p e s m args below meth c A Z hr hnm
  unfold f_Log_commits at hf
  refine g_aload_n (pc := 0) Z 0 dX3_commits_0 rfl ?_
  refine g_get (pc := 1) (T := TX3) (N := 4) Z 0 2 dX3_commits_1 (mm ww91) inx_X3 rfl (by decide) rfl rfl rfl ?_
  obtain rfl := Option.some.inj hf
  exact g_iret Z hr dX3_commits_4 () rfl rfl
/-! RedoHeap$Log.forget()V -/
def f_Log_forget (vL : LT) (vD : DT) : Option (LT) :=
  (f_Disk_read vD (2 : Int32)).bind fun x1 => some ((0 : Int32), (0 : Int32), x1.toInt32)
abbrev cd_Log_forget : Cond := .code yX3_forget cX3_forget 1 none
theorem yd_Log_forget : yX3_forget.cls ≠ "java/lang/invoke/MethodHandle" ∧ yX3_forget.cls ≠ "java/lang/invoke/VarHandle" ∧ (parseMethodDescriptor yX3_forget.desc).map (fun d => d.parameters.length) = some 0 := by decide +kernel
abbrev rm_Log_forget : Room := { frames := 2, cells := 0, slots := 0, locals := 41 }
abbrev q_Log_forget (D : va_G) (ad : Nat → Nat) (ca : Nat → ClassId) (vD : DT) (res : LT) (A : Nat → Prop) : Array Value → State → Outcome → State → Prop := va_Qv (fun (u : LT) => u = res) (gB D cls (tys ca) A (fun (u : LT) => (wL ad ca u ++ wD ad ca vD))) A
set_option maxHeartbeats 4000000 in
set_option maxRecDepth 100000 in
theorem c_Log_forget (l : Launch) (D : va_G) (ad : Nat → Nat) (ca : Nat → ClassId) (vL : LT) (vD : DT) (res : LT) (hf : f_Log_forget vL vD = some res) (sz : Nat) : Met l yX3_forget (cd_Log_forget :: gA) rm_Log_forget (va_Pc [.ref (ad 6)] (gP D cls (tys ca) (wL ad ca vL ++ wD ad ca vD) sz)) (q_Log_forget D ad ca vD res (va_A (wL ad ca vL ++ wD ad ca vD) sz)) 0 0 (va_A (wL ad ca vL ++ wD ad ca vD) sz) := by
  refine g_met (cc := cX3_forget) (Qc := q_Log_forget D ad ca vD res) (lv := [(0, .ref (ad 6))]) (own := RX3) (by decide) rfl rfl (Nat.le_of_ble_eq_true rfl) rfl sz ?_
  intro p e s m args below meth c A Z hr hnm
  unfold f_Log_forget at hf
  refine g_aload_n (pc := 0) Z 0 dX3_forget_0 rfl ?_
  refine g_iconst (pc := 1) (v := 0) Z dX3_forget_1 (by decide) ?_
  refine g_put (pc := 2) (T := TX3) (N := 4) (ws' := (wL ad ca ((0 : Int32), vL.2.1, vL.2.2) ++ wD ad ca vD)) Z 0 1 dX3_forget_2 (mm ww65) inx_X3 tyX3_ok nmX3 rfl (by decide) rfl rfl rfl rfl rfl rfl (Nat.le_of_ble_eq_true rfl) rfl ?_
  refine g_aload_n (pc := 5) Z 0 dX3_forget_5 rfl ?_
  refine g_iconst (pc := 6) (v := 0) Z dX3_forget_6 (by decide) ?_
  refine g_put (pc := 7) (T := TX3) (N := 4) (ws' := (wL ad ca ((0 : Int32), (0 : Int32), vL.2.2) ++ wD ad ca vD)) Z 0 2 dX3_forget_7 (mm ww91) inx_X3 tyX3_ok nmX3 rfl (by decide) rfl rfl rfl rfl rfl rfl (Nat.le_of_ble_eq_true rfl) rfl ?_
  refine g_aload_n (pc := 10) Z 0 dX3_forget_10 rfl ?_
  refine g_aload_n (pc := 11) Z 0 dX3_forget_11 rfl ?_
  refine g_get (pc := 12) (T := TX3) (N := 4) Z 0 0 dX3_forget_12 (mm ww67) inx_X3 rfl (by decide) rfl rfl rfl ?_
  refine g_iconst (pc := 15) (v := 2) Z dX3_forget_15 (by decide) ?_
  obtain ⟨x1, h2, hf⟩ := Option.bind_eq_some_iff.mp hf
  refine g_calll (pc := 16) (ws2 := fun u => (wL ad ca ((0 : Int32), (0 : Int32), vL.2.2) ++ wD ad ca vD)) (wr := (wL ad ca ((0 : Int32), (0 : Int32), vL.2.2))) Z [1, 2, 3, 4, 5] [0] [0, 1, 2, 3, 4, 5] (g_runV Z (c_Disk_read l D ad ca vD (2 : Int32) x1 h2) (cwV 1 Z.2.2.2.2.1 (gg_V ww68 ww61 ww62 ww16 ww63) rfl rfl rfl (yv_of rfl yd_Disk_read) ⟨Nat.le_of_ble_eq_true rfl, Nat.le_of_ble_eq_true rfl⟩) [1, 2, 3, 4, 5] rfl (by decide) 0 rfl rfl rfl rfl rfl (Nat.le_of_ble_eq_true rfl) dX3_forget_16 ⟨Nat.le_of_ble_eq_true rfl, Nat.le_of_ble_eq_true rfl⟩) rfl rfl (by decide) (by decide) (by decide) (fun _ => rfl) (fun r u hu => ?_)
  obtain rfl := hu.symm
  refine g_l2i (pc := 19) Z dX3_forget_19 ?_
  refine g_put (pc := 20) (T := TX3) (N := 4) (ws' := (wL ad ca ((0 : Int32), (0 : Int32), x1.toInt32) ++ wD ad ca vD)) Z 0 3 dX3_forget_20 (mm ww64) inx_X3 tyX3_ok nmX3 rfl (by decide) rfl rfl rfl rfl rfl rfl (Nat.le_of_ble_eq_true rfl) rfl ?_
  obtain rfl := Option.some.inj hf
  exact g_vret Z hr dX3_forget_23 ((0 : Int32), (0 : Int32), x1.toInt32) rfl rfl
theorem ww106 : Cond.methodLink RX3 57 yX3_forget ∈ gA := wt3 64 rfl rfl
theorem ww107 : Cond.instanceMethod yX3_forget ∈ gA := wt3 57 rfl rfl
theorem ww108 : Cond.selects RX3 yX3_forget yX3_forget ∈ gA := wt3 58 rfl rfl
theorem ww109 : cd_Log_forget ∈ gA := wt3 59 rfl rfl
/-! RedoHeap$Log.findCommits()I -/
def f_Log_findCommits_10 (N : Nat) (vD : DT) : Nat → LT → Int32 → Option (Int32 × LT)
  | 0, _, _ => none
  | n + 1, vL, y1 => if y1 ≤ 0 then some (vL.2.1, vL) else if (160 : Int32) < (vL.1 + y1) then some (vL.2.1, vL) else (f_Disk_read vD (((16 : Int32) + (vL.1 + y1)) - (1 : Int32))).bind fun x3 => (f_Log_commitSize (vL.1 + y1, vL.2.1 + (1 : Int32), ((-1 : Int64) - x3).toInt32) vD (vL.1 + y1)).bind fun x5 => f_Log_findCommits_10 N vD n (vL.1 + y1, vL.2.1 + (1 : Int32), ((-1 : Int64) - x3).toInt32) x5
def f_Log_findCommits (N : Nat) (vL : LT) (vD : DT) : Option (Int32 × LT) :=
  (f_Log_forget vL vD).bind fun x7 => (f_Log_commitSize x7 vD (0 : Int32)).bind fun x9 => f_Log_findCommits_10 N vD N x7 x9
abbrev cd_Log_findCommits : Cond := .code yX3_findCommits cX3_findCommits 2 (some .int)
theorem yd_Log_findCommits : yX3_findCommits.cls ≠ "java/lang/invoke/MethodHandle" ∧ yX3_findCommits.cls ≠ "java/lang/invoke/VarHandle" ∧ (parseMethodDescriptor yX3_findCommits.desc).map (fun d => d.parameters.length) = some 0 := by decide +kernel
abbrev rm_Log_findCommits : Room := { frames := 4, cells := 0, slots := 0, locals := 86 }
abbrev q_Log_findCommits (D : va_G) (ad : Nat → Nat) (ca : Nat → ClassId) (vD : DT) (res : Int32 × LT) (A : Nat → Prop) : Array Value → State → Outcome → State → Prop := va_Qi (fun (r : Int32) (u : LT) => r = res.1 ∧ u = res.2) (gB D cls (tys ca) A (fun (u : LT) => (wL ad ca u ++ wD ad ca vD))) A
set_option maxHeartbeats 4000000 in
set_option maxRecDepth 100000 in
theorem w_Log_findCommits_10 {p : Program} {l : Launch} {e : Env} {s : State} {m : MethodId} {args : Array Value} {below : List Frame} {meth : Method} {c : Code} {D : va_G} {ad : Nat → Nat} {ca : Nat → ClassId} {A : Nat → Prop} {N : Nat} {vD : DT} {res : Int32 × LT} (Z : gZ p s m args meth c cX3_findCommits 2 RX3 (cd_Log_findCommits :: gA) A D cls (tys ca)) (hr : meth.sig.returnType = (some .int)) : ∀ (n : Nat) (vL : LT) (y1 : Int32), f_Log_findCommits_10 N vD n vL y1 = some res → gW p l e rm_Log_findCommits s m args below meth c 2 A D cls 0 0 (MQ below (q_Log_findCommits D ad ca vD res A) args s 0 0 A) (wL ad ca vL ++ wD ad ca vD) [(0, .ref (ad 6)), (1, .int y1)] 10 [] := by
  intro n
  induction n with
  | zero =>
    intro vL y1 hf
    exact absurd hf (by rw [f_Log_findCommits_10]; exact fun h => by cases h)
  | succ n ih =>
    intro vL y1 hf
    rw [f_Log_findCommits_10] at hf
    refine g_iload_n (pc := 10) Z 1 dX3_findCommits_10 rfl ?_
    refine g_if_le (pc := 11) (tgt := 83) Z dX3_findCommits_11 (by decide) (fun c1 => ?_) (fun c1 => ?_)
    · replace hf := gIfP c1 hf
      refine g_aload_n (pc := 83) Z 0 dX3_findCommits_83 rfl ?_
      refine g_get (pc := 84) (T := TX3) (N := 4) Z 0 2 dX3_findCommits_84 (mm ww91) inx_X3 rfl (by decide) rfl rfl rfl ?_
      obtain rfl := Option.some.inj hf
      exact g_iret Z hr dX3_findCommits_87 vL ⟨rfl, rfl⟩ rfl
    · replace hf := gIfN c1 hf
      refine g_aload_n (pc := 14) Z 0 dX3_findCommits_14 rfl ?_
      refine g_get (pc := 15) (T := TX3) (N := 4) Z 0 1 dX3_findCommits_15 (mm ww65) inx_X3 rfl (by decide) rfl rfl rfl ?_
      refine g_iload_n (pc := 18) Z 1 dX3_findCommits_18 rfl ?_
      refine g_iadd (pc := 19) Z dX3_findCommits_19 ?_
      refine g_sipush (pc := 20) (v := 160) Z dX3_findCommits_20 (by decide) ?_
      refine g_icmp_gt (pc := 23) (tgt := 83) Z dX3_findCommits_23 (by decide) (fun c2 => ?_) (fun c2 => ?_)
      · replace hf := gIfP c2 hf
        refine g_aload_n (pc := 83) Z 0 dX3_findCommits_83 rfl ?_
        refine g_get (pc := 84) (T := TX3) (N := 4) Z 0 2 dX3_findCommits_84 (mm ww91) inx_X3 rfl (by decide) rfl rfl rfl ?_
        obtain rfl := Option.some.inj hf
        exact g_iret Z hr dX3_findCommits_87 vL ⟨rfl, rfl⟩ rfl
      · replace hf := gIfN c2 hf
        refine g_aload_n (pc := 26) Z 0 dX3_findCommits_26 rfl ?_
        refine g_dup (pc := 27) Z dX3_findCommits_27 rfl ?_
        refine g_get (pc := 28) (T := TX3) (N := 4) Z 0 1 dX3_findCommits_28 (mm ww65) inx_X3 rfl (by decide) rfl rfl rfl ?_
        refine g_iload_n (pc := 31) Z 1 dX3_findCommits_31 rfl ?_
        refine g_iadd (pc := 32) Z dX3_findCommits_32 ?_
        refine g_put (pc := 33) (T := TX3) (N := 4) (ws' := (wL ad ca (vL.1 + y1, vL.2.1, vL.2.2) ++ wD ad ca vD)) Z 0 1 dX3_findCommits_33 (mm ww65) inx_X3 tyX3_ok nmX3 rfl (by decide) rfl rfl rfl rfl rfl rfl (Nat.le_of_ble_eq_true rfl) rfl ?_
        refine g_aload_n (pc := 36) Z 0 dX3_findCommits_36 rfl ?_
        refine g_dup (pc := 37) Z dX3_findCommits_37 rfl ?_
        refine g_get (pc := 38) (T := TX3) (N := 4) Z 0 2 dX3_findCommits_38 (mm ww91) inx_X3 rfl (by decide) rfl rfl rfl ?_
        refine g_iconst (pc := 41) (v := 1) Z dX3_findCommits_41 (by decide) ?_
        refine g_iadd (pc := 42) Z dX3_findCommits_42 ?_
        refine g_put (pc := 43) (T := TX3) (N := 4) (ws' := (wL ad ca (vL.1 + y1, vL.2.1 + (1 : Int32), vL.2.2) ++ wD ad ca vD)) Z 0 2 dX3_findCommits_43 (mm ww91) inx_X3 tyX3_ok nmX3 rfl (by decide) rfl rfl rfl rfl rfl rfl (Nat.le_of_ble_eq_true rfl) rfl ?_
        refine g_aload_n (pc := 46) Z 0 dX3_findCommits_46 rfl ?_
        refine g_ldc2 (pc := 47) (v := -1) Z dX3_findCommits_47 (mm ww105) ?_
        refine g_aload_n (pc := 50) Z 0 dX3_findCommits_50 rfl ?_
        refine g_get (pc := 51) (T := TX3) (N := 4) Z 0 0 dX3_findCommits_51 (mm ww67) inx_X3 rfl (by decide) rfl rfl rfl ?_
        refine g_bipush (pc := 54) (v := 16) Z dX3_findCommits_54 (by decide) ?_
        refine g_aload_n (pc := 56) Z 0 dX3_findCommits_56 rfl ?_
        refine g_get (pc := 57) (T := TX3) (N := 4) Z 0 1 dX3_findCommits_57 (mm ww65) inx_X3 rfl (by decide) rfl rfl rfl ?_
        refine g_iadd (pc := 60) Z dX3_findCommits_60 ?_
        refine g_iconst (pc := 61) (v := 1) Z dX3_findCommits_61 (by decide) ?_
        refine g_isub (pc := 62) Z dX3_findCommits_62 ?_
        obtain ⟨x3, h4, hf⟩ := Option.bind_eq_some_iff.mp hf
        refine g_calll (pc := 63) (ws2 := fun u => (wL ad ca (vL.1 + y1, vL.2.1 + (1 : Int32), vL.2.2) ++ wD ad ca vD)) (wr := (wL ad ca (vL.1 + y1, vL.2.1 + (1 : Int32), vL.2.2))) Z [1, 2, 3, 4, 5] [0] [0, 1, 2, 3, 4, 5] (g_runV Z (c_Disk_read l D ad ca vD (((16 : Int32) + (vL.1 + y1)) - (1 : Int32)) x3 h4) (cwV 1 Z.2.2.2.2.1 (gg_V ww68 ww61 ww62 ww16 ww63) rfl rfl rfl (yv_of rfl yd_Disk_read) ⟨Nat.le_of_ble_eq_true rfl, Nat.le_of_ble_eq_true rfl⟩) [1, 2, 3, 4, 5] rfl (by decide) 0 rfl rfl rfl rfl rfl (Nat.le_of_ble_eq_true rfl) dX3_findCommits_63 ⟨Nat.le_of_ble_eq_true rfl, Nat.le_of_ble_eq_true rfl⟩) rfl rfl (by decide) (by decide) (by decide) (fun _ => rfl) (fun r u hu => ?_)
        obtain rfl := hu.symm
        refine g_lsub (pc := 66) Z dX3_findCommits_66 ?_
        refine g_l2i (pc := 67) Z dX3_findCommits_67 ?_
        refine g_put (pc := 68) (T := TX3) (N := 4) (ws' := (wL ad ca (vL.1 + y1, vL.2.1 + (1 : Int32), ((-1 : Int64) - x3).toInt32) ++ wD ad ca vD)) Z 0 3 dX3_findCommits_68 (mm ww64) inx_X3 tyX3_ok nmX3 rfl (by decide) rfl rfl rfl rfl rfl rfl (Nat.le_of_ble_eq_true rfl) rfl ?_
        refine g_aload_n (pc := 71) Z 0 dX3_findCommits_71 rfl ?_
        refine g_aload_n (pc := 72) Z 0 dX3_findCommits_72 rfl ?_
        refine g_get (pc := 73) (T := TX3) (N := 4) Z 0 1 dX3_findCommits_73 (mm ww65) inx_X3 rfl (by decide) rfl rfl rfl ?_
        obtain ⟨x5, h6, hf⟩ := Option.bind_eq_some_iff.mp hf
        refine g_calli (pc := 76) (ws2 := fun u => (wL ad ca (vL.1 + y1, vL.2.1 + (1 : Int32), ((-1 : Int64) - x3).toInt32) ++ wD ad ca vD)) (wr := ([] : va_W)) Z [0, 1, 2, 3, 4, 5] [] [0, 1, 2, 3, 4, 5] (g_runV Z (c_Log_commitSize l D ad ca (vL.1 + y1, vL.2.1 + (1 : Int32), ((-1 : Int64) - x3).toInt32) vD (vL.1 + y1) x5 h6) (cwV 1 Z.2.2.2.2.1 (gg_V ww75 ww76 ww77 ww72 ww78) rfl rfl rfl (yv_of rfl yd_Log_commitSize) ⟨Nat.le_of_ble_eq_true rfl, Nat.le_of_ble_eq_true rfl⟩) [0, 1, 2, 3, 4, 5] rfl (by decide) 0 rfl rfl rfl rfl rfl (Nat.le_of_ble_eq_true rfl) dX3_findCommits_76 ⟨Nat.le_of_ble_eq_true rfl, Nat.le_of_ble_eq_true rfl⟩) rfl rfl (by decide) (by decide) (by decide) (fun _ => rfl) (fun r u hu => ?_)
        obtain rfl := hu.symm
        refine g_istore_n (pc := 79) (lv' := [(1, .int x5), (0, .ref (ad 6))]) Z dX3_findCommits_79 (by decide) rfl ?_
        refine g_goto (pc := 80) (tgt := 10) Z dX3_findCommits_80 (by decide) ?_
        refine g_locals (lv2 := [(0, .ref (ad 6)), (1, .int x5)]) [1, 0] rfl ?_
        exact ih _ _ hf
set_option maxHeartbeats 4000000 in
set_option maxRecDepth 100000 in
theorem c_Log_findCommits (l : Launch) (D : va_G) (ad : Nat → Nat) (ca : Nat → ClassId) (N : Nat) (vL : LT) (vD : DT) (res : Int32 × LT) (hf : f_Log_findCommits N vL vD = some res) (sz : Nat) : Met l yX3_findCommits (cd_Log_findCommits :: gA) rm_Log_findCommits (va_Pc [.ref (ad 6)] (gP D cls (tys ca) (wL ad ca vL ++ wD ad ca vD) sz)) (q_Log_findCommits D ad ca vD res (va_A (wL ad ca vL ++ wD ad ca vD) sz)) 0 0 (va_A (wL ad ca vL ++ wD ad ca vD) sz) := by
  refine g_met (cc := cX3_findCommits) (Qc := q_Log_findCommits D ad ca vD res) (lv := [(0, .ref (ad 6))]) (own := RX3) (by decide) rfl rfl (Nat.le_of_ble_eq_true rfl) rfl sz ?_
  intro p e s m args below meth c A Z hr hnm
  unfold f_Log_findCommits at hf
  refine g_aload_n (pc := 0) Z 0 dX3_findCommits_0 rfl ?_
  obtain ⟨x7, h8, hf⟩ := Option.bind_eq_some_iff.mp hf
  refine g_callv (pc := 1) (ws2 := fun u => (wL ad ca u ++ wD ad ca vD)) (wr := ([] : va_W)) Z [0, 1, 2, 3, 4, 5] [] [0, 1, 2, 3, 4, 5] (g_runV Z (c_Log_forget l D ad ca vL vD x7 h8) (cwV 0 Z.2.2.2.2.1 (gg_V ww106 ww107 ww108 ww72 ww109) rfl rfl rfl (yv_of rfl yd_Log_forget) ⟨Nat.le_of_ble_eq_true rfl, Nat.le_of_ble_eq_true rfl⟩) [0, 1, 2, 3, 4, 5] rfl (by decide) 0 rfl rfl rfl rfl rfl (Nat.le_of_ble_eq_true rfl) dX3_findCommits_1 ⟨Nat.le_of_ble_eq_true rfl, Nat.le_of_ble_eq_true rfl⟩) rfl rfl (by decide) (by decide) (by decide) (fun _ => rfl) (fun u hu => ?_)
  obtain rfl := hu.symm
  refine g_aload_n (pc := 4) Z 0 dX3_findCommits_4 rfl ?_
  refine g_iconst (pc := 5) (v := 0) Z dX3_findCommits_5 (by decide) ?_
  obtain ⟨x9, h10, hf⟩ := Option.bind_eq_some_iff.mp hf
  refine g_calli (pc := 6) (ws2 := fun u => (wL ad ca x7 ++ wD ad ca vD)) (wr := ([] : va_W)) Z [0, 1, 2, 3, 4, 5] [] [0, 1, 2, 3, 4, 5] (g_runV Z (c_Log_commitSize l D ad ca x7 vD (0 : Int32) x9 h10) (cwV 1 Z.2.2.2.2.1 (gg_V ww75 ww76 ww77 ww72 ww78) rfl rfl rfl (yv_of rfl yd_Log_commitSize) ⟨Nat.le_of_ble_eq_true rfl, Nat.le_of_ble_eq_true rfl⟩) [0, 1, 2, 3, 4, 5] rfl (by decide) 0 rfl rfl rfl rfl rfl (Nat.le_of_ble_eq_true rfl) dX3_findCommits_6 ⟨Nat.le_of_ble_eq_true rfl, Nat.le_of_ble_eq_true rfl⟩) rfl rfl (by decide) (by decide) (by decide) (fun _ => rfl) (fun r u hu => ?_)
  obtain rfl := hu.symm
  refine g_istore_n (pc := 9) (lv' := [(1, .int x9), (0, .ref (ad 6))]) Z dX3_findCommits_9 (by decide) rfl ?_
  refine g_locals (lv2 := [(0, .ref (ad 6)), (1, .int x9)]) [1, 0] rfl ?_
  exact w_Log_findCommits_10 Z hr N _ _ hf
/-! RedoHeap$Log.dirtyWords()I -/
def f_Log_dirtyWords_4 (N : Nat) (vL : LT) (vD : DT) : Nat → Int32 → Option (Int32)
  | 0, _ => none
  | n + 1, y1 => if y1 ≤ 0 then some (0 : Int32) else (f_Disk_read vD (((16 : Int32) + y1) - (1 : Int32))).bind fun x2 => if (lg_cmp x2 (0 : Int64)) = 0 then f_Log_dirtyWords_4 N vL vD n (y1 + (-1 : Int32)) else some y1
def f_Log_dirtyWords (N : Nat) (vL : LT) (vD : DT) : Option (Int32) :=
  f_Log_dirtyWords_4 N vL vD N (160 : Int32)
abbrev cd_Log_dirtyWords : Cond := .code yX3_dirtyWords cX3_dirtyWords 2 (some .int)
theorem yd_Log_dirtyWords : yX3_dirtyWords.cls ≠ "java/lang/invoke/MethodHandle" ∧ yX3_dirtyWords.cls ≠ "java/lang/invoke/VarHandle" ∧ (parseMethodDescriptor yX3_dirtyWords.desc).map (fun d => d.parameters.length) = some 0 := by decide +kernel
abbrev rm_Log_dirtyWords : Room := { frames := 2, cells := 0, slots := 0, locals := 41 }
abbrev q_Log_dirtyWords (D : va_G) (ad : Nat → Nat) (ca : Nat → ClassId) (vL : LT) (vD : DT) (res : Int32) (A : Nat → Prop) : Array Value → State → Outcome → State → Prop := va_Qi (fun (r : Int32) (_ : Unit) => r = res) (gB D cls (tys ca) A (fun (u : Unit) => (wL ad ca vL ++ wD ad ca vD))) A
set_option maxHeartbeats 4000000 in
set_option maxRecDepth 100000 in
theorem w_Log_dirtyWords_4 {p : Program} {l : Launch} {e : Env} {s : State} {m : MethodId} {args : Array Value} {below : List Frame} {meth : Method} {c : Code} {D : va_G} {ad : Nat → Nat} {ca : Nat → ClassId} {A : Nat → Prop} {N : Nat} {vL : LT} {vD : DT} {res : Int32} (Z : gZ p s m args meth c cX3_dirtyWords 2 RX3 (cd_Log_dirtyWords :: gA) A D cls (tys ca)) (hr : meth.sig.returnType = (some .int)) : ∀ (n : Nat) (y1 : Int32), f_Log_dirtyWords_4 N vL vD n y1 = some res → gW p l e rm_Log_dirtyWords s m args below meth c 2 A D cls 0 0 (MQ below (q_Log_dirtyWords D ad ca vL vD res A) args s 0 0 A) (wL ad ca vL ++ wD ad ca vD) [(0, .ref (ad 6)), (1, .int y1)] 4 [] := by
  intro n
  induction n with
  | zero =>
    intro y1 hf
    exact absurd hf (by rw [f_Log_dirtyWords_4]; exact fun h => by cases h)
  | succ n ih =>
    intro y1 hf
    rw [f_Log_dirtyWords_4] at hf
    refine g_iload_n (pc := 4) Z 1 dX3_dirtyWords_4 rfl ?_
    refine g_if_le (pc := 5) (tgt := 34) Z dX3_dirtyWords_5 (by decide) (fun c1 => ?_) (fun c1 => ?_)
    · replace hf := gIfP c1 hf
      refine g_iconst (pc := 34) (v := 0) Z dX3_dirtyWords_34 (by decide) ?_
      obtain rfl := Option.some.inj hf
      exact g_iret Z hr dX3_dirtyWords_35 () rfl rfl
    · replace hf := gIfN c1 hf
      refine g_aload_n (pc := 8) Z 0 dX3_dirtyWords_8 rfl ?_
      refine g_get (pc := 9) (T := TX3) (N := 4) Z 0 0 dX3_dirtyWords_9 (mm ww67) inx_X3 rfl (by decide) rfl rfl rfl ?_
      refine g_bipush (pc := 12) (v := 16) Z dX3_dirtyWords_12 (by decide) ?_
      refine g_iload_n (pc := 14) Z 1 dX3_dirtyWords_14 rfl ?_
      refine g_iadd (pc := 15) Z dX3_dirtyWords_15 ?_
      refine g_iconst (pc := 16) (v := 1) Z dX3_dirtyWords_16 (by decide) ?_
      refine g_isub (pc := 17) Z dX3_dirtyWords_17 ?_
      obtain ⟨x2, h3, hf⟩ := Option.bind_eq_some_iff.mp hf
      refine g_calll (pc := 18) (ws2 := fun u => (wL ad ca vL ++ wD ad ca vD)) (wr := (wL ad ca vL)) Z [1, 2, 3, 4, 5] [0] [0, 1, 2, 3, 4, 5] (g_runV Z (c_Disk_read l D ad ca vD (((16 : Int32) + y1) - (1 : Int32)) x2 h3) (cwV 1 Z.2.2.2.2.1 (gg_V ww68 ww61 ww62 ww16 ww63) rfl rfl rfl (yv_of rfl yd_Disk_read) ⟨Nat.le_of_ble_eq_true rfl, Nat.le_of_ble_eq_true rfl⟩) [1, 2, 3, 4, 5] rfl (by decide) 0 rfl rfl rfl rfl rfl (Nat.le_of_ble_eq_true rfl) dX3_dirtyWords_18 ⟨Nat.le_of_ble_eq_true rfl, Nat.le_of_ble_eq_true rfl⟩) rfl rfl (by decide) (by decide) (by decide) (fun _ => rfl) (fun r u hu => ?_)
      obtain rfl := hu.symm
      refine g_lconst (pc := 21) (v := 0) Z dX3_dirtyWords_21 (by decide) ?_
      refine g_lcmp (pc := 22) Z dX3_dirtyWords_22 ?_
      refine g_if_eq (pc := 23) (tgt := 28) Z dX3_dirtyWords_23 (by decide) (fun c4 => ?_) (fun c4 => ?_)
      · replace hf := gIfP c4 hf
        refine g_iinc (pc := 28) (v := y1 + (-1 : Int32)) (lv' := [(1, .int (y1 + (-1 : Int32))), (0, .ref (ad 6))]) Z 1 dX3_dirtyWords_28 rfl rfl (by decide) rfl ?_
        refine g_goto (pc := 31) (tgt := 4) Z dX3_dirtyWords_31 (by decide) ?_
        refine g_locals (lv2 := [(0, .ref (ad 6)), (1, .int (y1 + (-1 : Int32)))]) [1, 0] rfl ?_
        exact ih _ hf
      · replace hf := gIfN c4 hf
        refine g_iload_n (pc := 26) Z 1 dX3_dirtyWords_26 rfl ?_
        obtain rfl := Option.some.inj hf
        exact g_iret Z hr dX3_dirtyWords_27 () rfl rfl
set_option maxHeartbeats 4000000 in
set_option maxRecDepth 100000 in
theorem c_Log_dirtyWords (l : Launch) (D : va_G) (ad : Nat → Nat) (ca : Nat → ClassId) (N : Nat) (vL : LT) (vD : DT) (res : Int32) (hf : f_Log_dirtyWords N vL vD = some res) (sz : Nat) : Met l yX3_dirtyWords (cd_Log_dirtyWords :: gA) rm_Log_dirtyWords (va_Pc [.ref (ad 6)] (gP D cls (tys ca) (wL ad ca vL ++ wD ad ca vD) sz)) (q_Log_dirtyWords D ad ca vL vD res (va_A (wL ad ca vL ++ wD ad ca vD) sz)) 0 0 (va_A (wL ad ca vL ++ wD ad ca vD) sz) := by
  refine g_met (cc := cX3_dirtyWords) (Qc := q_Log_dirtyWords D ad ca vL vD res) (lv := [(0, .ref (ad 6))]) (own := RX3) (by decide) rfl rfl (Nat.le_of_ble_eq_true rfl) rfl sz ?_
  intro p e s m args below meth c A Z hr hnm
  unfold f_Log_dirtyWords at hf
  refine g_sipush (pc := 0) (v := 160) Z dX3_dirtyWords_0 (by decide) ?_
  refine g_istore_n (pc := 3) (lv' := [(1, .int (160 : Int32)), (0, .ref (ad 6))]) Z dX3_dirtyWords_3 (by decide) rfl ?_
  refine g_locals (lv2 := [(0, .ref (ad 6)), (1, .int (160 : Int32))]) [1, 0] rfl ?_
  exact w_Log_dirtyWords_4 Z hr N _ hf
end
section
theorem ww110 : Cond.fieldLink RX0 9 "RedoHeap$Blocks" "words" "LRedoHeap$Changes;" ∈ gA := wt1 119 rfl rfl
theorem ww111 : Cond.methodLink RX0 15 yX1_read ∈ gA := wt2 38 rfl rfl
/-! RedoHeap$Blocks.isUsed(I)Z -/
def f_Blk_isUsed (vC : CT) (p1 : Int32) : Option (Bool) :=
  (f_Chg_read vC p1).bind fun x1 => if (lg_cmp (x1 &&& (1 : Int64)) (1 : Int64)) = 0 then some true else some false
abbrev cd_Blk_isUsed : Cond := .code yX0_isUsed cX0_isUsed 2 (some .boolean)
theorem yd_Blk_isUsed : yX0_isUsed.cls ≠ "java/lang/invoke/MethodHandle" ∧ yX0_isUsed.cls ≠ "java/lang/invoke/VarHandle" ∧ (parseMethodDescriptor yX0_isUsed.desc).map (fun d => d.parameters.length) = some 1 := by decide +kernel
abbrev rm_Blk_isUsed : Room := { frames := 2, cells := 0, slots := 0, locals := 41 }
abbrev q_Blk_isUsed (D : va_G) (ad : Nat → Nat) (ca : Nat → ClassId) (vC : CT) (res : Bool) (A : Nat → Prop) : Array Value → State → Outcome → State → Prop := va_Qi (fun (r : Int32) (_ : Unit) => r = bI res) (gB D cls (tys ca) A (fun (u : Unit) => (wB ad ++ wC ad ca vC))) A
set_option maxHeartbeats 4000000 in
set_option maxRecDepth 100000 in
theorem c_Blk_isUsed (l : Launch) (D : va_G) (ad : Nat → Nat) (ca : Nat → ClassId) (vC : CT) (p1 : Int32) (res : Bool) (hf : f_Blk_isUsed vC p1 = some res) (sz : Nat) : Met l yX0_isUsed (cd_Blk_isUsed :: gA) rm_Blk_isUsed (va_Pc [.ref (ad 12), .int p1] (gP D cls (tys ca) (wB ad ++ wC ad ca vC) sz)) (q_Blk_isUsed D ad ca vC res (va_A (wB ad ++ wC ad ca vC) sz)) 0 0 (va_A (wB ad ++ wC ad ca vC) sz) := by
  refine g_met (cc := cX0_isUsed) (Qc := q_Blk_isUsed D ad ca vC res) (lv := [(0, .ref (ad 12)), (1, .int p1)]) (own := RX0) (by decide) rfl rfl (Nat.le_of_ble_eq_true rfl) rfl sz ?_
  intro p e s m args below meth c A Z hr hnm
  unfold f_Blk_isUsed at hf
  refine g_aload_n (pc := 0) Z 0 dX0_isUsed_0 rfl ?_
  refine g_get (pc := 1) (T := TX0) (N := 1) Z 0 0 dX0_isUsed_1 (mm ww110) inx_X0 rfl (by decide) rfl rfl rfl ?_
  refine g_iload_n (pc := 4) Z 1 dX0_isUsed_4 rfl ?_
  obtain ⟨x1, h2, hf⟩ := Option.bind_eq_some_iff.mp hf
  refine g_calll (pc := 5) (ws2 := fun u => (wB ad ++ wC ad ca vC)) (wr := (wB ad)) Z [1, 2, 3, 4, 5] [0] [0, 1, 2, 3, 4, 5] (g_runV Z (c_Chg_read l D ad ca vC p1 x1 h2) (cwV 1 Z.2.2.2.2.1 (gg_V ww111 ww98 ww99 ww40 ww100) rfl rfl rfl (yv_of rfl yd_Chg_read) ⟨Nat.le_of_ble_eq_true rfl, Nat.le_of_ble_eq_true rfl⟩) [1, 2, 3, 4, 5] rfl (by decide) 0 rfl rfl rfl rfl rfl (Nat.le_of_ble_eq_true rfl) dX0_isUsed_5 ⟨Nat.le_of_ble_eq_true rfl, Nat.le_of_ble_eq_true rfl⟩) rfl rfl (by decide) (by decide) (by decide) (fun _ => rfl) (fun r u hu => ?_)
  obtain rfl := hu.symm
  refine g_lconst (pc := 8) (v := 1) Z dX0_isUsed_8 (by decide) ?_
  refine g_land (pc := 9) Z dX0_isUsed_9 ?_
  refine g_lconst (pc := 10) (v := 1) Z dX0_isUsed_10 (by decide) ?_
  refine g_lcmp (pc := 11) Z dX0_isUsed_11 ?_
  refine g_if_ne (pc := 12) (tgt := 19) Z dX0_isUsed_12 (by decide) (fun c3 => ?_) (fun c3 => ?_)
  · replace hf := gIfN c3 hf
    refine g_iconst (pc := 19) (v := 0) Z dX0_isUsed_19 (by decide) ?_
    obtain rfl := Option.some.inj hf
    exact g_zret Z hr rfl dX0_isUsed_20 () rfl rfl
  · replace hf := gIfP c3 hf
    refine g_iconst (pc := 15) (v := 1) Z dX0_isUsed_15 (by decide) ?_
    refine g_goto (pc := 16) (tgt := 20) Z dX0_isUsed_16 (by decide) ?_
    obtain rfl := Option.some.inj hf
    exact g_zret Z hr rfl dX0_isUsed_20 () rfl rfl
theorem ww112 : Jvm.Cond.constantLong RX0 21 (1023) ∈ gA := wt2 49 rfl rfl
/-! RedoHeap$Blocks.sizeAt(I)I -/
def f_Blk_sizeAt (vC : CT) (p1 : Int32) : Option (Int32) :=
  (f_Chg_read vC p1).bind fun x1 => if p1 < (176 : Int32) then if (0 : Int32) = 0 then some (0 : Int32) else some ((x1 >>> ((1 : Int32).toInt64 &&& 63)).toInt32) else if (lg_cmp (x1 >>> ((1 : Int32).toInt64 &&& 63)) (1 : Int64)) < 0 then if (0 : Int32) = 0 then some (0 : Int32) else some ((x1 >>> ((1 : Int32).toInt64 &&& 63)).toInt32) else if 0 < (lg_cmp (x1 >>> ((1 : Int32).toInt64 &&& 63)) ((1023 : Int64) - p1.toInt64)) then if (0 : Int32) = 0 then some (0 : Int32) else some ((x1 >>> ((1 : Int32).toInt64 &&& 63)).toInt32) else if (1 : Int32) = 0 then some (0 : Int32) else some ((x1 >>> ((1 : Int32).toInt64 &&& 63)).toInt32)
abbrev cd_Blk_sizeAt : Cond := .code yX0_sizeAt cX0_sizeAt 5 (some .int)
theorem yd_Blk_sizeAt : yX0_sizeAt.cls ≠ "java/lang/invoke/MethodHandle" ∧ yX0_sizeAt.cls ≠ "java/lang/invoke/VarHandle" ∧ (parseMethodDescriptor yX0_sizeAt.desc).map (fun d => d.parameters.length) = some 1 := by decide +kernel
abbrev rm_Blk_sizeAt : Room := { frames := 2, cells := 0, slots := 0, locals := 41 }
abbrev q_Blk_sizeAt (D : va_G) (ad : Nat → Nat) (ca : Nat → ClassId) (vC : CT) (res : Int32) (A : Nat → Prop) : Array Value → State → Outcome → State → Prop := va_Qi (fun (r : Int32) (_ : Unit) => r = res) (gB D cls (tys ca) A (fun (u : Unit) => (wB ad ++ wC ad ca vC))) A
set_option maxHeartbeats 4000000 in
set_option maxRecDepth 100000 in
theorem c_Blk_sizeAt (l : Launch) (D : va_G) (ad : Nat → Nat) (ca : Nat → ClassId) (vC : CT) (p1 : Int32) (res : Int32) (hf : f_Blk_sizeAt vC p1 = some res) (sz : Nat) : Met l yX0_sizeAt (cd_Blk_sizeAt :: gA) rm_Blk_sizeAt (va_Pc [.ref (ad 12), .int p1] (gP D cls (tys ca) (wB ad ++ wC ad ca vC) sz)) (q_Blk_sizeAt D ad ca vC res (va_A (wB ad ++ wC ad ca vC) sz)) 0 0 (va_A (wB ad ++ wC ad ca vC) sz) := by
  refine g_met (cc := cX0_sizeAt) (Qc := q_Blk_sizeAt D ad ca vC res) (lv := [(0, .ref (ad 12)), (1, .int p1)]) (own := RX0) (by decide) rfl rfl (Nat.le_of_ble_eq_true rfl) rfl sz ?_
  intro p e s m args below meth c A Z hr hnm
  unfold f_Blk_sizeAt at hf
  refine g_aload_n (pc := 0) Z 0 dX0_sizeAt_0 rfl ?_
  refine g_get (pc := 1) (T := TX0) (N := 1) Z 0 0 dX0_sizeAt_1 (mm ww110) inx_X0 rfl (by decide) rfl rfl rfl ?_
  refine g_iload_n (pc := 4) Z 1 dX0_sizeAt_4 rfl ?_
  obtain ⟨x1, h2, hf⟩ := Option.bind_eq_some_iff.mp hf
  refine g_calll (pc := 5) (ws2 := fun u => (wB ad ++ wC ad ca vC)) (wr := (wB ad)) Z [1, 2, 3, 4, 5] [0] [0, 1, 2, 3, 4, 5] (g_runV Z (c_Chg_read l D ad ca vC p1 x1 h2) (cwV 1 Z.2.2.2.2.1 (gg_V ww111 ww98 ww99 ww40 ww100) rfl rfl rfl (yv_of rfl yd_Chg_read) ⟨Nat.le_of_ble_eq_true rfl, Nat.le_of_ble_eq_true rfl⟩) [1, 2, 3, 4, 5] rfl (by decide) 0 rfl rfl rfl rfl rfl (Nat.le_of_ble_eq_true rfl) dX0_sizeAt_5 ⟨Nat.le_of_ble_eq_true rfl, Nat.le_of_ble_eq_true rfl⟩) rfl rfl (by decide) (by decide) (by decide) (fun _ => rfl) (fun r u hu => ?_)
  obtain rfl := hu.symm
  refine g_iconst (pc := 8) (v := 1) Z dX0_sizeAt_8 (by decide) ?_
  refine g_lshr (pc := 9) Z dX0_sizeAt_9 ?_
  refine g_lstore_n (pc := 10) (lv' := [(2, .long (x1 >>> ((1 : Int32).toInt64 &&& 63))), (0, .ref (ad 12)), (1, .int p1)]) Z dX0_sizeAt_10 (by decide) rfl ?_
  refine g_iload_n (pc := 11) Z 2 dX0_sizeAt_11 rfl ?_
  refine g_sipush (pc := 12) (v := 176) Z dX0_sizeAt_12 (by decide) ?_
  refine g_icmp_lt (pc := 15) (tgt := 39) Z dX0_sizeAt_15 (by decide) (fun c3 => ?_) (fun c3 => ?_)
  · replace hf := gIfP c3 hf
    refine g_iconst (pc := 39) (v := 0) Z dX0_sizeAt_39 (by decide) ?_
    refine g_istore (pc := 40) (lv' := [(4, .int (0 : Int32)), (2, .long (x1 >>> ((1 : Int32).toInt64 &&& 63))), (0, .ref (ad 12)), (1, .int p1)]) Z dX0_sizeAt_40 (by decide) rfl ?_
    refine g_iload (pc := 42) Z 0 dX0_sizeAt_42 rfl ?_
    refine g_if_eq (pc := 44) (tgt := 52) Z dX0_sizeAt_44 (by decide) (fun c4 => ?_) (fun c4 => ?_)
    · replace hf := gIfP c4 hf
      refine g_iconst (pc := 52) (v := 0) Z dX0_sizeAt_52 (by decide) ?_
      obtain rfl := Option.some.inj hf
      exact g_iret Z hr dX0_sizeAt_53 () rfl rfl
    · replace hf := gIfN c4 hf
      refine g_lload_n (pc := 47) Z 1 dX0_sizeAt_47 rfl ?_
      refine g_l2i (pc := 48) Z dX0_sizeAt_48 ?_
      refine g_goto (pc := 49) (tgt := 53) Z dX0_sizeAt_49 (by decide) ?_
      obtain rfl := Option.some.inj hf
      exact g_iret Z hr dX0_sizeAt_53 () rfl rfl
  · replace hf := gIfN c3 hf
    refine g_lload_n (pc := 18) Z 0 dX0_sizeAt_18 rfl ?_
    refine g_lconst (pc := 19) (v := 1) Z dX0_sizeAt_19 (by decide) ?_
    refine g_lcmp (pc := 20) Z dX0_sizeAt_20 ?_
    refine g_if_lt (pc := 21) (tgt := 39) Z dX0_sizeAt_21 (by decide) (fun c5 => ?_) (fun c5 => ?_)
    · replace hf := gIfP c5 hf
      refine g_iconst (pc := 39) (v := 0) Z dX0_sizeAt_39 (by decide) ?_
      refine g_istore (pc := 40) (lv' := [(4, .int (0 : Int32)), (2, .long (x1 >>> ((1 : Int32).toInt64 &&& 63))), (0, .ref (ad 12)), (1, .int p1)]) Z dX0_sizeAt_40 (by decide) rfl ?_
      refine g_iload (pc := 42) Z 0 dX0_sizeAt_42 rfl ?_
      refine g_if_eq (pc := 44) (tgt := 52) Z dX0_sizeAt_44 (by decide) (fun c6 => ?_) (fun c6 => ?_)
      · replace hf := gIfP c6 hf
        refine g_iconst (pc := 52) (v := 0) Z dX0_sizeAt_52 (by decide) ?_
        obtain rfl := Option.some.inj hf
        exact g_iret Z hr dX0_sizeAt_53 () rfl rfl
      · replace hf := gIfN c6 hf
        refine g_lload_n (pc := 47) Z 1 dX0_sizeAt_47 rfl ?_
        refine g_l2i (pc := 48) Z dX0_sizeAt_48 ?_
        refine g_goto (pc := 49) (tgt := 53) Z dX0_sizeAt_49 (by decide) ?_
        obtain rfl := Option.some.inj hf
        exact g_iret Z hr dX0_sizeAt_53 () rfl rfl
    · replace hf := gIfN c5 hf
      refine g_lload_n (pc := 24) Z 0 dX0_sizeAt_24 rfl ?_
      refine g_ldc2 (pc := 25) (v := 1023) Z dX0_sizeAt_25 (mm ww112) ?_
      refine g_iload_n (pc := 28) Z 2 dX0_sizeAt_28 rfl ?_
      refine g_i2l (pc := 29) Z dX0_sizeAt_29 ?_
      refine g_lsub (pc := 30) Z dX0_sizeAt_30 ?_
      refine g_lcmp (pc := 31) Z dX0_sizeAt_31 ?_
      refine g_if_gt (pc := 32) (tgt := 39) Z dX0_sizeAt_32 (by decide) (fun c7 => ?_) (fun c7 => ?_)
      · replace hf := gIfP c7 hf
        refine g_iconst (pc := 39) (v := 0) Z dX0_sizeAt_39 (by decide) ?_
        refine g_istore (pc := 40) (lv' := [(4, .int (0 : Int32)), (2, .long (x1 >>> ((1 : Int32).toInt64 &&& 63))), (0, .ref (ad 12)), (1, .int p1)]) Z dX0_sizeAt_40 (by decide) rfl ?_
        refine g_iload (pc := 42) Z 0 dX0_sizeAt_42 rfl ?_
        refine g_if_eq (pc := 44) (tgt := 52) Z dX0_sizeAt_44 (by decide) (fun c8 => ?_) (fun c8 => ?_)
        · replace hf := gIfP c8 hf
          refine g_iconst (pc := 52) (v := 0) Z dX0_sizeAt_52 (by decide) ?_
          obtain rfl := Option.some.inj hf
          exact g_iret Z hr dX0_sizeAt_53 () rfl rfl
        · replace hf := gIfN c8 hf
          refine g_lload_n (pc := 47) Z 1 dX0_sizeAt_47 rfl ?_
          refine g_l2i (pc := 48) Z dX0_sizeAt_48 ?_
          refine g_goto (pc := 49) (tgt := 53) Z dX0_sizeAt_49 (by decide) ?_
          obtain rfl := Option.some.inj hf
          exact g_iret Z hr dX0_sizeAt_53 () rfl rfl
      · replace hf := gIfN c7 hf
        refine g_iconst (pc := 35) (v := 1) Z dX0_sizeAt_35 (by decide) ?_
        refine g_goto (pc := 36) (tgt := 40) Z dX0_sizeAt_36 (by decide) ?_
        refine g_istore (pc := 40) (lv' := [(4, .int (1 : Int32)), (2, .long (x1 >>> ((1 : Int32).toInt64 &&& 63))), (0, .ref (ad 12)), (1, .int p1)]) Z dX0_sizeAt_40 (by decide) rfl ?_
        refine g_iload (pc := 42) Z 0 dX0_sizeAt_42 rfl ?_
        refine g_if_eq (pc := 44) (tgt := 52) Z dX0_sizeAt_44 (by decide) (fun c9 => ?_) (fun c9 => ?_)
        · replace hf := gIfP c9 hf
          refine g_iconst (pc := 52) (v := 0) Z dX0_sizeAt_52 (by decide) ?_
          obtain rfl := Option.some.inj hf
          exact g_iret Z hr dX0_sizeAt_53 () rfl rfl
        · replace hf := gIfN c9 hf
          refine g_lload_n (pc := 47) Z 1 dX0_sizeAt_47 rfl ?_
          refine g_l2i (pc := 48) Z dX0_sizeAt_48 ?_
          refine g_goto (pc := 49) (tgt := 53) Z dX0_sizeAt_49 (by decide) ?_
          obtain rfl := Option.some.inj hf
          exact g_iret Z hr dX0_sizeAt_53 () rfl rfl
theorem ww113 : Cond.methodLink RX0 23 yX0_isUsed ∈ gA := wt2 34 rfl rfl
theorem ww114 : Cond.instanceMethod yX0_isUsed ∈ gA := wt2 35 rfl rfl
theorem ww115 : Cond.selects RX0 yX0_isUsed yX0_isUsed ∈ gA := wt2 36 rfl rfl
theorem ww116 : Cond.initialized RX0 ∈ gA := wt1 5 rfl rfl
theorem ww117 : cd_Blk_isUsed ∈ gA := wt2 37 rfl rfl
theorem ww118 : Cond.methodLink RX0 27 yX0_sizeAt ∈ gA := wt2 45 rfl rfl
theorem ww119 : Cond.instanceMethod yX0_sizeAt ∈ gA := wt2 46 rfl rfl
theorem ww120 : Cond.selects RX0 yX0_sizeAt yX0_sizeAt ∈ gA := wt2 47 rfl rfl
theorem ww121 : cd_Blk_sizeAt ∈ gA := wt2 48 rfl rfl
/-! RedoHeap$Blocks.freeAt(I)I -/
def f_Blk_freeAt (vC : CT) (p1 : Int32) : Option (Int32) :=
  (f_Blk_isUsed vC p1).bind fun x1 => if x1 = true then some (0 : Int32) else (f_Blk_sizeAt vC p1).bind fun x4 => some x4
abbrev cd_Blk_freeAt : Cond := .code yX0_freeAt cX0_freeAt 2 (some .int)
theorem yd_Blk_freeAt : yX0_freeAt.cls ≠ "java/lang/invoke/MethodHandle" ∧ yX0_freeAt.cls ≠ "java/lang/invoke/VarHandle" ∧ (parseMethodDescriptor yX0_freeAt.desc).map (fun d => d.parameters.length) = some 1 := by decide +kernel
abbrev rm_Blk_freeAt : Room := { frames := 3, cells := 0, slots := 0, locals := 65 }
abbrev q_Blk_freeAt (D : va_G) (ad : Nat → Nat) (ca : Nat → ClassId) (vC : CT) (res : Int32) (A : Nat → Prop) : Array Value → State → Outcome → State → Prop := va_Qi (fun (r : Int32) (_ : Unit) => r = res) (gB D cls (tys ca) A (fun (u : Unit) => (wB ad ++ wC ad ca vC))) A
set_option maxHeartbeats 4000000 in
set_option maxRecDepth 100000 in
theorem c_Blk_freeAt (l : Launch) (D : va_G) (ad : Nat → Nat) (ca : Nat → ClassId) (vC : CT) (p1 : Int32) (res : Int32) (hf : f_Blk_freeAt vC p1 = some res) (sz : Nat) : Met l yX0_freeAt (cd_Blk_freeAt :: gA) rm_Blk_freeAt (va_Pc [.ref (ad 12), .int p1] (gP D cls (tys ca) (wB ad ++ wC ad ca vC) sz)) (q_Blk_freeAt D ad ca vC res (va_A (wB ad ++ wC ad ca vC) sz)) 0 0 (va_A (wB ad ++ wC ad ca vC) sz) := by
  refine g_met (cc := cX0_freeAt) (Qc := q_Blk_freeAt D ad ca vC res) (lv := [(0, .ref (ad 12)), (1, .int p1)]) (own := RX0) (by decide) rfl rfl (Nat.le_of_ble_eq_true rfl) rfl sz ?_
  intro p e s m args below meth c A Z hr hnm
  unfold f_Blk_freeAt at hf
  refine g_aload_n (pc := 0) Z 0 dX0_freeAt_0 rfl ?_
  refine g_iload_n (pc := 1) Z 1 dX0_freeAt_1 rfl ?_
  obtain ⟨x1, h2, hf⟩ := Option.bind_eq_some_iff.mp hf
  refine g_calli (pc := 2) (ws2 := fun u => (wB ad ++ wC ad ca vC)) (wr := ([] : va_W)) Z [0, 1, 2, 3, 4, 5] [] [0, 1, 2, 3, 4, 5] (g_runV Z (c_Blk_isUsed l D ad ca vC p1 x1 h2) (cwV 1 Z.2.2.2.2.1 (gg_V ww113 ww114 ww115 ww116 ww117) rfl rfl rfl (yv_of rfl yd_Blk_isUsed) ⟨Nat.le_of_ble_eq_true rfl, Nat.le_of_ble_eq_true rfl⟩) [0, 1, 2, 3, 4, 5] rfl (by decide) 0 rfl rfl rfl rfl rfl (Nat.le_of_ble_eq_true rfl) dX0_freeAt_2 ⟨Nat.le_of_ble_eq_true rfl, Nat.le_of_ble_eq_true rfl⟩) rfl rfl (by decide) (by decide) (by decide) (fun _ => rfl) (fun r u hu => ?_)
  obtain rfl := hu.symm
  refine g_if_eq (pc := 5) (tgt := 12) Z dX0_freeAt_5 (by decide) (fun c3 => ?_) (fun c3 => ?_)
  · replace hf := gIfN (bI_z c3) hf
    refine g_aload_n (pc := 12) Z 0 dX0_freeAt_12 rfl ?_
    refine g_iload_n (pc := 13) Z 1 dX0_freeAt_13 rfl ?_
    obtain ⟨x4, h5, hf⟩ := Option.bind_eq_some_iff.mp hf
    refine g_calli (pc := 14) (ws2 := fun u => (wB ad ++ wC ad ca vC)) (wr := ([] : va_W)) Z [0, 1, 2, 3, 4, 5] [] [0, 1, 2, 3, 4, 5] (g_runV Z (c_Blk_sizeAt l D ad ca vC p1 x4 h5) (cwV 1 Z.2.2.2.2.1 (gg_V ww118 ww119 ww120 ww116 ww121) rfl rfl rfl (yv_of rfl yd_Blk_sizeAt) ⟨Nat.le_of_ble_eq_true rfl, Nat.le_of_ble_eq_true rfl⟩) [0, 1, 2, 3, 4, 5] rfl (by decide) 0 rfl rfl rfl rfl rfl (Nat.le_of_ble_eq_true rfl) dX0_freeAt_14 ⟨Nat.le_of_ble_eq_true rfl, Nat.le_of_ble_eq_true rfl⟩) rfl rfl (by decide) (by decide) (by decide) (fun _ => rfl) (fun r u hu => ?_)
    obtain rfl := hu.symm
    obtain rfl := Option.some.inj hf
    exact g_iret Z hr dX0_freeAt_17 () rfl rfl
  · replace hf := gIfP (bI_nz c3) hf
    refine g_iconst (pc := 8) (v := 0) Z dX0_freeAt_8 (by decide) ?_
    refine g_goto (pc := 9) (tgt := 17) Z dX0_freeAt_9 (by decide) ?_
    obtain rfl := Option.some.inj hf
    exact g_iret Z hr dX0_freeAt_17 () rfl rfl
theorem ww122 : Cond.methodLink RX0 31 yX0_freeAt ∈ gA := wt2 30 rfl rfl
theorem ww123 : Cond.instanceMethod yX0_freeAt ∈ gA := wt2 32 rfl rfl
theorem ww124 : Cond.selects RX0 yX0_freeAt yX0_freeAt ∈ gA := wtS 4 rfl rfl
theorem ww125 : cd_Blk_freeAt ∈ gA := wt2 33 rfl rfl
/-! RedoHeap$Blocks.firstFree(I)I -/
def f_Blk_firstFree_4 (N : Nat) (vC : CT) : Nat → Int32 → Int32 → Option (Int32)
  | 0, _, _ => none
  | n + 1, y1, y2 => if (1024 : Int32) ≤ y2 then some (-1 : Int32) else (f_Blk_freeAt vC y2).bind fun x2 => if x2 < y1 then (f_Blk_sizeAt vC y2).bind fun x5 => f_Blk_firstFree_4 N vC n y1 (y2 + ((1 : Int32) + x5)) else some y2
def f_Blk_firstFree (N : Nat) (vC : CT) (p1 : Int32) : Option (Int32) :=
  f_Blk_firstFree_4 N vC N p1 (176 : Int32)
abbrev cd_Blk_firstFree : Cond := .code yX0_firstFree cX0_firstFree 3 (some .int)
theorem yd_Blk_firstFree : yX0_firstFree.cls ≠ "java/lang/invoke/MethodHandle" ∧ yX0_firstFree.cls ≠ "java/lang/invoke/VarHandle" ∧ (parseMethodDescriptor yX0_firstFree.desc).map (fun d => d.parameters.length) = some 1 := by decide +kernel
abbrev rm_Blk_firstFree : Room := { frames := 4, cells := 0, slots := 0, locals := 86 }
abbrev q_Blk_firstFree (D : va_G) (ad : Nat → Nat) (ca : Nat → ClassId) (vC : CT) (res : Int32) (A : Nat → Prop) : Array Value → State → Outcome → State → Prop := va_Qi (fun (r : Int32) (_ : Unit) => r = res) (gB D cls (tys ca) A (fun (u : Unit) => (wB ad ++ wC ad ca vC))) A
set_option maxHeartbeats 4000000 in
set_option maxRecDepth 100000 in
theorem w_Blk_firstFree_4 {p : Program} {l : Launch} {e : Env} {s : State} {m : MethodId} {args : Array Value} {below : List Frame} {meth : Method} {c : Code} {D : va_G} {ad : Nat → Nat} {ca : Nat → ClassId} {A : Nat → Prop} {N : Nat} {vC : CT} {res : Int32} (Z : gZ p s m args meth c cX0_firstFree 3 RX0 (cd_Blk_firstFree :: gA) A D cls (tys ca)) (hr : meth.sig.returnType = (some .int)) : ∀ (n : Nat) (y1 : Int32) (y2 : Int32), f_Blk_firstFree_4 N vC n y1 y2 = some res → gW p l e rm_Blk_firstFree s m args below meth c 3 A D cls 0 0 (MQ below (q_Blk_firstFree D ad ca vC res A) args s 0 0 A) (wB ad ++ wC ad ca vC) [(0, .ref (ad 12)), (1, .int y1), (2, .int y2)] 4 [] := by
  intro n
  induction n with
  | zero =>
    intro y1 y2 hf
    exact absurd hf (by rw [f_Blk_firstFree_4]; exact fun h => by cases h)
  | succ n ih =>
    intro y1 y2 hf
    rw [f_Blk_firstFree_4] at hf
    refine g_iload_n (pc := 4) Z 2 dX0_firstFree_4 rfl ?_
    refine g_sipush (pc := 5) (v := 1024) Z dX0_firstFree_5 (by decide) ?_
    refine g_icmp_ge (pc := 8) (tgt := 35) Z dX0_firstFree_8 (by decide) (fun c1 => ?_) (fun c1 => ?_)
    · replace hf := gIfP c1 hf
      refine g_iconst (pc := 35) (v := -1) Z dX0_firstFree_35 (by decide) ?_
      obtain rfl := Option.some.inj hf
      exact g_iret Z hr dX0_firstFree_36 () rfl rfl
    · replace hf := gIfN c1 hf
      refine g_aload_n (pc := 11) Z 0 dX0_firstFree_11 rfl ?_
      refine g_iload_n (pc := 12) Z 2 dX0_firstFree_12 rfl ?_
      obtain ⟨x2, h3, hf⟩ := Option.bind_eq_some_iff.mp hf
      refine g_calli (pc := 13) (ws2 := fun u => (wB ad ++ wC ad ca vC)) (wr := ([] : va_W)) Z [0, 1, 2, 3, 4, 5] [] [0, 1, 2, 3, 4, 5] (g_runV Z (c_Blk_freeAt l D ad ca vC y2 x2 h3) (cwV 1 Z.2.2.2.2.1 (gg_V ww122 ww123 ww124 ww116 ww125) rfl rfl rfl (yv_of rfl yd_Blk_freeAt) ⟨Nat.le_of_ble_eq_true rfl, Nat.le_of_ble_eq_true rfl⟩) [0, 1, 2, 3, 4, 5] rfl (by decide) 0 rfl rfl rfl rfl rfl (Nat.le_of_ble_eq_true rfl) dX0_firstFree_13 ⟨Nat.le_of_ble_eq_true rfl, Nat.le_of_ble_eq_true rfl⟩) rfl rfl (by decide) (by decide) (by decide) (fun _ => rfl) (fun r u hu => ?_)
      obtain rfl := hu.symm
      refine g_iload_n (pc := 16) Z 1 dX0_firstFree_16 rfl ?_
      refine g_icmp_lt (pc := 17) (tgt := 22) Z dX0_firstFree_17 (by decide) (fun c4 => ?_) (fun c4 => ?_)
      · replace hf := gIfP c4 hf
        refine g_iload_n (pc := 22) Z 2 dX0_firstFree_22 rfl ?_
        refine g_iconst (pc := 23) (v := 1) Z dX0_firstFree_23 (by decide) ?_
        refine g_aload_n (pc := 24) Z 0 dX0_firstFree_24 rfl ?_
        refine g_iload_n (pc := 25) Z 2 dX0_firstFree_25 rfl ?_
        obtain ⟨x5, h6, hf⟩ := Option.bind_eq_some_iff.mp hf
        refine g_calli (pc := 26) (ws2 := fun u => (wB ad ++ wC ad ca vC)) (wr := ([] : va_W)) Z [0, 1, 2, 3, 4, 5] [] [0, 1, 2, 3, 4, 5] (g_runV Z (c_Blk_sizeAt l D ad ca vC y2 x5 h6) (cwV 1 Z.2.2.2.2.1 (gg_V ww118 ww119 ww120 ww116 ww121) rfl rfl rfl (yv_of rfl yd_Blk_sizeAt) ⟨Nat.le_of_ble_eq_true rfl, Nat.le_of_ble_eq_true rfl⟩) [0, 1, 2, 3, 4, 5] rfl (by decide) 0 rfl rfl rfl rfl rfl (Nat.le_of_ble_eq_true rfl) dX0_firstFree_26 ⟨Nat.le_of_ble_eq_true rfl, Nat.le_of_ble_eq_true rfl⟩) rfl rfl (by decide) (by decide) (by decide) (fun _ => rfl) (fun r u hu => ?_)
        obtain rfl := hu.symm
        refine g_iadd (pc := 29) Z dX0_firstFree_29 ?_
        refine g_iadd (pc := 30) Z dX0_firstFree_30 ?_
        refine g_istore_n (pc := 31) (lv' := [(2, .int (y2 + ((1 : Int32) + x5))), (0, .ref (ad 12)), (1, .int y1)]) Z dX0_firstFree_31 (by decide) rfl ?_
        refine g_goto (pc := 32) (tgt := 4) Z dX0_firstFree_32 (by decide) ?_
        refine g_locals (lv2 := [(0, .ref (ad 12)), (1, .int y1), (2, .int (y2 + ((1 : Int32) + x5)))]) [1, 2, 0] rfl ?_
        exact ih _ _ hf
      · replace hf := gIfN c4 hf
        refine g_iload_n (pc := 20) Z 2 dX0_firstFree_20 rfl ?_
        obtain rfl := Option.some.inj hf
        exact g_iret Z hr dX0_firstFree_21 () rfl rfl
set_option maxHeartbeats 4000000 in
set_option maxRecDepth 100000 in
theorem c_Blk_firstFree (l : Launch) (D : va_G) (ad : Nat → Nat) (ca : Nat → ClassId) (N : Nat) (vC : CT) (p1 : Int32) (res : Int32) (hf : f_Blk_firstFree N vC p1 = some res) (sz : Nat) : Met l yX0_firstFree (cd_Blk_firstFree :: gA) rm_Blk_firstFree (va_Pc [.ref (ad 12), .int p1] (gP D cls (tys ca) (wB ad ++ wC ad ca vC) sz)) (q_Blk_firstFree D ad ca vC res (va_A (wB ad ++ wC ad ca vC) sz)) 0 0 (va_A (wB ad ++ wC ad ca vC) sz) := by
  refine g_met (cc := cX0_firstFree) (Qc := q_Blk_firstFree D ad ca vC res) (lv := [(0, .ref (ad 12)), (1, .int p1)]) (own := RX0) (by decide) rfl rfl (Nat.le_of_ble_eq_true rfl) rfl sz ?_
  intro p e s m args below meth c A Z hr hnm
  unfold f_Blk_firstFree at hf
  refine g_sipush (pc := 0) (v := 176) Z dX0_firstFree_0 (by decide) ?_
  refine g_istore_n (pc := 3) (lv' := [(2, .int (176 : Int32)), (0, .ref (ad 12)), (1, .int p1)]) Z dX0_firstFree_3 (by decide) rfl ?_
  refine g_locals (lv2 := [(0, .ref (ad 12)), (1, .int p1), (2, .int (176 : Int32))]) [1, 2, 0] rfl ?_
  exact w_Blk_firstFree_4 Z hr N _ _ hf
theorem ww126 : Jvm.Cond.constantLong RX0 47 (2) ∈ gA := wt2 54 rfl rfl
theorem ww127 : Cond.methodLink RX0 56 yX1_cost ∈ gA := wt2 55 rfl rfl
theorem ww128 : Cond.methodLink RX0 60 yX1_haveRoomFor ∈ gA := wt2 59 rfl rfl
theorem ww129 : Cond.methodLink RX0 49 yX1_change ∈ gA := wt2 63 rfl rfl
theorem ww130 : Cond.instanceMethod yX1_change ∈ gA := wt2 64 rfl rfl
theorem ww131 : Cond.selects RX1 yX1_change yX1_change ∈ gA := wt2 65 rfl rfl
theorem ww132 : cd_Chg_change ∈ gA := wt2 66 rfl rfl
/-! RedoHeap$Blocks.split(III)Z -/
def f_Blk_split (N : Nat) (vC : CT) (p1 : Int32) (p2 : Int32) (p3 : Int32) : Option (Bool × CT) :=
  (f_Chg_cost vC ((p1 + (1 : Int32)) + p2) ((2 : Int64) * (((p3 - p2) - (1 : Int32)).toInt64))).bind fun x1 => (f_Chg_cost vC p1 (((2 : Int64) * p2.toInt64) + (1 : Int64))).bind fun x3 => (f_Chg_haveRoomFor vC (x1 + x3)).bind fun x5 => if x5 = true then (f_Chg_change N vC ((p1 + (1 : Int32)) + p2) ((2 : Int64) * (((p3 - p2) - (1 : Int32)).toInt64))).bind fun x8 => if x8.1 = true then (f_Chg_change N x8.2 p1 (((2 : Int64) * p2.toInt64) + (1 : Int64))).bind fun x11 => if x11.1 = true then some (true, x11.2) else some (false, x11.2) else some (false, x8.2) else some (false, vC)
abbrev cd_Blk_split : Cond := .code yX0_split cX0_split 9 (some .boolean)
theorem yd_Blk_split : yX0_split.cls ≠ "java/lang/invoke/MethodHandle" ∧ yX0_split.cls ≠ "java/lang/invoke/VarHandle" ∧ (parseMethodDescriptor yX0_split.desc).map (fun d => d.parameters.length) = some 3 := by decide +kernel
abbrev rm_Blk_split : Room := { frames := 3, cells := 0, slots := 0, locals := 67 }
abbrev q_Blk_split (D : va_G) (ad : Nat → Nat) (ca : Nat → ClassId) (res : Bool × CT) (A : Nat → Prop) : Array Value → State → Outcome → State → Prop := va_Qi (fun (r : Int32) (u : CT) => r = bI res.1 ∧ u = res.2) (gB D cls (tys ca) A (fun (u : CT) => (wB ad ++ wC ad ca u))) A
set_option maxHeartbeats 4000000 in
set_option maxRecDepth 100000 in
theorem c_Blk_split (l : Launch) (D : va_G) (ad : Nat → Nat) (ca : Nat → ClassId) (N : Nat) (vC : CT) (p1 : Int32) (p2 : Int32) (p3 : Int32) (res : Bool × CT) (hf : f_Blk_split N vC p1 p2 p3 = some res) (sz : Nat) : Met l yX0_split (cd_Blk_split :: gA) rm_Blk_split (va_Pc [.ref (ad 12), .int p1, .int p2, .int p3] (gP D cls (tys ca) (wB ad ++ wC ad ca vC) sz)) (q_Blk_split D ad ca res (va_A (wB ad ++ wC ad ca vC) sz)) 0 0 (va_A (wB ad ++ wC ad ca vC) sz) := by
  refine g_met (cc := cX0_split) (Qc := q_Blk_split D ad ca res) (lv := [(0, .ref (ad 12)), (1, .int p1), (2, .int p2), (3, .int p3)]) (own := RX0) (by decide) rfl rfl (Nat.le_of_ble_eq_true rfl) rfl sz ?_
  intro p e s m args below meth c A Z hr hnm
  unfold f_Blk_split at hf
  refine g_iload_n (pc := 0) Z 1 dX0_split_0 rfl ?_
  refine g_iconst (pc := 1) (v := 1) Z dX0_split_1 (by decide) ?_
  refine g_iadd (pc := 2) Z dX0_split_2 ?_
  refine g_iload_n (pc := 3) Z 2 dX0_split_3 rfl ?_
  refine g_iadd (pc := 4) Z dX0_split_4 ?_
  refine g_istore (pc := 5) (lv' := [(4, .int ((p1 + (1 : Int32)) + p2)), (0, .ref (ad 12)), (1, .int p1), (2, .int p2), (3, .int p3)]) Z dX0_split_5 (by decide) rfl ?_
  refine g_ldc2 (pc := 7) (v := 2) Z dX0_split_7 (mm ww126) ?_
  refine g_iload_n (pc := 10) Z 4 dX0_split_10 rfl ?_
  refine g_iload_n (pc := 11) Z 3 dX0_split_11 rfl ?_
  refine g_isub (pc := 12) Z dX0_split_12 ?_
  refine g_iconst (pc := 13) (v := 1) Z dX0_split_13 (by decide) ?_
  refine g_isub (pc := 14) Z dX0_split_14 ?_
  refine g_i2l (pc := 15) Z dX0_split_15 ?_
  refine g_lmul (pc := 16) Z dX0_split_16 ?_
  refine g_lstore (pc := 17) (lv' := [(5, .long ((2 : Int64) * (((p3 - p2) - (1 : Int32)).toInt64))), (4, .int ((p1 + (1 : Int32)) + p2)), (0, .ref (ad 12)), (1, .int p1), (2, .int p2), (3, .int p3)]) Z dX0_split_17 (by decide) rfl ?_
  refine g_ldc2 (pc := 19) (v := 2) Z dX0_split_19 (mm ww126) ?_
  refine g_iload_n (pc := 22) Z 4 dX0_split_22 rfl ?_
  refine g_i2l (pc := 23) Z dX0_split_23 ?_
  refine g_lmul (pc := 24) Z dX0_split_24 ?_
  refine g_lconst (pc := 25) (v := 1) Z dX0_split_25 (by decide) ?_
  refine g_ladd (pc := 26) Z dX0_split_26 ?_
  refine g_lstore (pc := 27) (lv' := [(7, .long (((2 : Int64) * p2.toInt64) + (1 : Int64))), (5, .long ((2 : Int64) * (((p3 - p2) - (1 : Int32)).toInt64))), (4, .int ((p1 + (1 : Int32)) + p2)), (0, .ref (ad 12)), (1, .int p1), (2, .int p2), (3, .int p3)]) Z dX0_split_27 (by decide) rfl ?_
  refine g_aload_n (pc := 29) Z 3 dX0_split_29 rfl ?_
  refine g_get (pc := 30) (T := TX0) (N := 1) Z 0 0 dX0_split_30 (mm ww110) inx_X0 rfl (by decide) rfl rfl rfl ?_
  refine g_aload_n (pc := 33) Z 3 dX0_split_33 rfl ?_
  refine g_get (pc := 34) (T := TX0) (N := 1) Z 0 0 dX0_split_34 (mm ww110) inx_X0 rfl (by decide) rfl rfl rfl ?_
  refine g_iload (pc := 37) Z 2 dX0_split_37 rfl ?_
  refine g_lload (pc := 39) Z 1 dX0_split_39 rfl ?_
  obtain ⟨x1, h2, hf⟩ := Option.bind_eq_some_iff.mp hf
  refine g_calli (pc := 41) (ws2 := fun u => (wB ad ++ wC ad ca vC)) (wr := (wB ad)) Z [1, 2, 3, 4, 5] [0] [0, 1, 2, 3, 4, 5] (g_runV Z (c_Chg_cost l D ad ca vC ((p1 + (1 : Int32)) + p2) ((2 : Int64) * (((p3 - p2) - (1 : Int32)).toInt64)) x1 h2) (cwV 2 Z.2.2.2.2.1 (gg_V ww127 ww38 ww39 ww40 ww41) rfl rfl rfl (yv_of rfl yd_Chg_cost) ⟨Nat.le_of_ble_eq_true rfl, Nat.le_of_ble_eq_true rfl⟩) [1, 2, 3, 4, 5] rfl (by decide) 0 rfl rfl rfl rfl rfl (Nat.le_of_ble_eq_true rfl) dX0_split_41 ⟨Nat.le_of_ble_eq_true rfl, Nat.le_of_ble_eq_true rfl⟩) rfl rfl (by decide) (by decide) (by decide) (fun _ => rfl) (fun r u hu => ?_)
  obtain rfl := hu.symm
  refine g_aload_n (pc := 44) Z 3 dX0_split_44 rfl ?_
  refine g_get (pc := 45) (T := TX0) (N := 1) Z 0 0 dX0_split_45 (mm ww110) inx_X0 rfl (by decide) rfl rfl rfl ?_
  refine g_iload_n (pc := 48) Z 4 dX0_split_48 rfl ?_
  refine g_lload (pc := 49) Z 0 dX0_split_49 rfl ?_
  obtain ⟨x3, h4, hf⟩ := Option.bind_eq_some_iff.mp hf
  refine g_calli (pc := 51) (ws2 := fun u => (wB ad ++ wC ad ca vC)) (wr := (wB ad)) Z [1, 2, 3, 4, 5] [0] [0, 1, 2, 3, 4, 5] (g_runV Z (c_Chg_cost l D ad ca vC p1 (((2 : Int64) * p2.toInt64) + (1 : Int64)) x3 h4) (cwV 2 Z.2.2.2.2.1 (gg_V ww127 ww38 ww39 ww40 ww41) rfl rfl rfl (yv_of rfl yd_Chg_cost) ⟨Nat.le_of_ble_eq_true rfl, Nat.le_of_ble_eq_true rfl⟩) [1, 2, 3, 4, 5] rfl (by decide) 0 rfl rfl rfl rfl rfl (Nat.le_of_ble_eq_true rfl) dX0_split_51 ⟨Nat.le_of_ble_eq_true rfl, Nat.le_of_ble_eq_true rfl⟩) rfl rfl (by decide) (by decide) (by decide) (fun _ => rfl) (fun r u hu => ?_)
  obtain rfl := hu.symm
  refine g_iadd (pc := 54) Z dX0_split_54 ?_
  obtain ⟨x5, h6, hf⟩ := Option.bind_eq_some_iff.mp hf
  refine g_calli (pc := 55) (ws2 := fun u => (wB ad ++ wC ad ca vC)) (wr := (wB ad)) Z [1, 2, 3, 4, 5] [0] [0, 1, 2, 3, 4, 5] (g_runV Z (c_Chg_haveRoomFor l D ad ca vC (x1 + x3) x5 h6) (cwV 1 Z.2.2.2.2.1 (gg_V ww128 ww43 ww44 ww40 ww45) rfl rfl rfl (yv_of rfl yd_Chg_haveRoomFor) ⟨Nat.le_of_ble_eq_true rfl, Nat.le_of_ble_eq_true rfl⟩) [1, 2, 3, 4, 5] rfl (by decide) 0 rfl rfl rfl rfl rfl (Nat.le_of_ble_eq_true rfl) dX0_split_55 ⟨Nat.le_of_ble_eq_true rfl, Nat.le_of_ble_eq_true rfl⟩) rfl rfl (by decide) (by decide) (by decide) (fun _ => rfl) (fun r u hu => ?_)
  obtain rfl := hu.symm
  refine g_if_ne (pc := 58) (tgt := 63) Z dX0_split_58 (by decide) (fun c7 => ?_) (fun c7 => ?_)
  · replace hf := gIfP (bI_nz c7) hf
    refine g_aload_n (pc := 63) Z 3 dX0_split_63 rfl ?_
    refine g_get (pc := 64) (T := TX0) (N := 1) Z 0 0 dX0_split_64 (mm ww110) inx_X0 rfl (by decide) rfl rfl rfl ?_
    refine g_iload (pc := 67) Z 2 dX0_split_67 rfl ?_
    refine g_lload (pc := 69) Z 1 dX0_split_69 rfl ?_
    obtain ⟨x8, h9, hf⟩ := Option.bind_eq_some_iff.mp hf
    refine g_calli (pc := 71) (ws2 := fun u => (wB ad ++ wC ad ca u)) (wr := (wB ad)) Z [1, 2, 3, 4, 5] [0] [0, 1, 2, 3, 4, 5] (g_runV Z (c_Chg_change l D ad ca N vC ((p1 + (1 : Int32)) + p2) ((2 : Int64) * (((p3 - p2) - (1 : Int32)).toInt64)) x8 h9) (cwV 2 Z.2.2.2.2.1 (gg_V ww129 ww130 ww131 ww40 ww132) rfl rfl rfl (yv_of rfl yd_Chg_change) ⟨Nat.le_of_ble_eq_true rfl, Nat.le_of_ble_eq_true rfl⟩) [1, 2, 3, 4, 5] rfl (by decide) 0 rfl rfl rfl rfl rfl (Nat.le_of_ble_eq_true rfl) dX0_split_71 ⟨Nat.le_of_ble_eq_true rfl, Nat.le_of_ble_eq_true rfl⟩) rfl rfl (by decide) (by decide) (by decide) (fun _ => rfl) (fun r u hu => ?_)
    obtain ⟨rfl, rfl⟩ := hu
    refine g_if_eq (pc := 74) (tgt := 94) Z dX0_split_74 (by decide) (fun c10 => ?_) (fun c10 => ?_)
    · replace hf := gIfN (bI_z c10) hf
      refine g_iconst (pc := 94) (v := 0) Z dX0_split_94 (by decide) ?_
      obtain rfl := Option.some.inj hf
      exact g_zret Z hr rfl dX0_split_95 x8.2 ⟨rfl, rfl⟩ rfl
    · replace hf := gIfP (bI_nz c10) hf
      refine g_aload_n (pc := 77) Z 3 dX0_split_77 rfl ?_
      refine g_get (pc := 78) (T := TX0) (N := 1) Z 0 0 dX0_split_78 (mm ww110) inx_X0 rfl (by decide) rfl rfl rfl ?_
      refine g_iload_n (pc := 81) Z 4 dX0_split_81 rfl ?_
      refine g_lload (pc := 82) Z 0 dX0_split_82 rfl ?_
      obtain ⟨x11, h12, hf⟩ := Option.bind_eq_some_iff.mp hf
      refine g_calli (pc := 84) (ws2 := fun u => (wB ad ++ wC ad ca u)) (wr := (wB ad)) Z [1, 2, 3, 4, 5] [0] [0, 1, 2, 3, 4, 5] (g_runV Z (c_Chg_change l D ad ca N x8.2 p1 (((2 : Int64) * p2.toInt64) + (1 : Int64)) x11 h12) (cwV 2 Z.2.2.2.2.1 (gg_V ww129 ww130 ww131 ww40 ww132) rfl rfl rfl (yv_of rfl yd_Chg_change) ⟨Nat.le_of_ble_eq_true rfl, Nat.le_of_ble_eq_true rfl⟩) [1, 2, 3, 4, 5] rfl (by decide) 0 rfl rfl rfl rfl rfl (Nat.le_of_ble_eq_true rfl) dX0_split_84 ⟨Nat.le_of_ble_eq_true rfl, Nat.le_of_ble_eq_true rfl⟩) rfl rfl (by decide) (by decide) (by decide) (fun _ => rfl) (fun r u hu => ?_)
      obtain ⟨rfl, rfl⟩ := hu
      refine g_if_eq (pc := 87) (tgt := 94) Z dX0_split_87 (by decide) (fun c13 => ?_) (fun c13 => ?_)
      · replace hf := gIfN (bI_z c13) hf
        refine g_iconst (pc := 94) (v := 0) Z dX0_split_94 (by decide) ?_
        obtain rfl := Option.some.inj hf
        exact g_zret Z hr rfl dX0_split_95 x11.2 ⟨rfl, rfl⟩ rfl
      · replace hf := gIfP (bI_nz c13) hf
        refine g_iconst (pc := 90) (v := 1) Z dX0_split_90 (by decide) ?_
        refine g_goto (pc := 91) (tgt := 95) Z dX0_split_91 (by decide) ?_
        obtain rfl := Option.some.inj hf
        exact g_zret Z hr rfl dX0_split_95 x11.2 ⟨rfl, rfl⟩ rfl
  · replace hf := gIfN (bI_z c7) hf
    refine g_iconst (pc := 61) (v := 0) Z dX0_split_61 (by decide) ?_
    obtain rfl := Option.some.inj hf
    exact g_zret Z hr rfl dX0_split_62 vC ⟨rfl, rfl⟩ rfl
theorem ww133 : Cond.methodLink RX0 40 yX0_firstFree ∈ gA := wt2 26 rfl rfl
theorem ww134 : Cond.instanceMethod yX0_firstFree ∈ gA := wt2 28 rfl rfl
theorem ww135 : Cond.selects RX0 yX0_firstFree yX0_firstFree ∈ gA := wtS 3 rfl rfl
theorem ww136 : cd_Blk_firstFree ∈ gA := wt2 29 rfl rfl
theorem ww137 : Cond.methodLink RX0 43 yX0_split ∈ gA := wt2 50 rfl rfl
theorem ww138 : Cond.instanceMethod yX0_split ∈ gA := wt2 52 rfl rfl
theorem ww139 : Cond.selects RX0 yX0_split yX0_split ∈ gA := wtS 5 rfl rfl
theorem ww140 : cd_Blk_split ∈ gA := wt2 53 rfl rfl
/-! RedoHeap$Blocks.takeFirst(I)I -/
def f_Blk_takeFirst (N : Nat) (vC : CT) (p1 : Int32) : Option (Int32 × CT) :=
  (f_Blk_firstFree N vC p1).bind fun x1 => if x1 = (-1 : Int32) then some ((-1 : Int32), vC) else (f_Blk_sizeAt vC x1).bind fun x4 => if x4 < (p1 + (2 : Int32)) then (f_Chg_change N vC x1 (((2 : Int64) * x4.toInt64) + (1 : Int64))).bind fun x7 => if x7.1 = true then some (x1 + (1 : Int32), x7.2) else some ((-1 : Int32), x7.2) else (f_Blk_split N vC x1 p1 x4).bind fun x10 => if x10.1 = true then some (x1 + (1 : Int32), x10.2) else some ((-1 : Int32), x10.2)
abbrev cd_Blk_takeFirst : Cond := .code yX0_takeFirst cX0_takeFirst 5 (some .int)
theorem yd_Blk_takeFirst : yX0_takeFirst.cls ≠ "java/lang/invoke/MethodHandle" ∧ yX0_takeFirst.cls ≠ "java/lang/invoke/VarHandle" ∧ (parseMethodDescriptor yX0_takeFirst.desc).map (fun d => d.parameters.length) = some 1 := by decide +kernel
abbrev rm_Blk_takeFirst : Room := { frames := 5, cells := 0, slots := 0, locals := 108 }
abbrev q_Blk_takeFirst (D : va_G) (ad : Nat → Nat) (ca : Nat → ClassId) (res : Int32 × CT) (A : Nat → Prop) : Array Value → State → Outcome → State → Prop := va_Qi (fun (r : Int32) (u : CT) => r = res.1 ∧ u = res.2) (gB D cls (tys ca) A (fun (u : CT) => (wB ad ++ wC ad ca u))) A
set_option maxHeartbeats 4000000 in
set_option maxRecDepth 100000 in
theorem c_Blk_takeFirst (l : Launch) (D : va_G) (ad : Nat → Nat) (ca : Nat → ClassId) (N : Nat) (vC : CT) (p1 : Int32) (res : Int32 × CT) (hf : f_Blk_takeFirst N vC p1 = some res) (sz : Nat) : Met l yX0_takeFirst (cd_Blk_takeFirst :: gA) rm_Blk_takeFirst (va_Pc [.ref (ad 12), .int p1] (gP D cls (tys ca) (wB ad ++ wC ad ca vC) sz)) (q_Blk_takeFirst D ad ca res (va_A (wB ad ++ wC ad ca vC) sz)) 0 0 (va_A (wB ad ++ wC ad ca vC) sz) := by
  refine g_met (cc := cX0_takeFirst) (Qc := q_Blk_takeFirst D ad ca res) (lv := [(0, .ref (ad 12)), (1, .int p1)]) (own := RX0) (by decide) rfl rfl (Nat.le_of_ble_eq_true rfl) rfl sz ?_
  intro p e s m args below meth c A Z hr hnm
  unfold f_Blk_takeFirst at hf
  refine g_aload_n (pc := 0) Z 0 dX0_takeFirst_0 rfl ?_
  refine g_iload_n (pc := 1) Z 1 dX0_takeFirst_1 rfl ?_
  obtain ⟨x1, h2, hf⟩ := Option.bind_eq_some_iff.mp hf
  refine g_calli (pc := 2) (ws2 := fun u => (wB ad ++ wC ad ca vC)) (wr := ([] : va_W)) Z [0, 1, 2, 3, 4, 5] [] [0, 1, 2, 3, 4, 5] (g_runV Z (c_Blk_firstFree l D ad ca N vC p1 x1 h2) (cwV 1 Z.2.2.2.2.1 (gg_V ww133 ww134 ww135 ww116 ww136) rfl rfl rfl (yv_of rfl yd_Blk_firstFree) ⟨Nat.le_of_ble_eq_true rfl, Nat.le_of_ble_eq_true rfl⟩) [0, 1, 2, 3, 4, 5] rfl (by decide) 0 rfl rfl rfl rfl rfl (Nat.le_of_ble_eq_true rfl) dX0_takeFirst_2 ⟨Nat.le_of_ble_eq_true rfl, Nat.le_of_ble_eq_true rfl⟩) rfl rfl (by decide) (by decide) (by decide) (fun _ => rfl) (fun r u hu => ?_)
  obtain rfl := hu.symm
  refine g_istore_n (pc := 5) (lv' := [(2, .int x1), (0, .ref (ad 12)), (1, .int p1)]) Z dX0_takeFirst_5 (by decide) rfl ?_
  refine g_iload_n (pc := 6) Z 0 dX0_takeFirst_6 rfl ?_
  refine g_iconst (pc := 7) (v := -1) Z dX0_takeFirst_7 (by decide) ?_
  refine g_icmp_ne (pc := 8) (tgt := 13) Z dX0_takeFirst_8 (by decide) (fun c3 => ?_) (fun c3 => ?_)
  · replace hf := gIfN c3 hf
    refine g_aload_n (pc := 13) Z 1 dX0_takeFirst_13 rfl ?_
    refine g_iload_n (pc := 14) Z 0 dX0_takeFirst_14 rfl ?_
    obtain ⟨x4, h5, hf⟩ := Option.bind_eq_some_iff.mp hf
    refine g_calli (pc := 15) (ws2 := fun u => (wB ad ++ wC ad ca vC)) (wr := ([] : va_W)) Z [0, 1, 2, 3, 4, 5] [] [0, 1, 2, 3, 4, 5] (g_runV Z (c_Blk_sizeAt l D ad ca vC x1 x4 h5) (cwV 1 Z.2.2.2.2.1 (gg_V ww118 ww119 ww120 ww116 ww121) rfl rfl rfl (yv_of rfl yd_Blk_sizeAt) ⟨Nat.le_of_ble_eq_true rfl, Nat.le_of_ble_eq_true rfl⟩) [0, 1, 2, 3, 4, 5] rfl (by decide) 0 rfl rfl rfl rfl rfl (Nat.le_of_ble_eq_true rfl) dX0_takeFirst_15 ⟨Nat.le_of_ble_eq_true rfl, Nat.le_of_ble_eq_true rfl⟩) rfl rfl (by decide) (by decide) (by decide) (fun _ => rfl) (fun r u hu => ?_)
    obtain rfl := hu.symm
    refine g_istore_n (pc := 18) (lv' := [(3, .int x4), (2, .int x1), (0, .ref (ad 12)), (1, .int p1)]) Z dX0_takeFirst_18 (by decide) rfl ?_
    refine g_iload_n (pc := 19) Z 0 dX0_takeFirst_19 rfl ?_
    refine g_iload_n (pc := 20) Z 3 dX0_takeFirst_20 rfl ?_
    refine g_iconst (pc := 21) (v := 2) Z dX0_takeFirst_21 (by decide) ?_
    refine g_iadd (pc := 22) Z dX0_takeFirst_22 ?_
    refine g_icmp_lt (pc := 23) (tgt := 36) Z dX0_takeFirst_23 (by decide) (fun c6 => ?_) (fun c6 => ?_)
    · replace hf := gIfP c6 hf
      refine g_aload_n (pc := 36) Z 2 dX0_takeFirst_36 rfl ?_
      refine g_get (pc := 37) (T := TX0) (N := 1) Z 0 0 dX0_takeFirst_37 (mm ww110) inx_X0 rfl (by decide) rfl rfl rfl ?_
      refine g_iload_n (pc := 40) Z 1 dX0_takeFirst_40 rfl ?_
      refine g_ldc2 (pc := 41) (v := 2) Z dX0_takeFirst_41 (mm ww126) ?_
      refine g_iload_n (pc := 44) Z 0 dX0_takeFirst_44 rfl ?_
      refine g_i2l (pc := 45) Z dX0_takeFirst_45 ?_
      refine g_lmul (pc := 46) Z dX0_takeFirst_46 ?_
      refine g_lconst (pc := 47) (v := 1) Z dX0_takeFirst_47 (by decide) ?_
      refine g_ladd (pc := 48) Z dX0_takeFirst_48 ?_
      obtain ⟨x7, h8, hf⟩ := Option.bind_eq_some_iff.mp hf
      refine g_calli (pc := 49) (ws2 := fun u => (wB ad ++ wC ad ca u)) (wr := (wB ad)) Z [1, 2, 3, 4, 5] [0] [0, 1, 2, 3, 4, 5] (g_runV Z (c_Chg_change l D ad ca N vC x1 (((2 : Int64) * x4.toInt64) + (1 : Int64)) x7 h8) (cwV 2 Z.2.2.2.2.1 (gg_V ww129 ww130 ww131 ww40 ww132) rfl rfl rfl (yv_of rfl yd_Chg_change) ⟨Nat.le_of_ble_eq_true rfl, Nat.le_of_ble_eq_true rfl⟩) [1, 2, 3, 4, 5] rfl (by decide) 0 rfl rfl rfl rfl rfl (Nat.le_of_ble_eq_true rfl) dX0_takeFirst_49 ⟨Nat.le_of_ble_eq_true rfl, Nat.le_of_ble_eq_true rfl⟩) rfl rfl (by decide) (by decide) (by decide) (fun _ => rfl) (fun r u hu => ?_)
      obtain ⟨rfl, rfl⟩ := hu
      refine g_istore (pc := 52) (lv' := [(4, .int (bI x7.1)), (3, .int x4), (2, .int x1), (0, .ref (ad 12)), (1, .int p1)]) Z dX0_takeFirst_52 (by decide) rfl ?_
      refine g_iload (pc := 54) Z 0 dX0_takeFirst_54 rfl ?_
      refine g_if_eq (pc := 56) (tgt := 65) Z dX0_takeFirst_56 (by decide) (fun c9 => ?_) (fun c9 => ?_)
      · replace hf := gIfN (bI_z c9) hf
        refine g_iconst (pc := 65) (v := -1) Z dX0_takeFirst_65 (by decide) ?_
        obtain rfl := Option.some.inj hf
        exact g_iret Z hr dX0_takeFirst_66 x7.2 ⟨rfl, rfl⟩ rfl
      · replace hf := gIfP (bI_nz c9) hf
        refine g_iload_n (pc := 59) Z 2 dX0_takeFirst_59 rfl ?_
        refine g_iconst (pc := 60) (v := 1) Z dX0_takeFirst_60 (by decide) ?_
        refine g_iadd (pc := 61) Z dX0_takeFirst_61 ?_
        refine g_goto (pc := 62) (tgt := 66) Z dX0_takeFirst_62 (by decide) ?_
        obtain rfl := Option.some.inj hf
        exact g_iret Z hr dX0_takeFirst_66 x7.2 ⟨rfl, rfl⟩ rfl
    · replace hf := gIfN c6 hf
      refine g_aload_n (pc := 26) Z 2 dX0_takeFirst_26 rfl ?_
      refine g_iload_n (pc := 27) Z 1 dX0_takeFirst_27 rfl ?_
      refine g_iload_n (pc := 28) Z 3 dX0_takeFirst_28 rfl ?_
      refine g_iload_n (pc := 29) Z 0 dX0_takeFirst_29 rfl ?_
      obtain ⟨x10, h11, hf⟩ := Option.bind_eq_some_iff.mp hf
      refine g_calli (pc := 30) (ws2 := fun u => (wB ad ++ wC ad ca u)) (wr := ([] : va_W)) Z [0, 1, 2, 3, 4, 5] [] [0, 1, 2, 3, 4, 5] (g_runV Z (c_Blk_split l D ad ca N vC x1 p1 x4 x10 h11) (cwV 3 Z.2.2.2.2.1 (gg_V ww137 ww138 ww139 ww116 ww140) rfl rfl rfl (yv_of rfl yd_Blk_split) ⟨Nat.le_of_ble_eq_true rfl, Nat.le_of_ble_eq_true rfl⟩) [0, 1, 2, 3, 4, 5] rfl (by decide) 0 rfl rfl rfl rfl rfl (Nat.le_of_ble_eq_true rfl) dX0_takeFirst_30 ⟨Nat.le_of_ble_eq_true rfl, Nat.le_of_ble_eq_true rfl⟩) rfl rfl (by decide) (by decide) (by decide) (fun _ => rfl) (fun r u hu => ?_)
      obtain ⟨rfl, rfl⟩ := hu
      refine g_goto (pc := 33) (tgt := 52) Z dX0_takeFirst_33 (by decide) ?_
      refine g_istore (pc := 52) (lv' := [(4, .int (bI x10.1)), (3, .int x4), (2, .int x1), (0, .ref (ad 12)), (1, .int p1)]) Z dX0_takeFirst_52 (by decide) rfl ?_
      refine g_iload (pc := 54) Z 0 dX0_takeFirst_54 rfl ?_
      refine g_if_eq (pc := 56) (tgt := 65) Z dX0_takeFirst_56 (by decide) (fun c12 => ?_) (fun c12 => ?_)
      · replace hf := gIfN (bI_z c12) hf
        refine g_iconst (pc := 65) (v := -1) Z dX0_takeFirst_65 (by decide) ?_
        obtain rfl := Option.some.inj hf
        exact g_iret Z hr dX0_takeFirst_66 x10.2 ⟨rfl, rfl⟩ rfl
      · replace hf := gIfP (bI_nz c12) hf
        refine g_iload_n (pc := 59) Z 2 dX0_takeFirst_59 rfl ?_
        refine g_iconst (pc := 60) (v := 1) Z dX0_takeFirst_60 (by decide) ?_
        refine g_iadd (pc := 61) Z dX0_takeFirst_61 ?_
        refine g_goto (pc := 62) (tgt := 66) Z dX0_takeFirst_62 (by decide) ?_
        obtain rfl := Option.some.inj hf
        exact g_iret Z hr dX0_takeFirst_66 x10.2 ⟨rfl, rfl⟩ rfl
  · replace hf := gIfP c3 hf
    refine g_iconst (pc := 11) (v := -1) Z dX0_takeFirst_11 (by decide) ?_
    obtain rfl := Option.some.inj hf
    exact g_iret Z hr dX0_takeFirst_12 vC ⟨rfl, rfl⟩ rfl
/-! RedoHeap$Blocks.isUsedAddress(I)Z -/
def f_Blk_isUsedAddress_4 (N : Nat) (vC : CT) : Nat → Int32 → Int32 → Option (Bool)
  | 0, _, _ => none
  | n + 1, y1, y2 => if (1024 : Int32) ≤ y2 then some false else if y1 ≤ y2 then some false else if (y2 + (1 : Int32)) = y1 then (f_Blk_isUsed vC y2).bind fun x6 => some x6 else (f_Blk_sizeAt vC y2).bind fun x4 => f_Blk_isUsedAddress_4 N vC n y1 (y2 + ((1 : Int32) + x4))
def f_Blk_isUsedAddress (N : Nat) (vC : CT) (p1 : Int32) : Option (Bool) :=
  f_Blk_isUsedAddress_4 N vC N p1 (176 : Int32)
abbrev cd_Blk_isUsedAddress : Cond := .code yX0_isUsedAddress cX0_isUsedAddress 3 (some .boolean)
theorem yd_Blk_isUsedAddress : yX0_isUsedAddress.cls ≠ "java/lang/invoke/MethodHandle" ∧ yX0_isUsedAddress.cls ≠ "java/lang/invoke/VarHandle" ∧ (parseMethodDescriptor yX0_isUsedAddress.desc).map (fun d => d.parameters.length) = some 1 := by decide +kernel
abbrev rm_Blk_isUsedAddress : Room := { frames := 3, cells := 0, slots := 0, locals := 65 }
abbrev q_Blk_isUsedAddress (D : va_G) (ad : Nat → Nat) (ca : Nat → ClassId) (vC : CT) (res : Bool) (A : Nat → Prop) : Array Value → State → Outcome → State → Prop := va_Qi (fun (r : Int32) (_ : Unit) => r = bI res) (gB D cls (tys ca) A (fun (u : Unit) => (wB ad ++ wC ad ca vC))) A
set_option maxHeartbeats 4000000 in
set_option maxRecDepth 100000 in
theorem w_Blk_isUsedAddress_4 {p : Program} {l : Launch} {e : Env} {s : State} {m : MethodId} {args : Array Value} {below : List Frame} {meth : Method} {c : Code} {D : va_G} {ad : Nat → Nat} {ca : Nat → ClassId} {A : Nat → Prop} {N : Nat} {vC : CT} {res : Bool} (Z : gZ p s m args meth c cX0_isUsedAddress 3 RX0 (cd_Blk_isUsedAddress :: gA) A D cls (tys ca)) (hr : meth.sig.returnType = (some .boolean)) : ∀ (n : Nat) (y1 : Int32) (y2 : Int32), f_Blk_isUsedAddress_4 N vC n y1 y2 = some res → gW p l e rm_Blk_isUsedAddress s m args below meth c 3 A D cls 0 0 (MQ below (q_Blk_isUsedAddress D ad ca vC res A) args s 0 0 A) (wB ad ++ wC ad ca vC) [(0, .ref (ad 12)), (1, .int y1), (2, .int y2)] 4 [] := by
  intro n
  induction n with
  | zero =>
    intro y1 y2 hf
    exact absurd hf (by rw [f_Blk_isUsedAddress_4]; exact fun h => by cases h)
  | succ n ih =>
    intro y1 y2 hf
    rw [f_Blk_isUsedAddress_4] at hf
    refine g_iload_n (pc := 4) Z 2 dX0_isUsedAddress_4 rfl ?_
    refine g_sipush (pc := 5) (v := 1024) Z dX0_isUsedAddress_5 (by decide) ?_
    refine g_icmp_ge (pc := 8) (tgt := 42) Z dX0_isUsedAddress_8 (by decide) (fun c1 => ?_) (fun c1 => ?_)
    · replace hf := gIfP c1 hf
      refine g_iconst (pc := 42) (v := 0) Z dX0_isUsedAddress_42 (by decide) ?_
      obtain rfl := Option.some.inj hf
      exact g_zret Z hr rfl dX0_isUsedAddress_43 () rfl rfl
    · replace hf := gIfN c1 hf
      refine g_iload_n (pc := 11) Z 2 dX0_isUsedAddress_11 rfl ?_
      refine g_iload_n (pc := 12) Z 1 dX0_isUsedAddress_12 rfl ?_
      refine g_icmp_ge (pc := 13) (tgt := 42) Z dX0_isUsedAddress_13 (by decide) (fun c2 => ?_) (fun c2 => ?_)
      · replace hf := gIfP c2 hf
        refine g_iconst (pc := 42) (v := 0) Z dX0_isUsedAddress_42 (by decide) ?_
        obtain rfl := Option.some.inj hf
        exact g_zret Z hr rfl dX0_isUsedAddress_43 () rfl rfl
      · replace hf := gIfN c2 hf
        refine g_iload_n (pc := 16) Z 2 dX0_isUsedAddress_16 rfl ?_
        refine g_iconst (pc := 17) (v := 1) Z dX0_isUsedAddress_17 (by decide) ?_
        refine g_iadd (pc := 18) Z dX0_isUsedAddress_18 ?_
        refine g_iload_n (pc := 19) Z 1 dX0_isUsedAddress_19 rfl ?_
        refine g_icmp_ne (pc := 20) (tgt := 29) Z dX0_isUsedAddress_20 (by decide) (fun c3 => ?_) (fun c3 => ?_)
        · replace hf := gIfN c3 hf
          refine g_iload_n (pc := 29) Z 2 dX0_isUsedAddress_29 rfl ?_
          refine g_iconst (pc := 30) (v := 1) Z dX0_isUsedAddress_30 (by decide) ?_
          refine g_aload_n (pc := 31) Z 0 dX0_isUsedAddress_31 rfl ?_
          refine g_iload_n (pc := 32) Z 2 dX0_isUsedAddress_32 rfl ?_
          obtain ⟨x4, h5, hf⟩ := Option.bind_eq_some_iff.mp hf
          refine g_calli (pc := 33) (ws2 := fun u => (wB ad ++ wC ad ca vC)) (wr := ([] : va_W)) Z [0, 1, 2, 3, 4, 5] [] [0, 1, 2, 3, 4, 5] (g_runV Z (c_Blk_sizeAt l D ad ca vC y2 x4 h5) (cwV 1 Z.2.2.2.2.1 (gg_V ww118 ww119 ww120 ww116 ww121) rfl rfl rfl (yv_of rfl yd_Blk_sizeAt) ⟨Nat.le_of_ble_eq_true rfl, Nat.le_of_ble_eq_true rfl⟩) [0, 1, 2, 3, 4, 5] rfl (by decide) 0 rfl rfl rfl rfl rfl (Nat.le_of_ble_eq_true rfl) dX0_isUsedAddress_33 ⟨Nat.le_of_ble_eq_true rfl, Nat.le_of_ble_eq_true rfl⟩) rfl rfl (by decide) (by decide) (by decide) (fun _ => rfl) (fun r u hu => ?_)
          obtain rfl := hu.symm
          refine g_iadd (pc := 36) Z dX0_isUsedAddress_36 ?_
          refine g_iadd (pc := 37) Z dX0_isUsedAddress_37 ?_
          refine g_istore_n (pc := 38) (lv' := [(2, .int (y2 + ((1 : Int32) + x4))), (0, .ref (ad 12)), (1, .int y1)]) Z dX0_isUsedAddress_38 (by decide) rfl ?_
          refine g_goto (pc := 39) (tgt := 4) Z dX0_isUsedAddress_39 (by decide) ?_
          refine g_locals (lv2 := [(0, .ref (ad 12)), (1, .int y1), (2, .int (y2 + ((1 : Int32) + x4)))]) [1, 2, 0] rfl ?_
          exact ih _ _ hf
        · replace hf := gIfP c3 hf
          refine g_aload_n (pc := 23) Z 0 dX0_isUsedAddress_23 rfl ?_
          refine g_iload_n (pc := 24) Z 2 dX0_isUsedAddress_24 rfl ?_
          obtain ⟨x6, h7, hf⟩ := Option.bind_eq_some_iff.mp hf
          refine g_calli (pc := 25) (ws2 := fun u => (wB ad ++ wC ad ca vC)) (wr := ([] : va_W)) Z [0, 1, 2, 3, 4, 5] [] [0, 1, 2, 3, 4, 5] (g_runV Z (c_Blk_isUsed l D ad ca vC y2 x6 h7) (cwV 1 Z.2.2.2.2.1 (gg_V ww113 ww114 ww115 ww116 ww117) rfl rfl rfl (yv_of rfl yd_Blk_isUsed) ⟨Nat.le_of_ble_eq_true rfl, Nat.le_of_ble_eq_true rfl⟩) [0, 1, 2, 3, 4, 5] rfl (by decide) 0 rfl rfl rfl rfl rfl (Nat.le_of_ble_eq_true rfl) dX0_isUsedAddress_25 ⟨Nat.le_of_ble_eq_true rfl, Nat.le_of_ble_eq_true rfl⟩) rfl rfl (by decide) (by decide) (by decide) (fun _ => rfl) (fun r u hu => ?_)
          obtain rfl := hu.symm
          obtain rfl := Option.some.inj hf
          exact g_zret Z hr (bI_nar x6) dX0_isUsedAddress_28 () rfl rfl
set_option maxHeartbeats 4000000 in
set_option maxRecDepth 100000 in
theorem c_Blk_isUsedAddress (l : Launch) (D : va_G) (ad : Nat → Nat) (ca : Nat → ClassId) (N : Nat) (vC : CT) (p1 : Int32) (res : Bool) (hf : f_Blk_isUsedAddress N vC p1 = some res) (sz : Nat) : Met l yX0_isUsedAddress (cd_Blk_isUsedAddress :: gA) rm_Blk_isUsedAddress (va_Pc [.ref (ad 12), .int p1] (gP D cls (tys ca) (wB ad ++ wC ad ca vC) sz)) (q_Blk_isUsedAddress D ad ca vC res (va_A (wB ad ++ wC ad ca vC) sz)) 0 0 (va_A (wB ad ++ wC ad ca vC) sz) := by
  refine g_met (cc := cX0_isUsedAddress) (Qc := q_Blk_isUsedAddress D ad ca vC res) (lv := [(0, .ref (ad 12)), (1, .int p1)]) (own := RX0) (by decide) rfl rfl (Nat.le_of_ble_eq_true rfl) rfl sz ?_
  intro p e s m args below meth c A Z hr hnm
  unfold f_Blk_isUsedAddress at hf
  refine g_sipush (pc := 0) (v := 176) Z dX0_isUsedAddress_0 (by decide) ?_
  refine g_istore_n (pc := 3) (lv' := [(2, .int (176 : Int32)), (0, .ref (ad 12)), (1, .int p1)]) Z dX0_isUsedAddress_3 (by decide) rfl ?_
  refine g_locals (lv2 := [(0, .ref (ad 12)), (1, .int p1), (2, .int (176 : Int32))]) [1, 2, 0] rfl ?_
  exact w_Blk_isUsedAddress_4 Z hr N _ _ hf
/-! RedoHeap$Blocks.headBefore(I)I -/
def f_Blk_headBefore_6 (N : Nat) (vC : CT) : Nat → Int32 → Int32 → Int32 → Option (Int32)
  | 0, _, _, _ => none
  | n + 1, y1, y2, y3 => if y1 ≤ y3 then some y2 else (f_Blk_sizeAt vC y3).bind fun x2 => f_Blk_headBefore_6 N vC n y1 y3 (y3 + ((1 : Int32) + x2))
def f_Blk_headBefore (N : Nat) (vC : CT) (p1 : Int32) : Option (Int32) :=
  f_Blk_headBefore_6 N vC N p1 (-1 : Int32) (176 : Int32)
abbrev cd_Blk_headBefore : Cond := .code yX0_headBefore cX0_headBefore 4 (some .int)
theorem yd_Blk_headBefore : yX0_headBefore.cls ≠ "java/lang/invoke/MethodHandle" ∧ yX0_headBefore.cls ≠ "java/lang/invoke/VarHandle" ∧ (parseMethodDescriptor yX0_headBefore.desc).map (fun d => d.parameters.length) = some 1 := by decide +kernel
abbrev rm_Blk_headBefore : Room := { frames := 3, cells := 0, slots := 0, locals := 65 }
abbrev q_Blk_headBefore (D : va_G) (ad : Nat → Nat) (ca : Nat → ClassId) (vC : CT) (res : Int32) (A : Nat → Prop) : Array Value → State → Outcome → State → Prop := va_Qi (fun (r : Int32) (_ : Unit) => r = res) (gB D cls (tys ca) A (fun (u : Unit) => (wB ad ++ wC ad ca vC))) A
set_option maxHeartbeats 4000000 in
set_option maxRecDepth 100000 in
theorem w_Blk_headBefore_6 {p : Program} {l : Launch} {e : Env} {s : State} {m : MethodId} {args : Array Value} {below : List Frame} {meth : Method} {c : Code} {D : va_G} {ad : Nat → Nat} {ca : Nat → ClassId} {A : Nat → Prop} {N : Nat} {vC : CT} {res : Int32} (Z : gZ p s m args meth c cX0_headBefore 4 RX0 (cd_Blk_headBefore :: gA) A D cls (tys ca)) (hr : meth.sig.returnType = (some .int)) : ∀ (n : Nat) (y1 : Int32) (y2 : Int32) (y3 : Int32), f_Blk_headBefore_6 N vC n y1 y2 y3 = some res → gW p l e rm_Blk_headBefore s m args below meth c 4 A D cls 0 0 (MQ below (q_Blk_headBefore D ad ca vC res A) args s 0 0 A) (wB ad ++ wC ad ca vC) [(0, .ref (ad 12)), (1, .int y1), (2, .int y2), (3, .int y3)] 6 [] := by
  intro n
  induction n with
  | zero =>
    intro y1 y2 y3 hf
    exact absurd hf (by rw [f_Blk_headBefore_6]; exact fun h => by cases h)
  | succ n ih =>
    intro y1 y2 y3 hf
    rw [f_Blk_headBefore_6] at hf
    refine g_iload_n (pc := 6) Z 3 dX0_headBefore_6 rfl ?_
    refine g_iload_n (pc := 7) Z 1 dX0_headBefore_7 rfl ?_
    refine g_icmp_ge (pc := 8) (tgt := 26) Z dX0_headBefore_8 (by decide) (fun c1 => ?_) (fun c1 => ?_)
    · replace hf := gIfP c1 hf
      refine g_iload_n (pc := 26) Z 2 dX0_headBefore_26 rfl ?_
      obtain rfl := Option.some.inj hf
      exact g_iret Z hr dX0_headBefore_27 () rfl rfl
    · replace hf := gIfN c1 hf
      refine g_iload_n (pc := 11) Z 3 dX0_headBefore_11 rfl ?_
      refine g_istore_n (pc := 12) (lv' := [(2, .int y3), (0, .ref (ad 12)), (1, .int y1), (3, .int y3)]) Z dX0_headBefore_12 (by decide) rfl ?_
      refine g_iload_n (pc := 13) Z 3 dX0_headBefore_13 rfl ?_
      refine g_iconst (pc := 14) (v := 1) Z dX0_headBefore_14 (by decide) ?_
      refine g_aload_n (pc := 15) Z 1 dX0_headBefore_15 rfl ?_
      refine g_iload_n (pc := 16) Z 3 dX0_headBefore_16 rfl ?_
      obtain ⟨x2, h3, hf⟩ := Option.bind_eq_some_iff.mp hf
      refine g_calli (pc := 17) (ws2 := fun u => (wB ad ++ wC ad ca vC)) (wr := ([] : va_W)) Z [0, 1, 2, 3, 4, 5] [] [0, 1, 2, 3, 4, 5] (g_runV Z (c_Blk_sizeAt l D ad ca vC y3 x2 h3) (cwV 1 Z.2.2.2.2.1 (gg_V ww118 ww119 ww120 ww116 ww121) rfl rfl rfl (yv_of rfl yd_Blk_sizeAt) ⟨Nat.le_of_ble_eq_true rfl, Nat.le_of_ble_eq_true rfl⟩) [0, 1, 2, 3, 4, 5] rfl (by decide) 0 rfl rfl rfl rfl rfl (Nat.le_of_ble_eq_true rfl) dX0_headBefore_17 ⟨Nat.le_of_ble_eq_true rfl, Nat.le_of_ble_eq_true rfl⟩) rfl rfl (by decide) (by decide) (by decide) (fun _ => rfl) (fun r u hu => ?_)
      obtain rfl := hu.symm
      refine g_iadd (pc := 20) Z dX0_headBefore_20 ?_
      refine g_iadd (pc := 21) Z dX0_headBefore_21 ?_
      refine g_istore_n (pc := 22) (lv' := [(3, .int (y3 + ((1 : Int32) + x2))), (2, .int y3), (0, .ref (ad 12)), (1, .int y1)]) Z dX0_headBefore_22 (by decide) rfl ?_
      refine g_goto (pc := 23) (tgt := 6) Z dX0_headBefore_23 (by decide) ?_
      refine g_locals (lv2 := [(0, .ref (ad 12)), (1, .int y1), (2, .int y3), (3, .int (y3 + ((1 : Int32) + x2)))]) [2, 3, 1, 0] rfl ?_
      exact ih _ _ _ hf
set_option maxHeartbeats 4000000 in
set_option maxRecDepth 100000 in
theorem c_Blk_headBefore (l : Launch) (D : va_G) (ad : Nat → Nat) (ca : Nat → ClassId) (N : Nat) (vC : CT) (p1 : Int32) (res : Int32) (hf : f_Blk_headBefore N vC p1 = some res) (sz : Nat) : Met l yX0_headBefore (cd_Blk_headBefore :: gA) rm_Blk_headBefore (va_Pc [.ref (ad 12), .int p1] (gP D cls (tys ca) (wB ad ++ wC ad ca vC) sz)) (q_Blk_headBefore D ad ca vC res (va_A (wB ad ++ wC ad ca vC) sz)) 0 0 (va_A (wB ad ++ wC ad ca vC) sz) := by
  refine g_met (cc := cX0_headBefore) (Qc := q_Blk_headBefore D ad ca vC res) (lv := [(0, .ref (ad 12)), (1, .int p1)]) (own := RX0) (by decide) rfl rfl (Nat.le_of_ble_eq_true rfl) rfl sz ?_
  intro p e s m args below meth c A Z hr hnm
  unfold f_Blk_headBefore at hf
  refine g_iconst (pc := 0) (v := -1) Z dX0_headBefore_0 (by decide) ?_
  refine g_istore_n (pc := 1) (lv' := [(2, .int (-1 : Int32)), (0, .ref (ad 12)), (1, .int p1)]) Z dX0_headBefore_1 (by decide) rfl ?_
  refine g_sipush (pc := 2) (v := 176) Z dX0_headBefore_2 (by decide) ?_
  refine g_istore_n (pc := 5) (lv' := [(3, .int (176 : Int32)), (2, .int (-1 : Int32)), (0, .ref (ad 12)), (1, .int p1)]) Z dX0_headBefore_5 (by decide) rfl ?_
  refine g_locals (lv2 := [(0, .ref (ad 12)), (1, .int p1), (2, .int (-1 : Int32)), (3, .int (176 : Int32))]) [2, 3, 1, 0] rfl ?_
  exact w_Blk_headBefore_6 Z hr N _ _ _ hf
theorem ww141 : Cond.methodLink RX0 53 yX0_headBefore ∈ gA := wt2 93 rfl rfl
theorem ww142 : Cond.instanceMethod yX0_headBefore ∈ gA := wt2 95 rfl rfl
theorem ww143 : Cond.selects RX0 yX0_headBefore yX0_headBefore ∈ gA := wtS 8 rfl rfl
theorem ww144 : cd_Blk_headBefore ∈ gA := wt2 96 rfl rfl
/-! RedoHeap$Blocks.giveBack(I)I -/
def f_Blk_giveBack (N : Nat) (vC : CT) (p1 : Int32) : Option (Int32 × CT) :=
  (f_Blk_sizeAt vC p1).bind fun x1 => (f_Blk_freeAt vC ((p1 + (1 : Int32)) + x1)).bind fun x3 => if x3 ≤ 0 then (f_Blk_headBefore N vC p1).bind fun x6 => (f_Blk_freeAt vC x6).bind fun x8 => if x8 ≤ 0 then (f_Chg_change N vC p1 ((2 : Int64) * x1.toInt64)).bind fun x11 => if x11.1 = true then some (x1, x11.2) else some ((-1 : Int32), x11.2) else (f_Blk_freeAt vC x6).bind fun x14 => (f_Chg_change N vC x6 ((2 : Int64) * ((x1 + ((1 : Int32) + x14)).toInt64))).bind fun x16 => if x16.1 = true then some (x1 + ((1 : Int32) + x14), x16.2) else some ((-1 : Int32), x16.2) else (f_Blk_freeAt vC ((p1 + (1 : Int32)) + x1)).bind fun x19 => (f_Blk_headBefore N vC p1).bind fun x21 => (f_Blk_freeAt vC x21).bind fun x23 => if x23 ≤ 0 then (f_Chg_change N vC p1 ((2 : Int64) * ((x1 + ((1 : Int32) + x19)).toInt64))).bind fun x26 => if x26.1 = true then some (x1 + ((1 : Int32) + x19), x26.2) else some ((-1 : Int32), x26.2) else (f_Blk_freeAt vC x21).bind fun x29 => (f_Chg_change N vC x21 ((2 : Int64) * (((x1 + ((1 : Int32) + x19)) + ((1 : Int32) + x29)).toInt64))).bind fun x31 => if x31.1 = true then some ((x1 + ((1 : Int32) + x19)) + ((1 : Int32) + x29), x31.2) else some ((-1 : Int32), x31.2)
abbrev cd_Blk_giveBack : Cond := .code yX0_giveBack cX0_giveBack 6 (some .int)
theorem yd_Blk_giveBack : yX0_giveBack.cls ≠ "java/lang/invoke/MethodHandle" ∧ yX0_giveBack.cls ≠ "java/lang/invoke/VarHandle" ∧ (parseMethodDescriptor yX0_giveBack.desc).map (fun d => d.parameters.length) = some 1 := by decide +kernel
abbrev rm_Blk_giveBack : Room := { frames := 4, cells := 0, slots := 0, locals := 88 }
abbrev q_Blk_giveBack (D : va_G) (ad : Nat → Nat) (ca : Nat → ClassId) (res : Int32 × CT) (A : Nat → Prop) : Array Value → State → Outcome → State → Prop := va_Qi (fun (r : Int32) (u : CT) => r = res.1 ∧ u = res.2) (gB D cls (tys ca) A (fun (u : CT) => (wB ad ++ wC ad ca u))) A
set_option maxHeartbeats 4000000 in
set_option maxRecDepth 100000 in
theorem c_Blk_giveBack (l : Launch) (D : va_G) (ad : Nat → Nat) (ca : Nat → ClassId) (N : Nat) (vC : CT) (p1 : Int32) (res : Int32 × CT) (hf : f_Blk_giveBack N vC p1 = some res) (sz : Nat) : Met l yX0_giveBack (cd_Blk_giveBack :: gA) rm_Blk_giveBack (va_Pc [.ref (ad 12), .int p1] (gP D cls (tys ca) (wB ad ++ wC ad ca vC) sz)) (q_Blk_giveBack D ad ca res (va_A (wB ad ++ wC ad ca vC) sz)) 0 0 (va_A (wB ad ++ wC ad ca vC) sz) := by
  refine g_met (cc := cX0_giveBack) (Qc := q_Blk_giveBack D ad ca res) (lv := [(0, .ref (ad 12)), (1, .int p1)]) (own := RX0) (by decide) rfl rfl (Nat.le_of_ble_eq_true rfl) rfl sz ?_
  intro p e s m args below meth c A Z hr hnm
  unfold f_Blk_giveBack at hf
  refine g_iload_n (pc := 0) Z 1 dX0_giveBack_0 rfl ?_
  refine g_istore_n (pc := 1) (lv' := [(2, .int p1), (0, .ref (ad 12)), (1, .int p1)]) Z dX0_giveBack_1 (by decide) rfl ?_
  refine g_aload_n (pc := 2) Z 1 dX0_giveBack_2 rfl ?_
  refine g_iload_n (pc := 3) Z 2 dX0_giveBack_3 rfl ?_
  obtain ⟨x1, h2, hf⟩ := Option.bind_eq_some_iff.mp hf
  refine g_calli (pc := 4) (ws2 := fun u => (wB ad ++ wC ad ca vC)) (wr := ([] : va_W)) Z [0, 1, 2, 3, 4, 5] [] [0, 1, 2, 3, 4, 5] (g_runV Z (c_Blk_sizeAt l D ad ca vC p1 x1 h2) (cwV 1 Z.2.2.2.2.1 (gg_V ww118 ww119 ww120 ww116 ww121) rfl rfl rfl (yv_of rfl yd_Blk_sizeAt) ⟨Nat.le_of_ble_eq_true rfl, Nat.le_of_ble_eq_true rfl⟩) [0, 1, 2, 3, 4, 5] rfl (by decide) 0 rfl rfl rfl rfl rfl (Nat.le_of_ble_eq_true rfl) dX0_giveBack_4 ⟨Nat.le_of_ble_eq_true rfl, Nat.le_of_ble_eq_true rfl⟩) rfl rfl (by decide) (by decide) (by decide) (fun _ => rfl) (fun r u hu => ?_)
  obtain rfl := hu.symm
  refine g_istore_n (pc := 7) (lv' := [(3, .int x1), (2, .int p1), (0, .ref (ad 12)), (1, .int p1)]) Z dX0_giveBack_7 (by decide) rfl ?_
  refine g_iload_n (pc := 8) Z 3 dX0_giveBack_8 rfl ?_
  refine g_iconst (pc := 9) (v := 1) Z dX0_giveBack_9 (by decide) ?_
  refine g_iadd (pc := 10) Z dX0_giveBack_10 ?_
  refine g_iload_n (pc := 11) Z 0 dX0_giveBack_11 rfl ?_
  refine g_iadd (pc := 12) Z dX0_giveBack_12 ?_
  refine g_istore (pc := 13) (lv' := [(4, .int ((p1 + (1 : Int32)) + x1)), (3, .int x1), (2, .int p1), (0, .ref (ad 12)), (1, .int p1)]) Z dX0_giveBack_13 (by decide) rfl ?_
  refine g_aload_n (pc := 15) Z 3 dX0_giveBack_15 rfl ?_
  refine g_iload (pc := 16) Z 0 dX0_giveBack_16 rfl ?_
  obtain ⟨x3, h4, hf⟩ := Option.bind_eq_some_iff.mp hf
  refine g_calli (pc := 18) (ws2 := fun u => (wB ad ++ wC ad ca vC)) (wr := ([] : va_W)) Z [0, 1, 2, 3, 4, 5] [] [0, 1, 2, 3, 4, 5] (g_runV Z (c_Blk_freeAt l D ad ca vC ((p1 + (1 : Int32)) + x1) x3 h4) (cwV 1 Z.2.2.2.2.1 (gg_V ww122 ww123 ww124 ww116 ww125) rfl rfl rfl (yv_of rfl yd_Blk_freeAt) ⟨Nat.le_of_ble_eq_true rfl, Nat.le_of_ble_eq_true rfl⟩) [0, 1, 2, 3, 4, 5] rfl (by decide) 0 rfl rfl rfl rfl rfl (Nat.le_of_ble_eq_true rfl) dX0_giveBack_18 ⟨Nat.le_of_ble_eq_true rfl, Nat.le_of_ble_eq_true rfl⟩) rfl rfl (by decide) (by decide) (by decide) (fun _ => rfl) (fun r u hu => ?_)
  obtain rfl := hu.symm
  refine g_if_le (pc := 21) (tgt := 35) Z dX0_giveBack_21 (by decide) (fun c5 => ?_) (fun c5 => ?_)
  · replace hf := gIfP c5 hf
    refine g_aload_n (pc := 35) Z 3 dX0_giveBack_35 rfl ?_
    refine g_iload_n (pc := 36) Z 4 dX0_giveBack_36 rfl ?_
    obtain ⟨x6, h7, hf⟩ := Option.bind_eq_some_iff.mp hf
    refine g_calli (pc := 37) (ws2 := fun u => (wB ad ++ wC ad ca vC)) (wr := ([] : va_W)) Z [0, 1, 2, 3, 4, 5] [] [0, 1, 2, 3, 4, 5] (g_runV Z (c_Blk_headBefore l D ad ca N vC p1 x6 h7) (cwV 1 Z.2.2.2.2.1 (gg_V ww141 ww142 ww143 ww116 ww144) rfl rfl rfl (yv_of rfl yd_Blk_headBefore) ⟨Nat.le_of_ble_eq_true rfl, Nat.le_of_ble_eq_true rfl⟩) [0, 1, 2, 3, 4, 5] rfl (by decide) 0 rfl rfl rfl rfl rfl (Nat.le_of_ble_eq_true rfl) dX0_giveBack_37 ⟨Nat.le_of_ble_eq_true rfl, Nat.le_of_ble_eq_true rfl⟩) rfl rfl (by decide) (by decide) (by decide) (fun _ => rfl) (fun r u hu => ?_)
    obtain rfl := hu.symm
    refine g_istore (pc := 40) (lv' := [(5, .int x6), (4, .int ((p1 + (1 : Int32)) + x1)), (3, .int x1), (2, .int p1), (0, .ref (ad 12)), (1, .int p1)]) Z dX0_giveBack_40 (by decide) rfl ?_
    refine g_aload_n (pc := 42) Z 4 dX0_giveBack_42 rfl ?_
    refine g_iload (pc := 43) Z 0 dX0_giveBack_43 rfl ?_
    obtain ⟨x8, h9, hf⟩ := Option.bind_eq_some_iff.mp hf
    refine g_calli (pc := 45) (ws2 := fun u => (wB ad ++ wC ad ca vC)) (wr := ([] : va_W)) Z [0, 1, 2, 3, 4, 5] [] [0, 1, 2, 3, 4, 5] (g_runV Z (c_Blk_freeAt l D ad ca vC x6 x8 h9) (cwV 1 Z.2.2.2.2.1 (gg_V ww122 ww123 ww124 ww116 ww125) rfl rfl rfl (yv_of rfl yd_Blk_freeAt) ⟨Nat.le_of_ble_eq_true rfl, Nat.le_of_ble_eq_true rfl⟩) [0, 1, 2, 3, 4, 5] rfl (by decide) 0 rfl rfl rfl rfl rfl (Nat.le_of_ble_eq_true rfl) dX0_giveBack_45 ⟨Nat.le_of_ble_eq_true rfl, Nat.le_of_ble_eq_true rfl⟩) rfl rfl (by decide) (by decide) (by decide) (fun _ => rfl) (fun r u hu => ?_)
    obtain rfl := hu.symm
    refine g_if_le (pc := 48) (tgt := 65) Z dX0_giveBack_48 (by decide) (fun c10 => ?_) (fun c10 => ?_)
    · replace hf := gIfP c10 hf
      refine g_aload_n (pc := 65) Z 4 dX0_giveBack_65 rfl ?_
      refine g_get (pc := 66) (T := TX0) (N := 1) Z 0 0 dX0_giveBack_66 (mm ww110) inx_X0 rfl (by decide) rfl rfl rfl ?_
      refine g_iload_n (pc := 69) Z 3 dX0_giveBack_69 rfl ?_
      refine g_ldc2 (pc := 70) (v := 2) Z dX0_giveBack_70 (mm ww126) ?_
      refine g_iload_n (pc := 73) Z 2 dX0_giveBack_73 rfl ?_
      refine g_i2l (pc := 74) Z dX0_giveBack_74 ?_
      refine g_lmul (pc := 75) Z dX0_giveBack_75 ?_
      obtain ⟨x11, h12, hf⟩ := Option.bind_eq_some_iff.mp hf
      refine g_calli (pc := 76) (ws2 := fun u => (wB ad ++ wC ad ca u)) (wr := (wB ad)) Z [1, 2, 3, 4, 5] [0] [0, 1, 2, 3, 4, 5] (g_runV Z (c_Chg_change l D ad ca N vC p1 ((2 : Int64) * x1.toInt64) x11 h12) (cwV 2 Z.2.2.2.2.1 (gg_V ww129 ww130 ww131 ww40 ww132) rfl rfl rfl (yv_of rfl yd_Chg_change) ⟨Nat.le_of_ble_eq_true rfl, Nat.le_of_ble_eq_true rfl⟩) [1, 2, 3, 4, 5] rfl (by decide) 0 rfl rfl rfl rfl rfl (Nat.le_of_ble_eq_true rfl) dX0_giveBack_76 ⟨Nat.le_of_ble_eq_true rfl, Nat.le_of_ble_eq_true rfl⟩) rfl rfl (by decide) (by decide) (by decide) (fun _ => rfl) (fun r u hu => ?_)
      obtain ⟨rfl, rfl⟩ := hu
      refine g_if_eq (pc := 79) (tgt := 86) Z dX0_giveBack_79 (by decide) (fun c13 => ?_) (fun c13 => ?_)
      · replace hf := gIfN (bI_z c13) hf
        refine g_iconst (pc := 86) (v := -1) Z dX0_giveBack_86 (by decide) ?_
        obtain rfl := Option.some.inj hf
        exact g_iret Z hr dX0_giveBack_87 x11.2 ⟨rfl, rfl⟩ rfl
      · replace hf := gIfP (bI_nz c13) hf
        refine g_iload_n (pc := 82) Z 2 dX0_giveBack_82 rfl ?_
        refine g_goto (pc := 83) (tgt := 87) Z dX0_giveBack_83 (by decide) ?_
        obtain rfl := Option.some.inj hf
        exact g_iret Z hr dX0_giveBack_87 x11.2 ⟨rfl, rfl⟩ rfl
    · replace hf := gIfN c10 hf
      refine g_iload (pc := 51) Z 0 dX0_giveBack_51 rfl ?_
      refine g_istore_n (pc := 53) (lv' := [(2, .int x6), (5, .int x6), (4, .int ((p1 + (1 : Int32)) + x1)), (3, .int x1), (0, .ref (ad 12)), (1, .int p1)]) Z dX0_giveBack_53 (by decide) rfl ?_
      refine g_iload_n (pc := 54) Z 3 dX0_giveBack_54 rfl ?_
      refine g_iconst (pc := 55) (v := 1) Z dX0_giveBack_55 (by decide) ?_
      refine g_aload_n (pc := 56) Z 4 dX0_giveBack_56 rfl ?_
      refine g_iload (pc := 57) Z 1 dX0_giveBack_57 rfl ?_
      obtain ⟨x14, h15, hf⟩ := Option.bind_eq_some_iff.mp hf
      refine g_calli (pc := 59) (ws2 := fun u => (wB ad ++ wC ad ca vC)) (wr := ([] : va_W)) Z [0, 1, 2, 3, 4, 5] [] [0, 1, 2, 3, 4, 5] (g_runV Z (c_Blk_freeAt l D ad ca vC x6 x14 h15) (cwV 1 Z.2.2.2.2.1 (gg_V ww122 ww123 ww124 ww116 ww125) rfl rfl rfl (yv_of rfl yd_Blk_freeAt) ⟨Nat.le_of_ble_eq_true rfl, Nat.le_of_ble_eq_true rfl⟩) [0, 1, 2, 3, 4, 5] rfl (by decide) 0 rfl rfl rfl rfl rfl (Nat.le_of_ble_eq_true rfl) dX0_giveBack_59 ⟨Nat.le_of_ble_eq_true rfl, Nat.le_of_ble_eq_true rfl⟩) rfl rfl (by decide) (by decide) (by decide) (fun _ => rfl) (fun r u hu => ?_)
      obtain rfl := hu.symm
      refine g_iadd (pc := 62) Z dX0_giveBack_62 ?_
      refine g_iadd (pc := 63) Z dX0_giveBack_63 ?_
      refine g_istore_n (pc := 64) (lv' := [(3, .int (x1 + ((1 : Int32) + x14))), (2, .int x6), (5, .int x6), (4, .int ((p1 + (1 : Int32)) + x1)), (0, .ref (ad 12)), (1, .int p1)]) Z dX0_giveBack_64 (by decide) rfl ?_
      refine g_aload_n (pc := 65) Z 4 dX0_giveBack_65 rfl ?_
      refine g_get (pc := 66) (T := TX0) (N := 1) Z 0 0 dX0_giveBack_66 (mm ww110) inx_X0 rfl (by decide) rfl rfl rfl ?_
      refine g_iload_n (pc := 69) Z 1 dX0_giveBack_69 rfl ?_
      refine g_ldc2 (pc := 70) (v := 2) Z dX0_giveBack_70 (mm ww126) ?_
      refine g_iload_n (pc := 73) Z 0 dX0_giveBack_73 rfl ?_
      refine g_i2l (pc := 74) Z dX0_giveBack_74 ?_
      refine g_lmul (pc := 75) Z dX0_giveBack_75 ?_
      obtain ⟨x16, h17, hf⟩ := Option.bind_eq_some_iff.mp hf
      refine g_calli (pc := 76) (ws2 := fun u => (wB ad ++ wC ad ca u)) (wr := (wB ad)) Z [1, 2, 3, 4, 5] [0] [0, 1, 2, 3, 4, 5] (g_runV Z (c_Chg_change l D ad ca N vC x6 ((2 : Int64) * ((x1 + ((1 : Int32) + x14)).toInt64)) x16 h17) (cwV 2 Z.2.2.2.2.1 (gg_V ww129 ww130 ww131 ww40 ww132) rfl rfl rfl (yv_of rfl yd_Chg_change) ⟨Nat.le_of_ble_eq_true rfl, Nat.le_of_ble_eq_true rfl⟩) [1, 2, 3, 4, 5] rfl (by decide) 0 rfl rfl rfl rfl rfl (Nat.le_of_ble_eq_true rfl) dX0_giveBack_76 ⟨Nat.le_of_ble_eq_true rfl, Nat.le_of_ble_eq_true rfl⟩) rfl rfl (by decide) (by decide) (by decide) (fun _ => rfl) (fun r u hu => ?_)
      obtain ⟨rfl, rfl⟩ := hu
      refine g_if_eq (pc := 79) (tgt := 86) Z dX0_giveBack_79 (by decide) (fun c18 => ?_) (fun c18 => ?_)
      · replace hf := gIfN (bI_z c18) hf
        refine g_iconst (pc := 86) (v := -1) Z dX0_giveBack_86 (by decide) ?_
        obtain rfl := Option.some.inj hf
        exact g_iret Z hr dX0_giveBack_87 x16.2 ⟨rfl, rfl⟩ rfl
      · replace hf := gIfP (bI_nz c18) hf
        refine g_iload_n (pc := 82) Z 0 dX0_giveBack_82 rfl ?_
        refine g_goto (pc := 83) (tgt := 87) Z dX0_giveBack_83 (by decide) ?_
        obtain rfl := Option.some.inj hf
        exact g_iret Z hr dX0_giveBack_87 x16.2 ⟨rfl, rfl⟩ rfl
  · replace hf := gIfN c5 hf
    refine g_iload_n (pc := 24) Z 1 dX0_giveBack_24 rfl ?_
    refine g_iconst (pc := 25) (v := 1) Z dX0_giveBack_25 (by decide) ?_
    refine g_aload_n (pc := 26) Z 3 dX0_giveBack_26 rfl ?_
    refine g_iload (pc := 27) Z 0 dX0_giveBack_27 rfl ?_
    obtain ⟨x19, h20, hf⟩ := Option.bind_eq_some_iff.mp hf
    refine g_calli (pc := 29) (ws2 := fun u => (wB ad ++ wC ad ca vC)) (wr := ([] : va_W)) Z [0, 1, 2, 3, 4, 5] [] [0, 1, 2, 3, 4, 5] (g_runV Z (c_Blk_freeAt l D ad ca vC ((p1 + (1 : Int32)) + x1) x19 h20) (cwV 1 Z.2.2.2.2.1 (gg_V ww122 ww123 ww124 ww116 ww125) rfl rfl rfl (yv_of rfl yd_Blk_freeAt) ⟨Nat.le_of_ble_eq_true rfl, Nat.le_of_ble_eq_true rfl⟩) [0, 1, 2, 3, 4, 5] rfl (by decide) 0 rfl rfl rfl rfl rfl (Nat.le_of_ble_eq_true rfl) dX0_giveBack_29 ⟨Nat.le_of_ble_eq_true rfl, Nat.le_of_ble_eq_true rfl⟩) rfl rfl (by decide) (by decide) (by decide) (fun _ => rfl) (fun r u hu => ?_)
    obtain rfl := hu.symm
    refine g_iadd (pc := 32) Z dX0_giveBack_32 ?_
    refine g_iadd (pc := 33) Z dX0_giveBack_33 ?_
    refine g_istore_n (pc := 34) (lv' := [(3, .int (x1 + ((1 : Int32) + x19))), (4, .int ((p1 + (1 : Int32)) + x1)), (2, .int p1), (0, .ref (ad 12)), (1, .int p1)]) Z dX0_giveBack_34 (by decide) rfl ?_
    refine g_aload_n (pc := 35) Z 3 dX0_giveBack_35 rfl ?_
    refine g_iload_n (pc := 36) Z 4 dX0_giveBack_36 rfl ?_
    obtain ⟨x21, h22, hf⟩ := Option.bind_eq_some_iff.mp hf
    refine g_calli (pc := 37) (ws2 := fun u => (wB ad ++ wC ad ca vC)) (wr := ([] : va_W)) Z [0, 1, 2, 3, 4, 5] [] [0, 1, 2, 3, 4, 5] (g_runV Z (c_Blk_headBefore l D ad ca N vC p1 x21 h22) (cwV 1 Z.2.2.2.2.1 (gg_V ww141 ww142 ww143 ww116 ww144) rfl rfl rfl (yv_of rfl yd_Blk_headBefore) ⟨Nat.le_of_ble_eq_true rfl, Nat.le_of_ble_eq_true rfl⟩) [0, 1, 2, 3, 4, 5] rfl (by decide) 0 rfl rfl rfl rfl rfl (Nat.le_of_ble_eq_true rfl) dX0_giveBack_37 ⟨Nat.le_of_ble_eq_true rfl, Nat.le_of_ble_eq_true rfl⟩) rfl rfl (by decide) (by decide) (by decide) (fun _ => rfl) (fun r u hu => ?_)
    obtain rfl := hu.symm
    refine g_istore (pc := 40) (lv' := [(5, .int x21), (3, .int (x1 + ((1 : Int32) + x19))), (4, .int ((p1 + (1 : Int32)) + x1)), (2, .int p1), (0, .ref (ad 12)), (1, .int p1)]) Z dX0_giveBack_40 (by decide) rfl ?_
    refine g_aload_n (pc := 42) Z 4 dX0_giveBack_42 rfl ?_
    refine g_iload (pc := 43) Z 0 dX0_giveBack_43 rfl ?_
    obtain ⟨x23, h24, hf⟩ := Option.bind_eq_some_iff.mp hf
    refine g_calli (pc := 45) (ws2 := fun u => (wB ad ++ wC ad ca vC)) (wr := ([] : va_W)) Z [0, 1, 2, 3, 4, 5] [] [0, 1, 2, 3, 4, 5] (g_runV Z (c_Blk_freeAt l D ad ca vC x21 x23 h24) (cwV 1 Z.2.2.2.2.1 (gg_V ww122 ww123 ww124 ww116 ww125) rfl rfl rfl (yv_of rfl yd_Blk_freeAt) ⟨Nat.le_of_ble_eq_true rfl, Nat.le_of_ble_eq_true rfl⟩) [0, 1, 2, 3, 4, 5] rfl (by decide) 0 rfl rfl rfl rfl rfl (Nat.le_of_ble_eq_true rfl) dX0_giveBack_45 ⟨Nat.le_of_ble_eq_true rfl, Nat.le_of_ble_eq_true rfl⟩) rfl rfl (by decide) (by decide) (by decide) (fun _ => rfl) (fun r u hu => ?_)
    obtain rfl := hu.symm
    refine g_if_le (pc := 48) (tgt := 65) Z dX0_giveBack_48 (by decide) (fun c25 => ?_) (fun c25 => ?_)
    · replace hf := gIfP c25 hf
      refine g_aload_n (pc := 65) Z 4 dX0_giveBack_65 rfl ?_
      refine g_get (pc := 66) (T := TX0) (N := 1) Z 0 0 dX0_giveBack_66 (mm ww110) inx_X0 rfl (by decide) rfl rfl rfl ?_
      refine g_iload_n (pc := 69) Z 3 dX0_giveBack_69 rfl ?_
      refine g_ldc2 (pc := 70) (v := 2) Z dX0_giveBack_70 (mm ww126) ?_
      refine g_iload_n (pc := 73) Z 1 dX0_giveBack_73 rfl ?_
      refine g_i2l (pc := 74) Z dX0_giveBack_74 ?_
      refine g_lmul (pc := 75) Z dX0_giveBack_75 ?_
      obtain ⟨x26, h27, hf⟩ := Option.bind_eq_some_iff.mp hf
      refine g_calli (pc := 76) (ws2 := fun u => (wB ad ++ wC ad ca u)) (wr := (wB ad)) Z [1, 2, 3, 4, 5] [0] [0, 1, 2, 3, 4, 5] (g_runV Z (c_Chg_change l D ad ca N vC p1 ((2 : Int64) * ((x1 + ((1 : Int32) + x19)).toInt64)) x26 h27) (cwV 2 Z.2.2.2.2.1 (gg_V ww129 ww130 ww131 ww40 ww132) rfl rfl rfl (yv_of rfl yd_Chg_change) ⟨Nat.le_of_ble_eq_true rfl, Nat.le_of_ble_eq_true rfl⟩) [1, 2, 3, 4, 5] rfl (by decide) 0 rfl rfl rfl rfl rfl (Nat.le_of_ble_eq_true rfl) dX0_giveBack_76 ⟨Nat.le_of_ble_eq_true rfl, Nat.le_of_ble_eq_true rfl⟩) rfl rfl (by decide) (by decide) (by decide) (fun _ => rfl) (fun r u hu => ?_)
      obtain ⟨rfl, rfl⟩ := hu
      refine g_if_eq (pc := 79) (tgt := 86) Z dX0_giveBack_79 (by decide) (fun c28 => ?_) (fun c28 => ?_)
      · replace hf := gIfN (bI_z c28) hf
        refine g_iconst (pc := 86) (v := -1) Z dX0_giveBack_86 (by decide) ?_
        obtain rfl := Option.some.inj hf
        exact g_iret Z hr dX0_giveBack_87 x26.2 ⟨rfl, rfl⟩ rfl
      · replace hf := gIfP (bI_nz c28) hf
        refine g_iload_n (pc := 82) Z 1 dX0_giveBack_82 rfl ?_
        refine g_goto (pc := 83) (tgt := 87) Z dX0_giveBack_83 (by decide) ?_
        obtain rfl := Option.some.inj hf
        exact g_iret Z hr dX0_giveBack_87 x26.2 ⟨rfl, rfl⟩ rfl
    · replace hf := gIfN c25 hf
      refine g_iload (pc := 51) Z 0 dX0_giveBack_51 rfl ?_
      refine g_istore_n (pc := 53) (lv' := [(2, .int x21), (5, .int x21), (3, .int (x1 + ((1 : Int32) + x19))), (4, .int ((p1 + (1 : Int32)) + x1)), (0, .ref (ad 12)), (1, .int p1)]) Z dX0_giveBack_53 (by decide) rfl ?_
      refine g_iload_n (pc := 54) Z 2 dX0_giveBack_54 rfl ?_
      refine g_iconst (pc := 55) (v := 1) Z dX0_giveBack_55 (by decide) ?_
      refine g_aload_n (pc := 56) Z 4 dX0_giveBack_56 rfl ?_
      refine g_iload (pc := 57) Z 1 dX0_giveBack_57 rfl ?_
      obtain ⟨x29, h30, hf⟩ := Option.bind_eq_some_iff.mp hf
      refine g_calli (pc := 59) (ws2 := fun u => (wB ad ++ wC ad ca vC)) (wr := ([] : va_W)) Z [0, 1, 2, 3, 4, 5] [] [0, 1, 2, 3, 4, 5] (g_runV Z (c_Blk_freeAt l D ad ca vC x21 x29 h30) (cwV 1 Z.2.2.2.2.1 (gg_V ww122 ww123 ww124 ww116 ww125) rfl rfl rfl (yv_of rfl yd_Blk_freeAt) ⟨Nat.le_of_ble_eq_true rfl, Nat.le_of_ble_eq_true rfl⟩) [0, 1, 2, 3, 4, 5] rfl (by decide) 0 rfl rfl rfl rfl rfl (Nat.le_of_ble_eq_true rfl) dX0_giveBack_59 ⟨Nat.le_of_ble_eq_true rfl, Nat.le_of_ble_eq_true rfl⟩) rfl rfl (by decide) (by decide) (by decide) (fun _ => rfl) (fun r u hu => ?_)
      obtain rfl := hu.symm
      refine g_iadd (pc := 62) Z dX0_giveBack_62 ?_
      refine g_iadd (pc := 63) Z dX0_giveBack_63 ?_
      refine g_istore_n (pc := 64) (lv' := [(3, .int ((x1 + ((1 : Int32) + x19)) + ((1 : Int32) + x29))), (2, .int x21), (5, .int x21), (4, .int ((p1 + (1 : Int32)) + x1)), (0, .ref (ad 12)), (1, .int p1)]) Z dX0_giveBack_64 (by decide) rfl ?_
      refine g_aload_n (pc := 65) Z 4 dX0_giveBack_65 rfl ?_
      refine g_get (pc := 66) (T := TX0) (N := 1) Z 0 0 dX0_giveBack_66 (mm ww110) inx_X0 rfl (by decide) rfl rfl rfl ?_
      refine g_iload_n (pc := 69) Z 1 dX0_giveBack_69 rfl ?_
      refine g_ldc2 (pc := 70) (v := 2) Z dX0_giveBack_70 (mm ww126) ?_
      refine g_iload_n (pc := 73) Z 0 dX0_giveBack_73 rfl ?_
      refine g_i2l (pc := 74) Z dX0_giveBack_74 ?_
      refine g_lmul (pc := 75) Z dX0_giveBack_75 ?_
      obtain ⟨x31, h32, hf⟩ := Option.bind_eq_some_iff.mp hf
      refine g_calli (pc := 76) (ws2 := fun u => (wB ad ++ wC ad ca u)) (wr := (wB ad)) Z [1, 2, 3, 4, 5] [0] [0, 1, 2, 3, 4, 5] (g_runV Z (c_Chg_change l D ad ca N vC x21 ((2 : Int64) * (((x1 + ((1 : Int32) + x19)) + ((1 : Int32) + x29)).toInt64)) x31 h32) (cwV 2 Z.2.2.2.2.1 (gg_V ww129 ww130 ww131 ww40 ww132) rfl rfl rfl (yv_of rfl yd_Chg_change) ⟨Nat.le_of_ble_eq_true rfl, Nat.le_of_ble_eq_true rfl⟩) [1, 2, 3, 4, 5] rfl (by decide) 0 rfl rfl rfl rfl rfl (Nat.le_of_ble_eq_true rfl) dX0_giveBack_76 ⟨Nat.le_of_ble_eq_true rfl, Nat.le_of_ble_eq_true rfl⟩) rfl rfl (by decide) (by decide) (by decide) (fun _ => rfl) (fun r u hu => ?_)
      obtain ⟨rfl, rfl⟩ := hu
      refine g_if_eq (pc := 79) (tgt := 86) Z dX0_giveBack_79 (by decide) (fun c33 => ?_) (fun c33 => ?_)
      · replace hf := gIfN (bI_z c33) hf
        refine g_iconst (pc := 86) (v := -1) Z dX0_giveBack_86 (by decide) ?_
        obtain rfl := Option.some.inj hf
        exact g_iret Z hr dX0_giveBack_87 x31.2 ⟨rfl, rfl⟩ rfl
      · replace hf := gIfP (bI_nz c33) hf
        refine g_iload_n (pc := 82) Z 0 dX0_giveBack_82 rfl ?_
        refine g_goto (pc := 83) (tgt := 87) Z dX0_giveBack_83 (by decide) ?_
        obtain rfl := Option.some.inj hf
        exact g_iret Z hr dX0_giveBack_87 x31.2 ⟨rfl, rfl⟩ rfl
/-! RedoHeap$Blocks.headOf(I)I -/
def f_Blk_headOf_6 (N : Nat) (vC : CT) : Nat → Int32 → Int32 → Int32 → Option (Int32)
  | 0, _, _, _ => none
  | n + 1, y1, y2, y3 => if (1024 : Int32) ≤ y3 then some (-1 : Int32) else if y2 = y1 then some y3 else (f_Blk_sizeAt vC y3).bind fun x3 => f_Blk_headOf_6 N vC n y1 (y2 + (1 : Int32)) (y3 + ((1 : Int32) + x3))
def f_Blk_headOf (N : Nat) (vC : CT) (p1 : Int32) : Option (Int32) :=
  f_Blk_headOf_6 N vC N p1 (0 : Int32) (176 : Int32)
abbrev cd_Blk_headOf : Cond := .code yX0_headOf cX0_headOf 4 (some .int)
theorem yd_Blk_headOf : yX0_headOf.cls ≠ "java/lang/invoke/MethodHandle" ∧ yX0_headOf.cls ≠ "java/lang/invoke/VarHandle" ∧ (parseMethodDescriptor yX0_headOf.desc).map (fun d => d.parameters.length) = some 1 := by decide +kernel
abbrev rm_Blk_headOf : Room := { frames := 3, cells := 0, slots := 0, locals := 65 }
abbrev q_Blk_headOf (D : va_G) (ad : Nat → Nat) (ca : Nat → ClassId) (vC : CT) (res : Int32) (A : Nat → Prop) : Array Value → State → Outcome → State → Prop := va_Qi (fun (r : Int32) (_ : Unit) => r = res) (gB D cls (tys ca) A (fun (u : Unit) => (wB ad ++ wC ad ca vC))) A
set_option maxHeartbeats 4000000 in
set_option maxRecDepth 100000 in
theorem w_Blk_headOf_6 {p : Program} {l : Launch} {e : Env} {s : State} {m : MethodId} {args : Array Value} {below : List Frame} {meth : Method} {c : Code} {D : va_G} {ad : Nat → Nat} {ca : Nat → ClassId} {A : Nat → Prop} {N : Nat} {vC : CT} {res : Int32} (Z : gZ p s m args meth c cX0_headOf 4 RX0 (cd_Blk_headOf :: gA) A D cls (tys ca)) (hr : meth.sig.returnType = (some .int)) : ∀ (n : Nat) (y1 : Int32) (y2 : Int32) (y3 : Int32), f_Blk_headOf_6 N vC n y1 y2 y3 = some res → gW p l e rm_Blk_headOf s m args below meth c 4 A D cls 0 0 (MQ below (q_Blk_headOf D ad ca vC res A) args s 0 0 A) (wB ad ++ wC ad ca vC) [(0, .ref (ad 12)), (1, .int y1), (2, .int y2), (3, .int y3)] 6 [] := by
  intro n
  induction n with
  | zero =>
    intro y1 y2 y3 hf
    exact absurd hf (by rw [f_Blk_headOf_6]; exact fun h => by cases h)
  | succ n ih =>
    intro y1 y2 y3 hf
    rw [f_Blk_headOf_6] at hf
    refine g_iload_n (pc := 6) Z 3 dX0_headOf_6 rfl ?_
    refine g_sipush (pc := 7) (v := 1024) Z dX0_headOf_7 (by decide) ?_
    refine g_icmp_ge (pc := 10) (tgt := 36) Z dX0_headOf_10 (by decide) (fun c1 => ?_) (fun c1 => ?_)
    · replace hf := gIfP c1 hf
      refine g_iconst (pc := 36) (v := -1) Z dX0_headOf_36 (by decide) ?_
      obtain rfl := Option.some.inj hf
      exact g_iret Z hr dX0_headOf_37 () rfl rfl
    · replace hf := gIfN c1 hf
      refine g_iload_n (pc := 13) Z 2 dX0_headOf_13 rfl ?_
      refine g_iload_n (pc := 14) Z 1 dX0_headOf_14 rfl ?_
      refine g_icmp_ne (pc := 15) (tgt := 20) Z dX0_headOf_15 (by decide) (fun c2 => ?_) (fun c2 => ?_)
      · replace hf := gIfN c2 hf
        refine g_iinc (pc := 20) (v := y2 + (1 : Int32)) (lv' := [(2, .int (y2 + (1 : Int32))), (0, .ref (ad 12)), (1, .int y1), (3, .int y3)]) Z 2 dX0_headOf_20 rfl rfl (by decide) rfl ?_
        refine g_iload_n (pc := 23) Z 3 dX0_headOf_23 rfl ?_
        refine g_iconst (pc := 24) (v := 1) Z dX0_headOf_24 (by decide) ?_
        refine g_aload_n (pc := 25) Z 1 dX0_headOf_25 rfl ?_
        refine g_iload_n (pc := 26) Z 3 dX0_headOf_26 rfl ?_
        obtain ⟨x3, h4, hf⟩ := Option.bind_eq_some_iff.mp hf
        refine g_calli (pc := 27) (ws2 := fun u => (wB ad ++ wC ad ca vC)) (wr := ([] : va_W)) Z [0, 1, 2, 3, 4, 5] [] [0, 1, 2, 3, 4, 5] (g_runV Z (c_Blk_sizeAt l D ad ca vC y3 x3 h4) (cwV 1 Z.2.2.2.2.1 (gg_V ww118 ww119 ww120 ww116 ww121) rfl rfl rfl (yv_of rfl yd_Blk_sizeAt) ⟨Nat.le_of_ble_eq_true rfl, Nat.le_of_ble_eq_true rfl⟩) [0, 1, 2, 3, 4, 5] rfl (by decide) 0 rfl rfl rfl rfl rfl (Nat.le_of_ble_eq_true rfl) dX0_headOf_27 ⟨Nat.le_of_ble_eq_true rfl, Nat.le_of_ble_eq_true rfl⟩) rfl rfl (by decide) (by decide) (by decide) (fun _ => rfl) (fun r u hu => ?_)
        obtain rfl := hu.symm
        refine g_iadd (pc := 30) Z dX0_headOf_30 ?_
        refine g_iadd (pc := 31) Z dX0_headOf_31 ?_
        refine g_istore_n (pc := 32) (lv' := [(3, .int (y3 + ((1 : Int32) + x3))), (2, .int (y2 + (1 : Int32))), (0, .ref (ad 12)), (1, .int y1)]) Z dX0_headOf_32 (by decide) rfl ?_
        refine g_goto (pc := 33) (tgt := 6) Z dX0_headOf_33 (by decide) ?_
        refine g_locals (lv2 := [(0, .ref (ad 12)), (1, .int y1), (2, .int (y2 + (1 : Int32))), (3, .int (y3 + ((1 : Int32) + x3)))]) [2, 3, 1, 0] rfl ?_
        exact ih _ _ _ hf
      · replace hf := gIfP c2 hf
        refine g_iload_n (pc := 18) Z 3 dX0_headOf_18 rfl ?_
        obtain rfl := Option.some.inj hf
        exact g_iret Z hr dX0_headOf_19 () rfl rfl
set_option maxHeartbeats 4000000 in
set_option maxRecDepth 100000 in
theorem c_Blk_headOf (l : Launch) (D : va_G) (ad : Nat → Nat) (ca : Nat → ClassId) (N : Nat) (vC : CT) (p1 : Int32) (res : Int32) (hf : f_Blk_headOf N vC p1 = some res) (sz : Nat) : Met l yX0_headOf (cd_Blk_headOf :: gA) rm_Blk_headOf (va_Pc [.ref (ad 12), .int p1] (gP D cls (tys ca) (wB ad ++ wC ad ca vC) sz)) (q_Blk_headOf D ad ca vC res (va_A (wB ad ++ wC ad ca vC) sz)) 0 0 (va_A (wB ad ++ wC ad ca vC) sz) := by
  refine g_met (cc := cX0_headOf) (Qc := q_Blk_headOf D ad ca vC res) (lv := [(0, .ref (ad 12)), (1, .int p1)]) (own := RX0) (by decide) rfl rfl (Nat.le_of_ble_eq_true rfl) rfl sz ?_
  intro p e s m args below meth c A Z hr hnm
  unfold f_Blk_headOf at hf
  refine g_iconst (pc := 0) (v := 0) Z dX0_headOf_0 (by decide) ?_
  refine g_istore_n (pc := 1) (lv' := [(2, .int (0 : Int32)), (0, .ref (ad 12)), (1, .int p1)]) Z dX0_headOf_1 (by decide) rfl ?_
  refine g_sipush (pc := 2) (v := 176) Z dX0_headOf_2 (by decide) ?_
  refine g_istore_n (pc := 5) (lv' := [(3, .int (176 : Int32)), (2, .int (0 : Int32)), (0, .ref (ad 12)), (1, .int p1)]) Z dX0_headOf_5 (by decide) rfl ?_
  refine g_locals (lv2 := [(0, .ref (ad 12)), (1, .int p1), (2, .int (0 : Int32)), (3, .int (176 : Int32))]) [2, 3, 1, 0] rfl ?_
  exact w_Blk_headOf_6 Z hr N _ _ _ hf
/-! RedoHeap$Blocks.freeWords()I -/
def f_Blk_freeWords_6 (N : Nat) (vC : CT) : Nat → Int32 → Int32 → Option (Int32)
  | 0, _, _ => none
  | n + 1, y1, y2 => if (1024 : Int32) ≤ y2 then some y1 else (f_Blk_freeAt vC y2).bind fun x2 => (f_Blk_sizeAt vC y2).bind fun x4 => f_Blk_freeWords_6 N vC n (y1 + x2) (y2 + ((1 : Int32) + x4))
def f_Blk_freeWords (N : Nat) (vC : CT) : Option (Int32) :=
  f_Blk_freeWords_6 N vC N (0 : Int32) (176 : Int32)
abbrev cd_Blk_freeWords : Cond := .code yX0_freeWords cX0_freeWords 3 (some .int)
theorem yd_Blk_freeWords : yX0_freeWords.cls ≠ "java/lang/invoke/MethodHandle" ∧ yX0_freeWords.cls ≠ "java/lang/invoke/VarHandle" ∧ (parseMethodDescriptor yX0_freeWords.desc).map (fun d => d.parameters.length) = some 0 := by decide +kernel
abbrev rm_Blk_freeWords : Room := { frames := 4, cells := 0, slots := 0, locals := 86 }
abbrev q_Blk_freeWords (D : va_G) (ad : Nat → Nat) (ca : Nat → ClassId) (vC : CT) (res : Int32) (A : Nat → Prop) : Array Value → State → Outcome → State → Prop := va_Qi (fun (r : Int32) (_ : Unit) => r = res) (gB D cls (tys ca) A (fun (u : Unit) => (wB ad ++ wC ad ca vC))) A
set_option maxHeartbeats 4000000 in
set_option maxRecDepth 100000 in
theorem w_Blk_freeWords_6 {p : Program} {l : Launch} {e : Env} {s : State} {m : MethodId} {args : Array Value} {below : List Frame} {meth : Method} {c : Code} {D : va_G} {ad : Nat → Nat} {ca : Nat → ClassId} {A : Nat → Prop} {N : Nat} {vC : CT} {res : Int32} (Z : gZ p s m args meth c cX0_freeWords 3 RX0 (cd_Blk_freeWords :: gA) A D cls (tys ca)) (hr : meth.sig.returnType = (some .int)) : ∀ (n : Nat) (y1 : Int32) (y2 : Int32), f_Blk_freeWords_6 N vC n y1 y2 = some res → gW p l e rm_Blk_freeWords s m args below meth c 3 A D cls 0 0 (MQ below (q_Blk_freeWords D ad ca vC res A) args s 0 0 A) (wB ad ++ wC ad ca vC) [(0, .ref (ad 12)), (1, .int y1), (2, .int y2)] 6 [] := by
  intro n
  induction n with
  | zero =>
    intro y1 y2 hf
    exact absurd hf (by rw [f_Blk_freeWords_6]; exact fun h => by cases h)
  | succ n ih =>
    intro y1 y2 hf
    rw [f_Blk_freeWords_6] at hf
    refine g_iload_n (pc := 6) Z 2 dX0_freeWords_6 rfl ?_
    refine g_sipush (pc := 7) (v := 1024) Z dX0_freeWords_7 (by decide) ?_
    refine g_icmp_ge (pc := 10) (tgt := 34) Z dX0_freeWords_10 (by decide) (fun c1 => ?_) (fun c1 => ?_)
    · replace hf := gIfP c1 hf
      refine g_iload_n (pc := 34) Z 1 dX0_freeWords_34 rfl ?_
      obtain rfl := Option.some.inj hf
      exact g_iret Z hr dX0_freeWords_35 () rfl rfl
    · replace hf := gIfN c1 hf
      refine g_iload_n (pc := 13) Z 1 dX0_freeWords_13 rfl ?_
      refine g_aload_n (pc := 14) Z 0 dX0_freeWords_14 rfl ?_
      refine g_iload_n (pc := 15) Z 2 dX0_freeWords_15 rfl ?_
      obtain ⟨x2, h3, hf⟩ := Option.bind_eq_some_iff.mp hf
      refine g_calli (pc := 16) (ws2 := fun u => (wB ad ++ wC ad ca vC)) (wr := ([] : va_W)) Z [0, 1, 2, 3, 4, 5] [] [0, 1, 2, 3, 4, 5] (g_runV Z (c_Blk_freeAt l D ad ca vC y2 x2 h3) (cwV 1 Z.2.2.2.2.1 (gg_V ww122 ww123 ww124 ww116 ww125) rfl rfl rfl (yv_of rfl yd_Blk_freeAt) ⟨Nat.le_of_ble_eq_true rfl, Nat.le_of_ble_eq_true rfl⟩) [0, 1, 2, 3, 4, 5] rfl (by decide) 0 rfl rfl rfl rfl rfl (Nat.le_of_ble_eq_true rfl) dX0_freeWords_16 ⟨Nat.le_of_ble_eq_true rfl, Nat.le_of_ble_eq_true rfl⟩) rfl rfl (by decide) (by decide) (by decide) (fun _ => rfl) (fun r u hu => ?_)
      obtain rfl := hu.symm
      refine g_iadd (pc := 19) Z dX0_freeWords_19 ?_
      refine g_istore_n (pc := 20) (lv' := [(1, .int (y1 + x2)), (0, .ref (ad 12)), (2, .int y2)]) Z dX0_freeWords_20 (by decide) rfl ?_
      refine g_iload_n (pc := 21) Z 2 dX0_freeWords_21 rfl ?_
      refine g_iconst (pc := 22) (v := 1) Z dX0_freeWords_22 (by decide) ?_
      refine g_aload_n (pc := 23) Z 1 dX0_freeWords_23 rfl ?_
      refine g_iload_n (pc := 24) Z 2 dX0_freeWords_24 rfl ?_
      obtain ⟨x4, h5, hf⟩ := Option.bind_eq_some_iff.mp hf
      refine g_calli (pc := 25) (ws2 := fun u => (wB ad ++ wC ad ca vC)) (wr := ([] : va_W)) Z [0, 1, 2, 3, 4, 5] [] [0, 1, 2, 3, 4, 5] (g_runV Z (c_Blk_sizeAt l D ad ca vC y2 x4 h5) (cwV 1 Z.2.2.2.2.1 (gg_V ww118 ww119 ww120 ww116 ww121) rfl rfl rfl (yv_of rfl yd_Blk_sizeAt) ⟨Nat.le_of_ble_eq_true rfl, Nat.le_of_ble_eq_true rfl⟩) [0, 1, 2, 3, 4, 5] rfl (by decide) 0 rfl rfl rfl rfl rfl (Nat.le_of_ble_eq_true rfl) dX0_freeWords_25 ⟨Nat.le_of_ble_eq_true rfl, Nat.le_of_ble_eq_true rfl⟩) rfl rfl (by decide) (by decide) (by decide) (fun _ => rfl) (fun r u hu => ?_)
      obtain rfl := hu.symm
      refine g_iadd (pc := 28) Z dX0_freeWords_28 ?_
      refine g_iadd (pc := 29) Z dX0_freeWords_29 ?_
      refine g_istore_n (pc := 30) (lv' := [(2, .int (y2 + ((1 : Int32) + x4))), (1, .int (y1 + x2)), (0, .ref (ad 12))]) Z dX0_freeWords_30 (by decide) rfl ?_
      refine g_goto (pc := 31) (tgt := 6) Z dX0_freeWords_31 (by decide) ?_
      refine g_locals (lv2 := [(0, .ref (ad 12)), (1, .int (y1 + x2)), (2, .int (y2 + ((1 : Int32) + x4)))]) [2, 1, 0] rfl ?_
      exact ih _ _ hf
set_option maxHeartbeats 4000000 in
set_option maxRecDepth 100000 in
theorem c_Blk_freeWords (l : Launch) (D : va_G) (ad : Nat → Nat) (ca : Nat → ClassId) (N : Nat) (vC : CT) (res : Int32) (hf : f_Blk_freeWords N vC = some res) (sz : Nat) : Met l yX0_freeWords (cd_Blk_freeWords :: gA) rm_Blk_freeWords (va_Pc [.ref (ad 12)] (gP D cls (tys ca) (wB ad ++ wC ad ca vC) sz)) (q_Blk_freeWords D ad ca vC res (va_A (wB ad ++ wC ad ca vC) sz)) 0 0 (va_A (wB ad ++ wC ad ca vC) sz) := by
  refine g_met (cc := cX0_freeWords) (Qc := q_Blk_freeWords D ad ca vC res) (lv := [(0, .ref (ad 12))]) (own := RX0) (by decide) rfl rfl (Nat.le_of_ble_eq_true rfl) rfl sz ?_
  intro p e s m args below meth c A Z hr hnm
  unfold f_Blk_freeWords at hf
  refine g_iconst (pc := 0) (v := 0) Z dX0_freeWords_0 (by decide) ?_
  refine g_istore_n (pc := 1) (lv' := [(1, .int (0 : Int32)), (0, .ref (ad 12))]) Z dX0_freeWords_1 (by decide) rfl ?_
  refine g_sipush (pc := 2) (v := 176) Z dX0_freeWords_2 (by decide) ?_
  refine g_istore_n (pc := 5) (lv' := [(2, .int (176 : Int32)), (1, .int (0 : Int32)), (0, .ref (ad 12))]) Z dX0_freeWords_5 (by decide) rfl ?_
  refine g_locals (lv2 := [(0, .ref (ad 12)), (1, .int (0 : Int32)), (2, .int (176 : Int32))]) [2, 1, 0] rfl ?_
  exact w_Blk_freeWords_6 Z hr N _ _ hf
theorem ww145 : Cond.methodLink RX0 34 Lib.Math.max.name ∈ gA := wt3 132 rfl rfl
theorem ww146 : Cond.static Lib.Math.max.name ∈ gA := wt3 133 rfl rfl
theorem ww147 : Cond.code Lib.Math.max.name Lib.Math.max.code 2 (some .int) ∈ gA := wt3 134 rfl rfl
/-! RedoHeap$Blocks.greatestFree()I -/
def f_Blk_greatestFree_6 (N : Nat) (vC : CT) : Nat → Int32 → Int32 → Option (Int32)
  | 0, _, _ => none
  | n + 1, y1, y2 => if (1024 : Int32) ≤ y2 then some y1 else (f_Blk_freeAt vC y2).bind fun x2 => (f_Blk_sizeAt vC y2).bind fun x4 => f_Blk_greatestFree_6 N vC n (if y1 < x2 then x2 else y1) (y2 + ((1 : Int32) + x4))
def f_Blk_greatestFree (N : Nat) (vC : CT) : Option (Int32) :=
  f_Blk_greatestFree_6 N vC N (0 : Int32) (176 : Int32)
abbrev cd_Blk_greatestFree : Cond := .code yX0_greatestFree cX0_greatestFree 3 (some .int)
theorem yd_Blk_greatestFree : yX0_greatestFree.cls ≠ "java/lang/invoke/MethodHandle" ∧ yX0_greatestFree.cls ≠ "java/lang/invoke/VarHandle" ∧ (parseMethodDescriptor yX0_greatestFree.desc).map (fun d => d.parameters.length) = some 0 := by decide +kernel
abbrev rm_Blk_greatestFree : Room := { frames := 4, cells := 0, slots := 0, locals := 86 }
abbrev q_Blk_greatestFree (D : va_G) (ad : Nat → Nat) (ca : Nat → ClassId) (vC : CT) (res : Int32) (A : Nat → Prop) : Array Value → State → Outcome → State → Prop := va_Qi (fun (r : Int32) (_ : Unit) => r = res) (gB D cls (tys ca) A (fun (u : Unit) => (wB ad ++ wC ad ca vC))) A
set_option maxHeartbeats 4000000 in
set_option maxRecDepth 100000 in
theorem w_Blk_greatestFree_6 {p : Program} {l : Launch} {e : Env} {s : State} {m : MethodId} {args : Array Value} {below : List Frame} {meth : Method} {c : Code} {D : va_G} {ad : Nat → Nat} {ca : Nat → ClassId} {A : Nat → Prop} {N : Nat} {vC : CT} {res : Int32} (Z : gZ p s m args meth c cX0_greatestFree 3 RX0 (cd_Blk_greatestFree :: gA) A D cls (tys ca)) (hr : meth.sig.returnType = (some .int)) : ∀ (n : Nat) (y1 : Int32) (y2 : Int32), f_Blk_greatestFree_6 N vC n y1 y2 = some res → gW p l e rm_Blk_greatestFree s m args below meth c 3 A D cls 0 0 (MQ below (q_Blk_greatestFree D ad ca vC res A) args s 0 0 A) (wB ad ++ wC ad ca vC) [(0, .ref (ad 12)), (1, .int y1), (2, .int y2)] 6 [] := by
  intro n
  induction n with
  | zero =>
    intro y1 y2 hf
    exact absurd hf (by rw [f_Blk_greatestFree_6]; exact fun h => by cases h)
  | succ n ih =>
    intro y1 y2 hf
    rw [f_Blk_greatestFree_6] at hf
    refine g_iload_n (pc := 6) Z 2 dX0_greatestFree_6 rfl ?_
    refine g_sipush (pc := 7) (v := 1024) Z dX0_greatestFree_7 (by decide) ?_
    refine g_icmp_ge (pc := 10) (tgt := 36) Z dX0_greatestFree_10 (by decide) (fun c1 => ?_) (fun c1 => ?_)
    · replace hf := gIfP c1 hf
      refine g_iload_n (pc := 36) Z 1 dX0_greatestFree_36 rfl ?_
      obtain rfl := Option.some.inj hf
      exact g_iret Z hr dX0_greatestFree_37 () rfl rfl
    · replace hf := gIfN c1 hf
      refine g_iload_n (pc := 13) Z 1 dX0_greatestFree_13 rfl ?_
      refine g_aload_n (pc := 14) Z 0 dX0_greatestFree_14 rfl ?_
      refine g_iload_n (pc := 15) Z 2 dX0_greatestFree_15 rfl ?_
      obtain ⟨x2, h3, hf⟩ := Option.bind_eq_some_iff.mp hf
      refine g_calli (pc := 16) (ws2 := fun u => (wB ad ++ wC ad ca vC)) (wr := ([] : va_W)) Z [0, 1, 2, 3, 4, 5] [] [0, 1, 2, 3, 4, 5] (g_runV Z (c_Blk_freeAt l D ad ca vC y2 x2 h3) (cwV 1 Z.2.2.2.2.1 (gg_V ww122 ww123 ww124 ww116 ww125) rfl rfl rfl (yv_of rfl yd_Blk_freeAt) ⟨Nat.le_of_ble_eq_true rfl, Nat.le_of_ble_eq_true rfl⟩) [0, 1, 2, 3, 4, 5] rfl (by decide) 0 rfl rfl rfl rfl rfl (Nat.le_of_ble_eq_true rfl) dX0_greatestFree_16 ⟨Nat.le_of_ble_eq_true rfl, Nat.le_of_ble_eq_true rfl⟩) rfl rfl (by decide) (by decide) (by decide) (fun _ => rfl) (fun r u hu => ?_)
      obtain rfl := hu.symm
      refine g_mmax (pc := 19) Z dX0_greatestFree_19 (mm ww145) (mm ww146) (mm ww11) (mm ww147) (Nat.le_of_ble_eq_true rfl) (Nat.le_of_ble_eq_true rfl) (Nat.zero_le _) (Nat.zero_le _) ?_
      refine g_istore_n (pc := 22) (lv' := [(1, .int (if y1 < x2 then x2 else y1)), (0, .ref (ad 12)), (2, .int y2)]) Z dX0_greatestFree_22 (by decide) rfl ?_
      refine g_iload_n (pc := 23) Z 2 dX0_greatestFree_23 rfl ?_
      refine g_iconst (pc := 24) (v := 1) Z dX0_greatestFree_24 (by decide) ?_
      refine g_aload_n (pc := 25) Z 1 dX0_greatestFree_25 rfl ?_
      refine g_iload_n (pc := 26) Z 2 dX0_greatestFree_26 rfl ?_
      obtain ⟨x4, h5, hf⟩ := Option.bind_eq_some_iff.mp hf
      refine g_calli (pc := 27) (ws2 := fun u => (wB ad ++ wC ad ca vC)) (wr := ([] : va_W)) Z [0, 1, 2, 3, 4, 5] [] [0, 1, 2, 3, 4, 5] (g_runV Z (c_Blk_sizeAt l D ad ca vC y2 x4 h5) (cwV 1 Z.2.2.2.2.1 (gg_V ww118 ww119 ww120 ww116 ww121) rfl rfl rfl (yv_of rfl yd_Blk_sizeAt) ⟨Nat.le_of_ble_eq_true rfl, Nat.le_of_ble_eq_true rfl⟩) [0, 1, 2, 3, 4, 5] rfl (by decide) 0 rfl rfl rfl rfl rfl (Nat.le_of_ble_eq_true rfl) dX0_greatestFree_27 ⟨Nat.le_of_ble_eq_true rfl, Nat.le_of_ble_eq_true rfl⟩) rfl rfl (by decide) (by decide) (by decide) (fun _ => rfl) (fun r u hu => ?_)
      obtain rfl := hu.symm
      refine g_iadd (pc := 30) Z dX0_greatestFree_30 ?_
      refine g_iadd (pc := 31) Z dX0_greatestFree_31 ?_
      refine g_istore_n (pc := 32) (lv' := [(2, .int (y2 + ((1 : Int32) + x4))), (1, .int (if y1 < x2 then x2 else y1)), (0, .ref (ad 12))]) Z dX0_greatestFree_32 (by decide) rfl ?_
      refine g_goto (pc := 33) (tgt := 6) Z dX0_greatestFree_33 (by decide) ?_
      refine g_locals (lv2 := [(0, .ref (ad 12)), (1, .int (if y1 < x2 then x2 else y1)), (2, .int (y2 + ((1 : Int32) + x4)))]) [2, 1, 0] rfl ?_
      exact ih _ _ hf
set_option maxHeartbeats 4000000 in
set_option maxRecDepth 100000 in
theorem c_Blk_greatestFree (l : Launch) (D : va_G) (ad : Nat → Nat) (ca : Nat → ClassId) (N : Nat) (vC : CT) (res : Int32) (hf : f_Blk_greatestFree N vC = some res) (sz : Nat) : Met l yX0_greatestFree (cd_Blk_greatestFree :: gA) rm_Blk_greatestFree (va_Pc [.ref (ad 12)] (gP D cls (tys ca) (wB ad ++ wC ad ca vC) sz)) (q_Blk_greatestFree D ad ca vC res (va_A (wB ad ++ wC ad ca vC) sz)) 0 0 (va_A (wB ad ++ wC ad ca vC) sz) := by
  refine g_met (cc := cX0_greatestFree) (Qc := q_Blk_greatestFree D ad ca vC res) (lv := [(0, .ref (ad 12))]) (own := RX0) (by decide) rfl rfl (Nat.le_of_ble_eq_true rfl) rfl sz ?_
  intro p e s m args below meth c A Z hr hnm
  unfold f_Blk_greatestFree at hf
  refine g_iconst (pc := 0) (v := 0) Z dX0_greatestFree_0 (by decide) ?_
  refine g_istore_n (pc := 1) (lv' := [(1, .int (0 : Int32)), (0, .ref (ad 12))]) Z dX0_greatestFree_1 (by decide) rfl ?_
  refine g_sipush (pc := 2) (v := 176) Z dX0_greatestFree_2 (by decide) ?_
  refine g_istore_n (pc := 5) (lv' := [(2, .int (176 : Int32)), (1, .int (0 : Int32)), (0, .ref (ad 12))]) Z dX0_greatestFree_5 (by decide) rfl ?_
  refine g_locals (lv2 := [(0, .ref (ad 12)), (1, .int (0 : Int32)), (2, .int (176 : Int32))]) [2, 1, 0] rfl ?_
  exact w_Blk_greatestFree_6 Z hr N _ _ hf
/-! RedoHeap$Blocks.howMany()I -/
def f_Blk_howMany_6 (N : Nat) (vC : CT) : Nat → Int32 → Int32 → Option (Int32)
  | 0, _, _ => none
  | n + 1, y1, y2 => if (1024 : Int32) ≤ y2 then some y1 else (f_Blk_sizeAt vC y2).bind fun x2 => f_Blk_howMany_6 N vC n (y1 + (1 : Int32)) (y2 + ((1 : Int32) + x2))
def f_Blk_howMany (N : Nat) (vC : CT) : Option (Int32) :=
  f_Blk_howMany_6 N vC N (0 : Int32) (176 : Int32)
abbrev cd_Blk_howMany : Cond := .code yX0_howMany cX0_howMany 3 (some .int)
theorem yd_Blk_howMany : yX0_howMany.cls ≠ "java/lang/invoke/MethodHandle" ∧ yX0_howMany.cls ≠ "java/lang/invoke/VarHandle" ∧ (parseMethodDescriptor yX0_howMany.desc).map (fun d => d.parameters.length) = some 0 := by decide +kernel
abbrev rm_Blk_howMany : Room := { frames := 3, cells := 0, slots := 0, locals := 65 }
abbrev q_Blk_howMany (D : va_G) (ad : Nat → Nat) (ca : Nat → ClassId) (vC : CT) (res : Int32) (A : Nat → Prop) : Array Value → State → Outcome → State → Prop := va_Qi (fun (r : Int32) (_ : Unit) => r = res) (gB D cls (tys ca) A (fun (u : Unit) => (wB ad ++ wC ad ca vC))) A
set_option maxHeartbeats 4000000 in
set_option maxRecDepth 100000 in
theorem w_Blk_howMany_6 {p : Program} {l : Launch} {e : Env} {s : State} {m : MethodId} {args : Array Value} {below : List Frame} {meth : Method} {c : Code} {D : va_G} {ad : Nat → Nat} {ca : Nat → ClassId} {A : Nat → Prop} {N : Nat} {vC : CT} {res : Int32} (Z : gZ p s m args meth c cX0_howMany 3 RX0 (cd_Blk_howMany :: gA) A D cls (tys ca)) (hr : meth.sig.returnType = (some .int)) : ∀ (n : Nat) (y1 : Int32) (y2 : Int32), f_Blk_howMany_6 N vC n y1 y2 = some res → gW p l e rm_Blk_howMany s m args below meth c 3 A D cls 0 0 (MQ below (q_Blk_howMany D ad ca vC res A) args s 0 0 A) (wB ad ++ wC ad ca vC) [(0, .ref (ad 12)), (1, .int y1), (2, .int y2)] 6 [] := by
  intro n
  induction n with
  | zero =>
    intro y1 y2 hf
    exact absurd hf (by rw [f_Blk_howMany_6]; exact fun h => by cases h)
  | succ n ih =>
    intro y1 y2 hf
    rw [f_Blk_howMany_6] at hf
    refine g_iload_n (pc := 6) Z 2 dX0_howMany_6 rfl ?_
    refine g_sipush (pc := 7) (v := 1024) Z dX0_howMany_7 (by decide) ?_
    refine g_icmp_ge (pc := 10) (tgt := 29) Z dX0_howMany_10 (by decide) (fun c1 => ?_) (fun c1 => ?_)
    · replace hf := gIfP c1 hf
      refine g_iload_n (pc := 29) Z 1 dX0_howMany_29 rfl ?_
      obtain rfl := Option.some.inj hf
      exact g_iret Z hr dX0_howMany_30 () rfl rfl
    · replace hf := gIfN c1 hf
      refine g_iinc (pc := 13) (v := y1 + (1 : Int32)) (lv' := [(1, .int (y1 + (1 : Int32))), (0, .ref (ad 12)), (2, .int y2)]) Z 1 dX0_howMany_13 rfl rfl (by decide) rfl ?_
      refine g_iload_n (pc := 16) Z 2 dX0_howMany_16 rfl ?_
      refine g_iconst (pc := 17) (v := 1) Z dX0_howMany_17 (by decide) ?_
      refine g_aload_n (pc := 18) Z 1 dX0_howMany_18 rfl ?_
      refine g_iload_n (pc := 19) Z 2 dX0_howMany_19 rfl ?_
      obtain ⟨x2, h3, hf⟩ := Option.bind_eq_some_iff.mp hf
      refine g_calli (pc := 20) (ws2 := fun u => (wB ad ++ wC ad ca vC)) (wr := ([] : va_W)) Z [0, 1, 2, 3, 4, 5] [] [0, 1, 2, 3, 4, 5] (g_runV Z (c_Blk_sizeAt l D ad ca vC y2 x2 h3) (cwV 1 Z.2.2.2.2.1 (gg_V ww118 ww119 ww120 ww116 ww121) rfl rfl rfl (yv_of rfl yd_Blk_sizeAt) ⟨Nat.le_of_ble_eq_true rfl, Nat.le_of_ble_eq_true rfl⟩) [0, 1, 2, 3, 4, 5] rfl (by decide) 0 rfl rfl rfl rfl rfl (Nat.le_of_ble_eq_true rfl) dX0_howMany_20 ⟨Nat.le_of_ble_eq_true rfl, Nat.le_of_ble_eq_true rfl⟩) rfl rfl (by decide) (by decide) (by decide) (fun _ => rfl) (fun r u hu => ?_)
      obtain rfl := hu.symm
      refine g_iadd (pc := 23) Z dX0_howMany_23 ?_
      refine g_iadd (pc := 24) Z dX0_howMany_24 ?_
      refine g_istore_n (pc := 25) (lv' := [(2, .int (y2 + ((1 : Int32) + x2))), (1, .int (y1 + (1 : Int32))), (0, .ref (ad 12))]) Z dX0_howMany_25 (by decide) rfl ?_
      refine g_goto (pc := 26) (tgt := 6) Z dX0_howMany_26 (by decide) ?_
      refine g_locals (lv2 := [(0, .ref (ad 12)), (1, .int (y1 + (1 : Int32))), (2, .int (y2 + ((1 : Int32) + x2)))]) [2, 1, 0] rfl ?_
      exact ih _ _ hf
set_option maxHeartbeats 4000000 in
set_option maxRecDepth 100000 in
theorem c_Blk_howMany (l : Launch) (D : va_G) (ad : Nat → Nat) (ca : Nat → ClassId) (N : Nat) (vC : CT) (res : Int32) (hf : f_Blk_howMany N vC = some res) (sz : Nat) : Met l yX0_howMany (cd_Blk_howMany :: gA) rm_Blk_howMany (va_Pc [.ref (ad 12)] (gP D cls (tys ca) (wB ad ++ wC ad ca vC) sz)) (q_Blk_howMany D ad ca vC res (va_A (wB ad ++ wC ad ca vC) sz)) 0 0 (va_A (wB ad ++ wC ad ca vC) sz) := by
  refine g_met (cc := cX0_howMany) (Qc := q_Blk_howMany D ad ca vC res) (lv := [(0, .ref (ad 12))]) (own := RX0) (by decide) rfl rfl (Nat.le_of_ble_eq_true rfl) rfl sz ?_
  intro p e s m args below meth c A Z hr hnm
  unfold f_Blk_howMany at hf
  refine g_iconst (pc := 0) (v := 0) Z dX0_howMany_0 (by decide) ?_
  refine g_istore_n (pc := 1) (lv' := [(1, .int (0 : Int32)), (0, .ref (ad 12))]) Z dX0_howMany_1 (by decide) rfl ?_
  refine g_sipush (pc := 2) (v := 176) Z dX0_howMany_2 (by decide) ?_
  refine g_istore_n (pc := 5) (lv' := [(2, .int (176 : Int32)), (1, .int (0 : Int32)), (0, .ref (ad 12))]) Z dX0_howMany_5 (by decide) rfl ?_
  refine g_locals (lv2 := [(0, .ref (ad 12)), (1, .int (0 : Int32)), (2, .int (176 : Int32))]) [2, 1, 0] rfl ?_
  exact w_Blk_howMany_6 Z hr N _ _ hf
end
section
theorem ww148 : Cond.fieldLink RX4 10 "RedoHeap" "disk" "LRedoHeap$Disk;" ∈ gA := wt1 123 rfl rfl
theorem ww149 : Jvm.Cond.constantLong RX4 214 (1694) ∈ gA := wt3 54 rfl rfl
theorem ww150 : Cond.methodLink RX4 216 yX2_write ∈ gA := wt3 55 rfl rfl
theorem ww151 : Cond.methodLink RX4 119 yX2_settleAll ∈ gA := wt2 233 rfl rfl
theorem ww152 : Cond.fieldLink RX4 21 "RedoHeap" "log" "LRedoHeap$Log;" ∈ gA := wt1 124 rfl rfl
theorem ww153 : Cond.methodLink RX4 219 yX3_forget ∈ gA := wt3 56 rfl rfl
/-! RedoHeap.format()V -/
def f_Heap_format (N : Nat) (vL : LT) (vD : DT) : Option (LT × DT) :=
  (f_Disk_write N vD (176 : Int32) (1694 : Int64)).bind fun x1 => if x1.1 = true then (f_Disk_write N x1.2 (1 : Int32) (0 : Int64)).bind fun x4 => if x4.1 = true then (f_Disk_write N x4.2 (0 : Int32) (1 : Int64)).bind fun x7 => if x7.1 = true then (f_Disk_settleAll N x7.2).bind fun x10 => (f_Log_forget vL x10).bind fun x12 => some (x12, x10) else some (vL, x7.2) else some (vL, x4.2) else some (vL, x1.2)
abbrev cd_Heap_format : Cond := .code yX4_format cX4_format 1 none
theorem yd_Heap_format : yX4_format.cls ≠ "java/lang/invoke/MethodHandle" ∧ yX4_format.cls ≠ "java/lang/invoke/VarHandle" ∧ (parseMethodDescriptor yX4_format.desc).map (fun d => d.parameters.length) = some 0 := by decide +kernel
abbrev rm_Heap_format : Room := { frames := 4, cells := 0, slots := 0, locals := 105 }
abbrev q_Heap_format (D : va_G) (ad : Nat → Nat) (ca : Nat → ClassId) (res : LT × DT) (A : Nat → Prop) : Array Value → State → Outcome → State → Prop := va_Qv (fun (u : LT × DT) => u = res) (gB D cls (tys ca) A (fun (u : LT × DT) => (wH ad ++ wL ad ca u.1 ++ wD ad ca u.2))) A
set_option maxHeartbeats 4000000 in
set_option maxRecDepth 100000 in
theorem c_Heap_format (l : Launch) (D : va_G) (ad : Nat → Nat) (ca : Nat → ClassId) (N : Nat) (vL : LT) (vD : DT) (res : LT × DT) (hf : f_Heap_format N vL vD = some res) (sz : Nat) : Met l yX4_format (cd_Heap_format :: gA) rm_Heap_format (va_Pc [.ref (ad 0)] (gP D cls (tys ca) (wH ad ++ wL ad ca vL ++ wD ad ca vD) sz)) (q_Heap_format D ad ca res (va_A (wH ad ++ wL ad ca vL ++ wD ad ca vD) sz)) 0 0 (va_A (wH ad ++ wL ad ca vL ++ wD ad ca vD) sz) := by
  refine g_met (cc := cX4_format) (Qc := q_Heap_format D ad ca res) (lv := [(0, .ref (ad 0))]) (own := RX4) (by decide) rfl rfl (Nat.le_of_ble_eq_true rfl) rfl sz ?_
  intro p e s m args below meth c A Z hr hnm
  unfold f_Heap_format at hf
  refine g_aload_n (pc := 0) Z 0 dX4_format_0 rfl ?_
  refine g_get (pc := 1) (T := TX4) (N := 4) Z 0 0 dX4_format_1 (mm ww148) inx_X4 rfl (by decide) rfl rfl rfl ?_
  refine g_sipush (pc := 4) (v := 176) Z dX4_format_4 (by decide) ?_
  refine g_ldc2 (pc := 7) (v := 1694) Z dX4_format_7 (mm ww149) ?_
  obtain ⟨x1, h2, hf⟩ := Option.bind_eq_some_iff.mp hf
  refine g_calli (pc := 10) (ws2 := fun u => (wH ad ++ wL ad ca vL ++ wD ad ca u)) (wr := (wH ad ++ wL ad ca vL)) Z [2, 3, 4, 5, 6] [0, 1] [0, 1, 2, 3, 4, 5, 6] (g_runV Z (c_Disk_write l D ad ca N vD (176 : Int32) (1694 : Int64) x1 h2) (cwV 2 Z.2.2.2.2.1 (gg_V ww150 ww80 ww81 ww16 ww82) rfl rfl rfl (yv_of rfl yd_Disk_write) ⟨Nat.le_of_ble_eq_true rfl, Nat.le_of_ble_eq_true rfl⟩) [2, 3, 4, 5, 6] rfl (by decide) 0 rfl rfl rfl rfl rfl (Nat.le_of_ble_eq_true rfl) dX4_format_10 ⟨Nat.le_of_ble_eq_true rfl, Nat.le_of_ble_eq_true rfl⟩) rfl rfl (by decide) (by decide) (by decide) (fun _ => rfl) (fun r u hu => ?_)
  obtain ⟨rfl, rfl⟩ := hu
  refine g_if_eq (pc := 13) (tgt := 54) Z dX4_format_13 (by decide) (fun c3 => ?_) (fun c3 => ?_)
  · replace hf := gIfN (bI_z c3) hf
    obtain rfl := Option.some.inj hf
    exact g_vret Z hr dX4_format_54 (vL, x1.2) rfl rfl
  · replace hf := gIfP (bI_nz c3) hf
    refine g_aload_n (pc := 16) Z 0 dX4_format_16 rfl ?_
    refine g_get (pc := 17) (T := TX4) (N := 4) Z 0 0 dX4_format_17 (mm ww148) inx_X4 rfl (by decide) rfl rfl rfl ?_
    refine g_iconst (pc := 20) (v := 1) Z dX4_format_20 (by decide) ?_
    refine g_lconst (pc := 21) (v := 0) Z dX4_format_21 (by decide) ?_
    obtain ⟨x4, h5, hf⟩ := Option.bind_eq_some_iff.mp hf
    refine g_calli (pc := 22) (ws2 := fun u => (wH ad ++ wL ad ca vL ++ wD ad ca u)) (wr := (wH ad ++ wL ad ca vL)) Z [2, 3, 4, 5, 6] [0, 1] [0, 1, 2, 3, 4, 5, 6] (g_runV Z (c_Disk_write l D ad ca N x1.2 (1 : Int32) (0 : Int64) x4 h5) (cwV 2 Z.2.2.2.2.1 (gg_V ww150 ww80 ww81 ww16 ww82) rfl rfl rfl (yv_of rfl yd_Disk_write) ⟨Nat.le_of_ble_eq_true rfl, Nat.le_of_ble_eq_true rfl⟩) [2, 3, 4, 5, 6] rfl (by decide) 0 rfl rfl rfl rfl rfl (Nat.le_of_ble_eq_true rfl) dX4_format_22 ⟨Nat.le_of_ble_eq_true rfl, Nat.le_of_ble_eq_true rfl⟩) rfl rfl (by decide) (by decide) (by decide) (fun _ => rfl) (fun r u hu => ?_)
    obtain ⟨rfl, rfl⟩ := hu
    refine g_if_eq (pc := 25) (tgt := 54) Z dX4_format_25 (by decide) (fun c6 => ?_) (fun c6 => ?_)
    · replace hf := gIfN (bI_z c6) hf
      obtain rfl := Option.some.inj hf
      exact g_vret Z hr dX4_format_54 (vL, x4.2) rfl rfl
    · replace hf := gIfP (bI_nz c6) hf
      refine g_aload_n (pc := 28) Z 0 dX4_format_28 rfl ?_
      refine g_get (pc := 29) (T := TX4) (N := 4) Z 0 0 dX4_format_29 (mm ww148) inx_X4 rfl (by decide) rfl rfl rfl ?_
      refine g_iconst (pc := 32) (v := 0) Z dX4_format_32 (by decide) ?_
      refine g_lconst (pc := 33) (v := 1) Z dX4_format_33 (by decide) ?_
      obtain ⟨x7, h8, hf⟩ := Option.bind_eq_some_iff.mp hf
      refine g_calli (pc := 34) (ws2 := fun u => (wH ad ++ wL ad ca vL ++ wD ad ca u)) (wr := (wH ad ++ wL ad ca vL)) Z [2, 3, 4, 5, 6] [0, 1] [0, 1, 2, 3, 4, 5, 6] (g_runV Z (c_Disk_write l D ad ca N x4.2 (0 : Int32) (1 : Int64) x7 h8) (cwV 2 Z.2.2.2.2.1 (gg_V ww150 ww80 ww81 ww16 ww82) rfl rfl rfl (yv_of rfl yd_Disk_write) ⟨Nat.le_of_ble_eq_true rfl, Nat.le_of_ble_eq_true rfl⟩) [2, 3, 4, 5, 6] rfl (by decide) 0 rfl rfl rfl rfl rfl (Nat.le_of_ble_eq_true rfl) dX4_format_34 ⟨Nat.le_of_ble_eq_true rfl, Nat.le_of_ble_eq_true rfl⟩) rfl rfl (by decide) (by decide) (by decide) (fun _ => rfl) (fun r u hu => ?_)
      obtain ⟨rfl, rfl⟩ := hu
      refine g_if_eq (pc := 37) (tgt := 54) Z dX4_format_37 (by decide) (fun c9 => ?_) (fun c9 => ?_)
      · replace hf := gIfN (bI_z c9) hf
        obtain rfl := Option.some.inj hf
        exact g_vret Z hr dX4_format_54 (vL, x7.2) rfl rfl
      · replace hf := gIfP (bI_nz c9) hf
        refine g_aload_n (pc := 40) Z 0 dX4_format_40 rfl ?_
        refine g_get (pc := 41) (T := TX4) (N := 4) Z 0 0 dX4_format_41 (mm ww148) inx_X4 rfl (by decide) rfl rfl rfl ?_
        obtain ⟨x10, h11, hf⟩ := Option.bind_eq_some_iff.mp hf
        refine g_callv (pc := 44) (ws2 := fun u => (wH ad ++ wL ad ca vL ++ wD ad ca u)) (wr := (wH ad ++ wL ad ca vL)) Z [2, 3, 4, 5, 6] [0, 1] [0, 1, 2, 3, 4, 5, 6] (g_runV Z (c_Disk_settleAll l D ad ca N x7.2 x10 h11) (cwV 0 Z.2.2.2.2.1 (gg_V ww151 ww88 ww89 ww16 ww90) rfl rfl rfl (yv_of rfl yd_Disk_settleAll) ⟨Nat.le_of_ble_eq_true rfl, Nat.le_of_ble_eq_true rfl⟩) [2, 3, 4, 5, 6] rfl (by decide) 0 rfl rfl rfl rfl rfl (Nat.le_of_ble_eq_true rfl) dX4_format_44 ⟨Nat.le_of_ble_eq_true rfl, Nat.le_of_ble_eq_true rfl⟩) rfl rfl (by decide) (by decide) (by decide) (fun _ => rfl) (fun u hu => ?_)
        obtain rfl := hu.symm
        refine g_aload_n (pc := 47) Z 0 dX4_format_47 rfl ?_
        refine g_get (pc := 48) (T := TX4) (N := 4) Z 0 1 dX4_format_48 (mm ww152) inx_X4 rfl (by decide) rfl rfl rfl ?_
        obtain ⟨x12, h13, hf⟩ := Option.bind_eq_some_iff.mp hf
        refine g_callv (pc := 51) (ws2 := fun u => (wH ad ++ wL ad ca u ++ wD ad ca x10)) (wr := (wH ad)) Z [1, 2, 3, 4, 5, 6] [0] [0, 1, 2, 3, 4, 5, 6] (g_runV Z (c_Log_forget l D ad ca vL x10 x12 h13) (cwV 0 Z.2.2.2.2.1 (gg_V ww153 ww107 ww108 ww72 ww109) rfl rfl rfl (yv_of rfl yd_Log_forget) ⟨Nat.le_of_ble_eq_true rfl, Nat.le_of_ble_eq_true rfl⟩) [1, 2, 3, 4, 5, 6] rfl (by decide) 0 rfl rfl rfl rfl rfl (Nat.le_of_ble_eq_true rfl) dX4_format_51 ⟨Nat.le_of_ble_eq_true rfl, Nat.le_of_ble_eq_true rfl⟩) rfl rfl (by decide) (by decide) (by decide) (fun _ => rfl) (fun u hu => ?_)
        obtain rfl := hu.symm
        obtain rfl := Option.some.inj hf
        exact g_vret Z hr dX4_format_54 (x12, x10) rfl rfl
end
