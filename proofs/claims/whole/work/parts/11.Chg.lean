theorem ww32 : Cond.fieldLink RX1 26 "RedoHeap$Changes" "open" "Z" ∈ gA := wt1 98 rfl rfl
/-! RedoHeap$Changes.areOpen()Z -/
def f_Chg_areOpen (vC : CT) : Option (Bool) :=
  some vC.2.2.2.2.2
abbrev cd_Chg_areOpen : Cond := .code yX1_areOpen cX1_areOpen 1 (some .boolean)
theorem yd_Chg_areOpen : yX1_areOpen.cls ≠ "java/lang/invoke/MethodHandle" ∧ yX1_areOpen.cls ≠ "java/lang/invoke/VarHandle" ∧ (parseMethodDescriptor yX1_areOpen.desc).map (fun d => d.parameters.length) = some 0 := by decide +kernel
abbrev rm_Chg_areOpen : Room := { frames := 0, cells := 0, slots := 0, locals := 0 }
abbrev q_Chg_areOpen (D : va_G) (ad : Nat → Nat) (ca : Nat → ClassId) (vC : CT) (res : Bool) (A : Nat → Prop) : Array Value → State → Outcome → State → Prop := va_Qi (fun (r : Int32) (_ : Unit) => r = bI res) (gB D cls (tys ca) A (fun (u : Unit) => (wC ad ca vC))) A
set_option maxHeartbeats 4000000 in
set_option maxRecDepth 100000 in
theorem c_Chg_areOpen (l : Launch) (D : va_G) (ad : Nat → Nat) (ca : Nat → ClassId) (vC : CT) (res : Bool) (hf : f_Chg_areOpen vC = some res) (sz : Nat) : Met l yX1_areOpen (cd_Chg_areOpen :: gA) rm_Chg_areOpen (va_Pc [.ref (ad 7)] (gP D cls (tys ca) (wC ad ca vC) sz)) (q_Chg_areOpen D ad ca vC res (va_A (wC ad ca vC) sz)) 0 0 (va_A (wC ad ca vC) sz) := by
  refine g_met (cc := cX1_areOpen) (Qc := q_Chg_areOpen D ad ca vC res) (lv := [(0, .ref (ad 7))]) (own := RX1) (by decide) rfl rfl (Nat.le_of_ble_eq_true rfl) rfl sz ?_
  intro p e s m args below meth c A Z hr hnm
  unfold f_Chg_areOpen at hf
  refine g_aload_n (pc := 0) Z 0 dX1_areOpen_0 rfl ?_
  refine g_get (pc := 1) (v := .int (bI vC.2.2.2.2.2)) (T := TX1) (N := 6) Z 0 5 dX1_areOpen_1 (mm ww32) inx_X1 rfl (by decide) rfl rfl rfl ?_
  obtain rfl := Option.some.inj hf
  exact g_zret Z hr (bI_nar vC.2.2.2.2.2) dX1_areOpen_4 () rfl rfl
/-! RedoHeap$Changes.start()V -/
def f_Chg_start (vC : CT) : Option (CT) :=
  some (vC.1, vC.2.1, vC.2.2.1, vC.2.2.2.1, vC.2.2.2.2.1, true)
abbrev cd_Chg_start : Cond := .code yX1_start cX1_start 1 none
theorem yd_Chg_start : yX1_start.cls ≠ "java/lang/invoke/MethodHandle" ∧ yX1_start.cls ≠ "java/lang/invoke/VarHandle" ∧ (parseMethodDescriptor yX1_start.desc).map (fun d => d.parameters.length) = some 0 := by decide +kernel
abbrev rm_Chg_start : Room := { frames := 0, cells := 0, slots := 0, locals := 0 }
abbrev q_Chg_start (D : va_G) (ad : Nat → Nat) (ca : Nat → ClassId) (res : CT) (A : Nat → Prop) : Array Value → State → Outcome → State → Prop := va_Qv (fun (u : CT) => u = res) (gB D cls (tys ca) A (fun (u : CT) => (wC ad ca u))) A
set_option maxHeartbeats 4000000 in
set_option maxRecDepth 100000 in
theorem c_Chg_start (l : Launch) (D : va_G) (ad : Nat → Nat) (ca : Nat → ClassId) (vC : CT) (res : CT) (hf : f_Chg_start vC = some res) (sz : Nat) : Met l yX1_start (cd_Chg_start :: gA) rm_Chg_start (va_Pc [.ref (ad 7)] (gP D cls (tys ca) (wC ad ca vC) sz)) (q_Chg_start D ad ca res (va_A (wC ad ca vC) sz)) 0 0 (va_A (wC ad ca vC) sz) := by
  refine g_met (cc := cX1_start) (Qc := q_Chg_start D ad ca res) (lv := [(0, .ref (ad 7))]) (own := RX1) (by decide) rfl rfl (Nat.le_of_ble_eq_true rfl) rfl sz ?_
  intro p e s m args below meth c A Z hr hnm
  unfold f_Chg_start at hf
  refine g_aload_n (pc := 0) Z 0 dX1_start_0 rfl ?_
  refine g_iconst (pc := 1) (v := 1) Z dX1_start_1 (by decide) ?_
  refine g_put (pc := 2) (T := TX1) (N := 6) (ws' := (wC ad ca (vC.1, vC.2.1, vC.2.2.1, vC.2.2.2.1, vC.2.2.2.2.1, true))) Z 0 5 dX1_start_2 (mm ww32) inx_X1 tyX1_ok nmX1 rfl (by decide) rfl rfl rfl rfl rfl rfl (Nat.le_of_ble_eq_true rfl) rfl ?_
  obtain rfl := Option.some.inj hf
  exact g_vret Z hr dX1_start_5 (vC.1, vC.2.1, vC.2.2.1, vC.2.2.2.1, vC.2.2.2.2.1, true) rfl rfl
theorem ww33 : Cond.fieldLink RX1 15 "RedoHeap$Changes" "own" "[J" ∈ gA := wt1 94 rfl rfl
/-! RedoHeap$Changes.read(I)J -/
def f_Chg_read (vC : CT) (p1 : Int32) : Option (Int64) :=
  (f_Heap_isWord p1).bind fun x1 => if x1 = true then if gI p1 1024 = true then some (vC.2.1 p1.toNatClampNeg) else none else some (0 : Int64)
abbrev cd_Chg_read : Cond := .code yX1_read cX1_read 2 (some .long)
theorem yd_Chg_read : yX1_read.cls ≠ "java/lang/invoke/MethodHandle" ∧ yX1_read.cls ≠ "java/lang/invoke/VarHandle" ∧ (parseMethodDescriptor yX1_read.desc).map (fun d => d.parameters.length) = some 1 := by decide +kernel
abbrev rm_Chg_read : Room := { frames := 1, cells := 0, slots := 0, locals := 20 }
abbrev q_Chg_read (D : va_G) (ad : Nat → Nat) (ca : Nat → ClassId) (vC : CT) (res : Int64) (A : Nat → Prop) : Array Value → State → Outcome → State → Prop := va_Ql (fun (r : Int64) (_ : Unit) => r = res) (gB D cls (tys ca) A (fun (u : Unit) => (wC ad ca vC))) A
set_option maxHeartbeats 4000000 in
set_option maxRecDepth 100000 in
theorem c_Chg_read (l : Launch) (D : va_G) (ad : Nat → Nat) (ca : Nat → ClassId) (vC : CT) (p1 : Int32) (res : Int64) (hf : f_Chg_read vC p1 = some res) (sz : Nat) : Met l yX1_read (cd_Chg_read :: gA) rm_Chg_read (va_Pc [.ref (ad 7), .int p1] (gP D cls (tys ca) (wC ad ca vC) sz)) (q_Chg_read D ad ca vC res (va_A (wC ad ca vC) sz)) 0 0 (va_A (wC ad ca vC) sz) := by
  refine g_met (cc := cX1_read) (Qc := q_Chg_read D ad ca vC res) (lv := [(0, .ref (ad 7)), (1, .int p1)]) (own := RX1) (by decide) rfl rfl (Nat.le_of_ble_eq_true rfl) rfl sz ?_
  intro p e s m args below meth c A Z hr hnm
  unfold f_Chg_read at hf
  refine g_iload_n (pc := 0) Z 1 dX1_read_0 rfl ?_
  obtain ⟨x1, h2, hf⟩ := Option.bind_eq_some_iff.mp hf
  refine g_calli (pc := 1) (ws2 := fun u => (wC ad ca vC)) (wr := (wC ad ca vC)) Z [] [0, 1, 2, 3, 4] [0, 1, 2, 3, 4] (g_runSN Z (c_Heap_isWord l D ad ca p1 x1 h2) ⟨va_cnB 1 Z.2.2.2.2.1 (gg_C ww1) rfl rfl rfl Z.2.2.2.2.2.2.2.2.2.2.1 (Z.2.2.2.2.1 _ (mm ww2)) yd_Heap_isWord ⟨Nat.le_of_ble_eq_true rfl, Nat.le_of_ble_eq_true rfl⟩, Z.2.2.2.2.1 _ (mm ww3), trivial⟩ [] rfl (by decide) rfl rfl (Nat.le_of_ble_eq_true rfl) dX1_read_1 ⟨Nat.le_of_ble_eq_true rfl, Nat.le_of_ble_eq_true rfl⟩) rfl rfl (by decide) (by decide) (by decide) (fun _ => rfl) (fun r u hu => ?_)
  obtain rfl := hu.symm
  refine g_if_eq (pc := 4) (tgt := 16) Z dX1_read_4 (by decide) (fun c3 => ?_) (fun c3 => ?_)
  · replace hf := gIfN (bI_z c3) hf
    refine g_lconst (pc := 16) (v := 0) Z dX1_read_16 (by decide) ?_
    obtain rfl := Option.some.inj hf
    exact g_lret Z hr dX1_read_17 () rfl rfl
  · replace hf := gIfP (bI_nz c3) hf
    refine g_aload_n (pc := 7) Z 0 dX1_read_7 rfl ?_
    refine g_get (pc := 8) (v := .ref (ad 9)) (T := TX1) (N := 6) Z 0 1 dX1_read_8 (mm ww33) inx_X1 rfl (by decide) rfl rfl rfl ?_
    refine g_iload_n (pc := 11) Z 1 dX1_read_11 rfl ?_
    obtain ⟨b4, hf⟩ := gGuard hf
    refine g_lald (pc := 12) (f := vC.2.1) Z 2 0 dX1_read_12 rfl rfl (gI_in b4) ?_
    refine g_goto (pc := 13) (tgt := 17) Z dX1_read_13 (by decide) ?_
    obtain rfl := Option.some.inj hf
    exact g_lret Z hr dX1_read_17 () rfl rfl
theorem ww34 : Cond.fieldLink RX1 18 "RedoHeap$Changes" "changed" "[Z" ∈ gA := wt1 95 rfl rfl
/-! RedoHeap$Changes.cost(IJ)I -/
def f_Chg_cost (vC : CT) (p1 : Int32) (p2 : Int64) : Option (Int32) :=
  (f_Heap_isWord p1).bind fun x1 => if x1 = true then if gI p1 1024 = true then if (vC.2.2.1 p1.toNatClampNeg) = 0 then if gI p1 1024 = true then if (lg_cmp (vC.2.1 p1.toNatClampNeg) p2) = 0 then some (0 : Int32) else some (1 : Int32) else none else some (0 : Int32) else none else some (0 : Int32)
abbrev cd_Chg_cost : Cond := .code yX1_cost cX1_cost 4 (some .int)
theorem yd_Chg_cost : yX1_cost.cls ≠ "java/lang/invoke/MethodHandle" ∧ yX1_cost.cls ≠ "java/lang/invoke/VarHandle" ∧ (parseMethodDescriptor yX1_cost.desc).map (fun d => d.parameters.length) = some 2 := by decide +kernel
abbrev rm_Chg_cost : Room := { frames := 1, cells := 0, slots := 0, locals := 20 }
abbrev q_Chg_cost (D : va_G) (ad : Nat → Nat) (ca : Nat → ClassId) (vC : CT) (res : Int32) (A : Nat → Prop) : Array Value → State → Outcome → State → Prop := va_Qi (fun (r : Int32) (_ : Unit) => r = res) (gB D cls (tys ca) A (fun (u : Unit) => (wC ad ca vC))) A
set_option maxHeartbeats 4000000 in
set_option maxRecDepth 100000 in
theorem c_Chg_cost (l : Launch) (D : va_G) (ad : Nat → Nat) (ca : Nat → ClassId) (vC : CT) (p1 : Int32) (p2 : Int64) (res : Int32) (hf : f_Chg_cost vC p1 p2 = some res) (sz : Nat) : Met l yX1_cost (cd_Chg_cost :: gA) rm_Chg_cost (va_Pc [.ref (ad 7), .int p1, .long p2] (gP D cls (tys ca) (wC ad ca vC) sz)) (q_Chg_cost D ad ca vC res (va_A (wC ad ca vC) sz)) 0 0 (va_A (wC ad ca vC) sz) := by
  refine g_met (cc := cX1_cost) (Qc := q_Chg_cost D ad ca vC res) (lv := [(0, .ref (ad 7)), (1, .int p1), (2, .long p2)]) (own := RX1) (by decide) rfl rfl (Nat.le_of_ble_eq_true rfl) rfl sz ?_
  intro p e s m args below meth c A Z hr hnm
  unfold f_Chg_cost at hf
  refine g_iload_n (pc := 0) Z 1 dX1_cost_0 rfl ?_
  obtain ⟨x1, h2, hf⟩ := Option.bind_eq_some_iff.mp hf
  refine g_calli (pc := 1) (ws2 := fun u => (wC ad ca vC)) (wr := (wC ad ca vC)) Z [] [0, 1, 2, 3, 4] [0, 1, 2, 3, 4] (g_runSN Z (c_Heap_isWord l D ad ca p1 x1 h2) ⟨va_cnB 1 Z.2.2.2.2.1 (gg_C ww1) rfl rfl rfl Z.2.2.2.2.2.2.2.2.2.2.1 (Z.2.2.2.2.1 _ (mm ww2)) yd_Heap_isWord ⟨Nat.le_of_ble_eq_true rfl, Nat.le_of_ble_eq_true rfl⟩, Z.2.2.2.2.1 _ (mm ww3), trivial⟩ [] rfl (by decide) rfl rfl (Nat.le_of_ble_eq_true rfl) dX1_cost_1 ⟨Nat.le_of_ble_eq_true rfl, Nat.le_of_ble_eq_true rfl⟩) rfl rfl (by decide) (by decide) (by decide) (fun _ => rfl) (fun r u hu => ?_)
  obtain rfl := hu.symm
  refine g_if_eq (pc := 4) (tgt := 27) Z dX1_cost_4 (by decide) (fun c3 => ?_) (fun c3 => ?_)
  · replace hf := gIfN (bI_z c3) hf
    refine g_iconst (pc := 27) (v := 0) Z dX1_cost_27 (by decide) ?_
    refine g_goto (pc := 28) (tgt := 32) Z dX1_cost_28 (by decide) ?_
    obtain rfl := Option.some.inj hf
    exact g_iret Z hr dX1_cost_32 () rfl rfl
  · replace hf := gIfP (bI_nz c3) hf
    refine g_aload_n (pc := 7) Z 0 dX1_cost_7 rfl ?_
    refine g_get (pc := 8) (v := .ref (ad 10)) (T := TX1) (N := 6) Z 0 2 dX1_cost_8 (mm ww34) inx_X1 rfl (by decide) rfl rfl rfl ?_
    refine g_iload_n (pc := 11) Z 1 dX1_cost_11 rfl ?_
    obtain ⟨b4, hf⟩ := gGuard hf
    refine g_zald (pc := 12) (f := vC.2.2.1) Z 3 2 dX1_cost_12 rfl rfl (gI_in b4) ?_
    refine g_if_ne (pc := 13) (tgt := 27) Z dX1_cost_13 (by decide) (fun c5 => ?_) (fun c5 => ?_)
    · replace hf := gIfN c5 hf
      refine g_iconst (pc := 27) (v := 0) Z dX1_cost_27 (by decide) ?_
      refine g_goto (pc := 28) (tgt := 32) Z dX1_cost_28 (by decide) ?_
      obtain rfl := Option.some.inj hf
      exact g_iret Z hr dX1_cost_32 () rfl rfl
    · replace hf := gIfP c5 hf
      refine g_aload_n (pc := 16) Z 0 dX1_cost_16 rfl ?_
      refine g_get (pc := 17) (v := .ref (ad 9)) (T := TX1) (N := 6) Z 0 1 dX1_cost_17 (mm ww33) inx_X1 rfl (by decide) rfl rfl rfl ?_
      refine g_iload_n (pc := 20) Z 1 dX1_cost_20 rfl ?_
      obtain ⟨b6, hf⟩ := gGuard hf
      refine g_lald (pc := 21) (f := vC.2.1) Z 2 0 dX1_cost_21 rfl rfl (gI_in b6) ?_
      refine g_lload_n (pc := 22) Z 2 dX1_cost_22 rfl ?_
      refine g_lcmp (pc := 23) Z dX1_cost_23 ?_
      refine g_if_ne (pc := 24) (tgt := 31) Z dX1_cost_24 (by decide) (fun c7 => ?_) (fun c7 => ?_)
      · replace hf := gIfN c7 hf
        refine g_iconst (pc := 31) (v := 1) Z dX1_cost_31 (by decide) ?_
        obtain rfl := Option.some.inj hf
        exact g_iret Z hr dX1_cost_32 () rfl rfl
      · replace hf := gIfP c7 hf
        refine g_iconst (pc := 27) (v := 0) Z dX1_cost_27 (by decide) ?_
        refine g_goto (pc := 28) (tgt := 32) Z dX1_cost_28 (by decide) ?_
        obtain rfl := Option.some.inj hf
        exact g_iret Z hr dX1_cost_32 () rfl rfl
theorem ww35 : Cond.fieldLink RX1 30 "RedoHeap$Changes" "size" "I" ∈ gA := wt1 97 rfl rfl
/-! RedoHeap$Changes.haveRoomFor(I)Z -/
def f_Chg_haveRoomFor (vC : CT) (p1 : Int32) : Option (Bool) :=
  if (96 : Int32) < (vC.2.2.2.2.1 + p1) then some false else some true
abbrev cd_Chg_haveRoomFor : Cond := .code yX1_haveRoomFor cX1_haveRoomFor 2 (some .boolean)
theorem yd_Chg_haveRoomFor : yX1_haveRoomFor.cls ≠ "java/lang/invoke/MethodHandle" ∧ yX1_haveRoomFor.cls ≠ "java/lang/invoke/VarHandle" ∧ (parseMethodDescriptor yX1_haveRoomFor.desc).map (fun d => d.parameters.length) = some 1 := by decide +kernel
abbrev rm_Chg_haveRoomFor : Room := { frames := 0, cells := 0, slots := 0, locals := 0 }
abbrev q_Chg_haveRoomFor (D : va_G) (ad : Nat → Nat) (ca : Nat → ClassId) (vC : CT) (res : Bool) (A : Nat → Prop) : Array Value → State → Outcome → State → Prop := va_Qi (fun (r : Int32) (_ : Unit) => r = bI res) (gB D cls (tys ca) A (fun (u : Unit) => (wC ad ca vC))) A
set_option maxHeartbeats 4000000 in
set_option maxRecDepth 100000 in
theorem c_Chg_haveRoomFor (l : Launch) (D : va_G) (ad : Nat → Nat) (ca : Nat → ClassId) (vC : CT) (p1 : Int32) (res : Bool) (hf : f_Chg_haveRoomFor vC p1 = some res) (sz : Nat) : Met l yX1_haveRoomFor (cd_Chg_haveRoomFor :: gA) rm_Chg_haveRoomFor (va_Pc [.ref (ad 7), .int p1] (gP D cls (tys ca) (wC ad ca vC) sz)) (q_Chg_haveRoomFor D ad ca vC res (va_A (wC ad ca vC) sz)) 0 0 (va_A (wC ad ca vC) sz) := by
  refine g_met (cc := cX1_haveRoomFor) (Qc := q_Chg_haveRoomFor D ad ca vC res) (lv := [(0, .ref (ad 7)), (1, .int p1)]) (own := RX1) (by decide) rfl rfl (Nat.le_of_ble_eq_true rfl) rfl sz ?_
  intro p e s m args below meth c A Z hr hnm
  unfold f_Chg_haveRoomFor at hf
  refine g_aload_n (pc := 0) Z 0 dX1_haveRoomFor_0 rfl ?_
  refine g_get (pc := 1) (v := .int vC.2.2.2.2.1) (T := TX1) (N := 6) Z 0 4 dX1_haveRoomFor_1 (mm ww35) inx_X1 rfl (by decide) rfl rfl rfl ?_
  refine g_iload_n (pc := 4) Z 1 dX1_haveRoomFor_4 rfl ?_
  refine g_iadd (pc := 5) Z dX1_haveRoomFor_5 ?_
  refine g_bipush (pc := 6) (v := 96) Z dX1_haveRoomFor_6 (by decide) ?_
  refine g_icmp_gt (pc := 8) (tgt := 15) Z dX1_haveRoomFor_8 (by decide) (fun c1 => ?_) (fun c1 => ?_)
  · replace hf := gIfP c1 hf
    refine g_iconst (pc := 15) (v := 0) Z dX1_haveRoomFor_15 (by decide) ?_
    obtain rfl := Option.some.inj hf
    exact g_zret Z hr rfl dX1_haveRoomFor_16 () rfl rfl
  · replace hf := gIfN c1 hf
    refine g_iconst (pc := 11) (v := 1) Z dX1_haveRoomFor_11 (by decide) ?_
    refine g_goto (pc := 12) (tgt := 16) Z dX1_haveRoomFor_12 (by decide) ?_
    obtain rfl := Option.some.inj hf
    exact g_zret Z hr rfl dX1_haveRoomFor_16 () rfl rfl
theorem ww36 : Cond.fieldLink RX1 22 "RedoHeap$Changes" "places" "[I" ∈ gA := wt1 96 rfl rfl
/-! RedoHeap$Changes.insert(I)V -/
def f_Chg_insert_15 (N : Nat) : Nat → CT → Int32 → Int32 → Option (CT)
  | 0, _, _, _ => none
  | n + 1, vC, y1, y2 => if y2 ≤ 0 then if gI y2 96 = true then some (vC.1, vC.2.1, vC.2.2.1, upd vC.2.2.2.1 y2.toNatClampNeg y1, vC.2.2.2.2.1 + (1 : Int32), vC.2.2.2.2.2) else none else if gI (y2 - (1 : Int32)) 96 = true then if (vC.2.2.2.1 (y2 - (1 : Int32)).toNatClampNeg) ≤ y1 then if gI y2 96 = true then some (vC.1, vC.2.1, vC.2.2.1, upd vC.2.2.2.1 y2.toNatClampNeg y1, vC.2.2.2.2.1 + (1 : Int32), vC.2.2.2.2.2) else none else if gI (y2 - (1 : Int32)) 96 = true then if gI y2 96 = true then f_Chg_insert_15 N n (vC.1, vC.2.1, vC.2.2.1, upd vC.2.2.2.1 y2.toNatClampNeg (vC.2.2.2.1 (y2 - (1 : Int32)).toNatClampNeg), vC.2.2.2.2.1, vC.2.2.2.2.2) y1 (y2 + (-1 : Int32)) else none else none else none
def f_Chg_insert (N : Nat) (vC : CT) (p1 : Int32) : Option (CT) :=
  if vC.2.2.2.2.1 < (96 : Int32) then f_Chg_insert_15 N N vC p1 vC.2.2.2.2.1 else some vC
abbrev cd_Chg_insert : Cond := .code yX1_insert cX1_insert 3 none
theorem yd_Chg_insert : yX1_insert.cls ≠ "java/lang/invoke/MethodHandle" ∧ yX1_insert.cls ≠ "java/lang/invoke/VarHandle" ∧ (parseMethodDescriptor yX1_insert.desc).map (fun d => d.parameters.length) = some 1 := by decide +kernel
abbrev rm_Chg_insert : Room := { frames := 0, cells := 0, slots := 0, locals := 0 }
abbrev q_Chg_insert (D : va_G) (ad : Nat → Nat) (ca : Nat → ClassId) (res : CT) (A : Nat → Prop) : Array Value → State → Outcome → State → Prop := va_Qv (fun (u : CT) => u = res) (gB D cls (tys ca) A (fun (u : CT) => (wC ad ca u))) A
set_option maxHeartbeats 4000000 in
set_option maxRecDepth 100000 in
theorem w_Chg_insert_15 {p : Program} {l : Launch} {e : Env} {s : State} {m : MethodId} {args : Array Value} {below : List Frame} {meth : Method} {c : Code} {D : va_G} {ad : Nat → Nat} {ca : Nat → ClassId} {A : Nat → Prop} {N : Nat} {res : CT} (Z : gZ p s m args meth c cX1_insert 3 RX1 (cd_Chg_insert :: gA) A D cls (tys ca)) (hr : meth.sig.returnType = none) : ∀ (n : Nat) (vC : CT) (y1 : Int32) (y2 : Int32), f_Chg_insert_15 N n vC y1 y2 = some res → gW p l e rm_Chg_insert s m args below meth c 3 A D cls 0 0 (MQ below (q_Chg_insert D ad ca res A) args s 0 0 A) (wC ad ca vC) [(0, .ref (ad 7)), (1, .int y1), (2, .int y2)] 15 [] := by
  intro n
  induction n with
  | zero =>
    intro vC y1 y2 hf
    exact absurd hf (by rw [f_Chg_insert_15]; exact fun h => by cases h)
  | succ n ih =>
    intro vC y1 y2 hf
    rw [f_Chg_insert_15] at hf
    refine g_iload_n (pc := 15) Z 2 dX1_insert_15 rfl ?_
    refine g_if_le (pc := 16) (tgt := 51) Z dX1_insert_16 (by decide) (fun c1 => ?_) (fun c1 => ?_)
    · replace hf := gIfP c1 hf
      refine g_aload_n (pc := 51) Z 0 dX1_insert_51 rfl ?_
      refine g_get (pc := 52) (v := .ref (ad 11)) (T := TX1) (N := 6) Z 0 3 dX1_insert_52 (mm ww36) inx_X1 rfl (by decide) rfl rfl rfl ?_
      refine g_iload_n (pc := 55) Z 2 dX1_insert_55 rfl ?_
      refine g_iload_n (pc := 56) Z 1 dX1_insert_56 rfl ?_
      obtain ⟨b2, hf⟩ := gGuard hf
      refine g_iast (pc := 57) (f := vC.2.2.2.1) (ws' := (wC ad ca (vC.1, vC.2.1, vC.2.2.1, upd vC.2.2.2.1 y2.toNatClampNeg y1, vC.2.2.2.2.1, vC.2.2.2.2.2))) Z 4 1 dX1_insert_57 rfl rfl (gI_in b2) rfl ?_
      refine g_aload_n (pc := 58) Z 0 dX1_insert_58 rfl ?_
      refine g_dup (pc := 59) Z dX1_insert_59 rfl ?_
      refine g_get (pc := 60) (v := .int vC.2.2.2.2.1) (T := TX1) (N := 6) Z 0 4 dX1_insert_60 (mm ww35) inx_X1 rfl (by decide) rfl rfl rfl ?_
      refine g_iconst (pc := 63) (v := 1) Z dX1_insert_63 (by decide) ?_
      refine g_iadd (pc := 64) Z dX1_insert_64 ?_
      refine g_put (pc := 65) (T := TX1) (N := 6) (ws' := (wC ad ca (vC.1, vC.2.1, vC.2.2.1, upd vC.2.2.2.1 y2.toNatClampNeg y1, vC.2.2.2.2.1 + (1 : Int32), vC.2.2.2.2.2))) Z 0 4 dX1_insert_65 (mm ww35) inx_X1 tyX1_ok nmX1 rfl (by decide) rfl rfl rfl rfl rfl rfl (Nat.le_of_ble_eq_true rfl) rfl ?_
      obtain rfl := Option.some.inj hf
      exact g_vret Z hr dX1_insert_68 (vC.1, vC.2.1, vC.2.2.1, upd vC.2.2.2.1 y2.toNatClampNeg y1, vC.2.2.2.2.1 + (1 : Int32), vC.2.2.2.2.2) rfl rfl
    · replace hf := gIfN c1 hf
      refine g_aload_n (pc := 19) Z 0 dX1_insert_19 rfl ?_
      refine g_get (pc := 20) (v := .ref (ad 11)) (T := TX1) (N := 6) Z 0 3 dX1_insert_20 (mm ww36) inx_X1 rfl (by decide) rfl rfl rfl ?_
      refine g_iload_n (pc := 23) Z 2 dX1_insert_23 rfl ?_
      refine g_iconst (pc := 24) (v := 1) Z dX1_insert_24 (by decide) ?_
      refine g_isub (pc := 25) Z dX1_insert_25 ?_
      obtain ⟨b3, hf⟩ := gGuard hf
      refine g_iald (pc := 26) (f := vC.2.2.2.1) Z 4 1 dX1_insert_26 rfl rfl (gI_in b3) ?_
      refine g_iload_n (pc := 27) Z 1 dX1_insert_27 rfl ?_
      refine g_icmp_le (pc := 28) (tgt := 51) Z dX1_insert_28 (by decide) (fun c4 => ?_) (fun c4 => ?_)
      · replace hf := gIfP c4 hf
        refine g_aload_n (pc := 51) Z 0 dX1_insert_51 rfl ?_
        refine g_get (pc := 52) (v := .ref (ad 11)) (T := TX1) (N := 6) Z 0 3 dX1_insert_52 (mm ww36) inx_X1 rfl (by decide) rfl rfl rfl ?_
        refine g_iload_n (pc := 55) Z 2 dX1_insert_55 rfl ?_
        refine g_iload_n (pc := 56) Z 1 dX1_insert_56 rfl ?_
        obtain ⟨b5, hf⟩ := gGuard hf
        refine g_iast (pc := 57) (f := vC.2.2.2.1) (ws' := (wC ad ca (vC.1, vC.2.1, vC.2.2.1, upd vC.2.2.2.1 y2.toNatClampNeg y1, vC.2.2.2.2.1, vC.2.2.2.2.2))) Z 4 1 dX1_insert_57 rfl rfl (gI_in b5) rfl ?_
        refine g_aload_n (pc := 58) Z 0 dX1_insert_58 rfl ?_
        refine g_dup (pc := 59) Z dX1_insert_59 rfl ?_
        refine g_get (pc := 60) (v := .int vC.2.2.2.2.1) (T := TX1) (N := 6) Z 0 4 dX1_insert_60 (mm ww35) inx_X1 rfl (by decide) rfl rfl rfl ?_
        refine g_iconst (pc := 63) (v := 1) Z dX1_insert_63 (by decide) ?_
        refine g_iadd (pc := 64) Z dX1_insert_64 ?_
        refine g_put (pc := 65) (T := TX1) (N := 6) (ws' := (wC ad ca (vC.1, vC.2.1, vC.2.2.1, upd vC.2.2.2.1 y2.toNatClampNeg y1, vC.2.2.2.2.1 + (1 : Int32), vC.2.2.2.2.2))) Z 0 4 dX1_insert_65 (mm ww35) inx_X1 tyX1_ok nmX1 rfl (by decide) rfl rfl rfl rfl rfl rfl (Nat.le_of_ble_eq_true rfl) rfl ?_
        obtain rfl := Option.some.inj hf
        exact g_vret Z hr dX1_insert_68 (vC.1, vC.2.1, vC.2.2.1, upd vC.2.2.2.1 y2.toNatClampNeg y1, vC.2.2.2.2.1 + (1 : Int32), vC.2.2.2.2.2) rfl rfl
      · replace hf := gIfN c4 hf
        refine g_aload_n (pc := 31) Z 0 dX1_insert_31 rfl ?_
        refine g_get (pc := 32) (v := .ref (ad 11)) (T := TX1) (N := 6) Z 0 3 dX1_insert_32 (mm ww36) inx_X1 rfl (by decide) rfl rfl rfl ?_
        refine g_iload_n (pc := 35) Z 2 dX1_insert_35 rfl ?_
        refine g_aload_n (pc := 36) Z 0 dX1_insert_36 rfl ?_
        refine g_get (pc := 37) (v := .ref (ad 11)) (T := TX1) (N := 6) Z 0 3 dX1_insert_37 (mm ww36) inx_X1 rfl (by decide) rfl rfl rfl ?_
        refine g_iload_n (pc := 40) Z 2 dX1_insert_40 rfl ?_
        refine g_iconst (pc := 41) (v := 1) Z dX1_insert_41 (by decide) ?_
        refine g_isub (pc := 42) Z dX1_insert_42 ?_
        obtain ⟨b6, hf⟩ := gGuard hf
        refine g_iald (pc := 43) (f := vC.2.2.2.1) Z 4 1 dX1_insert_43 rfl rfl (gI_in b6) ?_
        obtain ⟨b7, hf⟩ := gGuard hf
        refine g_iast (pc := 44) (f := vC.2.2.2.1) (ws' := (wC ad ca (vC.1, vC.2.1, vC.2.2.1, upd vC.2.2.2.1 y2.toNatClampNeg (vC.2.2.2.1 (y2 - (1 : Int32)).toNatClampNeg), vC.2.2.2.2.1, vC.2.2.2.2.2))) Z 4 1 dX1_insert_44 rfl rfl (gI_in b7) rfl ?_
        refine g_iinc (pc := 45) (v := y2 + (-1 : Int32)) (lv' := [(2, .int (y2 + (-1 : Int32))), (0, .ref (ad 7)), (1, .int y1)]) Z 2 dX1_insert_45 rfl rfl (by decide) rfl ?_
        refine g_goto (pc := 48) (tgt := 15) Z dX1_insert_48 (by decide) ?_
        refine g_locals (lv2 := [(0, .ref (ad 7)), (1, .int y1), (2, .int (y2 + (-1 : Int32)))]) [1, 2, 0] rfl ?_
        exact ih _ _ _ hf
set_option maxHeartbeats 4000000 in
set_option maxRecDepth 100000 in
theorem c_Chg_insert (l : Launch) (D : va_G) (ad : Nat → Nat) (ca : Nat → ClassId) (N : Nat) (vC : CT) (p1 : Int32) (res : CT) (hf : f_Chg_insert N vC p1 = some res) (sz : Nat) : Met l yX1_insert (cd_Chg_insert :: gA) rm_Chg_insert (va_Pc [.ref (ad 7), .int p1] (gP D cls (tys ca) (wC ad ca vC) sz)) (q_Chg_insert D ad ca res (va_A (wC ad ca vC) sz)) 0 0 (va_A (wC ad ca vC) sz) := by
  refine g_met (cc := cX1_insert) (Qc := q_Chg_insert D ad ca res) (lv := [(0, .ref (ad 7)), (1, .int p1)]) (own := RX1) (by decide) rfl rfl (Nat.le_of_ble_eq_true rfl) rfl sz ?_
  intro p e s m args below meth c A Z hr hnm
  unfold f_Chg_insert at hf
  refine g_aload_n (pc := 0) Z 0 dX1_insert_0 rfl ?_
  refine g_get (pc := 1) (v := .int vC.2.2.2.2.1) (T := TX1) (N := 6) Z 0 4 dX1_insert_1 (mm ww35) inx_X1 rfl (by decide) rfl rfl rfl ?_
  refine g_bipush (pc := 4) (v := 96) Z dX1_insert_4 (by decide) ?_
  refine g_icmp_lt (pc := 6) (tgt := 10) Z dX1_insert_6 (by decide) (fun c8 => ?_) (fun c8 => ?_)
  · replace hf := gIfP c8 hf
    refine g_aload_n (pc := 10) Z 0 dX1_insert_10 rfl ?_
    refine g_get (pc := 11) (v := .int vC.2.2.2.2.1) (T := TX1) (N := 6) Z 0 4 dX1_insert_11 (mm ww35) inx_X1 rfl (by decide) rfl rfl rfl ?_
    refine g_istore_n (pc := 14) (lv' := [(2, .int vC.2.2.2.2.1), (0, .ref (ad 7)), (1, .int p1)]) Z dX1_insert_14 (by decide) rfl ?_
    refine g_locals (lv2 := [(0, .ref (ad 7)), (1, .int p1), (2, .int vC.2.2.2.2.1)]) [1, 2, 0] rfl ?_
    exact w_Chg_insert_15 Z hr N _ _ _ hf
  · replace hf := gIfN c8 hf
    obtain rfl := Option.some.inj hf
    exact g_vret Z hr dX1_insert_9 vC rfl rfl
theorem ww37 : Cond.methodLink RX1 38 yX1_cost ∈ gA := wt2 67 rfl rfl
theorem ww38 : Cond.instanceMethod yX1_cost ∈ gA := wt2 56 rfl rfl
theorem ww39 : Cond.selects RX1 yX1_cost yX1_cost ∈ gA := wt2 57 rfl rfl
theorem ww40 : Cond.initialized RX1 ∈ gA := wt1 4 rfl rfl
theorem ww41 : cd_Chg_cost ∈ gA := wt2 58 rfl rfl
theorem ww42 : Cond.methodLink RX1 42 yX1_haveRoomFor ∈ gA := wt2 68 rfl rfl
theorem ww43 : Cond.instanceMethod yX1_haveRoomFor ∈ gA := wt2 60 rfl rfl
theorem ww44 : Cond.selects RX1 yX1_haveRoomFor yX1_haveRoomFor ∈ gA := wt2 61 rfl rfl
theorem ww45 : cd_Chg_haveRoomFor ∈ gA := wt2 62 rfl rfl
theorem ww46 : Cond.methodLink RX1 45 yX1_insert ∈ gA := wt2 69 rfl rfl
theorem ww47 : Cond.instanceMethod yX1_insert ∈ gA := wt2 71 rfl rfl
theorem ww48 : Cond.selects RX1 yX1_insert yX1_insert ∈ gA := wtS 6 rfl rfl
theorem ww49 : cd_Chg_insert ∈ gA := wt2 72 rfl rfl
/-! RedoHeap$Changes.change(IJ)Z -/
def f_Chg_change (N : Nat) (vC : CT) (p1 : Int32) (p2 : Int64) : Option (Bool × CT) :=
  (f_Chg_cost vC p1 p2).bind fun x1 => (f_Heap_isWord p1).bind fun x3 => if x3 = true then (f_Chg_haveRoomFor vC x1).bind fun x6 => if x6 = true then if x1 ≤ 0 then if gI p1 1024 = true then some (true, (vC.1, vp_updL vC.2.1 p1.toNatClampNeg p2, vC.2.2.1, vC.2.2.2.1, vC.2.2.2.2.1, vC.2.2.2.2.2)) else none else if gI p1 1024 = true then (f_Chg_insert N (vC.1, vC.2.1, upd vC.2.2.1 p1.toNatClampNeg (vp_nar .boolean (1 : Int32)), vC.2.2.2.1, vC.2.2.2.2.1, vC.2.2.2.2.2) p1).bind fun x12 => if gI p1 1024 = true then some (true, (x12.1, vp_updL x12.2.1 p1.toNatClampNeg p2, x12.2.2.1, x12.2.2.2.1, x12.2.2.2.2.1, x12.2.2.2.2.2)) else none else none else some (false, vC) else some (false, vC)
abbrev cd_Chg_change : Cond := .code yX1_change cX1_change 5 (some .boolean)
theorem yd_Chg_change : yX1_change.cls ≠ "java/lang/invoke/MethodHandle" ∧ yX1_change.cls ≠ "java/lang/invoke/VarHandle" ∧ (parseMethodDescriptor yX1_change.desc).map (fun d => d.parameters.length) = some 2 := by decide +kernel
abbrev rm_Chg_change : Room := { frames := 2, cells := 0, slots := 0, locals := 43 }
abbrev q_Chg_change (D : va_G) (ad : Nat → Nat) (ca : Nat → ClassId) (res : Bool × CT) (A : Nat → Prop) : Array Value → State → Outcome → State → Prop := va_Qi (fun (r : Int32) (u : CT) => r = bI res.1 ∧ u = res.2) (gB D cls (tys ca) A (fun (u : CT) => (wC ad ca u))) A
set_option maxHeartbeats 4000000 in
set_option maxRecDepth 100000 in
theorem c_Chg_change (l : Launch) (D : va_G) (ad : Nat → Nat) (ca : Nat → ClassId) (N : Nat) (vC : CT) (p1 : Int32) (p2 : Int64) (res : Bool × CT) (hf : f_Chg_change N vC p1 p2 = some res) (sz : Nat) : Met l yX1_change (cd_Chg_change :: gA) rm_Chg_change (va_Pc [.ref (ad 7), .int p1, .long p2] (gP D cls (tys ca) (wC ad ca vC) sz)) (q_Chg_change D ad ca res (va_A (wC ad ca vC) sz)) 0 0 (va_A (wC ad ca vC) sz) := by
  refine g_met (cc := cX1_change) (Qc := q_Chg_change D ad ca res) (lv := [(0, .ref (ad 7)), (1, .int p1), (2, .long p2)]) (own := RX1) (by decide) rfl rfl (Nat.le_of_ble_eq_true rfl) rfl sz ?_
  intro p e s m args below meth c A Z hr hnm
  unfold f_Chg_change at hf
  refine g_aload_n (pc := 0) Z 0 dX1_change_0 rfl ?_
  refine g_iload_n (pc := 1) Z 1 dX1_change_1 rfl ?_
  refine g_lload_n (pc := 2) Z 2 dX1_change_2 rfl ?_
  obtain ⟨x1, h2, hf⟩ := Option.bind_eq_some_iff.mp hf
  refine g_calli (pc := 3) (ws2 := fun u => (wC ad ca vC)) (wr := ([] : va_W)) Z [0, 1, 2, 3, 4] [] [0, 1, 2, 3, 4] (g_runV Z (c_Chg_cost l D ad ca vC p1 p2 x1 h2) (cwV 2 Z.2.2.2.2.1 (gg_V ww37 ww38 ww39 ww40 ww41) rfl rfl rfl (yv_of rfl yd_Chg_cost) ⟨Nat.le_of_ble_eq_true rfl, Nat.le_of_ble_eq_true rfl⟩) [0, 1, 2, 3, 4] rfl (by decide) 0 rfl rfl rfl rfl rfl (Nat.le_of_ble_eq_true rfl) dX1_change_3 ⟨Nat.le_of_ble_eq_true rfl, Nat.le_of_ble_eq_true rfl⟩) rfl rfl (by decide) (by decide) (by decide) (fun _ => rfl) (fun r u hu => ?_)
  obtain rfl := hu.symm
  refine g_istore (pc := 6) (lv' := [(4, .int x1), (0, .ref (ad 7)), (1, .int p1), (2, .long p2)]) Z dX1_change_6 (by decide) rfl ?_
  refine g_iload_n (pc := 8) Z 2 dX1_change_8 rfl ?_
  obtain ⟨x3, h4, hf⟩ := Option.bind_eq_some_iff.mp hf
  refine g_calli (pc := 9) (ws2 := fun u => (wC ad ca vC)) (wr := (wC ad ca vC)) Z [] [0, 1, 2, 3, 4] [0, 1, 2, 3, 4] (g_runSN Z (c_Heap_isWord l D ad ca p1 x3 h4) ⟨va_cnB 1 Z.2.2.2.2.1 (gg_C ww1) rfl rfl rfl Z.2.2.2.2.2.2.2.2.2.2.1 (Z.2.2.2.2.1 _ (mm ww2)) yd_Heap_isWord ⟨Nat.le_of_ble_eq_true rfl, Nat.le_of_ble_eq_true rfl⟩, Z.2.2.2.2.1 _ (mm ww3), trivial⟩ [] rfl (by decide) rfl rfl (Nat.le_of_ble_eq_true rfl) dX1_change_9 ⟨Nat.le_of_ble_eq_true rfl, Nat.le_of_ble_eq_true rfl⟩) rfl rfl (by decide) (by decide) (by decide) (fun _ => rfl) (fun r u hu => ?_)
  obtain rfl := hu.symm
  refine g_if_eq (pc := 12) (tgt := 24) Z dX1_change_12 (by decide) (fun c5 => ?_) (fun c5 => ?_)
  · replace hf := gIfN (bI_z c5) hf
    refine g_iconst (pc := 24) (v := 0) Z dX1_change_24 (by decide) ?_
    obtain rfl := Option.some.inj hf
    exact g_zret Z hr rfl dX1_change_25 vC ⟨rfl, rfl⟩ rfl
  · replace hf := gIfP (bI_nz c5) hf
    refine g_aload_n (pc := 15) Z 1 dX1_change_15 rfl ?_
    refine g_iload (pc := 16) Z 0 dX1_change_16 rfl ?_
    obtain ⟨x6, h7, hf⟩ := Option.bind_eq_some_iff.mp hf
    refine g_calli (pc := 18) (ws2 := fun u => (wC ad ca vC)) (wr := ([] : va_W)) Z [0, 1, 2, 3, 4] [] [0, 1, 2, 3, 4] (g_runV Z (c_Chg_haveRoomFor l D ad ca vC x1 x6 h7) (cwV 1 Z.2.2.2.2.1 (gg_V ww42 ww43 ww44 ww40 ww45) rfl rfl rfl (yv_of rfl yd_Chg_haveRoomFor) ⟨Nat.le_of_ble_eq_true rfl, Nat.le_of_ble_eq_true rfl⟩) [0, 1, 2, 3, 4] rfl (by decide) 0 rfl rfl rfl rfl rfl (Nat.le_of_ble_eq_true rfl) dX1_change_18 ⟨Nat.le_of_ble_eq_true rfl, Nat.le_of_ble_eq_true rfl⟩) rfl rfl (by decide) (by decide) (by decide) (fun _ => rfl) (fun r u hu => ?_)
    obtain rfl := hu.symm
    refine g_if_ne (pc := 21) (tgt := 26) Z dX1_change_21 (by decide) (fun c8 => ?_) (fun c8 => ?_)
    · replace hf := gIfP (bI_nz c8) hf
      refine g_iload (pc := 26) Z 0 dX1_change_26 rfl ?_
      refine g_if_le (pc := 28) (tgt := 43) Z dX1_change_28 (by decide) (fun c9 => ?_) (fun c9 => ?_)
      · replace hf := gIfP c9 hf
        refine g_aload_n (pc := 43) Z 1 dX1_change_43 rfl ?_
        refine g_get (pc := 44) (v := .ref (ad 9)) (T := TX1) (N := 6) Z 0 1 dX1_change_44 (mm ww33) inx_X1 rfl (by decide) rfl rfl rfl ?_
        refine g_iload_n (pc := 47) Z 2 dX1_change_47 rfl ?_
        refine g_lload_n (pc := 48) Z 3 dX1_change_48 rfl ?_
        obtain ⟨b10, hf⟩ := gGuard hf
        refine g_last (pc := 49) (f := vC.2.1) (ws' := (wC ad ca (vC.1, vp_updL vC.2.1 p1.toNatClampNeg p2, vC.2.2.1, vC.2.2.2.1, vC.2.2.2.2.1, vC.2.2.2.2.2))) Z 2 0 dX1_change_49 rfl rfl (gI_in b10) rfl ?_
        refine g_iconst (pc := 50) (v := 1) Z dX1_change_50 (by decide) ?_
        obtain rfl := Option.some.inj hf
        exact g_zret Z hr rfl dX1_change_51 (vC.1, vp_updL vC.2.1 p1.toNatClampNeg p2, vC.2.2.1, vC.2.2.2.1, vC.2.2.2.2.1, vC.2.2.2.2.2) ⟨rfl, rfl⟩ rfl
      · replace hf := gIfN c9 hf
        refine g_aload_n (pc := 31) Z 1 dX1_change_31 rfl ?_
        refine g_get (pc := 32) (v := .ref (ad 10)) (T := TX1) (N := 6) Z 0 2 dX1_change_32 (mm ww34) inx_X1 rfl (by decide) rfl rfl rfl ?_
        refine g_iload_n (pc := 35) Z 2 dX1_change_35 rfl ?_
        refine g_iconst (pc := 36) (v := 1) Z dX1_change_36 (by decide) ?_
        obtain ⟨b11, hf⟩ := gGuard hf
        refine g_zast (pc := 37) (f := vC.2.2.1) (ws' := (wC ad ca (vC.1, vC.2.1, upd vC.2.2.1 p1.toNatClampNeg (vp_nar .boolean (1 : Int32)), vC.2.2.2.1, vC.2.2.2.2.1, vC.2.2.2.2.2))) Z 3 2 dX1_change_37 rfl rfl (gI_in b11) rfl ?_
        refine g_aload_n (pc := 38) Z 1 dX1_change_38 rfl ?_
        refine g_iload_n (pc := 39) Z 2 dX1_change_39 rfl ?_
        obtain ⟨x12, h13, hf⟩ := Option.bind_eq_some_iff.mp hf
        refine g_callv (pc := 40) (ws2 := fun u => (wC ad ca u)) (wr := ([] : va_W)) Z [0, 1, 2, 3, 4] [] [0, 1, 2, 3, 4] (g_runV Z (c_Chg_insert l D ad ca N (vC.1, vC.2.1, upd vC.2.2.1 p1.toNatClampNeg (vp_nar .boolean (1 : Int32)), vC.2.2.2.1, vC.2.2.2.2.1, vC.2.2.2.2.2) p1 x12 h13) (cwV 1 Z.2.2.2.2.1 (gg_V ww46 ww47 ww48 ww40 ww49) rfl rfl rfl (yv_of rfl yd_Chg_insert) ⟨Nat.le_of_ble_eq_true rfl, Nat.le_of_ble_eq_true rfl⟩) [0, 1, 2, 3, 4] rfl (by decide) 0 rfl rfl rfl rfl rfl (Nat.le_of_ble_eq_true rfl) dX1_change_40 ⟨Nat.le_of_ble_eq_true rfl, Nat.le_of_ble_eq_true rfl⟩) rfl rfl (by decide) (by decide) (by decide) (fun _ => rfl) (fun u hu => ?_)
        obtain rfl := hu.symm
        refine g_aload_n (pc := 43) Z 1 dX1_change_43 rfl ?_
        refine g_get (pc := 44) (v := .ref (ad 9)) (T := TX1) (N := 6) Z 0 1 dX1_change_44 (mm ww33) inx_X1 rfl (by decide) rfl rfl rfl ?_
        refine g_iload_n (pc := 47) Z 2 dX1_change_47 rfl ?_
        refine g_lload_n (pc := 48) Z 3 dX1_change_48 rfl ?_
        obtain ⟨b14, hf⟩ := gGuard hf
        refine g_last (pc := 49) (f := x12.2.1) (ws' := (wC ad ca (x12.1, vp_updL x12.2.1 p1.toNatClampNeg p2, x12.2.2.1, x12.2.2.2.1, x12.2.2.2.2.1, x12.2.2.2.2.2))) Z 2 0 dX1_change_49 rfl rfl (gI_in b14) rfl ?_
        refine g_iconst (pc := 50) (v := 1) Z dX1_change_50 (by decide) ?_
        obtain rfl := Option.some.inj hf
        exact g_zret Z hr rfl dX1_change_51 (x12.1, vp_updL x12.2.1 p1.toNatClampNeg p2, x12.2.2.1, x12.2.2.2.1, x12.2.2.2.2.1, x12.2.2.2.2.2) ⟨rfl, rfl⟩ rfl
    · replace hf := gIfN (bI_z c8) hf
      refine g_iconst (pc := 24) (v := 0) Z dX1_change_24 (by decide) ?_
      obtain rfl := Option.some.inj hf
      exact g_zret Z hr rfl dX1_change_25 vC ⟨rfl, rfl⟩ rfl
/-! RedoHeap$Changes.size()I -/
def f_Chg_size (vC : CT) : Option (Int32) :=
  some vC.2.2.2.2.1
abbrev cd_Chg_size : Cond := .code yX1_size cX1_size 1 (some .int)
theorem yd_Chg_size : yX1_size.cls ≠ "java/lang/invoke/MethodHandle" ∧ yX1_size.cls ≠ "java/lang/invoke/VarHandle" ∧ (parseMethodDescriptor yX1_size.desc).map (fun d => d.parameters.length) = some 0 := by decide +kernel
abbrev rm_Chg_size : Room := { frames := 0, cells := 0, slots := 0, locals := 0 }
abbrev q_Chg_size (D : va_G) (ad : Nat → Nat) (ca : Nat → ClassId) (vC : CT) (res : Int32) (A : Nat → Prop) : Array Value → State → Outcome → State → Prop := va_Qi (fun (r : Int32) (_ : Unit) => r = res) (gB D cls (tys ca) A (fun (u : Unit) => (wC ad ca vC))) A
set_option maxHeartbeats 4000000 in
set_option maxRecDepth 100000 in
theorem c_Chg_size (l : Launch) (D : va_G) (ad : Nat → Nat) (ca : Nat → ClassId) (vC : CT) (res : Int32) (hf : f_Chg_size vC = some res) (sz : Nat) : Met l yX1_size (cd_Chg_size :: gA) rm_Chg_size (va_Pc [.ref (ad 7)] (gP D cls (tys ca) (wC ad ca vC) sz)) (q_Chg_size D ad ca vC res (va_A (wC ad ca vC) sz)) 0 0 (va_A (wC ad ca vC) sz) := by
  refine g_met (cc := cX1_size) (Qc := q_Chg_size D ad ca vC res) (lv := [(0, .ref (ad 7))]) (own := RX1) (by decide) rfl rfl (Nat.le_of_ble_eq_true rfl) rfl sz ?_
  intro p e s m args below meth c A Z hr hnm
  unfold f_Chg_size at hf
  refine g_aload_n (pc := 0) Z 0 dX1_size_0 rfl ?_
  refine g_get (pc := 1) (v := .int vC.2.2.2.2.1) (T := TX1) (N := 6) Z 0 4 dX1_size_1 (mm ww35) inx_X1 rfl (by decide) rfl rfl rfl ?_
  obtain rfl := Option.some.inj hf
  exact g_iret Z hr dX1_size_4 () rfl rfl
/-! RedoHeap$Changes.place(I)I -/
def f_Chg_place (vC : CT) (p1 : Int32) : Option (Int32) :=
  if p1 < 0 then some (-1 : Int32) else if vC.2.2.2.2.1 ≤ p1 then some (-1 : Int32) else if (96 : Int32) ≤ p1 then some (-1 : Int32) else if gI p1 96 = true then some (vC.2.2.2.1 p1.toNatClampNeg) else none
abbrev cd_Chg_place : Cond := .code yX1_place cX1_place 2 (some .int)
theorem yd_Chg_place : yX1_place.cls ≠ "java/lang/invoke/MethodHandle" ∧ yX1_place.cls ≠ "java/lang/invoke/VarHandle" ∧ (parseMethodDescriptor yX1_place.desc).map (fun d => d.parameters.length) = some 1 := by decide +kernel
abbrev rm_Chg_place : Room := { frames := 0, cells := 0, slots := 0, locals := 0 }
abbrev q_Chg_place (D : va_G) (ad : Nat → Nat) (ca : Nat → ClassId) (vC : CT) (res : Int32) (A : Nat → Prop) : Array Value → State → Outcome → State → Prop := va_Qi (fun (r : Int32) (_ : Unit) => r = res) (gB D cls (tys ca) A (fun (u : Unit) => (wC ad ca vC))) A
set_option maxHeartbeats 4000000 in
set_option maxRecDepth 100000 in
theorem c_Chg_place (l : Launch) (D : va_G) (ad : Nat → Nat) (ca : Nat → ClassId) (vC : CT) (p1 : Int32) (res : Int32) (hf : f_Chg_place vC p1 = some res) (sz : Nat) : Met l yX1_place (cd_Chg_place :: gA) rm_Chg_place (va_Pc [.ref (ad 7), .int p1] (gP D cls (tys ca) (wC ad ca vC) sz)) (q_Chg_place D ad ca vC res (va_A (wC ad ca vC) sz)) 0 0 (va_A (wC ad ca vC) sz) := by
  refine g_met (cc := cX1_place) (Qc := q_Chg_place D ad ca vC res) (lv := [(0, .ref (ad 7)), (1, .int p1)]) (own := RX1) (by decide) rfl rfl (Nat.le_of_ble_eq_true rfl) rfl sz ?_
  intro p e s m args below meth c A Z hr hnm
  unfold f_Chg_place at hf
  refine g_iload_n (pc := 0) Z 1 dX1_place_0 rfl ?_
  refine g_if_lt (pc := 1) (tgt := 27) Z dX1_place_1 (by decide) (fun c1 => ?_) (fun c1 => ?_)
  · replace hf := gIfP c1 hf
    refine g_iconst (pc := 27) (v := -1) Z dX1_place_27 (by decide) ?_
    obtain rfl := Option.some.inj hf
    exact g_iret Z hr dX1_place_28 () rfl rfl
  · replace hf := gIfN c1 hf
    refine g_iload_n (pc := 4) Z 1 dX1_place_4 rfl ?_
    refine g_aload_n (pc := 5) Z 0 dX1_place_5 rfl ?_
    refine g_get (pc := 6) (v := .int vC.2.2.2.2.1) (T := TX1) (N := 6) Z 0 4 dX1_place_6 (mm ww35) inx_X1 rfl (by decide) rfl rfl rfl ?_
    refine g_icmp_ge (pc := 9) (tgt := 27) Z dX1_place_9 (by decide) (fun c2 => ?_) (fun c2 => ?_)
    · replace hf := gIfP c2 hf
      refine g_iconst (pc := 27) (v := -1) Z dX1_place_27 (by decide) ?_
      obtain rfl := Option.some.inj hf
      exact g_iret Z hr dX1_place_28 () rfl rfl
    · replace hf := gIfN c2 hf
      refine g_iload_n (pc := 12) Z 1 dX1_place_12 rfl ?_
      refine g_bipush (pc := 13) (v := 96) Z dX1_place_13 (by decide) ?_
      refine g_icmp_ge (pc := 15) (tgt := 27) Z dX1_place_15 (by decide) (fun c3 => ?_) (fun c3 => ?_)
      · replace hf := gIfP c3 hf
        refine g_iconst (pc := 27) (v := -1) Z dX1_place_27 (by decide) ?_
        obtain rfl := Option.some.inj hf
        exact g_iret Z hr dX1_place_28 () rfl rfl
      · replace hf := gIfN c3 hf
        refine g_aload_n (pc := 18) Z 0 dX1_place_18 rfl ?_
        refine g_get (pc := 19) (v := .ref (ad 11)) (T := TX1) (N := 6) Z 0 3 dX1_place_19 (mm ww36) inx_X1 rfl (by decide) rfl rfl rfl ?_
        refine g_iload_n (pc := 22) Z 1 dX1_place_22 rfl ?_
        obtain ⟨b4, hf⟩ := gGuard hf
        refine g_iald (pc := 23) (f := vC.2.2.2.1) Z 4 1 dX1_place_23 rfl rfl (gI_in b4) ?_
        refine g_goto (pc := 24) (tgt := 28) Z dX1_place_24 (by decide) ?_
        obtain rfl := Option.some.inj hf
        exact g_iret Z hr dX1_place_28 () rfl rfl
theorem ww50 : Cond.methodLink RX1 49 yX1_place ∈ gA := wt2 148 rfl rfl
theorem ww51 : Cond.instanceMethod yX1_place ∈ gA := wt2 149 rfl rfl
theorem ww52 : Cond.selects RX1 yX1_place yX1_place ∈ gA := wt2 150 rfl rfl
theorem ww53 : cd_Chg_place ∈ gA := wt2 151 rfl rfl
/-! RedoHeap$Changes.drop()V -/
def f_Chg_drop_2 (N : Nat) : Nat → CT → Int32 → Option (CT)
  | 0, _, _ => none
  | n + 1, vC, y1 => if vC.2.2.2.2.1 ≤ y1 then some (vC.1, vC.2.1, vC.2.2.1, vC.2.2.2.1, (0 : Int32), false) else (f_Chg_place vC y1).bind fun x2 => (f_Heap_isWord x2).bind fun x4 => if x4 = true then if gI x2 1024 = true then f_Chg_drop_2 N n (vC.1, vC.2.1, upd vC.2.2.1 x2.toNatClampNeg (vp_nar .boolean (0 : Int32)), vC.2.2.2.1, vC.2.2.2.2.1, vC.2.2.2.2.2) (y1 + (1 : Int32)) else none else f_Chg_drop_2 N n vC (y1 + (1 : Int32))
def f_Chg_drop (N : Nat) (vC : CT) : Option (CT) :=
  f_Chg_drop_2 N N vC (0 : Int32)
abbrev cd_Chg_drop : Cond := .code yX1_drop cX1_drop 3 none
theorem yd_Chg_drop : yX1_drop.cls ≠ "java/lang/invoke/MethodHandle" ∧ yX1_drop.cls ≠ "java/lang/invoke/VarHandle" ∧ (parseMethodDescriptor yX1_drop.desc).map (fun d => d.parameters.length) = some 0 := by decide +kernel
abbrev rm_Chg_drop : Room := { frames := 1, cells := 0, slots := 0, locals := 21 }
abbrev q_Chg_drop (D : va_G) (ad : Nat → Nat) (ca : Nat → ClassId) (res : CT) (A : Nat → Prop) : Array Value → State → Outcome → State → Prop := va_Qv (fun (u : CT) => u = res) (gB D cls (tys ca) A (fun (u : CT) => (wC ad ca u))) A
set_option maxHeartbeats 4000000 in
set_option maxRecDepth 100000 in
theorem w_Chg_drop_2 {p : Program} {l : Launch} {e : Env} {s : State} {m : MethodId} {args : Array Value} {below : List Frame} {meth : Method} {c : Code} {D : va_G} {ad : Nat → Nat} {ca : Nat → ClassId} {A : Nat → Prop} {N : Nat} {res : CT} (Z : gZ p s m args meth c cX1_drop 3 RX1 (cd_Chg_drop :: gA) A D cls (tys ca)) (hr : meth.sig.returnType = none) : ∀ (n : Nat) (vC : CT) (y1 : Int32), f_Chg_drop_2 N n vC y1 = some res → gW p l e rm_Chg_drop s m args below meth c 3 A D cls 0 0 (MQ below (q_Chg_drop D ad ca res A) args s 0 0 A) (wC ad ca vC) [(0, .ref (ad 7)), (1, .int y1)] 2 [] := by
  intro n
  induction n with
  | zero =>
    intro vC y1 hf
    exact absurd hf (by rw [f_Chg_drop_2]; exact fun h => by cases h)
  | succ n ih =>
    intro vC y1 hf
    rw [f_Chg_drop_2] at hf
    refine g_iload_n (pc := 2) Z 1 dX1_drop_2 rfl ?_
    refine g_aload_n (pc := 3) Z 0 dX1_drop_3 rfl ?_
    refine g_get (pc := 4) (v := .int vC.2.2.2.2.1) (T := TX1) (N := 6) Z 0 4 dX1_drop_4 (mm ww35) inx_X1 rfl (by decide) rfl rfl rfl ?_
    refine g_icmp_ge (pc := 7) (tgt := 36) Z dX1_drop_7 (by decide) (fun c1 => ?_) (fun c1 => ?_)
    · replace hf := gIfP c1 hf
      refine g_aload_n (pc := 36) Z 0 dX1_drop_36 rfl ?_
      refine g_iconst (pc := 37) (v := 0) Z dX1_drop_37 (by decide) ?_
      refine g_put (pc := 38) (T := TX1) (N := 6) (ws' := (wC ad ca (vC.1, vC.2.1, vC.2.2.1, vC.2.2.2.1, (0 : Int32), vC.2.2.2.2.2))) Z 0 4 dX1_drop_38 (mm ww35) inx_X1 tyX1_ok nmX1 rfl (by decide) rfl rfl rfl rfl rfl rfl (Nat.le_of_ble_eq_true rfl) rfl ?_
      refine g_aload_n (pc := 41) Z 0 dX1_drop_41 rfl ?_
      refine g_iconst (pc := 42) (v := 0) Z dX1_drop_42 (by decide) ?_
      refine g_put (pc := 43) (T := TX1) (N := 6) (ws' := (wC ad ca (vC.1, vC.2.1, vC.2.2.1, vC.2.2.2.1, (0 : Int32), false))) Z 0 5 dX1_drop_43 (mm ww32) inx_X1 tyX1_ok nmX1 rfl (by decide) rfl rfl rfl rfl rfl rfl (Nat.le_of_ble_eq_true rfl) rfl ?_
      obtain rfl := Option.some.inj hf
      exact g_vret Z hr dX1_drop_46 (vC.1, vC.2.1, vC.2.2.1, vC.2.2.2.1, (0 : Int32), false) rfl rfl
    · replace hf := gIfN c1 hf
      refine g_aload_n (pc := 10) Z 0 dX1_drop_10 rfl ?_
      refine g_iload_n (pc := 11) Z 1 dX1_drop_11 rfl ?_
      obtain ⟨x2, h3, hf⟩ := Option.bind_eq_some_iff.mp hf
      refine g_calli (pc := 12) (ws2 := fun u => (wC ad ca vC)) (wr := ([] : va_W)) Z [0, 1, 2, 3, 4] [] [0, 1, 2, 3, 4] (g_runV Z (c_Chg_place l D ad ca vC y1 x2 h3) (cwV 1 Z.2.2.2.2.1 (gg_V ww50 ww51 ww52 ww40 ww53) rfl rfl rfl (yv_of rfl yd_Chg_place) ⟨Nat.le_of_ble_eq_true rfl, Nat.le_of_ble_eq_true rfl⟩) [0, 1, 2, 3, 4] rfl (by decide) 0 rfl rfl rfl rfl rfl (Nat.le_of_ble_eq_true rfl) dX1_drop_12 ⟨Nat.le_of_ble_eq_true rfl, Nat.le_of_ble_eq_true rfl⟩) rfl rfl (by decide) (by decide) (by decide) (fun _ => rfl) (fun r u hu => ?_)
      obtain rfl := hu.symm
      refine g_istore_n (pc := 15) (lv' := [(2, .int x2), (0, .ref (ad 7)), (1, .int y1)]) Z dX1_drop_15 (by decide) rfl ?_
      refine g_iload_n (pc := 16) Z 0 dX1_drop_16 rfl ?_
      obtain ⟨x4, h5, hf⟩ := Option.bind_eq_some_iff.mp hf
      refine g_calli (pc := 17) (ws2 := fun u => (wC ad ca vC)) (wr := (wC ad ca vC)) Z [] [0, 1, 2, 3, 4] [0, 1, 2, 3, 4] (g_runSN Z (c_Heap_isWord l D ad ca x2 x4 h5) ⟨va_cnB 1 Z.2.2.2.2.1 (gg_C ww1) rfl rfl rfl Z.2.2.2.2.2.2.2.2.2.2.1 (Z.2.2.2.2.1 _ (mm ww2)) yd_Heap_isWord ⟨Nat.le_of_ble_eq_true rfl, Nat.le_of_ble_eq_true rfl⟩, Z.2.2.2.2.1 _ (mm ww3), trivial⟩ [] rfl (by decide) rfl rfl (Nat.le_of_ble_eq_true rfl) dX1_drop_17 ⟨Nat.le_of_ble_eq_true rfl, Nat.le_of_ble_eq_true rfl⟩) rfl rfl (by decide) (by decide) (by decide) (fun _ => rfl) (fun r u hu => ?_)
      obtain rfl := hu.symm
      refine g_if_eq (pc := 20) (tgt := 30) Z dX1_drop_20 (by decide) (fun c6 => ?_) (fun c6 => ?_)
      · replace hf := gIfN (bI_z c6) hf
        refine g_iinc (pc := 30) (v := y1 + (1 : Int32)) (lv' := [(1, .int (y1 + (1 : Int32))), (2, .int x2), (0, .ref (ad 7))]) Z 2 dX1_drop_30 rfl rfl (by decide) rfl ?_
        refine g_goto (pc := 33) (tgt := 2) Z dX1_drop_33 (by decide) ?_
        refine g_locals (lv2 := [(0, .ref (ad 7)), (1, .int (y1 + (1 : Int32)))]) [2, 0] rfl ?_
        exact ih _ _ hf
      · replace hf := gIfP (bI_nz c6) hf
        refine g_aload_n (pc := 23) Z 1 dX1_drop_23 rfl ?_
        refine g_get (pc := 24) (v := .ref (ad 10)) (T := TX1) (N := 6) Z 0 2 dX1_drop_24 (mm ww34) inx_X1 rfl (by decide) rfl rfl rfl ?_
        refine g_iload_n (pc := 27) Z 0 dX1_drop_27 rfl ?_
        refine g_iconst (pc := 28) (v := 0) Z dX1_drop_28 (by decide) ?_
        obtain ⟨b7, hf⟩ := gGuard hf
        refine g_zast (pc := 29) (f := vC.2.2.1) (ws' := (wC ad ca (vC.1, vC.2.1, upd vC.2.2.1 x2.toNatClampNeg (vp_nar .boolean (0 : Int32)), vC.2.2.2.1, vC.2.2.2.2.1, vC.2.2.2.2.2))) Z 3 2 dX1_drop_29 rfl rfl (gI_in b7) rfl ?_
        refine g_iinc (pc := 30) (v := y1 + (1 : Int32)) (lv' := [(1, .int (y1 + (1 : Int32))), (2, .int x2), (0, .ref (ad 7))]) Z 2 dX1_drop_30 rfl rfl (by decide) rfl ?_
        refine g_goto (pc := 33) (tgt := 2) Z dX1_drop_33 (by decide) ?_
        refine g_locals (lv2 := [(0, .ref (ad 7)), (1, .int (y1 + (1 : Int32)))]) [2, 0] rfl ?_
        exact ih _ _ hf
set_option maxHeartbeats 4000000 in
set_option maxRecDepth 100000 in
theorem c_Chg_drop (l : Launch) (D : va_G) (ad : Nat → Nat) (ca : Nat → ClassId) (N : Nat) (vC : CT) (res : CT) (hf : f_Chg_drop N vC = some res) (sz : Nat) : Met l yX1_drop (cd_Chg_drop :: gA) rm_Chg_drop (va_Pc [.ref (ad 7)] (gP D cls (tys ca) (wC ad ca vC) sz)) (q_Chg_drop D ad ca res (va_A (wC ad ca vC) sz)) 0 0 (va_A (wC ad ca vC) sz) := by
  refine g_met (cc := cX1_drop) (Qc := q_Chg_drop D ad ca res) (lv := [(0, .ref (ad 7))]) (own := RX1) (by decide) rfl rfl (Nat.le_of_ble_eq_true rfl) rfl sz ?_
  intro p e s m args below meth c A Z hr hnm
  unfold f_Chg_drop at hf
  refine g_iconst (pc := 0) (v := 0) Z dX1_drop_0 (by decide) ?_
  refine g_istore_n (pc := 1) (lv' := [(1, .int (0 : Int32)), (0, .ref (ad 7))]) Z dX1_drop_1 (by decide) rfl ?_
  refine g_locals (lv2 := [(0, .ref (ad 7)), (1, .int (0 : Int32))]) [1, 0] rfl ?_
  exact w_Chg_drop_2 Z hr N _ _ hf
theorem ww54 : Cond.methodLink RX1 53 yX1_drop ∈ gA := wt2 152 rfl rfl
theorem ww55 : Cond.instanceMethod yX1_drop ∈ gA := wt2 153 rfl rfl
theorem ww56 : Cond.selects RX1 yX1_drop yX1_drop ∈ gA := wt2 154 rfl rfl
theorem ww57 : cd_Chg_drop ∈ gA := wt2 155 rfl rfl
theorem ww58 : Cond.fieldLink RX1 9 "RedoHeap$Changes" "good" "[J" ∈ gA := wt1 93 rfl rfl
/-! RedoHeap$Changes.accept()V -/
def f_Chg_accept_2 (N : Nat) : Nat → CT → Int32 → Option (CT)
  | 0, _, _ => none
  | n + 1, vC, y1 => if vC.2.2.2.2.1 ≤ y1 then (f_Chg_drop N vC).bind fun x2 => some x2 else (f_Chg_place vC y1).bind fun x4 => (f_Heap_isWord x4).bind fun x6 => if x6 = true then if gI x4 1024 = true then if gI x4 1024 = true then f_Chg_accept_2 N n (vp_updL vC.1 x4.toNatClampNeg (vC.2.1 x4.toNatClampNeg), vC.2.1, vC.2.2.1, vC.2.2.2.1, vC.2.2.2.2.1, vC.2.2.2.2.2) (y1 + (1 : Int32)) else none else none else f_Chg_accept_2 N n vC (y1 + (1 : Int32))
def f_Chg_accept (N : Nat) (vC : CT) : Option (CT) :=
  f_Chg_accept_2 N N vC (0 : Int32)
abbrev cd_Chg_accept : Cond := .code yX1_accept cX1_accept 3 none
theorem yd_Chg_accept : yX1_accept.cls ≠ "java/lang/invoke/MethodHandle" ∧ yX1_accept.cls ≠ "java/lang/invoke/VarHandle" ∧ (parseMethodDescriptor yX1_accept.desc).map (fun d => d.parameters.length) = some 0 := by decide +kernel
abbrev rm_Chg_accept : Room := { frames := 2, cells := 0, slots := 0, locals := 43 }
abbrev q_Chg_accept (D : va_G) (ad : Nat → Nat) (ca : Nat → ClassId) (res : CT) (A : Nat → Prop) : Array Value → State → Outcome → State → Prop := va_Qv (fun (u : CT) => u = res) (gB D cls (tys ca) A (fun (u : CT) => (wC ad ca u))) A
set_option maxHeartbeats 4000000 in
set_option maxRecDepth 100000 in
theorem w_Chg_accept_2 {p : Program} {l : Launch} {e : Env} {s : State} {m : MethodId} {args : Array Value} {below : List Frame} {meth : Method} {c : Code} {D : va_G} {ad : Nat → Nat} {ca : Nat → ClassId} {A : Nat → Prop} {N : Nat} {res : CT} (Z : gZ p s m args meth c cX1_accept 3 RX1 (cd_Chg_accept :: gA) A D cls (tys ca)) (hr : meth.sig.returnType = none) : ∀ (n : Nat) (vC : CT) (y1 : Int32), f_Chg_accept_2 N n vC y1 = some res → gW p l e rm_Chg_accept s m args below meth c 3 A D cls 0 0 (MQ below (q_Chg_accept D ad ca res A) args s 0 0 A) (wC ad ca vC) [(0, .ref (ad 7)), (1, .int y1)] 2 [] := by
  intro n
  induction n with
  | zero =>
    intro vC y1 hf
    exact absurd hf (by rw [f_Chg_accept_2]; exact fun h => by cases h)
  | succ n ih =>
    intro vC y1 hf
    rw [f_Chg_accept_2] at hf
    refine g_iload_n (pc := 2) Z 1 dX1_accept_2 rfl ?_
    refine g_aload_n (pc := 3) Z 0 dX1_accept_3 rfl ?_
    refine g_get (pc := 4) (v := .int vC.2.2.2.2.1) (T := TX1) (N := 6) Z 0 4 dX1_accept_4 (mm ww35) inx_X1 rfl (by decide) rfl rfl rfl ?_
    refine g_icmp_ge (pc := 7) (tgt := 41) Z dX1_accept_7 (by decide) (fun c1 => ?_) (fun c1 => ?_)
    · replace hf := gIfP c1 hf
      refine g_aload_n (pc := 41) Z 0 dX1_accept_41 rfl ?_
      obtain ⟨x2, h3, hf⟩ := Option.bind_eq_some_iff.mp hf
      refine g_callv (pc := 42) (ws2 := fun u => (wC ad ca u)) (wr := ([] : va_W)) Z [0, 1, 2, 3, 4] [] [0, 1, 2, 3, 4] (g_runV Z (c_Chg_drop l D ad ca N vC x2 h3) (cwV 0 Z.2.2.2.2.1 (gg_V ww54 ww55 ww56 ww40 ww57) rfl rfl rfl (yv_of rfl yd_Chg_drop) ⟨Nat.le_of_ble_eq_true rfl, Nat.le_of_ble_eq_true rfl⟩) [0, 1, 2, 3, 4] rfl (by decide) 0 rfl rfl rfl rfl rfl (Nat.le_of_ble_eq_true rfl) dX1_accept_42 ⟨Nat.le_of_ble_eq_true rfl, Nat.le_of_ble_eq_true rfl⟩) rfl rfl (by decide) (by decide) (by decide) (fun _ => rfl) (fun u hu => ?_)
      obtain rfl := hu.symm
      obtain rfl := Option.some.inj hf
      exact g_vret Z hr dX1_accept_45 x2 rfl rfl
    · replace hf := gIfN c1 hf
      refine g_aload_n (pc := 10) Z 0 dX1_accept_10 rfl ?_
      refine g_iload_n (pc := 11) Z 1 dX1_accept_11 rfl ?_
      obtain ⟨x4, h5, hf⟩ := Option.bind_eq_some_iff.mp hf
      refine g_calli (pc := 12) (ws2 := fun u => (wC ad ca vC)) (wr := ([] : va_W)) Z [0, 1, 2, 3, 4] [] [0, 1, 2, 3, 4] (g_runV Z (c_Chg_place l D ad ca vC y1 x4 h5) (cwV 1 Z.2.2.2.2.1 (gg_V ww50 ww51 ww52 ww40 ww53) rfl rfl rfl (yv_of rfl yd_Chg_place) ⟨Nat.le_of_ble_eq_true rfl, Nat.le_of_ble_eq_true rfl⟩) [0, 1, 2, 3, 4] rfl (by decide) 0 rfl rfl rfl rfl rfl (Nat.le_of_ble_eq_true rfl) dX1_accept_12 ⟨Nat.le_of_ble_eq_true rfl, Nat.le_of_ble_eq_true rfl⟩) rfl rfl (by decide) (by decide) (by decide) (fun _ => rfl) (fun r u hu => ?_)
      obtain rfl := hu.symm
      refine g_istore_n (pc := 15) (lv' := [(2, .int x4), (0, .ref (ad 7)), (1, .int y1)]) Z dX1_accept_15 (by decide) rfl ?_
      refine g_iload_n (pc := 16) Z 0 dX1_accept_16 rfl ?_
      obtain ⟨x6, h7, hf⟩ := Option.bind_eq_some_iff.mp hf
      refine g_calli (pc := 17) (ws2 := fun u => (wC ad ca vC)) (wr := (wC ad ca vC)) Z [] [0, 1, 2, 3, 4] [0, 1, 2, 3, 4] (g_runSN Z (c_Heap_isWord l D ad ca x4 x6 h7) ⟨va_cnB 1 Z.2.2.2.2.1 (gg_C ww1) rfl rfl rfl Z.2.2.2.2.2.2.2.2.2.2.1 (Z.2.2.2.2.1 _ (mm ww2)) yd_Heap_isWord ⟨Nat.le_of_ble_eq_true rfl, Nat.le_of_ble_eq_true rfl⟩, Z.2.2.2.2.1 _ (mm ww3), trivial⟩ [] rfl (by decide) rfl rfl (Nat.le_of_ble_eq_true rfl) dX1_accept_17 ⟨Nat.le_of_ble_eq_true rfl, Nat.le_of_ble_eq_true rfl⟩) rfl rfl (by decide) (by decide) (by decide) (fun _ => rfl) (fun r u hu => ?_)
      obtain rfl := hu.symm
      refine g_if_eq (pc := 20) (tgt := 35) Z dX1_accept_20 (by decide) (fun c8 => ?_) (fun c8 => ?_)
      · replace hf := gIfN (bI_z c8) hf
        refine g_iinc (pc := 35) (v := y1 + (1 : Int32)) (lv' := [(1, .int (y1 + (1 : Int32))), (2, .int x4), (0, .ref (ad 7))]) Z 2 dX1_accept_35 rfl rfl (by decide) rfl ?_
        refine g_goto (pc := 38) (tgt := 2) Z dX1_accept_38 (by decide) ?_
        refine g_locals (lv2 := [(0, .ref (ad 7)), (1, .int (y1 + (1 : Int32)))]) [2, 0] rfl ?_
        exact ih _ _ hf
      · replace hf := gIfP (bI_nz c8) hf
        refine g_aload_n (pc := 23) Z 1 dX1_accept_23 rfl ?_
        refine g_get (pc := 24) (v := .ref (ad 8)) (T := TX1) (N := 6) Z 0 0 dX1_accept_24 (mm ww58) inx_X1 rfl (by decide) rfl rfl rfl ?_
        refine g_iload_n (pc := 27) Z 0 dX1_accept_27 rfl ?_
        refine g_aload_n (pc := 28) Z 1 dX1_accept_28 rfl ?_
        refine g_get (pc := 29) (v := .ref (ad 9)) (T := TX1) (N := 6) Z 0 1 dX1_accept_29 (mm ww33) inx_X1 rfl (by decide) rfl rfl rfl ?_
        refine g_iload_n (pc := 32) Z 0 dX1_accept_32 rfl ?_
        obtain ⟨b9, hf⟩ := gGuard hf
        refine g_lald (pc := 33) (f := vC.2.1) Z 2 0 dX1_accept_33 rfl rfl (gI_in b9) ?_
        obtain ⟨b10, hf⟩ := gGuard hf
        refine g_last (pc := 34) (f := vC.1) (ws' := (wC ad ca (vp_updL vC.1 x4.toNatClampNeg (vC.2.1 x4.toNatClampNeg), vC.2.1, vC.2.2.1, vC.2.2.2.1, vC.2.2.2.2.1, vC.2.2.2.2.2))) Z 1 0 dX1_accept_34 rfl rfl (gI_in b10) rfl ?_
        refine g_iinc (pc := 35) (v := y1 + (1 : Int32)) (lv' := [(1, .int (y1 + (1 : Int32))), (2, .int x4), (0, .ref (ad 7))]) Z 2 dX1_accept_35 rfl rfl (by decide) rfl ?_
        refine g_goto (pc := 38) (tgt := 2) Z dX1_accept_38 (by decide) ?_
        refine g_locals (lv2 := [(0, .ref (ad 7)), (1, .int (y1 + (1 : Int32)))]) [2, 0] rfl ?_
        exact ih _ _ hf
set_option maxHeartbeats 4000000 in
set_option maxRecDepth 100000 in
theorem c_Chg_accept (l : Launch) (D : va_G) (ad : Nat → Nat) (ca : Nat → ClassId) (N : Nat) (vC : CT) (res : CT) (hf : f_Chg_accept N vC = some res) (sz : Nat) : Met l yX1_accept (cd_Chg_accept :: gA) rm_Chg_accept (va_Pc [.ref (ad 7)] (gP D cls (tys ca) (wC ad ca vC) sz)) (q_Chg_accept D ad ca res (va_A (wC ad ca vC) sz)) 0 0 (va_A (wC ad ca vC) sz) := by
  refine g_met (cc := cX1_accept) (Qc := q_Chg_accept D ad ca res) (lv := [(0, .ref (ad 7))]) (own := RX1) (by decide) rfl rfl (Nat.le_of_ble_eq_true rfl) rfl sz ?_
  intro p e s m args below meth c A Z hr hnm
  unfold f_Chg_accept at hf
  refine g_iconst (pc := 0) (v := 0) Z dX1_accept_0 (by decide) ?_
  refine g_istore_n (pc := 1) (lv' := [(1, .int (0 : Int32)), (0, .ref (ad 7))]) Z dX1_accept_1 (by decide) rfl ?_
  refine g_locals (lv2 := [(0, .ref (ad 7)), (1, .int (0 : Int32))]) [1, 0] rfl ?_
  exact w_Chg_accept_2 Z hr N _ _ hf
/-! RedoHeap$Changes.takeBack()V -/
def f_Chg_takeBack_2 (N : Nat) : Nat → CT → Int32 → Option (CT)
  | 0, _, _ => none
  | n + 1, vC, y1 => if vC.2.2.2.2.1 ≤ y1 then (f_Chg_drop N vC).bind fun x2 => some x2 else (f_Chg_place vC y1).bind fun x4 => (f_Heap_isWord x4).bind fun x6 => if x6 = true then if gI x4 1024 = true then if gI x4 1024 = true then f_Chg_takeBack_2 N n (vC.1, vp_updL vC.2.1 x4.toNatClampNeg (vC.1 x4.toNatClampNeg), vC.2.2.1, vC.2.2.2.1, vC.2.2.2.2.1, vC.2.2.2.2.2) (y1 + (1 : Int32)) else none else none else f_Chg_takeBack_2 N n vC (y1 + (1 : Int32))
def f_Chg_takeBack (N : Nat) (vC : CT) : Option (CT) :=
  f_Chg_takeBack_2 N N vC (0 : Int32)
abbrev cd_Chg_takeBack : Cond := .code yX1_takeBack cX1_takeBack 3 none
theorem yd_Chg_takeBack : yX1_takeBack.cls ≠ "java/lang/invoke/MethodHandle" ∧ yX1_takeBack.cls ≠ "java/lang/invoke/VarHandle" ∧ (parseMethodDescriptor yX1_takeBack.desc).map (fun d => d.parameters.length) = some 0 := by decide +kernel
abbrev rm_Chg_takeBack : Room := { frames := 2, cells := 0, slots := 0, locals := 43 }
abbrev q_Chg_takeBack (D : va_G) (ad : Nat → Nat) (ca : Nat → ClassId) (res : CT) (A : Nat → Prop) : Array Value → State → Outcome → State → Prop := va_Qv (fun (u : CT) => u = res) (gB D cls (tys ca) A (fun (u : CT) => (wC ad ca u))) A
set_option maxHeartbeats 4000000 in
set_option maxRecDepth 100000 in
theorem w_Chg_takeBack_2 {p : Program} {l : Launch} {e : Env} {s : State} {m : MethodId} {args : Array Value} {below : List Frame} {meth : Method} {c : Code} {D : va_G} {ad : Nat → Nat} {ca : Nat → ClassId} {A : Nat → Prop} {N : Nat} {res : CT} (Z : gZ p s m args meth c cX1_takeBack 3 RX1 (cd_Chg_takeBack :: gA) A D cls (tys ca)) (hr : meth.sig.returnType = none) : ∀ (n : Nat) (vC : CT) (y1 : Int32), f_Chg_takeBack_2 N n vC y1 = some res → gW p l e rm_Chg_takeBack s m args below meth c 3 A D cls 0 0 (MQ below (q_Chg_takeBack D ad ca res A) args s 0 0 A) (wC ad ca vC) [(0, .ref (ad 7)), (1, .int y1)] 2 [] := by
  intro n
  induction n with
  | zero =>
    intro vC y1 hf
    exact absurd hf (by rw [f_Chg_takeBack_2]; exact fun h => by cases h)
  | succ n ih =>
    intro vC y1 hf
    rw [f_Chg_takeBack_2] at hf
    refine g_iload_n (pc := 2) Z 1 dX1_takeBack_2 rfl ?_
    refine g_aload_n (pc := 3) Z 0 dX1_takeBack_3 rfl ?_
    refine g_get (pc := 4) (v := .int vC.2.2.2.2.1) (T := TX1) (N := 6) Z 0 4 dX1_takeBack_4 (mm ww35) inx_X1 rfl (by decide) rfl rfl rfl ?_
    refine g_icmp_ge (pc := 7) (tgt := 41) Z dX1_takeBack_7 (by decide) (fun c1 => ?_) (fun c1 => ?_)
    · replace hf := gIfP c1 hf
      refine g_aload_n (pc := 41) Z 0 dX1_takeBack_41 rfl ?_
      obtain ⟨x2, h3, hf⟩ := Option.bind_eq_some_iff.mp hf
      refine g_callv (pc := 42) (ws2 := fun u => (wC ad ca u)) (wr := ([] : va_W)) Z [0, 1, 2, 3, 4] [] [0, 1, 2, 3, 4] (g_runV Z (c_Chg_drop l D ad ca N vC x2 h3) (cwV 0 Z.2.2.2.2.1 (gg_V ww54 ww55 ww56 ww40 ww57) rfl rfl rfl (yv_of rfl yd_Chg_drop) ⟨Nat.le_of_ble_eq_true rfl, Nat.le_of_ble_eq_true rfl⟩) [0, 1, 2, 3, 4] rfl (by decide) 0 rfl rfl rfl rfl rfl (Nat.le_of_ble_eq_true rfl) dX1_takeBack_42 ⟨Nat.le_of_ble_eq_true rfl, Nat.le_of_ble_eq_true rfl⟩) rfl rfl (by decide) (by decide) (by decide) (fun _ => rfl) (fun u hu => ?_)
      obtain rfl := hu.symm
      obtain rfl := Option.some.inj hf
      exact g_vret Z hr dX1_takeBack_45 x2 rfl rfl
    · replace hf := gIfN c1 hf
      refine g_aload_n (pc := 10) Z 0 dX1_takeBack_10 rfl ?_
      refine g_iload_n (pc := 11) Z 1 dX1_takeBack_11 rfl ?_
      obtain ⟨x4, h5, hf⟩ := Option.bind_eq_some_iff.mp hf
      refine g_calli (pc := 12) (ws2 := fun u => (wC ad ca vC)) (wr := ([] : va_W)) Z [0, 1, 2, 3, 4] [] [0, 1, 2, 3, 4] (g_runV Z (c_Chg_place l D ad ca vC y1 x4 h5) (cwV 1 Z.2.2.2.2.1 (gg_V ww50 ww51 ww52 ww40 ww53) rfl rfl rfl (yv_of rfl yd_Chg_place) ⟨Nat.le_of_ble_eq_true rfl, Nat.le_of_ble_eq_true rfl⟩) [0, 1, 2, 3, 4] rfl (by decide) 0 rfl rfl rfl rfl rfl (Nat.le_of_ble_eq_true rfl) dX1_takeBack_12 ⟨Nat.le_of_ble_eq_true rfl, Nat.le_of_ble_eq_true rfl⟩) rfl rfl (by decide) (by decide) (by decide) (fun _ => rfl) (fun r u hu => ?_)
      obtain rfl := hu.symm
      refine g_istore_n (pc := 15) (lv' := [(2, .int x4), (0, .ref (ad 7)), (1, .int y1)]) Z dX1_takeBack_15 (by decide) rfl ?_
      refine g_iload_n (pc := 16) Z 0 dX1_takeBack_16 rfl ?_
      obtain ⟨x6, h7, hf⟩ := Option.bind_eq_some_iff.mp hf
      refine g_calli (pc := 17) (ws2 := fun u => (wC ad ca vC)) (wr := (wC ad ca vC)) Z [] [0, 1, 2, 3, 4] [0, 1, 2, 3, 4] (g_runSN Z (c_Heap_isWord l D ad ca x4 x6 h7) ⟨va_cnB 1 Z.2.2.2.2.1 (gg_C ww1) rfl rfl rfl Z.2.2.2.2.2.2.2.2.2.2.1 (Z.2.2.2.2.1 _ (mm ww2)) yd_Heap_isWord ⟨Nat.le_of_ble_eq_true rfl, Nat.le_of_ble_eq_true rfl⟩, Z.2.2.2.2.1 _ (mm ww3), trivial⟩ [] rfl (by decide) rfl rfl (Nat.le_of_ble_eq_true rfl) dX1_takeBack_17 ⟨Nat.le_of_ble_eq_true rfl, Nat.le_of_ble_eq_true rfl⟩) rfl rfl (by decide) (by decide) (by decide) (fun _ => rfl) (fun r u hu => ?_)
      obtain rfl := hu.symm
      refine g_if_eq (pc := 20) (tgt := 35) Z dX1_takeBack_20 (by decide) (fun c8 => ?_) (fun c8 => ?_)
      · replace hf := gIfN (bI_z c8) hf
        refine g_iinc (pc := 35) (v := y1 + (1 : Int32)) (lv' := [(1, .int (y1 + (1 : Int32))), (2, .int x4), (0, .ref (ad 7))]) Z 2 dX1_takeBack_35 rfl rfl (by decide) rfl ?_
        refine g_goto (pc := 38) (tgt := 2) Z dX1_takeBack_38 (by decide) ?_
        refine g_locals (lv2 := [(0, .ref (ad 7)), (1, .int (y1 + (1 : Int32)))]) [2, 0] rfl ?_
        exact ih _ _ hf
      · replace hf := gIfP (bI_nz c8) hf
        refine g_aload_n (pc := 23) Z 1 dX1_takeBack_23 rfl ?_
        refine g_get (pc := 24) (v := .ref (ad 9)) (T := TX1) (N := 6) Z 0 1 dX1_takeBack_24 (mm ww33) inx_X1 rfl (by decide) rfl rfl rfl ?_
        refine g_iload_n (pc := 27) Z 0 dX1_takeBack_27 rfl ?_
        refine g_aload_n (pc := 28) Z 1 dX1_takeBack_28 rfl ?_
        refine g_get (pc := 29) (v := .ref (ad 8)) (T := TX1) (N := 6) Z 0 0 dX1_takeBack_29 (mm ww58) inx_X1 rfl (by decide) rfl rfl rfl ?_
        refine g_iload_n (pc := 32) Z 0 dX1_takeBack_32 rfl ?_
        obtain ⟨b9, hf⟩ := gGuard hf
        refine g_lald (pc := 33) (f := vC.1) Z 1 0 dX1_takeBack_33 rfl rfl (gI_in b9) ?_
        obtain ⟨b10, hf⟩ := gGuard hf
        refine g_last (pc := 34) (f := vC.2.1) (ws' := (wC ad ca (vC.1, vp_updL vC.2.1 x4.toNatClampNeg (vC.1 x4.toNatClampNeg), vC.2.2.1, vC.2.2.2.1, vC.2.2.2.2.1, vC.2.2.2.2.2))) Z 2 0 dX1_takeBack_34 rfl rfl (gI_in b10) rfl ?_
        refine g_iinc (pc := 35) (v := y1 + (1 : Int32)) (lv' := [(1, .int (y1 + (1 : Int32))), (2, .int x4), (0, .ref (ad 7))]) Z 2 dX1_takeBack_35 rfl rfl (by decide) rfl ?_
        refine g_goto (pc := 38) (tgt := 2) Z dX1_takeBack_38 (by decide) ?_
        refine g_locals (lv2 := [(0, .ref (ad 7)), (1, .int (y1 + (1 : Int32)))]) [2, 0] rfl ?_
        exact ih _ _ hf
set_option maxHeartbeats 4000000 in
set_option maxRecDepth 100000 in
theorem c_Chg_takeBack (l : Launch) (D : va_G) (ad : Nat → Nat) (ca : Nat → ClassId) (N : Nat) (vC : CT) (res : CT) (hf : f_Chg_takeBack N vC = some res) (sz : Nat) : Met l yX1_takeBack (cd_Chg_takeBack :: gA) rm_Chg_takeBack (va_Pc [.ref (ad 7)] (gP D cls (tys ca) (wC ad ca vC) sz)) (q_Chg_takeBack D ad ca res (va_A (wC ad ca vC) sz)) 0 0 (va_A (wC ad ca vC) sz) := by
  refine g_met (cc := cX1_takeBack) (Qc := q_Chg_takeBack D ad ca res) (lv := [(0, .ref (ad 7))]) (own := RX1) (by decide) rfl rfl (Nat.le_of_ble_eq_true rfl) rfl sz ?_
  intro p e s m args below meth c A Z hr hnm
  unfold f_Chg_takeBack at hf
  refine g_iconst (pc := 0) (v := 0) Z dX1_takeBack_0 (by decide) ?_
  refine g_istore_n (pc := 1) (lv' := [(1, .int (0 : Int32)), (0, .ref (ad 7))]) Z dX1_takeBack_1 (by decide) rfl ?_
  refine g_locals (lv2 := [(0, .ref (ad 7)), (1, .int (0 : Int32))]) [1, 0] rfl ?_
  exact w_Chg_takeBack_2 Z hr N _ _ hf
theorem ww59 : Cond.methodLink RX1 62 arraycopyName ∈ gA := wt3 74 rfl rfl
theorem ww60 : Cond.methodLink RX1 56 yX2_read ∈ gA := wt3 73 rfl rfl
theorem ww61 : Cond.instanceMethod yX2_read ∈ gA := wt2 177 rfl rfl
theorem ww62 : Cond.selects RX2 yX2_read yX2_read ∈ gA := wt2 178 rfl rfl
theorem ww63 : cd_Disk_read ∈ gA := wt2 179 rfl rfl
/-! RedoHeap$Changes.load(LRedoHeap$Disk;)V -/
def f_Chg_load_2 (N : Nat) (vD : DT) : Nat → CT → Int32 → Option (CT)
  | 0, _, _ => none
  | n + 1, vC, y2 => if (1024 : Int32) ≤ y2 then some (vC.1, va_cpy vC.1 vC.2.1 (0 : Int32).toNatClampNeg (0 : Int32).toNatClampNeg (1024 : Int32).toNatClampNeg, vC.2.2.1, vC.2.2.2.1, vC.2.2.2.2.1, vC.2.2.2.2.2) else (f_Disk_read vD y2).bind fun x2 => if gI y2 1024 = true then f_Chg_load_2 N vD n (vp_updL vC.1 y2.toNatClampNeg x2, vC.2.1, vC.2.2.1, vC.2.2.2.1, vC.2.2.2.2.1, vC.2.2.2.2.2) (y2 + (1 : Int32)) else none
def f_Chg_load (N : Nat) (vD : DT) (vC : CT) : Option (CT) :=
  f_Chg_load_2 N vD N vC (0 : Int32)
abbrev cd_Chg_load : Cond := .code yX1_load cX1_load 3 none
theorem yd_Chg_load : yX1_load.cls ≠ "java/lang/invoke/MethodHandle" ∧ yX1_load.cls ≠ "java/lang/invoke/VarHandle" ∧ (parseMethodDescriptor yX1_load.desc).map (fun d => d.parameters.length) = some 1 := by decide +kernel
abbrev rm_Chg_load : Room := { frames := 2, cells := 0, slots := 0, locals := 60 }
abbrev q_Chg_load (D : va_G) (ad : Nat → Nat) (ca : Nat → ClassId) (vD : DT) (res : CT) (A : Nat → Prop) : Array Value → State → Outcome → State → Prop := va_Qv (fun (u : CT) => u = res) (gB D cls (tys ca) A (fun (u : CT) => (wD ad ca vD ++ wC ad ca u))) A
set_option maxHeartbeats 4000000 in
set_option maxRecDepth 100000 in
theorem w_Chg_load_2 {p : Program} {l : Launch} {e : Env} {s : State} {m : MethodId} {args : Array Value} {below : List Frame} {meth : Method} {c : Code} {D : va_G} {ad : Nat → Nat} {ca : Nat → ClassId} {A : Nat → Prop} {N : Nat} {vD : DT} {res : CT} (Z : gZ p s m args meth c cX1_load 3 RX1 (cd_Chg_load :: gA) A D cls (tys ca)) (hr : meth.sig.returnType = none) : ∀ (n : Nat) (vC : CT) (y2 : Int32), f_Chg_load_2 N vD n vC y2 = some res → gW p l e rm_Chg_load s m args below meth c 3 A D cls 0 0 (MQ below (q_Chg_load D ad ca vD res A) args s 0 0 A) (wD ad ca vD ++ wC ad ca vC) [(0, .ref (ad 7)), (1, .ref (ad 1)), (2, .int y2)] 2 [] := by
  intro n
  induction n with
  | zero =>
    intro vC y2 hf
    exact absurd hf (by rw [f_Chg_load_2]; exact fun h => by cases h)
  | succ n ih =>
    intro vC y2 hf
    rw [f_Chg_load_2] at hf
    refine g_iload_n (pc := 2) Z 2 dX1_load_2 rfl ?_
    refine g_sipush (pc := 3) (v := 1024) Z dX1_load_3 (by decide) ?_
    refine g_icmp_ge (pc := 6) (tgt := 26) Z dX1_load_6 (by decide) (fun c1 => ?_) (fun c1 => ?_)
    · replace hf := gIfP c1 hf
      refine g_aload_n (pc := 26) Z 0 dX1_load_26 rfl ?_
      refine g_get (pc := 27) (v := .ref (ad 8)) (T := TX1) (N := 6) Z 5 0 dX1_load_27 (mm ww58) inx_X1 rfl (by decide) rfl rfl rfl ?_
      refine g_iconst (pc := 30) (v := 0) Z dX1_load_30 (by decide) ?_
      refine g_aload_n (pc := 31) Z 0 dX1_load_31 rfl ?_
      refine g_get (pc := 32) (v := .ref (ad 9)) (T := TX1) (N := 6) Z 5 1 dX1_load_32 (mm ww33) inx_X1 rfl (by decide) rfl rfl rfl ?_
      refine g_iconst (pc := 35) (v := 0) Z dX1_load_35 (by decide) ?_
      refine g_sipush (pc := 36) (v := 1024) Z dX1_load_36 (by decide) ?_
      refine g_copyl (pc := 39) (ws' := (wD ad ca vD ++ wC ad ca (vC.1, va_cpy vC.1 vC.2.1 (0 : Int32).toNatClampNeg (0 : Int32).toNatClampNeg (1024 : Int32).toNatClampNeg, vC.2.2.1, vC.2.2.2.1, vC.2.2.2.2.1, vC.2.2.2.2.2))) Z 6 7 0 0 dX1_load_39 (mm ww59) (mm ww22) (mm ww23) (mm ww24) rfl rfl rfl rfl (by decide) (by decide) (by decide) (by decide) (by decide) (Nat.le_of_ble_eq_true rfl) (by decide +kernel) rfl ?_
      obtain rfl := Option.some.inj hf
      exact g_vret Z hr dX1_load_42 (vC.1, va_cpy vC.1 vC.2.1 (0 : Int32).toNatClampNeg (0 : Int32).toNatClampNeg (1024 : Int32).toNatClampNeg, vC.2.2.1, vC.2.2.2.1, vC.2.2.2.2.1, vC.2.2.2.2.2) rfl rfl
    · replace hf := gIfN c1 hf
      refine g_aload_n (pc := 9) Z 0 dX1_load_9 rfl ?_
      refine g_get (pc := 10) (v := .ref (ad 8)) (T := TX1) (N := 6) Z 5 0 dX1_load_10 (mm ww58) inx_X1 rfl (by decide) rfl rfl rfl ?_
      refine g_iload_n (pc := 13) Z 2 dX1_load_13 rfl ?_
      refine g_aload_n (pc := 14) Z 1 dX1_load_14 rfl ?_
      refine g_iload_n (pc := 15) Z 2 dX1_load_15 rfl ?_
      obtain ⟨x2, h3, hf⟩ := Option.bind_eq_some_iff.mp hf
      refine g_calll (pc := 16) (ws2 := fun u => (wD ad ca vD ++ wC ad ca vC)) (wr := (wC ad ca vC)) Z [0, 1, 2, 3, 4] [5, 6, 7, 8, 9] [5, 6, 7, 8, 9, 0, 1, 2, 3, 4] (g_runV Z (c_Disk_read l D ad ca vD y2 x2 h3) (cwV 1 Z.2.2.2.2.1 (gg_V ww60 ww61 ww62 ww16 ww63) rfl rfl rfl (yv_of rfl yd_Disk_read) ⟨Nat.le_of_ble_eq_true rfl, Nat.le_of_ble_eq_true rfl⟩) [0, 1, 2, 3, 4] rfl (by decide) 0 rfl rfl rfl rfl rfl (Nat.le_of_ble_eq_true rfl) dX1_load_16 ⟨Nat.le_of_ble_eq_true rfl, Nat.le_of_ble_eq_true rfl⟩) rfl rfl (by decide) (by decide) (by decide) (fun _ => rfl) (fun r u hu => ?_)
      obtain rfl := hu.symm
      obtain ⟨b4, hf⟩ := gGuard hf
      refine g_last (pc := 19) (f := vC.1) (ws' := (wD ad ca vD ++ wC ad ca (vp_updL vC.1 y2.toNatClampNeg x2, vC.2.1, vC.2.2.1, vC.2.2.2.1, vC.2.2.2.2.1, vC.2.2.2.2.2))) Z 6 0 dX1_load_19 rfl rfl (gI_in b4) rfl ?_
      refine g_iinc (pc := 20) (v := y2 + (1 : Int32)) (lv' := [(2, .int (y2 + (1 : Int32))), (0, .ref (ad 7)), (1, .ref (ad 1))]) Z 2 dX1_load_20 rfl rfl (by decide) rfl ?_
      refine g_goto (pc := 23) (tgt := 2) Z dX1_load_23 (by decide) ?_
      refine g_locals (lv2 := [(0, .ref (ad 7)), (1, .ref (ad 1)), (2, .int (y2 + (1 : Int32)))]) [1, 2, 0] rfl ?_
      exact ih _ _ hf
set_option maxHeartbeats 4000000 in
set_option maxRecDepth 100000 in
theorem c_Chg_load (l : Launch) (D : va_G) (ad : Nat → Nat) (ca : Nat → ClassId) (N : Nat) (vD : DT) (vC : CT) (res : CT) (hf : f_Chg_load N vD vC = some res) (sz : Nat) : Met l yX1_load (cd_Chg_load :: gA) rm_Chg_load (va_Pc [.ref (ad 7), .ref (ad 1)] (gP D cls (tys ca) (wD ad ca vD ++ wC ad ca vC) sz)) (q_Chg_load D ad ca vD res (va_A (wD ad ca vD ++ wC ad ca vC) sz)) 0 0 (va_A (wD ad ca vD ++ wC ad ca vC) sz) := by
  refine g_met (cc := cX1_load) (Qc := q_Chg_load D ad ca vD res) (lv := [(0, .ref (ad 7)), (1, .ref (ad 1))]) (own := RX1) (by decide) rfl rfl (Nat.le_of_ble_eq_true rfl) rfl sz ?_
  intro p e s m args below meth c A Z hr hnm
  unfold f_Chg_load at hf
  refine g_iconst (pc := 0) (v := 0) Z dX1_load_0 (by decide) ?_
  refine g_istore_n (pc := 1) (lv' := [(2, .int (0 : Int32)), (0, .ref (ad 7)), (1, .ref (ad 1))]) Z dX1_load_1 (by decide) rfl ?_
  refine g_locals (lv2 := [(0, .ref (ad 7)), (1, .ref (ad 1)), (2, .int (0 : Int32))]) [1, 2, 0] rfl ?_
  exact w_Chg_load_2 Z hr N _ _ hf
