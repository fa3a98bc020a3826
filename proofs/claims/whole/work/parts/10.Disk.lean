theorem ww0 : Cond.fieldLink RX2 25 "RedoHeap$Disk" "on" "Z" ∈ gA := wt1 34 rfl rfl
/-! RedoHeap$Disk.isOn()Z -/
def f_Disk_isOn (vD : DT) : Option (Bool) :=
  some vD.2.2.2.2.2.1
abbrev cd_Disk_isOn : Cond := .code yX2_isOn cX2_isOn 1 (some .boolean)
theorem yd_Disk_isOn : yX2_isOn.cls ≠ "java/lang/invoke/MethodHandle" ∧ yX2_isOn.cls ≠ "java/lang/invoke/VarHandle" ∧ (parseMethodDescriptor yX2_isOn.desc).map (fun d => d.parameters.length) = some 0 := by decide +kernel
abbrev rm_Disk_isOn : Room := { frames := 0, cells := 0, slots := 0, locals := 0 }
abbrev q_Disk_isOn (D : va_G) (ad : Nat → Nat) (ca : Nat → ClassId) (vD : DT) (res : Bool) (A : Nat → Prop) : Array Value → State → Outcome → State → Prop := va_Qi (fun (r : Int32) (_ : Unit) => r = bI res) (gB D cls (tys ca) A (fun (u : Unit) => (wD ad ca vD))) A
set_option maxHeartbeats 4000000 in
set_option maxRecDepth 100000 in
theorem c_Disk_isOn (l : Launch) (D : va_G) (ad : Nat → Nat) (ca : Nat → ClassId) (vD : DT) (res : Bool) (hf : f_Disk_isOn vD = some res) (sz : Nat) : Met l yX2_isOn (cd_Disk_isOn :: gA) rm_Disk_isOn (va_Pc [.ref (ad 1)] (gP D cls (tys ca) (wD ad ca vD) sz)) (q_Disk_isOn D ad ca vD res (va_A (wD ad ca vD) sz)) 0 0 (va_A (wD ad ca vD) sz) := by
  refine g_met (cc := cX2_isOn) (Qc := q_Disk_isOn D ad ca vD res) (lv := [(0, .ref (ad 1))]) (own := RX2) (by decide) rfl rfl (Nat.le_of_ble_eq_true rfl) rfl sz ?_
  intro p e s m args below meth c A Z hr hnm
  unfold f_Disk_isOn at hf
  refine g_aload_n (pc := 0) Z 0 dX2_isOn_0 rfl ?_
  refine g_get (pc := 1) (v := .int (bI vD.2.2.2.2.2.1)) (T := TX2) (N := 12) Z 0 5 dX2_isOn_1 (mm ww0) inx_X2 rfl (by decide) rfl rfl rfl ?_
  obtain rfl := Option.some.inj hf
  exact g_zret Z hr (bI_nar vD.2.2.2.2.2.1) dX2_isOn_4 () rfl rfl
/-! RedoHeap.isWord(I)Z -/
def f_Heap_isWord (p1 : Int32) : Option (Bool) :=
  if p1 < 0 then some false else if (1024 : Int32) ≤ p1 then some false else some true
abbrev cd_Heap_isWord : Cond := .code yX4_isWord cX4_isWord 1 (some .boolean)
theorem yd_Heap_isWord : yX4_isWord.cls ≠ "java/lang/invoke/MethodHandle" ∧ yX4_isWord.cls ≠ "java/lang/invoke/VarHandle" ∧ (parseMethodDescriptor yX4_isWord.desc).map (fun d => d.parameters.length) = some 1 := by decide +kernel
abbrev rm_Heap_isWord : Room := { frames := 0, cells := 0, slots := 0, locals := 0 }
abbrev q_Heap_isWord (D : va_G) (ad : Nat → Nat) (ca : Nat → ClassId) (res : Bool) (A : Nat → Prop) : Array Value → State → Outcome → State → Prop := va_Qi (fun (r : Int32) (_ : Unit) => r = bI res) (gB D cls (tys ca) A (fun (u : Unit) => ([] : va_W))) A
set_option maxHeartbeats 4000000 in
set_option maxRecDepth 100000 in
theorem c_Heap_isWord (l : Launch) (D : va_G) (ad : Nat → Nat) (ca : Nat → ClassId) (p1 : Int32) (res : Bool) (hf : f_Heap_isWord p1 = some res) (sz : Nat) : Met l yX4_isWord (cd_Heap_isWord :: gA) rm_Heap_isWord (va_Pc [.int p1] (gP D cls (tys ca) ([] : va_W) sz)) (q_Heap_isWord D ad ca res (va_A ([] : va_W) sz)) 0 0 (va_A ([] : va_W) sz) := by
  refine g_met (cc := cX4_isWord) (Qc := q_Heap_isWord D ad ca res) (lv := [(0, .int p1)]) (own := RX4) (by decide) rfl rfl (Nat.le_of_ble_eq_true rfl) rfl sz ?_
  intro p e s m args below meth c A Z hr hnm
  unfold f_Heap_isWord at hf
  refine g_iload_n (pc := 0) Z 0 dX4_isWord_0 rfl ?_
  refine g_if_lt (pc := 1) (tgt := 15) Z dX4_isWord_1 (by decide) (fun c1 => ?_) (fun c1 => ?_)
  · replace hf := gIfP c1 hf
    refine g_iconst (pc := 15) (v := 0) Z dX4_isWord_15 (by decide) ?_
    obtain rfl := Option.some.inj hf
    exact g_zret Z hr rfl dX4_isWord_16 () rfl rfl
  · replace hf := gIfN c1 hf
    refine g_iload_n (pc := 4) Z 0 dX4_isWord_4 rfl ?_
    refine g_sipush (pc := 5) (v := 1024) Z dX4_isWord_5 (by decide) ?_
    refine g_icmp_ge (pc := 8) (tgt := 15) Z dX4_isWord_8 (by decide) (fun c2 => ?_) (fun c2 => ?_)
    · replace hf := gIfP c2 hf
      refine g_iconst (pc := 15) (v := 0) Z dX4_isWord_15 (by decide) ?_
      obtain rfl := Option.some.inj hf
      exact g_zret Z hr rfl dX4_isWord_16 () rfl rfl
    · replace hf := gIfN c2 hf
      refine g_iconst (pc := 11) (v := 1) Z dX4_isWord_11 (by decide) ?_
      refine g_goto (pc := 12) (tgt := 16) Z dX4_isWord_12 (by decide) ?_
      obtain rfl := Option.some.inj hf
      exact g_zret Z hr rfl dX4_isWord_16 () rfl rfl
theorem ww1 : cd_Heap_isWord ∈ gA := wt2 44 rfl rfl
theorem ww2 : Cond.initialized RX4 ∈ gA := wt1 1 rfl rfl
theorem ww3 : Cond.static yX4_isWord ∈ gA := wt2 43 rfl rfl
theorem ww4 : Cond.fieldLink RX2 15 "RedoHeap$Disk" "latest" "[J" ∈ gA := wt1 30 rfl rfl
/-! RedoHeap$Disk.read(I)J -/
def f_Disk_read (vD : DT) (p1 : Int32) : Option (Int64) :=
  (f_Heap_isWord p1).bind fun x1 => if x1 = true then if gI p1 1024 = true then some (vD.2.1 p1.toNatClampNeg) else none else some (0 : Int64)
abbrev cd_Disk_read : Cond := .code yX2_read cX2_read 2 (some .long)
theorem yd_Disk_read : yX2_read.cls ≠ "java/lang/invoke/MethodHandle" ∧ yX2_read.cls ≠ "java/lang/invoke/VarHandle" ∧ (parseMethodDescriptor yX2_read.desc).map (fun d => d.parameters.length) = some 1 := by decide +kernel
abbrev rm_Disk_read : Room := { frames := 1, cells := 0, slots := 0, locals := 20 }
abbrev q_Disk_read (D : va_G) (ad : Nat → Nat) (ca : Nat → ClassId) (vD : DT) (res : Int64) (A : Nat → Prop) : Array Value → State → Outcome → State → Prop := va_Ql (fun (r : Int64) (_ : Unit) => r = res) (gB D cls (tys ca) A (fun (u : Unit) => (wD ad ca vD))) A
set_option maxHeartbeats 4000000 in
set_option maxRecDepth 100000 in
theorem c_Disk_read (l : Launch) (D : va_G) (ad : Nat → Nat) (ca : Nat → ClassId) (vD : DT) (p1 : Int32) (res : Int64) (hf : f_Disk_read vD p1 = some res) (sz : Nat) : Met l yX2_read (cd_Disk_read :: gA) rm_Disk_read (va_Pc [.ref (ad 1), .int p1] (gP D cls (tys ca) (wD ad ca vD) sz)) (q_Disk_read D ad ca vD res (va_A (wD ad ca vD) sz)) 0 0 (va_A (wD ad ca vD) sz) := by
  refine g_met (cc := cX2_read) (Qc := q_Disk_read D ad ca vD res) (lv := [(0, .ref (ad 1)), (1, .int p1)]) (own := RX2) (by decide) rfl rfl (Nat.le_of_ble_eq_true rfl) rfl sz ?_
  intro p e s m args below meth c A Z hr hnm
  unfold f_Disk_read at hf
  refine g_iload_n (pc := 0) Z 1 dX2_read_0 rfl ?_
  obtain ⟨x1, h2, hf⟩ := Option.bind_eq_some_iff.mp hf
  refine g_calli (pc := 1) (ws2 := fun u => (wD ad ca vD)) (wr := (wD ad ca vD)) Z [] [0, 1, 2, 3, 4] [0, 1, 2, 3, 4] (g_runSN Z (c_Heap_isWord l D ad ca p1 x1 h2) ⟨va_cnB 1 Z.2.2.2.2.1 (gg_C ww1) rfl rfl rfl Z.2.2.2.2.2.2.2.2.2.2.2.1 (Z.2.2.2.2.1 _ (mm ww2)) yd_Heap_isWord ⟨Nat.le_of_ble_eq_true rfl, Nat.le_of_ble_eq_true rfl⟩, Z.2.2.2.2.1 _ (mm ww3), trivial⟩ [] rfl (by decide) rfl rfl (Nat.le_of_ble_eq_true rfl) dX2_read_1 ⟨Nat.le_of_ble_eq_true rfl, Nat.le_of_ble_eq_true rfl⟩) rfl rfl (by decide) (by decide) (by decide) (fun _ => rfl) (fun r u hu => ?_)
  obtain rfl := hu.symm
  refine g_if_eq (pc := 4) (tgt := 16) Z dX2_read_4 (by decide) (fun c3 => ?_) (fun c3 => ?_)
  · replace hf := gIfN (bI_z c3) hf
    refine g_lconst (pc := 16) (v := 0) Z dX2_read_16 (by decide) ?_
    obtain rfl := Option.some.inj hf
    exact g_lret Z hr dX2_read_17 () rfl rfl
  · replace hf := gIfP (bI_nz c3) hf
    refine g_aload_n (pc := 7) Z 0 dX2_read_7 rfl ?_
    refine g_get (pc := 8) (v := .ref (ad 3)) (T := TX2) (N := 12) Z 0 1 dX2_read_8 (mm ww4) inx_X2 rfl (by decide) rfl rfl rfl ?_
    refine g_iload_n (pc := 11) Z 1 dX2_read_11 rfl ?_
    obtain ⟨b4, hf⟩ := gGuard hf
    refine g_lald (pc := 12) (f := vD.2.1) Z 2 0 dX2_read_12 rfl rfl (gI_in b4) ?_
    refine g_goto (pc := 13) (tgt := 17) Z dX2_read_13 (by decide) ?_
    obtain rfl := Option.some.inj hf
    exact g_lret Z hr dX2_read_17 () rfl rfl
theorem ww5 : Cond.fieldLink RX2 18 "RedoHeap$Disk" "waitingPlace" "[I" ∈ gA := wt1 31 rfl rfl
theorem ww6 : Cond.fieldLink RX2 9 "RedoHeap$Disk" "settled" "[J" ∈ gA := wt1 29 rfl rfl
theorem ww7 : Cond.fieldLink RX2 22 "RedoHeap$Disk" "waitingValue" "[J" ∈ gA := wt1 32 rfl rfl
/-! RedoHeap$Disk.settleFirst(I)V -/
def f_Disk_settleFirst_2 (N : Nat) : Nat → DT → Int32 → Int32 → Option (DT)
  | 0, _, _, _ => none
  | n + 1, vD, y1, y2 => if y1 ≤ y2 then some vD else if (320 : Int32) ≤ y2 then some vD else if gI y2 320 = true then (f_Heap_isWord (vD.2.2.1 y2.toNatClampNeg)).bind fun x4 => if x4 = true then if gI y2 320 = true then if gI (vD.2.2.1 y2.toNatClampNeg) 1024 = true then f_Disk_settleFirst_2 N n (vp_updL vD.1 (vD.2.2.1 y2.toNatClampNeg).toNatClampNeg (vD.2.2.2.1 y2.toNatClampNeg), vD.2.1, vD.2.2.1, vD.2.2.2.1, vD.2.2.2.2.1, vD.2.2.2.2.2.1, vD.2.2.2.2.2.2.1, vD.2.2.2.2.2.2.2.1, vD.2.2.2.2.2.2.2.2.1, vD.2.2.2.2.2.2.2.2.2.1, vD.2.2.2.2.2.2.2.2.2.2.1, vD.2.2.2.2.2.2.2.2.2.2.2) y1 (y2 + (1 : Int32)) else none else none else f_Disk_settleFirst_2 N n vD y1 (y2 + (1 : Int32)) else none
def f_Disk_settleFirst (N : Nat) (vD : DT) (p1 : Int32) : Option (DT) :=
  f_Disk_settleFirst_2 N N vD p1 (0 : Int32)
abbrev cd_Disk_settleFirst : Cond := .code yX2_settleFirst cX2_settleFirst 4 none
theorem yd_Disk_settleFirst : yX2_settleFirst.cls ≠ "java/lang/invoke/MethodHandle" ∧ yX2_settleFirst.cls ≠ "java/lang/invoke/VarHandle" ∧ (parseMethodDescriptor yX2_settleFirst.desc).map (fun d => d.parameters.length) = some 1 := by decide +kernel
abbrev rm_Disk_settleFirst : Room := { frames := 1, cells := 0, slots := 0, locals := 20 }
abbrev q_Disk_settleFirst (D : va_G) (ad : Nat → Nat) (ca : Nat → ClassId) (res : DT) (A : Nat → Prop) : Array Value → State → Outcome → State → Prop := va_Qv (fun (u : DT) => u = res) (gB D cls (tys ca) A (fun (u : DT) => (wD ad ca u))) A
set_option maxHeartbeats 4000000 in
set_option maxRecDepth 100000 in
theorem w_Disk_settleFirst_2 {p : Program} {l : Launch} {e : Env} {s : State} {m : MethodId} {args : Array Value} {below : List Frame} {meth : Method} {c : Code} {D : va_G} {ad : Nat → Nat} {ca : Nat → ClassId} {A : Nat → Prop} {N : Nat} {res : DT} (Z : gZ p s m args meth c cX2_settleFirst 4 RX2 (cd_Disk_settleFirst :: gA) A D cls (tys ca)) (hr : meth.sig.returnType = none) : ∀ (n : Nat) (vD : DT) (y1 : Int32) (y2 : Int32), f_Disk_settleFirst_2 N n vD y1 y2 = some res → gW p l e rm_Disk_settleFirst s m args below meth c 4 A D cls 0 0 (MQ below (q_Disk_settleFirst D ad ca res A) args s 0 0 A) (wD ad ca vD) [(0, .ref (ad 1)), (1, .int y1), (2, .int y2)] 2 [] := by
  intro n
  induction n with
  | zero =>
    intro vD y1 y2 hf
    exact absurd hf (by rw [f_Disk_settleFirst_2]; exact fun h => by cases h)
  | succ n ih =>
    intro vD y1 y2 hf
    rw [f_Disk_settleFirst_2] at hf
    refine g_iload_n (pc := 2) Z 2 dX2_settleFirst_2 rfl ?_
    refine g_iload_n (pc := 3) Z 1 dX2_settleFirst_3 rfl ?_
    refine g_icmp_ge (pc := 4) (tgt := 46) Z dX2_settleFirst_4 (by decide) (fun c1 => ?_) (fun c1 => ?_)
    · replace hf := gIfP c1 hf
      obtain rfl := Option.some.inj hf
      exact g_vret Z hr dX2_settleFirst_46 vD rfl rfl
    · replace hf := gIfN c1 hf
      refine g_iload_n (pc := 7) Z 2 dX2_settleFirst_7 rfl ?_
      refine g_sipush (pc := 8) (v := 320) Z dX2_settleFirst_8 (by decide) ?_
      refine g_icmp_ge (pc := 11) (tgt := 46) Z dX2_settleFirst_11 (by decide) (fun c2 => ?_) (fun c2 => ?_)
      · replace hf := gIfP c2 hf
        obtain rfl := Option.some.inj hf
        exact g_vret Z hr dX2_settleFirst_46 vD rfl rfl
      · replace hf := gIfN c2 hf
        refine g_aload_n (pc := 14) Z 0 dX2_settleFirst_14 rfl ?_
        refine g_get (pc := 15) (v := .ref (ad 4)) (T := TX2) (N := 12) Z 0 2 dX2_settleFirst_15 (mm ww5) inx_X2 rfl (by decide) rfl rfl rfl ?_
        refine g_iload_n (pc := 18) Z 2 dX2_settleFirst_18 rfl ?_
        obtain ⟨b3, hf⟩ := gGuard hf
        refine g_iald (pc := 19) (f := vD.2.2.1) Z 3 1 dX2_settleFirst_19 rfl rfl (gI_in b3) ?_
        refine g_istore_n (pc := 20) (lv' := [(3, .int (vD.2.2.1 y2.toNatClampNeg)), (0, .ref (ad 1)), (1, .int y1), (2, .int y2)]) Z dX2_settleFirst_20 (by decide) rfl ?_
        refine g_iload_n (pc := 21) Z 0 dX2_settleFirst_21 rfl ?_
        obtain ⟨x4, h5, hf⟩ := Option.bind_eq_some_iff.mp hf
        refine g_calli (pc := 22) (ws2 := fun u => (wD ad ca vD)) (wr := (wD ad ca vD)) Z [] [0, 1, 2, 3, 4] [0, 1, 2, 3, 4] (g_runSN Z (c_Heap_isWord l D ad ca (vD.2.2.1 y2.toNatClampNeg) x4 h5) ⟨va_cnB 1 Z.2.2.2.2.1 (gg_C ww1) rfl rfl rfl Z.2.2.2.2.2.2.2.2.2.2.2.1 (Z.2.2.2.2.1 _ (mm ww2)) yd_Heap_isWord ⟨Nat.le_of_ble_eq_true rfl, Nat.le_of_ble_eq_true rfl⟩, Z.2.2.2.2.1 _ (mm ww3), trivial⟩ [] rfl (by decide) rfl rfl (Nat.le_of_ble_eq_true rfl) dX2_settleFirst_22 ⟨Nat.le_of_ble_eq_true rfl, Nat.le_of_ble_eq_true rfl⟩) rfl rfl (by decide) (by decide) (by decide) (fun _ => rfl) (fun r u hu => ?_)
        obtain rfl := hu.symm
        refine g_if_eq (pc := 25) (tgt := 40) Z dX2_settleFirst_25 (by decide) (fun c6 => ?_) (fun c6 => ?_)
        · replace hf := gIfN (bI_z c6) hf
          refine g_iinc (pc := 40) (v := y2 + (1 : Int32)) (lv' := [(2, .int (y2 + (1 : Int32))), (3, .int (vD.2.2.1 y2.toNatClampNeg)), (0, .ref (ad 1)), (1, .int y1)]) Z 3 dX2_settleFirst_40 rfl rfl (by decide) rfl ?_
          refine g_goto (pc := 43) (tgt := 2) Z dX2_settleFirst_43 (by decide) ?_
          refine g_locals (lv2 := [(0, .ref (ad 1)), (1, .int y1), (2, .int (y2 + (1 : Int32)))]) [2, 3, 0] rfl ?_
          exact ih _ _ _ hf
        · replace hf := gIfP (bI_nz c6) hf
          refine g_aload_n (pc := 28) Z 1 dX2_settleFirst_28 rfl ?_
          refine g_get (pc := 29) (v := .ref (ad 2)) (T := TX2) (N := 12) Z 0 0 dX2_settleFirst_29 (mm ww6) inx_X2 rfl (by decide) rfl rfl rfl ?_
          refine g_iload_n (pc := 32) Z 0 dX2_settleFirst_32 rfl ?_
          refine g_aload_n (pc := 33) Z 1 dX2_settleFirst_33 rfl ?_
          refine g_get (pc := 34) (v := .ref (ad 5)) (T := TX2) (N := 12) Z 0 3 dX2_settleFirst_34 (mm ww7) inx_X2 rfl (by decide) rfl rfl rfl ?_
          refine g_iload_n (pc := 37) Z 3 dX2_settleFirst_37 rfl ?_
          obtain ⟨b7, hf⟩ := gGuard hf
          refine g_lald (pc := 38) (f := vD.2.2.2.1) Z 4 0 dX2_settleFirst_38 rfl rfl (gI_in b7) ?_
          obtain ⟨b8, hf⟩ := gGuard hf
          refine g_last (pc := 39) (f := vD.1) (ws' := (wD ad ca (vp_updL vD.1 (vD.2.2.1 y2.toNatClampNeg).toNatClampNeg (vD.2.2.2.1 y2.toNatClampNeg), vD.2.1, vD.2.2.1, vD.2.2.2.1, vD.2.2.2.2.1, vD.2.2.2.2.2.1, vD.2.2.2.2.2.2.1, vD.2.2.2.2.2.2.2.1, vD.2.2.2.2.2.2.2.2.1, vD.2.2.2.2.2.2.2.2.2.1, vD.2.2.2.2.2.2.2.2.2.2.1, vD.2.2.2.2.2.2.2.2.2.2.2))) Z 1 0 dX2_settleFirst_39 rfl rfl (gI_in b8) rfl ?_
          refine g_iinc (pc := 40) (v := y2 + (1 : Int32)) (lv' := [(2, .int (y2 + (1 : Int32))), (3, .int (vD.2.2.1 y2.toNatClampNeg)), (0, .ref (ad 1)), (1, .int y1)]) Z 3 dX2_settleFirst_40 rfl rfl (by decide) rfl ?_
          refine g_goto (pc := 43) (tgt := 2) Z dX2_settleFirst_43 (by decide) ?_
          refine g_locals (lv2 := [(0, .ref (ad 1)), (1, .int y1), (2, .int (y2 + (1 : Int32)))]) [2, 3, 0] rfl ?_
          exact ih _ _ _ hf
set_option maxHeartbeats 4000000 in
set_option maxRecDepth 100000 in
theorem c_Disk_settleFirst (l : Launch) (D : va_G) (ad : Nat → Nat) (ca : Nat → ClassId) (N : Nat) (vD : DT) (p1 : Int32) (res : DT) (hf : f_Disk_settleFirst N vD p1 = some res) (sz : Nat) : Met l yX2_settleFirst (cd_Disk_settleFirst :: gA) rm_Disk_settleFirst (va_Pc [.ref (ad 1), .int p1] (gP D cls (tys ca) (wD ad ca vD) sz)) (q_Disk_settleFirst D ad ca res (va_A (wD ad ca vD) sz)) 0 0 (va_A (wD ad ca vD) sz) := by
  refine g_met (cc := cX2_settleFirst) (Qc := q_Disk_settleFirst D ad ca res) (lv := [(0, .ref (ad 1)), (1, .int p1)]) (own := RX2) (by decide) rfl rfl (Nat.le_of_ble_eq_true rfl) rfl sz ?_
  intro p e s m args below meth c A Z hr hnm
  unfold f_Disk_settleFirst at hf
  refine g_iconst (pc := 0) (v := 0) Z dX2_settleFirst_0 (by decide) ?_
  refine g_istore_n (pc := 1) (lv' := [(2, .int (0 : Int32)), (0, .ref (ad 1)), (1, .int p1)]) Z dX2_settleFirst_1 (by decide) rfl ?_
  refine g_locals (lv2 := [(0, .ref (ad 1)), (1, .int p1), (2, .int (0 : Int32))]) [1, 2, 0] rfl ?_
  exact w_Disk_settleFirst_2 Z hr N _ _ _ hf
theorem ww8 : Cond.fieldLink RX2 29 "RedoHeap$Disk" "waiting" "I" ∈ gA := wt1 33 rfl rfl
theorem ww9 : Cond.methodLink RX2 62 Lib.Math.min.name ∈ gA := wt2 195 rfl rfl
theorem ww10 : Cond.static Lib.Math.min.name ∈ gA := wt2 196 rfl rfl
theorem ww11 : Cond.initialized "java/lang/Math" ∈ gA := wt1 12 rfl rfl
theorem ww12 : Cond.code Lib.Math.min.name Lib.Math.min.code 2 (some .int) ∈ gA := wt2 197 rfl rfl
theorem ww13 : Cond.methodLink RX2 59 yX2_settleFirst ∈ gA := wt2 198 rfl rfl
theorem ww14 : Cond.instanceMethod yX2_settleFirst ∈ gA := wt2 200 rfl rfl
theorem ww15 : Cond.selects RX2 yX2_settleFirst yX2_settleFirst ∈ gA := wtS 13 rfl rfl
theorem ww16 : Cond.initialized RX2 ∈ gA := wt1 2 rfl rfl
theorem ww17 : cd_Disk_settleFirst ∈ gA := wt2 201 rfl rfl
theorem ww18 : Cond.fieldLink RX2 42 "RedoHeap$Disk" "lost" "I" ∈ gA := wt1 40 rfl rfl
theorem ww19 : Cond.fieldLink RX2 49 "RedoHeap$Disk" "writesLeft" "I" ∈ gA := wt1 35 rfl rfl
theorem ww20 : Cond.fieldLink RX2 39 "RedoHeap$Disk" "failures" "I" ∈ gA := wt1 39 rfl rfl
theorem ww21 : Cond.methodLink RX2 68 arraycopyName ∈ gA := wt2 202 rfl rfl
theorem ww22 : Cond.native arraycopyName ∈ gA := wt2 204 rfl rfl
theorem ww23 : Cond.static arraycopyName ∈ gA := wt2 203 rfl rfl
theorem ww24 : Cond.initialized "java/lang/System" ∈ gA := wt1 13 rfl rfl
/-! RedoHeap$Disk.losePower(I)V -/
def f_Disk_losePower (N : Nat) (vD : DT) (p1 : Int32) : Option (DT) :=
  (f_Disk_settleFirst N vD (if vD.2.2.2.2.1 < p1 then vD.2.2.2.2.1 else p1)).bind fun x1 => some (x1.1, va_cpy x1.1 x1.2.1 (0 : Int32).toNatClampNeg (0 : Int32).toNatClampNeg (1024 : Int32).toNatClampNeg, x1.2.2.1, x1.2.2.2.1, (0 : Int32), false, (0 : Int32), x1.2.2.2.2.2.2.2.1, x1.2.2.2.2.2.2.2.2.1, x1.2.2.2.2.2.2.2.2.2.1, x1.2.2.2.2.2.2.2.2.2.2.1 + (1 : Int32), x1.2.2.2.2.2.2.2.2.2.2.2 + (x1.2.2.2.2.1 - (if vD.2.2.2.2.1 < p1 then vD.2.2.2.2.1 else p1)))
abbrev cd_Disk_losePower : Cond := .code yX2_losePower cX2_losePower 3 none
theorem yd_Disk_losePower : yX2_losePower.cls ≠ "java/lang/invoke/MethodHandle" ∧ yX2_losePower.cls ≠ "java/lang/invoke/VarHandle" ∧ (parseMethodDescriptor yX2_losePower.desc).map (fun d => d.parameters.length) = some 1 := by decide +kernel
abbrev rm_Disk_losePower : Room := { frames := 2, cells := 0, slots := 0, locals := 60 }
abbrev q_Disk_losePower (D : va_G) (ad : Nat → Nat) (ca : Nat → ClassId) (res : DT) (A : Nat → Prop) : Array Value → State → Outcome → State → Prop := va_Qv (fun (u : DT) => u = res) (gB D cls (tys ca) A (fun (u : DT) => (wD ad ca u))) A
set_option maxHeartbeats 4000000 in
set_option maxRecDepth 100000 in
theorem c_Disk_losePower (l : Launch) (D : va_G) (ad : Nat → Nat) (ca : Nat → ClassId) (N : Nat) (vD : DT) (p1 : Int32) (res : DT) (hf : f_Disk_losePower N vD p1 = some res) (sz : Nat) : Met l yX2_losePower (cd_Disk_losePower :: gA) rm_Disk_losePower (va_Pc [.ref (ad 1), .int p1] (gP D cls (tys ca) (wD ad ca vD) sz)) (q_Disk_losePower D ad ca res (va_A (wD ad ca vD) sz)) 0 0 (va_A (wD ad ca vD) sz) := by
  refine g_met (cc := cX2_losePower) (Qc := q_Disk_losePower D ad ca res) (lv := [(0, .ref (ad 1)), (1, .int p1)]) (own := RX2) (by decide) rfl rfl (Nat.le_of_ble_eq_true rfl) rfl sz ?_
  intro p e s m args below meth c A Z hr hnm
  unfold f_Disk_losePower at hf
  refine g_iload_n (pc := 0) Z 1 dX2_losePower_0 rfl ?_
  refine g_aload_n (pc := 1) Z 0 dX2_losePower_1 rfl ?_
  refine g_get (pc := 2) (v := .int vD.2.2.2.2.1) (T := TX2) (N := 12) Z 0 4 dX2_losePower_2 (mm ww8) inx_X2 rfl (by decide) rfl rfl rfl ?_
  refine g_mmin (pc := 5) Z dX2_losePower_5 (mm ww9) (mm ww10) (mm ww11) (mm ww12) (Nat.le_of_ble_eq_true rfl) (Nat.le_of_ble_eq_true rfl) (Nat.zero_le _) (Nat.zero_le _) ?_
  refine g_istore_n (pc := 8) (lv' := [(2, .int (if vD.2.2.2.2.1 < p1 then vD.2.2.2.2.1 else p1)), (0, .ref (ad 1)), (1, .int p1)]) Z dX2_losePower_8 (by decide) rfl ?_
  refine g_aload_n (pc := 9) Z 1 dX2_losePower_9 rfl ?_
  refine g_iload_n (pc := 10) Z 0 dX2_losePower_10 rfl ?_
  obtain ⟨x1, h2, hf⟩ := Option.bind_eq_some_iff.mp hf
  refine g_callv (pc := 11) (ws2 := fun u => (wD ad ca u)) (wr := ([] : va_W)) Z [0, 1, 2, 3, 4] [] [0, 1, 2, 3, 4] (g_runV Z (c_Disk_settleFirst l D ad ca N vD (if vD.2.2.2.2.1 < p1 then vD.2.2.2.2.1 else p1) x1 h2) (cwV 1 Z.2.2.2.2.1 (gg_V ww13 ww14 ww15 ww16 ww17) rfl rfl rfl (yv_of rfl yd_Disk_settleFirst) ⟨Nat.le_of_ble_eq_true rfl, Nat.le_of_ble_eq_true rfl⟩) [0, 1, 2, 3, 4] rfl (by decide) 0 rfl rfl rfl rfl rfl (Nat.le_of_ble_eq_true rfl) dX2_losePower_11 ⟨Nat.le_of_ble_eq_true rfl, Nat.le_of_ble_eq_true rfl⟩) rfl rfl (by decide) (by decide) (by decide) (fun _ => rfl) (fun u hu => ?_)
  obtain rfl := hu.symm
  refine g_aload_n (pc := 14) Z 1 dX2_losePower_14 rfl ?_
  refine g_dup (pc := 15) Z dX2_losePower_15 rfl ?_
  refine g_get (pc := 16) (v := .int x1.2.2.2.2.2.2.2.2.2.2.2) (T := TX2) (N := 12) Z 0 11 dX2_losePower_16 (mm ww18) inx_X2 rfl (by decide) rfl rfl rfl ?_
  refine g_aload_n (pc := 19) Z 1 dX2_losePower_19 rfl ?_
  refine g_get (pc := 20) (v := .int x1.2.2.2.2.1) (T := TX2) (N := 12) Z 0 4 dX2_losePower_20 (mm ww8) inx_X2 rfl (by decide) rfl rfl rfl ?_
  refine g_iload_n (pc := 23) Z 0 dX2_losePower_23 rfl ?_
  refine g_isub (pc := 24) Z dX2_losePower_24 ?_
  refine g_iadd (pc := 25) Z dX2_losePower_25 ?_
  refine g_put (pc := 26) (T := TX2) (N := 12) (ws' := (wD ad ca (x1.1, x1.2.1, x1.2.2.1, x1.2.2.2.1, x1.2.2.2.2.1, x1.2.2.2.2.2.1, x1.2.2.2.2.2.2.1, x1.2.2.2.2.2.2.2.1, x1.2.2.2.2.2.2.2.2.1, x1.2.2.2.2.2.2.2.2.2.1, x1.2.2.2.2.2.2.2.2.2.2.1, x1.2.2.2.2.2.2.2.2.2.2.2 + (x1.2.2.2.2.1 - (if vD.2.2.2.2.1 < p1 then vD.2.2.2.2.1 else p1))))) Z 0 11 dX2_losePower_26 (mm ww18) inx_X2 tyX2_ok nmX2 rfl (by decide) rfl rfl rfl rfl rfl rfl (Nat.le_of_ble_eq_true rfl) rfl ?_
  refine g_aload_n (pc := 29) Z 1 dX2_losePower_29 rfl ?_
  refine g_iconst (pc := 30) (v := 0) Z dX2_losePower_30 (by decide) ?_
  refine g_put (pc := 31) (T := TX2) (N := 12) (ws' := (wD ad ca (x1.1, x1.2.1, x1.2.2.1, x1.2.2.2.1, (0 : Int32), x1.2.2.2.2.2.1, x1.2.2.2.2.2.2.1, x1.2.2.2.2.2.2.2.1, x1.2.2.2.2.2.2.2.2.1, x1.2.2.2.2.2.2.2.2.2.1, x1.2.2.2.2.2.2.2.2.2.2.1, x1.2.2.2.2.2.2.2.2.2.2.2 + (x1.2.2.2.2.1 - (if vD.2.2.2.2.1 < p1 then vD.2.2.2.2.1 else p1))))) Z 0 4 dX2_losePower_31 (mm ww8) inx_X2 tyX2_ok nmX2 rfl (by decide) rfl rfl rfl rfl rfl rfl (Nat.le_of_ble_eq_true rfl) rfl ?_
  refine g_aload_n (pc := 34) Z 1 dX2_losePower_34 rfl ?_
  refine g_iconst (pc := 35) (v := 0) Z dX2_losePower_35 (by decide) ?_
  refine g_put (pc := 36) (T := TX2) (N := 12) (ws' := (wD ad ca (x1.1, x1.2.1, x1.2.2.1, x1.2.2.2.1, (0 : Int32), x1.2.2.2.2.2.1, (0 : Int32), x1.2.2.2.2.2.2.2.1, x1.2.2.2.2.2.2.2.2.1, x1.2.2.2.2.2.2.2.2.2.1, x1.2.2.2.2.2.2.2.2.2.2.1, x1.2.2.2.2.2.2.2.2.2.2.2 + (x1.2.2.2.2.1 - (if vD.2.2.2.2.1 < p1 then vD.2.2.2.2.1 else p1))))) Z 0 6 dX2_losePower_36 (mm ww19) inx_X2 tyX2_ok nmX2 rfl (by decide) rfl rfl rfl rfl rfl rfl (Nat.le_of_ble_eq_true rfl) rfl ?_
  refine g_aload_n (pc := 39) Z 1 dX2_losePower_39 rfl ?_
  refine g_iconst (pc := 40) (v := 0) Z dX2_losePower_40 (by decide) ?_
  refine g_put (pc := 41) (T := TX2) (N := 12) (ws' := (wD ad ca (x1.1, x1.2.1, x1.2.2.1, x1.2.2.2.1, (0 : Int32), false, (0 : Int32), x1.2.2.2.2.2.2.2.1, x1.2.2.2.2.2.2.2.2.1, x1.2.2.2.2.2.2.2.2.2.1, x1.2.2.2.2.2.2.2.2.2.2.1, x1.2.2.2.2.2.2.2.2.2.2.2 + (x1.2.2.2.2.1 - (if vD.2.2.2.2.1 < p1 then vD.2.2.2.2.1 else p1))))) Z 0 5 dX2_losePower_41 (mm ww0) inx_X2 tyX2_ok nmX2 rfl (by decide) rfl rfl rfl rfl rfl rfl (Nat.le_of_ble_eq_true rfl) rfl ?_
  refine g_aload_n (pc := 44) Z 1 dX2_losePower_44 rfl ?_
  refine g_dup (pc := 45) Z dX2_losePower_45 rfl ?_
  refine g_get (pc := 46) (v := .int x1.2.2.2.2.2.2.2.2.2.2.1) (T := TX2) (N := 12) Z 0 10 dX2_losePower_46 (mm ww20) inx_X2 rfl (by decide) rfl rfl rfl ?_
  refine g_iconst (pc := 49) (v := 1) Z dX2_losePower_49 (by decide) ?_
  refine g_iadd (pc := 50) Z dX2_losePower_50 ?_
  refine g_put (pc := 51) (T := TX2) (N := 12) (ws' := (wD ad ca (x1.1, x1.2.1, x1.2.2.1, x1.2.2.2.1, (0 : Int32), false, (0 : Int32), x1.2.2.2.2.2.2.2.1, x1.2.2.2.2.2.2.2.2.1, x1.2.2.2.2.2.2.2.2.2.1, x1.2.2.2.2.2.2.2.2.2.2.1 + (1 : Int32), x1.2.2.2.2.2.2.2.2.2.2.2 + (x1.2.2.2.2.1 - (if vD.2.2.2.2.1 < p1 then vD.2.2.2.2.1 else p1))))) Z 0 10 dX2_losePower_51 (mm ww20) inx_X2 tyX2_ok nmX2 rfl (by decide) rfl rfl rfl rfl rfl rfl (Nat.le_of_ble_eq_true rfl) rfl ?_
  refine g_aload_n (pc := 54) Z 1 dX2_losePower_54 rfl ?_
  refine g_get (pc := 55) (v := .ref (ad 2)) (T := TX2) (N := 12) Z 0 0 dX2_losePower_55 (mm ww6) inx_X2 rfl (by decide) rfl rfl rfl ?_
  refine g_iconst (pc := 58) (v := 0) Z dX2_losePower_58 (by decide) ?_
  refine g_aload_n (pc := 59) Z 1 dX2_losePower_59 rfl ?_
  refine g_get (pc := 60) (v := .ref (ad 3)) (T := TX2) (N := 12) Z 0 1 dX2_losePower_60 (mm ww4) inx_X2 rfl (by decide) rfl rfl rfl ?_
  refine g_iconst (pc := 63) (v := 0) Z dX2_losePower_63 (by decide) ?_
  refine g_sipush (pc := 64) (v := 1024) Z dX2_losePower_64 (by decide) ?_
  refine g_copyl (pc := 67) (ws' := (wD ad ca (x1.1, va_cpy x1.1 x1.2.1 (0 : Int32).toNatClampNeg (0 : Int32).toNatClampNeg (1024 : Int32).toNatClampNeg, x1.2.2.1, x1.2.2.2.1, (0 : Int32), false, (0 : Int32), x1.2.2.2.2.2.2.2.1, x1.2.2.2.2.2.2.2.2.1, x1.2.2.2.2.2.2.2.2.2.1, x1.2.2.2.2.2.2.2.2.2.2.1 + (1 : Int32), x1.2.2.2.2.2.2.2.2.2.2.2 + (x1.2.2.2.2.1 - (if vD.2.2.2.2.1 < p1 then vD.2.2.2.2.1 else p1))))) Z 1 2 0 0 dX2_losePower_67 (mm ww21) (mm ww22) (mm ww23) (mm ww24) rfl rfl rfl rfl (by decide) (by decide) (by decide) (by decide) (by decide) (Nat.le_of_ble_eq_true rfl) (by decide +kernel) rfl ?_
  obtain rfl := Option.some.inj hf
  exact g_vret Z hr dX2_losePower_70 (x1.1, va_cpy x1.1 x1.2.1 (0 : Int32).toNatClampNeg (0 : Int32).toNatClampNeg (1024 : Int32).toNatClampNeg, x1.2.2.1, x1.2.2.2.1, (0 : Int32), false, (0 : Int32), x1.2.2.2.2.2.2.2.1, x1.2.2.2.2.2.2.2.2.1, x1.2.2.2.2.2.2.2.2.2.1, x1.2.2.2.2.2.2.2.2.2.2.1 + (1 : Int32), x1.2.2.2.2.2.2.2.2.2.2.2 + (x1.2.2.2.2.1 - (if vD.2.2.2.2.1 < p1 then vD.2.2.2.2.1 else p1))) rfl rfl
theorem ww25 : Cond.fieldLink RX2 33 "RedoHeap$Disk" "writes" "I" ∈ gA := wt1 37 rfl rfl
theorem ww26 : Cond.fieldLink RX2 52 "RedoHeap$Disk" "keepsThen" "I" ∈ gA := wt1 36 rfl rfl
theorem ww27 : Cond.methodLink RX2 55 yX2_losePower ∈ gA := wt2 191 rfl rfl
theorem ww28 : Cond.instanceMethod yX2_losePower ∈ gA := wt2 192 rfl rfl
theorem ww29 : Cond.selects RX2 yX2_losePower yX2_losePower ∈ gA := wt2 193 rfl rfl
theorem ww30 : cd_Disk_losePower ∈ gA := wt2 194 rfl rfl
/-! RedoHeap$Disk.write(IJ)Z -/
def f_Disk_write (N : Nat) (vD : DT) (p1 : Int32) (p2 : Int64) : Option (Bool × DT) :=
  if vD.2.2.2.2.2.1 = true then (f_Heap_isWord p1).bind fun x2 => if x2 = true then if vD.2.2.2.2.1 < (320 : Int32) then if gI p1 1024 = true then if gI vD.2.2.2.2.1 320 = true then if gI vD.2.2.2.2.1 320 = true then if vD.2.2.2.2.2.2.1 ≤ 0 then some (vD.2.2.2.2.2.1, (vD.1, vp_updL vD.2.1 p1.toNatClampNeg p2, upd vD.2.2.1 vD.2.2.2.2.1.toNatClampNeg p1, vp_updL vD.2.2.2.1 vD.2.2.2.2.1.toNatClampNeg p2, vD.2.2.2.2.1 + (1 : Int32), vD.2.2.2.2.2.1, vD.2.2.2.2.2.2.1, vD.2.2.2.2.2.2.2.1, vD.2.2.2.2.2.2.2.2.1 + (1 : Int32), vD.2.2.2.2.2.2.2.2.2.1, vD.2.2.2.2.2.2.2.2.2.2.1, vD.2.2.2.2.2.2.2.2.2.2.2)) else if (vD.2.2.2.2.2.2.1 - (1 : Int32)) = 0 then (f_Disk_losePower N (vD.1, vp_updL vD.2.1 p1.toNatClampNeg p2, upd vD.2.2.1 vD.2.2.2.2.1.toNatClampNeg p1, vp_updL vD.2.2.2.1 vD.2.2.2.2.1.toNatClampNeg p2, vD.2.2.2.2.1 + (1 : Int32), vD.2.2.2.2.2.1, vD.2.2.2.2.2.2.1 - (1 : Int32), vD.2.2.2.2.2.2.2.1, vD.2.2.2.2.2.2.2.2.1 + (1 : Int32), vD.2.2.2.2.2.2.2.2.2.1, vD.2.2.2.2.2.2.2.2.2.2.1, vD.2.2.2.2.2.2.2.2.2.2.2) vD.2.2.2.2.2.2.2.1).bind fun x11 => some (x11.2.2.2.2.2.1, x11) else some (vD.2.2.2.2.2.1, (vD.1, vp_updL vD.2.1 p1.toNatClampNeg p2, upd vD.2.2.1 vD.2.2.2.2.1.toNatClampNeg p1, vp_updL vD.2.2.2.1 vD.2.2.2.2.1.toNatClampNeg p2, vD.2.2.2.2.1 + (1 : Int32), vD.2.2.2.2.2.1, vD.2.2.2.2.2.2.1 - (1 : Int32), vD.2.2.2.2.2.2.2.1, vD.2.2.2.2.2.2.2.2.1 + (1 : Int32), vD.2.2.2.2.2.2.2.2.2.1, vD.2.2.2.2.2.2.2.2.2.2.1, vD.2.2.2.2.2.2.2.2.2.2.2)) else none else none else none else some (vD.2.2.2.2.2.1, vD) else some (vD.2.2.2.2.2.1, vD) else some (vD.2.2.2.2.2.1, vD)
abbrev cd_Disk_write : Cond := .code yX2_write cX2_write 4 (some .boolean)
theorem yd_Disk_write : yX2_write.cls ≠ "java/lang/invoke/MethodHandle" ∧ yX2_write.cls ≠ "java/lang/invoke/VarHandle" ∧ (parseMethodDescriptor yX2_write.desc).map (fun d => d.parameters.length) = some 2 := by decide +kernel
abbrev rm_Disk_write : Room := { frames := 3, cells := 0, slots := 0, locals := 82 }
abbrev q_Disk_write (D : va_G) (ad : Nat → Nat) (ca : Nat → ClassId) (res : Bool × DT) (A : Nat → Prop) : Array Value → State → Outcome → State → Prop := va_Qi (fun (r : Int32) (u : DT) => r = bI res.1 ∧ u = res.2) (gB D cls (tys ca) A (fun (u : DT) => (wD ad ca u))) A
set_option maxHeartbeats 4000000 in
set_option maxRecDepth 100000 in
theorem c_Disk_write (l : Launch) (D : va_G) (ad : Nat → Nat) (ca : Nat → ClassId) (N : Nat) (vD : DT) (p1 : Int32) (p2 : Int64) (res : Bool × DT) (hf : f_Disk_write N vD p1 p2 = some res) (sz : Nat) : Met l yX2_write (cd_Disk_write :: gA) rm_Disk_write (va_Pc [.ref (ad 1), .int p1, .long p2] (gP D cls (tys ca) (wD ad ca vD) sz)) (q_Disk_write D ad ca res (va_A (wD ad ca vD) sz)) 0 0 (va_A (wD ad ca vD) sz) := by
  refine g_met (cc := cX2_write) (Qc := q_Disk_write D ad ca res) (lv := [(0, .ref (ad 1)), (1, .int p1), (2, .long p2)]) (own := RX2) (by decide) rfl rfl (Nat.le_of_ble_eq_true rfl) rfl sz ?_
  intro p e s m args below meth c A Z hr hnm
  unfold f_Disk_write at hf
  refine g_aload_n (pc := 0) Z 0 dX2_write_0 rfl ?_
  refine g_get (pc := 1) (v := .int (bI vD.2.2.2.2.2.1)) (T := TX2) (N := 12) Z 0 5 dX2_write_1 (mm ww0) inx_X2 rfl (by decide) rfl rfl rfl ?_
  refine g_if_eq (pc := 4) (tgt := 24) Z dX2_write_4 (by decide) (fun c1 => ?_) (fun c1 => ?_)
  · replace hf := gIfN (bI_z c1) hf
    refine g_aload_n (pc := 24) Z 0 dX2_write_24 rfl ?_
    refine g_get (pc := 25) (v := .int (bI vD.2.2.2.2.2.1)) (T := TX2) (N := 12) Z 0 5 dX2_write_25 (mm ww0) inx_X2 rfl (by decide) rfl rfl rfl ?_
    obtain rfl := Option.some.inj hf
    exact g_zret Z hr (bI_nar vD.2.2.2.2.2.1) dX2_write_28 vD ⟨rfl, rfl⟩ rfl
  · replace hf := gIfP (bI_nz c1) hf
    refine g_iload_n (pc := 7) Z 1 dX2_write_7 rfl ?_
    obtain ⟨x2, h3, hf⟩ := Option.bind_eq_some_iff.mp hf
    refine g_calli (pc := 8) (ws2 := fun u => (wD ad ca vD)) (wr := (wD ad ca vD)) Z [] [0, 1, 2, 3, 4] [0, 1, 2, 3, 4] (g_runSN Z (c_Heap_isWord l D ad ca p1 x2 h3) ⟨va_cnB 1 Z.2.2.2.2.1 (gg_C ww1) rfl rfl rfl Z.2.2.2.2.2.2.2.2.2.2.2.1 (Z.2.2.2.2.1 _ (mm ww2)) yd_Heap_isWord ⟨Nat.le_of_ble_eq_true rfl, Nat.le_of_ble_eq_true rfl⟩, Z.2.2.2.2.1 _ (mm ww3), trivial⟩ [] rfl (by decide) rfl rfl (Nat.le_of_ble_eq_true rfl) dX2_write_8 ⟨Nat.le_of_ble_eq_true rfl, Nat.le_of_ble_eq_true rfl⟩) rfl rfl (by decide) (by decide) (by decide) (fun _ => rfl) (fun r u hu => ?_)
    obtain rfl := hu.symm
    refine g_if_eq (pc := 11) (tgt := 24) Z dX2_write_11 (by decide) (fun c4 => ?_) (fun c4 => ?_)
    · replace hf := gIfN (bI_z c4) hf
      refine g_aload_n (pc := 24) Z 0 dX2_write_24 rfl ?_
      refine g_get (pc := 25) (v := .int (bI vD.2.2.2.2.2.1)) (T := TX2) (N := 12) Z 0 5 dX2_write_25 (mm ww0) inx_X2 rfl (by decide) rfl rfl rfl ?_
      obtain rfl := Option.some.inj hf
      exact g_zret Z hr (bI_nar vD.2.2.2.2.2.1) dX2_write_28 vD ⟨rfl, rfl⟩ rfl
    · replace hf := gIfP (bI_nz c4) hf
      refine g_aload_n (pc := 14) Z 0 dX2_write_14 rfl ?_
      refine g_get (pc := 15) (v := .int vD.2.2.2.2.1) (T := TX2) (N := 12) Z 0 4 dX2_write_15 (mm ww8) inx_X2 rfl (by decide) rfl rfl rfl ?_
      refine g_sipush (pc := 18) (v := 320) Z dX2_write_18 (by decide) ?_
      refine g_icmp_lt (pc := 21) (tgt := 29) Z dX2_write_21 (by decide) (fun c5 => ?_) (fun c5 => ?_)
      · replace hf := gIfP c5 hf
        refine g_aload_n (pc := 29) Z 0 dX2_write_29 rfl ?_
        refine g_get (pc := 30) (v := .ref (ad 3)) (T := TX2) (N := 12) Z 0 1 dX2_write_30 (mm ww4) inx_X2 rfl (by decide) rfl rfl rfl ?_
        refine g_iload_n (pc := 33) Z 1 dX2_write_33 rfl ?_
        refine g_lload_n (pc := 34) Z 2 dX2_write_34 rfl ?_
        obtain ⟨b6, hf⟩ := gGuard hf
        refine g_last (pc := 35) (f := vD.2.1) (ws' := (wD ad ca (vD.1, vp_updL vD.2.1 p1.toNatClampNeg p2, vD.2.2.1, vD.2.2.2.1, vD.2.2.2.2.1, vD.2.2.2.2.2.1, vD.2.2.2.2.2.2.1, vD.2.2.2.2.2.2.2.1, vD.2.2.2.2.2.2.2.2.1, vD.2.2.2.2.2.2.2.2.2.1, vD.2.2.2.2.2.2.2.2.2.2.1, vD.2.2.2.2.2.2.2.2.2.2.2))) Z 2 0 dX2_write_35 rfl rfl (gI_in b6) rfl ?_
        refine g_aload_n (pc := 36) Z 0 dX2_write_36 rfl ?_
        refine g_get (pc := 37) (v := .ref (ad 4)) (T := TX2) (N := 12) Z 0 2 dX2_write_37 (mm ww5) inx_X2 rfl (by decide) rfl rfl rfl ?_
        refine g_aload_n (pc := 40) Z 0 dX2_write_40 rfl ?_
        refine g_get (pc := 41) (v := .int vD.2.2.2.2.1) (T := TX2) (N := 12) Z 0 4 dX2_write_41 (mm ww8) inx_X2 rfl (by decide) rfl rfl rfl ?_
        refine g_iload_n (pc := 44) Z 1 dX2_write_44 rfl ?_
        obtain ⟨b7, hf⟩ := gGuard hf
        refine g_iast (pc := 45) (f := vD.2.2.1) (ws' := (wD ad ca (vD.1, vp_updL vD.2.1 p1.toNatClampNeg p2, upd vD.2.2.1 vD.2.2.2.2.1.toNatClampNeg p1, vD.2.2.2.1, vD.2.2.2.2.1, vD.2.2.2.2.2.1, vD.2.2.2.2.2.2.1, vD.2.2.2.2.2.2.2.1, vD.2.2.2.2.2.2.2.2.1, vD.2.2.2.2.2.2.2.2.2.1, vD.2.2.2.2.2.2.2.2.2.2.1, vD.2.2.2.2.2.2.2.2.2.2.2))) Z 3 1 dX2_write_45 rfl rfl (gI_in b7) rfl ?_
        refine g_aload_n (pc := 46) Z 0 dX2_write_46 rfl ?_
        refine g_get (pc := 47) (v := .ref (ad 5)) (T := TX2) (N := 12) Z 0 3 dX2_write_47 (mm ww7) inx_X2 rfl (by decide) rfl rfl rfl ?_
        refine g_aload_n (pc := 50) Z 0 dX2_write_50 rfl ?_
        refine g_get (pc := 51) (v := .int vD.2.2.2.2.1) (T := TX2) (N := 12) Z 0 4 dX2_write_51 (mm ww8) inx_X2 rfl (by decide) rfl rfl rfl ?_
        refine g_lload_n (pc := 54) Z 2 dX2_write_54 rfl ?_
        obtain ⟨b8, hf⟩ := gGuard hf
        refine g_last (pc := 55) (f := vD.2.2.2.1) (ws' := (wD ad ca (vD.1, vp_updL vD.2.1 p1.toNatClampNeg p2, upd vD.2.2.1 vD.2.2.2.2.1.toNatClampNeg p1, vp_updL vD.2.2.2.1 vD.2.2.2.2.1.toNatClampNeg p2, vD.2.2.2.2.1, vD.2.2.2.2.2.1, vD.2.2.2.2.2.2.1, vD.2.2.2.2.2.2.2.1, vD.2.2.2.2.2.2.2.2.1, vD.2.2.2.2.2.2.2.2.2.1, vD.2.2.2.2.2.2.2.2.2.2.1, vD.2.2.2.2.2.2.2.2.2.2.2))) Z 4 0 dX2_write_55 rfl rfl (gI_in b8) rfl ?_
        refine g_aload_n (pc := 56) Z 0 dX2_write_56 rfl ?_
        refine g_dup (pc := 57) Z dX2_write_57 rfl ?_
        refine g_get (pc := 58) (v := .int vD.2.2.2.2.1) (T := TX2) (N := 12) Z 0 4 dX2_write_58 (mm ww8) inx_X2 rfl (by decide) rfl rfl rfl ?_
        refine g_iconst (pc := 61) (v := 1) Z dX2_write_61 (by decide) ?_
        refine g_iadd (pc := 62) Z dX2_write_62 ?_
        refine g_put (pc := 63) (T := TX2) (N := 12) (ws' := (wD ad ca (vD.1, vp_updL vD.2.1 p1.toNatClampNeg p2, upd vD.2.2.1 vD.2.2.2.2.1.toNatClampNeg p1, vp_updL vD.2.2.2.1 vD.2.2.2.2.1.toNatClampNeg p2, vD.2.2.2.2.1 + (1 : Int32), vD.2.2.2.2.2.1, vD.2.2.2.2.2.2.1, vD.2.2.2.2.2.2.2.1, vD.2.2.2.2.2.2.2.2.1, vD.2.2.2.2.2.2.2.2.2.1, vD.2.2.2.2.2.2.2.2.2.2.1, vD.2.2.2.2.2.2.2.2.2.2.2))) Z 0 4 dX2_write_63 (mm ww8) inx_X2 tyX2_ok nmX2 rfl (by decide) rfl rfl rfl rfl rfl rfl (Nat.le_of_ble_eq_true rfl) rfl ?_
        refine g_aload_n (pc := 66) Z 0 dX2_write_66 rfl ?_
        refine g_dup (pc := 67) Z dX2_write_67 rfl ?_
        refine g_get (pc := 68) (v := .int vD.2.2.2.2.2.2.2.2.1) (T := TX2) (N := 12) Z 0 8 dX2_write_68 (mm ww25) inx_X2 rfl (by decide) rfl rfl rfl ?_
        refine g_iconst (pc := 71) (v := 1) Z dX2_write_71 (by decide) ?_
        refine g_iadd (pc := 72) Z dX2_write_72 ?_
        refine g_put (pc := 73) (T := TX2) (N := 12) (ws' := (wD ad ca (vD.1, vp_updL vD.2.1 p1.toNatClampNeg p2, upd vD.2.2.1 vD.2.2.2.2.1.toNatClampNeg p1, vp_updL vD.2.2.2.1 vD.2.2.2.2.1.toNatClampNeg p2, vD.2.2.2.2.1 + (1 : Int32), vD.2.2.2.2.2.1, vD.2.2.2.2.2.2.1, vD.2.2.2.2.2.2.2.1, vD.2.2.2.2.2.2.2.2.1 + (1 : Int32), vD.2.2.2.2.2.2.2.2.2.1, vD.2.2.2.2.2.2.2.2.2.2.1, vD.2.2.2.2.2.2.2.2.2.2.2))) Z 0 8 dX2_write_73 (mm ww25) inx_X2 tyX2_ok nmX2 rfl (by decide) rfl rfl rfl rfl rfl rfl (Nat.le_of_ble_eq_true rfl) rfl ?_
        refine g_aload_n (pc := 76) Z 0 dX2_write_76 rfl ?_
        refine g_get (pc := 77) (v := .int vD.2.2.2.2.2.2.1) (T := TX2) (N := 12) Z 0 6 dX2_write_77 (mm ww19) inx_X2 rfl (by decide) rfl rfl rfl ?_
        refine g_if_le (pc := 80) (tgt := 108) Z dX2_write_80 (by decide) (fun c9 => ?_) (fun c9 => ?_)
        · replace hf := gIfP c9 hf
          refine g_aload_n (pc := 108) Z 0 dX2_write_108 rfl ?_
          refine g_get (pc := 109) (v := .int (bI vD.2.2.2.2.2.1)) (T := TX2) (N := 12) Z 0 5 dX2_write_109 (mm ww0) inx_X2 rfl (by decide) rfl rfl rfl ?_
          obtain rfl := Option.some.inj hf
          exact g_zret Z hr (bI_nar vD.2.2.2.2.2.1) dX2_write_112 (vD.1, vp_updL vD.2.1 p1.toNatClampNeg p2, upd vD.2.2.1 vD.2.2.2.2.1.toNatClampNeg p1, vp_updL vD.2.2.2.1 vD.2.2.2.2.1.toNatClampNeg p2, vD.2.2.2.2.1 + (1 : Int32), vD.2.2.2.2.2.1, vD.2.2.2.2.2.2.1, vD.2.2.2.2.2.2.2.1, vD.2.2.2.2.2.2.2.2.1 + (1 : Int32), vD.2.2.2.2.2.2.2.2.2.1, vD.2.2.2.2.2.2.2.2.2.2.1, vD.2.2.2.2.2.2.2.2.2.2.2) ⟨rfl, rfl⟩ rfl
        · replace hf := gIfN c9 hf
          refine g_aload_n (pc := 83) Z 0 dX2_write_83 rfl ?_
          refine g_dup (pc := 84) Z dX2_write_84 rfl ?_
          refine g_get (pc := 85) (v := .int vD.2.2.2.2.2.2.1) (T := TX2) (N := 12) Z 0 6 dX2_write_85 (mm ww19) inx_X2 rfl (by decide) rfl rfl rfl ?_
          refine g_iconst (pc := 88) (v := 1) Z dX2_write_88 (by decide) ?_
          refine g_isub (pc := 89) Z dX2_write_89 ?_
          refine g_put (pc := 90) (T := TX2) (N := 12) (ws' := (wD ad ca (vD.1, vp_updL vD.2.1 p1.toNatClampNeg p2, upd vD.2.2.1 vD.2.2.2.2.1.toNatClampNeg p1, vp_updL vD.2.2.2.1 vD.2.2.2.2.1.toNatClampNeg p2, vD.2.2.2.2.1 + (1 : Int32), vD.2.2.2.2.2.1, vD.2.2.2.2.2.2.1 - (1 : Int32), vD.2.2.2.2.2.2.2.1, vD.2.2.2.2.2.2.2.2.1 + (1 : Int32), vD.2.2.2.2.2.2.2.2.2.1, vD.2.2.2.2.2.2.2.2.2.2.1, vD.2.2.2.2.2.2.2.2.2.2.2))) Z 0 6 dX2_write_90 (mm ww19) inx_X2 tyX2_ok nmX2 rfl (by decide) rfl rfl rfl rfl rfl rfl (Nat.le_of_ble_eq_true rfl) rfl ?_
          refine g_aload_n (pc := 93) Z 0 dX2_write_93 rfl ?_
          refine g_get (pc := 94) (v := .int (vD.2.2.2.2.2.2.1 - (1 : Int32))) (T := TX2) (N := 12) Z 0 6 dX2_write_94 (mm ww19) inx_X2 rfl (by decide) rfl rfl rfl ?_
          refine g_if_ne (pc := 97) (tgt := 108) Z dX2_write_97 (by decide) (fun c10 => ?_) (fun c10 => ?_)
          · replace hf := gIfN c10 hf
            refine g_aload_n (pc := 108) Z 0 dX2_write_108 rfl ?_
            refine g_get (pc := 109) (v := .int (bI vD.2.2.2.2.2.1)) (T := TX2) (N := 12) Z 0 5 dX2_write_109 (mm ww0) inx_X2 rfl (by decide) rfl rfl rfl ?_
            obtain rfl := Option.some.inj hf
            exact g_zret Z hr (bI_nar vD.2.2.2.2.2.1) dX2_write_112 (vD.1, vp_updL vD.2.1 p1.toNatClampNeg p2, upd vD.2.2.1 vD.2.2.2.2.1.toNatClampNeg p1, vp_updL vD.2.2.2.1 vD.2.2.2.2.1.toNatClampNeg p2, vD.2.2.2.2.1 + (1 : Int32), vD.2.2.2.2.2.1, vD.2.2.2.2.2.2.1 - (1 : Int32), vD.2.2.2.2.2.2.2.1, vD.2.2.2.2.2.2.2.2.1 + (1 : Int32), vD.2.2.2.2.2.2.2.2.2.1, vD.2.2.2.2.2.2.2.2.2.2.1, vD.2.2.2.2.2.2.2.2.2.2.2) ⟨rfl, rfl⟩ rfl
          · replace hf := gIfP c10 hf
            refine g_aload_n (pc := 100) Z 0 dX2_write_100 rfl ?_
            refine g_aload_n (pc := 101) Z 0 dX2_write_101 rfl ?_
            refine g_get (pc := 102) (v := .int vD.2.2.2.2.2.2.2.1) (T := TX2) (N := 12) Z 0 7 dX2_write_102 (mm ww26) inx_X2 rfl (by decide) rfl rfl rfl ?_
            obtain ⟨x11, h12, hf⟩ := Option.bind_eq_some_iff.mp hf
            refine g_callv (pc := 105) (ws2 := fun u => (wD ad ca u)) (wr := ([] : va_W)) Z [0, 1, 2, 3, 4] [] [0, 1, 2, 3, 4] (g_runV Z (c_Disk_losePower l D ad ca N (vD.1, vp_updL vD.2.1 p1.toNatClampNeg p2, upd vD.2.2.1 vD.2.2.2.2.1.toNatClampNeg p1, vp_updL vD.2.2.2.1 vD.2.2.2.2.1.toNatClampNeg p2, vD.2.2.2.2.1 + (1 : Int32), vD.2.2.2.2.2.1, vD.2.2.2.2.2.2.1 - (1 : Int32), vD.2.2.2.2.2.2.2.1, vD.2.2.2.2.2.2.2.2.1 + (1 : Int32), vD.2.2.2.2.2.2.2.2.2.1, vD.2.2.2.2.2.2.2.2.2.2.1, vD.2.2.2.2.2.2.2.2.2.2.2) vD.2.2.2.2.2.2.2.1 x11 h12) (cwV 1 Z.2.2.2.2.1 (gg_V ww27 ww28 ww29 ww16 ww30) rfl rfl rfl (yv_of rfl yd_Disk_losePower) ⟨Nat.le_of_ble_eq_true rfl, Nat.le_of_ble_eq_true rfl⟩) [0, 1, 2, 3, 4] rfl (by decide) 0 rfl rfl rfl rfl rfl (Nat.le_of_ble_eq_true rfl) dX2_write_105 ⟨Nat.le_of_ble_eq_true rfl, Nat.le_of_ble_eq_true rfl⟩) rfl rfl (by decide) (by decide) (by decide) (fun _ => rfl) (fun u hu => ?_)
            obtain rfl := hu.symm
            refine g_aload_n (pc := 108) Z 0 dX2_write_108 rfl ?_
            refine g_get (pc := 109) (v := .int (bI x11.2.2.2.2.2.1)) (T := TX2) (N := 12) Z 0 5 dX2_write_109 (mm ww0) inx_X2 rfl (by decide) rfl rfl rfl ?_
            obtain rfl := Option.some.inj hf
            exact g_zret Z hr (bI_nar x11.2.2.2.2.2.1) dX2_write_112 x11 ⟨rfl, rfl⟩ rfl
      · replace hf := gIfN c5 hf
        refine g_aload_n (pc := 24) Z 0 dX2_write_24 rfl ?_
        refine g_get (pc := 25) (v := .int (bI vD.2.2.2.2.2.1)) (T := TX2) (N := 12) Z 0 5 dX2_write_25 (mm ww0) inx_X2 rfl (by decide) rfl rfl rfl ?_
        obtain rfl := Option.some.inj hf
        exact g_zret Z hr (bI_nar vD.2.2.2.2.2.1) dX2_write_28 vD ⟨rfl, rfl⟩ rfl
theorem ww31 : Cond.fieldLink RX2 36 "RedoHeap$Disk" "syncs" "I" ∈ gA := wt1 38 rfl rfl
/-! RedoHeap$Disk.settleAll()V -/
def f_Disk_settleAll (N : Nat) (vD : DT) : Option (DT) :=
  (f_Disk_settleFirst N vD vD.2.2.2.2.1).bind fun x1 => some (x1.1, x1.2.1, x1.2.2.1, x1.2.2.2.1, (0 : Int32), x1.2.2.2.2.2.1, x1.2.2.2.2.2.2.1, x1.2.2.2.2.2.2.2.1, x1.2.2.2.2.2.2.2.2.1, x1.2.2.2.2.2.2.2.2.2.1 + (1 : Int32), x1.2.2.2.2.2.2.2.2.2.2.1, x1.2.2.2.2.2.2.2.2.2.2.2)
abbrev cd_Disk_settleAll : Cond := .code yX2_settleAll cX2_settleAll 1 none
theorem yd_Disk_settleAll : yX2_settleAll.cls ≠ "java/lang/invoke/MethodHandle" ∧ yX2_settleAll.cls ≠ "java/lang/invoke/VarHandle" ∧ (parseMethodDescriptor yX2_settleAll.desc).map (fun d => d.parameters.length) = some 0 := by decide +kernel
abbrev rm_Disk_settleAll : Room := { frames := 2, cells := 0, slots := 0, locals := 43 }
abbrev q_Disk_settleAll (D : va_G) (ad : Nat → Nat) (ca : Nat → ClassId) (res : DT) (A : Nat → Prop) : Array Value → State → Outcome → State → Prop := va_Qv (fun (u : DT) => u = res) (gB D cls (tys ca) A (fun (u : DT) => (wD ad ca u))) A
set_option maxHeartbeats 4000000 in
set_option maxRecDepth 100000 in
theorem c_Disk_settleAll (l : Launch) (D : va_G) (ad : Nat → Nat) (ca : Nat → ClassId) (N : Nat) (vD : DT) (res : DT) (hf : f_Disk_settleAll N vD = some res) (sz : Nat) : Met l yX2_settleAll (cd_Disk_settleAll :: gA) rm_Disk_settleAll (va_Pc [.ref (ad 1)] (gP D cls (tys ca) (wD ad ca vD) sz)) (q_Disk_settleAll D ad ca res (va_A (wD ad ca vD) sz)) 0 0 (va_A (wD ad ca vD) sz) := by
  refine g_met (cc := cX2_settleAll) (Qc := q_Disk_settleAll D ad ca res) (lv := [(0, .ref (ad 1))]) (own := RX2) (by decide) rfl rfl (Nat.le_of_ble_eq_true rfl) rfl sz ?_
  intro p e s m args below meth c A Z hr hnm
  unfold f_Disk_settleAll at hf
  refine g_aload_n (pc := 0) Z 0 dX2_settleAll_0 rfl ?_
  refine g_aload_n (pc := 1) Z 0 dX2_settleAll_1 rfl ?_
  refine g_get (pc := 2) (v := .int vD.2.2.2.2.1) (T := TX2) (N := 12) Z 0 4 dX2_settleAll_2 (mm ww8) inx_X2 rfl (by decide) rfl rfl rfl ?_
  obtain ⟨x1, h2, hf⟩ := Option.bind_eq_some_iff.mp hf
  refine g_callv (pc := 5) (ws2 := fun u => (wD ad ca u)) (wr := ([] : va_W)) Z [0, 1, 2, 3, 4] [] [0, 1, 2, 3, 4] (g_runV Z (c_Disk_settleFirst l D ad ca N vD vD.2.2.2.2.1 x1 h2) (cwV 1 Z.2.2.2.2.1 (gg_V ww13 ww14 ww15 ww16 ww17) rfl rfl rfl (yv_of rfl yd_Disk_settleFirst) ⟨Nat.le_of_ble_eq_true rfl, Nat.le_of_ble_eq_true rfl⟩) [0, 1, 2, 3, 4] rfl (by decide) 0 rfl rfl rfl rfl rfl (Nat.le_of_ble_eq_true rfl) dX2_settleAll_5 ⟨Nat.le_of_ble_eq_true rfl, Nat.le_of_ble_eq_true rfl⟩) rfl rfl (by decide) (by decide) (by decide) (fun _ => rfl) (fun u hu => ?_)
  obtain rfl := hu.symm
  refine g_aload_n (pc := 8) Z 0 dX2_settleAll_8 rfl ?_
  refine g_iconst (pc := 9) (v := 0) Z dX2_settleAll_9 (by decide) ?_
  refine g_put (pc := 10) (T := TX2) (N := 12) (ws' := (wD ad ca (x1.1, x1.2.1, x1.2.2.1, x1.2.2.2.1, (0 : Int32), x1.2.2.2.2.2.1, x1.2.2.2.2.2.2.1, x1.2.2.2.2.2.2.2.1, x1.2.2.2.2.2.2.2.2.1, x1.2.2.2.2.2.2.2.2.2.1, x1.2.2.2.2.2.2.2.2.2.2.1, x1.2.2.2.2.2.2.2.2.2.2.2))) Z 0 4 dX2_settleAll_10 (mm ww8) inx_X2 tyX2_ok nmX2 rfl (by decide) rfl rfl rfl rfl rfl rfl (Nat.le_of_ble_eq_true rfl) rfl ?_
  refine g_aload_n (pc := 13) Z 0 dX2_settleAll_13 rfl ?_
  refine g_dup (pc := 14) Z dX2_settleAll_14 rfl ?_
  refine g_get (pc := 15) (v := .int x1.2.2.2.2.2.2.2.2.2.1) (T := TX2) (N := 12) Z 0 9 dX2_settleAll_15 (mm ww31) inx_X2 rfl (by decide) rfl rfl rfl ?_
  refine g_iconst (pc := 18) (v := 1) Z dX2_settleAll_18 (by decide) ?_
  refine g_iadd (pc := 19) Z dX2_settleAll_19 ?_
  refine g_put (pc := 20) (T := TX2) (N := 12) (ws' := (wD ad ca (x1.1, x1.2.1, x1.2.2.1, x1.2.2.2.1, (0 : Int32), x1.2.2.2.2.2.1, x1.2.2.2.2.2.2.1, x1.2.2.2.2.2.2.2.1, x1.2.2.2.2.2.2.2.2.1, x1.2.2.2.2.2.2.2.2.2.1 + (1 : Int32), x1.2.2.2.2.2.2.2.2.2.2.1, x1.2.2.2.2.2.2.2.2.2.2.2))) Z 0 9 dX2_settleAll_20 (mm ww31) inx_X2 tyX2_ok nmX2 rfl (by decide) rfl rfl rfl rfl rfl rfl (Nat.le_of_ble_eq_true rfl) rfl ?_
  obtain rfl := Option.some.inj hf
  exact g_vret Z hr dX2_settleAll_23 (x1.1, x1.2.1, x1.2.2.1, x1.2.2.2.1, (0 : Int32), x1.2.2.2.2.2.1, x1.2.2.2.2.2.2.1, x1.2.2.2.2.2.2.2.1, x1.2.2.2.2.2.2.2.2.1, x1.2.2.2.2.2.2.2.2.2.1 + (1 : Int32), x1.2.2.2.2.2.2.2.2.2.2.1, x1.2.2.2.2.2.2.2.2.2.2.2) rfl rfl
/-! RedoHeap$Disk.waiting()I -/
def f_Disk_waiting (vD : DT) : Option (Int32) :=
  some vD.2.2.2.2.1
abbrev cd_Disk_waiting : Cond := .code yX2_waiting cX2_waiting 1 (some .int)
theorem yd_Disk_waiting : yX2_waiting.cls ≠ "java/lang/invoke/MethodHandle" ∧ yX2_waiting.cls ≠ "java/lang/invoke/VarHandle" ∧ (parseMethodDescriptor yX2_waiting.desc).map (fun d => d.parameters.length) = some 0 := by decide +kernel
abbrev rm_Disk_waiting : Room := { frames := 0, cells := 0, slots := 0, locals := 0 }
abbrev q_Disk_waiting (D : va_G) (ad : Nat → Nat) (ca : Nat → ClassId) (vD : DT) (res : Int32) (A : Nat → Prop) : Array Value → State → Outcome → State → Prop := va_Qi (fun (r : Int32) (_ : Unit) => r = res) (gB D cls (tys ca) A (fun (u : Unit) => (wD ad ca vD))) A
set_option maxHeartbeats 4000000 in
set_option maxRecDepth 100000 in
theorem c_Disk_waiting (l : Launch) (D : va_G) (ad : Nat → Nat) (ca : Nat → ClassId) (vD : DT) (res : Int32) (hf : f_Disk_waiting vD = some res) (sz : Nat) : Met l yX2_waiting (cd_Disk_waiting :: gA) rm_Disk_waiting (va_Pc [.ref (ad 1)] (gP D cls (tys ca) (wD ad ca vD) sz)) (q_Disk_waiting D ad ca vD res (va_A (wD ad ca vD) sz)) 0 0 (va_A (wD ad ca vD) sz) := by
  refine g_met (cc := cX2_waiting) (Qc := q_Disk_waiting D ad ca vD res) (lv := [(0, .ref (ad 1))]) (own := RX2) (by decide) rfl rfl (Nat.le_of_ble_eq_true rfl) rfl sz ?_
  intro p e s m args below meth c A Z hr hnm
  unfold f_Disk_waiting at hf
  refine g_aload_n (pc := 0) Z 0 dX2_waiting_0 rfl ?_
  refine g_get (pc := 1) (v := .int vD.2.2.2.2.1) (T := TX2) (N := 12) Z 0 4 dX2_waiting_1 (mm ww8) inx_X2 rfl (by decide) rfl rfl rfl ?_
  obtain rfl := Option.some.inj hf
  exact g_iret Z hr dX2_waiting_4 () rfl rfl
/-! RedoHeap$Disk.limit(II)I -/
def f_Disk_limit (vD : DT) (p1 : Int32) (p2 : Int32) : Option (Int32 × DT) :=
  some (vD.2.2.2.2.2.2.1, (vD.1, vD.2.1, vD.2.2.1, vD.2.2.2.1, vD.2.2.2.2.1, vD.2.2.2.2.2.1, p1, p2, vD.2.2.2.2.2.2.2.2.1, vD.2.2.2.2.2.2.2.2.2.1, vD.2.2.2.2.2.2.2.2.2.2.1, vD.2.2.2.2.2.2.2.2.2.2.2))
abbrev cd_Disk_limit : Cond := .code yX2_limit cX2_limit 4 (some .int)
theorem yd_Disk_limit : yX2_limit.cls ≠ "java/lang/invoke/MethodHandle" ∧ yX2_limit.cls ≠ "java/lang/invoke/VarHandle" ∧ (parseMethodDescriptor yX2_limit.desc).map (fun d => d.parameters.length) = some 2 := by decide +kernel
abbrev rm_Disk_limit : Room := { frames := 0, cells := 0, slots := 0, locals := 0 }
abbrev q_Disk_limit (D : va_G) (ad : Nat → Nat) (ca : Nat → ClassId) (res : Int32 × DT) (A : Nat → Prop) : Array Value → State → Outcome → State → Prop := va_Qi (fun (r : Int32) (u : DT) => r = res.1 ∧ u = res.2) (gB D cls (tys ca) A (fun (u : DT) => (wD ad ca u))) A
set_option maxHeartbeats 4000000 in
set_option maxRecDepth 100000 in
theorem c_Disk_limit (l : Launch) (D : va_G) (ad : Nat → Nat) (ca : Nat → ClassId) (vD : DT) (p1 : Int32) (p2 : Int32) (res : Int32 × DT) (hf : f_Disk_limit vD p1 p2 = some res) (sz : Nat) : Met l yX2_limit (cd_Disk_limit :: gA) rm_Disk_limit (va_Pc [.ref (ad 1), .int p1, .int p2] (gP D cls (tys ca) (wD ad ca vD) sz)) (q_Disk_limit D ad ca res (va_A (wD ad ca vD) sz)) 0 0 (va_A (wD ad ca vD) sz) := by
  refine g_met (cc := cX2_limit) (Qc := q_Disk_limit D ad ca res) (lv := [(0, .ref (ad 1)), (1, .int p1), (2, .int p2)]) (own := RX2) (by decide) rfl rfl (Nat.le_of_ble_eq_true rfl) rfl sz ?_
  intro p e s m args below meth c A Z hr hnm
  unfold f_Disk_limit at hf
  refine g_aload_n (pc := 0) Z 0 dX2_limit_0 rfl ?_
  refine g_get (pc := 1) (v := .int vD.2.2.2.2.2.2.1) (T := TX2) (N := 12) Z 0 6 dX2_limit_1 (mm ww19) inx_X2 rfl (by decide) rfl rfl rfl ?_
  refine g_istore_n (pc := 4) (lv' := [(3, .int vD.2.2.2.2.2.2.1), (0, .ref (ad 1)), (1, .int p1), (2, .int p2)]) Z dX2_limit_4 (by decide) rfl ?_
  refine g_aload_n (pc := 5) Z 1 dX2_limit_5 rfl ?_
  refine g_iload_n (pc := 6) Z 2 dX2_limit_6 rfl ?_
  refine g_put (pc := 7) (T := TX2) (N := 12) (ws' := (wD ad ca (vD.1, vD.2.1, vD.2.2.1, vD.2.2.2.1, vD.2.2.2.2.1, vD.2.2.2.2.2.1, p1, vD.2.2.2.2.2.2.2.1, vD.2.2.2.2.2.2.2.2.1, vD.2.2.2.2.2.2.2.2.2.1, vD.2.2.2.2.2.2.2.2.2.2.1, vD.2.2.2.2.2.2.2.2.2.2.2))) Z 0 6 dX2_limit_7 (mm ww19) inx_X2 tyX2_ok nmX2 rfl (by decide) rfl rfl rfl rfl rfl rfl (Nat.le_of_ble_eq_true rfl) rfl ?_
  refine g_aload_n (pc := 10) Z 1 dX2_limit_10 rfl ?_
  refine g_iload_n (pc := 11) Z 3 dX2_limit_11 rfl ?_
  refine g_put (pc := 12) (T := TX2) (N := 12) (ws' := (wD ad ca (vD.1, vD.2.1, vD.2.2.1, vD.2.2.2.1, vD.2.2.2.2.1, vD.2.2.2.2.2.1, p1, p2, vD.2.2.2.2.2.2.2.2.1, vD.2.2.2.2.2.2.2.2.2.1, vD.2.2.2.2.2.2.2.2.2.2.1, vD.2.2.2.2.2.2.2.2.2.2.2))) Z 0 7 dX2_limit_12 (mm ww26) inx_X2 tyX2_ok nmX2 rfl (by decide) rfl rfl rfl rfl rfl rfl (Nat.le_of_ble_eq_true rfl) rfl ?_
  refine g_iload_n (pc := 15) Z 0 dX2_limit_15 rfl ?_
  obtain rfl := Option.some.inj hf
  exact g_iret Z hr dX2_limit_16 (vD.1, vD.2.1, vD.2.2.1, vD.2.2.2.1, vD.2.2.2.2.1, vD.2.2.2.2.2.1, p1, p2, vD.2.2.2.2.2.2.2.2.1, vD.2.2.2.2.2.2.2.2.2.1, vD.2.2.2.2.2.2.2.2.2.2.1, vD.2.2.2.2.2.2.2.2.2.2.2) ⟨rfl, rfl⟩ rfl
/-! RedoHeap$Disk.powerUp()V -/
def f_Disk_powerUp (vD : DT) : Option (DT) :=
  some (vD.1, vD.2.1, vD.2.2.1, vD.2.2.2.1, vD.2.2.2.2.1, true, vD.2.2.2.2.2.2.1, vD.2.2.2.2.2.2.2.1, vD.2.2.2.2.2.2.2.2.1, vD.2.2.2.2.2.2.2.2.2.1, vD.2.2.2.2.2.2.2.2.2.2.1, vD.2.2.2.2.2.2.2.2.2.2.2)
abbrev cd_Disk_powerUp : Cond := .code yX2_powerUp cX2_powerUp 1 none
theorem yd_Disk_powerUp : yX2_powerUp.cls ≠ "java/lang/invoke/MethodHandle" ∧ yX2_powerUp.cls ≠ "java/lang/invoke/VarHandle" ∧ (parseMethodDescriptor yX2_powerUp.desc).map (fun d => d.parameters.length) = some 0 := by decide +kernel
abbrev rm_Disk_powerUp : Room := { frames := 0, cells := 0, slots := 0, locals := 0 }
abbrev q_Disk_powerUp (D : va_G) (ad : Nat → Nat) (ca : Nat → ClassId) (res : DT) (A : Nat → Prop) : Array Value → State → Outcome → State → Prop := va_Qv (fun (u : DT) => u = res) (gB D cls (tys ca) A (fun (u : DT) => (wD ad ca u))) A
set_option maxHeartbeats 4000000 in
set_option maxRecDepth 100000 in
theorem c_Disk_powerUp (l : Launch) (D : va_G) (ad : Nat → Nat) (ca : Nat → ClassId) (vD : DT) (res : DT) (hf : f_Disk_powerUp vD = some res) (sz : Nat) : Met l yX2_powerUp (cd_Disk_powerUp :: gA) rm_Disk_powerUp (va_Pc [.ref (ad 1)] (gP D cls (tys ca) (wD ad ca vD) sz)) (q_Disk_powerUp D ad ca res (va_A (wD ad ca vD) sz)) 0 0 (va_A (wD ad ca vD) sz) := by
  refine g_met (cc := cX2_powerUp) (Qc := q_Disk_powerUp D ad ca res) (lv := [(0, .ref (ad 1))]) (own := RX2) (by decide) rfl rfl (Nat.le_of_ble_eq_true rfl) rfl sz ?_
  intro p e s m args below meth c A Z hr hnm
  unfold f_Disk_powerUp at hf
  refine g_aload_n (pc := 0) Z 0 dX2_powerUp_0 rfl ?_
  refine g_iconst (pc := 1) (v := 1) Z dX2_powerUp_1 (by decide) ?_
  refine g_put (pc := 2) (T := TX2) (N := 12) (ws' := (wD ad ca (vD.1, vD.2.1, vD.2.2.1, vD.2.2.2.1, vD.2.2.2.2.1, true, vD.2.2.2.2.2.2.1, vD.2.2.2.2.2.2.2.1, vD.2.2.2.2.2.2.2.2.1, vD.2.2.2.2.2.2.2.2.2.1, vD.2.2.2.2.2.2.2.2.2.2.1, vD.2.2.2.2.2.2.2.2.2.2.2))) Z 0 5 dX2_powerUp_2 (mm ww0) inx_X2 tyX2_ok nmX2 rfl (by decide) rfl rfl rfl rfl rfl rfl (Nat.le_of_ble_eq_true rfl) rfl ?_
  obtain rfl := Option.some.inj hf
  exact g_vret Z hr dX2_powerUp_5 (vD.1, vD.2.1, vD.2.2.1, vD.2.2.2.1, vD.2.2.2.2.1, true, vD.2.2.2.2.2.2.1, vD.2.2.2.2.2.2.2.1, vD.2.2.2.2.2.2.2.2.1, vD.2.2.2.2.2.2.2.2.2.1, vD.2.2.2.2.2.2.2.2.2.2.1, vD.2.2.2.2.2.2.2.2.2.2.2) rfl rfl
/-! RedoHeap$Disk.settled(I)J -/
def f_Disk_settled (vD : DT) (p1 : Int32) : Option (Int64) :=
  (f_Heap_isWord p1).bind fun x1 => if x1 = true then if gI p1 1024 = true then some (vD.1 p1.toNatClampNeg) else none else some (0 : Int64)
abbrev cd_Disk_settled : Cond := .code yX2_settled cX2_settled 2 (some .long)
theorem yd_Disk_settled : yX2_settled.cls ≠ "java/lang/invoke/MethodHandle" ∧ yX2_settled.cls ≠ "java/lang/invoke/VarHandle" ∧ (parseMethodDescriptor yX2_settled.desc).map (fun d => d.parameters.length) = some 1 := by decide +kernel
abbrev rm_Disk_settled : Room := { frames := 1, cells := 0, slots := 0, locals := 20 }
abbrev q_Disk_settled (D : va_G) (ad : Nat → Nat) (ca : Nat → ClassId) (vD : DT) (res : Int64) (A : Nat → Prop) : Array Value → State → Outcome → State → Prop := va_Ql (fun (r : Int64) (_ : Unit) => r = res) (gB D cls (tys ca) A (fun (u : Unit) => (wD ad ca vD))) A
set_option maxHeartbeats 4000000 in
set_option maxRecDepth 100000 in
theorem c_Disk_settled (l : Launch) (D : va_G) (ad : Nat → Nat) (ca : Nat → ClassId) (vD : DT) (p1 : Int32) (res : Int64) (hf : f_Disk_settled vD p1 = some res) (sz : Nat) : Met l yX2_settled (cd_Disk_settled :: gA) rm_Disk_settled (va_Pc [.ref (ad 1), .int p1] (gP D cls (tys ca) (wD ad ca vD) sz)) (q_Disk_settled D ad ca vD res (va_A (wD ad ca vD) sz)) 0 0 (va_A (wD ad ca vD) sz) := by
  refine g_met (cc := cX2_settled) (Qc := q_Disk_settled D ad ca vD res) (lv := [(0, .ref (ad 1)), (1, .int p1)]) (own := RX2) (by decide) rfl rfl (Nat.le_of_ble_eq_true rfl) rfl sz ?_
  intro p e s m args below meth c A Z hr hnm
  unfold f_Disk_settled at hf
  refine g_iload_n (pc := 0) Z 1 dX2_settled_0 rfl ?_
  obtain ⟨x1, h2, hf⟩ := Option.bind_eq_some_iff.mp hf
  refine g_calli (pc := 1) (ws2 := fun u => (wD ad ca vD)) (wr := (wD ad ca vD)) Z [] [0, 1, 2, 3, 4] [0, 1, 2, 3, 4] (g_runSN Z (c_Heap_isWord l D ad ca p1 x1 h2) ⟨va_cnB 1 Z.2.2.2.2.1 (gg_C ww1) rfl rfl rfl Z.2.2.2.2.2.2.2.2.2.2.2.1 (Z.2.2.2.2.1 _ (mm ww2)) yd_Heap_isWord ⟨Nat.le_of_ble_eq_true rfl, Nat.le_of_ble_eq_true rfl⟩, Z.2.2.2.2.1 _ (mm ww3), trivial⟩ [] rfl (by decide) rfl rfl (Nat.le_of_ble_eq_true rfl) dX2_settled_1 ⟨Nat.le_of_ble_eq_true rfl, Nat.le_of_ble_eq_true rfl⟩) rfl rfl (by decide) (by decide) (by decide) (fun _ => rfl) (fun r u hu => ?_)
  obtain rfl := hu.symm
  refine g_if_eq (pc := 4) (tgt := 16) Z dX2_settled_4 (by decide) (fun c3 => ?_) (fun c3 => ?_)
  · replace hf := gIfN (bI_z c3) hf
    refine g_lconst (pc := 16) (v := 0) Z dX2_settled_16 (by decide) ?_
    obtain rfl := Option.some.inj hf
    exact g_lret Z hr dX2_settled_17 () rfl rfl
  · replace hf := gIfP (bI_nz c3) hf
    refine g_aload_n (pc := 7) Z 0 dX2_settled_7 rfl ?_
    refine g_get (pc := 8) (v := .ref (ad 2)) (T := TX2) (N := 12) Z 0 0 dX2_settled_8 (mm ww6) inx_X2 rfl (by decide) rfl rfl rfl ?_
    refine g_iload_n (pc := 11) Z 1 dX2_settled_11 rfl ?_
    obtain ⟨b4, hf⟩ := gGuard hf
    refine g_lald (pc := 12) (f := vD.1) Z 1 0 dX2_settled_12 rfl rfl (gI_in b4) ?_
    refine g_goto (pc := 13) (tgt := 17) Z dX2_settled_13 (by decide) ?_
    obtain rfl := Option.some.inj hf
    exact g_lret Z hr dX2_settled_17 () rfl rfl
/-! RedoHeap$Disk.writes()I -/
def f_Disk_writes (vD : DT) : Option (Int32) :=
  some vD.2.2.2.2.2.2.2.2.1
abbrev cd_Disk_writes : Cond := .code yX2_writes cX2_writes 1 (some .int)
theorem yd_Disk_writes : yX2_writes.cls ≠ "java/lang/invoke/MethodHandle" ∧ yX2_writes.cls ≠ "java/lang/invoke/VarHandle" ∧ (parseMethodDescriptor yX2_writes.desc).map (fun d => d.parameters.length) = some 0 := by decide +kernel
abbrev rm_Disk_writes : Room := { frames := 0, cells := 0, slots := 0, locals := 0 }
abbrev q_Disk_writes (D : va_G) (ad : Nat → Nat) (ca : Nat → ClassId) (vD : DT) (res : Int32) (A : Nat → Prop) : Array Value → State → Outcome → State → Prop := va_Qi (fun (r : Int32) (_ : Unit) => r = res) (gB D cls (tys ca) A (fun (u : Unit) => (wD ad ca vD))) A
set_option maxHeartbeats 4000000 in
set_option maxRecDepth 100000 in
theorem c_Disk_writes (l : Launch) (D : va_G) (ad : Nat → Nat) (ca : Nat → ClassId) (vD : DT) (res : Int32) (hf : f_Disk_writes vD = some res) (sz : Nat) : Met l yX2_writes (cd_Disk_writes :: gA) rm_Disk_writes (va_Pc [.ref (ad 1)] (gP D cls (tys ca) (wD ad ca vD) sz)) (q_Disk_writes D ad ca vD res (va_A (wD ad ca vD) sz)) 0 0 (va_A (wD ad ca vD) sz) := by
  refine g_met (cc := cX2_writes) (Qc := q_Disk_writes D ad ca vD res) (lv := [(0, .ref (ad 1))]) (own := RX2) (by decide) rfl rfl (Nat.le_of_ble_eq_true rfl) rfl sz ?_
  intro p e s m args below meth c A Z hr hnm
  unfold f_Disk_writes at hf
  refine g_aload_n (pc := 0) Z 0 dX2_writes_0 rfl ?_
  refine g_get (pc := 1) (v := .int vD.2.2.2.2.2.2.2.2.1) (T := TX2) (N := 12) Z 0 8 dX2_writes_1 (mm ww25) inx_X2 rfl (by decide) rfl rfl rfl ?_
  obtain rfl := Option.some.inj hf
  exact g_iret Z hr dX2_writes_4 () rfl rfl
/-! RedoHeap$Disk.syncs()I -/
def f_Disk_syncs (vD : DT) : Option (Int32) :=
  some vD.2.2.2.2.2.2.2.2.2.1
abbrev cd_Disk_syncs : Cond := .code yX2_syncs cX2_syncs 1 (some .int)
theorem yd_Disk_syncs : yX2_syncs.cls ≠ "java/lang/invoke/MethodHandle" ∧ yX2_syncs.cls ≠ "java/lang/invoke/VarHandle" ∧ (parseMethodDescriptor yX2_syncs.desc).map (fun d => d.parameters.length) = some 0 := by decide +kernel
abbrev rm_Disk_syncs : Room := { frames := 0, cells := 0, slots := 0, locals := 0 }
abbrev q_Disk_syncs (D : va_G) (ad : Nat → Nat) (ca : Nat → ClassId) (vD : DT) (res : Int32) (A : Nat → Prop) : Array Value → State → Outcome → State → Prop := va_Qi (fun (r : Int32) (_ : Unit) => r = res) (gB D cls (tys ca) A (fun (u : Unit) => (wD ad ca vD))) A
set_option maxHeartbeats 4000000 in
set_option maxRecDepth 100000 in
theorem c_Disk_syncs (l : Launch) (D : va_G) (ad : Nat → Nat) (ca : Nat → ClassId) (vD : DT) (res : Int32) (hf : f_Disk_syncs vD = some res) (sz : Nat) : Met l yX2_syncs (cd_Disk_syncs :: gA) rm_Disk_syncs (va_Pc [.ref (ad 1)] (gP D cls (tys ca) (wD ad ca vD) sz)) (q_Disk_syncs D ad ca vD res (va_A (wD ad ca vD) sz)) 0 0 (va_A (wD ad ca vD) sz) := by
  refine g_met (cc := cX2_syncs) (Qc := q_Disk_syncs D ad ca vD res) (lv := [(0, .ref (ad 1))]) (own := RX2) (by decide) rfl rfl (Nat.le_of_ble_eq_true rfl) rfl sz ?_
  intro p e s m args below meth c A Z hr hnm
  unfold f_Disk_syncs at hf
  refine g_aload_n (pc := 0) Z 0 dX2_syncs_0 rfl ?_
  refine g_get (pc := 1) (v := .int vD.2.2.2.2.2.2.2.2.2.1) (T := TX2) (N := 12) Z 0 9 dX2_syncs_1 (mm ww31) inx_X2 rfl (by decide) rfl rfl rfl ?_
  obtain rfl := Option.some.inj hf
  exact g_iret Z hr dX2_syncs_4 () rfl rfl
/-! RedoHeap$Disk.failures()I -/
def f_Disk_failures (vD : DT) : Option (Int32) :=
  some vD.2.2.2.2.2.2.2.2.2.2.1
abbrev cd_Disk_failures : Cond := .code yX2_failures cX2_failures 1 (some .int)
theorem yd_Disk_failures : yX2_failures.cls ≠ "java/lang/invoke/MethodHandle" ∧ yX2_failures.cls ≠ "java/lang/invoke/VarHandle" ∧ (parseMethodDescriptor yX2_failures.desc).map (fun d => d.parameters.length) = some 0 := by decide +kernel
abbrev rm_Disk_failures : Room := { frames := 0, cells := 0, slots := 0, locals := 0 }
abbrev q_Disk_failures (D : va_G) (ad : Nat → Nat) (ca : Nat → ClassId) (vD : DT) (res : Int32) (A : Nat → Prop) : Array Value → State → Outcome → State → Prop := va_Qi (fun (r : Int32) (_ : Unit) => r = res) (gB D cls (tys ca) A (fun (u : Unit) => (wD ad ca vD))) A
set_option maxHeartbeats 4000000 in
set_option maxRecDepth 100000 in
theorem c_Disk_failures (l : Launch) (D : va_G) (ad : Nat → Nat) (ca : Nat → ClassId) (vD : DT) (res : Int32) (hf : f_Disk_failures vD = some res) (sz : Nat) : Met l yX2_failures (cd_Disk_failures :: gA) rm_Disk_failures (va_Pc [.ref (ad 1)] (gP D cls (tys ca) (wD ad ca vD) sz)) (q_Disk_failures D ad ca vD res (va_A (wD ad ca vD) sz)) 0 0 (va_A (wD ad ca vD) sz) := by
  refine g_met (cc := cX2_failures) (Qc := q_Disk_failures D ad ca vD res) (lv := [(0, .ref (ad 1))]) (own := RX2) (by decide) rfl rfl (Nat.le_of_ble_eq_true rfl) rfl sz ?_
  intro p e s m args below meth c A Z hr hnm
  unfold f_Disk_failures at hf
  refine g_aload_n (pc := 0) Z 0 dX2_failures_0 rfl ?_
  refine g_get (pc := 1) (v := .int vD.2.2.2.2.2.2.2.2.2.2.1) (T := TX2) (N := 12) Z 0 10 dX2_failures_1 (mm ww20) inx_X2 rfl (by decide) rfl rfl rfl ?_
  obtain rfl := Option.some.inj hf
  exact g_iret Z hr dX2_failures_4 () rfl rfl
/-! RedoHeap$Disk.lost()I -/
def f_Disk_lost (vD : DT) : Option (Int32) :=
  some vD.2.2.2.2.2.2.2.2.2.2.2
abbrev cd_Disk_lost : Cond := .code yX2_lost cX2_lost 1 (some .int)
theorem yd_Disk_lost : yX2_lost.cls ≠ "java/lang/invoke/MethodHandle" ∧ yX2_lost.cls ≠ "java/lang/invoke/VarHandle" ∧ (parseMethodDescriptor yX2_lost.desc).map (fun d => d.parameters.length) = some 0 := by decide +kernel
abbrev rm_Disk_lost : Room := { frames := 0, cells := 0, slots := 0, locals := 0 }
abbrev q_Disk_lost (D : va_G) (ad : Nat → Nat) (ca : Nat → ClassId) (vD : DT) (res : Int32) (A : Nat → Prop) : Array Value → State → Outcome → State → Prop := va_Qi (fun (r : Int32) (_ : Unit) => r = res) (gB D cls (tys ca) A (fun (u : Unit) => (wD ad ca vD))) A
set_option maxHeartbeats 4000000 in
set_option maxRecDepth 100000 in
theorem c_Disk_lost (l : Launch) (D : va_G) (ad : Nat → Nat) (ca : Nat → ClassId) (vD : DT) (res : Int32) (hf : f_Disk_lost vD = some res) (sz : Nat) : Met l yX2_lost (cd_Disk_lost :: gA) rm_Disk_lost (va_Pc [.ref (ad 1)] (gP D cls (tys ca) (wD ad ca vD) sz)) (q_Disk_lost D ad ca vD res (va_A (wD ad ca vD) sz)) 0 0 (va_A (wD ad ca vD) sz) := by
  refine g_met (cc := cX2_lost) (Qc := q_Disk_lost D ad ca vD res) (lv := [(0, .ref (ad 1))]) (own := RX2) (by decide) rfl rfl (Nat.le_of_ble_eq_true rfl) rfl sz ?_
  intro p e s m args below meth c A Z hr hnm
  unfold f_Disk_lost at hf
  refine g_aload_n (pc := 0) Z 0 dX2_lost_0 rfl ?_
  refine g_get (pc := 1) (v := .int vD.2.2.2.2.2.2.2.2.2.2.2) (T := TX2) (N := 12) Z 0 11 dX2_lost_1 (mm ww18) inx_X2 rfl (by decide) rfl rfl rfl ?_
  obtain rfl := Option.some.inj hf
  exact g_iret Z hr dX2_lost_4 () rfl rfl
