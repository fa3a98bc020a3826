theorem ww64 : Cond.fieldLink RX3 22 "RedoHeap$Log" "lastNumber" "I" ∈ gA := wt1 77 rfl rfl
/-! RedoHeap$Log.lastNumber()I -/
def f_Log_lastNumber (vL : LT) : Option (Int32) :=
  some vL.2.2
abbrev cd_Log_lastNumber : Cond := .code yX3_lastNumber cX3_lastNumber 1 (some .int)
theorem yd_Log_lastNumber : yX3_lastNumber.cls ≠ "java/lang/invoke/MethodHandle" ∧ yX3_lastNumber.cls ≠ "java/lang/invoke/VarHandle" ∧ (parseMethodDescriptor yX3_lastNumber.desc).map (fun d => d.parameters.length) = some 0 := by decide +kernel
abbrev rm_Log_lastNumber : Room := { frames := 0, cells := 0, slots := 0, locals := 0 }
abbrev q_Log_lastNumber (D : va_G) (ad : Nat → Nat) (ca : Nat → ClassId) (vL : LT) (res : Int32) (A : Nat → Prop) : Array Value → State → Outcome → State → Prop := va_Qi (fun (r : Int32) (_ : Unit) => r = res) (gB D cls (tys ca) A (fun (u : Unit) => (wL ad ca vL))) A
set_option maxHeartbeats 4000000 in
set_option maxRecDepth 100000 in
theorem c_Log_lastNumber (l : Launch) (D : va_G) (ad : Nat → Nat) (ca : Nat → ClassId) (vL : LT) (res : Int32) (hf : f_Log_lastNumber vL = some res) (sz : Nat) : Met l yX3_lastNumber (cd_Log_lastNumber :: gA) rm_Log_lastNumber (va_Pc [.ref (ad 6)] (gP D cls (tys ca) (wL ad ca vL) sz)) (q_Log_lastNumber D ad ca vL res (va_A (wL ad ca vL) sz)) 0 0 (va_A (wL ad ca vL) sz) := by
  refine g_met (cc := cX3_lastNumber) (Qc := q_Log_lastNumber D ad ca vL res) (lv := [(0, .ref (ad 6))]) (own := RX3) (by decide) rfl rfl (Nat.le_of_ble_eq_true rfl) rfl sz ?_
  intro p e s m args below meth c A Z hr hnm
  unfold f_Log_lastNumber at hf
  refine g_aload_n (pc := 0) Z 0 dX3_lastNumber_0 rfl ?_
  refine g_get (pc := 1) (v := .int vL.2.2) (T := TX3) (N := 4) Z 0 3 dX3_lastNumber_1 (mm ww64) inx_X3 rfl (by decide) rfl rfl rfl ?_
  obtain rfl := Option.some.inj hf
  exact g_iret Z hr dX3_lastNumber_4 () rfl rfl
theorem ww65 : Cond.fieldLink RX3 15 "RedoHeap$Log" "used" "I" ∈ gA := wt1 75 rfl rfl
/-! RedoHeap$Log.hasRoomFor(I)Z -/
def f_Log_hasRoomFor (vL : LT) (p1 : Int32) : Option (Bool) :=
  if (160 : Int32) < ((vL.1 + (2 : Int32)) + ((2 : Int32) * p1)) then some false else some true
abbrev cd_Log_hasRoomFor : Cond := .code yX3_hasRoomFor cX3_hasRoomFor 2 (some .boolean)
theorem yd_Log_hasRoomFor : yX3_hasRoomFor.cls ≠ "java/lang/invoke/MethodHandle" ∧ yX3_hasRoomFor.cls ≠ "java/lang/invoke/VarHandle" ∧ (parseMethodDescriptor yX3_hasRoomFor.desc).map (fun d => d.parameters.length) = some 1 := by decide +kernel
abbrev rm_Log_hasRoomFor : Room := { frames := 0, cells := 0, slots := 0, locals := 0 }
abbrev q_Log_hasRoomFor (D : va_G) (ad : Nat → Nat) (ca : Nat → ClassId) (vL : LT) (res : Bool) (A : Nat → Prop) : Array Value → State → Outcome → State → Prop := va_Qi (fun (r : Int32) (_ : Unit) => r = bI res) (gB D cls (tys ca) A (fun (u : Unit) => (wL ad ca vL))) A
set_option maxHeartbeats 4000000 in
set_option maxRecDepth 100000 in
theorem c_Log_hasRoomFor (l : Launch) (D : va_G) (ad : Nat → Nat) (ca : Nat → ClassId) (vL : LT) (p1 : Int32) (res : Bool) (hf : f_Log_hasRoomFor vL p1 = some res) (sz : Nat) : Met l yX3_hasRoomFor (cd_Log_hasRoomFor :: gA) rm_Log_hasRoomFor (va_Pc [.ref (ad 6), .int p1] (gP D cls (tys ca) (wL ad ca vL) sz)) (q_Log_hasRoomFor D ad ca vL res (va_A (wL ad ca vL) sz)) 0 0 (va_A (wL ad ca vL) sz) := by
  refine g_met (cc := cX3_hasRoomFor) (Qc := q_Log_hasRoomFor D ad ca vL res) (lv := [(0, .ref (ad 6)), (1, .int p1)]) (own := RX3) (by decide) rfl rfl (Nat.le_of_ble_eq_true rfl) rfl sz ?_
  intro p e s m args below meth c A Z hr hnm
  unfold f_Log_hasRoomFor at hf
  refine g_aload_n (pc := 0) Z 0 dX3_hasRoomFor_0 rfl ?_
  refine g_get (pc := 1) (v := .int vL.1) (T := TX3) (N := 4) Z 0 1 dX3_hasRoomFor_1 (mm ww65) inx_X3 rfl (by decide) rfl rfl rfl ?_
  refine g_iconst (pc := 4) (v := 2) Z dX3_hasRoomFor_4 (by decide) ?_
  refine g_iadd (pc := 5) Z dX3_hasRoomFor_5 ?_
  refine g_iconst (pc := 6) (v := 2) Z dX3_hasRoomFor_6 (by decide) ?_
  refine g_iload_n (pc := 7) Z 1 dX3_hasRoomFor_7 rfl ?_
  refine g_imul (pc := 8) Z dX3_hasRoomFor_8 ?_
  refine g_iadd (pc := 9) Z dX3_hasRoomFor_9 ?_
  refine g_sipush (pc := 10) (v := 160) Z dX3_hasRoomFor_10 (by decide) ?_
  refine g_icmp_gt (pc := 13) (tgt := 20) Z dX3_hasRoomFor_13 (by decide) (fun c1 => ?_) (fun c1 => ?_)
  · replace hf := gIfP c1 hf
    refine g_iconst (pc := 20) (v := 0) Z dX3_hasRoomFor_20 (by decide) ?_
    obtain rfl := Option.some.inj hf
    exact g_zret Z hr rfl dX3_hasRoomFor_21 () rfl rfl
  · replace hf := gIfN c1 hf
    refine g_iconst (pc := 16) (v := 1) Z dX3_hasRoomFor_16 (by decide) ?_
    refine g_goto (pc := 17) (tgt := 21) Z dX3_hasRoomFor_17 (by decide) ?_
    obtain rfl := Option.some.inj hf
    exact g_zret Z hr rfl dX3_hasRoomFor_21 () rfl rfl
/-! RedoHeap$Log.used()I -/
def f_Log_used (vL : LT) : Option (Int32) :=
  some vL.1
abbrev cd_Log_used : Cond := .code yX3_used cX3_used 1 (some .int)
theorem yd_Log_used : yX3_used.cls ≠ "java/lang/invoke/MethodHandle" ∧ yX3_used.cls ≠ "java/lang/invoke/VarHandle" ∧ (parseMethodDescriptor yX3_used.desc).map (fun d => d.parameters.length) = some 0 := by decide +kernel
abbrev rm_Log_used : Room := { frames := 0, cells := 0, slots := 0, locals := 0 }
abbrev q_Log_used (D : va_G) (ad : Nat → Nat) (ca : Nat → ClassId) (vL : LT) (res : Int32) (A : Nat → Prop) : Array Value → State → Outcome → State → Prop := va_Qi (fun (r : Int32) (_ : Unit) => r = res) (gB D cls (tys ca) A (fun (u : Unit) => (wL ad ca vL))) A
set_option maxHeartbeats 4000000 in
set_option maxRecDepth 100000 in
theorem c_Log_used (l : Launch) (D : va_G) (ad : Nat → Nat) (ca : Nat → ClassId) (vL : LT) (res : Int32) (hf : f_Log_used vL = some res) (sz : Nat) : Met l yX3_used (cd_Log_used :: gA) rm_Log_used (va_Pc [.ref (ad 6)] (gP D cls (tys ca) (wL ad ca vL) sz)) (q_Log_used D ad ca vL res (va_A (wL ad ca vL) sz)) 0 0 (va_A (wL ad ca vL) sz) := by
  refine g_met (cc := cX3_used) (Qc := q_Log_used D ad ca vL res) (lv := [(0, .ref (ad 6))]) (own := RX3) (by decide) rfl rfl (Nat.le_of_ble_eq_true rfl) rfl sz ?_
  intro p e s m args below meth c A Z hr hnm
  unfold f_Log_used at hf
  refine g_aload_n (pc := 0) Z 0 dX3_used_0 rfl ?_
  refine g_get (pc := 1) (v := .int vL.1) (T := TX3) (N := 4) Z 0 1 dX3_used_1 (mm ww65) inx_X3 rfl (by decide) rfl rfl rfl ?_
  obtain rfl := Option.some.inj hf
  exact g_iret Z hr dX3_used_4 () rfl rfl
theorem ww66 : Jvm.Cond.constantLong RX3 70 (4096) ∈ gA := wt2 185 rfl rfl
theorem ww67 : Cond.fieldLink RX3 9 "RedoHeap$Log" "disk" "LRedoHeap$Disk;" ∈ gA := wt1 74 rfl rfl
theorem ww68 : Cond.methodLink RX3 54 yX2_read ∈ gA := wt2 176 rfl rfl
/-! RedoHeap$Log.front(I)J -/
def f_Log_front (vL : LT) (vD : DT) (p1 : Int32) : Option (Int64) :=
  (f_Disk_read vD (0 : Int32)).bind fun x1 => some (((4096 : Int64) * x1) + p1.toInt64)
abbrev cd_Log_front : Cond := .code yX3_front cX3_front 2 (some .long)
theorem yd_Log_front : yX3_front.cls ≠ "java/lang/invoke/MethodHandle" ∧ yX3_front.cls ≠ "java/lang/invoke/VarHandle" ∧ (parseMethodDescriptor yX3_front.desc).map (fun d => d.parameters.length) = some 1 := by decide +kernel
abbrev rm_Log_front : Room := { frames := 2, cells := 0, slots := 0, locals := 41 }
abbrev q_Log_front (D : va_G) (ad : Nat → Nat) (ca : Nat → ClassId) (vL : LT) (vD : DT) (res : Int64) (A : Nat → Prop) : Array Value → State → Outcome → State → Prop := va_Ql (fun (r : Int64) (_ : Unit) => r = res) (gB D cls (tys ca) A (fun (u : Unit) => (wL ad ca vL ++ wD ad ca vD))) A
set_option maxHeartbeats 4000000 in
set_option maxRecDepth 100000 in
theorem c_Log_front (l : Launch) (D : va_G) (ad : Nat → Nat) (ca : Nat → ClassId) (vL : LT) (vD : DT) (p1 : Int32) (res : Int64) (hf : f_Log_front vL vD p1 = some res) (sz : Nat) : Met l yX3_front (cd_Log_front :: gA) rm_Log_front (va_Pc [.ref (ad 6), .int p1] (gP D cls (tys ca) (wL ad ca vL ++ wD ad ca vD) sz)) (q_Log_front D ad ca vL vD res (va_A (wL ad ca vL ++ wD ad ca vD) sz)) 0 0 (va_A (wL ad ca vL ++ wD ad ca vD) sz) := by
  refine g_met (cc := cX3_front) (Qc := q_Log_front D ad ca vL vD res) (lv := [(0, .ref (ad 6)), (1, .int p1)]) (own := RX3) (by decide) rfl rfl (Nat.le_of_ble_eq_true rfl) rfl sz ?_
  intro p e s m args below meth c A Z hr hnm
  unfold f_Log_front at hf
  refine g_ldc2 (pc := 0) (v := 4096) Z dX3_front_0 (mm ww66) ?_
  refine g_aload_n (pc := 3) Z 0 dX3_front_3 rfl ?_
  refine g_get (pc := 4) (v := .ref (ad 1)) (T := TX3) (N := 4) Z 0 0 dX3_front_4 (mm ww67) inx_X3 rfl (by decide) rfl rfl rfl ?_
  refine g_iconst (pc := 7) (v := 0) Z dX3_front_7 (by decide) ?_
  obtain ⟨x1, h2, hf⟩ := Option.bind_eq_some_iff.mp hf
  refine g_calll (pc := 8) (ws2 := fun u => (wL ad ca vL ++ wD ad ca vD)) (wr := (wL ad ca vL)) Z [1, 2, 3, 4, 5] [0] [0, 1, 2, 3, 4, 5] (g_runV Z (c_Disk_read l D ad ca vD (0 : Int32) x1 h2) (cwV 1 Z.2.2.2.2.1 (gg_V ww68 ww61 ww62 ww16 ww63) rfl rfl rfl (yv_of rfl yd_Disk_read) ⟨Nat.le_of_ble_eq_true rfl, Nat.le_of_ble_eq_true rfl⟩) [1, 2, 3, 4, 5] rfl (by decide) 0 rfl rfl rfl rfl rfl (Nat.le_of_ble_eq_true rfl) dX3_front_8 ⟨Nat.le_of_ble_eq_true rfl, Nat.le_of_ble_eq_true rfl⟩) rfl rfl (by decide) (by decide) (by decide) (fun _ => rfl) (fun r u hu => ?_)
  obtain rfl := hu.symm
  refine g_lmul (pc := 11) Z dX3_front_11 ?_
  refine g_iload_n (pc := 12) Z 1 dX3_front_12 rfl ?_
  refine g_i2l (pc := 13) Z dX3_front_13 ?_
  refine g_ladd (pc := 14) Z dX3_front_14 ?_
  obtain rfl := Option.some.inj hf
  exact g_lret Z hr dX3_front_15 () rfl rfl
theorem ww69 : Cond.methodLink RX3 31 yX3_front ∈ gA := wt2 181 rfl rfl
theorem ww70 : Cond.instanceMethod yX3_front ∈ gA := wt2 183 rfl rfl
theorem ww71 : Cond.selects RX3 yX3_front yX3_front ∈ gA := wtS 12 rfl rfl
theorem ww72 : Cond.initialized RX3 ∈ gA := wt1 3 rfl rfl
theorem ww73 : cd_Log_front ∈ gA := wt2 184 rfl rfl
theorem ww74 : Jvm.Cond.constantLong RX3 68 (96) ∈ gA := wt2 186 rfl rfl
/-! RedoHeap$Log.commitSize(I)I -/
def f_Log_commitSize (vL : LT) (vD : DT) (p1 : Int32) : Option (Int32) :=
  (f_Disk_read vD ((16 : Int32) + p1)).bind fun x1 => (f_Log_front vL vD (0 : Int32)).bind fun x3 => if (lg_cmp (x1 - x3) (1 : Int64)) < 0 then some (0 : Int32) else if (lg_cmp (x1 - x3) (96 : Int64)) ≤ 0 then if (160 : Int32) < (p1 + ((2 : Int32) + ((2 : Int32) * ((x1 - x3).toInt32)))) then some (0 : Int32) else (f_Disk_read vD ((((16 : Int32) + p1) + ((2 : Int32) + ((2 : Int32) * ((x1 - x3).toInt32)))) - (1 : Int32))).bind fun x8 => if (lg_cmp x8 (0 : Int64)) < 0 then some ((2 : Int32) + ((2 : Int32) * ((x1 - x3).toInt32))) else some (0 : Int32) else some (0 : Int32)
abbrev cd_Log_commitSize : Cond := .code yX3_commitSize cX3_commitSize 5 (some .int)
theorem yd_Log_commitSize : yX3_commitSize.cls ≠ "java/lang/invoke/MethodHandle" ∧ yX3_commitSize.cls ≠ "java/lang/invoke/VarHandle" ∧ (parseMethodDescriptor yX3_commitSize.desc).map (fun d => d.parameters.length) = some 1 := by decide +kernel
abbrev rm_Log_commitSize : Room := { frames := 3, cells := 0, slots := 0, locals := 62 }
abbrev q_Log_commitSize (D : va_G) (ad : Nat → Nat) (ca : Nat → ClassId) (vL : LT) (vD : DT) (res : Int32) (A : Nat → Prop) : Array Value → State → Outcome → State → Prop := va_Qi (fun (r : Int32) (_ : Unit) => r = res) (gB D cls (tys ca) A (fun (u : Unit) => (wL ad ca vL ++ wD ad ca vD))) A
set_option maxHeartbeats 4000000 in
set_option maxRecDepth 100000 in
theorem c_Log_commitSize (l : Launch) (D : va_G) (ad : Nat → Nat) (ca : Nat → ClassId) (vL : LT) (vD : DT) (p1 : Int32) (res : Int32) (hf : f_Log_commitSize vL vD p1 = some res) (sz : Nat) : Met l yX3_commitSize (cd_Log_commitSize :: gA) rm_Log_commitSize (va_Pc [.ref (ad 6), .int p1] (gP D cls (tys ca) (wL ad ca vL ++ wD ad ca vD) sz)) (q_Log_commitSize D ad ca vL vD res (va_A (wL ad ca vL ++ wD ad ca vD) sz)) 0 0 (va_A (wL ad ca vL ++ wD ad ca vD) sz) := by
  refine g_met (cc := cX3_commitSize) (Qc := q_Log_commitSize D ad ca vL vD res) (lv := [(0, .ref (ad 6)), (1, .int p1)]) (own := RX3) (by decide) rfl rfl (Nat.le_of_ble_eq_true rfl) rfl sz ?_
  intro p e s m args below meth c A Z hr hnm
  unfold f_Log_commitSize at hf
  refine g_aload_n (pc := 0) Z 0 dX3_commitSize_0 rfl ?_
  refine g_get (pc := 1) (v := .ref (ad 1)) (T := TX3) (N := 4) Z 0 0 dX3_commitSize_1 (mm ww67) inx_X3 rfl (by decide) rfl rfl rfl ?_
  refine g_bipush (pc := 4) (v := 16) Z dX3_commitSize_4 (by decide) ?_
  refine g_iload_n (pc := 6) Z 1 dX3_commitSize_6 rfl ?_
  refine g_iadd (pc := 7) Z dX3_commitSize_7 ?_
  obtain ⟨x1, h2, hf⟩ := Option.bind_eq_some_iff.mp hf
  refine g_calll (pc := 8) (ws2 := fun u => (wL ad ca vL ++ wD ad ca vD)) (wr := (wL ad ca vL)) Z [1, 2, 3, 4, 5] [0] [0, 1, 2, 3, 4, 5] (g_runV Z (c_Disk_read l D ad ca vD ((16 : Int32) + p1) x1 h2) (cwV 1 Z.2.2.2.2.1 (gg_V ww68 ww61 ww62 ww16 ww63) rfl rfl rfl (yv_of rfl yd_Disk_read) ⟨Nat.le_of_ble_eq_true rfl, Nat.le_of_ble_eq_true rfl⟩) [1, 2, 3, 4, 5] rfl (by decide) 0 rfl rfl rfl rfl rfl (Nat.le_of_ble_eq_true rfl) dX3_commitSize_8 ⟨Nat.le_of_ble_eq_true rfl, Nat.le_of_ble_eq_true rfl⟩) rfl rfl (by decide) (by decide) (by decide) (fun _ => rfl) (fun r u hu => ?_)
  obtain rfl := hu.symm
  refine g_aload_n (pc := 11) Z 0 dX3_commitSize_11 rfl ?_
  refine g_iconst (pc := 12) (v := 0) Z dX3_commitSize_12 (by decide) ?_
  obtain ⟨x3, h4, hf⟩ := Option.bind_eq_some_iff.mp hf
  refine g_calll (pc := 13) (ws2 := fun u => (wL ad ca vL ++ wD ad ca vD)) (wr := ([] : va_W)) Z [0, 1, 2, 3, 4, 5] [] [0, 1, 2, 3, 4, 5] (g_runV Z (c_Log_front l D ad ca vL vD (0 : Int32) x3 h4) (cwV 1 Z.2.2.2.2.1 (gg_V ww69 ww70 ww71 ww72 ww73) rfl rfl rfl (yv_of rfl yd_Log_front) ⟨Nat.le_of_ble_eq_true rfl, Nat.le_of_ble_eq_true rfl⟩) [0, 1, 2, 3, 4, 5] rfl (by decide) 0 rfl rfl rfl rfl rfl (Nat.le_of_ble_eq_true rfl) dX3_commitSize_13 ⟨Nat.le_of_ble_eq_true rfl, Nat.le_of_ble_eq_true rfl⟩) rfl rfl (by decide) (by decide) (by decide) (fun _ => rfl) (fun r u hu => ?_)
  obtain rfl := hu.symm
  refine g_lsub (pc := 16) Z dX3_commitSize_16 ?_
  refine g_lstore_n (pc := 17) (lv' := [(2, .long (x1 - x3)), (0, .ref (ad 6)), (1, .int p1)]) Z dX3_commitSize_17 (by decide) rfl ?_
  refine g_lload_n (pc := 18) Z 0 dX3_commitSize_18 rfl ?_
  refine g_lconst (pc := 19) (v := 1) Z dX3_commitSize_19 (by decide) ?_
  refine g_lcmp (pc := 20) Z dX3_commitSize_20 ?_
  refine g_if_lt (pc := 21) (tgt := 32) Z dX3_commitSize_21 (by decide) (fun c5 => ?_) (fun c5 => ?_)
  · replace hf := gIfP c5 hf
    refine g_iconst (pc := 32) (v := 0) Z dX3_commitSize_32 (by decide) ?_
    obtain rfl := Option.some.inj hf
    exact g_iret Z hr dX3_commitSize_33 () rfl rfl
  · replace hf := gIfN c5 hf
    refine g_lload_n (pc := 24) Z 0 dX3_commitSize_24 rfl ?_
    refine g_ldc2 (pc := 25) (v := 96) Z dX3_commitSize_25 (mm ww74) ?_
    refine g_lcmp (pc := 28) Z dX3_commitSize_28 ?_
    refine g_if_le (pc := 29) (tgt := 34) Z dX3_commitSize_29 (by decide) (fun c6 => ?_) (fun c6 => ?_)
    · replace hf := gIfP c6 hf
      refine g_iconst (pc := 34) (v := 2) Z dX3_commitSize_34 (by decide) ?_
      refine g_iconst (pc := 35) (v := 2) Z dX3_commitSize_35 (by decide) ?_
      refine g_lload_n (pc := 36) Z 0 dX3_commitSize_36 rfl ?_
      refine g_l2i (pc := 37) Z dX3_commitSize_37 ?_
      refine g_imul (pc := 38) Z dX3_commitSize_38 ?_
      refine g_iadd (pc := 39) Z dX3_commitSize_39 ?_
      refine g_istore (pc := 40) (lv' := [(4, .int ((2 : Int32) + ((2 : Int32) * ((x1 - x3).toInt32)))), (2, .long (x1 - x3)), (0, .ref (ad 6)), (1, .int p1)]) Z dX3_commitSize_40 (by decide) rfl ?_
      refine g_iload_n (pc := 42) Z 3 dX3_commitSize_42 rfl ?_
      refine g_iload (pc := 43) Z 0 dX3_commitSize_43 rfl ?_
      refine g_iadd (pc := 45) Z dX3_commitSize_45 ?_
      refine g_sipush (pc := 46) (v := 160) Z dX3_commitSize_46 (by decide) ?_
      refine g_icmp_gt (pc := 49) (tgt := 73) Z dX3_commitSize_49 (by decide) (fun c7 => ?_) (fun c7 => ?_)
      · replace hf := gIfP c7 hf
        refine g_iconst (pc := 73) (v := 0) Z dX3_commitSize_73 (by decide) ?_
        obtain rfl := Option.some.inj hf
        exact g_iret Z hr dX3_commitSize_74 () rfl rfl
      · replace hf := gIfN c7 hf
        refine g_aload_n (pc := 52) Z 2 dX3_commitSize_52 rfl ?_
        refine g_get (pc := 53) (v := .ref (ad 1)) (T := TX3) (N := 4) Z 0 0 dX3_commitSize_53 (mm ww67) inx_X3 rfl (by decide) rfl rfl rfl ?_
        refine g_bipush (pc := 56) (v := 16) Z dX3_commitSize_56 (by decide) ?_
        refine g_iload_n (pc := 58) Z 3 dX3_commitSize_58 rfl ?_
        refine g_iadd (pc := 59) Z dX3_commitSize_59 ?_
        refine g_iload (pc := 60) Z 0 dX3_commitSize_60 rfl ?_
        refine g_iadd (pc := 62) Z dX3_commitSize_62 ?_
        refine g_iconst (pc := 63) (v := 1) Z dX3_commitSize_63 (by decide) ?_
        refine g_isub (pc := 64) Z dX3_commitSize_64 ?_
        obtain ⟨x8, h9, hf⟩ := Option.bind_eq_some_iff.mp hf
        refine g_calll (pc := 65) (ws2 := fun u => (wL ad ca vL ++ wD ad ca vD)) (wr := (wL ad ca vL)) Z [1, 2, 3, 4, 5] [0] [0, 1, 2, 3, 4, 5] (g_runV Z (c_Disk_read l D ad ca vD ((((16 : Int32) + p1) + ((2 : Int32) + ((2 : Int32) * ((x1 - x3).toInt32)))) - (1 : Int32)) x8 h9) (cwV 1 Z.2.2.2.2.1 (gg_V ww68 ww61 ww62 ww16 ww63) rfl rfl rfl (yv_of rfl yd_Disk_read) ⟨Nat.le_of_ble_eq_true rfl, Nat.le_of_ble_eq_true rfl⟩) [1, 2, 3, 4, 5] rfl (by decide) 0 rfl rfl rfl rfl rfl (Nat.le_of_ble_eq_true rfl) dX3_commitSize_65 ⟨Nat.le_of_ble_eq_true rfl, Nat.le_of_ble_eq_true rfl⟩) rfl rfl (by decide) (by decide) (by decide) (fun _ => rfl) (fun r u hu => ?_)
        obtain rfl := hu.symm
        refine g_lconst (pc := 68) (v := 0) Z dX3_commitSize_68 (by decide) ?_
        refine g_lcmp (pc := 69) Z dX3_commitSize_69 ?_
        refine g_if_lt (pc := 70) (tgt := 75) Z dX3_commitSize_70 (by decide) (fun c10 => ?_) (fun c10 => ?_)
        · replace hf := gIfP c10 hf
          refine g_iload (pc := 75) Z 0 dX3_commitSize_75 rfl ?_
          obtain rfl := Option.some.inj hf
          exact g_iret Z hr dX3_commitSize_77 () rfl rfl
        · replace hf := gIfN c10 hf
          refine g_iconst (pc := 73) (v := 0) Z dX3_commitSize_73 (by decide) ?_
          obtain rfl := Option.some.inj hf
          exact g_iret Z hr dX3_commitSize_74 () rfl rfl
    · replace hf := gIfN c6 hf
      refine g_iconst (pc := 32) (v := 0) Z dX3_commitSize_32 (by decide) ?_
      obtain rfl := Option.some.inj hf
      exact g_iret Z hr dX3_commitSize_33 () rfl rfl
theorem ww75 : Cond.methodLink RX3 60 yX3_commitSize ∈ gA := wt2 172 rfl rfl
theorem ww76 : Cond.instanceMethod yX3_commitSize ∈ gA := wt2 174 rfl rfl
theorem ww77 : Cond.selects RX3 yX3_commitSize yX3_commitSize ∈ gA := wtS 11 rfl rfl
theorem ww78 : cd_Log_commitSize ∈ gA := wt2 175 rfl rfl
theorem ww79 : Cond.methodLink RX3 35 yX2_write ∈ gA := wt2 187 rfl rfl
theorem ww80 : Cond.instanceMethod yX2_write ∈ gA := wt2 188 rfl rfl
theorem ww81 : Cond.selects RX2 yX2_write yX2_write ∈ gA := wt2 189 rfl rfl
theorem ww82 : cd_Disk_write ∈ gA := wt2 190 rfl rfl
/-! RedoHeap$Log.writePlaces()Z -/
def f_Log_writePlaces_26 (N : Nat) (vL : LT) (K : DT → Int32 → Option (Bool × DT)) : Nat → DT → Int32 → Int32 → Int32 → Option (Bool × DT)
  | 0, _, _, _, _ => none
  | n + 1, vD, y1, y2, y3 => if ((y2 + y1) - (1 : Int32)) ≤ y3 then K vD (y2 + y1) else (f_Disk_read vD ((16 : Int32) + y3)).bind fun x2 => (f_Disk_read vD (((16 : Int32) + y3) + (1 : Int32))).bind fun x4 => (f_Disk_write N vD x2.toInt32 x4).bind fun x6 => if x6.1 = true then f_Log_writePlaces_26 N vL K n x6.2 y1 y2 (y3 + (2 : Int32)) else some (false, x6.2)
def f_Log_writePlaces_2 (N : Nat) (vL : LT) : Nat → DT → Int32 → Option (Bool × DT)
  | 0, _, _ => none
  | n + 1, vD, y2 => if vL.1 ≤ y2 then some (true, vD) else (f_Log_commitSize vL vD y2).bind fun x10 => if x10 = 0 then some (true, vD) else f_Log_writePlaces_26 N vL (fun z0 z1 => f_Log_writePlaces_2 N vL n z0 z1) N vD x10 y2 (y2 + (1 : Int32))
def f_Log_writePlaces (N : Nat) (vL : LT) (vD : DT) : Option (Bool × DT) :=
  f_Log_writePlaces_2 N vL N vD (0 : Int32)
abbrev cd_Log_writePlaces : Cond := .code yX3_writePlaces cX3_writePlaces 5 (some .boolean)
theorem yd_Log_writePlaces : yX3_writePlaces.cls ≠ "java/lang/invoke/MethodHandle" ∧ yX3_writePlaces.cls ≠ "java/lang/invoke/VarHandle" ∧ (parseMethodDescriptor yX3_writePlaces.desc).map (fun d => d.parameters.length) = some 0 := by decide +kernel
abbrev rm_Log_writePlaces : Room := { frames := 4, cells := 0, slots := 0, locals := 105 }
abbrev q_Log_writePlaces (D : va_G) (ad : Nat → Nat) (ca : Nat → ClassId) (vL : LT) (res : Bool × DT) (A : Nat → Prop) : Array Value → State → Outcome → State → Prop := va_Qi (fun (r : Int32) (u : DT) => r = bI res.1 ∧ u = res.2) (gB D cls (tys ca) A (fun (u : DT) => (wL ad ca vL ++ wD ad ca u))) A
set_option maxHeartbeats 4000000 in
set_option maxRecDepth 100000 in
theorem w_Log_writePlaces_26 {p : Program} {l : Launch} {e : Env} {s : State} {m : MethodId} {args : Array Value} {below : List Frame} {meth : Method} {c : Code} {D : va_G} {ad : Nat → Nat} {ca : Nat → ClassId} {A : Nat → Prop} {N : Nat} {vL : LT} {K : DT → Int32 → Option (Bool × DT)} {res : Bool × DT} (Z : gZ p s m args meth c cX3_writePlaces 5 RX3 (cd_Log_writePlaces :: gA) A D cls (tys ca)) (hr : meth.sig.returnType = (some .boolean)) (hK : ∀ (vD : DT) (y2 : Int32), K vD y2 = some res → gW p l e rm_Log_writePlaces s m args below meth c 5 A D cls 0 0 (MQ below (q_Log_writePlaces D ad ca vL res A) args s 0 0 A) (wL ad ca vL ++ wD ad ca vD) [(0, .ref (ad 6)), (2, .int y2)] 2 []) : ∀ (n : Nat) (vD : DT) (y1 : Int32) (y2 : Int32) (y3 : Int32), f_Log_writePlaces_26 N vL K n vD y1 y2 y3 = some res → gW p l e rm_Log_writePlaces s m args below meth c 5 A D cls 0 0 (MQ below (q_Log_writePlaces D ad ca vL res A) args s 0 0 A) (wL ad ca vL ++ wD ad ca vD) [(0, .ref (ad 6)), (1, .int y1), (2, .int y2), (3, .int y3)] 26 [] := by
  intro n
  induction n with
  | zero =>
    intro vD y1 y2 y3 hf
    exact absurd hf (by rw [f_Log_writePlaces_26]; exact fun h => by cases h)
  | succ n ih =>
    intro vD y1 y2 y3 hf
    rw [f_Log_writePlaces_26] at hf
    refine g_iload_n (pc := 26) Z 3 dX3_writePlaces_26 rfl ?_
    refine g_iload_n (pc := 27) Z 2 dX3_writePlaces_27 rfl ?_
    refine g_iload_n (pc := 28) Z 1 dX3_writePlaces_28 rfl ?_
    refine g_iadd (pc := 29) Z dX3_writePlaces_29 ?_
    refine g_iconst (pc := 30) (v := 1) Z dX3_writePlaces_30 (by decide) ?_
    refine g_isub (pc := 31) Z dX3_writePlaces_31 ?_
    refine g_icmp_ge (pc := 32) (tgt := 82) Z dX3_writePlaces_32 (by decide) (fun c1 => ?_) (fun c1 => ?_)
    · replace hf := gIfP c1 hf
      refine g_iload_n (pc := 82) Z 2 dX3_writePlaces_82 rfl ?_
      refine g_iload_n (pc := 83) Z 1 dX3_writePlaces_83 rfl ?_
      refine g_iadd (pc := 84) Z dX3_writePlaces_84 ?_
      refine g_istore_n (pc := 85) (lv' := [(2, .int (y2 + y1)), (0, .ref (ad 6)), (1, .int y1), (3, .int y3)]) Z dX3_writePlaces_85 (by decide) rfl ?_
      refine g_goto (pc := 86) (tgt := 2) Z dX3_writePlaces_86 (by decide) ?_
      refine g_locals (lv2 := [(0, .ref (ad 6)), (2, .int (y2 + y1))]) [1, 0] rfl ?_
      exact hK _ _ hf
    · replace hf := gIfN c1 hf
      refine g_aload_n (pc := 35) Z 0 dX3_writePlaces_35 rfl ?_
      refine g_get (pc := 36) (v := .ref (ad 1)) (T := TX3) (N := 4) Z 0 0 dX3_writePlaces_36 (mm ww67) inx_X3 rfl (by decide) rfl rfl rfl ?_
      refine g_bipush (pc := 39) (v := 16) Z dX3_writePlaces_39 (by decide) ?_
      refine g_iload_n (pc := 41) Z 3 dX3_writePlaces_41 rfl ?_
      refine g_iadd (pc := 42) Z dX3_writePlaces_42 ?_
      obtain ⟨x2, h3, hf⟩ := Option.bind_eq_some_iff.mp hf
      refine g_calll (pc := 43) (ws2 := fun u => (wL ad ca vL ++ wD ad ca vD)) (wr := (wL ad ca vL)) Z [1, 2, 3, 4, 5] [0] [0, 1, 2, 3, 4, 5] (g_runV Z (c_Disk_read l D ad ca vD ((16 : Int32) + y3) x2 h3) (cwV 1 Z.2.2.2.2.1 (gg_V ww68 ww61 ww62 ww16 ww63) rfl rfl rfl (yv_of rfl yd_Disk_read) ⟨Nat.le_of_ble_eq_true rfl, Nat.le_of_ble_eq_true rfl⟩) [1, 2, 3, 4, 5] rfl (by decide) 0 rfl rfl rfl rfl rfl (Nat.le_of_ble_eq_true rfl) dX3_writePlaces_43 ⟨Nat.le_of_ble_eq_true rfl, Nat.le_of_ble_eq_true rfl⟩) rfl rfl (by decide) (by decide) (by decide) (fun _ => rfl) (fun r u hu => ?_)
      obtain rfl := hu.symm
      refine g_l2i (pc := 46) Z dX3_writePlaces_46 ?_
      refine g_istore (pc := 47) (lv' := [(4, .int x2.toInt32), (0, .ref (ad 6)), (1, .int y1), (2, .int y2), (3, .int y3)]) Z dX3_writePlaces_47 (by decide) rfl ?_
      refine g_aload_n (pc := 49) Z 1 dX3_writePlaces_49 rfl ?_
      refine g_get (pc := 50) (v := .ref (ad 1)) (T := TX3) (N := 4) Z 0 0 dX3_writePlaces_50 (mm ww67) inx_X3 rfl (by decide) rfl rfl rfl ?_
      refine g_iload (pc := 53) Z 0 dX3_writePlaces_53 rfl ?_
      refine g_aload_n (pc := 55) Z 1 dX3_writePlaces_55 rfl ?_
      refine g_get (pc := 56) (v := .ref (ad 1)) (T := TX3) (N := 4) Z 0 0 dX3_writePlaces_56 (mm ww67) inx_X3 rfl (by decide) rfl rfl rfl ?_
      refine g_bipush (pc := 59) (v := 16) Z dX3_writePlaces_59 (by decide) ?_
      refine g_iload_n (pc := 61) Z 4 dX3_writePlaces_61 rfl ?_
      refine g_iadd (pc := 62) Z dX3_writePlaces_62 ?_
      refine g_iconst (pc := 63) (v := 1) Z dX3_writePlaces_63 (by decide) ?_
      refine g_iadd (pc := 64) Z dX3_writePlaces_64 ?_
      obtain ⟨x4, h5, hf⟩ := Option.bind_eq_some_iff.mp hf
      refine g_calll (pc := 65) (ws2 := fun u => (wL ad ca vL ++ wD ad ca vD)) (wr := (wL ad ca vL)) Z [1, 2, 3, 4, 5] [0] [0, 1, 2, 3, 4, 5] (g_runV Z (c_Disk_read l D ad ca vD (((16 : Int32) + y3) + (1 : Int32)) x4 h5) (cwV 1 Z.2.2.2.2.1 (gg_V ww68 ww61 ww62 ww16 ww63) rfl rfl rfl (yv_of rfl yd_Disk_read) ⟨Nat.le_of_ble_eq_true rfl, Nat.le_of_ble_eq_true rfl⟩) [1, 2, 3, 4, 5] rfl (by decide) 0 rfl rfl rfl rfl rfl (Nat.le_of_ble_eq_true rfl) dX3_writePlaces_65 ⟨Nat.le_of_ble_eq_true rfl, Nat.le_of_ble_eq_true rfl⟩) rfl rfl (by decide) (by decide) (by decide) (fun _ => rfl) (fun r u hu => ?_)
      obtain rfl := hu.symm
      obtain ⟨x6, h7, hf⟩ := Option.bind_eq_some_iff.mp hf
      refine g_calli (pc := 68) (ws2 := fun u => (wL ad ca vL ++ wD ad ca u)) (wr := (wL ad ca vL)) Z [1, 2, 3, 4, 5] [0] [0, 1, 2, 3, 4, 5] (g_runV Z (c_Disk_write l D ad ca N vD x2.toInt32 x4 x6 h7) (cwV 2 Z.2.2.2.2.1 (gg_V ww79 ww80 ww81 ww16 ww82) rfl rfl rfl (yv_of rfl yd_Disk_write) ⟨Nat.le_of_ble_eq_true rfl, Nat.le_of_ble_eq_true rfl⟩) [1, 2, 3, 4, 5] rfl (by decide) 0 rfl rfl rfl rfl rfl (Nat.le_of_ble_eq_true rfl) dX3_writePlaces_68 ⟨Nat.le_of_ble_eq_true rfl, Nat.le_of_ble_eq_true rfl⟩) rfl rfl (by decide) (by decide) (by decide) (fun _ => rfl) (fun r u hu => ?_)
      obtain ⟨rfl, rfl⟩ := hu
      refine g_if_ne (pc := 71) (tgt := 76) Z dX3_writePlaces_71 (by decide) (fun c8 => ?_) (fun c8 => ?_)
      · replace hf := gIfP (bI_nz c8) hf
        refine g_iinc (pc := 76) (v := y3 + (2 : Int32)) (lv' := [(3, .int (y3 + (2 : Int32))), (4, .int x2.toInt32), (0, .ref (ad 6)), (1, .int y1), (2, .int y2)]) Z 4 dX3_writePlaces_76 rfl rfl (by decide) rfl ?_
        refine g_goto (pc := 79) (tgt := 26) Z dX3_writePlaces_79 (by decide) ?_
        refine g_locals (lv2 := [(0, .ref (ad 6)), (1, .int y1), (2, .int y2), (3, .int (y3 + (2 : Int32)))]) [2, 3, 4, 0] rfl ?_
        exact ih _ _ _ _ hf
      · replace hf := gIfN (bI_z c8) hf
        refine g_iconst (pc := 74) (v := 0) Z dX3_writePlaces_74 (by decide) ?_
        obtain rfl := Option.some.inj hf
        exact g_zret Z hr rfl dX3_writePlaces_75 x6.2 ⟨rfl, rfl⟩ rfl
set_option maxHeartbeats 4000000 in
set_option maxRecDepth 100000 in
theorem w_Log_writePlaces_2 {p : Program} {l : Launch} {e : Env} {s : State} {m : MethodId} {args : Array Value} {below : List Frame} {meth : Method} {c : Code} {D : va_G} {ad : Nat → Nat} {ca : Nat → ClassId} {A : Nat → Prop} {N : Nat} {vL : LT} {res : Bool × DT} (Z : gZ p s m args meth c cX3_writePlaces 5 RX3 (cd_Log_writePlaces :: gA) A D cls (tys ca)) (hr : meth.sig.returnType = (some .boolean)) : ∀ (n : Nat) (vD : DT) (y2 : Int32), f_Log_writePlaces_2 N vL n vD y2 = some res → gW p l e rm_Log_writePlaces s m args below meth c 5 A D cls 0 0 (MQ below (q_Log_writePlaces D ad ca vL res A) args s 0 0 A) (wL ad ca vL ++ wD ad ca vD) [(0, .ref (ad 6)), (2, .int y2)] 2 [] := by
  intro n
  induction n with
  | zero =>
    intro vD y2 hf
    exact absurd hf (by rw [f_Log_writePlaces_2]; exact fun h => by cases h)
  | succ n ih =>
    intro vD y2 hf
    rw [f_Log_writePlaces_2] at hf
    refine g_iload_n (pc := 2) Z 1 dX3_writePlaces_2 rfl ?_
    refine g_aload_n (pc := 3) Z 0 dX3_writePlaces_3 rfl ?_
    refine g_get (pc := 4) (v := .int vL.1) (T := TX3) (N := 4) Z 0 1 dX3_writePlaces_4 (mm ww65) inx_X3 rfl (by decide) rfl rfl rfl ?_
    refine g_icmp_ge (pc := 7) (tgt := 89) Z dX3_writePlaces_7 (by decide) (fun c9 => ?_) (fun c9 => ?_)
    · replace hf := gIfP c9 hf
      refine g_iconst (pc := 89) (v := 1) Z dX3_writePlaces_89 (by decide) ?_
      obtain rfl := Option.some.inj hf
      exact g_zret Z hr rfl dX3_writePlaces_90 vD ⟨rfl, rfl⟩ rfl
    · replace hf := gIfN c9 hf
      refine g_aload_n (pc := 10) Z 0 dX3_writePlaces_10 rfl ?_
      refine g_iload_n (pc := 11) Z 1 dX3_writePlaces_11 rfl ?_
      obtain ⟨x10, h11, hf⟩ := Option.bind_eq_some_iff.mp hf
      refine g_calli (pc := 12) (ws2 := fun u => (wL ad ca vL ++ wD ad ca vD)) (wr := ([] : va_W)) Z [0, 1, 2, 3, 4, 5] [] [0, 1, 2, 3, 4, 5] (g_runV Z (c_Log_commitSize l D ad ca vL vD y2 x10 h11) (cwV 1 Z.2.2.2.2.1 (gg_V ww75 ww76 ww77 ww72 ww78) rfl rfl rfl (yv_of rfl yd_Log_commitSize) ⟨Nat.le_of_ble_eq_true rfl, Nat.le_of_ble_eq_true rfl⟩) [0, 1, 2, 3, 4, 5] rfl (by decide) 0 rfl rfl rfl rfl rfl (Nat.le_of_ble_eq_true rfl) dX3_writePlaces_12 ⟨Nat.le_of_ble_eq_true rfl, Nat.le_of_ble_eq_true rfl⟩) rfl rfl (by decide) (by decide) (by decide) (fun _ => rfl) (fun r u hu => ?_)
      obtain rfl := hu.symm
      refine g_istore_n (pc := 15) (lv' := [(1, .int x10), (0, .ref (ad 6)), (2, .int y2)]) Z dX3_writePlaces_15 (by decide) rfl ?_
      refine g_iload_n (pc := 16) Z 0 dX3_writePlaces_16 rfl ?_
      refine g_if_ne (pc := 17) (tgt := 22) Z dX3_writePlaces_17 (by decide) (fun c12 => ?_) (fun c12 => ?_)
      · replace hf := gIfN c12 hf
        refine g_iload_n (pc := 22) Z 2 dX3_writePlaces_22 rfl ?_
        refine g_iconst (pc := 23) (v := 1) Z dX3_writePlaces_23 (by decide) ?_
        refine g_iadd (pc := 24) Z dX3_writePlaces_24 ?_
        refine g_istore_n (pc := 25) (lv' := [(3, .int (y2 + (1 : Int32))), (1, .int x10), (0, .ref (ad 6)), (2, .int y2)]) Z dX3_writePlaces_25 (by decide) rfl ?_
        refine g_locals (lv2 := [(0, .ref (ad 6)), (1, .int x10), (2, .int y2), (3, .int (y2 + (1 : Int32)))]) [2, 1, 3, 0] rfl ?_
        exact w_Log_writePlaces_26 Z hr (fun z0 z1 hf => ih z0 z1 hf) N _ _ _ _ hf
      · replace hf := gIfP c12 hf
        refine g_iconst (pc := 20) (v := 1) Z dX3_writePlaces_20 (by decide) ?_
        obtain rfl := Option.some.inj hf
        exact g_zret Z hr rfl dX3_writePlaces_21 vD ⟨rfl, rfl⟩ rfl
set_option maxHeartbeats 4000000 in
set_option maxRecDepth 100000 in
theorem c_Log_writePlaces (l : Launch) (D : va_G) (ad : Nat → Nat) (ca : Nat → ClassId) (N : Nat) (vL : LT) (vD : DT) (res : Bool × DT) (hf : f_Log_writePlaces N vL vD = some res) (sz : Nat) : Met l yX3_writePlaces (cd_Log_writePlaces :: gA) rm_Log_writePlaces (va_Pc [.ref (ad 6)] (gP D cls (tys ca) (wL ad ca vL ++ wD ad ca vD) sz)) (q_Log_writePlaces D ad ca vL res (va_A (wL ad ca vL ++ wD ad ca vD) sz)) 0 0 (va_A (wL ad ca vL ++ wD ad ca vD) sz) := by
  refine g_met (cc := cX3_writePlaces) (Qc := q_Log_writePlaces D ad ca vL res) (lv := [(0, .ref (ad 6))]) (own := RX3) (by decide) rfl rfl (Nat.le_of_ble_eq_true rfl) rfl sz ?_
  intro p e s m args below meth c A Z hr hnm
  unfold f_Log_writePlaces at hf
  refine g_iconst (pc := 0) (v := 0) Z dX3_writePlaces_0 (by decide) ?_
  refine g_istore_n (pc := 1) (lv' := [(2, .int (0 : Int32)), (0, .ref (ad 6))]) Z dX3_writePlaces_1 (by decide) rfl ?_
  refine g_locals (lv2 := [(0, .ref (ad 6)), (2, .int (0 : Int32))]) [1, 0] rfl ?_
  exact w_Log_writePlaces_2 Z hr N _ _ hf
theorem ww83 : Cond.methodLink RX3 50 yX3_writePlaces ∈ gA := wt2 168 rfl rfl
theorem ww84 : Cond.instanceMethod yX3_writePlaces ∈ gA := wt2 170 rfl rfl
theorem ww85 : Cond.selects RX3 yX3_writePlaces yX3_writePlaces ∈ gA := wtS 10 rfl rfl
theorem ww86 : cd_Log_writePlaces ∈ gA := wt2 171 rfl rfl
theorem ww87 : Cond.methodLink RX3 47 yX2_settleAll ∈ gA := wt2 205 rfl rfl
theorem ww88 : Cond.instanceMethod yX2_settleAll ∈ gA := wt2 206 rfl rfl
theorem ww89 : Cond.selects RX2 yX2_settleAll yX2_settleAll ∈ gA := wt2 207 rfl rfl
theorem ww90 : cd_Disk_settleAll ∈ gA := wt2 208 rfl rfl
theorem ww91 : Cond.fieldLink RX3 19 "RedoHeap$Log" "commits" "I" ∈ gA := wt1 76 rfl rfl
/-! RedoHeap$Log.carryOut(I)Z -/
def f_Log_carryOut_40 (N : Nat) : Nat → LT → DT → Int32 → Int32 → Option (Bool × LT × DT)
  | 0, _, _, _, _ => none
  | n + 1, vL, vD, y1, y2 => if y1 ≤ y2 then (f_Disk_read vD (0 : Int32)).bind fun x2 => (f_Disk_write N vD (0 : Int32) (x2 + (1 : Int64))).bind fun x4 => if x4.1 = true then (f_Disk_settleAll N x4.2).bind fun x7 => some (true, ((0 : Int32), (0 : Int32), vL.2.2), x7) else some (false, vL, x4.2) else (f_Disk_write N vD ((16 : Int32) + y2) (0 : Int64)).bind fun x9 => if x9.1 = true then f_Log_carryOut_40 N n vL x9.2 y1 (y2 + (1 : Int32)) else some (false, vL, x9.2)
def f_Log_carryOut (N : Nat) (vL : LT) (vD : DT) (p1 : Int32) : Option (Bool × LT × DT) :=
  if p1 = 0 then some (true, vL, vD) else (f_Log_writePlaces N vL vD).bind fun x13 => if x13.1 = true then (f_Disk_write N x13.2 (2 : Int32) vL.2.2.toInt64).bind fun x16 => if x16.1 = true then (f_Disk_settleAll N x16.2).bind fun x19 => f_Log_carryOut_40 N N vL x19 p1 (0 : Int32) else some (false, vL, x16.2) else some (false, vL, x13.2)
abbrev cd_Log_carryOut : Cond := .code yX3_carryOut cX3_carryOut 3 (some .boolean)
theorem yd_Log_carryOut : yX3_carryOut.cls ≠ "java/lang/invoke/MethodHandle" ∧ yX3_carryOut.cls ≠ "java/lang/invoke/VarHandle" ∧ (parseMethodDescriptor yX3_carryOut.desc).map (fun d => d.parameters.length) = some 1 := by decide +kernel
abbrev rm_Log_carryOut : Room := { frames := 5, cells := 0, slots := 0, locals := 129 }
abbrev q_Log_carryOut (D : va_G) (ad : Nat → Nat) (ca : Nat → ClassId) (res : Bool × LT × DT) (A : Nat → Prop) : Array Value → State → Outcome → State → Prop := va_Qi (fun (r : Int32) (u : LT × DT) => r = bI res.1 ∧ u = res.2) (gB D cls (tys ca) A (fun (u : LT × DT) => (wL ad ca u.1 ++ wD ad ca u.2))) A
set_option maxHeartbeats 4000000 in
set_option maxRecDepth 100000 in
theorem w_Log_carryOut_40 {p : Program} {l : Launch} {e : Env} {s : State} {m : MethodId} {args : Array Value} {below : List Frame} {meth : Method} {c : Code} {D : va_G} {ad : Nat → Nat} {ca : Nat → ClassId} {A : Nat → Prop} {N : Nat} {res : Bool × LT × DT} (Z : gZ p s m args meth c cX3_carryOut 3 RX3 (cd_Log_carryOut :: gA) A D cls (tys ca)) (hr : meth.sig.returnType = (some .boolean)) : ∀ (n : Nat) (vL : LT) (vD : DT) (y1 : Int32) (y2 : Int32), f_Log_carryOut_40 N n vL vD y1 y2 = some res → gW p l e rm_Log_carryOut s m args below meth c 3 A D cls 0 0 (MQ below (q_Log_carryOut D ad ca res A) args s 0 0 A) (wL ad ca vL ++ wD ad ca vD) [(0, .ref (ad 6)), (1, .int y1), (2, .int y2)] 40 [] := by
  intro n
  induction n with
  | zero =>
    intro vL vD y1 y2 hf
    exact absurd hf (by rw [f_Log_carryOut_40]; exact fun h => by cases h)
  | succ n ih =>
    intro vL vD y1 y2 hf
    rw [f_Log_carryOut_40] at hf
    refine g_iload_n (pc := 40) Z 2 dX3_carryOut_40 rfl ?_
    refine g_iload_n (pc := 41) Z 1 dX3_carryOut_41 rfl ?_
    refine g_icmp_ge (pc := 42) (tgt := 68) Z dX3_carryOut_42 (by decide) (fun c1 => ?_) (fun c1 => ?_)
    · replace hf := gIfP c1 hf
      refine g_aload_n (pc := 68) Z 0 dX3_carryOut_68 rfl ?_
      refine g_get (pc := 69) (v := .ref (ad 1)) (T := TX3) (N := 4) Z 0 0 dX3_carryOut_69 (mm ww67) inx_X3 rfl (by decide) rfl rfl rfl ?_
      refine g_iconst (pc := 72) (v := 0) Z dX3_carryOut_72 (by decide) ?_
      refine g_aload_n (pc := 73) Z 0 dX3_carryOut_73 rfl ?_
      refine g_get (pc := 74) (v := .ref (ad 1)) (T := TX3) (N := 4) Z 0 0 dX3_carryOut_74 (mm ww67) inx_X3 rfl (by decide) rfl rfl rfl ?_
      refine g_iconst (pc := 77) (v := 0) Z dX3_carryOut_77 (by decide) ?_
      obtain ⟨x2, h3, hf⟩ := Option.bind_eq_some_iff.mp hf
      refine g_calll (pc := 78) (ws2 := fun u => (wL ad ca vL ++ wD ad ca vD)) (wr := (wL ad ca vL)) Z [1, 2, 3, 4, 5] [0] [0, 1, 2, 3, 4, 5] (g_runV Z (c_Disk_read l D ad ca vD (0 : Int32) x2 h3) (cwV 1 Z.2.2.2.2.1 (gg_V ww68 ww61 ww62 ww16 ww63) rfl rfl rfl (yv_of rfl yd_Disk_read) ⟨Nat.le_of_ble_eq_true rfl, Nat.le_of_ble_eq_true rfl⟩) [1, 2, 3, 4, 5] rfl (by decide) 0 rfl rfl rfl rfl rfl (Nat.le_of_ble_eq_true rfl) dX3_carryOut_78 ⟨Nat.le_of_ble_eq_true rfl, Nat.le_of_ble_eq_true rfl⟩) rfl rfl (by decide) (by decide) (by decide) (fun _ => rfl) (fun r u hu => ?_)
      obtain rfl := hu.symm
      refine g_lconst (pc := 81) (v := 1) Z dX3_carryOut_81 (by decide) ?_
      refine g_ladd (pc := 82) Z dX3_carryOut_82 ?_
      obtain ⟨x4, h5, hf⟩ := Option.bind_eq_some_iff.mp hf
      refine g_calli (pc := 83) (ws2 := fun u => (wL ad ca vL ++ wD ad ca u)) (wr := (wL ad ca vL)) Z [1, 2, 3, 4, 5] [0] [0, 1, 2, 3, 4, 5] (g_runV Z (c_Disk_write l D ad ca N vD (0 : Int32) (x2 + (1 : Int64)) x4 h5) (cwV 2 Z.2.2.2.2.1 (gg_V ww79 ww80 ww81 ww16 ww82) rfl rfl rfl (yv_of rfl yd_Disk_write) ⟨Nat.le_of_ble_eq_true rfl, Nat.le_of_ble_eq_true rfl⟩) [1, 2, 3, 4, 5] rfl (by decide) 0 rfl rfl rfl rfl rfl (Nat.le_of_ble_eq_true rfl) dX3_carryOut_83 ⟨Nat.le_of_ble_eq_true rfl, Nat.le_of_ble_eq_true rfl⟩) rfl rfl (by decide) (by decide) (by decide) (fun _ => rfl) (fun r u hu => ?_)
      obtain ⟨rfl, rfl⟩ := hu
      refine g_if_ne (pc := 86) (tgt := 91) Z dX3_carryOut_86 (by decide) (fun c6 => ?_) (fun c6 => ?_)
      · replace hf := gIfP (bI_nz c6) hf
        refine g_aload_n (pc := 91) Z 0 dX3_carryOut_91 rfl ?_
        refine g_get (pc := 92) (v := .ref (ad 1)) (T := TX3) (N := 4) Z 0 0 dX3_carryOut_92 (mm ww67) inx_X3 rfl (by decide) rfl rfl rfl ?_
        obtain ⟨x7, h8, hf⟩ := Option.bind_eq_some_iff.mp hf
        refine g_callv (pc := 95) (ws2 := fun u => (wL ad ca vL ++ wD ad ca u)) (wr := (wL ad ca vL)) Z [1, 2, 3, 4, 5] [0] [0, 1, 2, 3, 4, 5] (g_runV Z (c_Disk_settleAll l D ad ca N x4.2 x7 h8) (cwV 0 Z.2.2.2.2.1 (gg_V ww87 ww88 ww89 ww16 ww90) rfl rfl rfl (yv_of rfl yd_Disk_settleAll) ⟨Nat.le_of_ble_eq_true rfl, Nat.le_of_ble_eq_true rfl⟩) [1, 2, 3, 4, 5] rfl (by decide) 0 rfl rfl rfl rfl rfl (Nat.le_of_ble_eq_true rfl) dX3_carryOut_95 ⟨Nat.le_of_ble_eq_true rfl, Nat.le_of_ble_eq_true rfl⟩) rfl rfl (by decide) (by decide) (by decide) (fun _ => rfl) (fun u hu => ?_)
        obtain rfl := hu.symm
        refine g_aload_n (pc := 98) Z 0 dX3_carryOut_98 rfl ?_
        refine g_iconst (pc := 99) (v := 0) Z dX3_carryOut_99 (by decide) ?_
        refine g_put (pc := 100) (T := TX3) (N := 4) (ws' := (wL ad ca ((0 : Int32), vL.2.1, vL.2.2) ++ wD ad ca x7)) Z 0 1 dX3_carryOut_100 (mm ww65) inx_X3 tyX3_ok nmX3 rfl (by decide) rfl rfl rfl rfl rfl rfl (Nat.le_of_ble_eq_true rfl) rfl ?_
        refine g_aload_n (pc := 103) Z 0 dX3_carryOut_103 rfl ?_
        refine g_iconst (pc := 104) (v := 0) Z dX3_carryOut_104 (by decide) ?_
        refine g_put (pc := 105) (T := TX3) (N := 4) (ws' := (wL ad ca ((0 : Int32), (0 : Int32), vL.2.2) ++ wD ad ca x7)) Z 0 2 dX3_carryOut_105 (mm ww91) inx_X3 tyX3_ok nmX3 rfl (by decide) rfl rfl rfl rfl rfl rfl (Nat.le_of_ble_eq_true rfl) rfl ?_
        refine g_iconst (pc := 108) (v := 1) Z dX3_carryOut_108 (by decide) ?_
        obtain rfl := Option.some.inj hf
        exact g_zret Z hr rfl dX3_carryOut_109 (((0 : Int32), (0 : Int32), vL.2.2), x7) ⟨rfl, rfl⟩ rfl
      · replace hf := gIfN (bI_z c6) hf
        refine g_iconst (pc := 89) (v := 0) Z dX3_carryOut_89 (by decide) ?_
        obtain rfl := Option.some.inj hf
        exact g_zret Z hr rfl dX3_carryOut_90 (vL, x4.2) ⟨rfl, rfl⟩ rfl
    · replace hf := gIfN c1 hf
      refine g_aload_n (pc := 45) Z 0 dX3_carryOut_45 rfl ?_
      refine g_get (pc := 46) (v := .ref (ad 1)) (T := TX3) (N := 4) Z 0 0 dX3_carryOut_46 (mm ww67) inx_X3 rfl (by decide) rfl rfl rfl ?_
      refine g_bipush (pc := 49) (v := 16) Z dX3_carryOut_49 (by decide) ?_
      refine g_iload_n (pc := 51) Z 2 dX3_carryOut_51 rfl ?_
      refine g_iadd (pc := 52) Z dX3_carryOut_52 ?_
      refine g_lconst (pc := 53) (v := 0) Z dX3_carryOut_53 (by decide) ?_
      obtain ⟨x9, h10, hf⟩ := Option.bind_eq_some_iff.mp hf
      refine g_calli (pc := 54) (ws2 := fun u => (wL ad ca vL ++ wD ad ca u)) (wr := (wL ad ca vL)) Z [1, 2, 3, 4, 5] [0] [0, 1, 2, 3, 4, 5] (g_runV Z (c_Disk_write l D ad ca N vD ((16 : Int32) + y2) (0 : Int64) x9 h10) (cwV 2 Z.2.2.2.2.1 (gg_V ww79 ww80 ww81 ww16 ww82) rfl rfl rfl (yv_of rfl yd_Disk_write) ⟨Nat.le_of_ble_eq_true rfl, Nat.le_of_ble_eq_true rfl⟩) [1, 2, 3, 4, 5] rfl (by decide) 0 rfl rfl rfl rfl rfl (Nat.le_of_ble_eq_true rfl) dX3_carryOut_54 ⟨Nat.le_of_ble_eq_true rfl, Nat.le_of_ble_eq_true rfl⟩) rfl rfl (by decide) (by decide) (by decide) (fun _ => rfl) (fun r u hu => ?_)
      obtain ⟨rfl, rfl⟩ := hu
      refine g_if_ne (pc := 57) (tgt := 62) Z dX3_carryOut_57 (by decide) (fun c11 => ?_) (fun c11 => ?_)
      · replace hf := gIfP (bI_nz c11) hf
        refine g_iinc (pc := 62) (v := y2 + (1 : Int32)) (lv' := [(2, .int (y2 + (1 : Int32))), (0, .ref (ad 6)), (1, .int y1)]) Z 2 dX3_carryOut_62 rfl rfl (by decide) rfl ?_
        refine g_goto (pc := 65) (tgt := 40) Z dX3_carryOut_65 (by decide) ?_
        refine g_locals (lv2 := [(0, .ref (ad 6)), (1, .int y1), (2, .int (y2 + (1 : Int32)))]) [1, 2, 0] rfl ?_
        exact ih _ _ _ _ hf
      · replace hf := gIfN (bI_z c11) hf
        refine g_iconst (pc := 60) (v := 0) Z dX3_carryOut_60 (by decide) ?_
        obtain rfl := Option.some.inj hf
        exact g_zret Z hr rfl dX3_carryOut_61 (vL, x9.2) ⟨rfl, rfl⟩ rfl
set_option maxHeartbeats 4000000 in
set_option maxRecDepth 100000 in
theorem c_Log_carryOut (l : Launch) (D : va_G) (ad : Nat → Nat) (ca : Nat → ClassId) (N : Nat) (vL : LT) (vD : DT) (p1 : Int32) (res : Bool × LT × DT) (hf : f_Log_carryOut N vL vD p1 = some res) (sz : Nat) : Met l yX3_carryOut (cd_Log_carryOut :: gA) rm_Log_carryOut (va_Pc [.ref (ad 6), .int p1] (gP D cls (tys ca) (wL ad ca vL ++ wD ad ca vD) sz)) (q_Log_carryOut D ad ca res (va_A (wL ad ca vL ++ wD ad ca vD) sz)) 0 0 (va_A (wL ad ca vL ++ wD ad ca vD) sz) := by
  refine g_met (cc := cX3_carryOut) (Qc := q_Log_carryOut D ad ca res) (lv := [(0, .ref (ad 6)), (1, .int p1)]) (own := RX3) (by decide) rfl rfl (Nat.le_of_ble_eq_true rfl) rfl sz ?_
  intro p e s m args below meth c A Z hr hnm
  unfold f_Log_carryOut at hf
  refine g_iload_n (pc := 0) Z 1 dX3_carryOut_0 rfl ?_
  refine g_if_ne (pc := 1) (tgt := 6) Z dX3_carryOut_1 (by decide) (fun c12 => ?_) (fun c12 => ?_)
  · replace hf := gIfN c12 hf
    refine g_aload_n (pc := 6) Z 0 dX3_carryOut_6 rfl ?_
    obtain ⟨x13, h14, hf⟩ := Option.bind_eq_some_iff.mp hf
    refine g_calli (pc := 7) (ws2 := fun u => (wL ad ca vL ++ wD ad ca u)) (wr := ([] : va_W)) Z [0, 1, 2, 3, 4, 5] [] [0, 1, 2, 3, 4, 5] (g_runV Z (c_Log_writePlaces l D ad ca N vL vD x13 h14) (cwV 0 Z.2.2.2.2.1 (gg_V ww83 ww84 ww85 ww72 ww86) rfl rfl rfl (yv_of rfl yd_Log_writePlaces) ⟨Nat.le_of_ble_eq_true rfl, Nat.le_of_ble_eq_true rfl⟩) [0, 1, 2, 3, 4, 5] rfl (by decide) 0 rfl rfl rfl rfl rfl (Nat.le_of_ble_eq_true rfl) dX3_carryOut_7 ⟨Nat.le_of_ble_eq_true rfl, Nat.le_of_ble_eq_true rfl⟩) rfl rfl (by decide) (by decide) (by decide) (fun _ => rfl) (fun r u hu => ?_)
    obtain ⟨rfl, rfl⟩ := hu
    refine g_if_eq (pc := 10) (tgt := 29) Z dX3_carryOut_10 (by decide) (fun c15 => ?_) (fun c15 => ?_)
    · replace hf := gIfN (bI_z c15) hf
      refine g_iconst (pc := 29) (v := 0) Z dX3_carryOut_29 (by decide) ?_
      obtain rfl := Option.some.inj hf
      exact g_zret Z hr rfl dX3_carryOut_30 (vL, x13.2) ⟨rfl, rfl⟩ rfl
    · replace hf := gIfP (bI_nz c15) hf
      refine g_aload_n (pc := 13) Z 0 dX3_carryOut_13 rfl ?_
      refine g_get (pc := 14) (v := .ref (ad 1)) (T := TX3) (N := 4) Z 0 0 dX3_carryOut_14 (mm ww67) inx_X3 rfl (by decide) rfl rfl rfl ?_
      refine g_iconst (pc := 17) (v := 2) Z dX3_carryOut_17 (by decide) ?_
      refine g_aload_n (pc := 18) Z 0 dX3_carryOut_18 rfl ?_
      refine g_get (pc := 19) (v := .int vL.2.2) (T := TX3) (N := 4) Z 0 3 dX3_carryOut_19 (mm ww64) inx_X3 rfl (by decide) rfl rfl rfl ?_
      refine g_i2l (pc := 22) Z dX3_carryOut_22 ?_
      obtain ⟨x16, h17, hf⟩ := Option.bind_eq_some_iff.mp hf
      refine g_calli (pc := 23) (ws2 := fun u => (wL ad ca vL ++ wD ad ca u)) (wr := (wL ad ca vL)) Z [1, 2, 3, 4, 5] [0] [0, 1, 2, 3, 4, 5] (g_runV Z (c_Disk_write l D ad ca N x13.2 (2 : Int32) vL.2.2.toInt64 x16 h17) (cwV 2 Z.2.2.2.2.1 (gg_V ww79 ww80 ww81 ww16 ww82) rfl rfl rfl (yv_of rfl yd_Disk_write) ⟨Nat.le_of_ble_eq_true rfl, Nat.le_of_ble_eq_true rfl⟩) [1, 2, 3, 4, 5] rfl (by decide) 0 rfl rfl rfl rfl rfl (Nat.le_of_ble_eq_true rfl) dX3_carryOut_23 ⟨Nat.le_of_ble_eq_true rfl, Nat.le_of_ble_eq_true rfl⟩) rfl rfl (by decide) (by decide) (by decide) (fun _ => rfl) (fun r u hu => ?_)
      obtain ⟨rfl, rfl⟩ := hu
      refine g_if_ne (pc := 26) (tgt := 31) Z dX3_carryOut_26 (by decide) (fun c18 => ?_) (fun c18 => ?_)
      · replace hf := gIfP (bI_nz c18) hf
        refine g_aload_n (pc := 31) Z 0 dX3_carryOut_31 rfl ?_
        refine g_get (pc := 32) (v := .ref (ad 1)) (T := TX3) (N := 4) Z 0 0 dX3_carryOut_32 (mm ww67) inx_X3 rfl (by decide) rfl rfl rfl ?_
        obtain ⟨x19, h20, hf⟩ := Option.bind_eq_some_iff.mp hf
        refine g_callv (pc := 35) (ws2 := fun u => (wL ad ca vL ++ wD ad ca u)) (wr := (wL ad ca vL)) Z [1, 2, 3, 4, 5] [0] [0, 1, 2, 3, 4, 5] (g_runV Z (c_Disk_settleAll l D ad ca N x16.2 x19 h20) (cwV 0 Z.2.2.2.2.1 (gg_V ww87 ww88 ww89 ww16 ww90) rfl rfl rfl (yv_of rfl yd_Disk_settleAll) ⟨Nat.le_of_ble_eq_true rfl, Nat.le_of_ble_eq_true rfl⟩) [1, 2, 3, 4, 5] rfl (by decide) 0 rfl rfl rfl rfl rfl (Nat.le_of_ble_eq_true rfl) dX3_carryOut_35 ⟨Nat.le_of_ble_eq_true rfl, Nat.le_of_ble_eq_true rfl⟩) rfl rfl (by decide) (by decide) (by decide) (fun _ => rfl) (fun u hu => ?_)
        obtain rfl := hu.symm
        refine g_iconst (pc := 38) (v := 0) Z dX3_carryOut_38 (by decide) ?_
        refine g_istore_n (pc := 39) (lv' := [(2, .int (0 : Int32)), (0, .ref (ad 6)), (1, .int p1)]) Z dX3_carryOut_39 (by decide) rfl ?_
        refine g_locals (lv2 := [(0, .ref (ad 6)), (1, .int p1), (2, .int (0 : Int32))]) [1, 2, 0] rfl ?_
        exact w_Log_carryOut_40 Z hr N _ _ _ _ hf
      · replace hf := gIfN (bI_z c18) hf
        refine g_iconst (pc := 29) (v := 0) Z dX3_carryOut_29 (by decide) ?_
        obtain rfl := Option.some.inj hf
        exact g_zret Z hr rfl dX3_carryOut_30 (vL, x16.2) ⟨rfl, rfl⟩ rfl
  · replace hf := gIfP c12 hf
    refine g_iconst (pc := 4) (v := 1) Z dX3_carryOut_4 (by decide) ?_
    obtain rfl := Option.some.inj hf
    exact g_zret Z hr rfl dX3_carryOut_5 (vL, vD) ⟨rfl, rfl⟩ rfl
theorem ww92 : Cond.methodLink RX3 25 yX1_size ∈ gA := wt2 213 rfl rfl
theorem ww93 : Cond.instanceMethod yX1_size ∈ gA := wt2 141 rfl rfl
theorem ww94 : Cond.selects RX1 yX1_size yX1_size ∈ gA := wt2 142 rfl rfl
theorem ww95 : cd_Chg_size ∈ gA := wt2 143 rfl rfl
theorem ww96 : Cond.methodLink RX3 64 yX1_place ∈ gA := wt2 218 rfl rfl
theorem ww97 : Cond.methodLink RX3 67 yX1_read ∈ gA := wt2 219 rfl rfl
theorem ww98 : Cond.instanceMethod yX1_read ∈ gA := wt2 39 rfl rfl
theorem ww99 : Cond.selects RX1 yX1_read yX1_read ∈ gA := wt2 40 rfl rfl
theorem ww100 : cd_Chg_read ∈ gA := wt2 41 rfl rfl
/-! RedoHeap$Log.appendWords(LRedoHeap$Changes;I)Z -/
def f_Log_appendWords_2 (N : Nat) (vL : LT) (vC : CT) : Nat → DT → Int32 → Int32 → Option (Bool × DT)
  | 0, _, _, _ => none
  | n + 1, vD, y2, y3 => (f_Chg_size vC).bind fun x1 => if x1 ≤ y3 then some (true, vD) else (f_Chg_place vC y3).bind fun x4 => (f_Disk_write N vD (y2 + ((2 : Int32) * y3)) x4.toInt64).bind fun x6 => if x6.1 = true then (f_Chg_read vC x4).bind fun x9 => (f_Disk_write N x6.2 ((y2 + ((2 : Int32) * y3)) + (1 : Int32)) x9).bind fun x11 => if x11.1 = true then f_Log_appendWords_2 N vL vC n x11.2 y2 (y3 + (1 : Int32)) else some (false, x11.2) else some (false, x6.2)
def f_Log_appendWords (N : Nat) (vL : LT) (vD : DT) (vC : CT) (p2 : Int32) : Option (Bool × DT) :=
  f_Log_appendWords_2 N vL vC N vD p2 (0 : Int32)
abbrev cd_Log_appendWords : Cond := .code yX3_appendWords cX3_appendWords 6 (some .boolean)
theorem yd_Log_appendWords : yX3_appendWords.cls ≠ "java/lang/invoke/MethodHandle" ∧ yX3_appendWords.cls ≠ "java/lang/invoke/VarHandle" ∧ (parseMethodDescriptor yX3_appendWords.desc).map (fun d => d.parameters.length) = some 2 := by decide +kernel
abbrev rm_Log_appendWords : Room := { frames := 4, cells := 0, slots := 0, locals := 105 }
abbrev q_Log_appendWords (D : va_G) (ad : Nat → Nat) (ca : Nat → ClassId) (vL : LT) (vC : CT) (res : Bool × DT) (A : Nat → Prop) : Array Value → State → Outcome → State → Prop := va_Qi (fun (r : Int32) (u : DT) => r = bI res.1 ∧ u = res.2) (gB D cls (tys ca) A (fun (u : DT) => (wL ad ca vL ++ wD ad ca u ++ wC ad ca vC))) A
set_option maxHeartbeats 4000000 in
set_option maxRecDepth 100000 in
theorem w_Log_appendWords_2 {p : Program} {l : Launch} {e : Env} {s : State} {m : MethodId} {args : Array Value} {below : List Frame} {meth : Method} {c : Code} {D : va_G} {ad : Nat → Nat} {ca : Nat → ClassId} {A : Nat → Prop} {N : Nat} {vL : LT} {vC : CT} {res : Bool × DT} (Z : gZ p s m args meth c cX3_appendWords 6 RX3 (cd_Log_appendWords :: gA) A D cls (tys ca)) (hr : meth.sig.returnType = (some .boolean)) : ∀ (n : Nat) (vD : DT) (y2 : Int32) (y3 : Int32), f_Log_appendWords_2 N vL vC n vD y2 y3 = some res → gW p l e rm_Log_appendWords s m args below meth c 6 A D cls 0 0 (MQ below (q_Log_appendWords D ad ca vL vC res A) args s 0 0 A) (wL ad ca vL ++ wD ad ca vD ++ wC ad ca vC) [(0, .ref (ad 6)), (1, .ref (ad 7)), (2, .int y2), (3, .int y3)] 2 [] := by
  intro n
  induction n with
  | zero =>
    intro vD y2 y3 hf
    exact absurd hf (by rw [f_Log_appendWords_2]; exact fun h => by cases h)
  | succ n ih =>
    intro vD y2 y3 hf
    rw [f_Log_appendWords_2] at hf
    refine g_iload_n (pc := 2) Z 3 dX3_appendWords_2 rfl ?_
    refine g_aload_n (pc := 3) Z 1 dX3_appendWords_3 rfl ?_
    obtain ⟨x1, h2, hf⟩ := Option.bind_eq_some_iff.mp hf
    refine g_calli (pc := 4) (ws2 := fun u => (wL ad ca vL ++ wD ad ca vD ++ wC ad ca vC)) (wr := (wL ad ca vL ++ wD ad ca vD)) Z [6, 7, 8, 9, 10] [0, 1, 2, 3, 4, 5] [0, 1, 2, 3, 4, 5, 6, 7, 8, 9, 10] (g_runV Z (c_Chg_size l D ad ca vC x1 h2) (cwV 0 Z.2.2.2.2.1 (gg_V ww92 ww93 ww94 ww40 ww95) rfl rfl rfl (yv_of rfl yd_Chg_size) ⟨Nat.le_of_ble_eq_true rfl, Nat.le_of_ble_eq_true rfl⟩) [6, 7, 8, 9, 10] rfl (by decide) 0 rfl rfl rfl rfl rfl (Nat.le_of_ble_eq_true rfl) dX3_appendWords_4 ⟨Nat.le_of_ble_eq_true rfl, Nat.le_of_ble_eq_true rfl⟩) rfl rfl (by decide) (by decide) (by decide) (fun _ => rfl) (fun r u hu => ?_)
    obtain rfl := hu.symm
    refine g_icmp_ge (pc := 7) (tgt := 67) Z dX3_appendWords_7 (by decide) (fun c3 => ?_) (fun c3 => ?_)
    · replace hf := gIfP c3 hf
      refine g_iconst (pc := 67) (v := 1) Z dX3_appendWords_67 (by decide) ?_
      obtain rfl := Option.some.inj hf
      exact g_zret Z hr rfl dX3_appendWords_68 vD ⟨rfl, rfl⟩ rfl
    · replace hf := gIfN c3 hf
      refine g_aload_n (pc := 10) Z 1 dX3_appendWords_10 rfl ?_
      refine g_iload_n (pc := 11) Z 3 dX3_appendWords_11 rfl ?_
      obtain ⟨x4, h5, hf⟩ := Option.bind_eq_some_iff.mp hf
      refine g_calli (pc := 12) (ws2 := fun u => (wL ad ca vL ++ wD ad ca vD ++ wC ad ca vC)) (wr := (wL ad ca vL ++ wD ad ca vD)) Z [6, 7, 8, 9, 10] [0, 1, 2, 3, 4, 5] [0, 1, 2, 3, 4, 5, 6, 7, 8, 9, 10] (g_runV Z (c_Chg_place l D ad ca vC y3 x4 h5) (cwV 1 Z.2.2.2.2.1 (gg_V ww96 ww51 ww52 ww40 ww53) rfl rfl rfl (yv_of rfl yd_Chg_place) ⟨Nat.le_of_ble_eq_true rfl, Nat.le_of_ble_eq_true rfl⟩) [6, 7, 8, 9, 10] rfl (by decide) 0 rfl rfl rfl rfl rfl (Nat.le_of_ble_eq_true rfl) dX3_appendWords_12 ⟨Nat.le_of_ble_eq_true rfl, Nat.le_of_ble_eq_true rfl⟩) rfl rfl (by decide) (by decide) (by decide) (fun _ => rfl) (fun r u hu => ?_)
      obtain rfl := hu.symm
      refine g_istore (pc := 15) (lv' := [(4, .int x4), (0, .ref (ad 6)), (1, .ref (ad 7)), (2, .int y2), (3, .int y3)]) Z dX3_appendWords_15 (by decide) rfl ?_
      refine g_iload_n (pc := 17) Z 3 dX3_appendWords_17 rfl ?_
      refine g_iconst (pc := 18) (v := 2) Z dX3_appendWords_18 (by decide) ?_
      refine g_iload_n (pc := 19) Z 4 dX3_appendWords_19 rfl ?_
      refine g_imul (pc := 20) Z dX3_appendWords_20 ?_
      refine g_iadd (pc := 21) Z dX3_appendWords_21 ?_
      refine g_istore (pc := 22) (lv' := [(5, .int (y2 + ((2 : Int32) * y3))), (4, .int x4), (0, .ref (ad 6)), (1, .ref (ad 7)), (2, .int y2), (3, .int y3)]) Z dX3_appendWords_22 (by decide) rfl ?_
      refine g_aload_n (pc := 24) Z 2 dX3_appendWords_24 rfl ?_
      refine g_get (pc := 25) (v := .ref (ad 1)) (T := TX3) (N := 4) Z 0 0 dX3_appendWords_25 (mm ww67) inx_X3 rfl (by decide) rfl rfl rfl ?_
      refine g_iload (pc := 28) Z 0 dX3_appendWords_28 rfl ?_
      refine g_iload (pc := 30) Z 1 dX3_appendWords_30 rfl ?_
      refine g_i2l (pc := 32) Z dX3_appendWords_32 ?_
      obtain ⟨x6, h7, hf⟩ := Option.bind_eq_some_iff.mp hf
      refine g_calli (pc := 33) (ws2 := fun u => (wL ad ca vL ++ wD ad ca u ++ wC ad ca vC)) (wr := (wL ad ca vL ++ wC ad ca vC)) Z [1, 2, 3, 4, 5] [0, 6, 7, 8, 9, 10] [0, 6, 7, 8, 9, 10, 1, 2, 3, 4, 5] (g_runV Z (c_Disk_write l D ad ca N vD (y2 + ((2 : Int32) * y3)) x4.toInt64 x6 h7) (cwV 2 Z.2.2.2.2.1 (gg_V ww79 ww80 ww81 ww16 ww82) rfl rfl rfl (yv_of rfl yd_Disk_write) ⟨Nat.le_of_ble_eq_true rfl, Nat.le_of_ble_eq_true rfl⟩) [1, 2, 3, 4, 5] rfl (by decide) 0 rfl rfl rfl rfl rfl (Nat.le_of_ble_eq_true rfl) dX3_appendWords_33 ⟨Nat.le_of_ble_eq_true rfl, Nat.le_of_ble_eq_true rfl⟩) rfl rfl (by decide) (by decide) (by decide) (fun _ => rfl) (fun r u hu => ?_)
      obtain ⟨rfl, rfl⟩ := hu
      refine g_if_eq (pc := 36) (tgt := 59) Z dX3_appendWords_36 (by decide) (fun c8 => ?_) (fun c8 => ?_)
      · replace hf := gIfN (bI_z c8) hf
        refine g_iconst (pc := 59) (v := 0) Z dX3_appendWords_59 (by decide) ?_
        obtain rfl := Option.some.inj hf
        exact g_zret Z hr rfl dX3_appendWords_60 x6.2 ⟨rfl, rfl⟩ rfl
      · replace hf := gIfP (bI_nz c8) hf
        refine g_aload_n (pc := 39) Z 2 dX3_appendWords_39 rfl ?_
        refine g_get (pc := 40) (v := .ref (ad 1)) (T := TX3) (N := 4) Z 0 0 dX3_appendWords_40 (mm ww67) inx_X3 rfl (by decide) rfl rfl rfl ?_
        refine g_iload (pc := 43) Z 0 dX3_appendWords_43 rfl ?_
        refine g_iconst (pc := 45) (v := 1) Z dX3_appendWords_45 (by decide) ?_
        refine g_iadd (pc := 46) Z dX3_appendWords_46 ?_
        refine g_aload_n (pc := 47) Z 3 dX3_appendWords_47 rfl ?_
        refine g_iload (pc := 48) Z 1 dX3_appendWords_48 rfl ?_
        obtain ⟨x9, h10, hf⟩ := Option.bind_eq_some_iff.mp hf
        refine g_calll (pc := 50) (ws2 := fun u => (wL ad ca vL ++ wD ad ca x6.2 ++ wC ad ca vC)) (wr := (wL ad ca vL ++ wD ad ca x6.2)) Z [6, 7, 8, 9, 10] [0, 1, 2, 3, 4, 5] [0, 1, 2, 3, 4, 5, 6, 7, 8, 9, 10] (g_runV Z (c_Chg_read l D ad ca vC x4 x9 h10) (cwV 1 Z.2.2.2.2.1 (gg_V ww97 ww98 ww99 ww40 ww100) rfl rfl rfl (yv_of rfl yd_Chg_read) ⟨Nat.le_of_ble_eq_true rfl, Nat.le_of_ble_eq_true rfl⟩) [6, 7, 8, 9, 10] rfl (by decide) 0 rfl rfl rfl rfl rfl (Nat.le_of_ble_eq_true rfl) dX3_appendWords_50 ⟨Nat.le_of_ble_eq_true rfl, Nat.le_of_ble_eq_true rfl⟩) rfl rfl (by decide) (by decide) (by decide) (fun _ => rfl) (fun r u hu => ?_)
        obtain rfl := hu.symm
        obtain ⟨x11, h12, hf⟩ := Option.bind_eq_some_iff.mp hf
        refine g_calli (pc := 53) (ws2 := fun u => (wL ad ca vL ++ wD ad ca u ++ wC ad ca vC)) (wr := (wL ad ca vL ++ wC ad ca vC)) Z [1, 2, 3, 4, 5] [0, 6, 7, 8, 9, 10] [0, 6, 7, 8, 9, 10, 1, 2, 3, 4, 5] (g_runV Z (c_Disk_write l D ad ca N x6.2 ((y2 + ((2 : Int32) * y3)) + (1 : Int32)) x9 x11 h12) (cwV 2 Z.2.2.2.2.1 (gg_V ww79 ww80 ww81 ww16 ww82) rfl rfl rfl (yv_of rfl yd_Disk_write) ⟨Nat.le_of_ble_eq_true rfl, Nat.le_of_ble_eq_true rfl⟩) [1, 2, 3, 4, 5] rfl (by decide) 0 rfl rfl rfl rfl rfl (Nat.le_of_ble_eq_true rfl) dX3_appendWords_53 ⟨Nat.le_of_ble_eq_true rfl, Nat.le_of_ble_eq_true rfl⟩) rfl rfl (by decide) (by decide) (by decide) (fun _ => rfl) (fun r u hu => ?_)
        obtain ⟨rfl, rfl⟩ := hu
        refine g_if_ne (pc := 56) (tgt := 61) Z dX3_appendWords_56 (by decide) (fun c13 => ?_) (fun c13 => ?_)
        · replace hf := gIfP (bI_nz c13) hf
          refine g_iinc (pc := 61) (v := y3 + (1 : Int32)) (lv' := [(3, .int (y3 + (1 : Int32))), (5, .int (y2 + ((2 : Int32) * y3))), (4, .int x4), (0, .ref (ad 6)), (1, .ref (ad 7)), (2, .int y2)]) Z 5 dX3_appendWords_61 rfl rfl (by decide) rfl ?_
          refine g_goto (pc := 64) (tgt := 2) Z dX3_appendWords_64 (by decide) ?_
          refine g_locals (lv2 := [(0, .ref (ad 6)), (1, .ref (ad 7)), (2, .int y2), (3, .int (y3 + (1 : Int32)))]) [3, 4, 5, 0] rfl ?_
          exact ih _ _ _ hf
        · replace hf := gIfN (bI_z c13) hf
          refine g_iconst (pc := 59) (v := 0) Z dX3_appendWords_59 (by decide) ?_
          obtain rfl := Option.some.inj hf
          exact g_zret Z hr rfl dX3_appendWords_60 x11.2 ⟨rfl, rfl⟩ rfl
set_option maxHeartbeats 4000000 in
set_option maxRecDepth 100000 in
theorem c_Log_appendWords (l : Launch) (D : va_G) (ad : Nat → Nat) (ca : Nat → ClassId) (N : Nat) (vL : LT) (vD : DT) (vC : CT) (p2 : Int32) (res : Bool × DT) (hf : f_Log_appendWords N vL vD vC p2 = some res) (sz : Nat) : Met l yX3_appendWords (cd_Log_appendWords :: gA) rm_Log_appendWords (va_Pc [.ref (ad 6), .ref (ad 7), .int p2] (gP D cls (tys ca) (wL ad ca vL ++ wD ad ca vD ++ wC ad ca vC) sz)) (q_Log_appendWords D ad ca vL vC res (va_A (wL ad ca vL ++ wD ad ca vD ++ wC ad ca vC) sz)) 0 0 (va_A (wL ad ca vL ++ wD ad ca vD ++ wC ad ca vC) sz) := by
  refine g_met (cc := cX3_appendWords) (Qc := q_Log_appendWords D ad ca vL vC res) (lv := [(0, .ref (ad 6)), (1, .ref (ad 7)), (2, .int p2)]) (own := RX3) (by decide) rfl rfl (Nat.le_of_ble_eq_true rfl) rfl sz ?_
  intro p e s m args below meth c A Z hr hnm
  unfold f_Log_appendWords at hf
  refine g_iconst (pc := 0) (v := 0) Z dX3_appendWords_0 (by decide) ?_
  refine g_istore_n (pc := 1) (lv' := [(3, .int (0 : Int32)), (0, .ref (ad 6)), (1, .ref (ad 7)), (2, .int p2)]) Z dX3_appendWords_1 (by decide) rfl ?_
  refine g_locals (lv2 := [(0, .ref (ad 6)), (1, .ref (ad 7)), (2, .int p2), (3, .int (0 : Int32))]) [1, 2, 3, 0] rfl ?_
  exact w_Log_appendWords_2 Z hr N _ _ _ hf
theorem ww101 : Cond.methodLink RX3 41 yX3_appendWords ∈ gA := wt2 214 rfl rfl
theorem ww102 : Cond.instanceMethod yX3_appendWords ∈ gA := wt2 216 rfl rfl
theorem ww103 : Cond.selects RX3 yX3_appendWords yX3_appendWords ∈ gA := wtS 14 rfl rfl
theorem ww104 : cd_Log_appendWords ∈ gA := wt2 217 rfl rfl
theorem ww105 : Jvm.Cond.constantLong RX3 45 (-1) ∈ gA := wt2 220 rfl rfl
/-! RedoHeap$Log.append(LRedoHeap$Changes;Z)Z -/
def f_Log_append (N : Nat) (vL : LT) (vD : DT) (vC : CT) (p2 : Bool) : Option (Bool × LT × DT) :=
  (f_Chg_size vC).bind fun x1 => (f_Chg_size vC).bind fun x3 => (f_Log_front vL vD x3).bind fun x5 => (f_Disk_write N vD ((16 : Int32) + vL.1) x5).bind fun x7 => if x7.1 = true then (f_Log_appendWords N vL x7.2 vC (((16 : Int32) + vL.1) + (1 : Int32))).bind fun x10 => if x10.1 = true then (f_Disk_write N x10.2 ((((16 : Int32) + vL.1) + (1 : Int32)) + ((2 : Int32) * x1)) ((-1 : Int64) - ((vL.2.2 + (1 : Int32)).toInt64))).bind fun x13 => if x13.1 = true then if p2 = true then (f_Disk_settleAll N x13.2).bind fun x17 => some (true, ((((((16 : Int32) + vL.1) + (1 : Int32)) + ((2 : Int32) * x1)) + (1 : Int32)) - (16 : Int32), vL.2.1 + (1 : Int32), vL.2.2 + (1 : Int32)), x17) else some (true, ((((((16 : Int32) + vL.1) + (1 : Int32)) + ((2 : Int32) * x1)) + (1 : Int32)) - (16 : Int32), vL.2.1 + (1 : Int32), vL.2.2 + (1 : Int32)), x13.2) else some (false, vL, x13.2) else some (false, vL, x10.2) else some (false, vL, x7.2)
abbrev cd_Log_append : Cond := .code yX3_append cX3_append 5 (some .boolean)
theorem yd_Log_append : yX3_append.cls ≠ "java/lang/invoke/MethodHandle" ∧ yX3_append.cls ≠ "java/lang/invoke/VarHandle" ∧ (parseMethodDescriptor yX3_append.desc).map (fun d => d.parameters.length) = some 2 := by decide +kernel
abbrev rm_Log_append : Room := { frames := 5, cells := 0, slots := 0, locals := 130 }
abbrev q_Log_append (D : va_G) (ad : Nat → Nat) (ca : Nat → ClassId) (vC : CT) (res : Bool × LT × DT) (A : Nat → Prop) : Array Value → State → Outcome → State → Prop := va_Qi (fun (r : Int32) (u : LT × DT) => r = bI res.1 ∧ u = res.2) (gB D cls (tys ca) A (fun (u : LT × DT) => (wL ad ca u.1 ++ wD ad ca u.2 ++ wC ad ca vC))) A
set_option maxHeartbeats 4000000 in
set_option maxRecDepth 100000 in
theorem c_Log_append (l : Launch) (D : va_G) (ad : Nat → Nat) (ca : Nat → ClassId) (N : Nat) (vL : LT) (vD : DT) (vC : CT) (p2 : Bool) (res : Bool × LT × DT) (hf : f_Log_append N vL vD vC p2 = some res) (sz : Nat) : Met l yX3_append (cd_Log_append :: gA) rm_Log_append (va_Pc [.ref (ad 6), .ref (ad 7), .int (bI p2)] (gP D cls (tys ca) (wL ad ca vL ++ wD ad ca vD ++ wC ad ca vC) sz)) (q_Log_append D ad ca vC res (va_A (wL ad ca vL ++ wD ad ca vD ++ wC ad ca vC) sz)) 0 0 (va_A (wL ad ca vL ++ wD ad ca vD ++ wC ad ca vC) sz) := by
  refine g_met (cc := cX3_append) (Qc := q_Log_append D ad ca vC res) (lv := [(0, .ref (ad 6)), (1, .ref (ad 7)), (2, .int (bI p2))]) (own := RX3) (by decide) rfl rfl (Nat.le_of_ble_eq_true rfl) rfl sz ?_
  intro p e s m args below meth c A Z hr hnm
  unfold f_Log_append at hf
  refine g_bipush (pc := 0) (v := 16) Z dX3_append_0 (by decide) ?_
  refine g_aload_n (pc := 2) Z 0 dX3_append_2 rfl ?_
  refine g_get (pc := 3) (v := .int vL.1) (T := TX3) (N := 4) Z 0 1 dX3_append_3 (mm ww65) inx_X3 rfl (by decide) rfl rfl rfl ?_
  refine g_iadd (pc := 6) Z dX3_append_6 ?_
  refine g_istore_n (pc := 7) (lv' := [(3, .int ((16 : Int32) + vL.1)), (0, .ref (ad 6)), (1, .ref (ad 7)), (2, .int (bI p2))]) Z dX3_append_7 (by decide) rfl ?_
  refine g_iload_n (pc := 8) Z 0 dX3_append_8 rfl ?_
  refine g_iconst (pc := 9) (v := 1) Z dX3_append_9 (by decide) ?_
  refine g_iadd (pc := 10) Z dX3_append_10 ?_
  refine g_iconst (pc := 11) (v := 2) Z dX3_append_11 (by decide) ?_
  refine g_aload_n (pc := 12) Z 2 dX3_append_12 rfl ?_
  obtain ⟨x1, h2, hf⟩ := Option.bind_eq_some_iff.mp hf
  refine g_calli (pc := 13) (ws2 := fun u => (wL ad ca vL ++ wD ad ca vD ++ wC ad ca vC)) (wr := (wL ad ca vL ++ wD ad ca vD)) Z [6, 7, 8, 9, 10] [0, 1, 2, 3, 4, 5] [0, 1, 2, 3, 4, 5, 6, 7, 8, 9, 10] (g_runV Z (c_Chg_size l D ad ca vC x1 h2) (cwV 0 Z.2.2.2.2.1 (gg_V ww92 ww93 ww94 ww40 ww95) rfl rfl rfl (yv_of rfl yd_Chg_size) ⟨Nat.le_of_ble_eq_true rfl, Nat.le_of_ble_eq_true rfl⟩) [6, 7, 8, 9, 10] rfl (by decide) 0 rfl rfl rfl rfl rfl (Nat.le_of_ble_eq_true rfl) dX3_append_13 ⟨Nat.le_of_ble_eq_true rfl, Nat.le_of_ble_eq_true rfl⟩) rfl rfl (by decide) (by decide) (by decide) (fun _ => rfl) (fun r u hu => ?_)
  obtain rfl := hu.symm
  refine g_imul (pc := 16) Z dX3_append_16 ?_
  refine g_iadd (pc := 17) Z dX3_append_17 ?_
  refine g_istore (pc := 18) (lv' := [(4, .int ((((16 : Int32) + vL.1) + (1 : Int32)) + ((2 : Int32) * x1))), (3, .int ((16 : Int32) + vL.1)), (0, .ref (ad 6)), (1, .ref (ad 7)), (2, .int (bI p2))]) Z dX3_append_18 (by decide) rfl ?_
  refine g_aload_n (pc := 20) Z 2 dX3_append_20 rfl ?_
  refine g_get (pc := 21) (v := .ref (ad 1)) (T := TX3) (N := 4) Z 0 0 dX3_append_21 (mm ww67) inx_X3 rfl (by decide) rfl rfl rfl ?_
  refine g_iload_n (pc := 24) Z 1 dX3_append_24 rfl ?_
  refine g_aload_n (pc := 25) Z 2 dX3_append_25 rfl ?_
  refine g_aload_n (pc := 26) Z 3 dX3_append_26 rfl ?_
  obtain ⟨x3, h4, hf⟩ := Option.bind_eq_some_iff.mp hf
  refine g_calli (pc := 27) (ws2 := fun u => (wL ad ca vL ++ wD ad ca vD ++ wC ad ca vC)) (wr := (wL ad ca vL ++ wD ad ca vD)) Z [6, 7, 8, 9, 10] [0, 1, 2, 3, 4, 5] [0, 1, 2, 3, 4, 5, 6, 7, 8, 9, 10] (g_runV Z (c_Chg_size l D ad ca vC x3 h4) (cwV 0 Z.2.2.2.2.1 (gg_V ww92 ww93 ww94 ww40 ww95) rfl rfl rfl (yv_of rfl yd_Chg_size) ⟨Nat.le_of_ble_eq_true rfl, Nat.le_of_ble_eq_true rfl⟩) [6, 7, 8, 9, 10] rfl (by decide) 0 rfl rfl rfl rfl rfl (Nat.le_of_ble_eq_true rfl) dX3_append_27 ⟨Nat.le_of_ble_eq_true rfl, Nat.le_of_ble_eq_true rfl⟩) rfl rfl (by decide) (by decide) (by decide) (fun _ => rfl) (fun r u hu => ?_)
  obtain rfl := hu.symm
  obtain ⟨x5, h6, hf⟩ := Option.bind_eq_some_iff.mp hf
  refine g_calll (pc := 30) (ws2 := fun u => (wL ad ca vL ++ wD ad ca vD ++ wC ad ca vC)) (wr := (wC ad ca vC)) Z [0, 1, 2, 3, 4, 5] [6, 7, 8, 9, 10] [5, 6, 7, 8, 9, 10, 0, 1, 2, 3, 4] (g_runV Z (c_Log_front l D ad ca vL vD x3 x5 h6) (cwV 1 Z.2.2.2.2.1 (gg_V ww69 ww70 ww71 ww72 ww73) rfl rfl rfl (yv_of rfl yd_Log_front) ⟨Nat.le_of_ble_eq_true rfl, Nat.le_of_ble_eq_true rfl⟩) [0, 1, 2, 3, 4, 5] rfl (by decide) 0 rfl rfl rfl rfl rfl (Nat.le_of_ble_eq_true rfl) dX3_append_30 ⟨Nat.le_of_ble_eq_true rfl, Nat.le_of_ble_eq_true rfl⟩) rfl rfl (by decide) (by decide) (by decide) (fun _ => rfl) (fun r u hu => ?_)
  obtain rfl := hu.symm
  obtain ⟨x7, h8, hf⟩ := Option.bind_eq_some_iff.mp hf
  refine g_calli (pc := 33) (ws2 := fun u => (wL ad ca vL ++ wD ad ca u ++ wC ad ca vC)) (wr := (wL ad ca vL ++ wC ad ca vC)) Z [1, 2, 3, 4, 5] [0, 6, 7, 8, 9, 10] [0, 6, 7, 8, 9, 10, 1, 2, 3, 4, 5] (g_runV Z (c_Disk_write l D ad ca N vD ((16 : Int32) + vL.1) x5 x7 h8) (cwV 2 Z.2.2.2.2.1 (gg_V ww79 ww80 ww81 ww16 ww82) rfl rfl rfl (yv_of rfl yd_Disk_write) ⟨Nat.le_of_ble_eq_true rfl, Nat.le_of_ble_eq_true rfl⟩) [1, 2, 3, 4, 5] rfl (by decide) 0 rfl rfl rfl rfl rfl (Nat.le_of_ble_eq_true rfl) dX3_append_33 ⟨Nat.le_of_ble_eq_true rfl, Nat.le_of_ble_eq_true rfl⟩) rfl rfl (by decide) (by decide) (by decide) (fun _ => rfl) (fun r u hu => ?_)
  obtain ⟨rfl, rfl⟩ := hu
  refine g_if_eq (pc := 36) (tgt := 73) Z dX3_append_36 (by decide) (fun c9 => ?_) (fun c9 => ?_)
  · replace hf := gIfN (bI_z c9) hf
    refine g_iconst (pc := 73) (v := 0) Z dX3_append_73 (by decide) ?_
    obtain rfl := Option.some.inj hf
    exact g_zret Z hr rfl dX3_append_74 (vL, x7.2) ⟨rfl, rfl⟩ rfl
  · replace hf := gIfP (bI_nz c9) hf
    refine g_aload_n (pc := 39) Z 2 dX3_append_39 rfl ?_
    refine g_aload_n (pc := 40) Z 3 dX3_append_40 rfl ?_
    refine g_iload_n (pc := 41) Z 1 dX3_append_41 rfl ?_
    refine g_iconst (pc := 42) (v := 1) Z dX3_append_42 (by decide) ?_
    refine g_iadd (pc := 43) Z dX3_append_43 ?_
    obtain ⟨x10, h11, hf⟩ := Option.bind_eq_some_iff.mp hf
    refine g_calli (pc := 44) (ws2 := fun u => (wL ad ca vL ++ wD ad ca u ++ wC ad ca vC)) (wr := ([] : va_W)) Z [0, 1, 2, 3, 4, 5, 6, 7, 8, 9, 10] [] [0, 1, 2, 3, 4, 5, 6, 7, 8, 9, 10] (g_runV Z (c_Log_appendWords l D ad ca N vL x7.2 vC (((16 : Int32) + vL.1) + (1 : Int32)) x10 h11) (cwV 2 Z.2.2.2.2.1 (gg_V ww101 ww102 ww103 ww72 ww104) rfl rfl rfl (yv_of rfl yd_Log_appendWords) ⟨Nat.le_of_ble_eq_true rfl, Nat.le_of_ble_eq_true rfl⟩) [0, 1, 2, 3, 4, 5, 6, 7, 8, 9, 10] rfl (by decide) 0 rfl rfl rfl rfl rfl (Nat.le_of_ble_eq_true rfl) dX3_append_44 ⟨Nat.le_of_ble_eq_true rfl, Nat.le_of_ble_eq_true rfl⟩) rfl rfl (by decide) (by decide) (by decide) (fun _ => rfl) (fun r u hu => ?_)
    obtain ⟨rfl, rfl⟩ := hu
    refine g_if_eq (pc := 47) (tgt := 73) Z dX3_append_47 (by decide) (fun c12 => ?_) (fun c12 => ?_)
    · replace hf := gIfN (bI_z c12) hf
      refine g_iconst (pc := 73) (v := 0) Z dX3_append_73 (by decide) ?_
      obtain rfl := Option.some.inj hf
      exact g_zret Z hr rfl dX3_append_74 (vL, x10.2) ⟨rfl, rfl⟩ rfl
    · replace hf := gIfP (bI_nz c12) hf
      refine g_aload_n (pc := 50) Z 2 dX3_append_50 rfl ?_
      refine g_get (pc := 51) (v := .ref (ad 1)) (T := TX3) (N := 4) Z 0 0 dX3_append_51 (mm ww67) inx_X3 rfl (by decide) rfl rfl rfl ?_
      refine g_iload (pc := 54) Z 0 dX3_append_54 rfl ?_
      refine g_ldc2 (pc := 56) (v := -1) Z dX3_append_56 (mm ww105) ?_
      refine g_aload_n (pc := 59) Z 2 dX3_append_59 rfl ?_
      refine g_get (pc := 60) (v := .int vL.2.2) (T := TX3) (N := 4) Z 0 3 dX3_append_60 (mm ww64) inx_X3 rfl (by decide) rfl rfl rfl ?_
      refine g_iconst (pc := 63) (v := 1) Z dX3_append_63 (by decide) ?_
      refine g_iadd (pc := 64) Z dX3_append_64 ?_
      refine g_i2l (pc := 65) Z dX3_append_65 ?_
      refine g_lsub (pc := 66) Z dX3_append_66 ?_
      obtain ⟨x13, h14, hf⟩ := Option.bind_eq_some_iff.mp hf
      refine g_calli (pc := 67) (ws2 := fun u => (wL ad ca vL ++ wD ad ca u ++ wC ad ca vC)) (wr := (wL ad ca vL ++ wC ad ca vC)) Z [1, 2, 3, 4, 5] [0, 6, 7, 8, 9, 10] [0, 6, 7, 8, 9, 10, 1, 2, 3, 4, 5] (g_runV Z (c_Disk_write l D ad ca N x10.2 ((((16 : Int32) + vL.1) + (1 : Int32)) + ((2 : Int32) * x1)) ((-1 : Int64) - ((vL.2.2 + (1 : Int32)).toInt64)) x13 h14) (cwV 2 Z.2.2.2.2.1 (gg_V ww79 ww80 ww81 ww16 ww82) rfl rfl rfl (yv_of rfl yd_Disk_write) ⟨Nat.le_of_ble_eq_true rfl, Nat.le_of_ble_eq_true rfl⟩) [1, 2, 3, 4, 5] rfl (by decide) 0 rfl rfl rfl rfl rfl (Nat.le_of_ble_eq_true rfl) dX3_append_67 ⟨Nat.le_of_ble_eq_true rfl, Nat.le_of_ble_eq_true rfl⟩) rfl rfl (by decide) (by decide) (by decide) (fun _ => rfl) (fun r u hu => ?_)
      obtain ⟨rfl, rfl⟩ := hu
      refine g_if_ne (pc := 70) (tgt := 75) Z dX3_append_70 (by decide) (fun c15 => ?_) (fun c15 => ?_)
      · replace hf := gIfP (bI_nz c15) hf
        refine g_iload_n (pc := 75) Z 4 dX3_append_75 rfl ?_
        refine g_if_eq (pc := 76) (tgt := 86) Z dX3_append_76 (by decide) (fun c16 => ?_) (fun c16 => ?_)
        · replace hf := gIfN (bI_z c16) hf
          refine g_aload_n (pc := 86) Z 2 dX3_append_86 rfl ?_
          refine g_iload (pc := 87) Z 0 dX3_append_87 rfl ?_
          refine g_iconst (pc := 89) (v := 1) Z dX3_append_89 (by decide) ?_
          refine g_iadd (pc := 90) Z dX3_append_90 ?_
          refine g_bipush (pc := 91) (v := 16) Z dX3_append_91 (by decide) ?_
          refine g_isub (pc := 93) Z dX3_append_93 ?_
          refine g_put (pc := 94) (T := TX3) (N := 4) (ws' := (wL ad ca ((((((16 : Int32) + vL.1) + (1 : Int32)) + ((2 : Int32) * x1)) + (1 : Int32)) - (16 : Int32), vL.2.1, vL.2.2) ++ wD ad ca x13.2 ++ wC ad ca vC)) Z 0 1 dX3_append_94 (mm ww65) inx_X3 tyX3_ok nmX3 rfl (by decide) rfl rfl rfl rfl rfl rfl (Nat.le_of_ble_eq_true rfl) rfl ?_
          refine g_aload_n (pc := 97) Z 2 dX3_append_97 rfl ?_
          refine g_dup (pc := 98) Z dX3_append_98 rfl ?_
          refine g_get (pc := 99) (v := .int vL.2.1) (T := TX3) (N := 4) Z 0 2 dX3_append_99 (mm ww91) inx_X3 rfl (by decide) rfl rfl rfl ?_
          refine g_iconst (pc := 102) (v := 1) Z dX3_append_102 (by decide) ?_
          refine g_iadd (pc := 103) Z dX3_append_103 ?_
          refine g_put (pc := 104) (T := TX3) (N := 4) (ws' := (wL ad ca ((((((16 : Int32) + vL.1) + (1 : Int32)) + ((2 : Int32) * x1)) + (1 : Int32)) - (16 : Int32), vL.2.1 + (1 : Int32), vL.2.2) ++ wD ad ca x13.2 ++ wC ad ca vC)) Z 0 2 dX3_append_104 (mm ww91) inx_X3 tyX3_ok nmX3 rfl (by decide) rfl rfl rfl rfl rfl rfl (Nat.le_of_ble_eq_true rfl) rfl ?_
          refine g_aload_n (pc := 107) Z 2 dX3_append_107 rfl ?_
          refine g_dup (pc := 108) Z dX3_append_108 rfl ?_
          refine g_get (pc := 109) (v := .int vL.2.2) (T := TX3) (N := 4) Z 0 3 dX3_append_109 (mm ww64) inx_X3 rfl (by decide) rfl rfl rfl ?_
          refine g_iconst (pc := 112) (v := 1) Z dX3_append_112 (by decide) ?_
          refine g_iadd (pc := 113) Z dX3_append_113 ?_
          refine g_put (pc := 114) (T := TX3) (N := 4) (ws' := (wL ad ca ((((((16 : Int32) + vL.1) + (1 : Int32)) + ((2 : Int32) * x1)) + (1 : Int32)) - (16 : Int32), vL.2.1 + (1 : Int32), vL.2.2 + (1 : Int32)) ++ wD ad ca x13.2 ++ wC ad ca vC)) Z 0 3 dX3_append_114 (mm ww64) inx_X3 tyX3_ok nmX3 rfl (by decide) rfl rfl rfl rfl rfl rfl (Nat.le_of_ble_eq_true rfl) rfl ?_
          refine g_iconst (pc := 117) (v := 1) Z dX3_append_117 (by decide) ?_
          obtain rfl := Option.some.inj hf
          exact g_zret Z hr rfl dX3_append_118 (((((((16 : Int32) + vL.1) + (1 : Int32)) + ((2 : Int32) * x1)) + (1 : Int32)) - (16 : Int32), vL.2.1 + (1 : Int32), vL.2.2 + (1 : Int32)), x13.2) ⟨rfl, rfl⟩ rfl
        · replace hf := gIfP (bI_nz c16) hf
          refine g_aload_n (pc := 79) Z 2 dX3_append_79 rfl ?_
          refine g_get (pc := 80) (v := .ref (ad 1)) (T := TX3) (N := 4) Z 0 0 dX3_append_80 (mm ww67) inx_X3 rfl (by decide) rfl rfl rfl ?_
          obtain ⟨x17, h18, hf⟩ := Option.bind_eq_some_iff.mp hf
          refine g_callv (pc := 83) (ws2 := fun u => (wL ad ca vL ++ wD ad ca u ++ wC ad ca vC)) (wr := (wL ad ca vL ++ wC ad ca vC)) Z [1, 2, 3, 4, 5] [0, 6, 7, 8, 9, 10] [0, 6, 7, 8, 9, 10, 1, 2, 3, 4, 5] (g_runV Z (c_Disk_settleAll l D ad ca N x13.2 x17 h18) (cwV 0 Z.2.2.2.2.1 (gg_V ww87 ww88 ww89 ww16 ww90) rfl rfl rfl (yv_of rfl yd_Disk_settleAll) ⟨Nat.le_of_ble_eq_true rfl, Nat.le_of_ble_eq_true rfl⟩) [1, 2, 3, 4, 5] rfl (by decide) 0 rfl rfl rfl rfl rfl (Nat.le_of_ble_eq_true rfl) dX3_append_83 ⟨Nat.le_of_ble_eq_true rfl, Nat.le_of_ble_eq_true rfl⟩) rfl rfl (by decide) (by decide) (by decide) (fun _ => rfl) (fun u hu => ?_)
          obtain rfl := hu.symm
          refine g_aload_n (pc := 86) Z 2 dX3_append_86 rfl ?_
          refine g_iload (pc := 87) Z 0 dX3_append_87 rfl ?_
          refine g_iconst (pc := 89) (v := 1) Z dX3_append_89 (by decide) ?_
          refine g_iadd (pc := 90) Z dX3_append_90 ?_
          refine g_bipush (pc := 91) (v := 16) Z dX3_append_91 (by decide) ?_
          refine g_isub (pc := 93) Z dX3_append_93 ?_
          refine g_put (pc := 94) (T := TX3) (N := 4) (ws' := (wL ad ca ((((((16 : Int32) + vL.1) + (1 : Int32)) + ((2 : Int32) * x1)) + (1 : Int32)) - (16 : Int32), vL.2.1, vL.2.2) ++ wD ad ca x17 ++ wC ad ca vC)) Z 0 1 dX3_append_94 (mm ww65) inx_X3 tyX3_ok nmX3 rfl (by decide) rfl rfl rfl rfl rfl rfl (Nat.le_of_ble_eq_true rfl) rfl ?_
          refine g_aload_n (pc := 97) Z 2 dX3_append_97 rfl ?_
          refine g_dup (pc := 98) Z dX3_append_98 rfl ?_
          refine g_get (pc := 99) (v := .int vL.2.1) (T := TX3) (N := 4) Z 0 2 dX3_append_99 (mm ww91) inx_X3 rfl (by decide) rfl rfl rfl ?_
          refine g_iconst (pc := 102) (v := 1) Z dX3_append_102 (by decide) ?_
          refine g_iadd (pc := 103) Z dX3_append_103 ?_
          refine g_put (pc := 104) (T := TX3) (N := 4) (ws' := (wL ad ca ((((((16 : Int32) + vL.1) + (1 : Int32)) + ((2 : Int32) * x1)) + (1 : Int32)) - (16 : Int32), vL.2.1 + (1 : Int32), vL.2.2) ++ wD ad ca x17 ++ wC ad ca vC)) Z 0 2 dX3_append_104 (mm ww91) inx_X3 tyX3_ok nmX3 rfl (by decide) rfl rfl rfl rfl rfl rfl (Nat.le_of_ble_eq_true rfl) rfl ?_
          refine g_aload_n (pc := 107) Z 2 dX3_append_107 rfl ?_
          refine g_dup (pc := 108) Z dX3_append_108 rfl ?_
          refine g_get (pc := 109) (v := .int vL.2.2) (T := TX3) (N := 4) Z 0 3 dX3_append_109 (mm ww64) inx_X3 rfl (by decide) rfl rfl rfl ?_
          refine g_iconst (pc := 112) (v := 1) Z dX3_append_112 (by decide) ?_
          refine g_iadd (pc := 113) Z dX3_append_113 ?_
          refine g_put (pc := 114) (T := TX3) (N := 4) (ws' := (wL ad ca ((((((16 : Int32) + vL.1) + (1 : Int32)) + ((2 : Int32) * x1)) + (1 : Int32)) - (16 : Int32), vL.2.1 + (1 : Int32), vL.2.2 + (1 : Int32)) ++ wD ad ca x17 ++ wC ad ca vC)) Z 0 3 dX3_append_114 (mm ww64) inx_X3 tyX3_ok nmX3 rfl (by decide) rfl rfl rfl rfl rfl rfl (Nat.le_of_ble_eq_true rfl) rfl ?_
          refine g_iconst (pc := 117) (v := 1) Z dX3_append_117 (by decide) ?_
          obtain rfl := Option.some.inj hf
          exact g_zret Z hr rfl dX3_append_118 (((((((16 : Int32) + vL.1) + (1 : Int32)) + ((2 : Int32) * x1)) + (1 : Int32)) - (16 : Int32), vL.2.1 + (1 : Int32), vL.2.2 + (1 : Int32)), x17) ⟨rfl, rfl⟩ rfl
      · replace hf := gIfN (bI_z c15) hf
        refine g_iconst (pc := 73) (v := 0) Z dX3_append_73 (by decide) ?_
        obtain rfl := Option.some.inj hf
        exact g_zret Z hr rfl dX3_append_74 (vL, x13.2) ⟨rfl, rfl⟩ rfl
/-! RedoHeap$Log.commits()I -/
def f_Log_commits (vL : LT) : Option (Int32) :=
  some vL.2.1
abbrev cd_Log_commits : Cond := .code yX3_commits cX3_commits 1 (some .int)
theorem yd_Log_commits : yX3_commits.cls ≠ "java/lang/invoke/MethodHandle" ∧ yX3_commits.cls ≠ "java/lang/invoke/VarHandle" ∧ (parseMethodDescriptor yX3_commits.desc).map (fun d => d.parameters.length) = some 0 := by decide +kernel
abbrev rm_Log_commits : Room := { frames := 0, cells := 0, slots := 0, locals := 0 }
abbrev q_Log_commits (D : va_G) (ad : Nat → Nat) (ca : Nat → ClassId) (vL : LT) (res : Int32) (A : Nat → Prop) : Array Value → State → Outcome → State → Prop := va_Qi (fun (r : Int32) (_ : Unit) => r = res) (gB D cls (tys ca) A (fun (u : Unit) => (wL ad ca vL))) A
set_option maxHeartbeats 4000000 in
set_option maxRecDepth 100000 in
theorem c_Log_commits (l : Launch) (D : va_G) (ad : Nat → Nat) (ca : Nat → ClassId) (vL : LT) (res : Int32) (hf : f_Log_commits vL = some res) (sz : Nat) : Met l yX3_commits (cd_Log_commits :: gA) rm_Log_commits (va_Pc [.ref (ad 6)] (gP D cls (tys ca) (wL ad ca vL) sz)) (q_Log_commits D ad ca vL res (va_A (wL ad ca vL) sz)) 0 0 (va_A (wL ad ca vL) sz) := by
  refine g_met (cc := cX3_commits) (Qc := q_Log_commits D ad ca vL res) (lv := [(0, .ref (ad 6))]) (own := RX3) (by decide) rfl rfl (Nat.le_of_ble_eq_true rfl) rfl sz ?_
  intro p e s m args below meth c A Z hr hnm
  unfold f_Log_commits at hf
  refine g_aload_n (pc := 0) Z 0 dX3_commits_0 rfl ?_
  refine g_get (pc := 1) (v := .int vL.2.1) (T := TX3) (N := 4) Z 0 2 dX3_commits_1 (mm ww91) inx_X3 rfl (by decide) rfl rfl rfl ?_
  obtain rfl := Option.some.inj hf
  exact g_iret Z hr dX3_commits_4 () rfl rfl
/-! RedoHeap$Log.forget()V -/
def f_Log_forget (vL : LT) (vD : DT) : Option (LT) :=
  (f_Disk_read vD (2 : Int32)).bind fun x1 => some ((0 : Int32), (0 : Int32), x1.toInt32)
abbrev cd_Log_forget : Cond := .code yX3_forget cX3_forget 1 none
theorem yd_Log_forget : yX3_forget.cls ≠ "java/lang/invoke/MethodHandle" ∧ yX3_forget.cls ≠ "java/lang/invoke/VarHandle" ∧ (parseMethodDescriptor yX3_forget.desc).map (fun d => d.parameters.length) = some 0 := by decide +kernel
abbrev rm_Log_forget : Room := { frames := 2, cells := 0, slots := 0, locals := 41 }
abbrev q_Log_forget (D : va_G) (ad : Nat → Nat) (ca : Nat → ClassId) (vD : DT) (res : LT) (A : Nat → Prop) : Array Value → State → Outcome → State → Prop := va_Qv (fun (u : LT) => u = res) (gB D cls (tys ca) A (fun (u : LT) => (wL ad ca u ++ wD ad ca vD))) A
set_option maxHeartbeats 4000000 in
set_option maxRecDepth 100000 in
theorem c_Log_forget (l : Launch) (D : va_G) (ad : Nat → Nat) (ca : Nat → ClassId) (vL : LT) (vD : DT) (res : LT) (hf : f_Log_forget vL vD = some res) (sz : Nat) : Met l yX3_forget (cd_Log_forget :: gA) rm_Log_forget (va_Pc [.ref (ad 6)] (gP D cls (tys ca) (wL ad ca vL ++ wD ad ca vD) sz)) (q_Log_forget D ad ca vD res (va_A (wL ad ca vL ++ wD ad ca vD) sz)) 0 0 (va_A (wL ad ca vL ++ wD ad ca vD) sz) := by
  refine g_met (cc := cX3_forget) (Qc := q_Log_forget D ad ca vD res) (lv := [(0, .ref (ad 6))]) (own := RX3) (by decide) rfl rfl (Nat.le_of_ble_eq_true rfl) rfl sz ?_
  intro p e s m args below meth c A Z hr hnm
  unfold f_Log_forget at hf
  refine g_aload_n (pc := 0) Z 0 dX3_forget_0 rfl ?_
  refine g_iconst (pc := 1) (v := 0) Z dX3_forget_1 (by decide) ?_
  refine g_put (pc := 2) (T := TX3) (N := 4) (ws' := (wL ad ca ((0 : Int32), vL.2.1, vL.2.2) ++ wD ad ca vD)) Z 0 1 dX3_forget_2 (mm ww65) inx_X3 tyX3_ok nmX3 rfl (by decide) rfl rfl rfl rfl rfl rfl (Nat.le_of_ble_eq_true rfl) rfl ?_
  refine g_aload_n (pc := 5) Z 0 dX3_forget_5 rfl ?_
  refine g_iconst (pc := 6) (v := 0) Z dX3_forget_6 (by decide) ?_
  refine g_put (pc := 7) (T := TX3) (N := 4) (ws' := (wL ad ca ((0 : Int32), (0 : Int32), vL.2.2) ++ wD ad ca vD)) Z 0 2 dX3_forget_7 (mm ww91) inx_X3 tyX3_ok nmX3 rfl (by decide) rfl rfl rfl rfl rfl rfl (Nat.le_of_ble_eq_true rfl) rfl ?_
  refine g_aload_n (pc := 10) Z 0 dX3_forget_10 rfl ?_
  refine g_aload_n (pc := 11) Z 0 dX3_forget_11 rfl ?_
  refine g_get (pc := 12) (v := .ref (ad 1)) (T := TX3) (N := 4) Z 0 0 dX3_forget_12 (mm ww67) inx_X3 rfl (by decide) rfl rfl rfl ?_
  refine g_iconst (pc := 15) (v := 2) Z dX3_forget_15 (by decide) ?_
  obtain ⟨x1, h2, hf⟩ := Option.bind_eq_some_iff.mp hf
  refine g_calll (pc := 16) (ws2 := fun u => (wL ad ca ((0 : Int32), (0 : Int32), vL.2.2) ++ wD ad ca vD)) (wr := (wL ad ca ((0 : Int32), (0 : Int32), vL.2.2))) Z [1, 2, 3, 4, 5] [0] [0, 1, 2, 3, 4, 5] (g_runV Z (c_Disk_read l D ad ca vD (2 : Int32) x1 h2) (cwV 1 Z.2.2.2.2.1 (gg_V ww68 ww61 ww62 ww16 ww63) rfl rfl rfl (yv_of rfl yd_Disk_read) ⟨Nat.le_of_ble_eq_true rfl, Nat.le_of_ble_eq_true rfl⟩) [1, 2, 3, 4, 5] rfl (by decide) 0 rfl rfl rfl rfl rfl (Nat.le_of_ble_eq_true rfl) dX3_forget_16 ⟨Nat.le_of_ble_eq_true rfl, Nat.le_of_ble_eq_true rfl⟩) rfl rfl (by decide) (by decide) (by decide) (fun _ => rfl) (fun r u hu => ?_)
  obtain rfl := hu.symm
  refine g_l2i (pc := 19) Z dX3_forget_19 ?_
  refine g_put (pc := 20) (T := TX3) (N := 4) (ws' := (wL ad ca ((0 : Int32), (0 : Int32), x1.toInt32) ++ wD ad ca vD)) Z 0 3 dX3_forget_20 (mm ww64) inx_X3 tyX3_ok nmX3 rfl (by decide) rfl rfl rfl rfl rfl rfl (Nat.le_of_ble_eq_true rfl) rfl ?_
  obtain rfl := Option.some.inj hf
  exact g_vret Z hr dX3_forget_23 ((0 : Int32), (0 : Int32), x1.toInt32) rfl rfl
theorem ww106 : Cond.methodLink RX3 57 yX3_forget ∈ gA := wt3 64 rfl rfl
theorem ww107 : Cond.instanceMethod yX3_forget ∈ gA := wt3 57 rfl rfl
theorem ww108 : Cond.selects RX3 yX3_forget yX3_forget ∈ gA := wt3 58 rfl rfl
theorem ww109 : cd_Log_forget ∈ gA := wt3 59 rfl rfl
/-! RedoHeap$Log.findCommits()I -/
def f_Log_findCommits_10 (N : Nat) (vD : DT) : Nat → LT → Int32 → Option (Int32 × LT)
  | 0, _, _ => none
  | n + 1, vL, y1 => if y1 ≤ 0 then some (vL.2.1, vL) else if (160 : Int32) < (vL.1 + y1) then some (vL.2.1, vL) else (f_Disk_read vD (((16 : Int32) + (vL.1 + y1)) - (1 : Int32))).bind fun x3 => (f_Log_commitSize (vL.1 + y1, vL.2.1 + (1 : Int32), ((-1 : Int64) - x3).toInt32) vD (vL.1 + y1)).bind fun x5 => f_Log_findCommits_10 N vD n (vL.1 + y1, vL.2.1 + (1 : Int32), ((-1 : Int64) - x3).toInt32) x5
def f_Log_findCommits (N : Nat) (vL : LT) (vD : DT) : Option (Int32 × LT) :=
  (f_Log_forget vL vD).bind fun x7 => (f_Log_commitSize x7 vD (0 : Int32)).bind fun x9 => f_Log_findCommits_10 N vD N x7 x9
abbrev cd_Log_findCommits : Cond := .code yX3_findCommits cX3_findCommits 2 (some .int)
theorem yd_Log_findCommits : yX3_findCommits.cls ≠ "java/lang/invoke/MethodHandle" ∧ yX3_findCommits.cls ≠ "java/lang/invoke/VarHandle" ∧ (parseMethodDescriptor yX3_findCommits.desc).map (fun d => d.parameters.length) = some 0 := by decide +kernel
abbrev rm_Log_findCommits : Room := { frames := 4, cells := 0, slots := 0, locals := 86 }
abbrev q_Log_findCommits (D : va_G) (ad : Nat → Nat) (ca : Nat → ClassId) (vD : DT) (res : Int32 × LT) (A : Nat → Prop) : Array Value → State → Outcome → State → Prop := va_Qi (fun (r : Int32) (u : LT) => r = res.1 ∧ u = res.2) (gB D cls (tys ca) A (fun (u : LT) => (wL ad ca u ++ wD ad ca vD))) A
set_option maxHeartbeats 4000000 in
set_option maxRecDepth 100000 in
theorem w_Log_findCommits_10 {p : Program} {l : Launch} {e : Env} {s : State} {m : MethodId} {args : Array Value} {below : List Frame} {meth : Method} {c : Code} {D : va_G} {ad : Nat → Nat} {ca : Nat → ClassId} {A : Nat → Prop} {N : Nat} {vD : DT} {res : Int32 × LT} (Z : gZ p s m args meth c cX3_findCommits 2 RX3 (cd_Log_findCommits :: gA) A D cls (tys ca)) (hr : meth.sig.returnType = (some .int)) : ∀ (n : Nat) (vL : LT) (y1 : Int32), f_Log_findCommits_10 N vD n vL y1 = some res → gW p l e rm_Log_findCommits s m args below meth c 2 A D cls 0 0 (MQ below (q_Log_findCommits D ad ca vD res A) args s 0 0 A) (wL ad ca vL ++ wD ad ca vD) [(0, .ref (ad 6)), (1, .int y1)] 10 [] := by
  intro n
  induction n with
  | zero =>
    intro vL y1 hf
    exact absurd hf (by rw [f_Log_findCommits_10]; exact fun h => by cases h)
  | succ n ih =>
    intro vL y1 hf
    rw [f_Log_findCommits_10] at hf
    refine g_iload_n (pc := 10) Z 1 dX3_findCommits_10 rfl ?_
    refine g_if_le (pc := 11) (tgt := 83) Z dX3_findCommits_11 (by decide) (fun c1 => ?_) (fun c1 => ?_)
    · replace hf := gIfP c1 hf
      refine g_aload_n (pc := 83) Z 0 dX3_findCommits_83 rfl ?_
      refine g_get (pc := 84) (v := .int vL.2.1) (T := TX3) (N := 4) Z 0 2 dX3_findCommits_84 (mm ww91) inx_X3 rfl (by decide) rfl rfl rfl ?_
      obtain rfl := Option.some.inj hf
      exact g_iret Z hr dX3_findCommits_87 vL ⟨rfl, rfl⟩ rfl
    · replace hf := gIfN c1 hf
      refine g_aload_n (pc := 14) Z 0 dX3_findCommits_14 rfl ?_
      refine g_get (pc := 15) (v := .int vL.1) (T := TX3) (N := 4) Z 0 1 dX3_findCommits_15 (mm ww65) inx_X3 rfl (by decide) rfl rfl rfl ?_
      refine g_iload_n (pc := 18) Z 1 dX3_findCommits_18 rfl ?_
      refine g_iadd (pc := 19) Z dX3_findCommits_19 ?_
      refine g_sipush (pc := 20) (v := 160) Z dX3_findCommits_20 (by decide) ?_
      refine g_icmp_gt (pc := 23) (tgt := 83) Z dX3_findCommits_23 (by decide) (fun c2 => ?_) (fun c2 => ?_)
      · replace hf := gIfP c2 hf
        refine g_aload_n (pc := 83) Z 0 dX3_findCommits_83 rfl ?_
        refine g_get (pc := 84) (v := .int vL.2.1) (T := TX3) (N := 4) Z 0 2 dX3_findCommits_84 (mm ww91) inx_X3 rfl (by decide) rfl rfl rfl ?_
        obtain rfl := Option.some.inj hf
        exact g_iret Z hr dX3_findCommits_87 vL ⟨rfl, rfl⟩ rfl
      · replace hf := gIfN c2 hf
        refine g_aload_n (pc := 26) Z 0 dX3_findCommits_26 rfl ?_
        refine g_dup (pc := 27) Z dX3_findCommits_27 rfl ?_
        refine g_get (pc := 28) (v := .int vL.1) (T := TX3) (N := 4) Z 0 1 dX3_findCommits_28 (mm ww65) inx_X3 rfl (by decide) rfl rfl rfl ?_
        refine g_iload_n (pc := 31) Z 1 dX3_findCommits_31 rfl ?_
        refine g_iadd (pc := 32) Z dX3_findCommits_32 ?_
        refine g_put (pc := 33) (T := TX3) (N := 4) (ws' := (wL ad ca (vL.1 + y1, vL.2.1, vL.2.2) ++ wD ad ca vD)) Z 0 1 dX3_findCommits_33 (mm ww65) inx_X3 tyX3_ok nmX3 rfl (by decide) rfl rfl rfl rfl rfl rfl (Nat.le_of_ble_eq_true rfl) rfl ?_
        refine g_aload_n (pc := 36) Z 0 dX3_findCommits_36 rfl ?_
        refine g_dup (pc := 37) Z dX3_findCommits_37 rfl ?_
        refine g_get (pc := 38) (v := .int vL.2.1) (T := TX3) (N := 4) Z 0 2 dX3_findCommits_38 (mm ww91) inx_X3 rfl (by decide) rfl rfl rfl ?_
        refine g_iconst (pc := 41) (v := 1) Z dX3_findCommits_41 (by decide) ?_
        refine g_iadd (pc := 42) Z dX3_findCommits_42 ?_
        refine g_put (pc := 43) (T := TX3) (N := 4) (ws' := (wL ad ca (vL.1 + y1, vL.2.1 + (1 : Int32), vL.2.2) ++ wD ad ca vD)) Z 0 2 dX3_findCommits_43 (mm ww91) inx_X3 tyX3_ok nmX3 rfl (by decide) rfl rfl rfl rfl rfl rfl (Nat.le_of_ble_eq_true rfl) rfl ?_
        refine g_aload_n (pc := 46) Z 0 dX3_findCommits_46 rfl ?_
        refine g_ldc2 (pc := 47) (v := -1) Z dX3_findCommits_47 (mm ww105) ?_
        refine g_aload_n (pc := 50) Z 0 dX3_findCommits_50 rfl ?_
        refine g_get (pc := 51) (v := .ref (ad 1)) (T := TX3) (N := 4) Z 0 0 dX3_findCommits_51 (mm ww67) inx_X3 rfl (by decide) rfl rfl rfl ?_
        refine g_bipush (pc := 54) (v := 16) Z dX3_findCommits_54 (by decide) ?_
        refine g_aload_n (pc := 56) Z 0 dX3_findCommits_56 rfl ?_
        refine g_get (pc := 57) (v := .int (vL.1 + y1)) (T := TX3) (N := 4) Z 0 1 dX3_findCommits_57 (mm ww65) inx_X3 rfl (by decide) rfl rfl rfl ?_
        refine g_iadd (pc := 60) Z dX3_findCommits_60 ?_
        refine g_iconst (pc := 61) (v := 1) Z dX3_findCommits_61 (by decide) ?_
        refine g_isub (pc := 62) Z dX3_findCommits_62 ?_
        obtain ⟨x3, h4, hf⟩ := Option.bind_eq_some_iff.mp hf
        refine g_calll (pc := 63) (ws2 := fun u => (wL ad ca (vL.1 + y1, vL.2.1 + (1 : Int32), vL.2.2) ++ wD ad ca vD)) (wr := (wL ad ca (vL.1 + y1, vL.2.1 + (1 : Int32), vL.2.2))) Z [1, 2, 3, 4, 5] [0] [0, 1, 2, 3, 4, 5] (g_runV Z (c_Disk_read l D ad ca vD (((16 : Int32) + (vL.1 + y1)) - (1 : Int32)) x3 h4) (cwV 1 Z.2.2.2.2.1 (gg_V ww68 ww61 ww62 ww16 ww63) rfl rfl rfl (yv_of rfl yd_Disk_read) ⟨Nat.le_of_ble_eq_true rfl, Nat.le_of_ble_eq_true rfl⟩) [1, 2, 3, 4, 5] rfl (by decide) 0 rfl rfl rfl rfl rfl (Nat.le_of_ble_eq_true rfl) dX3_findCommits_63 ⟨Nat.le_of_ble_eq_true rfl, Nat.le_of_ble_eq_true rfl⟩) rfl rfl (by decide) (by decide) (by decide) (fun _ => rfl) (fun r u hu => ?_)
        obtain rfl := hu.symm
        refine g_lsub (pc := 66) Z dX3_findCommits_66 ?_
        refine g_l2i (pc := 67) Z dX3_findCommits_67 ?_
        refine g_put (pc := 68) (T := TX3) (N := 4) (ws' := (wL ad ca (vL.1 + y1, vL.2.1 + (1 : Int32), ((-1 : Int64) - x3).toInt32) ++ wD ad ca vD)) Z 0 3 dX3_findCommits_68 (mm ww64) inx_X3 tyX3_ok nmX3 rfl (by decide) rfl rfl rfl rfl rfl rfl (Nat.le_of_ble_eq_true rfl) rfl ?_
        refine g_aload_n (pc := 71) Z 0 dX3_findCommits_71 rfl ?_
        refine g_aload_n (pc := 72) Z 0 dX3_findCommits_72 rfl ?_
        refine g_get (pc := 73) (v := .int (vL.1 + y1)) (T := TX3) (N := 4) Z 0 1 dX3_findCommits_73 (mm ww65) inx_X3 rfl (by decide) rfl rfl rfl ?_
        obtain ⟨x5, h6, hf⟩ := Option.bind_eq_some_iff.mp hf
        refine g_calli (pc := 76) (ws2 := fun u => (wL ad ca (vL.1 + y1, vL.2.1 + (1 : Int32), ((-1 : Int64) - x3).toInt32) ++ wD ad ca vD)) (wr := ([] : va_W)) Z [0, 1, 2, 3, 4, 5] [] [0, 1, 2, 3, 4, 5] (g_runV Z (c_Log_commitSize l D ad ca (vL.1 + y1, vL.2.1 + (1 : Int32), ((-1 : Int64) - x3).toInt32) vD (vL.1 + y1) x5 h6) (cwV 1 Z.2.2.2.2.1 (gg_V ww75 ww76 ww77 ww72 ww78) rfl rfl rfl (yv_of rfl yd_Log_commitSize) ⟨Nat.le_of_ble_eq_true rfl, Nat.le_of_ble_eq_true rfl⟩) [0, 1, 2, 3, 4, 5] rfl (by decide) 0 rfl rfl rfl rfl rfl (Nat.le_of_ble_eq_true rfl) dX3_findCommits_76 ⟨Nat.le_of_ble_eq_true rfl, Nat.le_of_ble_eq_true rfl⟩) rfl rfl (by decide) (by decide) (by decide) (fun _ => rfl) (fun r u hu => ?_)
        obtain rfl := hu.symm
        refine g_istore_n (pc := 79) (lv' := [(1, .int x5), (0, .ref (ad 6))]) Z dX3_findCommits_79 (by decide) rfl ?_
        refine g_goto (pc := 80) (tgt := 10) Z dX3_findCommits_80 (by decide) ?_
        refine g_locals (lv2 := [(0, .ref (ad 6)), (1, .int x5)]) [1, 0] rfl ?_
        exact ih _ _ hf
set_option maxHeartbeats 4000000 in
set_option maxRecDepth 100000 in
theorem c_Log_findCommits (l : Launch) (D : va_G) (ad : Nat → Nat) (ca : Nat → ClassId) (N : Nat) (vL : LT) (vD : DT) (res : Int32 × LT) (hf : f_Log_findCommits N vL vD = some res) (sz : Nat) : Met l yX3_findCommits (cd_Log_findCommits :: gA) rm_Log_findCommits (va_Pc [.ref (ad 6)] (gP D cls (tys ca) (wL ad ca vL ++ wD ad ca vD) sz)) (q_Log_findCommits D ad ca vD res (va_A (wL ad ca vL ++ wD ad ca vD) sz)) 0 0 (va_A (wL ad ca vL ++ wD ad ca vD) sz) := by
  refine g_met (cc := cX3_findCommits) (Qc := q_Log_findCommits D ad ca vD res) (lv := [(0, .ref (ad 6))]) (own := RX3) (by decide) rfl rfl (Nat.le_of_ble_eq_true rfl) rfl sz ?_
  intro p e s m args below meth c A Z hr hnm
  unfold f_Log_findCommits at hf
  refine g_aload_n (pc := 0) Z 0 dX3_findCommits_0 rfl ?_
  obtain ⟨x7, h8, hf⟩ := Option.bind_eq_some_iff.mp hf
  refine g_callv (pc := 1) (ws2 := fun u => (wL ad ca u ++ wD ad ca vD)) (wr := ([] : va_W)) Z [0, 1, 2, 3, 4, 5] [] [0, 1, 2, 3, 4, 5] (g_runV Z (c_Log_forget l D ad ca vL vD x7 h8) (cwV 0 Z.2.2.2.2.1 (gg_V ww106 ww107 ww108 ww72 ww109) rfl rfl rfl (yv_of rfl yd_Log_forget) ⟨Nat.le_of_ble_eq_true rfl, Nat.le_of_ble_eq_true rfl⟩) [0, 1, 2, 3, 4, 5] rfl (by decide) 0 rfl rfl rfl rfl rfl (Nat.le_of_ble_eq_true rfl) dX3_findCommits_1 ⟨Nat.le_of_ble_eq_true rfl, Nat.le_of_ble_eq_true rfl⟩) rfl rfl (by decide) (by decide) (by decide) (fun _ => rfl) (fun u hu => ?_)
  obtain rfl := hu.symm
  refine g_aload_n (pc := 4) Z 0 dX3_findCommits_4 rfl ?_
  refine g_iconst (pc := 5) (v := 0) Z dX3_findCommits_5 (by decide) ?_
  obtain ⟨x9, h10, hf⟩ := Option.bind_eq_some_iff.mp hf
  refine g_calli (pc := 6) (ws2 := fun u => (wL ad ca x7 ++ wD ad ca vD)) (wr := ([] : va_W)) Z [0, 1, 2, 3, 4, 5] [] [0, 1, 2, 3, 4, 5] (g_runV Z (c_Log_commitSize l D ad ca x7 vD (0 : Int32) x9 h10) (cwV 1 Z.2.2.2.2.1 (gg_V ww75 ww76 ww77 ww72 ww78) rfl rfl rfl (yv_of rfl yd_Log_commitSize) ⟨Nat.le_of_ble_eq_true rfl, Nat.le_of_ble_eq_true rfl⟩) [0, 1, 2, 3, 4, 5] rfl (by decide) 0 rfl rfl rfl rfl rfl (Nat.le_of_ble_eq_true rfl) dX3_findCommits_6 ⟨Nat.le_of_ble_eq_true rfl, Nat.le_of_ble_eq_true rfl⟩) rfl rfl (by decide) (by decide) (by decide) (fun _ => rfl) (fun r u hu => ?_)
  obtain rfl := hu.symm
  refine g_istore_n (pc := 9) (lv' := [(1, .int x9), (0, .ref (ad 6))]) Z dX3_findCommits_9 (by decide) rfl ?_
  refine g_locals (lv2 := [(0, .ref (ad 6)), (1, .int x9)]) [1, 0] rfl ?_
  exact w_Log_findCommits_10 Z hr N _ _ hf
/-! RedoHeap$Log.dirtyWords()I -/
def f_Log_dirtyWords_4 (N : Nat) (vL : LT) (vD : DT) : Nat → Int32 → Option (Int32)
  | 0, _ => none
  | n + 1, y1 => if y1 ≤ 0 then some (0 : Int32) else (f_Disk_read vD (((16 : Int32) + y1) - (1 : Int32))).bind fun x2 => if (lg_cmp x2 (0 : Int64)) = 0 then f_Log_dirtyWords_4 N vL vD n (y1 + (-1 : Int32)) else some y1
def f_Log_dirtyWords (N : Nat) (vL : LT) (vD : DT) : Option (Int32) :=
  f_Log_dirtyWords_4 N vL vD N (160 : Int32)
abbrev cd_Log_dirtyWords : Cond := .code yX3_dirtyWords cX3_dirtyWords 2 (some .int)
theorem yd_Log_dirtyWords : yX3_dirtyWords.cls ≠ "java/lang/invoke/MethodHandle" ∧ yX3_dirtyWords.cls ≠ "java/lang/invoke/VarHandle" ∧ (parseMethodDescriptor yX3_dirtyWords.desc).map (fun d => d.parameters.length) = some 0 := by decide +kernel
abbrev rm_Log_dirtyWords : Room := { frames := 2, cells := 0, slots := 0, locals := 41 }
abbrev q_Log_dirtyWords (D : va_G) (ad : Nat → Nat) (ca : Nat → ClassId) (vL : LT) (vD : DT) (res : Int32) (A : Nat → Prop) : Array Value → State → Outcome → State → Prop := va_Qi (fun (r : Int32) (_ : Unit) => r = res) (gB D cls (tys ca) A (fun (u : Unit) => (wL ad ca vL ++ wD ad ca vD))) A
set_option maxHeartbeats 4000000 in
set_option maxRecDepth 100000 in
theorem w_Log_dirtyWords_4 {p : Program} {l : Launch} {e : Env} {s : State} {m : MethodId} {args : Array Value} {below : List Frame} {meth : Method} {c : Code} {D : va_G} {ad : Nat → Nat} {ca : Nat → ClassId} {A : Nat → Prop} {N : Nat} {vL : LT} {vD : DT} {res : Int32} (Z : gZ p s m args meth c cX3_dirtyWords 2 RX3 (cd_Log_dirtyWords :: gA) A D cls (tys ca)) (hr : meth.sig.returnType = (some .int)) : ∀ (n : Nat) (y1 : Int32), f_Log_dirtyWords_4 N vL vD n y1 = some res → gW p l e rm_Log_dirtyWords s m args below meth c 2 A D cls 0 0 (MQ below (q_Log_dirtyWords D ad ca vL vD res A) args s 0 0 A) (wL ad ca vL ++ wD ad ca vD) [(0, .ref (ad 6)), (1, .int y1)] 4 [] := by
  intro n
  induction n with
  | zero =>
    intro y1 hf
    exact absurd hf (by rw [f_Log_dirtyWords_4]; exact fun h => by cases h)
  | succ n ih =>
    intro y1 hf
    rw [f_Log_dirtyWords_4] at hf
    refine g_iload_n (pc := 4) Z 1 dX3_dirtyWords_4 rfl ?_
    refine g_if_le (pc := 5) (tgt := 34) Z dX3_dirtyWords_5 (by decide) (fun c1 => ?_) (fun c1 => ?_)
    · replace hf := gIfP c1 hf
      refine g_iconst (pc := 34) (v := 0) Z dX3_dirtyWords_34 (by decide) ?_
      obtain rfl := Option.some.inj hf
      exact g_iret Z hr dX3_dirtyWords_35 () rfl rfl
    · replace hf := gIfN c1 hf
      refine g_aload_n (pc := 8) Z 0 dX3_dirtyWords_8 rfl ?_
      refine g_get (pc := 9) (v := .ref (ad 1)) (T := TX3) (N := 4) Z 0 0 dX3_dirtyWords_9 (mm ww67) inx_X3 rfl (by decide) rfl rfl rfl ?_
      refine g_bipush (pc := 12) (v := 16) Z dX3_dirtyWords_12 (by decide) ?_
      refine g_iload_n (pc := 14) Z 1 dX3_dirtyWords_14 rfl ?_
      refine g_iadd (pc := 15) Z dX3_dirtyWords_15 ?_
      refine g_iconst (pc := 16) (v := 1) Z dX3_dirtyWords_16 (by decide) ?_
      refine g_isub (pc := 17) Z dX3_dirtyWords_17 ?_
      obtain ⟨x2, h3, hf⟩ := Option.bind_eq_some_iff.mp hf
      refine g_calll (pc := 18) (ws2 := fun u => (wL ad ca vL ++ wD ad ca vD)) (wr := (wL ad ca vL)) Z [1, 2, 3, 4, 5] [0] [0, 1, 2, 3, 4, 5] (g_runV Z (c_Disk_read l D ad ca vD (((16 : Int32) + y1) - (1 : Int32)) x2 h3) (cwV 1 Z.2.2.2.2.1 (gg_V ww68 ww61 ww62 ww16 ww63) rfl rfl rfl (yv_of rfl yd_Disk_read) ⟨Nat.le_of_ble_eq_true rfl, Nat.le_of_ble_eq_true rfl⟩) [1, 2, 3, 4, 5] rfl (by decide) 0 rfl rfl rfl rfl rfl (Nat.le_of_ble_eq_true rfl) dX3_dirtyWords_18 ⟨Nat.le_of_ble_eq_true rfl, Nat.le_of_ble_eq_true rfl⟩) rfl rfl (by decide) (by decide) (by decide) (fun _ => rfl) (fun r u hu => ?_)
      obtain rfl := hu.symm
      refine g_lconst (pc := 21) (v := 0) Z dX3_dirtyWords_21 (by decide) ?_
      refine g_lcmp (pc := 22) Z dX3_dirtyWords_22 ?_
      refine g_if_eq (pc := 23) (tgt := 28) Z dX3_dirtyWords_23 (by decide) (fun c4 => ?_) (fun c4 => ?_)
      · replace hf := gIfP c4 hf
        refine g_iinc (pc := 28) (v := y1 + (-1 : Int32)) (lv' := [(1, .int (y1 + (-1 : Int32))), (0, .ref (ad 6))]) Z 1 dX3_dirtyWords_28 rfl rfl (by decide) rfl ?_
        refine g_goto (pc := 31) (tgt := 4) Z dX3_dirtyWords_31 (by decide) ?_
        refine g_locals (lv2 := [(0, .ref (ad 6)), (1, .int (y1 + (-1 : Int32)))]) [1, 0] rfl ?_
        exact ih _ hf
      · replace hf := gIfN c4 hf
        refine g_iload_n (pc := 26) Z 1 dX3_dirtyWords_26 rfl ?_
        obtain rfl := Option.some.inj hf
        exact g_iret Z hr dX3_dirtyWords_27 () rfl rfl
set_option maxHeartbeats 4000000 in
set_option maxRecDepth 100000 in
theorem c_Log_dirtyWords (l : Launch) (D : va_G) (ad : Nat → Nat) (ca : Nat → ClassId) (N : Nat) (vL : LT) (vD : DT) (res : Int32) (hf : f_Log_dirtyWords N vL vD = some res) (sz : Nat) : Met l yX3_dirtyWords (cd_Log_dirtyWords :: gA) rm_Log_dirtyWords (va_Pc [.ref (ad 6)] (gP D cls (tys ca) (wL ad ca vL ++ wD ad ca vD) sz)) (q_Log_dirtyWords D ad ca vL vD res (va_A (wL ad ca vL ++ wD ad ca vD) sz)) 0 0 (va_A (wL ad ca vL ++ wD ad ca vD) sz) := by
  refine g_met (cc := cX3_dirtyWords) (Qc := q_Log_dirtyWords D ad ca vL vD res) (lv := [(0, .ref (ad 6))]) (own := RX3) (by decide) rfl rfl (Nat.le_of_ble_eq_true rfl) rfl sz ?_
  intro p e s m args below meth c A Z hr hnm
  unfold f_Log_dirtyWords at hf
  refine g_sipush (pc := 0) (v := 160) Z dX3_dirtyWords_0 (by decide) ?_
  refine g_istore_n (pc := 3) (lv' := [(1, .int (160 : Int32)), (0, .ref (ad 6))]) Z dX3_dirtyWords_3 (by decide) rfl ?_
  refine g_locals (lv2 := [(0, .ref (ad 6)), (1, .int (160 : Int32))]) [1, 0] rfl ?_
  exact w_Log_dirtyWords_4 Z hr N _ hf
