theorem ww110 : Cond.fieldLink RX0 9 "RedoHeap$Blocks" "words" "LRedoHeap$Changes;" ∈ gA := wt1 119 rfl rfl
theorem ww111 : Cond.methodLink RX0 15 yX1_read ∈ gA := wt2 38 rfl rfl
/-! RedoHeap$Blocks.isUsed(I)Z -/
def f_Blk_isUsed (vC : CT) (p1 : Int32) : Option (Bool) :=
  (f_Chg_read vC p1).bind fun x1 => if (lg_cmp (x1 &&& (1 : Int64)) (1 : Int64)) = 0 then some true else some false
abbrev cd_Blk_isUsed : Cond := .code yX0_isUsed cX0_isUsed 2 (some .boolean)
theorem yd_Blk_isUsed : yX0_isUsed.cls ≠ "java/lang/invoke/MethodHandle" ∧ yX0_isUsed.cls ≠ "java/lang/invoke/VarHandle" ∧ (parseMethodDescriptor yX0_isUsed.desc).map (fun d => d.parameters.length) = some 1 := by decide +kernel
abbrev rm_Blk_isUsed : Room := { frames := 2, cells := 0, slots := 0, locals := 41 }
abbrev q_Blk_isUsed (D : va_G) (ad : Nat → Nat) (ca : Nat → ClassId) (vC : CT) (res : Bool) (A : Nat → Prop) : Array Value → State → Outcome → State → Prop := va_Qi (fun (r : Int32) (_ : Unit) => r = bI res) (gB D cls (tys ca) A (fun (u : Unit) => (wB ad ++ wC ad ca vC))) A
set_option maxHeartbeats 4000000 in
set_option maxRecDepth 100000 in
theorem c_Blk_isUsed (l : Launch) (D : va_G) (ad : Nat → Nat) (ca : Nat → ClassId) (vC : CT) (p1 : Int32) (res : Bool) (hf : f_Blk_isUsed vC p1 = some res) (sz : Nat) : Met l yX0_isUsed (cd_Blk_isUsed :: gA) rm_Blk_isUsed (va_Pc [.ref (ad 12), .int p1] (gP D cls (tys ca) (wB ad ++ wC ad ca vC) sz)) (q_Blk_isUsed D ad ca vC res (va_A (wB ad ++ wC ad ca vC) sz)) 0 0 (va_A (wB ad ++ wC ad ca vC) sz) := by
  refine g_met (cc := cX0_isUsed) (Qc := q_Blk_isUsed D ad ca vC res) (lv := [(0, .ref (ad 12)), (1, .int p1)]) (own := RX0) (by decide) rfl rfl (Nat.le_of_ble_eq_true rfl) rfl sz ?_
  intro p e s m args below meth c A Z hr hnm
  unfold f_Blk_isUsed at hf
  refine g_aload_n (pc := 0) Z 0 dX0_isUsed_0 rfl ?_
  refine g_get (pc := 1) (v := .ref (ad 7)) (T := TX0) (N := 1) Z 0 0 dX0_isUsed_1 (mm ww110) inx_X0 rfl (by decide) rfl rfl rfl ?_
  refine g_iload_n (pc := 4) Z 1 dX0_isUsed_4 rfl ?_
  obtain ⟨x1, h2, hf⟩ := Option.bind_eq_some_iff.mp hf
  refine g_calll (pc := 5) (ws2 := fun u => (wB ad ++ wC ad ca vC)) (wr := (wB ad)) Z [1, 2, 3, 4, 5] [0] [0, 1, 2, 3, 4, 5] (g_runV Z (c_Chg_read l D ad ca vC p1 x1 h2) (cwV 1 Z.2.2.2.2.1 (gg_V ww111 ww98 ww99 ww40 ww100) rfl rfl rfl (yv_of rfl yd_Chg_read) ⟨Nat.le_of_ble_eq_true rfl, Nat.le_of_ble_eq_true rfl⟩) [1, 2, 3, 4, 5] rfl (by decide) 0 rfl rfl rfl rfl rfl (Nat.le_of_ble_eq_true rfl) dX0_isUsed_5 ⟨Nat.le_of_ble_eq_true rfl, Nat.le_of_ble_eq_true rfl⟩) rfl rfl (by decide) (by decide) (by decide) (fun _ => rfl) (fun r u hu => ?_)
  obtain rfl := hu.symm
  refine g_lconst (pc := 8) (v := 1) Z dX0_isUsed_8 (by decide) ?_
  refine g_land (pc := 9) Z dX0_isUsed_9 ?_
  refine g_lconst (pc := 10) (v := 1) Z dX0_isUsed_10 (by decide) ?_
  refine g_lcmp (pc := 11) Z dX0_isUsed_11 ?_
  refine g_if_ne (pc := 12) (tgt := 19) Z dX0_isUsed_12 (by decide) (fun c3 => ?_) (fun c3 => ?_)
  · replace hf := gIfN c3 hf
    refine g_iconst (pc := 19) (v := 0) Z dX0_isUsed_19 (by decide) ?_
    obtain rfl := Option.some.inj hf
    exact g_zret Z hr rfl dX0_isUsed_20 () rfl rfl
  · replace hf := gIfP c3 hf
    refine g_iconst (pc := 15) (v := 1) Z dX0_isUsed_15 (by decide) ?_
    refine g_goto (pc := 16) (tgt := 20) Z dX0_isUsed_16 (by decide) ?_
    obtain rfl := Option.some.inj hf
    exact g_zret Z hr rfl dX0_isUsed_20 () rfl rfl
theorem ww112 : Jvm.Cond.constantLong RX0 21 (1023) ∈ gA := wt2 49 rfl rfl
/-! RedoHeap$Blocks.sizeAt(I)I -/
def f_Blk_sizeAt (vC : CT) (p1 : Int32) : Option (Int32) :=
  (f_Chg_read vC p1).bind fun x1 => if p1 < (176 : Int32) then some (0 : Int32) else if (lg_cmp (x1 >>> ((1 : Int32).toInt64 &&& 63)) (1 : Int64)) < 0 then some (0 : Int32) else if 0 < (lg_cmp (x1 >>> ((1 : Int32).toInt64 &&& 63)) ((1023 : Int64) - p1.toInt64)) then some (0 : Int32) else some ((x1 >>> ((1 : Int32).toInt64 &&& 63)).toInt32)
abbrev cd_Blk_sizeAt : Cond := .code yX0_sizeAt cX0_sizeAt 5 (some .int)
theorem yd_Blk_sizeAt : yX0_sizeAt.cls ≠ "java/lang/invoke/MethodHandle" ∧ yX0_sizeAt.cls ≠ "java/lang/invoke/VarHandle" ∧ (parseMethodDescriptor yX0_sizeAt.desc).map (fun d => d.parameters.length) = some 1 := by decide +kernel
abbrev rm_Blk_sizeAt : Room := { frames := 2, cells := 0, slots := 0, locals := 41 }
abbrev q_Blk_sizeAt (D : va_G) (ad : Nat → Nat) (ca : Nat → ClassId) (vC : CT) (res : Int32) (A : Nat → Prop) : Array Value → State → Outcome → State → Prop := va_Qi (fun (r : Int32) (_ : Unit) => r = res) (gB D cls (tys ca) A (fun (u : Unit) => (wB ad ++ wC ad ca vC))) A
set_option maxHeartbeats 4000000 in
set_option maxRecDepth 100000 in
theorem c_Blk_sizeAt (l : Launch) (D : va_G) (ad : Nat → Nat) (ca : Nat → ClassId) (vC : CT) (p1 : Int32) (res : Int32) (hf : f_Blk_sizeAt vC p1 = some res) (sz : Nat) : Met l yX0_sizeAt (cd_Blk_sizeAt :: gA) rm_Blk_sizeAt (va_Pc [.ref (ad 12), .int p1] (gP D cls (tys ca) (wB ad ++ wC ad ca vC) sz)) (q_Blk_sizeAt D ad ca vC res (va_A (wB ad ++ wC ad ca vC) sz)) 0 0 (va_A (wB ad ++ wC ad ca vC) sz) := by
  refine g_met (cc := cX0_sizeAt) (Qc := q_Blk_sizeAt D ad ca vC res) (lv := [(0, .ref (ad 12)), (1, .int p1)]) (own := RX0) (by decide) rfl rfl (Nat.le_of_ble_eq_true rfl) rfl sz ?_
  intro p e s m args below meth c A Z hr hnm
  unfold f_Blk_sizeAt at hf
  refine g_aload_n (pc := 0) Z 0 dX0_sizeAt_0 rfl ?_
  refine g_get (pc := 1) (v := .ref (ad 7)) (T := TX0) (N := 1) Z 0 0 dX0_sizeAt_1 (mm ww110) inx_X0 rfl (by decide) rfl rfl rfl ?_
  refine g_iload_n (pc := 4) Z 1 dX0_sizeAt_4 rfl ?_
  obtain ⟨x1, h2, hf⟩ := Option.bind_eq_some_iff.mp hf
  refine g_calll (pc := 5) (ws2 := fun u => (wB ad ++ wC ad ca vC)) (wr := (wB ad)) Z [1, 2, 3, 4, 5] [0] [0, 1, 2, 3, 4, 5] (g_runV Z (c_Chg_read l D ad ca vC p1 x1 h2) (cwV 1 Z.2.2.2.2.1 (gg_V ww111 ww98 ww99 ww40 ww100) rfl rfl rfl (yv_of rfl yd_Chg_read) ⟨Nat.le_of_ble_eq_true rfl, Nat.le_of_ble_eq_true rfl⟩) [1, 2, 3, 4, 5] rfl (by decide) 0 rfl rfl rfl rfl rfl (Nat.le_of_ble_eq_true rfl) dX0_sizeAt_5 ⟨Nat.le_of_ble_eq_true rfl, Nat.le_of_ble_eq_true rfl⟩) rfl rfl (by decide) (by decide) (by decide) (fun _ => rfl) (fun r u hu => ?_)
  obtain rfl := hu.symm
  refine g_iconst (pc := 8) (v := 1) Z dX0_sizeAt_8 (by decide) ?_
  refine g_lshr (pc := 9) Z dX0_sizeAt_9 ?_
  refine g_lstore_n (pc := 10) (lv' := [(2, .long (x1 >>> ((1 : Int32).toInt64 &&& 63))), (0, .ref (ad 12)), (1, .int p1)]) Z dX0_sizeAt_10 (by decide) rfl ?_
  refine g_iload_n (pc := 11) Z 2 dX0_sizeAt_11 rfl ?_
  refine g_sipush (pc := 12) (v := 176) Z dX0_sizeAt_12 (by decide) ?_
  refine g_icmp_lt (pc := 15) (tgt := 39) Z dX0_sizeAt_15 (by decide) (fun c3 => ?_) (fun c3 => ?_)
  · replace hf := gIfP c3 hf
    refine g_iconst (pc := 39) (v := 0) Z dX0_sizeAt_39 (by decide) ?_
    refine g_istore (pc := 40) (lv' := [(4, .int (0 : Int32)), (2, .long (x1 >>> ((1 : Int32).toInt64 &&& 63))), (0, .ref (ad 12)), (1, .int p1)]) Z dX0_sizeAt_40 (by decide) rfl ?_
    refine g_iload (pc := 42) Z 0 dX0_sizeAt_42 rfl ?_
    refine g_if_eq (pc := 44) (tgt := 52) Z dX0_sizeAt_44 (by decide) (fun _ => ?_) (fun c0 => absurd c0 (by decide))
    refine g_iconst (pc := 52) (v := 0) Z dX0_sizeAt_52 (by decide) ?_
    obtain rfl := Option.some.inj hf
    exact g_iret Z hr dX0_sizeAt_53 () rfl rfl
  · replace hf := gIfN c3 hf
    refine g_lload_n (pc := 18) Z 0 dX0_sizeAt_18 rfl ?_
    refine g_lconst (pc := 19) (v := 1) Z dX0_sizeAt_19 (by decide) ?_
    refine g_lcmp (pc := 20) Z dX0_sizeAt_20 ?_
    refine g_if_lt (pc := 21) (tgt := 39) Z dX0_sizeAt_21 (by decide) (fun c4 => ?_) (fun c4 => ?_)
    · replace hf := gIfP c4 hf
      refine g_iconst (pc := 39) (v := 0) Z dX0_sizeAt_39 (by decide) ?_
      refine g_istore (pc := 40) (lv' := [(4, .int (0 : Int32)), (2, .long (x1 >>> ((1 : Int32).toInt64 &&& 63))), (0, .ref (ad 12)), (1, .int p1)]) Z dX0_sizeAt_40 (by decide) rfl ?_
      refine g_iload (pc := 42) Z 0 dX0_sizeAt_42 rfl ?_
      refine g_if_eq (pc := 44) (tgt := 52) Z dX0_sizeAt_44 (by decide) (fun _ => ?_) (fun c0 => absurd c0 (by decide))
      refine g_iconst (pc := 52) (v := 0) Z dX0_sizeAt_52 (by decide) ?_
      obtain rfl := Option.some.inj hf
      exact g_iret Z hr dX0_sizeAt_53 () rfl rfl
    · replace hf := gIfN c4 hf
      refine g_lload_n (pc := 24) Z 0 dX0_sizeAt_24 rfl ?_
      refine g_ldc2 (pc := 25) (v := 1023) Z dX0_sizeAt_25 (mm ww112) ?_
      refine g_iload_n (pc := 28) Z 2 dX0_sizeAt_28 rfl ?_
      refine g_i2l (pc := 29) Z dX0_sizeAt_29 ?_
      refine g_lsub (pc := 30) Z dX0_sizeAt_30 ?_
      refine g_lcmp (pc := 31) Z dX0_sizeAt_31 ?_
      refine g_if_gt (pc := 32) (tgt := 39) Z dX0_sizeAt_32 (by decide) (fun c5 => ?_) (fun c5 => ?_)
      · replace hf := gIfP c5 hf
        refine g_iconst (pc := 39) (v := 0) Z dX0_sizeAt_39 (by decide) ?_
        refine g_istore (pc := 40) (lv' := [(4, .int (0 : Int32)), (2, .long (x1 >>> ((1 : Int32).toInt64 &&& 63))), (0, .ref (ad 12)), (1, .int p1)]) Z dX0_sizeAt_40 (by decide) rfl ?_
        refine g_iload (pc := 42) Z 0 dX0_sizeAt_42 rfl ?_
        refine g_if_eq (pc := 44) (tgt := 52) Z dX0_sizeAt_44 (by decide) (fun _ => ?_) (fun c0 => absurd c0 (by decide))
        refine g_iconst (pc := 52) (v := 0) Z dX0_sizeAt_52 (by decide) ?_
        obtain rfl := Option.some.inj hf
        exact g_iret Z hr dX0_sizeAt_53 () rfl rfl
      · replace hf := gIfN c5 hf
        refine g_iconst (pc := 35) (v := 1) Z dX0_sizeAt_35 (by decide) ?_
        refine g_goto (pc := 36) (tgt := 40) Z dX0_sizeAt_36 (by decide) ?_
        refine g_istore (pc := 40) (lv' := [(4, .int (1 : Int32)), (2, .long (x1 >>> ((1 : Int32).toInt64 &&& 63))), (0, .ref (ad 12)), (1, .int p1)]) Z dX0_sizeAt_40 (by decide) rfl ?_
        refine g_iload (pc := 42) Z 0 dX0_sizeAt_42 rfl ?_
        refine g_if_eq (pc := 44) (tgt := 52) Z dX0_sizeAt_44 (by decide) (fun c0 => absurd c0 (by decide)) (fun _ => ?_)
        refine g_lload_n (pc := 47) Z 1 dX0_sizeAt_47 rfl ?_
        refine g_l2i (pc := 48) Z dX0_sizeAt_48 ?_
        refine g_goto (pc := 49) (tgt := 53) Z dX0_sizeAt_49 (by decide) ?_
        obtain rfl := Option.some.inj hf
        exact g_iret Z hr dX0_sizeAt_53 () rfl rfl
theorem ww113 : Cond.methodLink RX0 23 yX0_isUsed ∈ gA := wt2 34 rfl rfl
theorem ww114 : Cond.instanceMethod yX0_isUsed ∈ gA := wt2 35 rfl rfl
theorem ww115 : Cond.selects RX0 yX0_isUsed yX0_isUsed ∈ gA := wt2 36 rfl rfl
theorem ww116 : Cond.initialized RX0 ∈ gA := wt1 5 rfl rfl
theorem ww117 : cd_Blk_isUsed ∈ gA := wt2 37 rfl rfl
theorem ww118 : Cond.methodLink RX0 27 yX0_sizeAt ∈ gA := wt2 45 rfl rfl
theorem ww119 : Cond.instanceMethod yX0_sizeAt ∈ gA := wt2 46 rfl rfl
theorem ww120 : Cond.selects RX0 yX0_sizeAt yX0_sizeAt ∈ gA := wt2 47 rfl rfl
theorem ww121 : cd_Blk_sizeAt ∈ gA := wt2 48 rfl rfl
/-! RedoHeap$Blocks.freeAt(I)I -/
def f_Blk_freeAt (vC : CT) (p1 : Int32) : Option (Int32) :=
  (f_Blk_isUsed vC p1).bind fun x1 => if x1 = true then some (0 : Int32) else (f_Blk_sizeAt vC p1).bind fun x4 => some x4
abbrev cd_Blk_freeAt : Cond := .code yX0_freeAt cX0_freeAt 2 (some .int)
theorem yd_Blk_freeAt : yX0_freeAt.cls ≠ "java/lang/invoke/MethodHandle" ∧ yX0_freeAt.cls ≠ "java/lang/invoke/VarHandle" ∧ (parseMethodDescriptor yX0_freeAt.desc).map (fun d => d.parameters.length) = some 1 := by decide +kernel
abbrev rm_Blk_freeAt : Room := { frames := 3, cells := 0, slots := 0, locals := 65 }
abbrev q_Blk_freeAt (D : va_G) (ad : Nat → Nat) (ca : Nat → ClassId) (vC : CT) (res : Int32) (A : Nat → Prop) : Array Value → State → Outcome → State → Prop := va_Qi (fun (r : Int32) (_ : Unit) => r = res) (gB D cls (tys ca) A (fun (u : Unit) => (wB ad ++ wC ad ca vC))) A
set_option maxHeartbeats 4000000 in
set_option maxRecDepth 100000 in
theorem c_Blk_freeAt (l : Launch) (D : va_G) (ad : Nat → Nat) (ca : Nat → ClassId) (vC : CT) (p1 : Int32) (res : Int32) (hf : f_Blk_freeAt vC p1 = some res) (sz : Nat) : Met l yX0_freeAt (cd_Blk_freeAt :: gA) rm_Blk_freeAt (va_Pc [.ref (ad 12), .int p1] (gP D cls (tys ca) (wB ad ++ wC ad ca vC) sz)) (q_Blk_freeAt D ad ca vC res (va_A (wB ad ++ wC ad ca vC) sz)) 0 0 (va_A (wB ad ++ wC ad ca vC) sz) := by
  refine g_met (cc := cX0_freeAt) (Qc := q_Blk_freeAt D ad ca vC res) (lv := [(0, .ref (ad 12)), (1, .int p1)]) (own := RX0) (by decide) rfl rfl (Nat.le_of_ble_eq_true rfl) rfl sz ?_
  intro p e s m args below meth c A Z hr hnm
  unfold f_Blk_freeAt at hf
  refine g_aload_n (pc := 0) Z 0 dX0_freeAt_0 rfl ?_
  refine g_iload_n (pc := 1) Z 1 dX0_freeAt_1 rfl ?_
  obtain ⟨x1, h2, hf⟩ := Option.bind_eq_some_iff.mp hf
  refine g_calli (pc := 2) (ws2 := fun u => (wB ad ++ wC ad ca vC)) (wr := ([] : va_W)) Z [0, 1, 2, 3, 4, 5] [] [0, 1, 2, 3, 4, 5] (g_runV Z (c_Blk_isUsed l D ad ca vC p1 x1 h2) (cwV 1 Z.2.2.2.2.1 (gg_V ww113 ww114 ww115 ww116 ww117) rfl rfl rfl (yv_of rfl yd_Blk_isUsed) ⟨Nat.le_of_ble_eq_true rfl, Nat.le_of_ble_eq_true rfl⟩) [0, 1, 2, 3, 4, 5] rfl (by decide) 0 rfl rfl rfl rfl rfl (Nat.le_of_ble_eq_true rfl) dX0_freeAt_2 ⟨Nat.le_of_ble_eq_true rfl, Nat.le_of_ble_eq_true rfl⟩) rfl rfl (by decide) (by decide) (by decide) (fun _ => rfl) (fun r u hu => ?_)
  obtain rfl := hu.symm
  refine g_if_eq (pc := 5) (tgt := 12) Z dX0_freeAt_5 (by decide) (fun c3 => ?_) (fun c3 => ?_)
  · replace hf := gIfN (bI_z c3) hf
    refine g_aload_n (pc := 12) Z 0 dX0_freeAt_12 rfl ?_
    refine g_iload_n (pc := 13) Z 1 dX0_freeAt_13 rfl ?_
    obtain ⟨x4, h5, hf⟩ := Option.bind_eq_some_iff.mp hf
    refine g_calli (pc := 14) (ws2 := fun u => (wB ad ++ wC ad ca vC)) (wr := ([] : va_W)) Z [0, 1, 2, 3, 4, 5] [] [0, 1, 2, 3, 4, 5] (g_runV Z (c_Blk_sizeAt l D ad ca vC p1 x4 h5) (cwV 1 Z.2.2.2.2.1 (gg_V ww118 ww119 ww120 ww116 ww121) rfl rfl rfl (yv_of rfl yd_Blk_sizeAt) ⟨Nat.le_of_ble_eq_true rfl, Nat.le_of_ble_eq_true rfl⟩) [0, 1, 2, 3, 4, 5] rfl (by decide) 0 rfl rfl rfl rfl rfl (Nat.le_of_ble_eq_true rfl) dX0_freeAt_14 ⟨Nat.le_of_ble_eq_true rfl, Nat.le_of_ble_eq_true rfl⟩) rfl rfl (by decide) (by decide) (by decide) (fun _ => rfl) (fun r u hu => ?_)
    obtain rfl := hu.symm
    obtain rfl := Option.some.inj hf
    exact g_iret Z hr dX0_freeAt_17 () rfl rfl
  · replace hf := gIfP (bI_nz c3) hf
    refine g_iconst (pc := 8) (v := 0) Z dX0_freeAt_8 (by decide) ?_
    refine g_goto (pc := 9) (tgt := 17) Z dX0_freeAt_9 (by decide) ?_
    obtain rfl := Option.some.inj hf
    exact g_iret Z hr dX0_freeAt_17 () rfl rfl
theorem ww122 : Cond.methodLink RX0 31 yX0_freeAt ∈ gA := wt2 30 rfl rfl
theorem ww123 : Cond.instanceMethod yX0_freeAt ∈ gA := wt2 32 rfl rfl
theorem ww124 : Cond.selects RX0 yX0_freeAt yX0_freeAt ∈ gA := wtS 4 rfl rfl
theorem ww125 : cd_Blk_freeAt ∈ gA := wt2 33 rfl rfl
/-! RedoHeap$Blocks.firstFree(I)I -/
def f_Blk_firstFree_4 (N : Nat) (vC : CT) : Nat → Int32 → Int32 → Option (Int32)
  | 0, _, _ => none
  | n + 1, y1, y2 => if (1024 : Int32) ≤ y2 then some (-1 : Int32) else (f_Blk_freeAt vC y2).bind fun x2 => if x2 < y1 then (f_Blk_sizeAt vC y2).bind fun x5 => f_Blk_firstFree_4 N vC n y1 (y2 + ((1 : Int32) + x5)) else some y2
def f_Blk_firstFree (N : Nat) (vC : CT) (p1 : Int32) : Option (Int32) :=
  f_Blk_firstFree_4 N vC N p1 (176 : Int32)
abbrev cd_Blk_firstFree : Cond := .code yX0_firstFree cX0_firstFree 3 (some .int)
theorem yd_Blk_firstFree : yX0_firstFree.cls ≠ "java/lang/invoke/MethodHandle" ∧ yX0_firstFree.cls ≠ "java/lang/invoke/VarHandle" ∧ (parseMethodDescriptor yX0_firstFree.desc).map (fun d => d.parameters.length) = some 1 := by decide +kernel
abbrev rm_Blk_firstFree : Room := { frames := 4, cells := 0, slots := 0, locals := 86 }
abbrev q_Blk_firstFree (D : va_G) (ad : Nat → Nat) (ca : Nat → ClassId) (vC : CT) (res : Int32) (A : Nat → Prop) : Array Value → State → Outcome → State → Prop := va_Qi (fun (r : Int32) (_ : Unit) => r = res) (gB D cls (tys ca) A (fun (u : Unit) => (wB ad ++ wC ad ca vC))) A
set_option maxHeartbeats 4000000 in
set_option maxRecDepth 100000 in
theorem w_Blk_firstFree_4 {p : Program} {l : Launch} {e : Env} {s : State} {m : MethodId} {args : Array Value} {below : List Frame} {meth : Method} {c : Code} {D : va_G} {ad : Nat → Nat} {ca : Nat → ClassId} {A : Nat → Prop} {N : Nat} {vC : CT} {res : Int32} (Z : gZ p s m args meth c cX0_firstFree 3 RX0 (cd_Blk_firstFree :: gA) A D cls (tys ca)) (hr : meth.sig.returnType = (some .int)) : ∀ (n : Nat) (y1 : Int32) (y2 : Int32), f_Blk_firstFree_4 N vC n y1 y2 = some res → gW p l e rm_Blk_firstFree s m args below meth c 3 A D cls 0 0 (MQ below (q_Blk_firstFree D ad ca vC res A) args s 0 0 A) (wB ad ++ wC ad ca vC) [(0, .ref (ad 12)), (1, .int y1), (2, .int y2)] 4 [] := by
  intro n
  induction n with
  | zero =>
    intro y1 y2 hf
    exact absurd hf (by rw [f_Blk_firstFree_4]; exact fun h => by cases h)
  | succ n ih =>
    intro y1 y2 hf
    rw [f_Blk_firstFree_4] at hf
    refine g_iload_n (pc := 4) Z 2 dX0_firstFree_4 rfl ?_
    refine g_sipush (pc := 5) (v := 1024) Z dX0_firstFree_5 (by decide) ?_
    refine g_icmp_ge (pc := 8) (tgt := 35) Z dX0_firstFree_8 (by decide) (fun c1 => ?_) (fun c1 => ?_)
    · replace hf := gIfP c1 hf
      refine g_iconst (pc := 35) (v := -1) Z dX0_firstFree_35 (by decide) ?_
      obtain rfl := Option.some.inj hf
      exact g_iret Z hr dX0_firstFree_36 () rfl rfl
    · replace hf := gIfN c1 hf
      refine g_aload_n (pc := 11) Z 0 dX0_firstFree_11 rfl ?_
      refine g_iload_n (pc := 12) Z 2 dX0_firstFree_12 rfl ?_
      obtain ⟨x2, h3, hf⟩ := Option.bind_eq_some_iff.mp hf
      refine g_calli (pc := 13) (ws2 := fun u => (wB ad ++ wC ad ca vC)) (wr := ([] : va_W)) Z [0, 1, 2, 3, 4, 5] [] [0, 1, 2, 3, 4, 5] (g_runV Z (c_Blk_freeAt l D ad ca vC y2 x2 h3) (cwV 1 Z.2.2.2.2.1 (gg_V ww122 ww123 ww124 ww116 ww125) rfl rfl rfl (yv_of rfl yd_Blk_freeAt) ⟨Nat.le_of_ble_eq_true rfl, Nat.le_of_ble_eq_true rfl⟩) [0, 1, 2, 3, 4, 5] rfl (by decide) 0 rfl rfl rfl rfl rfl (Nat.le_of_ble_eq_true rfl) dX0_firstFree_13 ⟨Nat.le_of_ble_eq_true rfl, Nat.le_of_ble_eq_true rfl⟩) rfl rfl (by decide) (by decide) (by decide) (fun _ => rfl) (fun r u hu => ?_)
      obtain rfl := hu.symm
      refine g_iload_n (pc := 16) Z 1 dX0_firstFree_16 rfl ?_
      refine g_icmp_lt (pc := 17) (tgt := 22) Z dX0_firstFree_17 (by decide) (fun c4 => ?_) (fun c4 => ?_)
      · replace hf := gIfP c4 hf
        refine g_iload_n (pc := 22) Z 2 dX0_firstFree_22 rfl ?_
        refine g_iconst (pc := 23) (v := 1) Z dX0_firstFree_23 (by decide) ?_
        refine g_aload_n (pc := 24) Z 0 dX0_firstFree_24 rfl ?_
        refine g_iload_n (pc := 25) Z 2 dX0_firstFree_25 rfl ?_
        obtain ⟨x5, h6, hf⟩ := Option.bind_eq_some_iff.mp hf
        refine g_calli (pc := 26) (ws2 := fun u => (wB ad ++ wC ad ca vC)) (wr := ([] : va_W)) Z [0, 1, 2, 3, 4, 5] [] [0, 1, 2, 3, 4, 5] (g_runV Z (c_Blk_sizeAt l D ad ca vC y2 x5 h6) (cwV 1 Z.2.2.2.2.1 (gg_V ww118 ww119 ww120 ww116 ww121) rfl rfl rfl (yv_of rfl yd_Blk_sizeAt) ⟨Nat.le_of_ble_eq_true rfl, Nat.le_of_ble_eq_true rfl⟩) [0, 1, 2, 3, 4, 5] rfl (by decide) 0 rfl rfl rfl rfl rfl (Nat.le_of_ble_eq_true rfl) dX0_firstFree_26 ⟨Nat.le_of_ble_eq_true rfl, Nat.le_of_ble_eq_true rfl⟩) rfl rfl (by decide) (by decide) (by decide) (fun _ => rfl) (fun r u hu => ?_)
        obtain rfl := hu.symm
        refine g_iadd (pc := 29) Z dX0_firstFree_29 ?_
        refine g_iadd (pc := 30) Z dX0_firstFree_30 ?_
        refine g_istore_n (pc := 31) (lv' := [(2, .int (y2 + ((1 : Int32) + x5))), (0, .ref (ad 12)), (1, .int y1)]) Z dX0_firstFree_31 (by decide) rfl ?_
        refine g_goto (pc := 32) (tgt := 4) Z dX0_firstFree_32 (by decide) ?_
        refine g_locals (lv2 := [(0, .ref (ad 12)), (1, .int y1), (2, .int (y2 + ((1 : Int32) + x5)))]) [1, 2, 0] rfl ?_
        exact ih _ _ hf
      · replace hf := gIfN c4 hf
        refine g_iload_n (pc := 20) Z 2 dX0_firstFree_20 rfl ?_
        obtain rfl := Option.some.inj hf
        exact g_iret Z hr dX0_firstFree_21 () rfl rfl
set_option maxHeartbeats 4000000 in
set_option maxRecDepth 100000 in
theorem c_Blk_firstFree (l : Launch) (D : va_G) (ad : Nat → Nat) (ca : Nat → ClassId) (N : Nat) (vC : CT) (p1 : Int32) (res : Int32) (hf : f_Blk_firstFree N vC p1 = some res) (sz : Nat) : Met l yX0_firstFree (cd_Blk_firstFree :: gA) rm_Blk_firstFree (va_Pc [.ref (ad 12), .int p1] (gP D cls (tys ca) (wB ad ++ wC ad ca vC) sz)) (q_Blk_firstFree D ad ca vC res (va_A (wB ad ++ wC ad ca vC) sz)) 0 0 (va_A (wB ad ++ wC ad ca vC) sz) := by
  refine g_met (cc := cX0_firstFree) (Qc := q_Blk_firstFree D ad ca vC res) (lv := [(0, .ref (ad 12)), (1, .int p1)]) (own := RX0) (by decide) rfl rfl (Nat.le_of_ble_eq_true rfl) rfl sz ?_
  intro p e s m args below meth c A Z hr hnm
  unfold f_Blk_firstFree at hf
  refine g_sipush (pc := 0) (v := 176) Z dX0_firstFree_0 (by decide) ?_
  refine g_istore_n (pc := 3) (lv' := [(2, .int (176 : Int32)), (0, .ref (ad 12)), (1, .int p1)]) Z dX0_firstFree_3 (by decide) rfl ?_
  refine g_locals (lv2 := [(0, .ref (ad 12)), (1, .int p1), (2, .int (176 : Int32))]) [1, 2, 0] rfl ?_
  exact w_Blk_firstFree_4 Z hr N _ _ hf
theorem ww126 : Jvm.Cond.constantLong RX0 47 (2) ∈ gA := wt2 54 rfl rfl
theorem ww127 : Cond.methodLink RX0 56 yX1_cost ∈ gA := wt2 55 rfl rfl
theorem ww128 : Cond.methodLink RX0 60 yX1_haveRoomFor ∈ gA := wt2 59 rfl rfl
theorem ww129 : Cond.methodLink RX0 49 yX1_change ∈ gA := wt2 63 rfl rfl
theorem ww130 : Cond.instanceMethod yX1_change ∈ gA := wt2 64 rfl rfl
theorem ww131 : Cond.selects RX1 yX1_change yX1_change ∈ gA := wt2 65 rfl rfl
theorem ww132 : cd_Chg_change ∈ gA := wt2 66 rfl rfl
/-! RedoHeap$Blocks.split(III)Z -/
def f_Blk_split (N : Nat) (vC : CT) (p1 : Int32) (p2 : Int32) (p3 : Int32) : Option (Bool × CT) :=
  (f_Chg_cost vC ((p1 + (1 : Int32)) + p2) ((2 : Int64) * (((p3 - p2) - (1 : Int32)).toInt64))).bind fun x1 => (f_Chg_cost vC p1 (((2 : Int64) * p2.toInt64) + (1 : Int64))).bind fun x3 => (f_Chg_haveRoomFor vC (x1 + x3)).bind fun x5 => if x5 = true then (f_Chg_change N vC ((p1 + (1 : Int32)) + p2) ((2 : Int64) * (((p3 - p2) - (1 : Int32)).toInt64))).bind fun x8 => if x8.1 = true then (f_Chg_change N x8.2 p1 (((2 : Int64) * p2.toInt64) + (1 : Int64))).bind fun x11 => if x11.1 = true then some (true, x11.2) else some (false, x11.2) else some (false, x8.2) else some (false, vC)
abbrev cd_Blk_split : Cond := .code yX0_split cX0_split 9 (some .boolean)
theorem yd_Blk_split : yX0_split.cls ≠ "java/lang/invoke/MethodHandle" ∧ yX0_split.cls ≠ "java/lang/invoke/VarHandle" ∧ (parseMethodDescriptor yX0_split.desc).map (fun d => d.parameters.length) = some 3 := by decide +kernel
abbrev rm_Blk_split : Room := { frames := 3, cells := 0, slots := 0, locals := 67 }
abbrev q_Blk_split (D : va_G) (ad : Nat → Nat) (ca : Nat → ClassId) (res : Bool × CT) (A : Nat → Prop) : Array Value → State → Outcome → State → Prop := va_Qi (fun (r : Int32) (u : CT) => r = bI res.1 ∧ u = res.2) (gB D cls (tys ca) A (fun (u : CT) => (wB ad ++ wC ad ca u))) A
set_option maxHeartbeats 4000000 in
set_option maxRecDepth 100000 in
theorem c_Blk_split (l : Launch) (D : va_G) (ad : Nat → Nat) (ca : Nat → ClassId) (N : Nat) (vC : CT) (p1 : Int32) (p2 : Int32) (p3 : Int32) (res : Bool × CT) (hf : f_Blk_split N vC p1 p2 p3 = some res) (sz : Nat) : Met l yX0_split (cd_Blk_split :: gA) rm_Blk_split (va_Pc [.ref (ad 12), .int p1, .int p2, .int p3] (gP D cls (tys ca) (wB ad ++ wC ad ca vC) sz)) (q_Blk_split D ad ca res (va_A (wB ad ++ wC ad ca vC) sz)) 0 0 (va_A (wB ad ++ wC ad ca vC) sz) := by
  refine g_met (cc := cX0_split) (Qc := q_Blk_split D ad ca res) (lv := [(0, .ref (ad 12)), (1, .int p1), (2, .int p2), (3, .int p3)]) (own := RX0) (by decide) rfl rfl (Nat.le_of_ble_eq_true rfl) rfl sz ?_
  intro p e s m args below meth c A Z hr hnm
  unfold f_Blk_split at hf
  refine g_iload_n (pc := 0) Z 1 dX0_split_0 rfl ?_
  refine g_iconst (pc := 1) (v := 1) Z dX0_split_1 (by decide) ?_
  refine g_iadd (pc := 2) Z dX0_split_2 ?_
  refine g_iload_n (pc := 3) Z 2 dX0_split_3 rfl ?_
  refine g_iadd (pc := 4) Z dX0_split_4 ?_
  refine g_istore (pc := 5) (lv' := [(4, .int ((p1 + (1 : Int32)) + p2)), (0, .ref (ad 12)), (1, .int p1), (2, .int p2), (3, .int p3)]) Z dX0_split_5 (by decide) rfl ?_
  refine g_ldc2 (pc := 7) (v := 2) Z dX0_split_7 (mm ww126) ?_
  refine g_iload_n (pc := 10) Z 4 dX0_split_10 rfl ?_
  refine g_iload_n (pc := 11) Z 3 dX0_split_11 rfl ?_
  refine g_isub (pc := 12) Z dX0_split_12 ?_
  refine g_iconst (pc := 13) (v := 1) Z dX0_split_13 (by decide) ?_
  refine g_isub (pc := 14) Z dX0_split_14 ?_
  refine g_i2l (pc := 15) Z dX0_split_15 ?_
  refine g_lmul (pc := 16) Z dX0_split_16 ?_
  refine g_lstore (pc := 17) (lv' := [(5, .long ((2 : Int64) * (((p3 - p2) - (1 : Int32)).toInt64))), (4, .int ((p1 + (1 : Int32)) + p2)), (0, .ref (ad 12)), (1, .int p1), (2, .int p2), (3, .int p3)]) Z dX0_split_17 (by decide) rfl ?_
  refine g_ldc2 (pc := 19) (v := 2) Z dX0_split_19 (mm ww126) ?_
  refine g_iload_n (pc := 22) Z 4 dX0_split_22 rfl ?_
  refine g_i2l (pc := 23) Z dX0_split_23 ?_
  refine g_lmul (pc := 24) Z dX0_split_24 ?_
  refine g_lconst (pc := 25) (v := 1) Z dX0_split_25 (by decide) ?_
  refine g_ladd (pc := 26) Z dX0_split_26 ?_
  refine g_lstore (pc := 27) (lv' := [(7, .long (((2 : Int64) * p2.toInt64) + (1 : Int64))), (5, .long ((2 : Int64) * (((p3 - p2) - (1 : Int32)).toInt64))), (4, .int ((p1 + (1 : Int32)) + p2)), (0, .ref (ad 12)), (1, .int p1), (2, .int p2), (3, .int p3)]) Z dX0_split_27 (by decide) rfl ?_
  refine g_aload_n (pc := 29) Z 3 dX0_split_29 rfl ?_
  refine g_get (pc := 30) (v := .ref (ad 7)) (T := TX0) (N := 1) Z 0 0 dX0_split_30 (mm ww110) inx_X0 rfl (by decide) rfl rfl rfl ?_
  refine g_aload_n (pc := 33) Z 3 dX0_split_33 rfl ?_
  refine g_get (pc := 34) (v := .ref (ad 7)) (T := TX0) (N := 1) Z 0 0 dX0_split_34 (mm ww110) inx_X0 rfl (by decide) rfl rfl rfl ?_
  refine g_iload (pc := 37) Z 2 dX0_split_37 rfl ?_
  refine g_lload (pc := 39) Z 1 dX0_split_39 rfl ?_
  obtain ⟨x1, h2, hf⟩ := Option.bind_eq_some_iff.mp hf
  refine g_calli (pc := 41) (ws2 := fun u => (wB ad ++ wC ad ca vC)) (wr := (wB ad)) Z [1, 2, 3, 4, 5] [0] [0, 1, 2, 3, 4, 5] (g_runV Z (c_Chg_cost l D ad ca vC ((p1 + (1 : Int32)) + p2) ((2 : Int64) * (((p3 - p2) - (1 : Int32)).toInt64)) x1 h2) (cwV 2 Z.2.2.2.2.1 (gg_V ww127 ww38 ww39 ww40 ww41) rfl rfl rfl (yv_of rfl yd_Chg_cost) ⟨Nat.le_of_ble_eq_true rfl, Nat.le_of_ble_eq_true rfl⟩) [1, 2, 3, 4, 5] rfl (by decide) 0 rfl rfl rfl rfl rfl (Nat.le_of_ble_eq_true rfl) dX0_split_41 ⟨Nat.le_of_ble_eq_true rfl, Nat.le_of_ble_eq_true rfl⟩) rfl rfl (by decide) (by decide) (by decide) (fun _ => rfl) (fun r u hu => ?_)
  obtain rfl := hu.symm
  refine g_aload_n (pc := 44) Z 3 dX0_split_44 rfl ?_
  refine g_get (pc := 45) (v := .ref (ad 7)) (T := TX0) (N := 1) Z 0 0 dX0_split_45 (mm ww110) inx_X0 rfl (by decide) rfl rfl rfl ?_
  refine g_iload_n (pc := 48) Z 4 dX0_split_48 rfl ?_
  refine g_lload (pc := 49) Z 0 dX0_split_49 rfl ?_
  obtain ⟨x3, h4, hf⟩ := Option.bind_eq_some_iff.mp hf
  refine g_calli (pc := 51) (ws2 := fun u => (wB ad ++ wC ad ca vC)) (wr := (wB ad)) Z [1, 2, 3, 4, 5] [0] [0, 1, 2, 3, 4, 5] (g_runV Z (c_Chg_cost l D ad ca vC p1 (((2 : Int64) * p2.toInt64) + (1 : Int64)) x3 h4) (cwV 2 Z.2.2.2.2.1 (gg_V ww127 ww38 ww39 ww40 ww41) rfl rfl rfl (yv_of rfl yd_Chg_cost) ⟨Nat.le_of_ble_eq_true rfl, Nat.le_of_ble_eq_true rfl⟩) [1, 2, 3, 4, 5] rfl (by decide) 0 rfl rfl rfl rfl rfl (Nat.le_of_ble_eq_true rfl) dX0_split_51 ⟨Nat.le_of_ble_eq_true rfl, Nat.le_of_ble_eq_true rfl⟩) rfl rfl (by decide) (by decide) (by decide) (fun _ => rfl) (fun r u hu => ?_)
  obtain rfl := hu.symm
  refine g_iadd (pc := 54) Z dX0_split_54 ?_
  obtain ⟨x5, h6, hf⟩ := Option.bind_eq_some_iff.mp hf
  refine g_calli (pc := 55) (ws2 := fun u => (wB ad ++ wC ad ca vC)) (wr := (wB ad)) Z [1, 2, 3, 4, 5] [0] [0, 1, 2, 3, 4, 5] (g_runV Z (c_Chg_haveRoomFor l D ad ca vC (x1 + x3) x5 h6) (cwV 1 Z.2.2.2.2.1 (gg_V ww128 ww43 ww44 ww40 ww45) rfl rfl rfl (yv_of rfl yd_Chg_haveRoomFor) ⟨Nat.le_of_ble_eq_true rfl, Nat.le_of_ble_eq_true rfl⟩) [1, 2, 3, 4, 5] rfl (by decide) 0 rfl rfl rfl rfl rfl (Nat.le_of_ble_eq_true rfl) dX0_split_55 ⟨Nat.le_of_ble_eq_true rfl, Nat.le_of_ble_eq_true rfl⟩) rfl rfl (by decide) (by decide) (by decide) (fun _ => rfl) (fun r u hu => ?_)
  obtain rfl := hu.symm
  refine g_if_ne (pc := 58) (tgt := 63) Z dX0_split_58 (by decide) (fun c7 => ?_) (fun c7 => ?_)
  · replace hf := gIfP (bI_nz c7) hf
    refine g_aload_n (pc := 63) Z 3 dX0_split_63 rfl ?_
    refine g_get (pc := 64) (v := .ref (ad 7)) (T := TX0) (N := 1) Z 0 0 dX0_split_64 (mm ww110) inx_X0 rfl (by decide) rfl rfl rfl ?_
    refine g_iload (pc := 67) Z 2 dX0_split_67 rfl ?_
    refine g_lload (pc := 69) Z 1 dX0_split_69 rfl ?_
    obtain ⟨x8, h9, hf⟩ := Option.bind_eq_some_iff.mp hf
    refine g_calli (pc := 71) (ws2 := fun u => (wB ad ++ wC ad ca u)) (wr := (wB ad)) Z [1, 2, 3, 4, 5] [0] [0, 1, 2, 3, 4, 5] (g_runV Z (c_Chg_change l D ad ca N vC ((p1 + (1 : Int32)) + p2) ((2 : Int64) * (((p3 - p2) - (1 : Int32)).toInt64)) x8 h9) (cwV 2 Z.2.2.2.2.1 (gg_V ww129 ww130 ww131 ww40 ww132) rfl rfl rfl (yv_of rfl yd_Chg_change) ⟨Nat.le_of_ble_eq_true rfl, Nat.le_of_ble_eq_true rfl⟩) [1, 2, 3, 4, 5] rfl (by decide) 0 rfl rfl rfl rfl rfl (Nat.le_of_ble_eq_true rfl) dX0_split_71 ⟨Nat.le_of_ble_eq_true rfl, Nat.le_of_ble_eq_true rfl⟩) rfl rfl (by decide) (by decide) (by decide) (fun _ => rfl) (fun r u hu => ?_)
    obtain ⟨rfl, rfl⟩ := hu
    refine g_if_eq (pc := 74) (tgt := 94) Z dX0_split_74 (by decide) (fun c10 => ?_) (fun c10 => ?_)
    · replace hf := gIfN (bI_z c10) hf
      refine g_iconst (pc := 94) (v := 0) Z dX0_split_94 (by decide) ?_
      obtain rfl := Option.some.inj hf
      exact g_zret Z hr rfl dX0_split_95 x8.2 ⟨rfl, rfl⟩ rfl
    · replace hf := gIfP (bI_nz c10) hf
      refine g_aload_n (pc := 77) Z 3 dX0_split_77 rfl ?_
      refine g_get (pc := 78) (v := .ref (ad 7)) (T := TX0) (N := 1) Z 0 0 dX0_split_78 (mm ww110) inx_X0 rfl (by decide) rfl rfl rfl ?_
      refine g_iload_n (pc := 81) Z 4 dX0_split_81 rfl ?_
      refine g_lload (pc := 82) Z 0 dX0_split_82 rfl ?_
      obtain ⟨x11, h12, hf⟩ := Option.bind_eq_some_iff.mp hf
      refine g_calli (pc := 84) (ws2 := fun u => (wB ad ++ wC ad ca u)) (wr := (wB ad)) Z [1, 2, 3, 4, 5] [0] [0, 1, 2, 3, 4, 5] (g_runV Z (c_Chg_change l D ad ca N x8.2 p1 (((2 : Int64) * p2.toInt64) + (1 : Int64)) x11 h12) (cwV 2 Z.2.2.2.2.1 (gg_V ww129 ww130 ww131 ww40 ww132) rfl rfl rfl (yv_of rfl yd_Chg_change) ⟨Nat.le_of_ble_eq_true rfl, Nat.le_of_ble_eq_true rfl⟩) [1, 2, 3, 4, 5] rfl (by decide) 0 rfl rfl rfl rfl rfl (Nat.le_of_ble_eq_true rfl) dX0_split_84 ⟨Nat.le_of_ble_eq_true rfl, Nat.le_of_ble_eq_true rfl⟩) rfl rfl (by decide) (by decide) (by decide) (fun _ => rfl) (fun r u hu => ?_)
      obtain ⟨rfl, rfl⟩ := hu
      refine g_if_eq (pc := 87) (tgt := 94) Z dX0_split_87 (by decide) (fun c13 => ?_) (fun c13 => ?_)
      · replace hf := gIfN (bI_z c13) hf
        refine g_iconst (pc := 94) (v := 0) Z dX0_split_94 (by decide) ?_
        obtain rfl := Option.some.inj hf
        exact g_zret Z hr rfl dX0_split_95 x11.2 ⟨rfl, rfl⟩ rfl
      · replace hf := gIfP (bI_nz c13) hf
        refine g_iconst (pc := 90) (v := 1) Z dX0_split_90 (by decide) ?_
        refine g_goto (pc := 91) (tgt := 95) Z dX0_split_91 (by decide) ?_
        obtain rfl := Option.some.inj hf
        exact g_zret Z hr rfl dX0_split_95 x11.2 ⟨rfl, rfl⟩ rfl
  · replace hf := gIfN (bI_z c7) hf
    refine g_iconst (pc := 61) (v := 0) Z dX0_split_61 (by decide) ?_
    obtain rfl := Option.some.inj hf
    exact g_zret Z hr rfl dX0_split_62 vC ⟨rfl, rfl⟩ rfl
theorem ww133 : Cond.methodLink RX0 40 yX0_firstFree ∈ gA := wt2 26 rfl rfl
theorem ww134 : Cond.instanceMethod yX0_firstFree ∈ gA := wt2 28 rfl rfl
theorem ww135 : Cond.selects RX0 yX0_firstFree yX0_firstFree ∈ gA := wtS 3 rfl rfl
theorem ww136 : cd_Blk_firstFree ∈ gA := wt2 29 rfl rfl
theorem ww137 : Cond.methodLink RX0 43 yX0_split ∈ gA := wt2 50 rfl rfl
theorem ww138 : Cond.instanceMethod yX0_split ∈ gA := wt2 52 rfl rfl
theorem ww139 : Cond.selects RX0 yX0_split yX0_split ∈ gA := wtS 5 rfl rfl
theorem ww140 : cd_Blk_split ∈ gA := wt2 53 rfl rfl
/-! RedoHeap$Blocks.takeFirst(I)I -/
def f_Blk_takeFirst (N : Nat) (vC : CT) (p1 : Int32) : Option (Int32 × CT) :=
  (f_Blk_firstFree N vC p1).bind fun x1 => if x1 = (-1 : Int32) then some ((-1 : Int32), vC) else (f_Blk_sizeAt vC x1).bind fun x4 => if x4 < (p1 + (2 : Int32)) then (f_Chg_change N vC x1 (((2 : Int64) * x4.toInt64) + (1 : Int64))).bind fun x7 => if x7.1 = true then some (x1 + (1 : Int32), x7.2) else some ((-1 : Int32), x7.2) else (f_Blk_split N vC x1 p1 x4).bind fun x10 => if x10.1 = true then some (x1 + (1 : Int32), x10.2) else some ((-1 : Int32), x10.2)
abbrev cd_Blk_takeFirst : Cond := .code yX0_takeFirst cX0_takeFirst 5 (some .int)
theorem yd_Blk_takeFirst : yX0_takeFirst.cls ≠ "java/lang/invoke/MethodHandle" ∧ yX0_takeFirst.cls ≠ "java/lang/invoke/VarHandle" ∧ (parseMethodDescriptor yX0_takeFirst.desc).map (fun d => d.parameters.length) = some 1 := by decide +kernel
abbrev rm_Blk_takeFirst : Room := { frames := 5, cells := 0, slots := 0, locals := 108 }
abbrev q_Blk_takeFirst (D : va_G) (ad : Nat → Nat) (ca : Nat → ClassId) (res : Int32 × CT) (A : Nat → Prop) : Array Value → State → Outcome → State → Prop := va_Qi (fun (r : Int32) (u : CT) => r = res.1 ∧ u = res.2) (gB D cls (tys ca) A (fun (u : CT) => (wB ad ++ wC ad ca u))) A
set_option maxHeartbeats 4000000 in
set_option maxRecDepth 100000 in
theorem c_Blk_takeFirst (l : Launch) (D : va_G) (ad : Nat → Nat) (ca : Nat → ClassId) (N : Nat) (vC : CT) (p1 : Int32) (res : Int32 × CT) (hf : f_Blk_takeFirst N vC p1 = some res) (sz : Nat) : Met l yX0_takeFirst (cd_Blk_takeFirst :: gA) rm_Blk_takeFirst (va_Pc [.ref (ad 12), .int p1] (gP D cls (tys ca) (wB ad ++ wC ad ca vC) sz)) (q_Blk_takeFirst D ad ca res (va_A (wB ad ++ wC ad ca vC) sz)) 0 0 (va_A (wB ad ++ wC ad ca vC) sz) := by
  refine g_met (cc := cX0_takeFirst) (Qc := q_Blk_takeFirst D ad ca res) (lv := [(0, .ref (ad 12)), (1, .int p1)]) (own := RX0) (by decide) rfl rfl (Nat.le_of_ble_eq_true rfl) rfl sz ?_
  intro p e s m args below meth c A Z hr hnm
  unfold f_Blk_takeFirst at hf
  refine g_aload_n (pc := 0) Z 0 dX0_takeFirst_0 rfl ?_
  refine g_iload_n (pc := 1) Z 1 dX0_takeFirst_1 rfl ?_
  obtain ⟨x1, h2, hf⟩ := Option.bind_eq_some_iff.mp hf
  refine g_calli (pc := 2) (ws2 := fun u => (wB ad ++ wC ad ca vC)) (wr := ([] : va_W)) Z [0, 1, 2, 3, 4, 5] [] [0, 1, 2, 3, 4, 5] (g_runV Z (c_Blk_firstFree l D ad ca N vC p1 x1 h2) (cwV 1 Z.2.2.2.2.1 (gg_V ww133 ww134 ww135 ww116 ww136) rfl rfl rfl (yv_of rfl yd_Blk_firstFree) ⟨Nat.le_of_ble_eq_true rfl, Nat.le_of_ble_eq_true rfl⟩) [0, 1, 2, 3, 4, 5] rfl (by decide) 0 rfl rfl rfl rfl rfl (Nat.le_of_ble_eq_true rfl) dX0_takeFirst_2 ⟨Nat.le_of_ble_eq_true rfl, Nat.le_of_ble_eq_true rfl⟩) rfl rfl (by decide) (by decide) (by decide) (fun _ => rfl) (fun r u hu => ?_)
  obtain rfl := hu.symm
  refine g_istore_n (pc := 5) (lv' := [(2, .int x1), (0, .ref (ad 12)), (1, .int p1)]) Z dX0_takeFirst_5 (by decide) rfl ?_
  refine g_iload_n (pc := 6) Z 0 dX0_takeFirst_6 rfl ?_
  refine g_iconst (pc := 7) (v := -1) Z dX0_takeFirst_7 (by decide) ?_
  refine g_icmp_ne (pc := 8) (tgt := 13) Z dX0_takeFirst_8 (by decide) (fun c3 => ?_) (fun c3 => ?_)
  · replace hf := gIfN c3 hf
    refine g_aload_n (pc := 13) Z 1 dX0_takeFirst_13 rfl ?_
    refine g_iload_n (pc := 14) Z 0 dX0_takeFirst_14 rfl ?_
    obtain ⟨x4, h5, hf⟩ := Option.bind_eq_some_iff.mp hf
    refine g_calli (pc := 15) (ws2 := fun u => (wB ad ++ wC ad ca vC)) (wr := ([] : va_W)) Z [0, 1, 2, 3, 4, 5] [] [0, 1, 2, 3, 4, 5] (g_runV Z (c_Blk_sizeAt l D ad ca vC x1 x4 h5) (cwV 1 Z.2.2.2.2.1 (gg_V ww118 ww119 ww120 ww116 ww121) rfl rfl rfl (yv_of rfl yd_Blk_sizeAt) ⟨Nat.le_of_ble_eq_true rfl, Nat.le_of_ble_eq_true rfl⟩) [0, 1, 2, 3, 4, 5] rfl (by decide) 0 rfl rfl rfl rfl rfl (Nat.le_of_ble_eq_true rfl) dX0_takeFirst_15 ⟨Nat.le_of_ble_eq_true rfl, Nat.le_of_ble_eq_true rfl⟩) rfl rfl (by decide) (by decide) (by decide) (fun _ => rfl) (fun r u hu => ?_)
    obtain rfl := hu.symm
    refine g_istore_n (pc := 18) (lv' := [(3, .int x4), (2, .int x1), (0, .ref (ad 12)), (1, .int p1)]) Z dX0_takeFirst_18 (by decide) rfl ?_
    refine g_iload_n (pc := 19) Z 0 dX0_takeFirst_19 rfl ?_
    refine g_iload_n (pc := 20) Z 3 dX0_takeFirst_20 rfl ?_
    refine g_iconst (pc := 21) (v := 2) Z dX0_takeFirst_21 (by decide) ?_
    refine g_iadd (pc := 22) Z dX0_takeFirst_22 ?_
    refine g_icmp_lt (pc := 23) (tgt := 36) Z dX0_takeFirst_23 (by decide) (fun c6 => ?_) (fun c6 => ?_)
    · replace hf := gIfP c6 hf
      refine g_aload_n (pc := 36) Z 2 dX0_takeFirst_36 rfl ?_
      refine g_get (pc := 37) (v := .ref (ad 7)) (T := TX0) (N := 1) Z 0 0 dX0_takeFirst_37 (mm ww110) inx_X0 rfl (by decide) rfl rfl rfl ?_
      refine g_iload_n (pc := 40) Z 1 dX0_takeFirst_40 rfl ?_
      refine g_ldc2 (pc := 41) (v := 2) Z dX0_takeFirst_41 (mm ww126) ?_
      refine g_iload_n (pc := 44) Z 0 dX0_takeFirst_44 rfl ?_
      refine g_i2l (pc := 45) Z dX0_takeFirst_45 ?_
      refine g_lmul (pc := 46) Z dX0_takeFirst_46 ?_
      refine g_lconst (pc := 47) (v := 1) Z dX0_takeFirst_47 (by decide) ?_
      refine g_ladd (pc := 48) Z dX0_takeFirst_48 ?_
      obtain ⟨x7, h8, hf⟩ := Option.bind_eq_some_iff.mp hf
      refine g_calli (pc := 49) (ws2 := fun u => (wB ad ++ wC ad ca u)) (wr := (wB ad)) Z [1, 2, 3, 4, 5] [0] [0, 1, 2, 3, 4, 5] (g_runV Z (c_Chg_change l D ad ca N vC x1 (((2 : Int64) * x4.toInt64) + (1 : Int64)) x7 h8) (cwV 2 Z.2.2.2.2.1 (gg_V ww129 ww130 ww131 ww40 ww132) rfl rfl rfl (yv_of rfl yd_Chg_change) ⟨Nat.le_of_ble_eq_true rfl, Nat.le_of_ble_eq_true rfl⟩) [1, 2, 3, 4, 5] rfl (by decide) 0 rfl rfl rfl rfl rfl (Nat.le_of_ble_eq_true rfl) dX0_takeFirst_49 ⟨Nat.le_of_ble_eq_true rfl, Nat.le_of_ble_eq_true rfl⟩) rfl rfl (by decide) (by decide) (by decide) (fun _ => rfl) (fun r u hu => ?_)
      obtain ⟨rfl, rfl⟩ := hu
      refine g_istore (pc := 52) (lv' := [(4, .int (bI x7.1)), (3, .int x4), (2, .int x1), (0, .ref (ad 12)), (1, .int p1)]) Z dX0_takeFirst_52 (by decide) rfl ?_
      refine g_iload (pc := 54) Z 0 dX0_takeFirst_54 rfl ?_
      refine g_if_eq (pc := 56) (tgt := 65) Z dX0_takeFirst_56 (by decide) (fun c9 => ?_) (fun c9 => ?_)
      · replace hf := gIfN (bI_z c9) hf
        refine g_iconst (pc := 65) (v := -1) Z dX0_takeFirst_65 (by decide) ?_
        obtain rfl := Option.some.inj hf
        exact g_iret Z hr dX0_takeFirst_66 x7.2 ⟨rfl, rfl⟩ rfl
      · replace hf := gIfP (bI_nz c9) hf
        refine g_iload_n (pc := 59) Z 2 dX0_takeFirst_59 rfl ?_
        refine g_iconst (pc := 60) (v := 1) Z dX0_takeFirst_60 (by decide) ?_
        refine g_iadd (pc := 61) Z dX0_takeFirst_61 ?_
        refine g_goto (pc := 62) (tgt := 66) Z dX0_takeFirst_62 (by decide) ?_
        obtain rfl := Option.some.inj hf
        exact g_iret Z hr dX0_takeFirst_66 x7.2 ⟨rfl, rfl⟩ rfl
    · replace hf := gIfN c6 hf
      refine g_aload_n (pc := 26) Z 2 dX0_takeFirst_26 rfl ?_
      refine g_iload_n (pc := 27) Z 1 dX0_takeFirst_27 rfl ?_
      refine g_iload_n (pc := 28) Z 3 dX0_takeFirst_28 rfl ?_
      refine g_iload_n (pc := 29) Z 0 dX0_takeFirst_29 rfl ?_
      obtain ⟨x10, h11, hf⟩ := Option.bind_eq_some_iff.mp hf
      refine g_calli (pc := 30) (ws2 := fun u => (wB ad ++ wC ad ca u)) (wr := ([] : va_W)) Z [0, 1, 2, 3, 4, 5] [] [0, 1, 2, 3, 4, 5] (g_runV Z (c_Blk_split l D ad ca N vC x1 p1 x4 x10 h11) (cwV 3 Z.2.2.2.2.1 (gg_V ww137 ww138 ww139 ww116 ww140) rfl rfl rfl (yv_of rfl yd_Blk_split) ⟨Nat.le_of_ble_eq_true rfl, Nat.le_of_ble_eq_true rfl⟩) [0, 1, 2, 3, 4, 5] rfl (by decide) 0 rfl rfl rfl rfl rfl (Nat.le_of_ble_eq_true rfl) dX0_takeFirst_30 ⟨Nat.le_of_ble_eq_true rfl, Nat.le_of_ble_eq_true rfl⟩) rfl rfl (by decide) (by decide) (by decide) (fun _ => rfl) (fun r u hu => ?_)
      obtain ⟨rfl, rfl⟩ := hu
      refine g_goto (pc := 33) (tgt := 52) Z dX0_takeFirst_33 (by decide) ?_
      refine g_istore (pc := 52) (lv' := [(4, .int (bI x10.1)), (3, .int x4), (2, .int x1), (0, .ref (ad 12)), (1, .int p1)]) Z dX0_takeFirst_52 (by decide) rfl ?_
      refine g_iload (pc := 54) Z 0 dX0_takeFirst_54 rfl ?_
      refine g_if_eq (pc := 56) (tgt := 65) Z dX0_takeFirst_56 (by decide) (fun c12 => ?_) (fun c12 => ?_)
      · replace hf := gIfN (bI_z c12) hf
        refine g_iconst (pc := 65) (v := -1) Z dX0_takeFirst_65 (by decide) ?_
        obtain rfl := Option.some.inj hf
        exact g_iret Z hr dX0_takeFirst_66 x10.2 ⟨rfl, rfl⟩ rfl
      · replace hf := gIfP (bI_nz c12) hf
        refine g_iload_n (pc := 59) Z 2 dX0_takeFirst_59 rfl ?_
        refine g_iconst (pc := 60) (v := 1) Z dX0_takeFirst_60 (by decide) ?_
        refine g_iadd (pc := 61) Z dX0_takeFirst_61 ?_
        refine g_goto (pc := 62) (tgt := 66) Z dX0_takeFirst_62 (by decide) ?_
        obtain rfl := Option.some.inj hf
        exact g_iret Z hr dX0_takeFirst_66 x10.2 ⟨rfl, rfl⟩ rfl
  · replace hf := gIfP c3 hf
    refine g_iconst (pc := 11) (v := -1) Z dX0_takeFirst_11 (by decide) ?_
    obtain rfl := Option.some.inj hf
    exact g_iret Z hr dX0_takeFirst_12 vC ⟨rfl, rfl⟩ rfl
/-! RedoHeap$Blocks.isUsedAddress(I)Z -/
def f_Blk_isUsedAddress_4 (N : Nat) (vC : CT) : Nat → Int32 → Int32 → Option (Bool)
  | 0, _, _ => none
  | n + 1, y1, y2 => if (1024 : Int32) ≤ y2 then some false else if y1 ≤ y2 then some false else if (y2 + (1 : Int32)) = y1 then (f_Blk_isUsed vC y2).bind fun x6 => some x6 else (f_Blk_sizeAt vC y2).bind fun x4 => f_Blk_isUsedAddress_4 N vC n y1 (y2 + ((1 : Int32) + x4))
def f_Blk_isUsedAddress (N : Nat) (vC : CT) (p1 : Int32) : Option (Bool) :=
  f_Blk_isUsedAddress_4 N vC N p1 (176 : Int32)
abbrev cd_Blk_isUsedAddress : Cond := .code yX0_isUsedAddress cX0_isUsedAddress 3 (some .boolean)
theorem yd_Blk_isUsedAddress : yX0_isUsedAddress.cls ≠ "java/lang/invoke/MethodHandle" ∧ yX0_isUsedAddress.cls ≠ "java/lang/invoke/VarHandle" ∧ (parseMethodDescriptor yX0_isUsedAddress.desc).map (fun d => d.parameters.length) = some 1 := by decide +kernel
abbrev rm_Blk_isUsedAddress : Room := { frames := 3, cells := 0, slots := 0, locals := 65 }
abbrev q_Blk_isUsedAddress (D : va_G) (ad : Nat → Nat) (ca : Nat → ClassId) (vC : CT) (res : Bool) (A : Nat → Prop) : Array Value → State → Outcome → State → Prop := va_Qi (fun (r : Int32) (_ : Unit) => r = bI res) (gB D cls (tys ca) A (fun (u : Unit) => (wB ad ++ wC ad ca vC))) A
set_option maxHeartbeats 4000000 in
set_option maxRecDepth 100000 in
theorem w_Blk_isUsedAddress_4 {p : Program} {l : Launch} {e : Env} {s : State} {m : MethodId} {args : Array Value} {below : List Frame} {meth : Method} {c : Code} {D : va_G} {ad : Nat → Nat} {ca : Nat → ClassId} {A : Nat → Prop} {N : Nat} {vC : CT} {res : Bool} (Z : gZ p s m args meth c cX0_isUsedAddress 3 RX0 (cd_Blk_isUsedAddress :: gA) A D cls (tys ca)) (hr : meth.sig.returnType = (some .boolean)) : ∀ (n : Nat) (y1 : Int32) (y2 : Int32), f_Blk_isUsedAddress_4 N vC n y1 y2 = some res → gW p l e rm_Blk_isUsedAddress s m args below meth c 3 A D cls 0 0 (MQ below (q_Blk_isUsedAddress D ad ca vC res A) args s 0 0 A) (wB ad ++ wC ad ca vC) [(0, .ref (ad 12)), (1, .int y1), (2, .int y2)] 4 [] := by
  intro n
  induction n with
  | zero =>
    intro y1 y2 hf
    exact absurd hf (by rw [f_Blk_isUsedAddress_4]; exact fun h => by cases h)
  | succ n ih =>
    intro y1 y2 hf
    rw [f_Blk_isUsedAddress_4] at hf
    refine g_iload_n (pc := 4) Z 2 dX0_isUsedAddress_4 rfl ?_
    refine g_sipush (pc := 5) (v := 1024) Z dX0_isUsedAddress_5 (by decide) ?_
    refine g_icmp_ge (pc := 8) (tgt := 42) Z dX0_isUsedAddress_8 (by decide) (fun c1 => ?_) (fun c1 => ?_)
    · replace hf := gIfP c1 hf
      refine g_iconst (pc := 42) (v := 0) Z dX0_isUsedAddress_42 (by decide) ?_
      obtain rfl := Option.some.inj hf
      exact g_zret Z hr rfl dX0_isUsedAddress_43 () rfl rfl
    · replace hf := gIfN c1 hf
      refine g_iload_n (pc := 11) Z 2 dX0_isUsedAddress_11 rfl ?_
      refine g_iload_n (pc := 12) Z 1 dX0_isUsedAddress_12 rfl ?_
      refine g_icmp_ge (pc := 13) (tgt := 42) Z dX0_isUsedAddress_13 (by decide) (fun c2 => ?_) (fun c2 => ?_)
      · replace hf := gIfP c2 hf
        refine g_iconst (pc := 42) (v := 0) Z dX0_isUsedAddress_42 (by decide) ?_
        obtain rfl := Option.some.inj hf
        exact g_zret Z hr rfl dX0_isUsedAddress_43 () rfl rfl
      · replace hf := gIfN c2 hf
        refine g_iload_n (pc := 16) Z 2 dX0_isUsedAddress_16 rfl ?_
        refine g_iconst (pc := 17) (v := 1) Z dX0_isUsedAddress_17 (by decide) ?_
        refine g_iadd (pc := 18) Z dX0_isUsedAddress_18 ?_
        refine g_iload_n (pc := 19) Z 1 dX0_isUsedAddress_19 rfl ?_
        refine g_icmp_ne (pc := 20) (tgt := 29) Z dX0_isUsedAddress_20 (by decide) (fun c3 => ?_) (fun c3 => ?_)
        · replace hf := gIfN c3 hf
          refine g_iload_n (pc := 29) Z 2 dX0_isUsedAddress_29 rfl ?_
          refine g_iconst (pc := 30) (v := 1) Z dX0_isUsedAddress_30 (by decide) ?_
          refine g_aload_n (pc := 31) Z 0 dX0_isUsedAddress_31 rfl ?_
          refine g_iload_n (pc := 32) Z 2 dX0_isUsedAddress_32 rfl ?_
          obtain ⟨x4, h5, hf⟩ := Option.bind_eq_some_iff.mp hf
          refine g_calli (pc := 33) (ws2 := fun u => (wB ad ++ wC ad ca vC)) (wr := ([] : va_W)) Z [0, 1, 2, 3, 4, 5] [] [0, 1, 2, 3, 4, 5] (g_runV Z (c_Blk_sizeAt l D ad ca vC y2 x4 h5) (cwV 1 Z.2.2.2.2.1 (gg_V ww118 ww119 ww120 ww116 ww121) rfl rfl rfl (yv_of rfl yd_Blk_sizeAt) ⟨Nat.le_of_ble_eq_true rfl, Nat.le_of_ble_eq_true rfl⟩) [0, 1, 2, 3, 4, 5] rfl (by decide) 0 rfl rfl rfl rfl rfl (Nat.le_of_ble_eq_true rfl) dX0_isUsedAddress_33 ⟨Nat.le_of_ble_eq_true rfl, Nat.le_of_ble_eq_true rfl⟩) rfl rfl (by decide) (by decide) (by decide) (fun _ => rfl) (fun r u hu => ?_)
          obtain rfl := hu.symm
          refine g_iadd (pc := 36) Z dX0_isUsedAddress_36 ?_
          refine g_iadd (pc := 37) Z dX0_isUsedAddress_37 ?_
          refine g_istore_n (pc := 38) (lv' := [(2, .int (y2 + ((1 : Int32) + x4))), (0, .ref (ad 12)), (1, .int y1)]) Z dX0_isUsedAddress_38 (by decide) rfl ?_
          refine g_goto (pc := 39) (tgt := 4) Z dX0_isUsedAddress_39 (by decide) ?_
          refine g_locals (lv2 := [(0, .ref (ad 12)), (1, .int y1), (2, .int (y2 + ((1 : Int32) + x4)))]) [1, 2, 0] rfl ?_
          exact ih _ _ hf
        · replace hf := gIfP c3 hf
          refine g_aload_n (pc := 23) Z 0 dX0_isUsedAddress_23 rfl ?_
          refine g_iload_n (pc := 24) Z 2 dX0_isUsedAddress_24 rfl ?_
          obtain ⟨x6, h7, hf⟩ := Option.bind_eq_some_iff.mp hf
          refine g_calli (pc := 25) (ws2 := fun u => (wB ad ++ wC ad ca vC)) (wr := ([] : va_W)) Z [0, 1, 2, 3, 4, 5] [] [0, 1, 2, 3, 4, 5] (g_runV Z (c_Blk_isUsed l D ad ca vC y2 x6 h7) (cwV 1 Z.2.2.2.2.1 (gg_V ww113 ww114 ww115 ww116 ww117) rfl rfl rfl (yv_of rfl yd_Blk_isUsed) ⟨Nat.le_of_ble_eq_true rfl, Nat.le_of_ble_eq_true rfl⟩) [0, 1, 2, 3, 4, 5] rfl (by decide) 0 rfl rfl rfl rfl rfl (Nat.le_of_ble_eq_true rfl) dX0_isUsedAddress_25 ⟨Nat.le_of_ble_eq_true rfl, Nat.le_of_ble_eq_true rfl⟩) rfl rfl (by decide) (by decide) (by decide) (fun _ => rfl) (fun r u hu => ?_)
          obtain rfl := hu.symm
          obtain rfl := Option.some.inj hf
          exact g_zret Z hr (bI_nar x6) dX0_isUsedAddress_28 () rfl rfl
set_option maxHeartbeats 4000000 in
set_option maxRecDepth 100000 in
theorem c_Blk_isUsedAddress (l : Launch) (D : va_G) (ad : Nat → Nat) (ca : Nat → ClassId) (N : Nat) (vC : CT) (p1 : Int32) (res : Bool) (hf : f_Blk_isUsedAddress N vC p1 = some res) (sz : Nat) : Met l yX0_isUsedAddress (cd_Blk_isUsedAddress :: gA) rm_Blk_isUsedAddress (va_Pc [.ref (ad 12), .int p1] (gP D cls (tys ca) (wB ad ++ wC ad ca vC) sz)) (q_Blk_isUsedAddress D ad ca vC res (va_A (wB ad ++ wC ad ca vC) sz)) 0 0 (va_A (wB ad ++ wC ad ca vC) sz) := by
  refine g_met (cc := cX0_isUsedAddress) (Qc := q_Blk_isUsedAddress D ad ca vC res) (lv := [(0, .ref (ad 12)), (1, .int p1)]) (own := RX0) (by decide) rfl rfl (Nat.le_of_ble_eq_true rfl) rfl sz ?_
  intro p e s m args below meth c A Z hr hnm
  unfold f_Blk_isUsedAddress at hf
  refine g_sipush (pc := 0) (v := 176) Z dX0_isUsedAddress_0 (by decide) ?_
  refine g_istore_n (pc := 3) (lv' := [(2, .int (176 : Int32)), (0, .ref (ad 12)), (1, .int p1)]) Z dX0_isUsedAddress_3 (by decide) rfl ?_
  refine g_locals (lv2 := [(0, .ref (ad 12)), (1, .int p1), (2, .int (176 : Int32))]) [1, 2, 0] rfl ?_
  exact w_Blk_isUsedAddress_4 Z hr N _ _ hf
/-! RedoHeap$Blocks.headBefore(I)I -/
def f_Blk_headBefore_6 (N : Nat) (vC : CT) : Nat → Int32 → Int32 → Int32 → Option (Int32)
  | 0, _, _, _ => none
  | n + 1, y1, y2, y3 => if y1 ≤ y3 then some y2 else (f_Blk_sizeAt vC y3).bind fun x2 => f_Blk_headBefore_6 N vC n y1 y3 (y3 + ((1 : Int32) + x2))
def f_Blk_headBefore (N : Nat) (vC : CT) (p1 : Int32) : Option (Int32) :=
  f_Blk_headBefore_6 N vC N p1 (-1 : Int32) (176 : Int32)
abbrev cd_Blk_headBefore : Cond := .code yX0_headBefore cX0_headBefore 4 (some .int)
theorem yd_Blk_headBefore : yX0_headBefore.cls ≠ "java/lang/invoke/MethodHandle" ∧ yX0_headBefore.cls ≠ "java/lang/invoke/VarHandle" ∧ (parseMethodDescriptor yX0_headBefore.desc).map (fun d => d.parameters.length) = some 1 := by decide +kernel
abbrev rm_Blk_headBefore : Room := { frames := 3, cells := 0, slots := 0, locals := 65 }
abbrev q_Blk_headBefore (D : va_G) (ad : Nat → Nat) (ca : Nat → ClassId) (vC : CT) (res : Int32) (A : Nat → Prop) : Array Value → State → Outcome → State → Prop := va_Qi (fun (r : Int32) (_ : Unit) => r = res) (gB D cls (tys ca) A (fun (u : Unit) => (wB ad ++ wC ad ca vC))) A
set_option maxHeartbeats 4000000 in
set_option maxRecDepth 100000 in
theorem w_Blk_headBefore_6 {p : Program} {l : Launch} {e : Env} {s : State} {m : MethodId} {args : Array Value} {below : List Frame} {meth : Method} {c : Code} {D : va_G} {ad : Nat → Nat} {ca : Nat → ClassId} {A : Nat → Prop} {N : Nat} {vC : CT} {res : Int32} (Z : gZ p s m args meth c cX0_headBefore 4 RX0 (cd_Blk_headBefore :: gA) A D cls (tys ca)) (hr : meth.sig.returnType = (some .int)) : ∀ (n : Nat) (y1 : Int32) (y2 : Int32) (y3 : Int32), f_Blk_headBefore_6 N vC n y1 y2 y3 = some res → gW p l e rm_Blk_headBefore s m args below meth c 4 A D cls 0 0 (MQ below (q_Blk_headBefore D ad ca vC res A) args s 0 0 A) (wB ad ++ wC ad ca vC) [(0, .ref (ad 12)), (1, .int y1), (2, .int y2), (3, .int y3)] 6 [] := by
  intro n
  induction n with
  | zero =>
    intro y1 y2 y3 hf
    exact absurd hf (by rw [f_Blk_headBefore_6]; exact fun h => by cases h)
  | succ n ih =>
    intro y1 y2 y3 hf
    rw [f_Blk_headBefore_6] at hf
    refine g_iload_n (pc := 6) Z 3 dX0_headBefore_6 rfl ?_
    refine g_iload_n (pc := 7) Z 1 dX0_headBefore_7 rfl ?_
    refine g_icmp_ge (pc := 8) (tgt := 26) Z dX0_headBefore_8 (by decide) (fun c1 => ?_) (fun c1 => ?_)
    · replace hf := gIfP c1 hf
      refine g_iload_n (pc := 26) Z 2 dX0_headBefore_26 rfl ?_
      obtain rfl := Option.some.inj hf
      exact g_iret Z hr dX0_headBefore_27 () rfl rfl
    · replace hf := gIfN c1 hf
      refine g_iload_n (pc := 11) Z 3 dX0_headBefore_11 rfl ?_
      refine g_istore_n (pc := 12) (lv' := [(2, .int y3), (0, .ref (ad 12)), (1, .int y1), (3, .int y3)]) Z dX0_headBefore_12 (by decide) rfl ?_
      refine g_iload_n (pc := 13) Z 3 dX0_headBefore_13 rfl ?_
      refine g_iconst (pc := 14) (v := 1) Z dX0_headBefore_14 (by decide) ?_
      refine g_aload_n (pc := 15) Z 1 dX0_headBefore_15 rfl ?_
      refine g_iload_n (pc := 16) Z 3 dX0_headBefore_16 rfl ?_
      obtain ⟨x2, h3, hf⟩ := Option.bind_eq_some_iff.mp hf
      refine g_calli (pc := 17) (ws2 := fun u => (wB ad ++ wC ad ca vC)) (wr := ([] : va_W)) Z [0, 1, 2, 3, 4, 5] [] [0, 1, 2, 3, 4, 5] (g_runV Z (c_Blk_sizeAt l D ad ca vC y3 x2 h3) (cwV 1 Z.2.2.2.2.1 (gg_V ww118 ww119 ww120 ww116 ww121) rfl rfl rfl (yv_of rfl yd_Blk_sizeAt) ⟨Nat.le_of_ble_eq_true rfl, Nat.le_of_ble_eq_true rfl⟩) [0, 1, 2, 3, 4, 5] rfl (by decide) 0 rfl rfl rfl rfl rfl (Nat.le_of_ble_eq_true rfl) dX0_headBefore_17 ⟨Nat.le_of_ble_eq_true rfl, Nat.le_of_ble_eq_true rfl⟩) rfl rfl (by decide) (by decide) (by decide) (fun _ => rfl) (fun r u hu => ?_)
      obtain rfl := hu.symm
      refine g_iadd (pc := 20) Z dX0_headBefore_20 ?_
      refine g_iadd (pc := 21) Z dX0_headBefore_21 ?_
      refine g_istore_n (pc := 22) (lv' := [(3, .int (y3 + ((1 : Int32) + x2))), (2, .int y3), (0, .ref (ad 12)), (1, .int y1)]) Z dX0_headBefore_22 (by decide) rfl ?_
      refine g_goto (pc := 23) (tgt := 6) Z dX0_headBefore_23 (by decide) ?_
      refine g_locals (lv2 := [(0, .ref (ad 12)), (1, .int y1), (2, .int y3), (3, .int (y3 + ((1 : Int32) + x2)))]) [2, 3, 1, 0] rfl ?_
      exact ih _ _ _ hf
set_option maxHeartbeats 4000000 in
set_option maxRecDepth 100000 in
theorem c_Blk_headBefore (l : Launch) (D : va_G) (ad : Nat → Nat) (ca : Nat → ClassId) (N : Nat) (vC : CT) (p1 : Int32) (res : Int32) (hf : f_Blk_headBefore N vC p1 = some res) (sz : Nat) : Met l yX0_headBefore (cd_Blk_headBefore :: gA) rm_Blk_headBefore (va_Pc [.ref (ad 12), .int p1] (gP D cls (tys ca) (wB ad ++ wC ad ca vC) sz)) (q_Blk_headBefore D ad ca vC res (va_A (wB ad ++ wC ad ca vC) sz)) 0 0 (va_A (wB ad ++ wC ad ca vC) sz) := by
  refine g_met (cc := cX0_headBefore) (Qc := q_Blk_headBefore D ad ca vC res) (lv := [(0, .ref (ad 12)), (1, .int p1)]) (own := RX0) (by decide) rfl rfl (Nat.le_of_ble_eq_true rfl) rfl sz ?_
  intro p e s m args below meth c A Z hr hnm
  unfold f_Blk_headBefore at hf
  refine g_iconst (pc := 0) (v := -1) Z dX0_headBefore_0 (by decide) ?_
  refine g_istore_n (pc := 1) (lv' := [(2, .int (-1 : Int32)), (0, .ref (ad 12)), (1, .int p1)]) Z dX0_headBefore_1 (by decide) rfl ?_
  refine g_sipush (pc := 2) (v := 176) Z dX0_headBefore_2 (by decide) ?_
  refine g_istore_n (pc := 5) (lv' := [(3, .int (176 : Int32)), (2, .int (-1 : Int32)), (0, .ref (ad 12)), (1, .int p1)]) Z dX0_headBefore_5 (by decide) rfl ?_
  refine g_locals (lv2 := [(0, .ref (ad 12)), (1, .int p1), (2, .int (-1 : Int32)), (3, .int (176 : Int32))]) [2, 3, 1, 0] rfl ?_
  exact w_Blk_headBefore_6 Z hr N _ _ _ hf
theorem ww141 : Cond.methodLink RX0 53 yX0_headBefore ∈ gA := wt2 93 rfl rfl
theorem ww142 : Cond.instanceMethod yX0_headBefore ∈ gA := wt2 95 rfl rfl
theorem ww143 : Cond.selects RX0 yX0_headBefore yX0_headBefore ∈ gA := wtS 8 rfl rfl
theorem ww144 : cd_Blk_headBefore ∈ gA := wt2 96 rfl rfl
/-! RedoHeap$Blocks.giveBack(I)I -/
def f_Blk_giveBack (N : Nat) (vC : CT) (p1 : Int32) : Option (Int32 × CT) :=
  (f_Blk_sizeAt vC p1).bind fun x1 => (f_Blk_freeAt vC ((p1 + (1 : Int32)) + x1)).bind fun x3 => if x3 ≤ 0 then (f_Blk_headBefore N vC p1).bind fun x6 => (f_Blk_freeAt vC x6).bind fun x8 => if x8 ≤ 0 then (f_Chg_change N vC p1 ((2 : Int64) * x1.toInt64)).bind fun x11 => if x11.1 = true then some (x1, x11.2) else some ((-1 : Int32), x11.2) else (f_Blk_freeAt vC x6).bind fun x14 => (f_Chg_change N vC x6 ((2 : Int64) * ((x1 + ((1 : Int32) + x14)).toInt64))).bind fun x16 => if x16.1 = true then some (x1 + ((1 : Int32) + x14), x16.2) else some ((-1 : Int32), x16.2) else (f_Blk_freeAt vC ((p1 + (1 : Int32)) + x1)).bind fun x19 => (f_Blk_headBefore N vC p1).bind fun x21 => (f_Blk_freeAt vC x21).bind fun x23 => if x23 ≤ 0 then (f_Chg_change N vC p1 ((2 : Int64) * ((x1 + ((1 : Int32) + x19)).toInt64))).bind fun x26 => if x26.1 = true then some (x1 + ((1 : Int32) + x19), x26.2) else some ((-1 : Int32), x26.2) else (f_Blk_freeAt vC x21).bind fun x29 => (f_Chg_change N vC x21 ((2 : Int64) * (((x1 + ((1 : Int32) + x19)) + ((1 : Int32) + x29)).toInt64))).bind fun x31 => if x31.1 = true then some ((x1 + ((1 : Int32) + x19)) + ((1 : Int32) + x29), x31.2) else some ((-1 : Int32), x31.2)
abbrev cd_Blk_giveBack : Cond := .code yX0_giveBack cX0_giveBack 6 (some .int)
theorem yd_Blk_giveBack : yX0_giveBack.cls ≠ "java/lang/invoke/MethodHandle" ∧ yX0_giveBack.cls ≠ "java/lang/invoke/VarHandle" ∧ (parseMethodDescriptor yX0_giveBack.desc).map (fun d => d.parameters.length) = some 1 := by decide +kernel
abbrev rm_Blk_giveBack : Room := { frames := 4, cells := 0, slots := 0, locals := 88 }
abbrev q_Blk_giveBack (D : va_G) (ad : Nat → Nat) (ca : Nat → ClassId) (res : Int32 × CT) (A : Nat → Prop) : Array Value → State → Outcome → State → Prop := va_Qi (fun (r : Int32) (u : CT) => r = res.1 ∧ u = res.2) (gB D cls (tys ca) A (fun (u : CT) => (wB ad ++ wC ad ca u))) A
set_option maxHeartbeats 4000000 in
set_option maxRecDepth 100000 in
theorem c_Blk_giveBack (l : Launch) (D : va_G) (ad : Nat → Nat) (ca : Nat → ClassId) (N : Nat) (vC : CT) (p1 : Int32) (res : Int32 × CT) (hf : f_Blk_giveBack N vC p1 = some res) (sz : Nat) : Met l yX0_giveBack (cd_Blk_giveBack :: gA) rm_Blk_giveBack (va_Pc [.ref (ad 12), .int p1] (gP D cls (tys ca) (wB ad ++ wC ad ca vC) sz)) (q_Blk_giveBack D ad ca res (va_A (wB ad ++ wC ad ca vC) sz)) 0 0 (va_A (wB ad ++ wC ad ca vC) sz) := by
  refine g_met (cc := cX0_giveBack) (Qc := q_Blk_giveBack D ad ca res) (lv := [(0, .ref (ad 12)), (1, .int p1)]) (own := RX0) (by decide) rfl rfl (Nat.le_of_ble_eq_true rfl) rfl sz ?_
  intro p e s m args below meth c A Z hr hnm
  unfold f_Blk_giveBack at hf
  refine g_iload_n (pc := 0) Z 1 dX0_giveBack_0 rfl ?_
  refine g_istore_n (pc := 1) (lv' := [(2, .int p1), (0, .ref (ad 12)), (1, .int p1)]) Z dX0_giveBack_1 (by decide) rfl ?_
  refine g_aload_n (pc := 2) Z 1 dX0_giveBack_2 rfl ?_
  refine g_iload_n (pc := 3) Z 2 dX0_giveBack_3 rfl ?_
  obtain ⟨x1, h2, hf⟩ := Option.bind_eq_some_iff.mp hf
  refine g_calli (pc := 4) (ws2 := fun u => (wB ad ++ wC ad ca vC)) (wr := ([] : va_W)) Z [0, 1, 2, 3, 4, 5] [] [0, 1, 2, 3, 4, 5] (g_runV Z (c_Blk_sizeAt l D ad ca vC p1 x1 h2) (cwV 1 Z.2.2.2.2.1 (gg_V ww118 ww119 ww120 ww116 ww121) rfl rfl rfl (yv_of rfl yd_Blk_sizeAt) ⟨Nat.le_of_ble_eq_true rfl, Nat.le_of_ble_eq_true rfl⟩) [0, 1, 2, 3, 4, 5] rfl (by decide) 0 rfl rfl rfl rfl rfl (Nat.le_of_ble_eq_true rfl) dX0_giveBack_4 ⟨Nat.le_of_ble_eq_true rfl, Nat.le_of_ble_eq_true rfl⟩) rfl rfl (by decide) (by decide) (by decide) (fun _ => rfl) (fun r u hu => ?_)
  obtain rfl := hu.symm
  refine g_istore_n (pc := 7) (lv' := [(3, .int x1), (2, .int p1), (0, .ref (ad 12)), (1, .int p1)]) Z dX0_giveBack_7 (by decide) rfl ?_
  refine g_iload_n (pc := 8) Z 3 dX0_giveBack_8 rfl ?_
  refine g_iconst (pc := 9) (v := 1) Z dX0_giveBack_9 (by decide) ?_
  refine g_iadd (pc := 10) Z dX0_giveBack_10 ?_
  refine g_iload_n (pc := 11) Z 0 dX0_giveBack_11 rfl ?_
  refine g_iadd (pc := 12) Z dX0_giveBack_12 ?_
  refine g_istore (pc := 13) (lv' := [(4, .int ((p1 + (1 : Int32)) + x1)), (3, .int x1), (2, .int p1), (0, .ref (ad 12)), (1, .int p1)]) Z dX0_giveBack_13 (by decide) rfl ?_
  refine g_aload_n (pc := 15) Z 3 dX0_giveBack_15 rfl ?_
  refine g_iload (pc := 16) Z 0 dX0_giveBack_16 rfl ?_
  obtain ⟨x3, h4, hf⟩ := Option.bind_eq_some_iff.mp hf
  refine g_calli (pc := 18) (ws2 := fun u => (wB ad ++ wC ad ca vC)) (wr := ([] : va_W)) Z [0, 1, 2, 3, 4, 5] [] [0, 1, 2, 3, 4, 5] (g_runV Z (c_Blk_freeAt l D ad ca vC ((p1 + (1 : Int32)) + x1) x3 h4) (cwV 1 Z.2.2.2.2.1 (gg_V ww122 ww123 ww124 ww116 ww125) rfl rfl rfl (yv_of rfl yd_Blk_freeAt) ⟨Nat.le_of_ble_eq_true rfl, Nat.le_of_ble_eq_true rfl⟩) [0, 1, 2, 3, 4, 5] rfl (by decide) 0 rfl rfl rfl rfl rfl (Nat.le_of_ble_eq_true rfl) dX0_giveBack_18 ⟨Nat.le_of_ble_eq_true rfl, Nat.le_of_ble_eq_true rfl⟩) rfl rfl (by decide) (by decide) (by decide) (fun _ => rfl) (fun r u hu => ?_)
  obtain rfl := hu.symm
  refine g_if_le (pc := 21) (tgt := 35) Z dX0_giveBack_21 (by decide) (fun c5 => ?_) (fun c5 => ?_)
  · replace hf := gIfP c5 hf
    refine g_aload_n (pc := 35) Z 3 dX0_giveBack_35 rfl ?_
    refine g_iload_n (pc := 36) Z 4 dX0_giveBack_36 rfl ?_
    obtain ⟨x6, h7, hf⟩ := Option.bind_eq_some_iff.mp hf
    refine g_calli (pc := 37) (ws2 := fun u => (wB ad ++ wC ad ca vC)) (wr := ([] : va_W)) Z [0, 1, 2, 3, 4, 5] [] [0, 1, 2, 3, 4, 5] (g_runV Z (c_Blk_headBefore l D ad ca N vC p1 x6 h7) (cwV 1 Z.2.2.2.2.1 (gg_V ww141 ww142 ww143 ww116 ww144) rfl rfl rfl (yv_of rfl yd_Blk_headBefore) ⟨Nat.le_of_ble_eq_true rfl, Nat.le_of_ble_eq_true rfl⟩) [0, 1, 2, 3, 4, 5] rfl (by decide) 0 rfl rfl rfl rfl rfl (Nat.le_of_ble_eq_true rfl) dX0_giveBack_37 ⟨Nat.le_of_ble_eq_true rfl, Nat.le_of_ble_eq_true rfl⟩) rfl rfl (by decide) (by decide) (by decide) (fun _ => rfl) (fun r u hu => ?_)
    obtain rfl := hu.symm
    refine g_istore (pc := 40) (lv' := [(5, .int x6), (4, .int ((p1 + (1 : Int32)) + x1)), (3, .int x1), (2, .int p1), (0, .ref (ad 12)), (1, .int p1)]) Z dX0_giveBack_40 (by decide) rfl ?_
    refine g_aload_n (pc := 42) Z 4 dX0_giveBack_42 rfl ?_
    refine g_iload (pc := 43) Z 0 dX0_giveBack_43 rfl ?_
    obtain ⟨x8, h9, hf⟩ := Option.bind_eq_some_iff.mp hf
    refine g_calli (pc := 45) (ws2 := fun u => (wB ad ++ wC ad ca vC)) (wr := ([] : va_W)) Z [0, 1, 2, 3, 4, 5] [] [0, 1, 2, 3, 4, 5] (g_runV Z (c_Blk_freeAt l D ad ca vC x6 x8 h9) (cwV 1 Z.2.2.2.2.1 (gg_V ww122 ww123 ww124 ww116 ww125) rfl rfl rfl (yv_of rfl yd_Blk_freeAt) ⟨Nat.le_of_ble_eq_true rfl, Nat.le_of_ble_eq_true rfl⟩) [0, 1, 2, 3, 4, 5] rfl (by decide) 0 rfl rfl rfl rfl rfl (Nat.le_of_ble_eq_true rfl) dX0_giveBack_45 ⟨Nat.le_of_ble_eq_true rfl, Nat.le_of_ble_eq_true rfl⟩) rfl rfl (by decide) (by decide) (by decide) (fun _ => rfl) (fun r u hu => ?_)
    obtain rfl := hu.symm
    refine g_if_le (pc := 48) (tgt := 65) Z dX0_giveBack_48 (by decide) (fun c10 => ?_) (fun c10 => ?_)
    · replace hf := gIfP c10 hf
      refine g_aload_n (pc := 65) Z 4 dX0_giveBack_65 rfl ?_
      refine g_get (pc := 66) (v := .ref (ad 7)) (T := TX0) (N := 1) Z 0 0 dX0_giveBack_66 (mm ww110) inx_X0 rfl (by decide) rfl rfl rfl ?_
      refine g_iload_n (pc := 69) Z 3 dX0_giveBack_69 rfl ?_
      refine g_ldc2 (pc := 70) (v := 2) Z dX0_giveBack_70 (mm ww126) ?_
      refine g_iload_n (pc := 73) Z 2 dX0_giveBack_73 rfl ?_
      refine g_i2l (pc := 74) Z dX0_giveBack_74 ?_
      refine g_lmul (pc := 75) Z dX0_giveBack_75 ?_
      obtain ⟨x11, h12, hf⟩ := Option.bind_eq_some_iff.mp hf
      refine g_calli (pc := 76) (ws2 := fun u => (wB ad ++ wC ad ca u)) (wr := (wB ad)) Z [1, 2, 3, 4, 5] [0] [0, 1, 2, 3, 4, 5] (g_runV Z (c_Chg_change l D ad ca N vC p1 ((2 : Int64) * x1.toInt64) x11 h12) (cwV 2 Z.2.2.2.2.1 (gg_V ww129 ww130 ww131 ww40 ww132) rfl rfl rfl (yv_of rfl yd_Chg_change) ⟨Nat.le_of_ble_eq_true rfl, Nat.le_of_ble_eq_true rfl⟩) [1, 2, 3, 4, 5] rfl (by decide) 0 rfl rfl rfl rfl rfl (Nat.le_of_ble_eq_true rfl) dX0_giveBack_76 ⟨Nat.le_of_ble_eq_true rfl, Nat.le_of_ble_eq_true rfl⟩) rfl rfl (by decide) (by decide) (by decide) (fun _ => rfl) (fun r u hu => ?_)
      obtain ⟨rfl, rfl⟩ := hu
      refine g_if_eq (pc := 79) (tgt := 86) Z dX0_giveBack_79 (by decide) (fun c13 => ?_) (fun c13 => ?_)
      · replace hf := gIfN (bI_z c13) hf
        refine g_iconst (pc := 86) (v := -1) Z dX0_giveBack_86 (by decide) ?_
        obtain rfl := Option.some.inj hf
        exact g_iret Z hr dX0_giveBack_87 x11.2 ⟨rfl, rfl⟩ rfl
      · replace hf := gIfP (bI_nz c13) hf
        refine g_iload_n (pc := 82) Z 2 dX0_giveBack_82 rfl ?_
        refine g_goto (pc := 83) (tgt := 87) Z dX0_giveBack_83 (by decide) ?_
        obtain rfl := Option.some.inj hf
        exact g_iret Z hr dX0_giveBack_87 x11.2 ⟨rfl, rfl⟩ rfl
    · replace hf := gIfN c10 hf
      refine g_iload (pc := 51) Z 0 dX0_giveBack_51 rfl ?_
      refine g_istore_n (pc := 53) (lv' := [(2, .int x6), (5, .int x6), (4, .int ((p1 + (1 : Int32)) + x1)), (3, .int x1), (0, .ref (ad 12)), (1, .int p1)]) Z dX0_giveBack_53 (by decide) rfl ?_
      refine g_iload_n (pc := 54) Z 3 dX0_giveBack_54 rfl ?_
      refine g_iconst (pc := 55) (v := 1) Z dX0_giveBack_55 (by decide) ?_
      refine g_aload_n (pc := 56) Z 4 dX0_giveBack_56 rfl ?_
      refine g_iload (pc := 57) Z 1 dX0_giveBack_57 rfl ?_
      obtain ⟨x14, h15, hf⟩ := Option.bind_eq_some_iff.mp hf
      refine g_calli (pc := 59) (ws2 := fun u => (wB ad ++ wC ad ca vC)) (wr := ([] : va_W)) Z [0, 1, 2, 3, 4, 5] [] [0, 1, 2, 3, 4, 5] (g_runV Z (c_Blk_freeAt l D ad ca vC x6 x14 h15) (cwV 1 Z.2.2.2.2.1 (gg_V ww122 ww123 ww124 ww116 ww125) rfl rfl rfl (yv_of rfl yd_Blk_freeAt) ⟨Nat.le_of_ble_eq_true rfl, Nat.le_of_ble_eq_true rfl⟩) [0, 1, 2, 3, 4, 5] rfl (by decide) 0 rfl rfl rfl rfl rfl (Nat.le_of_ble_eq_true rfl) dX0_giveBack_59 ⟨Nat.le_of_ble_eq_true rfl, Nat.le_of_ble_eq_true rfl⟩) rfl rfl (by decide) (by decide) (by decide) (fun _ => rfl) (fun r u hu => ?_)
      obtain rfl := hu.symm
      refine g_iadd (pc := 62) Z dX0_giveBack_62 ?_
      refine g_iadd (pc := 63) Z dX0_giveBack_63 ?_
      refine g_istore_n (pc := 64) (lv' := [(3, .int (x1 + ((1 : Int32) + x14))), (2, .int x6), (5, .int x6), (4, .int ((p1 + (1 : Int32)) + x1)), (0, .ref (ad 12)), (1, .int p1)]) Z dX0_giveBack_64 (by decide) rfl ?_
      refine g_aload_n (pc := 65) Z 4 dX0_giveBack_65 rfl ?_
      refine g_get (pc := 66) (v := .ref (ad 7)) (T := TX0) (N := 1) Z 0 0 dX0_giveBack_66 (mm ww110) inx_X0 rfl (by decide) rfl rfl rfl ?_
      refine g_iload_n (pc := 69) Z 1 dX0_giveBack_69 rfl ?_
      refine g_ldc2 (pc := 70) (v := 2) Z dX0_giveBack_70 (mm ww126) ?_
      refine g_iload_n (pc := 73) Z 0 dX0_giveBack_73 rfl ?_
      refine g_i2l (pc := 74) Z dX0_giveBack_74 ?_
      refine g_lmul (pc := 75) Z dX0_giveBack_75 ?_
      obtain ⟨x16, h17, hf⟩ := Option.bind_eq_some_iff.mp hf
      refine g_calli (pc := 76) (ws2 := fun u => (wB ad ++ wC ad ca u)) (wr := (wB ad)) Z [1, 2, 3, 4, 5] [0] [0, 1, 2, 3, 4, 5] (g_runV Z (c_Chg_change l D ad ca N vC x6 ((2 : Int64) * ((x1 + ((1 : Int32) + x14)).toInt64)) x16 h17) (cwV 2 Z.2.2.2.2.1 (gg_V ww129 ww130 ww131 ww40 ww132) rfl rfl rfl (yv_of rfl yd_Chg_change) ⟨Nat.le_of_ble_eq_true rfl, Nat.le_of_ble_eq_true rfl⟩) [1, 2, 3, 4, 5] rfl (by decide) 0 rfl rfl rfl rfl rfl (Nat.le_of_ble_eq_true rfl) dX0_giveBack_76 ⟨Nat.le_of_ble_eq_true rfl, Nat.le_of_ble_eq_true rfl⟩) rfl rfl (by decide) (by decide) (by decide) (fun _ => rfl) (fun r u hu => ?_)
      obtain ⟨rfl, rfl⟩ := hu
      refine g_if_eq (pc := 79) (tgt := 86) Z dX0_giveBack_79 (by decide) (fun c18 => ?_) (fun c18 => ?_)
      · replace hf := gIfN (bI_z c18) hf
        refine g_iconst (pc := 86) (v := -1) Z dX0_giveBack_86 (by decide) ?_
        obtain rfl := Option.some.inj hf
        exact g_iret Z hr dX0_giveBack_87 x16.2 ⟨rfl, rfl⟩ rfl
      · replace hf := gIfP (bI_nz c18) hf
        refine g_iload_n (pc := 82) Z 0 dX0_giveBack_82 rfl ?_
        refine g_goto (pc := 83) (tgt := 87) Z dX0_giveBack_83 (by decide) ?_
        obtain rfl := Option.some.inj hf
        exact g_iret Z hr dX0_giveBack_87 x16.2 ⟨rfl, rfl⟩ rfl
  · replace hf := gIfN c5 hf
    refine g_iload_n (pc := 24) Z 1 dX0_giveBack_24 rfl ?_
    refine g_iconst (pc := 25) (v := 1) Z dX0_giveBack_25 (by decide) ?_
    refine g_aload_n (pc := 26) Z 3 dX0_giveBack_26 rfl ?_
    refine g_iload (pc := 27) Z 0 dX0_giveBack_27 rfl ?_
    obtain ⟨x19, h20, hf⟩ := Option.bind_eq_some_iff.mp hf
    refine g_calli (pc := 29) (ws2 := fun u => (wB ad ++ wC ad ca vC)) (wr := ([] : va_W)) Z [0, 1, 2, 3, 4, 5] [] [0, 1, 2, 3, 4, 5] (g_runV Z (c_Blk_freeAt l D ad ca vC ((p1 + (1 : Int32)) + x1) x19 h20) (cwV 1 Z.2.2.2.2.1 (gg_V ww122 ww123 ww124 ww116 ww125) rfl rfl rfl (yv_of rfl yd_Blk_freeAt) ⟨Nat.le_of_ble_eq_true rfl, Nat.le_of_ble_eq_true rfl⟩) [0, 1, 2, 3, 4, 5] rfl (by decide) 0 rfl rfl rfl rfl rfl (Nat.le_of_ble_eq_true rfl) dX0_giveBack_29 ⟨Nat.le_of_ble_eq_true rfl, Nat.le_of_ble_eq_true rfl⟩) rfl rfl (by decide) (by decide) (by decide) (fun _ => rfl) (fun r u hu => ?_)
    obtain rfl := hu.symm
    refine g_iadd (pc := 32) Z dX0_giveBack_32 ?_
    refine g_iadd (pc := 33) Z dX0_giveBack_33 ?_
    refine g_istore_n (pc := 34) (lv' := [(3, .int (x1 + ((1 : Int32) + x19))), (4, .int ((p1 + (1 : Int32)) + x1)), (2, .int p1), (0, .ref (ad 12)), (1, .int p1)]) Z dX0_giveBack_34 (by decide) rfl ?_
    refine g_aload_n (pc := 35) Z 3 dX0_giveBack_35 rfl ?_
    refine g_iload_n (pc := 36) Z 4 dX0_giveBack_36 rfl ?_
    obtain ⟨x21, h22, hf⟩ := Option.bind_eq_some_iff.mp hf
    refine g_calli (pc := 37) (ws2 := fun u => (wB ad ++ wC ad ca vC)) (wr := ([] : va_W)) Z [0, 1, 2, 3, 4, 5] [] [0, 1, 2, 3, 4, 5] (g_runV Z (c_Blk_headBefore l D ad ca N vC p1 x21 h22) (cwV 1 Z.2.2.2.2.1 (gg_V ww141 ww142 ww143 ww116 ww144) rfl rfl rfl (yv_of rfl yd_Blk_headBefore) ⟨Nat.le_of_ble_eq_true rfl, Nat.le_of_ble_eq_true rfl⟩) [0, 1, 2, 3, 4, 5] rfl (by decide) 0 rfl rfl rfl rfl rfl (Nat.le_of_ble_eq_true rfl) dX0_giveBack_37 ⟨Nat.le_of_ble_eq_true rfl, Nat.le_of_ble_eq_true rfl⟩) rfl rfl (by decide) (by decide) (by decide) (fun _ => rfl) (fun r u hu => ?_)
    obtain rfl := hu.symm
    refine g_istore (pc := 40) (lv' := [(5, .int x21), (3, .int (x1 + ((1 : Int32) + x19))), (4, .int ((p1 + (1 : Int32)) + x1)), (2, .int p1), (0, .ref (ad 12)), (1, .int p1)]) Z dX0_giveBack_40 (by decide) rfl ?_
    refine g_aload_n (pc := 42) Z 4 dX0_giveBack_42 rfl ?_
    refine g_iload (pc := 43) Z 0 dX0_giveBack_43 rfl ?_
    obtain ⟨x23, h24, hf⟩ := Option.bind_eq_some_iff.mp hf
    refine g_calli (pc := 45) (ws2 := fun u => (wB ad ++ wC ad ca vC)) (wr := ([] : va_W)) Z [0, 1, 2, 3, 4, 5] [] [0, 1, 2, 3, 4, 5] (g_runV Z (c_Blk_freeAt l D ad ca vC x21 x23 h24) (cwV 1 Z.2.2.2.2.1 (gg_V ww122 ww123 ww124 ww116 ww125) rfl rfl rfl (yv_of rfl yd_Blk_freeAt) ⟨Nat.le_of_ble_eq_true rfl, Nat.le_of_ble_eq_true rfl⟩) [0, 1, 2, 3, 4, 5] rfl (by decide) 0 rfl rfl rfl rfl rfl (Nat.le_of_ble_eq_true rfl) dX0_giveBack_45 ⟨Nat.le_of_ble_eq_true rfl, Nat.le_of_ble_eq_true rfl⟩) rfl rfl (by decide) (by decide) (by decide) (fun _ => rfl) (fun r u hu => ?_)
    obtain rfl := hu.symm
    refine g_if_le (pc := 48) (tgt := 65) Z dX0_giveBack_48 (by decide) (fun c25 => ?_) (fun c25 => ?_)
    · replace hf := gIfP c25 hf
      refine g_aload_n (pc := 65) Z 4 dX0_giveBack_65 rfl ?_
      refine g_get (pc := 66) (v := .ref (ad 7)) (T := TX0) (N := 1) Z 0 0 dX0_giveBack_66 (mm ww110) inx_X0 rfl (by decide) rfl rfl rfl ?_
      refine g_iload_n (pc := 69) Z 3 dX0_giveBack_69 rfl ?_
      refine g_ldc2 (pc := 70) (v := 2) Z dX0_giveBack_70 (mm ww126) ?_
      refine g_iload_n (pc := 73) Z 1 dX0_giveBack_73 rfl ?_
      refine g_i2l (pc := 74) Z dX0_giveBack_74 ?_
      refine g_lmul (pc := 75) Z dX0_giveBack_75 ?_
      obtain ⟨x26, h27, hf⟩ := Option.bind_eq_some_iff.mp hf
      refine g_calli (pc := 76) (ws2 := fun u => (wB ad ++ wC ad ca u)) (wr := (wB ad)) Z [1, 2, 3, 4, 5] [0] [0, 1, 2, 3, 4, 5] (g_runV Z (c_Chg_change l D ad ca N vC p1 ((2 : Int64) * ((x1 + ((1 : Int32) + x19)).toInt64)) x26 h27) (cwV 2 Z.2.2.2.2.1 (gg_V ww129 ww130 ww131 ww40 ww132) rfl rfl rfl (yv_of rfl yd_Chg_change) ⟨Nat.le_of_ble_eq_true rfl, Nat.le_of_ble_eq_true rfl⟩) [1, 2, 3, 4, 5] rfl (by decide) 0 rfl rfl rfl rfl rfl (Nat.le_of_ble_eq_true rfl) dX0_giveBack_76 ⟨Nat.le_of_ble_eq_true rfl, Nat.le_of_ble_eq_true rfl⟩) rfl rfl (by decide) (by decide) (by decide) (fun _ => rfl) (fun r u hu => ?_)
      obtain ⟨rfl, rfl⟩ := hu
      refine g_if_eq (pc := 79) (tgt := 86) Z dX0_giveBack_79 (by decide) (fun c28 => ?_) (fun c28 => ?_)
      · replace hf := gIfN (bI_z c28) hf
        refine g_iconst (pc := 86) (v := -1) Z dX0_giveBack_86 (by decide) ?_
        obtain rfl := Option.some.inj hf
        exact g_iret Z hr dX0_giveBack_87 x26.2 ⟨rfl, rfl⟩ rfl
      · replace hf := gIfP (bI_nz c28) hf
        refine g_iload_n (pc := 82) Z 1 dX0_giveBack_82 rfl ?_
        refine g_goto (pc := 83) (tgt := 87) Z dX0_giveBack_83 (by decide) ?_
        obtain rfl := Option.some.inj hf
        exact g_iret Z hr dX0_giveBack_87 x26.2 ⟨rfl, rfl⟩ rfl
    · replace hf := gIfN c25 hf
      refine g_iload (pc := 51) Z 0 dX0_giveBack_51 rfl ?_
      refine g_istore_n (pc := 53) (lv' := [(2, .int x21), (5, .int x21), (3, .int (x1 + ((1 : Int32) + x19))), (4, .int ((p1 + (1 : Int32)) + x1)), (0, .ref (ad 12)), (1, .int p1)]) Z dX0_giveBack_53 (by decide) rfl ?_
      refine g_iload_n (pc := 54) Z 2 dX0_giveBack_54 rfl ?_
      refine g_iconst (pc := 55) (v := 1) Z dX0_giveBack_55 (by decide) ?_
      refine g_aload_n (pc := 56) Z 4 dX0_giveBack_56 rfl ?_
      refine g_iload (pc := 57) Z 1 dX0_giveBack_57 rfl ?_
      obtain ⟨x29, h30, hf⟩ := Option.bind_eq_some_iff.mp hf
      refine g_calli (pc := 59) (ws2 := fun u => (wB ad ++ wC ad ca vC)) (wr := ([] : va_W)) Z [0, 1, 2, 3, 4, 5] [] [0, 1, 2, 3, 4, 5] (g_runV Z (c_Blk_freeAt l D ad ca vC x21 x29 h30) (cwV 1 Z.2.2.2.2.1 (gg_V ww122 ww123 ww124 ww116 ww125) rfl rfl rfl (yv_of rfl yd_Blk_freeAt) ⟨Nat.le_of_ble_eq_true rfl, Nat.le_of_ble_eq_true rfl⟩) [0, 1, 2, 3, 4, 5] rfl (by decide) 0 rfl rfl rfl rfl rfl (Nat.le_of_ble_eq_true rfl) dX0_giveBack_59 ⟨Nat.le_of_ble_eq_true rfl, Nat.le_of_ble_eq_true rfl⟩) rfl rfl (by decide) (by decide) (by decide) (fun _ => rfl) (fun r u hu => ?_)
      obtain rfl := hu.symm
      refine g_iadd (pc := 62) Z dX0_giveBack_62 ?_
      refine g_iadd (pc := 63) Z dX0_giveBack_63 ?_
      refine g_istore_n (pc := 64) (lv' := [(3, .int ((x1 + ((1 : Int32) + x19)) + ((1 : Int32) + x29))), (2, .int x21), (5, .int x21), (4, .int ((p1 + (1 : Int32)) + x1)), (0, .ref (ad 12)), (1, .int p1)]) Z dX0_giveBack_64 (by decide) rfl ?_
      refine g_aload_n (pc := 65) Z 4 dX0_giveBack_65 rfl ?_
      refine g_get (pc := 66) (v := .ref (ad 7)) (T := TX0) (N := 1) Z 0 0 dX0_giveBack_66 (mm ww110) inx_X0 rfl (by decide) rfl rfl rfl ?_
      refine g_iload_n (pc := 69) Z 1 dX0_giveBack_69 rfl ?_
      refine g_ldc2 (pc := 70) (v := 2) Z dX0_giveBack_70 (mm ww126) ?_
      refine g_iload_n (pc := 73) Z 0 dX0_giveBack_73 rfl ?_
      refine g_i2l (pc := 74) Z dX0_giveBack_74 ?_
      refine g_lmul (pc := 75) Z dX0_giveBack_75 ?_
      obtain ⟨x31, h32, hf⟩ := Option.bind_eq_some_iff.mp hf
      refine g_calli (pc := 76) (ws2 := fun u => (wB ad ++ wC ad ca u)) (wr := (wB ad)) Z [1, 2, 3, 4, 5] [0] [0, 1, 2, 3, 4, 5] (g_runV Z (c_Chg_change l D ad ca N vC x21 ((2 : Int64) * (((x1 + ((1 : Int32) + x19)) + ((1 : Int32) + x29)).toInt64)) x31 h32) (cwV 2 Z.2.2.2.2.1 (gg_V ww129 ww130 ww131 ww40 ww132) rfl rfl rfl (yv_of rfl yd_Chg_change) ⟨Nat.le_of_ble_eq_true rfl, Nat.le_of_ble_eq_true rfl⟩) [1, 2, 3, 4, 5] rfl (by decide) 0 rfl rfl rfl rfl rfl (Nat.le_of_ble_eq_true rfl) dX0_giveBack_76 ⟨Nat.le_of_ble_eq_true rfl, Nat.le_of_ble_eq_true rfl⟩) rfl rfl (by decide) (by decide) (by decide) (fun _ => rfl) (fun r u hu => ?_)
      obtain ⟨rfl, rfl⟩ := hu
      refine g_if_eq (pc := 79) (tgt := 86) Z dX0_giveBack_79 (by decide) (fun c33 => ?_) (fun c33 => ?_)
      · replace hf := gIfN (bI_z c33) hf
        refine g_iconst (pc := 86) (v := -1) Z dX0_giveBack_86 (by decide) ?_
        obtain rfl := Option.some.inj hf
        exact g_iret Z hr dX0_giveBack_87 x31.2 ⟨rfl, rfl⟩ rfl
      · replace hf := gIfP (bI_nz c33) hf
        refine g_iload_n (pc := 82) Z 0 dX0_giveBack_82 rfl ?_
        refine g_goto (pc := 83) (tgt := 87) Z dX0_giveBack_83 (by decide) ?_
        obtain rfl := Option.some.inj hf
        exact g_iret Z hr dX0_giveBack_87 x31.2 ⟨rfl, rfl⟩ rfl
/-! RedoHeap$Blocks.headOf(I)I -/
def f_Blk_headOf_6 (N : Nat) (vC : CT) : Nat → Int32 → Int32 → Int32 → Option (Int32)
  | 0, _, _, _ => none
  | n + 1, y1, y2, y3 => if (1024 : Int32) ≤ y3 then some (-1 : Int32) else if y2 = y1 then some y3 else (f_Blk_sizeAt vC y3).bind fun x3 => f_Blk_headOf_6 N vC n y1 (y2 + (1 : Int32)) (y3 + ((1 : Int32) + x3))
def f_Blk_headOf (N : Nat) (vC : CT) (p1 : Int32) : Option (Int32) :=
  f_Blk_headOf_6 N vC N p1 (0 : Int32) (176 : Int32)
abbrev cd_Blk_headOf : Cond := .code yX0_headOf cX0_headOf 4 (some .int)
theorem yd_Blk_headOf : yX0_headOf.cls ≠ "java/lang/invoke/MethodHandle" ∧ yX0_headOf.cls ≠ "java/lang/invoke/VarHandle" ∧ (parseMethodDescriptor yX0_headOf.desc).map (fun d => d.parameters.length) = some 1 := by decide +kernel
abbrev rm_Blk_headOf : Room := { frames := 3, cells := 0, slots := 0, locals := 65 }
abbrev q_Blk_headOf (D : va_G) (ad : Nat → Nat) (ca : Nat → ClassId) (vC : CT) (res : Int32) (A : Nat → Prop) : Array Value → State → Outcome → State → Prop := va_Qi (fun (r : Int32) (_ : Unit) => r = res) (gB D cls (tys ca) A (fun (u : Unit) => (wB ad ++ wC ad ca vC))) A
set_option maxHeartbeats 4000000 in
set_option maxRecDepth 100000 in
theorem w_Blk_headOf_6 {p : Program} {l : Launch} {e : Env} {s : State} {m : MethodId} {args : Array Value} {below : List Frame} {meth : Method} {c : Code} {D : va_G} {ad : Nat → Nat} {ca : Nat → ClassId} {A : Nat → Prop} {N : Nat} {vC : CT} {res : Int32} (Z : gZ p s m args meth c cX0_headOf 4 RX0 (cd_Blk_headOf :: gA) A D cls (tys ca)) (hr : meth.sig.returnType = (some .int)) : ∀ (n : Nat) (y1 : Int32) (y2 : Int32) (y3 : Int32), f_Blk_headOf_6 N vC n y1 y2 y3 = some res → gW p l e rm_Blk_headOf s m args below meth c 4 A D cls 0 0 (MQ below (q_Blk_headOf D ad ca vC res A) args s 0 0 A) (wB ad ++ wC ad ca vC) [(0, .ref (ad 12)), (1, .int y1), (2, .int y2), (3, .int y3)] 6 [] := by
  intro n
  induction n with
  | zero =>
    intro y1 y2 y3 hf
    exact absurd hf (by rw [f_Blk_headOf_6]; exact fun h => by cases h)
  | succ n ih =>
    intro y1 y2 y3 hf
    rw [f_Blk_headOf_6] at hf
    refine g_iload_n (pc := 6) Z 3 dX0_headOf_6 rfl ?_
    refine g_sipush (pc := 7) (v := 1024) Z dX0_headOf_7 (by decide) ?_
    refine g_icmp_ge (pc := 10) (tgt := 36) Z dX0_headOf_10 (by decide) (fun c1 => ?_) (fun c1 => ?_)
    · replace hf := gIfP c1 hf
      refine g_iconst (pc := 36) (v := -1) Z dX0_headOf_36 (by decide) ?_
      obtain rfl := Option.some.inj hf
      exact g_iret Z hr dX0_headOf_37 () rfl rfl
    · replace hf := gIfN c1 hf
      refine g_iload_n (pc := 13) Z 2 dX0_headOf_13 rfl ?_
      refine g_iload_n (pc := 14) Z 1 dX0_headOf_14 rfl ?_
      refine g_icmp_ne (pc := 15) (tgt := 20) Z dX0_headOf_15 (by decide) (fun c2 => ?_) (fun c2 => ?_)
      · replace hf := gIfN c2 hf
        refine g_iinc (pc := 20) (v := y2 + (1 : Int32)) (lv' := [(2, .int (y2 + (1 : Int32))), (0, .ref (ad 12)), (1, .int y1), (3, .int y3)]) Z 2 dX0_headOf_20 rfl rfl (by decide) rfl ?_
        refine g_iload_n (pc := 23) Z 3 dX0_headOf_23 rfl ?_
        refine g_iconst (pc := 24) (v := 1) Z dX0_headOf_24 (by decide) ?_
        refine g_aload_n (pc := 25) Z 1 dX0_headOf_25 rfl ?_
        refine g_iload_n (pc := 26) Z 3 dX0_headOf_26 rfl ?_
        obtain ⟨x3, h4, hf⟩ := Option.bind_eq_some_iff.mp hf
        refine g_calli (pc := 27) (ws2 := fun u => (wB ad ++ wC ad ca vC)) (wr := ([] : va_W)) Z [0, 1, 2, 3, 4, 5] [] [0, 1, 2, 3, 4, 5] (g_runV Z (c_Blk_sizeAt l D ad ca vC y3 x3 h4) (cwV 1 Z.2.2.2.2.1 (gg_V ww118 ww119 ww120 ww116 ww121) rfl rfl rfl (yv_of rfl yd_Blk_sizeAt) ⟨Nat.le_of_ble_eq_true rfl, Nat.le_of_ble_eq_true rfl⟩) [0, 1, 2, 3, 4, 5] rfl (by decide) 0 rfl rfl rfl rfl rfl (Nat.le_of_ble_eq_true rfl) dX0_headOf_27 ⟨Nat.le_of_ble_eq_true rfl, Nat.le_of_ble_eq_true rfl⟩) rfl rfl (by decide) (by decide) (by decide) (fun _ => rfl) (fun r u hu => ?_)
        obtain rfl := hu.symm
        refine g_iadd (pc := 30) Z dX0_headOf_30 ?_
        refine g_iadd (pc := 31) Z dX0_headOf_31 ?_
        refine g_istore_n (pc := 32) (lv' := [(3, .int (y3 + ((1 : Int32) + x3))), (2, .int (y2 + (1 : Int32))), (0, .ref (ad 12)), (1, .int y1)]) Z dX0_headOf_32 (by decide) rfl ?_
        refine g_goto (pc := 33) (tgt := 6) Z dX0_headOf_33 (by decide) ?_
        refine g_locals (lv2 := [(0, .ref (ad 12)), (1, .int y1), (2, .int (y2 + (1 : Int32))), (3, .int (y3 + ((1 : Int32) + x3)))]) [2, 3, 1, 0] rfl ?_
        exact ih _ _ _ hf
      · replace hf := gIfP c2 hf
        refine g_iload_n (pc := 18) Z 3 dX0_headOf_18 rfl ?_
        obtain rfl := Option.some.inj hf
        exact g_iret Z hr dX0_headOf_19 () rfl rfl
set_option maxHeartbeats 4000000 in
set_option maxRecDepth 100000 in
theorem c_Blk_headOf (l : Launch) (D : va_G) (ad : Nat → Nat) (ca : Nat → ClassId) (N : Nat) (vC : CT) (p1 : Int32) (res : Int32) (hf : f_Blk_headOf N vC p1 = some res) (sz : Nat) : Met l yX0_headOf (cd_Blk_headOf :: gA) rm_Blk_headOf (va_Pc [.ref (ad 12), .int p1] (gP D cls (tys ca) (wB ad ++ wC ad ca vC) sz)) (q_Blk_headOf D ad ca vC res (va_A (wB ad ++ wC ad ca vC) sz)) 0 0 (va_A (wB ad ++ wC ad ca vC) sz) := by
  refine g_met (cc := cX0_headOf) (Qc := q_Blk_headOf D ad ca vC res) (lv := [(0, .ref (ad 12)), (1, .int p1)]) (own := RX0) (by decide) rfl rfl (Nat.le_of_ble_eq_true rfl) rfl sz ?_
  intro p e s m args below meth c A Z hr hnm
  unfold f_Blk_headOf at hf
  refine g_iconst (pc := 0) (v := 0) Z dX0_headOf_0 (by decide) ?_
  refine g_istore_n (pc := 1) (lv' := [(2, .int (0 : Int32)), (0, .ref (ad 12)), (1, .int p1)]) Z dX0_headOf_1 (by decide) rfl ?_
  refine g_sipush (pc := 2) (v := 176) Z dX0_headOf_2 (by decide) ?_
  refine g_istore_n (pc := 5) (lv' := [(3, .int (176 : Int32)), (2, .int (0 : Int32)), (0, .ref (ad 12)), (1, .int p1)]) Z dX0_headOf_5 (by decide) rfl ?_
  refine g_locals (lv2 := [(0, .ref (ad 12)), (1, .int p1), (2, .int (0 : Int32)), (3, .int (176 : Int32))]) [2, 3, 1, 0] rfl ?_
  exact w_Blk_headOf_6 Z hr N _ _ _ hf
/-! RedoHeap$Blocks.freeWords()I -/
def f_Blk_freeWords_6 (N : Nat) (vC : CT) : Nat → Int32 → Int32 → Option (Int32)
  | 0, _, _ => none
  | n + 1, y1, y2 => if (1024 : Int32) ≤ y2 then some y1 else (f_Blk_freeAt vC y2).bind fun x2 => (f_Blk_sizeAt vC y2).bind fun x4 => f_Blk_freeWords_6 N vC n (y1 + x2) (y2 + ((1 : Int32) + x4))
def f_Blk_freeWords (N : Nat) (vC : CT) : Option (Int32) :=
  f_Blk_freeWords_6 N vC N (0 : Int32) (176 : Int32)
abbrev cd_Blk_freeWords : Cond := .code yX0_freeWords cX0_freeWords 3 (some .int)
theorem yd_Blk_freeWords : yX0_freeWords.cls ≠ "java/lang/invoke/MethodHandle" ∧ yX0_freeWords.cls ≠ "java/lang/invoke/VarHandle" ∧ (parseMethodDescriptor yX0_freeWords.desc).map (fun d => d.parameters.length) = some 0 := by decide +kernel
abbrev rm_Blk_freeWords : Room := { frames := 4, cells := 0, slots := 0, locals := 86 }
abbrev q_Blk_freeWords (D : va_G) (ad : Nat → Nat) (ca : Nat → ClassId) (vC : CT) (res : Int32) (A : Nat → Prop) : Array Value → State → Outcome → State → Prop := va_Qi (fun (r : Int32) (_ : Unit) => r = res) (gB D cls (tys ca) A (fun (u : Unit) => (wB ad ++ wC ad ca vC))) A
set_option maxHeartbeats 4000000 in
set_option maxRecDepth 100000 in
theorem w_Blk_freeWords_6 {p : Program} {l : Launch} {e : Env} {s : State} {m : MethodId} {args : Array Value} {below : List Frame} {meth : Method} {c : Code} {D : va_G} {ad : Nat → Nat} {ca : Nat → ClassId} {A : Nat → Prop} {N : Nat} {vC : CT} {res : Int32} (Z : gZ p s m args meth c cX0_freeWords 3 RX0 (cd_Blk_freeWords :: gA) A D cls (tys ca)) (hr : meth.sig.returnType = (some .int)) : ∀ (n : Nat) (y1 : Int32) (y2 : Int32), f_Blk_freeWords_6 N vC n y1 y2 = some res → gW p l e rm_Blk_freeWords s m args below meth c 3 A D cls 0 0 (MQ below (q_Blk_freeWords D ad ca vC res A) args s 0 0 A) (wB ad ++ wC ad ca vC) [(0, .ref (ad 12)), (1, .int y1), (2, .int y2)] 6 [] := by
  intro n
  induction n with
  | zero =>
    intro y1 y2 hf
    exact absurd hf (by rw [f_Blk_freeWords_6]; exact fun h => by cases h)
  | succ n ih =>
    intro y1 y2 hf
    rw [f_Blk_freeWords_6] at hf
    refine g_iload_n (pc := 6) Z 2 dX0_freeWords_6 rfl ?_
    refine g_sipush (pc := 7) (v := 1024) Z dX0_freeWords_7 (by decide) ?_
    refine g_icmp_ge (pc := 10) (tgt := 34) Z dX0_freeWords_10 (by decide) (fun c1 => ?_) (fun c1 => ?_)
    · replace hf := gIfP c1 hf
      refine g_iload_n (pc := 34) Z 1 dX0_freeWords_34 rfl ?_
      obtain rfl := Option.some.inj hf
      exact g_iret Z hr dX0_freeWords_35 () rfl rfl
    · replace hf := gIfN c1 hf
      refine g_iload_n (pc := 13) Z 1 dX0_freeWords_13 rfl ?_
      refine g_aload_n (pc := 14) Z 0 dX0_freeWords_14 rfl ?_
      refine g_iload_n (pc := 15) Z 2 dX0_freeWords_15 rfl ?_
      obtain ⟨x2, h3, hf⟩ := Option.bind_eq_some_iff.mp hf
      refine g_calli (pc := 16) (ws2 := fun u => (wB ad ++ wC ad ca vC)) (wr := ([] : va_W)) Z [0, 1, 2, 3, 4, 5] [] [0, 1, 2, 3, 4, 5] (g_runV Z (c_Blk_freeAt l D ad ca vC y2 x2 h3) (cwV 1 Z.2.2.2.2.1 (gg_V ww122 ww123 ww124 ww116 ww125) rfl rfl rfl (yv_of rfl yd_Blk_freeAt) ⟨Nat.le_of_ble_eq_true rfl, Nat.le_of_ble_eq_true rfl⟩) [0, 1, 2, 3, 4, 5] rfl (by decide) 0 rfl rfl rfl rfl rfl (Nat.le_of_ble_eq_true rfl) dX0_freeWords_16 ⟨Nat.le_of_ble_eq_true rfl, Nat.le_of_ble_eq_true rfl⟩) rfl rfl (by decide) (by decide) (by decide) (fun _ => rfl) (fun r u hu => ?_)
      obtain rfl := hu.symm
      refine g_iadd (pc := 19) Z dX0_freeWords_19 ?_
      refine g_istore_n (pc := 20) (lv' := [(1, .int (y1 + x2)), (0, .ref (ad 12)), (2, .int y2)]) Z dX0_freeWords_20 (by decide) rfl ?_
      refine g_iload_n (pc := 21) Z 2 dX0_freeWords_21 rfl ?_
      refine g_iconst (pc := 22) (v := 1) Z dX0_freeWords_22 (by decide) ?_
      refine g_aload_n (pc := 23) Z 1 dX0_freeWords_23 rfl ?_
      refine g_iload_n (pc := 24) Z 2 dX0_freeWords_24 rfl ?_
      obtain ⟨x4, h5, hf⟩ := Option.bind_eq_some_iff.mp hf
      refine g_calli (pc := 25) (ws2 := fun u => (wB ad ++ wC ad ca vC)) (wr := ([] : va_W)) Z [0, 1, 2, 3, 4, 5] [] [0, 1, 2, 3, 4, 5] (g_runV Z (c_Blk_sizeAt l D ad ca vC y2 x4 h5) (cwV 1 Z.2.2.2.2.1 (gg_V ww118 ww119 ww120 ww116 ww121) rfl rfl rfl (yv_of rfl yd_Blk_sizeAt) ⟨Nat.le_of_ble_eq_true rfl, Nat.le_of_ble_eq_true rfl⟩) [0, 1, 2, 3, 4, 5] rfl (by decide) 0 rfl rfl rfl rfl rfl (Nat.le_of_ble_eq_true rfl) dX0_freeWords_25 ⟨Nat.le_of_ble_eq_true rfl, Nat.le_of_ble_eq_true rfl⟩) rfl rfl (by decide) (by decide) (by decide) (fun _ => rfl) (fun r u hu => ?_)
      obtain rfl := hu.symm
      refine g_iadd (pc := 28) Z dX0_freeWords_28 ?_
      refine g_iadd (pc := 29) Z dX0_freeWords_29 ?_
      refine g_istore_n (pc := 30) (lv' := [(2, .int (y2 + ((1 : Int32) + x4))), (1, .int (y1 + x2)), (0, .ref (ad 12))]) Z dX0_freeWords_30 (by decide) rfl ?_
      refine g_goto (pc := 31) (tgt := 6) Z dX0_freeWords_31 (by decide) ?_
      refine g_locals (lv2 := [(0, .ref (ad 12)), (1, .int (y1 + x2)), (2, .int (y2 + ((1 : Int32) + x4)))]) [2, 1, 0] rfl ?_
      exact ih _ _ hf
set_option maxHeartbeats 4000000 in
set_option maxRecDepth 100000 in
theorem c_Blk_freeWords (l : Launch) (D : va_G) (ad : Nat → Nat) (ca : Nat → ClassId) (N : Nat) (vC : CT) (res : Int32) (hf : f_Blk_freeWords N vC = some res) (sz : Nat) : Met l yX0_freeWords (cd_Blk_freeWords :: gA) rm_Blk_freeWords (va_Pc [.ref (ad 12)] (gP D cls (tys ca) (wB ad ++ wC ad ca vC) sz)) (q_Blk_freeWords D ad ca vC res (va_A (wB ad ++ wC ad ca vC) sz)) 0 0 (va_A (wB ad ++ wC ad ca vC) sz) := by
  refine g_met (cc := cX0_freeWords) (Qc := q_Blk_freeWords D ad ca vC res) (lv := [(0, .ref (ad 12))]) (own := RX0) (by decide) rfl rfl (Nat.le_of_ble_eq_true rfl) rfl sz ?_
  intro p e s m args below meth c A Z hr hnm
  unfold f_Blk_freeWords at hf
  refine g_iconst (pc := 0) (v := 0) Z dX0_freeWords_0 (by decide) ?_
  refine g_istore_n (pc := 1) (lv' := [(1, .int (0 : Int32)), (0, .ref (ad 12))]) Z dX0_freeWords_1 (by decide) rfl ?_
  refine g_sipush (pc := 2) (v := 176) Z dX0_freeWords_2 (by decide) ?_
  refine g_istore_n (pc := 5) (lv' := [(2, .int (176 : Int32)), (1, .int (0 : Int32)), (0, .ref (ad 12))]) Z dX0_freeWords_5 (by decide) rfl ?_
  refine g_locals (lv2 := [(0, .ref (ad 12)), (1, .int (0 : Int32)), (2, .int (176 : Int32))]) [2, 1, 0] rfl ?_
  exact w_Blk_freeWords_6 Z hr N _ _ hf
theorem ww145 : Cond.methodLink RX0 34 Lib.Math.max.name ∈ gA := wt3 132 rfl rfl
theorem ww146 : Cond.static Lib.Math.max.name ∈ gA := wt3 133 rfl rfl
theorem ww147 : Cond.code Lib.Math.max.name Lib.Math.max.code 2 (some .int) ∈ gA := wt3 134 rfl rfl
/-! RedoHeap$Blocks.greatestFree()I -/
def f_Blk_greatestFree_6 (N : Nat) (vC : CT) : Nat → Int32 → Int32 → Option (Int32)
  | 0, _, _ => none
  | n + 1, y1, y2 => if (1024 : Int32) ≤ y2 then some y1 else (f_Blk_freeAt vC y2).bind fun x2 => (f_Blk_sizeAt vC y2).bind fun x4 => f_Blk_greatestFree_6 N vC n (if y1 < x2 then x2 else y1) (y2 + ((1 : Int32) + x4))
def f_Blk_greatestFree (N : Nat) (vC : CT) : Option (Int32) :=
  f_Blk_greatestFree_6 N vC N (0 : Int32) (176 : Int32)
abbrev cd_Blk_greatestFree : Cond := .code yX0_greatestFree cX0_greatestFree 3 (some .int)
theorem yd_Blk_greatestFree : yX0_greatestFree.cls ≠ "java/lang/invoke/MethodHandle" ∧ yX0_greatestFree.cls ≠ "java/lang/invoke/VarHandle" ∧ (parseMethodDescriptor yX0_greatestFree.desc).map (fun d => d.parameters.length) = some 0 := by decide +kernel
abbrev rm_Blk_greatestFree : Room := { frames := 4, cells := 0, slots := 0, locals := 86 }
abbrev q_Blk_greatestFree (D : va_G) (ad : Nat → Nat) (ca : Nat → ClassId) (vC : CT) (res : Int32) (A : Nat → Prop) : Array Value → State → Outcome → State → Prop := va_Qi (fun (r : Int32) (_ : Unit) => r = res) (gB D cls (tys ca) A (fun (u : Unit) => (wB ad ++ wC ad ca vC))) A
set_option maxHeartbeats 4000000 in
set_option maxRecDepth 100000 in
theorem w_Blk_greatestFree_6 {p : Program} {l : Launch} {e : Env} {s : State} {m : MethodId} {args : Array Value} {below : List Frame} {meth : Method} {c : Code} {D : va_G} {ad : Nat → Nat} {ca : Nat → ClassId} {A : Nat → Prop} {N : Nat} {vC : CT} {res : Int32} (Z : gZ p s m args meth c cX0_greatestFree 3 RX0 (cd_Blk_greatestFree :: gA) A D cls (tys ca)) (hr : meth.sig.returnType = (some .int)) : ∀ (n : Nat) (y1 : Int32) (y2 : Int32), f_Blk_greatestFree_6 N vC n y1 y2 = some res → gW p l e rm_Blk_greatestFree s m args below meth c 3 A D cls 0 0 (MQ below (q_Blk_greatestFree D ad ca vC res A) args s 0 0 A) (wB ad ++ wC ad ca vC) [(0, .ref (ad 12)), (1, .int y1), (2, .int y2)] 6 [] := by
  intro n
  induction n with
  | zero =>
    intro y1 y2 hf
    exact absurd hf (by rw [f_Blk_greatestFree_6]; exact fun h => by cases h)
  | succ n ih =>
    intro y1 y2 hf
    rw [f_Blk_greatestFree_6] at hf
    refine g_iload_n (pc := 6) Z 2 dX0_greatestFree_6 rfl ?_
    refine g_sipush (pc := 7) (v := 1024) Z dX0_greatestFree_7 (by decide) ?_
    refine g_icmp_ge (pc := 10) (tgt := 36) Z dX0_greatestFree_10 (by decide) (fun c1 => ?_) (fun c1 => ?_)
    · replace hf := gIfP c1 hf
      refine g_iload_n (pc := 36) Z 1 dX0_greatestFree_36 rfl ?_
      obtain rfl := Option.some.inj hf
      exact g_iret Z hr dX0_greatestFree_37 () rfl rfl
    · replace hf := gIfN c1 hf
      refine g_iload_n (pc := 13) Z 1 dX0_greatestFree_13 rfl ?_
      refine g_aload_n (pc := 14) Z 0 dX0_greatestFree_14 rfl ?_
      refine g_iload_n (pc := 15) Z 2 dX0_greatestFree_15 rfl ?_
      obtain ⟨x2, h3, hf⟩ := Option.bind_eq_some_iff.mp hf
      refine g_calli (pc := 16) (ws2 := fun u => (wB ad ++ wC ad ca vC)) (wr := ([] : va_W)) Z [0, 1, 2, 3, 4, 5] [] [0, 1, 2, 3, 4, 5] (g_runV Z (c_Blk_freeAt l D ad ca vC y2 x2 h3) (cwV 1 Z.2.2.2.2.1 (gg_V ww122 ww123 ww124 ww116 ww125) rfl rfl rfl (yv_of rfl yd_Blk_freeAt) ⟨Nat.le_of_ble_eq_true rfl, Nat.le_of_ble_eq_true rfl⟩) [0, 1, 2, 3, 4, 5] rfl (by decide) 0 rfl rfl rfl rfl rfl (Nat.le_of_ble_eq_true rfl) dX0_greatestFree_16 ⟨Nat.le_of_ble_eq_true rfl, Nat.le_of_ble_eq_true rfl⟩) rfl rfl (by decide) (by decide) (by decide) (fun _ => rfl) (fun r u hu => ?_)
      obtain rfl := hu.symm
      refine g_mmax (pc := 19) Z dX0_greatestFree_19 (mm ww145) (mm ww146) (mm ww11) (mm ww147) (Nat.le_of_ble_eq_true rfl) (Nat.le_of_ble_eq_true rfl) (Nat.zero_le _) (Nat.zero_le _) ?_
      refine g_istore_n (pc := 22) (lv' := [(1, .int (if y1 < x2 then x2 else y1)), (0, .ref (ad 12)), (2, .int y2)]) Z dX0_greatestFree_22 (by decide) rfl ?_
      refine g_iload_n (pc := 23) Z 2 dX0_greatestFree_23 rfl ?_
      refine g_iconst (pc := 24) (v := 1) Z dX0_greatestFree_24 (by decide) ?_
      refine g_aload_n (pc := 25) Z 1 dX0_greatestFree_25 rfl ?_
      refine g_iload_n (pc := 26) Z 2 dX0_greatestFree_26 rfl ?_
      obtain ⟨x4, h5, hf⟩ := Option.bind_eq_some_iff.mp hf
      refine g_calli (pc := 27) (ws2 := fun u => (wB ad ++ wC ad ca vC)) (wr := ([] : va_W)) Z [0, 1, 2, 3, 4, 5] [] [0, 1, 2, 3, 4, 5] (g_runV Z (c_Blk_sizeAt l D ad ca vC y2 x4 h5) (cwV 1 Z.2.2.2.2.1 (gg_V ww118 ww119 ww120 ww116 ww121) rfl rfl rfl (yv_of rfl yd_Blk_sizeAt) ⟨Nat.le_of_ble_eq_true rfl, Nat.le_of_ble_eq_true rfl⟩) [0, 1, 2, 3, 4, 5] rfl (by decide) 0 rfl rfl rfl rfl rfl (Nat.le_of_ble_eq_true rfl) dX0_greatestFree_27 ⟨Nat.le_of_ble_eq_true rfl, Nat.le_of_ble_eq_true rfl⟩) rfl rfl (by decide) (by decide) (by decide) (fun _ => rfl) (fun r u hu => ?_)
      obtain rfl := hu.symm
      refine g_iadd (pc := 30) Z dX0_greatestFree_30 ?_
      refine g_iadd (pc := 31) Z dX0_greatestFree_31 ?_
      refine g_istore_n (pc := 32) (lv' := [(2, .int (y2 + ((1 : Int32) + x4))), (1, .int (if y1 < x2 then x2 else y1)), (0, .ref (ad 12))]) Z dX0_greatestFree_32 (by decide) rfl ?_
      refine g_goto (pc := 33) (tgt := 6) Z dX0_greatestFree_33 (by decide) ?_
      refine g_locals (lv2 := [(0, .ref (ad 12)), (1, .int (if y1 < x2 then x2 else y1)), (2, .int (y2 + ((1 : Int32) + x4)))]) [2, 1, 0] rfl ?_
      exact ih _ _ hf
set_option maxHeartbeats 4000000 in
set_option maxRecDepth 100000 in
theorem c_Blk_greatestFree (l : Launch) (D : va_G) (ad : Nat → Nat) (ca : Nat → ClassId) (N : Nat) (vC : CT) (res : Int32) (hf : f_Blk_greatestFree N vC = some res) (sz : Nat) : Met l yX0_greatestFree (cd_Blk_greatestFree :: gA) rm_Blk_greatestFree (va_Pc [.ref (ad 12)] (gP D cls (tys ca) (wB ad ++ wC ad ca vC) sz)) (q_Blk_greatestFree D ad ca vC res (va_A (wB ad ++ wC ad ca vC) sz)) 0 0 (va_A (wB ad ++ wC ad ca vC) sz) := by
  refine g_met (cc := cX0_greatestFree) (Qc := q_Blk_greatestFree D ad ca vC res) (lv := [(0, .ref (ad 12))]) (own := RX0) (by decide) rfl rfl (Nat.le_of_ble_eq_true rfl) rfl sz ?_
  intro p e s m args below meth c A Z hr hnm
  unfold f_Blk_greatestFree at hf
  refine g_iconst (pc := 0) (v := 0) Z dX0_greatestFree_0 (by decide) ?_
  refine g_istore_n (pc := 1) (lv' := [(1, .int (0 : Int32)), (0, .ref (ad 12))]) Z dX0_greatestFree_1 (by decide) rfl ?_
  refine g_sipush (pc := 2) (v := 176) Z dX0_greatestFree_2 (by decide) ?_
  refine g_istore_n (pc := 5) (lv' := [(2, .int (176 : Int32)), (1, .int (0 : Int32)), (0, .ref (ad 12))]) Z dX0_greatestFree_5 (by decide) rfl ?_
  refine g_locals (lv2 := [(0, .ref (ad 12)), (1, .int (0 : Int32)), (2, .int (176 : Int32))]) [2, 1, 0] rfl ?_
  exact w_Blk_greatestFree_6 Z hr N _ _ hf
/-! RedoHeap$Blocks.howMany()I -/
def f_Blk_howMany_6 (N : Nat) (vC : CT) : Nat → Int32 → Int32 → Option (Int32)
  | 0, _, _ => none
  | n + 1, y1, y2 => if (1024 : Int32) ≤ y2 then some y1 else (f_Blk_sizeAt vC y2).bind fun x2 => f_Blk_howMany_6 N vC n (y1 + (1 : Int32)) (y2 + ((1 : Int32) + x2))
def f_Blk_howMany (N : Nat) (vC : CT) : Option (Int32) :=
  f_Blk_howMany_6 N vC N (0 : Int32) (176 : Int32)
abbrev cd_Blk_howMany : Cond := .code yX0_howMany cX0_howMany 3 (some .int)
theorem yd_Blk_howMany : yX0_howMany.cls ≠ "java/lang/invoke/MethodHandle" ∧ yX0_howMany.cls ≠ "java/lang/invoke/VarHandle" ∧ (parseMethodDescriptor yX0_howMany.desc).map (fun d => d.parameters.length) = some 0 := by decide +kernel
abbrev rm_Blk_howMany : Room := { frames := 3, cells := 0, slots := 0, locals := 65 }
abbrev q_Blk_howMany (D : va_G) (ad : Nat → Nat) (ca : Nat → ClassId) (vC : CT) (res : Int32) (A : Nat → Prop) : Array Value → State → Outcome → State → Prop := va_Qi (fun (r : Int32) (_ : Unit) => r = res) (gB D cls (tys ca) A (fun (u : Unit) => (wB ad ++ wC ad ca vC))) A
set_option maxHeartbeats 4000000 in
set_option maxRecDepth 100000 in
theorem w_Blk_howMany_6 {p : Program} {l : Launch} {e : Env} {s : State} {m : MethodId} {args : Array Value} {below : List Frame} {meth : Method} {c : Code} {D : va_G} {ad : Nat → Nat} {ca : Nat → ClassId} {A : Nat → Prop} {N : Nat} {vC : CT} {res : Int32} (Z : gZ p s m args meth c cX0_howMany 3 RX0 (cd_Blk_howMany :: gA) A D cls (tys ca)) (hr : meth.sig.returnType = (some .int)) : ∀ (n : Nat) (y1 : Int32) (y2 : Int32), f_Blk_howMany_6 N vC n y1 y2 = some res → gW p l e rm_Blk_howMany s m args below meth c 3 A D cls 0 0 (MQ below (q_Blk_howMany D ad ca vC res A) args s 0 0 A) (wB ad ++ wC ad ca vC) [(0, .ref (ad 12)), (1, .int y1), (2, .int y2)] 6 [] := by
  intro n
  induction n with
  | zero =>
    intro y1 y2 hf
    exact absurd hf (by rw [f_Blk_howMany_6]; exact fun h => by cases h)
  | succ n ih =>
    intro y1 y2 hf
    rw [f_Blk_howMany_6] at hf
    refine g_iload_n (pc := 6) Z 2 dX0_howMany_6 rfl ?_
    refine g_sipush (pc := 7) (v := 1024) Z dX0_howMany_7 (by decide) ?_
    refine g_icmp_ge (pc := 10) (tgt := 29) Z dX0_howMany_10 (by decide) (fun c1 => ?_) (fun c1 => ?_)
    · replace hf := gIfP c1 hf
      refine g_iload_n (pc := 29) Z 1 dX0_howMany_29 rfl ?_
      obtain rfl := Option.some.inj hf
      exact g_iret Z hr dX0_howMany_30 () rfl rfl
    · replace hf := gIfN c1 hf
      refine g_iinc (pc := 13) (v := y1 + (1 : Int32)) (lv' := [(1, .int (y1 + (1 : Int32))), (0, .ref (ad 12)), (2, .int y2)]) Z 1 dX0_howMany_13 rfl rfl (by decide) rfl ?_
      refine g_iload_n (pc := 16) Z 2 dX0_howMany_16 rfl ?_
      refine g_iconst (pc := 17) (v := 1) Z dX0_howMany_17 (by decide) ?_
      refine g_aload_n (pc := 18) Z 1 dX0_howMany_18 rfl ?_
      refine g_iload_n (pc := 19) Z 2 dX0_howMany_19 rfl ?_
      obtain ⟨x2, h3, hf⟩ := Option.bind_eq_some_iff.mp hf
      refine g_calli (pc := 20) (ws2 := fun u => (wB ad ++ wC ad ca vC)) (wr := ([] : va_W)) Z [0, 1, 2, 3, 4, 5] [] [0, 1, 2, 3, 4, 5] (g_runV Z (c_Blk_sizeAt l D ad ca vC y2 x2 h3) (cwV 1 Z.2.2.2.2.1 (gg_V ww118 ww119 ww120 ww116 ww121) rfl rfl rfl (yv_of rfl yd_Blk_sizeAt) ⟨Nat.le_of_ble_eq_true rfl, Nat.le_of_ble_eq_true rfl⟩) [0, 1, 2, 3, 4, 5] rfl (by decide) 0 rfl rfl rfl rfl rfl (Nat.le_of_ble_eq_true rfl) dX0_howMany_20 ⟨Nat.le_of_ble_eq_true rfl, Nat.le_of_ble_eq_true rfl⟩) rfl rfl (by decide) (by decide) (by decide) (fun _ => rfl) (fun r u hu => ?_)
      obtain rfl := hu.symm
      refine g_iadd (pc := 23) Z dX0_howMany_23 ?_
      refine g_iadd (pc := 24) Z dX0_howMany_24 ?_
      refine g_istore_n (pc := 25) (lv' := [(2, .int (y2 + ((1 : Int32) + x2))), (1, .int (y1 + (1 : Int32))), (0, .ref (ad 12))]) Z dX0_howMany_25 (by decide) rfl ?_
      refine g_goto (pc := 26) (tgt := 6) Z dX0_howMany_26 (by decide) ?_
      refine g_locals (lv2 := [(0, .ref (ad 12)), (1, .int (y1 + (1 : Int32))), (2, .int (y2 + ((1 : Int32) + x2)))]) [2, 1, 0] rfl ?_
      exact ih _ _ hf
set_option maxHeartbeats 4000000 in
set_option maxRecDepth 100000 in
theorem c_Blk_howMany (l : Launch) (D : va_G) (ad : Nat → Nat) (ca : Nat → ClassId) (N : Nat) (vC : CT) (res : Int32) (hf : f_Blk_howMany N vC = some res) (sz : Nat) : Met l yX0_howMany (cd_Blk_howMany :: gA) rm_Blk_howMany (va_Pc [.ref (ad 12)] (gP D cls (tys ca) (wB ad ++ wC ad ca vC) sz)) (q_Blk_howMany D ad ca vC res (va_A (wB ad ++ wC ad ca vC) sz)) 0 0 (va_A (wB ad ++ wC ad ca vC) sz) := by
  refine g_met (cc := cX0_howMany) (Qc := q_Blk_howMany D ad ca vC res) (lv := [(0, .ref (ad 12))]) (own := RX0) (by decide) rfl rfl (Nat.le_of_ble_eq_true rfl) rfl sz ?_
  intro p e s m args below meth c A Z hr hnm
  unfold f_Blk_howMany at hf
  refine g_iconst (pc := 0) (v := 0) Z dX0_howMany_0 (by decide) ?_
  refine g_istore_n (pc := 1) (lv' := [(1, .int (0 : Int32)), (0, .ref (ad 12))]) Z dX0_howMany_1 (by decide) rfl ?_
  refine g_sipush (pc := 2) (v := 176) Z dX0_howMany_2 (by decide) ?_
  refine g_istore_n (pc := 5) (lv' := [(2, .int (176 : Int32)), (1, .int (0 : Int32)), (0, .ref (ad 12))]) Z dX0_howMany_5 (by decide) rfl ?_
  refine g_locals (lv2 := [(0, .ref (ad 12)), (1, .int (0 : Int32)), (2, .int (176 : Int32))]) [2, 1, 0] rfl ?_
  exact w_Blk_howMany_6 Z hr N _ _ hf
