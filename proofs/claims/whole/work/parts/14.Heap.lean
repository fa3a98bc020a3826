theorem ww148 : Cond.fieldLink RX4 10 "RedoHeap" "disk" "LRedoHeap$Disk;" ∈ gA := wt1 123 rfl rfl
theorem ww149 : Jvm.Cond.constantLong RX4 214 (1694) ∈ gA := wt3 54 rfl rfl
theorem ww150 : Cond.methodLink RX4 216 yX2_write ∈ gA := wt3 55 rfl rfl
theorem ww151 : Cond.methodLink RX4 119 yX2_settleAll ∈ gA := wt2 233 rfl rfl
theorem ww152 : Cond.fieldLink RX4 21 "RedoHeap" "log" "LRedoHeap$Log;" ∈ gA := wt1 124 rfl rfl
theorem ww153 : Cond.methodLink RX4 219 yX3_forget ∈ gA := wt3 56 rfl rfl
/-! RedoHeap.format()V -/
def f_Heap_format (N : Nat) (vL : LT) (vD : DT) : Option (LT × DT) :=
  (f_Disk_write N vD (176 : Int32) (1694 : Int64)).bind fun x1 => if x1.1 = true then (f_Disk_write N x1.2 (1 : Int32) (0 : Int64)).bind fun x4 => if x4.1 = true then (f_Disk_write N x4.2 (0 : Int32) (1 : Int64)).bind fun x7 => if x7.1 = true then (f_Disk_settleAll N x7.2).bind fun x10 => (f_Log_forget vL x10).bind fun x12 => some (x12, x10) else some (vL, x7.2) else some (vL, x4.2) else some (vL, x1.2)
abbrev cd_Heap_format : Cond := .code yX4_format cX4_format 1 none
theorem yd_Heap_format : yX4_format.cls ≠ "java/lang/invoke/MethodHandle" ∧ yX4_format.cls ≠ "java/lang/invoke/VarHandle" ∧ (parseMethodDescriptor yX4_format.desc).map (fun d => d.parameters.length) = some 0 := by decide +kernel
abbrev rm_Heap_format : Room := { frames := 4, cells := 0, slots := 0, locals := 105 }
abbrev q_Heap_format (D : va_G) (ad : Nat → Nat) (ca : Nat → ClassId) (res : LT × DT) (A : Nat → Prop) : Array Value → State → Outcome → State → Prop := va_Qv (fun (u : LT × DT) => u = res) (gB D cls (tys ca) A (fun (u : LT × DT) => (wH ad ++ wL ad ca u.1 ++ wD ad ca u.2))) A
set_option maxHeartbeats 4000000 in
set_option maxRecDepth 100000 in
theorem c_Heap_format (l : Launch) (D : va_G) (ad : Nat → Nat) (ca : Nat → ClassId) (N : Nat) (vL : LT) (vD : DT) (res : LT × DT) (hf : f_Heap_format N vL vD = some res) (sz : Nat) : Met l yX4_format (cd_Heap_format :: gA) rm_Heap_format (va_Pc [.ref (ad 0)] (gP D cls (tys ca) (wH ad ++ wL ad ca vL ++ wD ad ca vD) sz)) (q_Heap_format D ad ca res (va_A (wH ad ++ wL ad ca vL ++ wD ad ca vD) sz)) 0 0 (va_A (wH ad ++ wL ad ca vL ++ wD ad ca vD) sz) := by
  refine g_met (cc := cX4_format) (Qc := q_Heap_format D ad ca res) (lv := [(0, .ref (ad 0))]) (own := RX4) (by decide) rfl rfl (Nat.le_of_ble_eq_true rfl) rfl sz ?_
  intro p e s m args below meth c A Z hr hnm
  unfold f_Heap_format at hf
  refine g_aload_n (pc := 0) Z 0 dX4_format_0 rfl ?_
  refine g_get (pc := 1) (v := .ref (ad 1)) (T := TX4) (N := 4) Z 0 0 dX4_format_1 (mm ww148) inx_X4 rfl (by decide) rfl rfl rfl ?_
  refine g_sipush (pc := 4) (v := 176) Z dX4_format_4 (by decide) ?_
  refine g_ldc2 (pc := 7) (v := 1694) Z dX4_format_7 (mm ww149) ?_
  obtain ⟨x1, h2, hf⟩ := Option.bind_eq_some_iff.mp hf
  refine g_calli (pc := 10) (ws2 := fun u => (wH ad ++ wL ad ca vL ++ wD ad ca u)) (wr := (wH ad ++ wL ad ca vL)) Z [2, 3, 4, 5, 6] [0, 1] [0, 1, 2, 3, 4, 5, 6] (g_runV Z (c_Disk_write l D ad ca N vD (176 : Int32) (1694 : Int64) x1 h2) (cwV 2 Z.2.2.2.2.1 (gg_V ww150 ww80 ww81 ww16 ww82) rfl rfl rfl (yv_of rfl yd_Disk_write) ⟨Nat.le_of_ble_eq_true rfl, Nat.le_of_ble_eq_true rfl⟩) [2, 3, 4, 5, 6] rfl (by decide) 0 rfl rfl rfl rfl rfl (Nat.le_of_ble_eq_true rfl) dX4_format_10 ⟨Nat.le_of_ble_eq_true rfl, Nat.le_of_ble_eq_true rfl⟩) rfl rfl (by decide) (by decide) (by decide) (fun _ => rfl) (fun r u hu => ?_)
  obtain ⟨rfl, rfl⟩ := hu
  refine g_if_eq (pc := 13) (tgt := 54) Z dX4_format_13 (by decide) (fun c3 => ?_) (fun c3 => ?_)
  · replace hf := gIfN (bI_z c3) hf
    obtain rfl := Option.some.inj hf
    exact g_vret Z hr dX4_format_54 (vL, x1.2) rfl rfl
  · replace hf := gIfP (bI_nz c3) hf
    refine g_aload_n (pc := 16) Z 0 dX4_format_16 rfl ?_
    refine g_get (pc := 17) (v := .ref (ad 1)) (T := TX4) (N := 4) Z 0 0 dX4_format_17 (mm ww148) inx_X4 rfl (by decide) rfl rfl rfl ?_
    refine g_iconst (pc := 20) (v := 1) Z dX4_format_20 (by decide) ?_
    refine g_lconst (pc := 21) (v := 0) Z dX4_format_21 (by decide) ?_
    obtain ⟨x4, h5, hf⟩ := Option.bind_eq_some_iff.mp hf
    refine g_calli (pc := 22) (ws2 := fun u => (wH ad ++ wL ad ca vL ++ wD ad ca u)) (wr := (wH ad ++ wL ad ca vL)) Z [2, 3, 4, 5, 6] [0, 1] [0, 1, 2, 3, 4, 5, 6] (g_runV Z (c_Disk_write l D ad ca N x1.2 (1 : Int32) (0 : Int64) x4 h5) (cwV 2 Z.2.2.2.2.1 (gg_V ww150 ww80 ww81 ww16 ww82) rfl rfl rfl (yv_of rfl yd_Disk_write) ⟨Nat.le_of_ble_eq_true rfl, Nat.le_of_ble_eq_true rfl⟩) [2, 3, 4, 5, 6] rfl (by decide) 0 rfl rfl rfl rfl rfl (Nat.le_of_ble_eq_true rfl) dX4_format_22 ⟨Nat.le_of_ble_eq_true rfl, Nat.le_of_ble_eq_true rfl⟩) rfl rfl (by decide) (by decide) (by decide) (fun _ => rfl) (fun r u hu => ?_)
    obtain ⟨rfl, rfl⟩ := hu
    refine g_if_eq (pc := 25) (tgt := 54) Z dX4_format_25 (by decide) (fun c6 => ?_) (fun c6 => ?_)
    · replace hf := gIfN (bI_z c6) hf
      obtain rfl := Option.some.inj hf
      exact g_vret Z hr dX4_format_54 (vL, x4.2) rfl rfl
    · replace hf := gIfP (bI_nz c6) hf
      refine g_aload_n (pc := 28) Z 0 dX4_format_28 rfl ?_
      refine g_get (pc := 29) (v := .ref (ad 1)) (T := TX4) (N := 4) Z 0 0 dX4_format_29 (mm ww148) inx_X4 rfl (by decide) rfl rfl rfl ?_
      refine g_iconst (pc := 32) (v := 0) Z dX4_format_32 (by decide) ?_
      refine g_lconst (pc := 33) (v := 1) Z dX4_format_33 (by decide) ?_
      obtain ⟨x7, h8, hf⟩ := Option.bind_eq_some_iff.mp hf
      refine g_calli (pc := 34) (ws2 := fun u => (wH ad ++ wL ad ca vL ++ wD ad ca u)) (wr := (wH ad ++ wL ad ca vL)) Z [2, 3, 4, 5, 6] [0, 1] [0, 1, 2, 3, 4, 5, 6] (g_runV Z (c_Disk_write l D ad ca N x4.2 (0 : Int32) (1 : Int64) x7 h8) (cwV 2 Z.2.2.2.2.1 (gg_V ww150 ww80 ww81 ww16 ww82) rfl rfl rfl (yv_of rfl yd_Disk_write) ⟨Nat.le_of_ble_eq_true rfl, Nat.le_of_ble_eq_true rfl⟩) [2, 3, 4, 5, 6] rfl (by decide) 0 rfl rfl rfl rfl rfl (Nat.le_of_ble_eq_true rfl) dX4_format_34 ⟨Nat.le_of_ble_eq_true rfl, Nat.le_of_ble_eq_true rfl⟩) rfl rfl (by decide) (by decide) (by decide) (fun _ => rfl) (fun r u hu => ?_)
      obtain ⟨rfl, rfl⟩ := hu
      refine g_if_eq (pc := 37) (tgt := 54) Z dX4_format_37 (by decide) (fun c9 => ?_) (fun c9 => ?_)
      · replace hf := gIfN (bI_z c9) hf
        obtain rfl := Option.some.inj hf
        exact g_vret Z hr dX4_format_54 (vL, x7.2) rfl rfl
      · replace hf := gIfP (bI_nz c9) hf
        refine g_aload_n (pc := 40) Z 0 dX4_format_40 rfl ?_
        refine g_get (pc := 41) (v := .ref (ad 1)) (T := TX4) (N := 4) Z 0 0 dX4_format_41 (mm ww148) inx_X4 rfl (by decide) rfl rfl rfl ?_
        obtain ⟨x10, h11, hf⟩ := Option.bind_eq_some_iff.mp hf
        refine g_callv (pc := 44) (ws2 := fun u => (wH ad ++ wL ad ca vL ++ wD ad ca u)) (wr := (wH ad ++ wL ad ca vL)) Z [2, 3, 4, 5, 6] [0, 1] [0, 1, 2, 3, 4, 5, 6] (g_runV Z (c_Disk_settleAll l D ad ca N x7.2 x10 h11) (cwV 0 Z.2.2.2.2.1 (gg_V ww151 ww88 ww89 ww16 ww90) rfl rfl rfl (yv_of rfl yd_Disk_settleAll) ⟨Nat.le_of_ble_eq_true rfl, Nat.le_of_ble_eq_true rfl⟩) [2, 3, 4, 5, 6] rfl (by decide) 0 rfl rfl rfl rfl rfl (Nat.le_of_ble_eq_true rfl) dX4_format_44 ⟨Nat.le_of_ble_eq_true rfl, Nat.le_of_ble_eq_true rfl⟩) rfl rfl (by decide) (by decide) (by decide) (fun _ => rfl) (fun u hu => ?_)
        obtain rfl := hu.symm
        refine g_aload_n (pc := 47) Z 0 dX4_format_47 rfl ?_
        refine g_get (pc := 48) (v := .ref (ad 6)) (T := TX4) (N := 4) Z 0 1 dX4_format_48 (mm ww152) inx_X4 rfl (by decide) rfl rfl rfl ?_
        obtain ⟨x12, h13, hf⟩ := Option.bind_eq_some_iff.mp hf
        refine g_callv (pc := 51) (ws2 := fun u => (wH ad ++ wL ad ca u ++ wD ad ca x10)) (wr := (wH ad)) Z [1, 2, 3, 4, 5, 6] [0] [0, 1, 2, 3, 4, 5, 6] (g_runV Z (c_Log_forget l D ad ca vL x10 x12 h13) (cwV 0 Z.2.2.2.2.1 (gg_V ww153 ww107 ww108 ww72 ww109) rfl rfl rfl (yv_of rfl yd_Log_forget) ⟨Nat.le_of_ble_eq_true rfl, Nat.le_of_ble_eq_true rfl⟩) [1, 2, 3, 4, 5, 6] rfl (by decide) 0 rfl rfl rfl rfl rfl (Nat.le_of_ble_eq_true rfl) dX4_format_51 ⟨Nat.le_of_ble_eq_true rfl, Nat.le_of_ble_eq_true rfl⟩) rfl rfl (by decide) (by decide) (by decide) (fun _ => rfl) (fun u hu => ?_)
        obtain rfl := hu.symm
        obtain rfl := Option.some.inj hf
        exact g_vret Z hr dX4_format_54 (x12, x10) rfl rfl
