/-! RedoHeapModel.checkpoint()I -/
def f_Mod_checkpoint (N : Nat) (vM : MT) : Option (Int32 × MT) :=
  if vM.2.2.2.2.2.2.2.2.2.1 = true then if vM.2.2.2.2.2.2.2.2.2.2.1 = true then some ((0 : Int32), (vM.1, vM.2.1, vM.2.2.1, vM.2.2.2.1, vM.2.2.2.2.1, vM.2.2.2.2.2.1, vM.2.2.2.2.2.2.1, vM.2.2.2.2.2.2.2.1, vM.2.2.2.2.2.2.2.2.1, vM.2.2.2.2.2.2.2.2.2.1, vM.2.2.2.2.2.2.2.2.2.2.1, vM.2.2.2.2.2.2.2.2.2.2.2.1, vM.2.2.2.2.2.2.2.2.2.2.2.2.1, vM.2.2.2.2.2.2.2.2.2.2.2.2.2.1, vM.2.2.2.2.2.2.2.2.2.2.2.2.2.2.1, vM.2.2.2.2.2.2.2.2.2.2.2.2.2.2.2.1, vM.2.2.2.2.2.2.2.2.2.2.2.2.2.2.2.2.1, vM.2.2.2.2.2.2.2.2.2.2.2.2.2.2.2.2.2.1, vM.2.2.2.2.2.2.2.2.2.2.2.2.2.2.2.2.2.2.1, vM.2.2.2.2.2.2.2.2.2.2.2.2.2.2.2.2.2.2.2.1, (1 : Int32))) else if vM.2.2.2.2.2.2.2.2.2.2.2.2.1 = 0 then some (vM.2.2.2.2.2.2.2.2.2.2.2.2.1, (vM.1, vM.2.1, vM.2.2.1, vM.2.2.2.1, vM.2.2.2.2.1, vM.2.2.2.2.2.1, vM.2.2.2.2.2.2.1, vM.2.2.2.2.2.2.2.1, vM.2.2.2.2.2.2.2.2.1, vM.2.2.2.2.2.2.2.2.2.1, vM.2.2.2.2.2.2.2.2.2.2.1, vM.2.2.2.2.2.2.2.2.2.2.2.1, vM.2.2.2.2.2.2.2.2.2.2.2.2.1, vM.2.2.2.2.2.2.2.2.2.2.2.2.2.1, vM.2.2.2.2.2.2.2.2.2.2.2.2.2.2.1, vM.2.2.2.2.2.2.2.2.2.2.2.2.2.2.2.1, vM.2.2.2.2.2.2.2.2.2.2.2.2.2.2.2.2.1, vM.2.2.2.2.2.2.2.2.2.2.2.2.2.2.2.2.2.1, vM.2.2.2.2.2.2.2.2.2.2.2.2.2.2.2.2.2.2.1, vM.2.2.2.2.2.2.2.2.2.2.2.2.2.2.2.2.2.2.2.1, (0 : Int32))) else (f_Mod_empty N (vM.1, vM.2.1, vM.2.2.1, vM.2.2.2.1, vM.2.2.2.2.1, vM.2.2.2.2.2.1, vM.2.2.2.2.2.2.1, vM.2.2.2.2.2.2.2.1, vM.2.2.2.2.2.2.2.2.1, vM.2.2.2.2.2.2.2.2.2.1, vM.2.2.2.2.2.2.2.2.2.2.1, vM.2.2.2.2.2.2.2.2.2.2.2.1, vM.2.2.2.2.2.2.2.2.2.2.2.2.1, vM.2.2.2.2.2.2.2.2.2.2.2.2.2.1, vM.2.2.2.2.2.2.2.2.2.2.2.2.2.2.1, vM.2.2.2.2.2.2.2.2.2.2.2.2.2.2.2.1, vM.2.2.2.2.2.2.2.2.2.2.2.2.2.2.2.2.1, vM.2.2.2.2.2.2.2.2.2.2.2.2.2.2.2.2.2.1, vM.2.2.2.2.2.2.2.2.2.2.2.2.2.2.2.2.2.2.1, vM.2.2.2.2.2.2.2.2.2.2.2.2.2.2.2.2.2.2.2.1, (0 : Int32)) vM.2.2.2.2.2.2.2.2.2.2.2.1 vM.2.2.2.2.2.2.2.2.2.2.2.1).bind fun x4 => if x4.1 = true then some (vM.2.2.2.2.2.2.2.2.2.2.2.2.1, x4.2) else some ((-2 : Int32), x4.2) else some ((0 : Int32), (vM.1, vM.2.1, vM.2.2.1, vM.2.2.2.1, vM.2.2.2.2.1, vM.2.2.2.2.2.1, vM.2.2.2.2.2.2.1, vM.2.2.2.2.2.2.2.1, vM.2.2.2.2.2.2.2.2.1, vM.2.2.2.2.2.2.2.2.2.1, vM.2.2.2.2.2.2.2.2.2.2.1, vM.2.2.2.2.2.2.2.2.2.2.2.1, vM.2.2.2.2.2.2.2.2.2.2.2.2.1, vM.2.2.2.2.2.2.2.2.2.2.2.2.2.1, vM.2.2.2.2.2.2.2.2.2.2.2.2.2.2.1, vM.2.2.2.2.2.2.2.2.2.2.2.2.2.2.2.1, vM.2.2.2.2.2.2.2.2.2.2.2.2.2.2.2.2.1, vM.2.2.2.2.2.2.2.2.2.2.2.2.2.2.2.2.2.1, vM.2.2.2.2.2.2.2.2.2.2.2.2.2.2.2.2.2.2.1, vM.2.2.2.2.2.2.2.2.2.2.2.2.2.2.2.2.2.2.2.1, (1 : Int32)))
abbrev cd_Mod_checkpoint : Cond := .code yX5_checkpoint cX5_checkpoint 2 (some .int)
theorem yd_Mod_checkpoint : yX5_checkpoint.cls ≠ "java/lang/invoke/MethodHandle" ∧ yX5_checkpoint.cls ≠ "java/lang/invoke/VarHandle" ∧ (parseMethodDescriptor yX5_checkpoint.desc).map (fun d => d.parameters.length) = some 0 := by decide +kernel
abbrev rm_Mod_checkpoint : Room := { frames := 4, cells := 0, slots := 0, locals := 95 }
abbrev q_Mod_checkpoint (D : va_G) (ad : Nat → Nat) (ca : Nat → ClassId) (res : Int32 × MT) (A : Nat → Prop) : Array Value → State → Outcome → State → Prop := va_Qi (fun (r : Int32) (u : MT) => r = res.1 ∧ u = res.2) (gB D cls (tys ca) A (fun (u : MT) => (wM ad ca u))) A
set_option maxHeartbeats 4000000 in
set_option maxRecDepth 100000 in
theorem c_Mod_checkpoint (l : Launch) (D : va_G) (ad : Nat → Nat) (ca : Nat → ClassId) (N : Nat) (vM : MT) (res : Int32 × MT) (hf : f_Mod_checkpoint N vM = some res) (sz : Nat) : Met l yX5_checkpoint (cd_Mod_checkpoint :: gA) rm_Mod_checkpoint (va_Pc [.ref (ad 20)] (gP D cls (tys ca) (wM ad ca vM) sz)) (q_Mod_checkpoint D ad ca res (va_A (wM ad ca vM) sz)) 0 0 (va_A (wM ad ca vM) sz) := by
  refine g_met (cc := cX5_checkpoint) (Qc := q_Mod_checkpoint D ad ca res) (lv := [(0, .ref (ad 20))]) (own := RX5) (by decide) rfl rfl (Nat.le_of_ble_eq_true rfl) rfl sz ?_
  intro p e s m args below meth c A Z hr hnm
  unfold f_Mod_checkpoint at hf
  refine g_aload_n (pc := 0) Z 0 dX5_checkpoint_0 rfl ?_
  refine g_aload_n (pc := 1) Z 0 dX5_checkpoint_1 rfl ?_
  refine g_get (pc := 2) (v := .int (bI vM.2.2.2.2.2.2.2.2.2.1)) (T := TX5) (N := 21) Z 0 9 dX5_checkpoint_2 (mm wm15) inx_X5 rfl (by decide) rfl rfl rfl ?_
  refine g_if_eq (pc := 5) (tgt := 15) Z dX5_checkpoint_5 (by decide) (fun c1 => ?_) (fun c1 => ?_)
  · replace hf := gIfN (bI_z c1) hf
    refine g_iconst (pc := 15) (v := 1) Z dX5_checkpoint_15 (by decide) ?_
    refine g_goto (pc := 16) (tgt := 20) Z dX5_checkpoint_16 (by decide) ?_
    refine g_put (pc := 20) (T := TX5) (N := 21) (ws' := (wM ad ca (vM.1, vM.2.1, vM.2.2.1, vM.2.2.2.1, vM.2.2.2.2.1, vM.2.2.2.2.2.1, vM.2.2.2.2.2.2.1, vM.2.2.2.2.2.2.2.1, vM.2.2.2.2.2.2.2.2.1, vM.2.2.2.2.2.2.2.2.2.1, vM.2.2.2.2.2.2.2.2.2.2.1, vM.2.2.2.2.2.2.2.2.2.2.2.1, vM.2.2.2.2.2.2.2.2.2.2.2.2.1, vM.2.2.2.2.2.2.2.2.2.2.2.2.2.1, vM.2.2.2.2.2.2.2.2.2.2.2.2.2.2.1, vM.2.2.2.2.2.2.2.2.2.2.2.2.2.2.2.1, vM.2.2.2.2.2.2.2.2.2.2.2.2.2.2.2.2.1, vM.2.2.2.2.2.2.2.2.2.2.2.2.2.2.2.2.2.1, vM.2.2.2.2.2.2.2.2.2.2.2.2.2.2.2.2.2.2.1, vM.2.2.2.2.2.2.2.2.2.2.2.2.2.2.2.2.2.2.2.1, (1 : Int32)))) Z 0 20 dX5_checkpoint_20 (mm wm0) inx_X5 tyX5_ok nmX5 rfl (by decide) rfl rfl rfl rfl rfl rfl (Nat.le_of_ble_eq_true rfl) rfl ?_
    refine g_aload_n (pc := 23) Z 0 dX5_checkpoint_23 rfl ?_
    refine g_get (pc := 24) (v := .int (1 : Int32)) (T := TX5) (N := 21) Z 0 20 dX5_checkpoint_24 (mm wm0) inx_X5 rfl (by decide) rfl rfl rfl ?_
    refine g_if_le (pc := 27) (tgt := 32) Z dX5_checkpoint_27 (by decide) (fun c0 => absurd c0 (by decide)) (fun _ => ?_)
    refine g_iconst (pc := 30) (v := 0) Z dX5_checkpoint_30 (by decide) ?_
    obtain rfl := Option.some.inj hf
    exact g_iret Z hr dX5_checkpoint_31 (vM.1, vM.2.1, vM.2.2.1, vM.2.2.2.1, vM.2.2.2.2.1, vM.2.2.2.2.2.1, vM.2.2.2.2.2.2.1, vM.2.2.2.2.2.2.2.1, vM.2.2.2.2.2.2.2.2.1, vM.2.2.2.2.2.2.2.2.2.1, vM.2.2.2.2.2.2.2.2.2.2.1, vM.2.2.2.2.2.2.2.2.2.2.2.1, vM.2.2.2.2.2.2.2.2.2.2.2.2.1, vM.2.2.2.2.2.2.2.2.2.2.2.2.2.1, vM.2.2.2.2.2.2.2.2.2.2.2.2.2.2.1, vM.2.2.2.2.2.2.2.2.2.2.2.2.2.2.2.1, vM.2.2.2.2.2.2.2.2.2.2.2.2.2.2.2.2.1, vM.2.2.2.2.2.2.2.2.2.2.2.2.2.2.2.2.2.1, vM.2.2.2.2.2.2.2.2.2.2.2.2.2.2.2.2.2.2.1, vM.2.2.2.2.2.2.2.2.2.2.2.2.2.2.2.2.2.2.2.1, (1 : Int32)) ⟨rfl, rfl⟩ rfl
  · replace hf := gIfP (bI_nz c1) hf
    refine g_aload_n (pc := 8) Z 0 dX5_checkpoint_8 rfl ?_
    refine g_get (pc := 9) (v := .int (bI vM.2.2.2.2.2.2.2.2.2.2.1)) (T := TX5) (N := 21) Z 0 10 dX5_checkpoint_9 (mm wm4) inx_X5 rfl (by decide) rfl rfl rfl ?_
    refine g_if_eq (pc := 12) (tgt := 19) Z dX5_checkpoint_12 (by decide) (fun c2 => ?_) (fun c2 => ?_)
    · replace hf := gIfN (bI_z c2) hf
      refine g_iconst (pc := 19) (v := 0) Z dX5_checkpoint_19 (by decide) ?_
      refine g_put (pc := 20) (T := TX5) (N := 21) (ws' := (wM ad ca (vM.1, vM.2.1, vM.2.2.1, vM.2.2.2.1, vM.2.2.2.2.1, vM.2.2.2.2.2.1, vM.2.2.2.2.2.2.1, vM.2.2.2.2.2.2.2.1, vM.2.2.2.2.2.2.2.2.1, vM.2.2.2.2.2.2.2.2.2.1, vM.2.2.2.2.2.2.2.2.2.2.1, vM.2.2.2.2.2.2.2.2.2.2.2.1, vM.2.2.2.2.2.2.2.2.2.2.2.2.1, vM.2.2.2.2.2.2.2.2.2.2.2.2.2.1, vM.2.2.2.2.2.2.2.2.2.2.2.2.2.2.1, vM.2.2.2.2.2.2.2.2.2.2.2.2.2.2.2.1, vM.2.2.2.2.2.2.2.2.2.2.2.2.2.2.2.2.1, vM.2.2.2.2.2.2.2.2.2.2.2.2.2.2.2.2.2.1, vM.2.2.2.2.2.2.2.2.2.2.2.2.2.2.2.2.2.2.1, vM.2.2.2.2.2.2.2.2.2.2.2.2.2.2.2.2.2.2.2.1, (0 : Int32)))) Z 0 20 dX5_checkpoint_20 (mm wm0) inx_X5 tyX5_ok nmX5 rfl (by decide) rfl rfl rfl rfl rfl rfl (Nat.le_of_ble_eq_true rfl) rfl ?_
      refine g_aload_n (pc := 23) Z 0 dX5_checkpoint_23 rfl ?_
      refine g_get (pc := 24) (v := .int (0 : Int32)) (T := TX5) (N := 21) Z 0 20 dX5_checkpoint_24 (mm wm0) inx_X5 rfl (by decide) rfl rfl rfl ?_
      refine g_if_le (pc := 27) (tgt := 32) Z dX5_checkpoint_27 (by decide) (fun _ => ?_) (fun c0 => absurd c0 (by decide))
      refine g_aload_n (pc := 32) Z 0 dX5_checkpoint_32 rfl ?_
      refine g_get (pc := 33) (v := .int vM.2.2.2.2.2.2.2.2.2.2.2.2.1) (T := TX5) (N := 21) Z 0 12 dX5_checkpoint_33 (mm wm76) inx_X5 rfl (by decide) rfl rfl rfl ?_
      refine g_istore_n (pc := 36) (lv' := [(1, .int vM.2.2.2.2.2.2.2.2.2.2.2.2.1), (0, .ref (ad 20))]) Z dX5_checkpoint_36 (by decide) rfl ?_
      refine g_iload_n (pc := 37) Z 0 dX5_checkpoint_37 rfl ?_
      refine g_if_eq (pc := 38) (tgt := 56) Z dX5_checkpoint_38 (by decide) (fun c3 => ?_) (fun c3 => ?_)
      · replace hf := gIfP c3 hf
        refine g_iload_n (pc := 56) Z 0 dX5_checkpoint_56 rfl ?_
        refine g_goto (pc := 57) (tgt := 62) Z dX5_checkpoint_57 (by decide) ?_
        obtain rfl := Option.some.inj hf
        exact g_iret Z hr dX5_checkpoint_62 (vM.1, vM.2.1, vM.2.2.1, vM.2.2.2.1, vM.2.2.2.2.1, vM.2.2.2.2.2.1, vM.2.2.2.2.2.2.1, vM.2.2.2.2.2.2.2.1, vM.2.2.2.2.2.2.2.2.1, vM.2.2.2.2.2.2.2.2.2.1, vM.2.2.2.2.2.2.2.2.2.2.1, vM.2.2.2.2.2.2.2.2.2.2.2.1, vM.2.2.2.2.2.2.2.2.2.2.2.2.1, vM.2.2.2.2.2.2.2.2.2.2.2.2.2.1, vM.2.2.2.2.2.2.2.2.2.2.2.2.2.2.1, vM.2.2.2.2.2.2.2.2.2.2.2.2.2.2.2.1, vM.2.2.2.2.2.2.2.2.2.2.2.2.2.2.2.2.1, vM.2.2.2.2.2.2.2.2.2.2.2.2.2.2.2.2.2.1, vM.2.2.2.2.2.2.2.2.2.2.2.2.2.2.2.2.2.2.1, vM.2.2.2.2.2.2.2.2.2.2.2.2.2.2.2.2.2.2.2.1, (0 : Int32)) ⟨rfl, rfl⟩ rfl
      · replace hf := gIfN c3 hf
        refine g_aload_n (pc := 41) Z 1 dX5_checkpoint_41 rfl ?_
        refine g_aload_n (pc := 42) Z 1 dX5_checkpoint_42 rfl ?_
        refine g_get (pc := 43) (v := .int vM.2.2.2.2.2.2.2.2.2.2.2.1) (T := TX5) (N := 21) Z 0 11 dX5_checkpoint_43 (mm wm75) inx_X5 rfl (by decide) rfl rfl rfl ?_
        refine g_aload_n (pc := 46) Z 1 dX5_checkpoint_46 rfl ?_
        refine g_get (pc := 47) (v := .int vM.2.2.2.2.2.2.2.2.2.2.2.1) (T := TX5) (N := 21) Z 0 11 dX5_checkpoint_47 (mm wm75) inx_X5 rfl (by decide) rfl rfl rfl ?_
        obtain ⟨x4, h5, hf⟩ := Option.bind_eq_some_iff.mp hf
        refine g_calli (pc := 50) (ws2 := fun u => (wM ad ca u)) (wr := ([] : va_W)) Z [0, 1, 2, 3, 4, 5, 6, 7] [] [0, 1, 2, 3, 4, 5, 6, 7] (g_runV Z (c_Mod_empty l D ad ca N (vM.1, vM.2.1, vM.2.2.1, vM.2.2.2.1, vM.2.2.2.2.1, vM.2.2.2.2.2.1, vM.2.2.2.2.2.2.1, vM.2.2.2.2.2.2.2.1, vM.2.2.2.2.2.2.2.2.1, vM.2.2.2.2.2.2.2.2.2.1, vM.2.2.2.2.2.2.2.2.2.2.1, vM.2.2.2.2.2.2.2.2.2.2.2.1, vM.2.2.2.2.2.2.2.2.2.2.2.2.1, vM.2.2.2.2.2.2.2.2.2.2.2.2.2.1, vM.2.2.2.2.2.2.2.2.2.2.2.2.2.2.1, vM.2.2.2.2.2.2.2.2.2.2.2.2.2.2.2.1, vM.2.2.2.2.2.2.2.2.2.2.2.2.2.2.2.2.1, vM.2.2.2.2.2.2.2.2.2.2.2.2.2.2.2.2.2.1, vM.2.2.2.2.2.2.2.2.2.2.2.2.2.2.2.2.2.2.1, vM.2.2.2.2.2.2.2.2.2.2.2.2.2.2.2.2.2.2.2.1, (0 : Int32)) vM.2.2.2.2.2.2.2.2.2.2.2.1 vM.2.2.2.2.2.2.2.2.2.2.2.1 x4 h5) (cwV 2 Z.2.2.2.2.1 (gg_V wm78 wm79 wm80 wm11 wm81) rfl rfl rfl (yv_of rfl yd_Mod_empty) ⟨Nat.le_of_ble_eq_true rfl, Nat.le_of_ble_eq_true rfl⟩) [0, 1, 2, 3, 4, 5, 6, 7] rfl (by decide) 0 rfl rfl rfl rfl rfl (Nat.le_of_ble_eq_true rfl) dX5_checkpoint_50 ⟨Nat.le_of_ble_eq_true rfl, Nat.le_of_ble_eq_true rfl⟩) rfl rfl (by decide) (by decide) (by decide) (fun _ => rfl) (fun r u hu => ?_)
        obtain ⟨rfl, rfl⟩ := hu
        refine g_if_eq (pc := 53) (tgt := 60) Z dX5_checkpoint_53 (by decide) (fun c6 => ?_) (fun c6 => ?_)
        · replace hf := gIfN (bI_z c6) hf
          refine g_bipush (pc := 60) (v := -2) Z dX5_checkpoint_60 (by decide) ?_
          obtain rfl := Option.some.inj hf
          exact g_iret Z hr dX5_checkpoint_62 x4.2 ⟨rfl, rfl⟩ rfl
        · replace hf := gIfP (bI_nz c6) hf
          refine g_iload_n (pc := 56) Z 0 dX5_checkpoint_56 rfl ?_
          refine g_goto (pc := 57) (tgt := 62) Z dX5_checkpoint_57 (by decide) ?_
          obtain rfl := Option.some.inj hf
          exact g_iret Z hr dX5_checkpoint_62 x4.2 ⟨rfl, rfl⟩ rfl
    · replace hf := gIfP (bI_nz c2) hf
      refine g_iconst (pc := 15) (v := 1) Z dX5_checkpoint_15 (by decide) ?_
      refine g_goto (pc := 16) (tgt := 20) Z dX5_checkpoint_16 (by decide) ?_
      refine g_put (pc := 20) (T := TX5) (N := 21) (ws' := (wM ad ca (vM.1, vM.2.1, vM.2.2.1, vM.2.2.2.1, vM.2.2.2.2.1, vM.2.2.2.2.2.1, vM.2.2.2.2.2.2.1, vM.2.2.2.2.2.2.2.1, vM.2.2.2.2.2.2.2.2.1, vM.2.2.2.2.2.2.2.2.2.1, vM.2.2.2.2.2.2.2.2.2.2.1, vM.2.2.2.2.2.2.2.2.2.2.2.1, vM.2.2.2.2.2.2.2.2.2.2.2.2.1, vM.2.2.2.2.2.2.2.2.2.2.2.2.2.1, vM.2.2.2.2.2.2.2.2.2.2.2.2.2.2.1, vM.2.2.2.2.2.2.2.2.2.2.2.2.2.2.2.1, vM.2.2.2.2.2.2.2.2.2.2.2.2.2.2.2.2.1, vM.2.2.2.2.2.2.2.2.2.2.2.2.2.2.2.2.2.1, vM.2.2.2.2.2.2.2.2.2.2.2.2.2.2.2.2.2.2.1, vM.2.2.2.2.2.2.2.2.2.2.2.2.2.2.2.2.2.2.2.1, (1 : Int32)))) Z 0 20 dX5_checkpoint_20 (mm wm0) inx_X5 tyX5_ok nmX5 rfl (by decide) rfl rfl rfl rfl rfl rfl (Nat.le_of_ble_eq_true rfl) rfl ?_
      refine g_aload_n (pc := 23) Z 0 dX5_checkpoint_23 rfl ?_
      refine g_get (pc := 24) (v := .int (1 : Int32)) (T := TX5) (N := 21) Z 0 20 dX5_checkpoint_24 (mm wm0) inx_X5 rfl (by decide) rfl rfl rfl ?_
      refine g_if_le (pc := 27) (tgt := 32) Z dX5_checkpoint_27 (by decide) (fun c0 => absurd c0 (by decide)) (fun _ => ?_)
      refine g_iconst (pc := 30) (v := 0) Z dX5_checkpoint_30 (by decide) ?_
      obtain rfl := Option.some.inj hf
      exact g_iret Z hr dX5_checkpoint_31 (vM.1, vM.2.1, vM.2.2.1, vM.2.2.2.1, vM.2.2.2.2.1, vM.2.2.2.2.2.1, vM.2.2.2.2.2.2.1, vM.2.2.2.2.2.2.2.1, vM.2.2.2.2.2.2.2.2.1, vM.2.2.2.2.2.2.2.2.2.1, vM.2.2.2.2.2.2.2.2.2.2.1, vM.2.2.2.2.2.2.2.2.2.2.2.1, vM.2.2.2.2.2.2.2.2.2.2.2.2.1, vM.2.2.2.2.2.2.2.2.2.2.2.2.2.1, vM.2.2.2.2.2.2.2.2.2.2.2.2.2.2.1, vM.2.2.2.2.2.2.2.2.2.2.2.2.2.2.2.1, vM.2.2.2.2.2.2.2.2.2.2.2.2.2.2.2.2.1, vM.2.2.2.2.2.2.2.2.2.2.2.2.2.2.2.2.2.1, vM.2.2.2.2.2.2.2.2.2.2.2.2.2.2.2.2.2.2.1, vM.2.2.2.2.2.2.2.2.2.2.2.2.2.2.2.2.2.2.2.1, (1 : Int32)) ⟨rfl, rfl⟩ rfl
