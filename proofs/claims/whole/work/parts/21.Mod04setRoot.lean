/-! RedoHeapModel.setRoot(I)Z -/
def f_Mod_setRoot (N : Nat) (vM : MT) (p1 : Int32) : Option (Bool × MT) :=
  (f_Mod_isShut vM).bind fun x1 => if x1 = true then some (false, (vM.1, vM.2.1, vM.2.2.1, vM.2.2.2.1, vM.2.2.2.2.1, vM.2.2.2.2.2.1, vM.2.2.2.2.2.2.1, vM.2.2.2.2.2.2.2.1, vM.2.2.2.2.2.2.2.2.1, vM.2.2.2.2.2.2.2.2.2.1, vM.2.2.2.2.2.2.2.2.2.2.1, vM.2.2.2.2.2.2.2.2.2.2.2.1, vM.2.2.2.2.2.2.2.2.2.2.2.2.1, vM.2.2.2.2.2.2.2.2.2.2.2.2.2.1, vM.2.2.2.2.2.2.2.2.2.2.2.2.2.2.1, vM.2.2.2.2.2.2.2.2.2.2.2.2.2.2.2.1, vM.2.2.2.2.2.2.2.2.2.2.2.2.2.2.2.2.1, vM.2.2.2.2.2.2.2.2.2.2.2.2.2.2.2.2.2.1, vM.2.2.2.2.2.2.2.2.2.2.2.2.2.2.2.2.2.2.1, vM.2.2.2.2.2.2.2.2.2.2.2.2.2.2.2.2.2.2.2.1, (1 : Int32))) else if p1 = 0 then (f_Mod_tryOne (vM.1, vM.2.1, vM.2.2.1, vM.2.2.2.1, vM.2.2.2.2.1, vM.2.2.2.2.2.1, vM.2.2.2.2.2.2.1, vM.2.2.2.2.2.2.2.1, vM.2.2.2.2.2.2.2.2.1, vM.2.2.2.2.2.2.2.2.2.1, vM.2.2.2.2.2.2.2.2.2.2.1, vM.2.2.2.2.2.2.2.2.2.2.2.1, vM.2.2.2.2.2.2.2.2.2.2.2.2.1, vM.2.2.2.2.2.2.2.2.2.2.2.2.2.1, vM.2.2.2.2.2.2.2.2.2.2.2.2.2.2.1, vM.2.2.2.2.2.2.2.2.2.2.2.2.2.2.2.1, vM.2.2.2.2.2.2.2.2.2.2.2.2.2.2.2.2.1, vM.2.2.2.2.2.2.2.2.2.2.2.2.2.2.2.2.2.1, vM.2.2.2.2.2.2.2.2.2.2.2.2.2.2.2.2.2.2.1, vM.2.2.2.2.2.2.2.2.2.2.2.2.2.2.2.2.2.2.2.1, (0 : Int32)) (1 : Int32) p1.toInt64).bind fun x5 => if x5.1 = true then some (true, x5.2) else some (false, x5.2) else (f_Mod_usedHead N vM p1).bind fun x8 => if 0 ≤ x8 then (f_Mod_tryOne (vM.1, vM.2.1, vM.2.2.1, vM.2.2.2.1, vM.2.2.2.2.1, vM.2.2.2.2.2.1, vM.2.2.2.2.2.2.1, vM.2.2.2.2.2.2.2.1, vM.2.2.2.2.2.2.2.2.1, vM.2.2.2.2.2.2.2.2.2.1, vM.2.2.2.2.2.2.2.2.2.2.1, vM.2.2.2.2.2.2.2.2.2.2.2.1, vM.2.2.2.2.2.2.2.2.2.2.2.2.1, vM.2.2.2.2.2.2.2.2.2.2.2.2.2.1, vM.2.2.2.2.2.2.2.2.2.2.2.2.2.2.1, vM.2.2.2.2.2.2.2.2.2.2.2.2.2.2.2.1, vM.2.2.2.2.2.2.2.2.2.2.2.2.2.2.2.2.1, vM.2.2.2.2.2.2.2.2.2.2.2.2.2.2.2.2.2.1, vM.2.2.2.2.2.2.2.2.2.2.2.2.2.2.2.2.2.2.1, vM.2.2.2.2.2.2.2.2.2.2.2.2.2.2.2.2.2.2.2.1, (0 : Int32)) (1 : Int32) p1.toInt64).bind fun x11 => if x11.1 = true then some (true, x11.2) else some (false, x11.2) else some (false, (vM.1, vM.2.1, vM.2.2.1, vM.2.2.2.1, vM.2.2.2.2.1, vM.2.2.2.2.2.1, vM.2.2.2.2.2.2.1, vM.2.2.2.2.2.2.2.1, vM.2.2.2.2.2.2.2.2.1, vM.2.2.2.2.2.2.2.2.2.1, vM.2.2.2.2.2.2.2.2.2.2.1, vM.2.2.2.2.2.2.2.2.2.2.2.1, vM.2.2.2.2.2.2.2.2.2.2.2.2.1, vM.2.2.2.2.2.2.2.2.2.2.2.2.2.1, vM.2.2.2.2.2.2.2.2.2.2.2.2.2.2.1, vM.2.2.2.2.2.2.2.2.2.2.2.2.2.2.2.1, vM.2.2.2.2.2.2.2.2.2.2.2.2.2.2.2.2.1, vM.2.2.2.2.2.2.2.2.2.2.2.2.2.2.2.2.2.1, vM.2.2.2.2.2.2.2.2.2.2.2.2.2.2.2.2.2.2.1, vM.2.2.2.2.2.2.2.2.2.2.2.2.2.2.2.2.2.2.2.1, (2 : Int32)))
abbrev cd_Mod_setRoot : Cond := .code yX5_setRoot cX5_setRoot 2 (some .boolean)
theorem yd_Mod_setRoot : yX5_setRoot.cls ≠ "java/lang/invoke/MethodHandle" ∧ yX5_setRoot.cls ≠ "java/lang/invoke/VarHandle" ∧ (parseMethodDescriptor yX5_setRoot.desc).map (fun d => d.parameters.length) = some 1 := by decide +kernel
abbrev rm_Mod_setRoot : Room := { frames := 3, cells := 0, slots := 0, locals := 64 }
abbrev q_Mod_setRoot (D : va_G) (ad : Nat → Nat) (ca : Nat → ClassId) (res : Bool × MT) (A : Nat → Prop) : Array Value → State → Outcome → State → Prop := va_Qi (fun (r : Int32) (u : MT) => r = bI res.1 ∧ u = res.2) (gB D cls (tys ca) A (fun (u : MT) => (wM ad ca u))) A
set_option maxHeartbeats 4000000 in
set_option maxRecDepth 100000 in
theorem c_Mod_setRoot (l : Launch) (D : va_G) (ad : Nat → Nat) (ca : Nat → ClassId) (N : Nat) (vM : MT) (p1 : Int32) (res : Bool × MT) (hf : f_Mod_setRoot N vM p1 = some res) (sz : Nat) : Met l yX5_setRoot (cd_Mod_setRoot :: gA) rm_Mod_setRoot (va_Pc [.ref (ad 20), .int p1] (gP D cls (tys ca) (wM ad ca vM) sz)) (q_Mod_setRoot D ad ca res (va_A (wM ad ca vM) sz)) 0 0 (va_A (wM ad ca vM) sz) := by
  refine g_met (cc := cX5_setRoot) (Qc := q_Mod_setRoot D ad ca res) (lv := [(0, .ref (ad 20)), (1, .int p1)]) (own := RX5) (by decide) rfl rfl (Nat.le_of_ble_eq_true rfl) rfl sz ?_
  intro p e s m args below meth c A Z hr hnm
  unfold f_Mod_setRoot at hf
  refine g_aload_n (pc := 0) Z 0 dX5_setRoot_0 rfl ?_
  refine g_aload_n (pc := 1) Z 0 dX5_setRoot_1 rfl ?_
  obtain ⟨x1, h2, hf⟩ := Option.bind_eq_some_iff.mp hf
  refine g_calli (pc := 2) (ws2 := fun u => (wM ad ca vM)) (wr := ([] : va_W)) Z [0, 1, 2, 3, 4, 5, 6, 7] [] [0, 1, 2, 3, 4, 5, 6, 7] (g_runV Z (c_Mod_isShut l D ad ca vM x1 h2) (cwV 0 Z.2.2.2.2.1 (gg_V wm57 wm58 wm59 wm11 wm60) rfl rfl rfl (yv_of rfl yd_Mod_isShut) ⟨Nat.le_of_ble_eq_true rfl, Nat.le_of_ble_eq_true rfl⟩) [0, 1, 2, 3, 4, 5, 6, 7] rfl (by decide) 0 rfl rfl rfl rfl rfl (Nat.le_of_ble_eq_true rfl) dX5_setRoot_2 ⟨Nat.le_of_ble_eq_true rfl, Nat.le_of_ble_eq_true rfl⟩) rfl rfl (by decide) (by decide) (by decide) (fun _ => rfl) (fun r u hu => ?_)
  obtain rfl := hu.symm
  refine g_if_eq (pc := 5) (tgt := 12) Z dX5_setRoot_5 (by decide) (fun c3 => ?_) (fun c3 => ?_)
  · replace hf := gIfN (bI_z c3) hf
    refine g_iload_n (pc := 12) Z 1 dX5_setRoot_12 rfl ?_
    refine g_if_eq (pc := 13) (tgt := 28) Z dX5_setRoot_13 (by decide) (fun c4 => ?_) (fun c4 => ?_)
    · replace hf := gIfP c4 hf
      refine g_iconst (pc := 28) (v := 0) Z dX5_setRoot_28 (by decide) ?_
      refine g_put (pc := 29) (T := TX5) (N := 21) (ws' := (wM ad ca (vM.1, vM.2.1, vM.2.2.1, vM.2.2.2.1, vM.2.2.2.2.1, vM.2.2.2.2.2.1, vM.2.2.2.2.2.2.1, vM.2.2.2.2.2.2.2.1, vM.2.2.2.2.2.2.2.2.1, vM.2.2.2.2.2.2.2.2.2.1, vM.2.2.2.2.2.2.2.2.2.2.1, vM.2.2.2.2.2.2.2.2.2.2.2.1, vM.2.2.2.2.2.2.2.2.2.2.2.2.1, vM.2.2.2.2.2.2.2.2.2.2.2.2.2.1, vM.2.2.2.2.2.2.2.2.2.2.2.2.2.2.1, vM.2.2.2.2.2.2.2.2.2.2.2.2.2.2.2.1, vM.2.2.2.2.2.2.2.2.2.2.2.2.2.2.2.2.1, vM.2.2.2.2.2.2.2.2.2.2.2.2.2.2.2.2.2.1, vM.2.2.2.2.2.2.2.2.2.2.2.2.2.2.2.2.2.2.1, vM.2.2.2.2.2.2.2.2.2.2.2.2.2.2.2.2.2.2.2.1, (0 : Int32)))) Z 0 20 dX5_setRoot_29 (mm wm0) inx_X5 tyX5_ok nmX5 rfl (by decide) rfl rfl rfl rfl rfl rfl (Nat.le_of_ble_eq_true rfl) rfl ?_
      refine g_aload_n (pc := 32) Z 0 dX5_setRoot_32 rfl ?_
      refine g_get (pc := 33) (v := .int (0 : Int32)) (T := TX5) (N := 21) Z 0 20 dX5_setRoot_33 (mm wm0) inx_X5 rfl (by decide) rfl rfl rfl ?_
      refine g_if_ne (pc := 36) (tgt := 53) Z dX5_setRoot_36 (by decide) (fun c0 => absurd c0 (by decide)) (fun _ => ?_)
      refine g_aload_n (pc := 39) Z 0 dX5_setRoot_39 rfl ?_
      refine g_iconst (pc := 40) (v := 1) Z dX5_setRoot_40 (by decide) ?_
      refine g_iload_n (pc := 41) Z 1 dX5_setRoot_41 rfl ?_
      refine g_i2l (pc := 42) Z dX5_setRoot_42 ?_
      obtain ⟨x5, h6, hf⟩ := Option.bind_eq_some_iff.mp hf
      refine g_calli (pc := 43) (ws2 := fun u => (wM ad ca u)) (wr := ([] : va_W)) Z [0, 1, 2, 3, 4, 5, 6, 7] [] [0, 1, 2, 3, 4, 5, 6, 7] (g_runV Z (c_Mod_tryOne l D ad ca (vM.1, vM.2.1, vM.2.2.1, vM.2.2.2.1, vM.2.2.2.2.1, vM.2.2.2.2.2.1, vM.2.2.2.2.2.2.1, vM.2.2.2.2.2.2.2.1, vM.2.2.2.2.2.2.2.2.1, vM.2.2.2.2.2.2.2.2.2.1, vM.2.2.2.2.2.2.2.2.2.2.1, vM.2.2.2.2.2.2.2.2.2.2.2.1, vM.2.2.2.2.2.2.2.2.2.2.2.2.1, vM.2.2.2.2.2.2.2.2.2.2.2.2.2.1, vM.2.2.2.2.2.2.2.2.2.2.2.2.2.2.1, vM.2.2.2.2.2.2.2.2.2.2.2.2.2.2.2.1, vM.2.2.2.2.2.2.2.2.2.2.2.2.2.2.2.2.1, vM.2.2.2.2.2.2.2.2.2.2.2.2.2.2.2.2.2.1, vM.2.2.2.2.2.2.2.2.2.2.2.2.2.2.2.2.2.2.1, vM.2.2.2.2.2.2.2.2.2.2.2.2.2.2.2.2.2.2.2.1, (0 : Int32)) (1 : Int32) p1.toInt64 x5 h6) (cwV 2 Z.2.2.2.2.1 (gg_V wm65 wm66 wm67 wm11 wm68) rfl rfl rfl (yv_of rfl yd_Mod_tryOne) ⟨Nat.le_of_ble_eq_true rfl, Nat.le_of_ble_eq_true rfl⟩) [0, 1, 2, 3, 4, 5, 6, 7] rfl (by decide) 0 rfl rfl rfl rfl rfl (Nat.le_of_ble_eq_true rfl) dX5_setRoot_43 ⟨Nat.le_of_ble_eq_true rfl, Nat.le_of_ble_eq_true rfl⟩) rfl rfl (by decide) (by decide) (by decide) (fun _ => rfl) (fun r u hu => ?_)
      obtain ⟨rfl, rfl⟩ := hu
      refine g_if_eq (pc := 46) (tgt := 53) Z dX5_setRoot_46 (by decide) (fun c7 => ?_) (fun c7 => ?_)
      · replace hf := gIfN (bI_z c7) hf
        refine g_iconst (pc := 53) (v := 0) Z dX5_setRoot_53 (by decide) ?_
        obtain rfl := Option.some.inj hf
        exact g_zret Z hr rfl dX5_setRoot_54 x5.2 ⟨rfl, rfl⟩ rfl
      · replace hf := gIfP (bI_nz c7) hf
        refine g_iconst (pc := 49) (v := 1) Z dX5_setRoot_49 (by decide) ?_
        refine g_goto (pc := 50) (tgt := 54) Z dX5_setRoot_50 (by decide) ?_
        obtain rfl := Option.some.inj hf
        exact g_zret Z hr rfl dX5_setRoot_54 x5.2 ⟨rfl, rfl⟩ rfl
    · replace hf := gIfN c4 hf
      refine g_aload_n (pc := 16) Z 0 dX5_setRoot_16 rfl ?_
      refine g_iload_n (pc := 17) Z 1 dX5_setRoot_17 rfl ?_
      obtain ⟨x8, h9, hf⟩ := Option.bind_eq_some_iff.mp hf
      refine g_calli (pc := 18) (ws2 := fun u => (wM ad ca vM)) (wr := ([] : va_W)) Z [0, 1, 2, 3, 4, 5, 6, 7] [] [0, 1, 2, 3, 4, 5, 6, 7] (g_runV Z (c_Mod_usedHead l D ad ca N vM p1 x8 h9) (cwV 1 Z.2.2.2.2.1 (gg_V wm61 wm62 wm63 wm11 wm64) rfl rfl rfl (yv_of rfl yd_Mod_usedHead) ⟨Nat.le_of_ble_eq_true rfl, Nat.le_of_ble_eq_true rfl⟩) [0, 1, 2, 3, 4, 5, 6, 7] rfl (by decide) 0 rfl rfl rfl rfl rfl (Nat.le_of_ble_eq_true rfl) dX5_setRoot_18 ⟨Nat.le_of_ble_eq_true rfl, Nat.le_of_ble_eq_true rfl⟩) rfl rfl (by decide) (by decide) (by decide) (fun _ => rfl) (fun r u hu => ?_)
      obtain rfl := hu.symm
      refine g_if_ge (pc := 21) (tgt := 28) Z dX5_setRoot_21 (by decide) (fun c10 => ?_) (fun c10 => ?_)
      · replace hf := gIfP c10 hf
        refine g_iconst (pc := 28) (v := 0) Z dX5_setRoot_28 (by decide) ?_
        refine g_put (pc := 29) (T := TX5) (N := 21) (ws' := (wM ad ca (vM.1, vM.2.1, vM.2.2.1, vM.2.2.2.1, vM.2.2.2.2.1, vM.2.2.2.2.2.1, vM.2.2.2.2.2.2.1, vM.2.2.2.2.2.2.2.1, vM.2.2.2.2.2.2.2.2.1, vM.2.2.2.2.2.2.2.2.2.1, vM.2.2.2.2.2.2.2.2.2.2.1, vM.2.2.2.2.2.2.2.2.2.2.2.1, vM.2.2.2.2.2.2.2.2.2.2.2.2.1, vM.2.2.2.2.2.2.2.2.2.2.2.2.2.1, vM.2.2.2.2.2.2.2.2.2.2.2.2.2.2.1, vM.2.2.2.2.2.2.2.2.2.2.2.2.2.2.2.1, vM.2.2.2.2.2.2.2.2.2.2.2.2.2.2.2.2.1, vM.2.2.2.2.2.2.2.2.2.2.2.2.2.2.2.2.2.1, vM.2.2.2.2.2.2.2.2.2.2.2.2.2.2.2.2.2.2.1, vM.2.2.2.2.2.2.2.2.2.2.2.2.2.2.2.2.2.2.2.1, (0 : Int32)))) Z 0 20 dX5_setRoot_29 (mm wm0) inx_X5 tyX5_ok nmX5 rfl (by decide) rfl rfl rfl rfl rfl rfl (Nat.le_of_ble_eq_true rfl) rfl ?_
        refine g_aload_n (pc := 32) Z 0 dX5_setRoot_32 rfl ?_
        refine g_get (pc := 33) (v := .int (0 : Int32)) (T := TX5) (N := 21) Z 0 20 dX5_setRoot_33 (mm wm0) inx_X5 rfl (by decide) rfl rfl rfl ?_
        refine g_if_ne (pc := 36) (tgt := 53) Z dX5_setRoot_36 (by decide) (fun c0 => absurd c0 (by decide)) (fun _ => ?_)
        refine g_aload_n (pc := 39) Z 0 dX5_setRoot_39 rfl ?_
        refine g_iconst (pc := 40) (v := 1) Z dX5_setRoot_40 (by decide) ?_
        refine g_iload_n (pc := 41) Z 1 dX5_setRoot_41 rfl ?_
        refine g_i2l (pc := 42) Z dX5_setRoot_42 ?_
        obtain ⟨x11, h12, hf⟩ := Option.bind_eq_some_iff.mp hf
        refine g_calli (pc := 43) (ws2 := fun u => (wM ad ca u)) (wr := ([] : va_W)) Z [0, 1, 2, 3, 4, 5, 6, 7] [] [0, 1, 2, 3, 4, 5, 6, 7] (g_runV Z (c_Mod_tryOne l D ad ca (vM.1, vM.2.1, vM.2.2.1, vM.2.2.2.1, vM.2.2.2.2.1, vM.2.2.2.2.2.1, vM.2.2.2.2.2.2.1, vM.2.2.2.2.2.2.2.1, vM.2.2.2.2.2.2.2.2.1, vM.2.2.2.2.2.2.2.2.2.1, vM.2.2.2.2.2.2.2.2.2.2.1, vM.2.2.2.2.2.2.2.2.2.2.2.1, vM.2.2.2.2.2.2.2.2.2.2.2.2.1, vM.2.2.2.2.2.2.2.2.2.2.2.2.2.1, vM.2.2.2.2.2.2.2.2.2.2.2.2.2.2.1, vM.2.2.2.2.2.2.2.2.2.2.2.2.2.2.2.1, vM.2.2.2.2.2.2.2.2.2.2.2.2.2.2.2.2.1, vM.2.2.2.2.2.2.2.2.2.2.2.2.2.2.2.2.2.1, vM.2.2.2.2.2.2.2.2.2.2.2.2.2.2.2.2.2.2.1, vM.2.2.2.2.2.2.2.2.2.2.2.2.2.2.2.2.2.2.2.1, (0 : Int32)) (1 : Int32) p1.toInt64 x11 h12) (cwV 2 Z.2.2.2.2.1 (gg_V wm65 wm66 wm67 wm11 wm68) rfl rfl rfl (yv_of rfl yd_Mod_tryOne) ⟨Nat.le_of_ble_eq_true rfl, Nat.le_of_ble_eq_true rfl⟩) [0, 1, 2, 3, 4, 5, 6, 7] rfl (by decide) 0 rfl rfl rfl rfl rfl (Nat.le_of_ble_eq_true rfl) dX5_setRoot_43 ⟨Nat.le_of_ble_eq_true rfl, Nat.le_of_ble_eq_true rfl⟩) rfl rfl (by decide) (by decide) (by decide) (fun _ => rfl) (fun r u hu => ?_)
        obtain ⟨rfl, rfl⟩ := hu
        refine g_if_eq (pc := 46) (tgt := 53) Z dX5_setRoot_46 (by decide) (fun c13 => ?_) (fun c13 => ?_)
        · replace hf := gIfN (bI_z c13) hf
          refine g_iconst (pc := 53) (v := 0) Z dX5_setRoot_53 (by decide) ?_
          obtain rfl := Option.some.inj hf
          exact g_zret Z hr rfl dX5_setRoot_54 x11.2 ⟨rfl, rfl⟩ rfl
        · replace hf := gIfP (bI_nz c13) hf
          refine g_iconst (pc := 49) (v := 1) Z dX5_setRoot_49 (by decide) ?_
          refine g_goto (pc := 50) (tgt := 54) Z dX5_setRoot_50 (by decide) ?_
          obtain rfl := Option.some.inj hf
          exact g_zret Z hr rfl dX5_setRoot_54 x11.2 ⟨rfl, rfl⟩ rfl
      · replace hf := gIfN c10 hf
        refine g_iconst (pc := 24) (v := 2) Z dX5_setRoot_24 (by decide) ?_
        refine g_goto (pc := 25) (tgt := 29) Z dX5_setRoot_25 (by decide) ?_
        refine g_put (pc := 29) (T := TX5) (N := 21) (ws' := (wM ad ca (vM.1, vM.2.1, vM.2.2.1, vM.2.2.2.1, vM.2.2.2.2.1, vM.2.2.2.2.2.1, vM.2.2.2.2.2.2.1, vM.2.2.2.2.2.2.2.1, vM.2.2.2.2.2.2.2.2.1, vM.2.2.2.2.2.2.2.2.2.1, vM.2.2.2.2.2.2.2.2.2.2.1, vM.2.2.2.2.2.2.2.2.2.2.2.1, vM.2.2.2.2.2.2.2.2.2.2.2.2.1, vM.2.2.2.2.2.2.2.2.2.2.2.2.2.1, vM.2.2.2.2.2.2.2.2.2.2.2.2.2.2.1, vM.2.2.2.2.2.2.2.2.2.2.2.2.2.2.2.1, vM.2.2.2.2.2.2.2.2.2.2.2.2.2.2.2.2.1, vM.2.2.2.2.2.2.2.2.2.2.2.2.2.2.2.2.2.1, vM.2.2.2.2.2.2.2.2.2.2.2.2.2.2.2.2.2.2.1, vM.2.2.2.2.2.2.2.2.2.2.2.2.2.2.2.2.2.2.2.1, (2 : Int32)))) Z 0 20 dX5_setRoot_29 (mm wm0) inx_X5 tyX5_ok nmX5 rfl (by decide) rfl rfl rfl rfl rfl rfl (Nat.le_of_ble_eq_true rfl) rfl ?_
        refine g_aload_n (pc := 32) Z 0 dX5_setRoot_32 rfl ?_
        refine g_get (pc := 33) (v := .int (2 : Int32)) (T := TX5) (N := 21) Z 0 20 dX5_setRoot_33 (mm wm0) inx_X5 rfl (by decide) rfl rfl rfl ?_
        refine g_if_ne (pc := 36) (tgt := 53) Z dX5_setRoot_36 (by decide) (fun _ => ?_) (fun c0 => absurd c0 (by decide))
        refine g_iconst (pc := 53) (v := 0) Z dX5_setRoot_53 (by decide) ?_
        obtain rfl := Option.some.inj hf
        exact g_zret Z hr rfl dX5_setRoot_54 (vM.1, vM.2.1, vM.2.2.1, vM.2.2.2.1, vM.2.2.2.2.1, vM.2.2.2.2.2.1, vM.2.2.2.2.2.2.1, vM.2.2.2.2.2.2.2.1, vM.2.2.2.2.2.2.2.2.1, vM.2.2.2.2.2.2.2.2.2.1, vM.2.2.2.2.2.2.2.2.2.2.1, vM.2.2.2.2.2.2.2.2.2.2.2.1, vM.2.2.2.2.2.2.2.2.2.2.2.2.1, vM.2.2.2.2.2.2.2.2.2.2.2.2.2.1, vM.2.2.2.2.2.2.2.2.2.2.2.2.2.2.1, vM.2.2.2.2.2.2.2.2.2.2.2.2.2.2.2.1, vM.2.2.2.2.2.2.2.2.2.2.2.2.2.2.2.2.1, vM.2.2.2.2.2.2.2.2.2.2.2.2.2.2.2.2.2.1, vM.2.2.2.2.2.2.2.2.2.2.2.2.2.2.2.2.2.2.1, vM.2.2.2.2.2.2.2.2.2.2.2.2.2.2.2.2.2.2.2.1, (2 : Int32)) ⟨rfl, rfl⟩ rfl
  · replace hf := gIfP (bI_nz c3) hf
    refine g_iconst (pc := 8) (v := 1) Z dX5_setRoot_8 (by decide) ?_
    refine g_goto (pc := 9) (tgt := 29) Z dX5_setRoot_9 (by decide) ?_
    refine g_put (pc := 29) (T := TX5) (N := 21) (ws' := (wM ad ca (vM.1, vM.2.1, vM.2.2.1, vM.2.2.2.1, vM.2.2.2.2.1, vM.2.2.2.2.2.1, vM.2.2.2.2.2.2.1, vM.2.2.2.2.2.2.2.1, vM.2.2.2.2.2.2.2.2.1, vM.2.2.2.2.2.2.2.2.2.1, vM.2.2.2.2.2.2.2.2.2.2.1, vM.2.2.2.2.2.2.2.2.2.2.2.1, vM.2.2.2.2.2.2.2.2.2.2.2.2.1, vM.2.2.2.2.2.2.2.2.2.2.2.2.2.1, vM.2.2.2.2.2.2.2.2.2.2.2.2.2.2.1, vM.2.2.2.2.2.2.2.2.2.2.2.2.2.2.2.1, vM.2.2.2.2.2.2.2.2.2.2.2.2.2.2.2.2.1, vM.2.2.2.2.2.2.2.2.2.2.2.2.2.2.2.2.2.1, vM.2.2.2.2.2.2.2.2.2.2.2.2.2.2.2.2.2.2.1, vM.2.2.2.2.2.2.2.2.2.2.2.2.2.2.2.2.2.2.2.1, (1 : Int32)))) Z 0 20 dX5_setRoot_29 (mm wm0) inx_X5 tyX5_ok nmX5 rfl (by decide) rfl rfl rfl rfl rfl rfl (Nat.le_of_ble_eq_true rfl) rfl ?_
    refine g_aload_n (pc := 32) Z 0 dX5_setRoot_32 rfl ?_
    refine g_get (pc := 33) (v := .int (1 : Int32)) (T := TX5) (N := 21) Z 0 20 dX5_setRoot_33 (mm wm0) inx_X5 rfl (by decide) rfl rfl rfl ?_
    refine g_if_ne (pc := 36) (tgt := 53) Z dX5_setRoot_36 (by decide) (fun _ => ?_) (fun c0 => absurd c0 (by decide))
    refine g_iconst (pc := 53) (v := 0) Z dX5_setRoot_53 (by decide) ?_
    obtain rfl := Option.some.inj hf
    exact g_zret Z hr rfl dX5_setRoot_54 (vM.1, vM.2.1, vM.2.2.1, vM.2.2.2.1, vM.2.2.2.2.1, vM.2.2.2.2.2.1, vM.2.2.2.2.2.2.1, vM.2.2.2.2.2.2.2.1, vM.2.2.2.2.2.2.2.2.1, vM.2.2.2.2.2.2.2.2.2.1, vM.2.2.2.2.2.2.2.2.2.2.1, vM.2.2.2.2.2.2.2.2.2.2.2.1, vM.2.2.2.2.2.2.2.2.2.2.2.2.1, vM.2.2.2.2.2.2.2.2.2.2.2.2.2.1, vM.2.2.2.2.2.2.2.2.2.2.2.2.2.2.1, vM.2.2.2.2.2.2.2.2.2.2.2.2.2.2.2.1, vM.2.2.2.2.2.2.2.2.2.2.2.2.2.2.2.2.1, vM.2.2.2.2.2.2.2.2.2.2.2.2.2.2.2.2.2.1, vM.2.2.2.2.2.2.2.2.2.2.2.2.2.2.2.2.2.2.1, vM.2.2.2.2.2.2.2.2.2.2.2.2.2.2.2.2.2.2.2.1, (1 : Int32)) ⟨rfl, rfl⟩ rfl
