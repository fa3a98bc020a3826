/-! RedoHeapModel.set(IIJ)Z -/
def f_Mod_set (N : Nat) (vM : MT) (p1 : Int32) (p2 : Int32) (p3 : Int64) : Option (Bool × MT) :=
  (f_Mod_isShut vM).bind fun x1 => if x1 = true then (f_Mod_isShut vM).bind fun x17 => if x17 = true then some (false, (vM.1, vM.2.1, vM.2.2.1, vM.2.2.2.1, vM.2.2.2.2.1, vM.2.2.2.2.2.1, vM.2.2.2.2.2.2.1, vM.2.2.2.2.2.2.2.1, vM.2.2.2.2.2.2.2.2.1, vM.2.2.2.2.2.2.2.2.2.1, vM.2.2.2.2.2.2.2.2.2.2.1, vM.2.2.2.2.2.2.2.2.2.2.2.1, vM.2.2.2.2.2.2.2.2.2.2.2.2.1, vM.2.2.2.2.2.2.2.2.2.2.2.2.2.1, vM.2.2.2.2.2.2.2.2.2.2.2.2.2.2.1, vM.2.2.2.2.2.2.2.2.2.2.2.2.2.2.2.1, vM.2.2.2.2.2.2.2.2.2.2.2.2.2.2.2.2.1, vM.2.2.2.2.2.2.2.2.2.2.2.2.2.2.2.2.2.1, vM.2.2.2.2.2.2.2.2.2.2.2.2.2.2.2.2.2.2.1, vM.2.2.2.2.2.2.2.2.2.2.2.2.2.2.2.2.2.2.2.1, (1 : Int32))) else some (false, (vM.1, vM.2.1, vM.2.2.1, vM.2.2.2.1, vM.2.2.2.2.1, vM.2.2.2.2.2.1, vM.2.2.2.2.2.2.1, vM.2.2.2.2.2.2.2.1, vM.2.2.2.2.2.2.2.2.1, vM.2.2.2.2.2.2.2.2.2.1, vM.2.2.2.2.2.2.2.2.2.2.1, vM.2.2.2.2.2.2.2.2.2.2.2.1, vM.2.2.2.2.2.2.2.2.2.2.2.2.1, vM.2.2.2.2.2.2.2.2.2.2.2.2.2.1, vM.2.2.2.2.2.2.2.2.2.2.2.2.2.2.1, vM.2.2.2.2.2.2.2.2.2.2.2.2.2.2.2.1, vM.2.2.2.2.2.2.2.2.2.2.2.2.2.2.2.2.1, vM.2.2.2.2.2.2.2.2.2.2.2.2.2.2.2.2.2.1, vM.2.2.2.2.2.2.2.2.2.2.2.2.2.2.2.2.2.2.1, vM.2.2.2.2.2.2.2.2.2.2.2.2.2.2.2.2.2.2.2.1, (2 : Int32))) else (f_Mod_usedHead N vM p1).bind fun x4 => (f_Mod_isShut vM).bind fun x6 => if x6 = true then some (false, (vM.1, vM.2.1, vM.2.2.1, vM.2.2.2.1, vM.2.2.2.2.1, vM.2.2.2.2.2.1, vM.2.2.2.2.2.2.1, vM.2.2.2.2.2.2.2.1, vM.2.2.2.2.2.2.2.2.1, vM.2.2.2.2.2.2.2.2.2.1, vM.2.2.2.2.2.2.2.2.2.2.1, vM.2.2.2.2.2.2.2.2.2.2.2.1, vM.2.2.2.2.2.2.2.2.2.2.2.2.1, vM.2.2.2.2.2.2.2.2.2.2.2.2.2.1, vM.2.2.2.2.2.2.2.2.2.2.2.2.2.2.1, vM.2.2.2.2.2.2.2.2.2.2.2.2.2.2.2.1, vM.2.2.2.2.2.2.2.2.2.2.2.2.2.2.2.2.1, vM.2.2.2.2.2.2.2.2.2.2.2.2.2.2.2.2.2.1, vM.2.2.2.2.2.2.2.2.2.2.2.2.2.2.2.2.2.2.1, vM.2.2.2.2.2.2.2.2.2.2.2.2.2.2.2.2.2.2.2.1, (1 : Int32))) else if x4 < 0 then some (false, (vM.1, vM.2.1, vM.2.2.1, vM.2.2.2.1, vM.2.2.2.2.1, vM.2.2.2.2.2.1, vM.2.2.2.2.2.2.1, vM.2.2.2.2.2.2.2.1, vM.2.2.2.2.2.2.2.2.1, vM.2.2.2.2.2.2.2.2.2.1, vM.2.2.2.2.2.2.2.2.2.2.1, vM.2.2.2.2.2.2.2.2.2.2.2.1, vM.2.2.2.2.2.2.2.2.2.2.2.2.1, vM.2.2.2.2.2.2.2.2.2.2.2.2.2.1, vM.2.2.2.2.2.2.2.2.2.2.2.2.2.2.1, vM.2.2.2.2.2.2.2.2.2.2.2.2.2.2.2.1, vM.2.2.2.2.2.2.2.2.2.2.2.2.2.2.2.2.1, vM.2.2.2.2.2.2.2.2.2.2.2.2.2.2.2.2.2.1, vM.2.2.2.2.2.2.2.2.2.2.2.2.2.2.2.2.2.2.1, vM.2.2.2.2.2.2.2.2.2.2.2.2.2.2.2.2.2.2.2.1, (2 : Int32))) else if p2 < 0 then some (false, (vM.1, vM.2.1, vM.2.2.1, vM.2.2.2.1, vM.2.2.2.2.1, vM.2.2.2.2.2.1, vM.2.2.2.2.2.2.1, vM.2.2.2.2.2.2.2.1, vM.2.2.2.2.2.2.2.2.1, vM.2.2.2.2.2.2.2.2.2.1, vM.2.2.2.2.2.2.2.2.2.2.1, vM.2.2.2.2.2.2.2.2.2.2.2.1, vM.2.2.2.2.2.2.2.2.2.2.2.2.1, vM.2.2.2.2.2.2.2.2.2.2.2.2.2.1, vM.2.2.2.2.2.2.2.2.2.2.2.2.2.2.1, vM.2.2.2.2.2.2.2.2.2.2.2.2.2.2.2.1, vM.2.2.2.2.2.2.2.2.2.2.2.2.2.2.2.2.1, vM.2.2.2.2.2.2.2.2.2.2.2.2.2.2.2.2.2.1, vM.2.2.2.2.2.2.2.2.2.2.2.2.2.2.2.2.2.2.1, vM.2.2.2.2.2.2.2.2.2.2.2.2.2.2.2.2.2.2.2.1, (2 : Int32))) else (f_Mod_sizeAt vM x4).bind fun x11 => if p2 < x11 then (f_Mod_tryOne (vM.1, vM.2.1, vM.2.2.1, vM.2.2.2.1, vM.2.2.2.2.1, vM.2.2.2.2.2.1, vM.2.2.2.2.2.2.1, vM.2.2.2.2.2.2.2.1, vM.2.2.2.2.2.2.2.2.1, vM.2.2.2.2.2.2.2.2.2.1, vM.2.2.2.2.2.2.2.2.2.2.1, vM.2.2.2.2.2.2.2.2.2.2.2.1, vM.2.2.2.2.2.2.2.2.2.2.2.2.1, vM.2.2.2.2.2.2.2.2.2.2.2.2.2.1, vM.2.2.2.2.2.2.2.2.2.2.2.2.2.2.1, vM.2.2.2.2.2.2.2.2.2.2.2.2.2.2.2.1, vM.2.2.2.2.2.2.2.2.2.2.2.2.2.2.2.2.1, vM.2.2.2.2.2.2.2.2.2.2.2.2.2.2.2.2.2.1, vM.2.2.2.2.2.2.2.2.2.2.2.2.2.2.2.2.2.2.1, vM.2.2.2.2.2.2.2.2.2.2.2.2.2.2.2.2.2.2.2.1, (0 : Int32)) (p1 + p2) p3).bind fun x14 => if x14.1 = true then some (true, x14.2) else some (false, x14.2) else some (false, (vM.1, vM.2.1, vM.2.2.1, vM.2.2.2.1, vM.2.2.2.2.1, vM.2.2.2.2.2.1, vM.2.2.2.2.2.2.1, vM.2.2.2.2.2.2.2.1, vM.2.2.2.2.2.2.2.2.1, vM.2.2.2.2.2.2.2.2.2.1, vM.2.2.2.2.2.2.2.2.2.2.1, vM.2.2.2.2.2.2.2.2.2.2.2.1, vM.2.2.2.2.2.2.2.2.2.2.2.2.1, vM.2.2.2.2.2.2.2.2.2.2.2.2.2.1, vM.2.2.2.2.2.2.2.2.2.2.2.2.2.2.1, vM.2.2.2.2.2.2.2.2.2.2.2.2.2.2.2.1, vM.2.2.2.2.2.2.2.2.2.2.2.2.2.2.2.2.1, vM.2.2.2.2.2.2.2.2.2.2.2.2.2.2.2.2.2.1, vM.2.2.2.2.2.2.2.2.2.2.2.2.2.2.2.2.2.2.1, vM.2.2.2.2.2.2.2.2.2.2.2.2.2.2.2.2.2.2.2.1, (2 : Int32)))
abbrev cd_Mod_set : Cond := .code yX5_set cX5_set 6 (some .boolean)
theorem yd_Mod_set : yX5_set.cls ≠ "java/lang/invoke/MethodHandle" ∧ yX5_set.cls ≠ "java/lang/invoke/VarHandle" ∧ (parseMethodDescriptor yX5_set.desc).map (fun d => d.parameters.length) = some 3 := by decide +kernel
abbrev rm_Mod_set : Room := { frames := 3, cells := 0, slots := 0, locals := 64 }
abbrev q_Mod_set (D : va_G) (ad : Nat → Nat) (ca : Nat → ClassId) (res : Bool × MT) (A : Nat → Prop) : Array Value → State → Outcome → State → Prop := va_Qi (fun (r : Int32) (u : MT) => r = bI res.1 ∧ u = res.2) (gB D cls (tys ca) A (fun (u : MT) => (wM ad ca u))) A
set_option maxHeartbeats 4000000 in
set_option maxRecDepth 100000 in
theorem c_Mod_set (l : Launch) (D : va_G) (ad : Nat → Nat) (ca : Nat → ClassId) (N : Nat) (vM : MT) (p1 : Int32) (p2 : Int32) (p3 : Int64) (res : Bool × MT) (hf : f_Mod_set N vM p1 p2 p3 = some res) (sz : Nat) : Met l yX5_set (cd_Mod_set :: gA) rm_Mod_set (va_Pc [.ref (ad 20), .int p1, .int p2, .long p3] (gP D cls (tys ca) (wM ad ca vM) sz)) (q_Mod_set D ad ca res (va_A (wM ad ca vM) sz)) 0 0 (va_A (wM ad ca vM) sz) := by
  refine g_met (cc := cX5_set) (Qc := q_Mod_set D ad ca res) (lv := [(0, .ref (ad 20)), (1, .int p1), (2, .int p2), (3, .long p3)]) (own := RX5) (by decide) rfl rfl (Nat.le_of_ble_eq_true rfl) rfl sz ?_
  intro p e s m args below meth c A Z hr hnm
  unfold f_Mod_set at hf
  refine g_aload_n (pc := 0) Z 0 dX5_set_0 rfl ?_
  obtain ⟨x1, h2, hf⟩ := Option.bind_eq_some_iff.mp hf
  refine g_calli (pc := 1) (ws2 := fun u => (wM ad ca vM)) (wr := ([] : va_W)) Z [0, 1, 2, 3, 4, 5, 6, 7] [] [0, 1, 2, 3, 4, 5, 6, 7] (g_runV Z (c_Mod_isShut l D ad ca vM x1 h2) (cwV 0 Z.2.2.2.2.1 (gg_V wm57 wm58 wm59 wm11 wm60) rfl rfl rfl (yv_of rfl yd_Mod_isShut) ⟨Nat.le_of_ble_eq_true rfl, Nat.le_of_ble_eq_true rfl⟩) [0, 1, 2, 3, 4, 5, 6, 7] rfl (by decide) 0 rfl rfl rfl rfl rfl (Nat.le_of_ble_eq_true rfl) dX5_set_1 ⟨Nat.le_of_ble_eq_true rfl, Nat.le_of_ble_eq_true rfl⟩) rfl rfl (by decide) (by decide) (by decide) (fun _ => rfl) (fun r u hu => ?_)
  obtain rfl := hu.symm
  refine g_if_eq (pc := 4) (tgt := 11) Z dX5_set_4 (by decide) (fun c3 => ?_) (fun c3 => ?_)
  · replace hf := gIfN (bI_z c3) hf
    refine g_aload_n (pc := 11) Z 0 dX5_set_11 rfl ?_
    refine g_iload_n (pc := 12) Z 1 dX5_set_12 rfl ?_
    obtain ⟨x4, h5, hf⟩ := Option.bind_eq_some_iff.mp hf
    refine g_calli (pc := 13) (ws2 := fun u => (wM ad ca vM)) (wr := ([] : va_W)) Z [0, 1, 2, 3, 4, 5, 6, 7] [] [0, 1, 2, 3, 4, 5, 6, 7] (g_runV Z (c_Mod_usedHead l D ad ca N vM p1 x4 h5) (cwV 1 Z.2.2.2.2.1 (gg_V wm61 wm62 wm63 wm11 wm64) rfl rfl rfl (yv_of rfl yd_Mod_usedHead) ⟨Nat.le_of_ble_eq_true rfl, Nat.le_of_ble_eq_true rfl⟩) [0, 1, 2, 3, 4, 5, 6, 7] rfl (by decide) 0 rfl rfl rfl rfl rfl (Nat.le_of_ble_eq_true rfl) dX5_set_13 ⟨Nat.le_of_ble_eq_true rfl, Nat.le_of_ble_eq_true rfl⟩) rfl rfl (by decide) (by decide) (by decide) (fun _ => rfl) (fun r u hu => ?_)
    obtain rfl := hu.symm
    refine g_istore (pc := 16) (lv' := [(5, .int x4), (0, .ref (ad 20)), (1, .int p1), (2, .int p2), (3, .long p3)]) Z dX5_set_16 (by decide) rfl ?_
    refine g_aload_n (pc := 18) Z 1 dX5_set_18 rfl ?_
    refine g_aload_n (pc := 19) Z 1 dX5_set_19 rfl ?_
    obtain ⟨x6, h7, hf⟩ := Option.bind_eq_some_iff.mp hf
    refine g_calli (pc := 20) (ws2 := fun u => (wM ad ca vM)) (wr := ([] : va_W)) Z [0, 1, 2, 3, 4, 5, 6, 7] [] [0, 1, 2, 3, 4, 5, 6, 7] (g_runV Z (c_Mod_isShut l D ad ca vM x6 h7) (cwV 0 Z.2.2.2.2.1 (gg_V wm57 wm58 wm59 wm11 wm60) rfl rfl rfl (yv_of rfl yd_Mod_isShut) ⟨Nat.le_of_ble_eq_true rfl, Nat.le_of_ble_eq_true rfl⟩) [0, 1, 2, 3, 4, 5, 6, 7] rfl (by decide) 0 rfl rfl rfl rfl rfl (Nat.le_of_ble_eq_true rfl) dX5_set_20 ⟨Nat.le_of_ble_eq_true rfl, Nat.le_of_ble_eq_true rfl⟩) rfl rfl (by decide) (by decide) (by decide) (fun _ => rfl) (fun r u hu => ?_)
    obtain rfl := hu.symm
    refine g_if_eq (pc := 23) (tgt := 30) Z dX5_set_23 (by decide) (fun c8 => ?_) (fun c8 => ?_)
    · replace hf := gIfN (bI_z c8) hf
      refine g_iload (pc := 30) Z 0 dX5_set_30 rfl ?_
      refine g_if_lt (pc := 32) (tgt := 49) Z dX5_set_32 (by decide) (fun c9 => ?_) (fun c9 => ?_)
      · replace hf := gIfP c9 hf
        refine g_iconst (pc := 49) (v := 2) Z dX5_set_49 (by decide) ?_
        refine g_goto (pc := 50) (tgt := 54) Z dX5_set_50 (by decide) ?_
        refine g_put (pc := 54) (T := TX5) (N := 21) (ws' := (wM ad ca (vM.1, vM.2.1, vM.2.2.1, vM.2.2.2.1, vM.2.2.2.2.1, vM.2.2.2.2.2.1, vM.2.2.2.2.2.2.1, vM.2.2.2.2.2.2.2.1, vM.2.2.2.2.2.2.2.2.1, vM.2.2.2.2.2.2.2.2.2.1, vM.2.2.2.2.2.2.2.2.2.2.1, vM.2.2.2.2.2.2.2.2.2.2.2.1, vM.2.2.2.2.2.2.2.2.2.2.2.2.1, vM.2.2.2.2.2.2.2.2.2.2.2.2.2.1, vM.2.2.2.2.2.2.2.2.2.2.2.2.2.2.1, vM.2.2.2.2.2.2.2.2.2.2.2.2.2.2.2.1, vM.2.2.2.2.2.2.2.2.2.2.2.2.2.2.2.2.1, vM.2.2.2.2.2.2.2.2.2.2.2.2.2.2.2.2.2.1, vM.2.2.2.2.2.2.2.2.2.2.2.2.2.2.2.2.2.2.1, vM.2.2.2.2.2.2.2.2.2.2.2.2.2.2.2.2.2.2.2.1, (2 : Int32)))) Z 0 20 dX5_set_54 (mm wm0) inx_X5 tyX5_ok nmX5 rfl (by decide) rfl rfl rfl rfl rfl rfl (Nat.le_of_ble_eq_true rfl) rfl ?_
        refine g_aload_n (pc := 57) Z 1 dX5_set_57 rfl ?_
        refine g_get (pc := 58) (v := .int (2 : Int32)) (T := TX5) (N := 21) Z 0 20 dX5_set_58 (mm wm0) inx_X5 rfl (by decide) rfl rfl rfl ?_
        refine g_if_ne (pc := 61) (tgt := 79) Z dX5_set_61 (by decide) (fun _ => ?_) (fun c0 => absurd c0 (by decide))
        refine g_iconst (pc := 79) (v := 0) Z dX5_set_79 (by decide) ?_
        obtain rfl := Option.some.inj hf
        exact g_zret Z hr rfl dX5_set_80 (vM.1, vM.2.1, vM.2.2.1, vM.2.2.2.1, vM.2.2.2.2.1, vM.2.2.2.2.2.1, vM.2.2.2.2.2.2.1, vM.2.2.2.2.2.2.2.1, vM.2.2.2.2.2.2.2.2.1, vM.2.2.2.2.2.2.2.2.2.1, vM.2.2.2.2.2.2.2.2.2.2.1, vM.2.2.2.2.2.2.2.2.2.2.2.1, vM.2.2.2.2.2.2.2.2.2.2.2.2.1, vM.2.2.2.2.2.2.2.2.2.2.2.2.2.1, vM.2.2.2.2.2.2.2.2.2.2.2.2.2.2.1, vM.2.2.2.2.2.2.2.2.2.2.2.2.2.2.2.1, vM.2.2.2.2.2.2.2.2.2.2.2.2.2.2.2.2.1, vM.2.2.2.2.2.2.2.2.2.2.2.2.2.2.2.2.2.1, vM.2.2.2.2.2.2.2.2.2.2.2.2.2.2.2.2.2.2.1, vM.2.2.2.2.2.2.2.2.2.2.2.2.2.2.2.2.2.2.2.1, (2 : Int32)) ⟨rfl, rfl⟩ rfl
      · replace hf := gIfN c9 hf
        refine g_iload_n (pc := 35) Z 3 dX5_set_35 rfl ?_
        refine g_if_lt (pc := 36) (tgt := 49) Z dX5_set_36 (by decide) (fun c10 => ?_) (fun c10 => ?_)
        · replace hf := gIfP c10 hf
          refine g_iconst (pc := 49) (v := 2) Z dX5_set_49 (by decide) ?_
          refine g_goto (pc := 50) (tgt := 54) Z dX5_set_50 (by decide) ?_
          refine g_put (pc := 54) (T := TX5) (N := 21) (ws' := (wM ad ca (vM.1, vM.2.1, vM.2.2.1, vM.2.2.2.1, vM.2.2.2.2.1, vM.2.2.2.2.2.1, vM.2.2.2.2.2.2.1, vM.2.2.2.2.2.2.2.1, vM.2.2.2.2.2.2.2.2.1, vM.2.2.2.2.2.2.2.2.2.1, vM.2.2.2.2.2.2.2.2.2.2.1, vM.2.2.2.2.2.2.2.2.2.2.2.1, vM.2.2.2.2.2.2.2.2.2.2.2.2.1, vM.2.2.2.2.2.2.2.2.2.2.2.2.2.1, vM.2.2.2.2.2.2.2.2.2.2.2.2.2.2.1, vM.2.2.2.2.2.2.2.2.2.2.2.2.2.2.2.1, vM.2.2.2.2.2.2.2.2.2.2.2.2.2.2.2.2.1, vM.2.2.2.2.2.2.2.2.2.2.2.2.2.2.2.2.2.1, vM.2.2.2.2.2.2.2.2.2.2.2.2.2.2.2.2.2.2.1, vM.2.2.2.2.2.2.2.2.2.2.2.2.2.2.2.2.2.2.2.1, (2 : Int32)))) Z 0 20 dX5_set_54 (mm wm0) inx_X5 tyX5_ok nmX5 rfl (by decide) rfl rfl rfl rfl rfl rfl (Nat.le_of_ble_eq_true rfl) rfl ?_
          refine g_aload_n (pc := 57) Z 1 dX5_set_57 rfl ?_
          refine g_get (pc := 58) (v := .int (2 : Int32)) (T := TX5) (N := 21) Z 0 20 dX5_set_58 (mm wm0) inx_X5 rfl (by decide) rfl rfl rfl ?_
          refine g_if_ne (pc := 61) (tgt := 79) Z dX5_set_61 (by decide) (fun _ => ?_) (fun c0 => absurd c0 (by decide))
          refine g_iconst (pc := 79) (v := 0) Z dX5_set_79 (by decide) ?_
          obtain rfl := Option.some.inj hf
          exact g_zret Z hr rfl dX5_set_80 (vM.1, vM.2.1, vM.2.2.1, vM.2.2.2.1, vM.2.2.2.2.1, vM.2.2.2.2.2.1, vM.2.2.2.2.2.2.1, vM.2.2.2.2.2.2.2.1, vM.2.2.2.2.2.2.2.2.1, vM.2.2.2.2.2.2.2.2.2.1, vM.2.2.2.2.2.2.2.2.2.2.1, vM.2.2.2.2.2.2.2.2.2.2.2.1, vM.2.2.2.2.2.2.2.2.2.2.2.2.1, vM.2.2.2.2.2.2.2.2.2.2.2.2.2.1, vM.2.2.2.2.2.2.2.2.2.2.2.2.2.2.1, vM.2.2.2.2.2.2.2.2.2.2.2.2.2.2.2.1, vM.2.2.2.2.2.2.2.2.2.2.2.2.2.2.2.2.1, vM.2.2.2.2.2.2.2.2.2.2.2.2.2.2.2.2.2.1, vM.2.2.2.2.2.2.2.2.2.2.2.2.2.2.2.2.2.2.1, vM.2.2.2.2.2.2.2.2.2.2.2.2.2.2.2.2.2.2.2.1, (2 : Int32)) ⟨rfl, rfl⟩ rfl
        · replace hf := gIfN c10 hf
          refine g_iload_n (pc := 39) Z 3 dX5_set_39 rfl ?_
          refine g_aload_n (pc := 40) Z 1 dX5_set_40 rfl ?_
          refine g_iload (pc := 41) Z 0 dX5_set_41 rfl ?_
          obtain ⟨x11, h12, hf⟩ := Option.bind_eq_some_iff.mp hf
          refine g_calli (pc := 43) (ws2 := fun u => (wM ad ca vM)) (wr := ([] : va_W)) Z [0, 1, 2, 3, 4, 5, 6, 7] [] [0, 1, 2, 3, 4, 5, 6, 7] (g_runV Z (c_Mod_sizeAt l D ad ca vM x4 x11 h12) (cwV 1 Z.2.2.2.2.1 (gg_V wm40 wm41 wm42 wm11 wm43) rfl rfl rfl (yv_of rfl yd_Mod_sizeAt) ⟨Nat.le_of_ble_eq_true rfl, Nat.le_of_ble_eq_true rfl⟩) [0, 1, 2, 3, 4, 5, 6, 7] rfl (by decide) 0 rfl rfl rfl rfl rfl (Nat.le_of_ble_eq_true rfl) dX5_set_43 ⟨Nat.le_of_ble_eq_true rfl, Nat.le_of_ble_eq_true rfl⟩) rfl rfl (by decide) (by decide) (by decide) (fun _ => rfl) (fun r u hu => ?_)
          obtain rfl := hu.symm
          refine g_icmp_lt (pc := 46) (tgt := 53) Z dX5_set_46 (by decide) (fun c13 => ?_) (fun c13 => ?_)
          · replace hf := gIfP c13 hf
            refine g_iconst (pc := 53) (v := 0) Z dX5_set_53 (by decide) ?_
            refine g_put (pc := 54) (T := TX5) (N := 21) (ws' := (wM ad ca (vM.1, vM.2.1, vM.2.2.1, vM.2.2.2.1, vM.2.2.2.2.1, vM.2.2.2.2.2.1, vM.2.2.2.2.2.2.1, vM.2.2.2.2.2.2.2.1, vM.2.2.2.2.2.2.2.2.1, vM.2.2.2.2.2.2.2.2.2.1, vM.2.2.2.2.2.2.2.2.2.2.1, vM.2.2.2.2.2.2.2.2.2.2.2.1, vM.2.2.2.2.2.2.2.2.2.2.2.2.1, vM.2.2.2.2.2.2.2.2.2.2.2.2.2.1, vM.2.2.2.2.2.2.2.2.2.2.2.2.2.2.1, vM.2.2.2.2.2.2.2.2.2.2.2.2.2.2.2.1, vM.2.2.2.2.2.2.2.2.2.2.2.2.2.2.2.2.1, vM.2.2.2.2.2.2.2.2.2.2.2.2.2.2.2.2.2.1, vM.2.2.2.2.2.2.2.2.2.2.2.2.2.2.2.2.2.2.1, vM.2.2.2.2.2.2.2.2.2.2.2.2.2.2.2.2.2.2.2.1, (0 : Int32)))) Z 0 20 dX5_set_54 (mm wm0) inx_X5 tyX5_ok nmX5 rfl (by decide) rfl rfl rfl rfl rfl rfl (Nat.le_of_ble_eq_true rfl) rfl ?_
            refine g_aload_n (pc := 57) Z 1 dX5_set_57 rfl ?_
            refine g_get (pc := 58) (v := .int (0 : Int32)) (T := TX5) (N := 21) Z 0 20 dX5_set_58 (mm wm0) inx_X5 rfl (by decide) rfl rfl rfl ?_
            refine g_if_ne (pc := 61) (tgt := 79) Z dX5_set_61 (by decide) (fun c0 => absurd c0 (by decide)) (fun _ => ?_)
            refine g_aload_n (pc := 64) Z 1 dX5_set_64 rfl ?_
            refine g_iload_n (pc := 65) Z 2 dX5_set_65 rfl ?_
            refine g_iload_n (pc := 66) Z 3 dX5_set_66 rfl ?_
            refine g_iadd (pc := 67) Z dX5_set_67 ?_
            refine g_lload_n (pc := 68) Z 4 dX5_set_68 rfl ?_
            obtain ⟨x14, h15, hf⟩ := Option.bind_eq_some_iff.mp hf
            refine g_calli (pc := 69) (ws2 := fun u => (wM ad ca u)) (wr := ([] : va_W)) Z [0, 1, 2, 3, 4, 5, 6, 7] [] [0, 1, 2, 3, 4, 5, 6, 7] (g_runV Z (c_Mod_tryOne l D ad ca (vM.1, vM.2.1, vM.2.2.1, vM.2.2.2.1, vM.2.2.2.2.1, vM.2.2.2.2.2.1, vM.2.2.2.2.2.2.1, vM.2.2.2.2.2.2.2.1, vM.2.2.2.2.2.2.2.2.1, vM.2.2.2.2.2.2.2.2.2.1, vM.2.2.2.2.2.2.2.2.2.2.1, vM.2.2.2.2.2.2.2.2.2.2.2.1, vM.2.2.2.2.2.2.2.2.2.2.2.2.1, vM.2.2.2.2.2.2.2.2.2.2.2.2.2.1, vM.2.2.2.2.2.2.2.2.2.2.2.2.2.2.1, vM.2.2.2.2.2.2.2.2.2.2.2.2.2.2.2.1, vM.2.2.2.2.2.2.2.2.2.2.2.2.2.2.2.2.1, vM.2.2.2.2.2.2.2.2.2.2.2.2.2.2.2.2.2.1, vM.2.2.2.2.2.2.2.2.2.2.2.2.2.2.2.2.2.2.1, vM.2.2.2.2.2.2.2.2.2.2.2.2.2.2.2.2.2.2.2.1, (0 : Int32)) (p1 + p2) p3 x14 h15) (cwV 2 Z.2.2.2.2.1 (gg_V wm65 wm66 wm67 wm11 wm68) rfl rfl rfl (yv_of rfl yd_Mod_tryOne) ⟨Nat.le_of_ble_eq_true rfl, Nat.le_of_ble_eq_true rfl⟩) [0, 1, 2, 3, 4, 5, 6, 7] rfl (by decide) 0 rfl rfl rfl rfl rfl (Nat.le_of_ble_eq_true rfl) dX5_set_69 ⟨Nat.le_of_ble_eq_true rfl, Nat.le_of_ble_eq_true rfl⟩) rfl rfl (by decide) (by decide) (by decide) (fun _ => rfl) (fun r u hu => ?_)
            obtain ⟨rfl, rfl⟩ := hu
            refine g_if_eq (pc := 72) (tgt := 79) Z dX5_set_72 (by decide) (fun c16 => ?_) (fun c16 => ?_)
            · replace hf := gIfN (bI_z c16) hf
              refine g_iconst (pc := 79) (v := 0) Z dX5_set_79 (by decide) ?_
              obtain rfl := Option.some.inj hf
              exact g_zret Z hr rfl dX5_set_80 x14.2 ⟨rfl, rfl⟩ rfl
            · replace hf := gIfP (bI_nz c16) hf
              refine g_iconst (pc := 75) (v := 1) Z dX5_set_75 (by decide) ?_
              refine g_goto (pc := 76) (tgt := 80) Z dX5_set_76 (by decide) ?_
              obtain rfl := Option.some.inj hf
              exact g_zret Z hr rfl dX5_set_80 x14.2 ⟨rfl, rfl⟩ rfl
          · replace hf := gIfN c13 hf
            refine g_iconst (pc := 49) (v := 2) Z dX5_set_49 (by decide) ?_
            refine g_goto (pc := 50) (tgt := 54) Z dX5_set_50 (by decide) ?_
            refine g_put (pc := 54) (T := TX5) (N := 21) (ws' := (wM ad ca (vM.1, vM.2.1, vM.2.2.1, vM.2.2.2.1, vM.2.2.2.2.1, vM.2.2.2.2.2.1, vM.2.2.2.2.2.2.1, vM.2.2.2.2.2.2.2.1, vM.2.2.2.2.2.2.2.2.1, vM.2.2.2.2.2.2.2.2.2.1, vM.2.2.2.2.2.2.2.2.2.2.1, vM.2.2.2.2.2.2.2.2.2.2.2.1, vM.2.2.2.2.2.2.2.2.2.2.2.2.1, vM.2.2.2.2.2.2.2.2.2.2.2.2.2.1, vM.2.2.2.2.2.2.2.2.2.2.2.2.2.2.1, vM.2.2.2.2.2.2.2.2.2.2.2.2.2.2.2.1, vM.2.2.2.2.2.2.2.2.2.2.2.2.2.2.2.2.1, vM.2.2.2.2.2.2.2.2.2.2.2.2.2.2.2.2.2.1, vM.2.2.2.2.2.2.2.2.2.2.2.2.2.2.2.2.2.2.1, vM.2.2.2.2.2.2.2.2.2.2.2.2.2.2.2.2.2.2.2.1, (2 : Int32)))) Z 0 20 dX5_set_54 (mm wm0) inx_X5 tyX5_ok nmX5 rfl (by decide) rfl rfl rfl rfl rfl rfl (Nat.le_of_ble_eq_true rfl) rfl ?_
            refine g_aload_n (pc := 57) Z 1 dX5_set_57 rfl ?_
            refine g_get (pc := 58) (v := .int (2 : Int32)) (T := TX5) (N := 21) Z 0 20 dX5_set_58 (mm wm0) inx_X5 rfl (by decide) rfl rfl rfl ?_
            refine g_if_ne (pc := 61) (tgt := 79) Z dX5_set_61 (by decide) (fun _ => ?_) (fun c0 => absurd c0 (by decide))
            refine g_iconst (pc := 79) (v := 0) Z dX5_set_79 (by decide) ?_
            obtain rfl := Option.some.inj hf
            exact g_zret Z hr rfl dX5_set_80 (vM.1, vM.2.1, vM.2.2.1, vM.2.2.2.1, vM.2.2.2.2.1, vM.2.2.2.2.2.1, vM.2.2.2.2.2.2.1, vM.2.2.2.2.2.2.2.1, vM.2.2.2.2.2.2.2.2.1, vM.2.2.2.2.2.2.2.2.2.1, vM.2.2.2.2.2.2.2.2.2.2.1, vM.2.2.2.2.2.2.2.2.2.2.2.1, vM.2.2.2.2.2.2.2.2.2.2.2.2.1, vM.2.2.2.2.2.2.2.2.2.2.2.2.2.1, vM.2.2.2.2.2.2.2.2.2.2.2.2.2.2.1, vM.2.2.2.2.2.2.2.2.2.2.2.2.2.2.2.1, vM.2.2.2.2.2.2.2.2.2.2.2.2.2.2.2.2.1, vM.2.2.2.2.2.2.2.2.2.2.2.2.2.2.2.2.2.1, vM.2.2.2.2.2.2.2.2.2.2.2.2.2.2.2.2.2.2.1, vM.2.2.2.2.2.2.2.2.2.2.2.2.2.2.2.2.2.2.2.1, (2 : Int32)) ⟨rfl, rfl⟩ rfl
    · replace hf := gIfP (bI_nz c8) hf
      refine g_iconst (pc := 26) (v := 1) Z dX5_set_26 (by decide) ?_
      refine g_goto (pc := 27) (tgt := 54) Z dX5_set_27 (by decide) ?_
      refine g_put (pc := 54) (T := TX5) (N := 21) (ws' := (wM ad ca (vM.1, vM.2.1, vM.2.2.1, vM.2.2.2.1, vM.2.2.2.2.1, vM.2.2.2.2.2.1, vM.2.2.2.2.2.2.1, vM.2.2.2.2.2.2.2.1, vM.2.2.2.2.2.2.2.2.1, vM.2.2.2.2.2.2.2.2.2.1, vM.2.2.2.2.2.2.2.2.2.2.1, vM.2.2.2.2.2.2.2.2.2.2.2.1, vM.2.2.2.2.2.2.2.2.2.2.2.2.1, vM.2.2.2.2.2.2.2.2.2.2.2.2.2.1, vM.2.2.2.2.2.2.2.2.2.2.2.2.2.2.1, vM.2.2.2.2.2.2.2.2.2.2.2.2.2.2.2.1, vM.2.2.2.2.2.2.2.2.2.2.2.2.2.2.2.2.1, vM.2.2.2.2.2.2.2.2.2.2.2.2.2.2.2.2.2.1, vM.2.2.2.2.2.2.2.2.2.2.2.2.2.2.2.2.2.2.1, vM.2.2.2.2.2.2.2.2.2.2.2.2.2.2.2.2.2.2.2.1, (1 : Int32)))) Z 0 20 dX5_set_54 (mm wm0) inx_X5 tyX5_ok nmX5 rfl (by decide) rfl rfl rfl rfl rfl rfl (Nat.le_of_ble_eq_true rfl) rfl ?_
      refine g_aload_n (pc := 57) Z 1 dX5_set_57 rfl ?_
      refine g_get (pc := 58) (v := .int (1 : Int32)) (T := TX5) (N := 21) Z 0 20 dX5_set_58 (mm wm0) inx_X5 rfl (by decide) rfl rfl rfl ?_
      refine g_if_ne (pc := 61) (tgt := 79) Z dX5_set_61 (by decide) (fun _ => ?_) (fun c0 => absurd c0 (by decide))
      refine g_iconst (pc := 79) (v := 0) Z dX5_set_79 (by decide) ?_
      obtain rfl := Option.some.inj hf
      exact g_zret Z hr rfl dX5_set_80 (vM.1, vM.2.1, vM.2.2.1, vM.2.2.2.1, vM.2.2.2.2.1, vM.2.2.2.2.2.1, vM.2.2.2.2.2.2.1, vM.2.2.2.2.2.2.2.1, vM.2.2.2.2.2.2.2.2.1, vM.2.2.2.2.2.2.2.2.2.1, vM.2.2.2.2.2.2.2.2.2.2.1, vM.2.2.2.2.2.2.2.2.2.2.2.1, vM.2.2.2.2.2.2.2.2.2.2.2.2.1, vM.2.2.2.2.2.2.2.2.2.2.2.2.2.1, vM.2.2.2.2.2.2.2.2.2.2.2.2.2.2.1, vM.2.2.2.2.2.2.2.2.2.2.2.2.2.2.2.1, vM.2.2.2.2.2.2.2.2.2.2.2.2.2.2.2.2.1, vM.2.2.2.2.2.2.2.2.2.2.2.2.2.2.2.2.2.1, vM.2.2.2.2.2.2.2.2.2.2.2.2.2.2.2.2.2.2.1, vM.2.2.2.2.2.2.2.2.2.2.2.2.2.2.2.2.2.2.2.1, (1 : Int32)) ⟨rfl, rfl⟩ rfl
  · replace hf := gIfP (bI_nz c3) hf
    refine g_iconst (pc := 7) (v := -1) Z dX5_set_7 (by decide) ?_
    refine g_goto (pc := 8) (tgt := 16) Z dX5_set_8 (by decide) ?_
    refine g_istore (pc := 16) (lv' := [(5, .int (-1 : Int32)), (0, .ref (ad 20)), (1, .int p1), (2, .int p2), (3, .long p3)]) Z dX5_set_16 (by decide) rfl ?_
    refine g_aload_n (pc := 18) Z 1 dX5_set_18 rfl ?_
    refine g_aload_n (pc := 19) Z 1 dX5_set_19 rfl ?_
    obtain ⟨x17, h18, hf⟩ := Option.bind_eq_some_iff.mp hf
    refine g_calli (pc := 20) (ws2 := fun u => (wM ad ca vM)) (wr := ([] : va_W)) Z [0, 1, 2, 3, 4, 5, 6, 7] [] [0, 1, 2, 3, 4, 5, 6, 7] (g_runV Z (c_Mod_isShut l D ad ca vM x17 h18) (cwV 0 Z.2.2.2.2.1 (gg_V wm57 wm58 wm59 wm11 wm60) rfl rfl rfl (yv_of rfl yd_Mod_isShut) ⟨Nat.le_of_ble_eq_true rfl, Nat.le_of_ble_eq_true rfl⟩) [0, 1, 2, 3, 4, 5, 6, 7] rfl (by decide) 0 rfl rfl rfl rfl rfl (Nat.le_of_ble_eq_true rfl) dX5_set_20 ⟨Nat.le_of_ble_eq_true rfl, Nat.le_of_ble_eq_true rfl⟩) rfl rfl (by decide) (by decide) (by decide) (fun _ => rfl) (fun r u hu => ?_)
    obtain rfl := hu.symm
    refine g_if_eq (pc := 23) (tgt := 30) Z dX5_set_23 (by decide) (fun c19 => ?_) (fun c19 => ?_)
    · replace hf := gIfN (bI_z c19) hf
      refine g_iload (pc := 30) Z 0 dX5_set_30 rfl ?_
      refine g_if_lt (pc := 32) (tgt := 49) Z dX5_set_32 (by decide) (fun _ => ?_) (fun c0 => absurd c0 (by decide))
      refine g_iconst (pc := 49) (v := 2) Z dX5_set_49 (by decide) ?_
      refine g_goto (pc := 50) (tgt := 54) Z dX5_set_50 (by decide) ?_
      refine g_put (pc := 54) (T := TX5) (N := 21) (ws' := (wM ad ca (vM.1, vM.2.1, vM.2.2.1, vM.2.2.2.1, vM.2.2.2.2.1, vM.2.2.2.2.2.1, vM.2.2.2.2.2.2.1, vM.2.2.2.2.2.2.2.1, vM.2.2.2.2.2.2.2.2.1, vM.2.2.2.2.2.2.2.2.2.1, vM.2.2.2.2.2.2.2.2.2.2.1, vM.2.2.2.2.2.2.2.2.2.2.2.1, vM.2.2.2.2.2.2.2.2.2.2.2.2.1, vM.2.2.2.2.2.2.2.2.2.2.2.2.2.1, vM.2.2.2.2.2.2.2.2.2.2.2.2.2.2.1, vM.2.2.2.2.2.2.2.2.2.2.2.2.2.2.2.1, vM.2.2.2.2.2.2.2.2.2.2.2.2.2.2.2.2.1, vM.2.2.2.2.2.2.2.2.2.2.2.2.2.2.2.2.2.1, vM.2.2.2.2.2.2.2.2.2.2.2.2.2.2.2.2.2.2.1, vM.2.2.2.2.2.2.2.2.2.2.2.2.2.2.2.2.2.2.2.1, (2 : Int32)))) Z 0 20 dX5_set_54 (mm wm0) inx_X5 tyX5_ok nmX5 rfl (by decide) rfl rfl rfl rfl rfl rfl (Nat.le_of_ble_eq_true rfl) rfl ?_
      refine g_aload_n (pc := 57) Z 1 dX5_set_57 rfl ?_
      refine g_get (pc := 58) (v := .int (2 : Int32)) (T := TX5) (N := 21) Z 0 20 dX5_set_58 (mm wm0) inx_X5 rfl (by decide) rfl rfl rfl ?_
      refine g_if_ne (pc := 61) (tgt := 79) Z dX5_set_61 (by decide) (fun _ => ?_) (fun c0 => absurd c0 (by decide))
      refine g_iconst (pc := 79) (v := 0) Z dX5_set_79 (by decide) ?_
      obtain rfl := Option.some.inj hf
      exact g_zret Z hr rfl dX5_set_80 (vM.1, vM.2.1, vM.2.2.1, vM.2.2.2.1, vM.2.2.2.2.1, vM.2.2.2.2.2.1, vM.2.2.2.2.2.2.1, vM.2.2.2.2.2.2.2.1, vM.2.2.2.2.2.2.2.2.1, vM.2.2.2.2.2.2.2.2.2.1, vM.2.2.2.2.2.2.2.2.2.2.1, vM.2.2.2.2.2.2.2.2.2.2.2.1, vM.2.2.2.2.2.2.2.2.2.2.2.2.1, vM.2.2.2.2.2.2.2.2.2.2.2.2.2.1, vM.2.2.2.2.2.2.2.2.2.2.2.2.2.2.1, vM.2.2.2.2.2.2.2.2.2.2.2.2.2.2.2.1, vM.2.2.2.2.2.2.2.2.2.2.2.2.2.2.2.2.1, vM.2.2.2.2.2.2.2.2.2.2.2.2.2.2.2.2.2.1, vM.2.2.2.2.2.2.2.2.2.2.2.2.2.2.2.2.2.2.1, vM.2.2.2.2.2.2.2.2.2.2.2.2.2.2.2.2.2.2.2.1, (2 : Int32)) ⟨rfl, rfl⟩ rfl
    · replace hf := gIfP (bI_nz c19) hf
      refine g_iconst (pc := 26) (v := 1) Z dX5_set_26 (by decide) ?_
      refine g_goto (pc := 27) (tgt := 54) Z dX5_set_27 (by decide) ?_
      refine g_put (pc := 54) (T := TX5) (N := 21) (ws' := (wM ad ca (vM.1, vM.2.1, vM.2.2.1, vM.2.2.2.1, vM.2.2.2.2.1, vM.2.2.2.2.2.1, vM.2.2.2.2.2.2.1, vM.2.2.2.2.2.2.2.1, vM.2.2.2.2.2.2.2.2.1, vM.2.2.2.2.2.2.2.2.2.1, vM.2.2.2.2.2.2.2.2.2.2.1, vM.2.2.2.2.2.2.2.2.2.2.2.1, vM.2.2.2.2.2.2.2.2.2.2.2.2.1, vM.2.2.2.2.2.2.2.2.2.2.2.2.2.1, vM.2.2.2.2.2.2.2.2.2.2.2.2.2.2.1, vM.2.2.2.2.2.2.2.2.2.2.2.2.2.2.2.1, vM.2.2.2.2.2.2.2.2.2.2.2.2.2.2.2.2.1, vM.2.2.2.2.2.2.2.2.2.2.2.2.2.2.2.2.2.1, vM.2.2.2.2.2.2.2.2.2.2.2.2.2.2.2.2.2.2.1, vM.2.2.2.2.2.2.2.2.2.2.2.2.2.2.2.2.2.2.2.1, (1 : Int32)))) Z 0 20 dX5_set_54 (mm wm0) inx_X5 tyX5_ok nmX5 rfl (by decide) rfl rfl rfl rfl rfl rfl (Nat.le_of_ble_eq_true rfl) rfl ?_
      refine g_aload_n (pc := 57) Z 1 dX5_set_57 rfl ?_
      refine g_get (pc := 58) (v := .int (1 : Int32)) (T := TX5) (N := 21) Z 0 20 dX5_set_58 (mm wm0) inx_X5 rfl (by decide) rfl rfl rfl ?_
      refine g_if_ne (pc := 61) (tgt := 79) Z dX5_set_61 (by decide) (fun _ => ?_) (fun c0 => absurd c0 (by decide))
      refine g_iconst (pc := 79) (v := 0) Z dX5_set_79 (by decide) ?_
      obtain rfl := Option.some.inj hf
      exact g_zret Z hr rfl dX5_set_80 (vM.1, vM.2.1, vM.2.2.1, vM.2.2.2.1, vM.2.2.2.2.1, vM.2.2.2.2.2.1, vM.2.2.2.2.2.2.1, vM.2.2.2.2.2.2.2.1, vM.2.2.2.2.2.2.2.2.1, vM.2.2.2.2.2.2.2.2.2.1, vM.2.2.2.2.2.2.2.2.2.2.1, vM.2.2.2.2.2.2.2.2.2.2.2.1, vM.2.2.2.2.2.2.2.2.2.2.2.2.1, vM.2.2.2.2.2.2.2.2.2.2.2.2.2.1, vM.2.2.2.2.2.2.2.2.2.2.2.2.2.2.1, vM.2.2.2.2.2.2.2.2.2.2.2.2.2.2.2.1, vM.2.2.2.2.2.2.2.2.2.2.2.2.2.2.2.2.1, vM.2.2.2.2.2.2.2.2.2.2.2.2.2.2.2.2.2.1, vM.2.2.2.2.2.2.2.2.2.2.2.2.2.2.2.2.2.2.1, vM.2.2.2.2.2.2.2.2.2.2.2.2.2.2.2.2.2.2.2.1, (1 : Int32)) ⟨rfl, rfl⟩ rfl
