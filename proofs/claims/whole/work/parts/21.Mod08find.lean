theorem wm83 : Jvm.Cond.constantLong RX5 139 (96) ∈ gA := wt4 118 rfl rfl
theorem wm84 : Jvm.Cond.constantLong RX5 141 (176) ∈ gA := wt4 119 rfl rfl
/-! RedoHeapModel.find()I -/
def f_Mod_find_10 (N : Nat) : Nat → MT → Int32 → Int32 → Option (Int32 × MT)
  | 0, _, _, _ => none
  | n + 1, vM, y1, y2 => if y2 = 0 then some (y1 - (16 : Int32), vM) else if (176 : Int32) ≤ y1 then some (y1 - (16 : Int32), vM) else if gI y1 1024 = true then if gI (0 : Int32) 1024 = true then if (lg_cmp ((vM.2.1 y1.toNatClampNeg) - ((4096 : Int64) * (vM.2.1 (0 : Int32).toNatClampNeg))) (1 : Int64)) < 0 then f_Mod_find_10 N n vM y1 (0 : Int32) else if 0 < (lg_cmp ((vM.2.1 y1.toNatClampNeg) - ((4096 : Int64) * (vM.2.1 (0 : Int32).toNatClampNeg))) (96 : Int64)) then f_Mod_find_10 N n vM y1 (0 : Int32) else if 0 < (lg_cmp ((y1.toInt64 + (2 : Int64)) + ((2 : Int64) * ((vM.2.1 y1.toNatClampNeg) - ((4096 : Int64) * (vM.2.1 (0 : Int32).toNatClampNeg))))) (176 : Int64)) then f_Mod_find_10 N n vM y1 (0 : Int32) else if gI ((y1 + (1 : Int32)) + ((2 : Int32) * (((vM.2.1 y1.toNatClampNeg) - ((4096 : Int64) * (vM.2.1 (0 : Int32).toNatClampNeg))).toInt32))) 1024 = true then if 0 ≤ (lg_cmp (vM.2.1 ((y1 + (1 : Int32)) + ((2 : Int32) * (((vM.2.1 y1.toNatClampNeg) - ((4096 : Int64) * (vM.2.1 (0 : Int32).toNatClampNeg))).toInt32))).toNatClampNeg) (0 : Int64)) then f_Mod_find_10 N n vM y1 (0 : Int32) else f_Mod_find_10 N n (vM.1, vM.2.1, vM.2.2.1, vM.2.2.2.1, vM.2.2.2.2.1, vM.2.2.2.2.2.1, vM.2.2.2.2.2.2.1, vM.2.2.2.2.2.2.2.1, vM.2.2.2.2.2.2.2.2.1, vM.2.2.2.2.2.2.2.2.2.1, vM.2.2.2.2.2.2.2.2.2.2.1, vM.2.2.2.2.2.2.2.2.2.2.2.1, vM.2.2.2.2.2.2.2.2.2.2.2.2.1 + (1 : Int32), vM.2.2.2.2.2.2.2.2.2.2.2.2.2.1, vM.2.2.2.2.2.2.2.2.2.2.2.2.2.2.1, vM.2.2.2.2.2.2.2.2.2.2.2.2.2.2.2.1, vM.2.2.2.2.2.2.2.2.2.2.2.2.2.2.2.2.1, vM.2.2.2.2.2.2.2.2.2.2.2.2.2.2.2.2.2.1, vM.2.2.2.2.2.2.2.2.2.2.2.2.2.2.2.2.2.2.1, vM.2.2.2.2.2.2.2.2.2.2.2.2.2.2.2.2.2.2.2.1, vM.2.2.2.2.2.2.2.2.2.2.2.2.2.2.2.2.2.2.2.2) (y1 + ((2 : Int32) + ((2 : Int32) * (((vM.2.1 y1.toNatClampNeg) - ((4096 : Int64) * (vM.2.1 (0 : Int32).toNatClampNeg))).toInt32)))) (1 : Int32) else none else none else none
def f_Mod_find (N : Nat) (vM : MT) : Option (Int32 × MT) :=
  f_Mod_find_10 N N (vM.1, vM.2.1, vM.2.2.1, vM.2.2.2.1, vM.2.2.2.2.1, vM.2.2.2.2.2.1, vM.2.2.2.2.2.2.1, vM.2.2.2.2.2.2.2.1, vM.2.2.2.2.2.2.2.2.1, vM.2.2.2.2.2.2.2.2.2.1, vM.2.2.2.2.2.2.2.2.2.2.1, vM.2.2.2.2.2.2.2.2.2.2.2.1, (0 : Int32), vM.2.2.2.2.2.2.2.2.2.2.2.2.2.1, vM.2.2.2.2.2.2.2.2.2.2.2.2.2.2.1, vM.2.2.2.2.2.2.2.2.2.2.2.2.2.2.2.1, vM.2.2.2.2.2.2.2.2.2.2.2.2.2.2.2.2.1, vM.2.2.2.2.2.2.2.2.2.2.2.2.2.2.2.2.2.1, vM.2.2.2.2.2.2.2.2.2.2.2.2.2.2.2.2.2.2.1, vM.2.2.2.2.2.2.2.2.2.2.2.2.2.2.2.2.2.2.2.1, vM.2.2.2.2.2.2.2.2.2.2.2.2.2.2.2.2.2.2.2.2) (16 : Int32) (1 : Int32)
abbrev cd_Mod_find : Cond := .code yX5_find cX5_find 5 (some .int)
theorem yd_Mod_find : yX5_find.cls ≠ "java/lang/invoke/MethodHandle" ∧ yX5_find.cls ≠ "java/lang/invoke/VarHandle" ∧ (parseMethodDescriptor yX5_find.desc).map (fun d => d.parameters.length) = some 0 := by decide +kernel
abbrev rm_Mod_find : Room := { frames := 0, cells := 0, slots := 0, locals := 0 }
abbrev q_Mod_find (D : va_G) (ad : Nat → Nat) (ca : Nat → ClassId) (res : Int32 × MT) (A : Nat → Prop) : Array Value → State → Outcome → State → Prop := va_Qi (fun (r : Int32) (u : MT) => r = res.1 ∧ u = res.2) (gB D cls (tys ca) A (fun (u : MT) => (wM ad ca u))) A
set_option maxHeartbeats 4000000 in
set_option maxRecDepth 100000 in
theorem w_Mod_find_10 {p : Program} {l : Launch} {e : Env} {s : State} {m : MethodId} {args : Array Value} {below : List Frame} {meth : Method} {c : Code} {D : va_G} {ad : Nat → Nat} {ca : Nat → ClassId} {A : Nat → Prop} {N : Nat} {res : Int32 × MT} (Z : gZ p s m args meth c cX5_find 5 RX5 (cd_Mod_find :: gA) A D cls (tys ca)) (hr : meth.sig.returnType = (some .int)) : ∀ (n : Nat) (vM : MT) (y1 : Int32) (y2 : Int32), f_Mod_find_10 N n vM y1 y2 = some res → gW p l e rm_Mod_find s m args below meth c 5 A D cls 0 0 (MQ below (q_Mod_find D ad ca res A) args s 0 0 A) (wM ad ca vM) [(0, .ref (ad 20)), (1, .int y1), (2, .int y2)] 10 [] := by
  intro n
  induction n with
  | zero =>
    intro vM y1 y2 hf
    exact absurd hf (by rw [f_Mod_find_10]; exact fun h => by cases h)
  | succ n ih =>
    intro vM y1 y2 hf
    rw [f_Mod_find_10] at hf
    refine g_iload_n (pc := 10) Z 2 dX5_find_10 rfl ?_
    refine g_if_eq (pc := 11) (tgt := 122) Z dX5_find_11 (by decide) (fun c1 => ?_) (fun c1 => ?_)
    · replace hf := gIfP c1 hf
      refine g_iload_n (pc := 122) Z 1 dX5_find_122 rfl ?_
      refine g_bipush (pc := 123) (v := 16) Z dX5_find_123 (by decide) ?_
      refine g_isub (pc := 125) Z dX5_find_125 ?_
      obtain rfl := Option.some.inj hf
      exact g_iret Z hr dX5_find_126 vM ⟨rfl, rfl⟩ rfl
    · replace hf := gIfN c1 hf
      refine g_iload_n (pc := 14) Z 1 dX5_find_14 rfl ?_
      refine g_sipush (pc := 15) (v := 176) Z dX5_find_15 (by decide) ?_
      refine g_icmp_ge (pc := 18) (tgt := 122) Z dX5_find_18 (by decide) (fun c2 => ?_) (fun c2 => ?_)
      · replace hf := gIfP c2 hf
        refine g_iload_n (pc := 122) Z 1 dX5_find_122 rfl ?_
        refine g_bipush (pc := 123) (v := 16) Z dX5_find_123 (by decide) ?_
        refine g_isub (pc := 125) Z dX5_find_125 ?_
        obtain rfl := Option.some.inj hf
        exact g_iret Z hr dX5_find_126 vM ⟨rfl, rfl⟩ rfl
      · replace hf := gIfN c2 hf
        refine g_aload_n (pc := 21) Z 0 dX5_find_21 rfl ?_
        refine g_get (pc := 22) (v := .ref (ad 22)) (T := TX5) (N := 21) Z 0 1 dX5_find_22 (mm wm21) inx_X5 rfl (by decide) rfl rfl rfl ?_
        refine g_iload_n (pc := 25) Z 1 dX5_find_25 rfl ?_
        obtain ⟨b3, hf⟩ := gGuard hf
        refine g_lald (pc := 26) (f := vM.2.1) Z 2 0 dX5_find_26 rfl rfl (gI_in b3) ?_
        refine g_ldc2 (pc := 27) (v := 4096) Z dX5_find_27 (mm wm77) ?_
        refine g_aload_n (pc := 30) Z 0 dX5_find_30 rfl ?_
        refine g_get (pc := 31) (v := .ref (ad 22)) (T := TX5) (N := 21) Z 0 1 dX5_find_31 (mm wm21) inx_X5 rfl (by decide) rfl rfl rfl ?_
        refine g_iconst (pc := 34) (v := 0) Z dX5_find_34 (by decide) ?_
        obtain ⟨b4, hf⟩ := gGuard hf
        refine g_lald (pc := 35) (f := vM.2.1) Z 2 0 dX5_find_35 rfl rfl (gI_in b4) ?_
        refine g_lmul (pc := 36) Z dX5_find_36 ?_
        refine g_lsub (pc := 37) Z dX5_find_37 ?_
        refine g_lstore_n (pc := 38) (lv' := [(3, .long ((vM.2.1 y1.toNatClampNeg) - ((4096 : Int64) * (vM.2.1 (0 : Int32).toNatClampNeg)))), (0, .ref (ad 20)), (1, .int y1), (2, .int y2)]) Z dX5_find_38 (by decide) rfl ?_
        refine g_lload_n (pc := 39) Z 0 dX5_find_39 rfl ?_
        refine g_lconst (pc := 40) (v := 1) Z dX5_find_40 (by decide) ?_
        refine g_lcmp (pc := 41) Z dX5_find_41 ?_
        refine g_if_lt (pc := 42) (tgt := 94) Z dX5_find_42 (by decide) (fun c5 => ?_) (fun c5 => ?_)
        · replace hf := gIfP c5 hf
          refine g_iconst (pc := 94) (v := 0) Z dX5_find_94 (by decide) ?_
          refine g_istore_n (pc := 95) (lv' := [(2, .int (0 : Int32)), (3, .long ((vM.2.1 y1.toNatClampNeg) - ((4096 : Int64) * (vM.2.1 (0 : Int32).toNatClampNeg)))), (0, .ref (ad 20)), (1, .int y1)]) Z dX5_find_95 (by decide) rfl ?_
          refine g_iload_n (pc := 96) Z 0 dX5_find_96 rfl ?_
          refine g_if_eq (pc := 97) (tgt := 119) Z dX5_find_97 (by decide) (fun _ => ?_) (fun c0 => absurd c0 (by decide))
          refine g_goto (pc := 119) (tgt := 10) Z dX5_find_119 (by decide) ?_
          refine g_locals (lv2 := [(0, .ref (ad 20)), (1, .int y1), (2, .int (0 : Int32))]) [2, 3, 0] rfl ?_
          exact ih _ _ _ hf
        · replace hf := gIfN c5 hf
          refine g_lload_n (pc := 45) Z 0 dX5_find_45 rfl ?_
          refine g_ldc2 (pc := 46) (v := 96) Z dX5_find_46 (mm wm83) ?_
          refine g_lcmp (pc := 49) Z dX5_find_49 ?_
          refine g_if_gt (pc := 50) (tgt := 94) Z dX5_find_50 (by decide) (fun c6 => ?_) (fun c6 => ?_)
          · replace hf := gIfP c6 hf
            refine g_iconst (pc := 94) (v := 0) Z dX5_find_94 (by decide) ?_
            refine g_istore_n (pc := 95) (lv' := [(2, .int (0 : Int32)), (3, .long ((vM.2.1 y1.toNatClampNeg) - ((4096 : Int64) * (vM.2.1 (0 : Int32).toNatClampNeg)))), (0, .ref (ad 20)), (1, .int y1)]) Z dX5_find_95 (by decide) rfl ?_
            refine g_iload_n (pc := 96) Z 0 dX5_find_96 rfl ?_
            refine g_if_eq (pc := 97) (tgt := 119) Z dX5_find_97 (by decide) (fun _ => ?_) (fun c0 => absurd c0 (by decide))
            refine g_goto (pc := 119) (tgt := 10) Z dX5_find_119 (by decide) ?_
            refine g_locals (lv2 := [(0, .ref (ad 20)), (1, .int y1), (2, .int (0 : Int32))]) [2, 3, 0] rfl ?_
            exact ih _ _ _ hf
          · replace hf := gIfN c6 hf
            refine g_iload_n (pc := 53) Z 2 dX5_find_53 rfl ?_
            refine g_i2l (pc := 54) Z dX5_find_54 ?_
            refine g_ldc2 (pc := 55) (v := 2) Z dX5_find_55 (mm wm35) ?_
            refine g_ladd (pc := 58) Z dX5_find_58 ?_
            refine g_ldc2 (pc := 59) (v := 2) Z dX5_find_59 (mm wm35) ?_
            refine g_lload_n (pc := 62) Z 0 dX5_find_62 rfl ?_
            refine g_lmul (pc := 63) Z dX5_find_63 ?_
            refine g_ladd (pc := 64) Z dX5_find_64 ?_
            refine g_ldc2 (pc := 65) (v := 176) Z dX5_find_65 (mm wm84) ?_
            refine g_lcmp (pc := 68) Z dX5_find_68 ?_
            refine g_if_gt (pc := 69) (tgt := 94) Z dX5_find_69 (by decide) (fun c7 => ?_) (fun c7 => ?_)
            · replace hf := gIfP c7 hf
              refine g_iconst (pc := 94) (v := 0) Z dX5_find_94 (by decide) ?_
              refine g_istore_n (pc := 95) (lv' := [(2, .int (0 : Int32)), (3, .long ((vM.2.1 y1.toNatClampNeg) - ((4096 : Int64) * (vM.2.1 (0 : Int32).toNatClampNeg)))), (0, .ref (ad 20)), (1, .int y1)]) Z dX5_find_95 (by decide) rfl ?_
              refine g_iload_n (pc := 96) Z 0 dX5_find_96 rfl ?_
              refine g_if_eq (pc := 97) (tgt := 119) Z dX5_find_97 (by decide) (fun _ => ?_) (fun c0 => absurd c0 (by decide))
              refine g_goto (pc := 119) (tgt := 10) Z dX5_find_119 (by decide) ?_
              refine g_locals (lv2 := [(0, .ref (ad 20)), (1, .int y1), (2, .int (0 : Int32))]) [2, 3, 0] rfl ?_
              exact ih _ _ _ hf
            · replace hf := gIfN c7 hf
              refine g_aload_n (pc := 72) Z 1 dX5_find_72 rfl ?_
              refine g_get (pc := 73) (v := .ref (ad 22)) (T := TX5) (N := 21) Z 0 1 dX5_find_73 (mm wm21) inx_X5 rfl (by decide) rfl rfl rfl ?_
              refine g_iload_n (pc := 76) Z 2 dX5_find_76 rfl ?_
              refine g_iconst (pc := 77) (v := 1) Z dX5_find_77 (by decide) ?_
              refine g_iadd (pc := 78) Z dX5_find_78 ?_
              refine g_iconst (pc := 79) (v := 2) Z dX5_find_79 (by decide) ?_
              refine g_lload_n (pc := 80) Z 0 dX5_find_80 rfl ?_
              refine g_l2i (pc := 81) Z dX5_find_81 ?_
              refine g_imul (pc := 82) Z dX5_find_82 ?_
              refine g_iadd (pc := 83) Z dX5_find_83 ?_
              obtain ⟨b8, hf⟩ := gGuard hf
              refine g_lald (pc := 84) (f := vM.2.1) Z 2 0 dX5_find_84 rfl rfl (gI_in b8) ?_
              refine g_lconst (pc := 85) (v := 0) Z dX5_find_85 (by decide) ?_
              refine g_lcmp (pc := 86) Z dX5_find_86 ?_
              refine g_if_ge (pc := 87) (tgt := 94) Z dX5_find_87 (by decide) (fun c9 => ?_) (fun c9 => ?_)
              · replace hf := gIfP c9 hf
                refine g_iconst (pc := 94) (v := 0) Z dX5_find_94 (by decide) ?_
                refine g_istore_n (pc := 95) (lv' := [(2, .int (0 : Int32)), (3, .long ((vM.2.1 y1.toNatClampNeg) - ((4096 : Int64) * (vM.2.1 (0 : Int32).toNatClampNeg)))), (0, .ref (ad 20)), (1, .int y1)]) Z dX5_find_95 (by decide) rfl ?_
                refine g_iload_n (pc := 96) Z 0 dX5_find_96 rfl ?_
                refine g_if_eq (pc := 97) (tgt := 119) Z dX5_find_97 (by decide) (fun _ => ?_) (fun c0 => absurd c0 (by decide))
                refine g_goto (pc := 119) (tgt := 10) Z dX5_find_119 (by decide) ?_
                refine g_locals (lv2 := [(0, .ref (ad 20)), (1, .int y1), (2, .int (0 : Int32))]) [2, 3, 0] rfl ?_
                exact ih _ _ _ hf
              · replace hf := gIfN c9 hf
                refine g_iconst (pc := 90) (v := 1) Z dX5_find_90 (by decide) ?_
                refine g_goto (pc := 91) (tgt := 95) Z dX5_find_91 (by decide) ?_
                refine g_istore_n (pc := 95) (lv' := [(2, .int (1 : Int32)), (3, .long ((vM.2.1 y1.toNatClampNeg) - ((4096 : Int64) * (vM.2.1 (0 : Int32).toNatClampNeg)))), (0, .ref (ad 20)), (1, .int y1)]) Z dX5_find_95 (by decide) rfl ?_
                refine g_iload_n (pc := 96) Z 0 dX5_find_96 rfl ?_
                refine g_if_eq (pc := 97) (tgt := 119) Z dX5_find_97 (by decide) (fun c0 => absurd c0 (by decide)) (fun _ => ?_)
                refine g_aload_n (pc := 100) Z 2 dX5_find_100 rfl ?_
                refine g_dup (pc := 101) Z dX5_find_101 rfl ?_
                refine g_get (pc := 102) (v := .int vM.2.2.2.2.2.2.2.2.2.2.2.2.1) (T := TX5) (N := 21) Z 0 12 dX5_find_102 (mm wm76) inx_X5 rfl (by decide) rfl rfl rfl ?_
                refine g_iconst (pc := 105) (v := 1) Z dX5_find_105 (by decide) ?_
                refine g_iadd (pc := 106) Z dX5_find_106 ?_
                refine g_put (pc := 107) (T := TX5) (N := 21) (ws' := (wM ad ca (vM.1, vM.2.1, vM.2.2.1, vM.2.2.2.1, vM.2.2.2.2.1, vM.2.2.2.2.2.1, vM.2.2.2.2.2.2.1, vM.2.2.2.2.2.2.2.1, vM.2.2.2.2.2.2.2.2.1, vM.2.2.2.2.2.2.2.2.2.1, vM.2.2.2.2.2.2.2.2.2.2.1, vM.2.2.2.2.2.2.2.2.2.2.2.1, vM.2.2.2.2.2.2.2.2.2.2.2.2.1 + (1 : Int32), vM.2.2.2.2.2.2.2.2.2.2.2.2.2.1, vM.2.2.2.2.2.2.2.2.2.2.2.2.2.2.1, vM.2.2.2.2.2.2.2.2.2.2.2.2.2.2.2.1, vM.2.2.2.2.2.2.2.2.2.2.2.2.2.2.2.2.1, vM.2.2.2.2.2.2.2.2.2.2.2.2.2.2.2.2.2.1, vM.2.2.2.2.2.2.2.2.2.2.2.2.2.2.2.2.2.2.1, vM.2.2.2.2.2.2.2.2.2.2.2.2.2.2.2.2.2.2.2.1, vM.2.2.2.2.2.2.2.2.2.2.2.2.2.2.2.2.2.2.2.2))) Z 0 12 dX5_find_107 (mm wm76) inx_X5 tyX5_ok nmX5 rfl (by decide) rfl rfl rfl rfl rfl rfl (Nat.le_of_ble_eq_true rfl) rfl ?_
                refine g_iload_n (pc := 110) Z 3 dX5_find_110 rfl ?_
                refine g_iconst (pc := 111) (v := 2) Z dX5_find_111 (by decide) ?_
                refine g_iconst (pc := 112) (v := 2) Z dX5_find_112 (by decide) ?_
                refine g_lload_n (pc := 113) Z 1 dX5_find_113 rfl ?_
                refine g_l2i (pc := 114) Z dX5_find_114 ?_
                refine g_imul (pc := 115) Z dX5_find_115 ?_
                refine g_iadd (pc := 116) Z dX5_find_116 ?_
                refine g_iadd (pc := 117) Z dX5_find_117 ?_
                refine g_istore_n (pc := 118) (lv' := [(1, .int (y1 + ((2 : Int32) + ((2 : Int32) * (((vM.2.1 y1.toNatClampNeg) - ((4096 : Int64) * (vM.2.1 (0 : Int32).toNatClampNeg))).toInt32))))), (2, .int (1 : Int32)), (3, .long ((vM.2.1 y1.toNatClampNeg) - ((4096 : Int64) * (vM.2.1 (0 : Int32).toNatClampNeg)))), (0, .ref (ad 20))]) Z dX5_find_118 (by decide) rfl ?_
                refine g_goto (pc := 119) (tgt := 10) Z dX5_find_119 (by decide) ?_
                refine g_locals (lv2 := [(0, .ref (ad 20)), (1, .int (y1 + ((2 : Int32) + ((2 : Int32) * (((vM.2.1 y1.toNatClampNeg) - ((4096 : Int64) * (vM.2.1 (0 : Int32).toNatClampNeg))).toInt32))))), (2, .int (1 : Int32))]) [3, 0, 1] rfl ?_
                exact ih _ _ _ hf
set_option maxHeartbeats 4000000 in
set_option maxRecDepth 100000 in
theorem c_Mod_find (l : Launch) (D : va_G) (ad : Nat → Nat) (ca : Nat → ClassId) (N : Nat) (vM : MT) (res : Int32 × MT) (hf : f_Mod_find N vM = some res) (sz : Nat) : Met l yX5_find (cd_Mod_find :: gA) rm_Mod_find (va_Pc [.ref (ad 20)] (gP D cls (tys ca) (wM ad ca vM) sz)) (q_Mod_find D ad ca res (va_A (wM ad ca vM) sz)) 0 0 (va_A (wM ad ca vM) sz) := by
  refine g_met (cc := cX5_find) (Qc := q_Mod_find D ad ca res) (lv := [(0, .ref (ad 20))]) (own := RX5) (by decide) rfl rfl (Nat.le_of_ble_eq_true rfl) rfl sz ?_
  intro p e s m args below meth c A Z hr hnm
  unfold f_Mod_find at hf
  refine g_bipush (pc := 0) (v := 16) Z dX5_find_0 (by decide) ?_
  refine g_istore_n (pc := 2) (lv' := [(1, .int (16 : Int32)), (0, .ref (ad 20))]) Z dX5_find_2 (by decide) rfl ?_
  refine g_aload_n (pc := 3) Z 1 dX5_find_3 rfl ?_
  refine g_iconst (pc := 4) (v := 0) Z dX5_find_4 (by decide) ?_
  refine g_put (pc := 5) (T := TX5) (N := 21) (ws' := (wM ad ca (vM.1, vM.2.1, vM.2.2.1, vM.2.2.2.1, vM.2.2.2.2.1, vM.2.2.2.2.2.1, vM.2.2.2.2.2.2.1, vM.2.2.2.2.2.2.2.1, vM.2.2.2.2.2.2.2.2.1, vM.2.2.2.2.2.2.2.2.2.1, vM.2.2.2.2.2.2.2.2.2.2.1, vM.2.2.2.2.2.2.2.2.2.2.2.1, (0 : Int32), vM.2.2.2.2.2.2.2.2.2.2.2.2.2.1, vM.2.2.2.2.2.2.2.2.2.2.2.2.2.2.1, vM.2.2.2.2.2.2.2.2.2.2.2.2.2.2.2.1, vM.2.2.2.2.2.2.2.2.2.2.2.2.2.2.2.2.1, vM.2.2.2.2.2.2.2.2.2.2.2.2.2.2.2.2.2.1, vM.2.2.2.2.2.2.2.2.2.2.2.2.2.2.2.2.2.2.1, vM.2.2.2.2.2.2.2.2.2.2.2.2.2.2.2.2.2.2.2.1, vM.2.2.2.2.2.2.2.2.2.2.2.2.2.2.2.2.2.2.2.2))) Z 0 12 dX5_find_5 (mm wm76) inx_X5 tyX5_ok nmX5 rfl (by decide) rfl rfl rfl rfl rfl rfl (Nat.le_of_ble_eq_true rfl) rfl ?_
  refine g_iconst (pc := 8) (v := 1) Z dX5_find_8 (by decide) ?_
  refine g_istore_n (pc := 9) (lv' := [(2, .int (1 : Int32)), (1, .int (16 : Int32)), (0, .ref (ad 20))]) Z dX5_find_9 (by decide) rfl ?_
  refine g_locals (lv2 := [(0, .ref (ad 20)), (1, .int (16 : Int32)), (2, .int (1 : Int32))]) [2, 1, 0] rfl ?_
  exact w_Mod_find_10 Z hr N _ _ _ hf
