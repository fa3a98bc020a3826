/-! RedoHeapModel.take(I)I -/
def f_Mod_take_45 (N : Nat) : Nat → MT → Int32 → Int32 → Option (Int32 × MT)
  | 0, _, _, _ => none
  | n + 1, vM, y1, y2 => if (1024 : Int32) ≤ y2 then if y2 < (1024 : Int32) then (f_Mod_sizeAt vM y2).bind fun x3 => if x3 < (y1 + (2 : Int32)) then (f_Mod_isMore vM y2 (((2 : Int64) * x3.toInt64) + (1 : Int64))).bind fun x6 => if x6 = true then if (vM.2.2.2.2.2.2.2.2.1 + ((0 : Int32) + (1 : Int32))) ≤ (96 : Int32) then (f_Mod_become vM y2 (((2 : Int64) * x3.toInt64) + (1 : Int64))).bind fun x13 => some (y2 + (1 : Int32), x13) else some ((-1 : Int32), vM) else if (vM.2.2.2.2.2.2.2.2.1 + ((0 : Int32) + (0 : Int32))) ≤ (96 : Int32) then (f_Mod_become vM y2 (((2 : Int64) * x3.toInt64) + (1 : Int64))).bind fun x10 => some (y2 + (1 : Int32), x10) else some ((-1 : Int32), vM) else (f_Mod_isMore vM ((y2 + (1 : Int32)) + y1) ((2 : Int64) * (((x3 - y1) - (1 : Int32)).toInt64))).bind fun x15 => if x15 = true then (f_Mod_isMore vM y2 (((2 : Int64) * y1.toInt64) + (1 : Int64))).bind fun x31 => if x31 = true then if (vM.2.2.2.2.2.2.2.2.1 + ((1 : Int32) + (1 : Int32))) ≤ (96 : Int32) then (f_Mod_become vM ((y2 + (1 : Int32)) + y1) ((2 : Int64) * (((x3 - y1) - (1 : Int32)).toInt64))).bind fun x40 => (f_Mod_become x40 y2 (((2 : Int64) * y1.toInt64) + (1 : Int64))).bind fun x42 => some (y2 + (1 : Int32), x42) else some ((-1 : Int32), vM) else if (vM.2.2.2.2.2.2.2.2.1 + ((1 : Int32) + (0 : Int32))) ≤ (96 : Int32) then (f_Mod_become vM ((y2 + (1 : Int32)) + y1) ((2 : Int64) * (((x3 - y1) - (1 : Int32)).toInt64))).bind fun x35 => (f_Mod_become x35 y2 (((2 : Int64) * y1.toInt64) + (1 : Int64))).bind fun x37 => some (y2 + (1 : Int32), x37) else some ((-1 : Int32), vM) else (f_Mod_isMore vM y2 (((2 : Int64) * y1.toInt64) + (1 : Int64))).bind fun x18 => if x18 = true then if (vM.2.2.2.2.2.2.2.2.1 + ((0 : Int32) + (1 : Int32))) ≤ (96 : Int32) then (f_Mod_become vM ((y2 + (1 : Int32)) + y1) ((2 : Int64) * (((x3 - y1) - (1 : Int32)).toInt64))).bind fun x27 => (f_Mod_become x27 y2 (((2 : Int64) * y1.toInt64) + (1 : Int64))).bind fun x29 => some (y2 + (1 : Int32), x29) else some ((-1 : Int32), vM) else if (vM.2.2.2.2.2.2.2.2.1 + ((0 : Int32) + (0 : Int32))) ≤ (96 : Int32) then (f_Mod_become vM ((y2 + (1 : Int32)) + y1) ((2 : Int64) * (((x3 - y1) - (1 : Int32)).toInt64))).bind fun x22 => (f_Mod_become x22 y2 (((2 : Int64) * y1.toInt64) + (1 : Int64))).bind fun x24 => some (y2 + (1 : Int32), x24) else some ((-1 : Int32), vM) else some ((-1 : Int32), vM) else (f_Mod_isUsedAt vM y2).bind fun x44 => if x44 = true then (f_Mod_sizeAt vM y2).bind fun x47 => f_Mod_take_45 N n vM y1 (y2 + (x47 + (1 : Int32))) else (f_Mod_sizeAt vM y2).bind fun x49 => if y1 ≤ x49 then if y2 < (1024 : Int32) then (f_Mod_sizeAt vM y2).bind fun x53 => if x53 < (y1 + (2 : Int32)) then (f_Mod_isMore vM y2 (((2 : Int64) * x53.toInt64) + (1 : Int64))).bind fun x56 => if x56 = true then if (vM.2.2.2.2.2.2.2.2.1 + ((0 : Int32) + (1 : Int32))) ≤ (96 : Int32) then (f_Mod_become vM y2 (((2 : Int64) * x53.toInt64) + (1 : Int64))).bind fun x63 => some (y2 + (1 : Int32), x63) else some ((-1 : Int32), vM) else if (vM.2.2.2.2.2.2.2.2.1 + ((0 : Int32) + (0 : Int32))) ≤ (96 : Int32) then (f_Mod_become vM y2 (((2 : Int64) * x53.toInt64) + (1 : Int64))).bind fun x60 => some (y2 + (1 : Int32), x60) else some ((-1 : Int32), vM) else (f_Mod_isMore vM ((y2 + (1 : Int32)) + y1) ((2 : Int64) * (((x53 - y1) - (1 : Int32)).toInt64))).bind fun x65 => if x65 = true then (f_Mod_isMore vM y2 (((2 : Int64) * y1.toInt64) + (1 : Int64))).bind fun x81 => if x81 = true then if (vM.2.2.2.2.2.2.2.2.1 + ((1 : Int32) + (1 : Int32))) ≤ (96 : Int32) then (f_Mod_become vM ((y2 + (1 : Int32)) + y1) ((2 : Int64) * (((x53 - y1) - (1 : Int32)).toInt64))).bind fun x90 => (f_Mod_become x90 y2 (((2 : Int64) * y1.toInt64) + (1 : Int64))).bind fun x92 => some (y2 + (1 : Int32), x92) else some ((-1 : Int32), vM) else if (vM.2.2.2.2.2.2.2.2.1 + ((1 : Int32) + (0 : Int32))) ≤ (96 : Int32) then (f_Mod_become vM ((y2 + (1 : Int32)) + y1) ((2 : Int64) * (((x53 - y1) - (1 : Int32)).toInt64))).bind fun x85 => (f_Mod_become x85 y2 (((2 : Int64) * y1.toInt64) + (1 : Int64))).bind fun x87 => some (y2 + (1 : Int32), x87) else some ((-1 : Int32), vM) else (f_Mod_isMore vM y2 (((2 : Int64) * y1.toInt64) + (1 : Int64))).bind fun x68 => if x68 = true then if (vM.2.2.2.2.2.2.2.2.1 + ((0 : Int32) + (1 : Int32))) ≤ (96 : Int32) then (f_Mod_become vM ((y2 + (1 : Int32)) + y1) ((2 : Int64) * (((x53 - y1) - (1 : Int32)).toInt64))).bind fun x77 => (f_Mod_become x77 y2 (((2 : Int64) * y1.toInt64) + (1 : Int64))).bind fun x79 => some (y2 + (1 : Int32), x79) else some ((-1 : Int32), vM) else if (vM.2.2.2.2.2.2.2.2.1 + ((0 : Int32) + (0 : Int32))) ≤ (96 : Int32) then (f_Mod_become vM ((y2 + (1 : Int32)) + y1) ((2 : Int64) * (((x53 - y1) - (1 : Int32)).toInt64))).bind fun x72 => (f_Mod_become x72 y2 (((2 : Int64) * y1.toInt64) + (1 : Int64))).bind fun x74 => some (y2 + (1 : Int32), x74) else some ((-1 : Int32), vM) else some ((-1 : Int32), vM) else (f_Mod_sizeAt vM y2).bind fun x94 => f_Mod_take_45 N n vM y1 (y2 + (x94 + (1 : Int32)))
def f_Mod_take (N : Nat) (vM : MT) (p1 : Int32) : Option (Int32 × MT) :=
  (f_Mod_isShut vM).bind fun x96 => if x96 = true then some ((0 : Int32), (vM.1, vM.2.1, vM.2.2.1, vM.2.2.2.1, vM.2.2.2.2.1, vM.2.2.2.2.2.1, vM.2.2.2.2.2.2.1, vM.2.2.2.2.2.2.2.1, vM.2.2.2.2.2.2.2.2.1, vM.2.2.2.2.2.2.2.2.2.1, vM.2.2.2.2.2.2.2.2.2.2.1, vM.2.2.2.2.2.2.2.2.2.2.2.1, vM.2.2.2.2.2.2.2.2.2.2.2.2.1, vM.2.2.2.2.2.2.2.2.2.2.2.2.2.1, vM.2.2.2.2.2.2.2.2.2.2.2.2.2.2.1, vM.2.2.2.2.2.2.2.2.2.2.2.2.2.2.2.1, vM.2.2.2.2.2.2.2.2.2.2.2.2.2.2.2.2.1, vM.2.2.2.2.2.2.2.2.2.2.2.2.2.2.2.2.2.1, vM.2.2.2.2.2.2.2.2.2.2.2.2.2.2.2.2.2.2.1, vM.2.2.2.2.2.2.2.2.2.2.2.2.2.2.2.2.2.2.2.1, (1 : Int32))) else if p1 < (1 : Int32) then some ((0 : Int32), (vM.1, vM.2.1, vM.2.2.1, vM.2.2.2.1, vM.2.2.2.2.1, vM.2.2.2.2.2.1, vM.2.2.2.2.2.2.1, vM.2.2.2.2.2.2.2.1, vM.2.2.2.2.2.2.2.2.1, vM.2.2.2.2.2.2.2.2.2.1, vM.2.2.2.2.2.2.2.2.2.2.1, vM.2.2.2.2.2.2.2.2.2.2.2.1, vM.2.2.2.2.2.2.2.2.2.2.2.2.1, vM.2.2.2.2.2.2.2.2.2.2.2.2.2.1, vM.2.2.2.2.2.2.2.2.2.2.2.2.2.2.1, vM.2.2.2.2.2.2.2.2.2.2.2.2.2.2.2.1, vM.2.2.2.2.2.2.2.2.2.2.2.2.2.2.2.2.1, vM.2.2.2.2.2.2.2.2.2.2.2.2.2.2.2.2.2.1, vM.2.2.2.2.2.2.2.2.2.2.2.2.2.2.2.2.2.2.1, vM.2.2.2.2.2.2.2.2.2.2.2.2.2.2.2.2.2.2.2.1, (2 : Int32))) else if p1 ≤ (847 : Int32) then f_Mod_take_45 N N (vM.1, vM.2.1, vM.2.2.1, vM.2.2.2.1, vM.2.2.2.2.1, vM.2.2.2.2.2.1, vM.2.2.2.2.2.2.1, vM.2.2.2.2.2.2.2.1, vM.2.2.2.2.2.2.2.2.1, vM.2.2.2.2.2.2.2.2.2.1, vM.2.2.2.2.2.2.2.2.2.2.1, vM.2.2.2.2.2.2.2.2.2.2.2.1, vM.2.2.2.2.2.2.2.2.2.2.2.2.1, vM.2.2.2.2.2.2.2.2.2.2.2.2.2.1, vM.2.2.2.2.2.2.2.2.2.2.2.2.2.2.1, vM.2.2.2.2.2.2.2.2.2.2.2.2.2.2.2.1, vM.2.2.2.2.2.2.2.2.2.2.2.2.2.2.2.2.1, vM.2.2.2.2.2.2.2.2.2.2.2.2.2.2.2.2.2.1, vM.2.2.2.2.2.2.2.2.2.2.2.2.2.2.2.2.2.2.1, vM.2.2.2.2.2.2.2.2.2.2.2.2.2.2.2.2.2.2.2.1, (0 : Int32)) p1 (176 : Int32) else some ((0 : Int32), (vM.1, vM.2.1, vM.2.2.1, vM.2.2.2.1, vM.2.2.2.2.1, vM.2.2.2.2.2.1, vM.2.2.2.2.2.2.1, vM.2.2.2.2.2.2.2.1, vM.2.2.2.2.2.2.2.2.1, vM.2.2.2.2.2.2.2.2.2.1, vM.2.2.2.2.2.2.2.2.2.2.1, vM.2.2.2.2.2.2.2.2.2.2.2.1, vM.2.2.2.2.2.2.2.2.2.2.2.2.1, vM.2.2.2.2.2.2.2.2.2.2.2.2.2.1, vM.2.2.2.2.2.2.2.2.2.2.2.2.2.2.1, vM.2.2.2.2.2.2.2.2.2.2.2.2.2.2.2.1, vM.2.2.2.2.2.2.2.2.2.2.2.2.2.2.2.2.1, vM.2.2.2.2.2.2.2.2.2.2.2.2.2.2.2.2.2.1, vM.2.2.2.2.2.2.2.2.2.2.2.2.2.2.2.2.2.2.1, vM.2.2.2.2.2.2.2.2.2.2.2.2.2.2.2.2.2.2.2.1, (2 : Int32)))
abbrev cd_Mod_take : Cond := .code yX5_take cX5_take 11 (some .int)
theorem yd_Mod_take : yX5_take.cls ≠ "java/lang/invoke/MethodHandle" ∧ yX5_take.cls ≠ "java/lang/invoke/VarHandle" ∧ (parseMethodDescriptor yX5_take.desc).map (fun d => d.parameters.length) = some 1 := by decide +kernel
abbrev rm_Mod_take : Room := { frames := 2, cells := 0, slots := 0, locals := 42 }
abbrev q_Mod_take (D : va_G) (ad : Nat → Nat) (ca : Nat → ClassId) (res : Int32 × MT) (A : Nat → Prop) : Array Value → State → Outcome → State → Prop := va_Qi (fun (r : Int32) (u : MT) => r = res.1 ∧ u = res.2) (gB D cls (tys ca) A (fun (u : MT) => (wM ad ca u))) A
set_option maxHeartbeats 4000000 in
set_option maxRecDepth 100000 in
theorem w_Mod_take_45 {p : Program} {l : Launch} {e : Env} {s : State} {m : MethodId} {args : Array Value} {below : List Frame} {meth : Method} {c : Code} {D : va_G} {ad : Nat → Nat} {ca : Nat → ClassId} {A : Nat → Prop} {N : Nat} {res : Int32 × MT} (Z : gZ p s m args meth c cX5_take 11 RX5 (cd_Mod_take :: gA) A D cls (tys ca)) (hr : meth.sig.returnType = (some .int)) : ∀ (n : Nat) (vM : MT) (y1 : Int32) (y2 : Int32), f_Mod_take_45 N n vM y1 y2 = some res → gW p l e rm_Mod_take s m args below meth c 11 A D cls 0 0 (MQ below (q_Mod_take D ad ca res A) args s 0 0 A) (wM ad ca vM) [(0, .ref (ad 20)), (1, .int y1), (2, .int y2)] 45 [] := by
  intro n
  induction n with
  | zero =>
    intro vM y1 y2 hf
    exact absurd hf (by rw [f_Mod_take_45]; exact fun h => by cases h)
  | succ n ih =>
    intro vM y1 y2 hf
    rw [f_Mod_take_45] at hf
    refine g_iload_n (pc := 45) Z 2 dX5_take_45 rfl ?_
    refine g_sipush (pc := 46) (v := 1024) Z dX5_take_46 (by decide) ?_
    refine g_icmp_ge (pc := 49) (tgt := 82) Z dX5_take_49 (by decide) (fun c1 => ?_) (fun c1 => ?_)
    · replace hf := gIfP c1 hf
      refine g_iload_n (pc := 82) Z 2 dX5_take_82 rfl ?_
      refine g_sipush (pc := 83) (v := 1024) Z dX5_take_83 (by decide) ?_
      refine g_icmp_lt (pc := 86) (tgt := 91) Z dX5_take_86 (by decide) (fun c2 => ?_) (fun c2 => ?_)
      · replace hf := gIfP c2 hf
        refine g_aload_n (pc := 91) Z 0 dX5_take_91 rfl ?_
        refine g_iload_n (pc := 92) Z 2 dX5_take_92 rfl ?_
        obtain ⟨x3, h4, hf⟩ := Option.bind_eq_some_iff.mp hf
        refine g_calli (pc := 93) (ws2 := fun u => (wM ad ca vM)) (wr := ([] : va_W)) Z [0, 1, 2, 3, 4, 5, 6, 7] [] [0, 1, 2, 3, 4, 5, 6, 7] (g_runV Z (c_Mod_sizeAt l D ad ca vM y2 x3 h4) (cwV 1 Z.2.2.2.2.1 (gg_V wm40 wm41 wm42 wm11 wm43) rfl rfl rfl (yv_of rfl yd_Mod_sizeAt) ⟨Nat.le_of_ble_eq_true rfl, Nat.le_of_ble_eq_true rfl⟩) [0, 1, 2, 3, 4, 5, 6, 7] rfl (by decide) 0 rfl rfl rfl rfl rfl (Nat.le_of_ble_eq_true rfl) dX5_take_93 ⟨Nat.le_of_ble_eq_true rfl, Nat.le_of_ble_eq_true rfl⟩) rfl rfl (by decide) (by decide) (by decide) (fun _ => rfl) (fun r u hu => ?_)
        obtain rfl := hu.symm
        refine g_istore_n (pc := 96) (lv' := [(3, .int x3), (0, .ref (ad 20)), (1, .int y1), (2, .int y2)]) Z dX5_take_96 (by decide) rfl ?_
        refine g_iload_n (pc := 97) Z 0 dX5_take_97 rfl ?_
        refine g_iload_n (pc := 98) Z 2 dX5_take_98 rfl ?_
        refine g_iconst (pc := 99) (v := 2) Z dX5_take_99 (by decide) ?_
        refine g_iadd (pc := 100) Z dX5_take_100 ?_
        refine g_icmp_lt (pc := 101) (tgt := 108) Z dX5_take_101 (by decide) (fun c5 => ?_) (fun c5 => ?_)
        · replace hf := gIfP c5 hf
          refine g_iconst (pc := 108) (v := 0) Z dX5_take_108 (by decide) ?_
          refine g_istore (pc := 109) (lv' := [(4, .int (0 : Int32)), (3, .int x3), (0, .ref (ad 20)), (1, .int y1), (2, .int y2)]) Z dX5_take_109 (by decide) rfl ?_
          refine g_iload_n (pc := 111) Z 4 dX5_take_111 rfl ?_
          refine g_iconst (pc := 112) (v := 1) Z dX5_take_112 (by decide) ?_
          refine g_iadd (pc := 113) Z dX5_take_113 ?_
          refine g_iload_n (pc := 114) Z 3 dX5_take_114 rfl ?_
          refine g_iadd (pc := 115) Z dX5_take_115 ?_
          refine g_istore (pc := 116) (lv' := [(5, .int ((y2 + (1 : Int32)) + y1)), (4, .int (0 : Int32)), (3, .int x3), (0, .ref (ad 20)), (1, .int y1), (2, .int y2)]) Z dX5_take_116 (by decide) rfl ?_
          refine g_ldc2 (pc := 118) (v := 2) Z dX5_take_118 (mm wm35) ?_
          refine g_iload_n (pc := 121) Z 2 dX5_take_121 rfl ?_
          refine g_iload_n (pc := 122) Z 4 dX5_take_122 rfl ?_
          refine g_isub (pc := 123) Z dX5_take_123 ?_
          refine g_iconst (pc := 124) (v := 1) Z dX5_take_124 (by decide) ?_
          refine g_isub (pc := 125) Z dX5_take_125 ?_
          refine g_i2l (pc := 126) Z dX5_take_126 ?_
          refine g_lmul (pc := 127) Z dX5_take_127 ?_
          refine g_lstore (pc := 128) (lv' := [(6, .long ((2 : Int64) * (((x3 - y1) - (1 : Int32)).toInt64))), (5, .int ((y2 + (1 : Int32)) + y1)), (4, .int (0 : Int32)), (3, .int x3), (0, .ref (ad 20)), (1, .int y1), (2, .int y2)]) Z dX5_take_128 (by decide) rfl ?_
          refine g_iload (pc := 130) Z 2 dX5_take_130 rfl ?_
          refine g_if_eq (pc := 132) (tgt := 146) Z dX5_take_132 (by decide) (fun _ => ?_) (fun c0 => absurd c0 (by decide))
          refine g_ldc2 (pc := 146) (v := 2) Z dX5_take_146 (mm wm35) ?_
          refine g_iload_n (pc := 149) Z 3 dX5_take_149 rfl ?_
          refine g_i2l (pc := 150) Z dX5_take_150 ?_
          refine g_lmul (pc := 151) Z dX5_take_151 ?_
          refine g_lconst (pc := 152) (v := 1) Z dX5_take_152 (by decide) ?_
          refine g_ladd (pc := 153) Z dX5_take_153 ?_
          refine g_lstore (pc := 154) (lv' := [(8, .long (((2 : Int64) * x3.toInt64) + (1 : Int64))), (6, .long ((2 : Int64) * (((x3 - y1) - (1 : Int32)).toInt64))), (5, .int ((y2 + (1 : Int32)) + y1)), (4, .int (0 : Int32)), (3, .int x3), (0, .ref (ad 20)), (1, .int y1), (2, .int y2)]) Z dX5_take_154 (by decide) rfl ?_
          refine g_iload (pc := 156) Z 3 dX5_take_156 rfl ?_
          refine g_if_eq (pc := 158) (tgt := 176) Z dX5_take_158 (by decide) (fun _ => ?_) (fun c0 => absurd c0 (by decide))
          refine g_iconst (pc := 176) (v := 0) Z dX5_take_176 (by decide) ?_
          refine g_aload_n (pc := 177) Z 5 dX5_take_177 rfl ?_
          refine g_iload_n (pc := 178) Z 7 dX5_take_178 rfl ?_
          refine g_lload (pc := 179) Z 0 dX5_take_179 rfl ?_
          obtain ⟨x6, h7, hf⟩ := Option.bind_eq_some_iff.mp hf
          refine g_calli (pc := 181) (ws2 := fun u => (wM ad ca vM)) (wr := ([] : va_W)) Z [0, 1, 2, 3, 4, 5, 6, 7] [] [0, 1, 2, 3, 4, 5, 6, 7] (g_runV Z (c_Mod_isMore l D ad ca vM y2 (((2 : Int64) * x3.toInt64) + (1 : Int64)) x6 h7) (cwV 2 Z.2.2.2.2.1 (gg_V wm44 wm45 wm46 wm11 wm47) rfl rfl rfl (yv_of rfl yd_Mod_isMore) ⟨Nat.le_of_ble_eq_true rfl, Nat.le_of_ble_eq_true rfl⟩) [0, 1, 2, 3, 4, 5, 6, 7] rfl (by decide) 0 rfl rfl rfl rfl rfl (Nat.le_of_ble_eq_true rfl) dX5_take_181 ⟨Nat.le_of_ble_eq_true rfl, Nat.le_of_ble_eq_true rfl⟩) rfl rfl (by decide) (by decide) (by decide) (fun _ => rfl) (fun r u hu => ?_)
          obtain rfl := hu.symm
          refine g_if_eq (pc := 184) (tgt := 191) Z dX5_take_184 (by decide) (fun c8 => ?_) (fun c8 => ?_)
          · replace hf := gIfN (bI_z c8) hf
            refine g_iconst (pc := 191) (v := 0) Z dX5_take_191 (by decide) ?_
            refine g_iadd (pc := 192) Z dX5_take_192 ?_
            refine g_istore (pc := 193) (lv' := [(10, .int ((0 : Int32) + (0 : Int32))), (8, .long (((2 : Int64) * x3.toInt64) + (1 : Int64))), (6, .long ((2 : Int64) * (((x3 - y1) - (1 : Int32)).toInt64))), (5, .int ((y2 + (1 : Int32)) + y1)), (4, .int (0 : Int32)), (3, .int x3), (0, .ref (ad 20)), (1, .int y1), (2, .int y2)]) Z dX5_take_193 (by decide) rfl ?_
            refine g_aload_n (pc := 195) Z 6 dX5_take_195 rfl ?_
            refine g_get (pc := 196) (v := .int vM.2.2.2.2.2.2.2.2.1) (T := TX5) (N := 21) Z 0 8 dX5_take_196 (mm wm5) inx_X5 rfl (by decide) rfl rfl rfl ?_
            refine g_iload (pc := 199) Z 0 dX5_take_199 rfl ?_
            refine g_iadd (pc := 201) Z dX5_take_201 ?_
            refine g_bipush (pc := 202) (v := 96) Z dX5_take_202 (by decide) ?_
            refine g_icmp_le (pc := 204) (tgt := 209) Z dX5_take_204 (by decide) (fun c9 => ?_) (fun c9 => ?_)
            · replace hf := gIfP c9 hf
              refine g_iload (pc := 209) Z 4 dX5_take_209 rfl ?_
              refine g_if_eq (pc := 211) (tgt := 222) Z dX5_take_211 (by decide) (fun _ => ?_) (fun c0 => absurd c0 (by decide))
              refine g_aload_n (pc := 222) Z 6 dX5_take_222 rfl ?_
              refine g_iload_n (pc := 223) Z 8 dX5_take_223 rfl ?_
              refine g_lload (pc := 224) Z 1 dX5_take_224 rfl ?_
              obtain ⟨x10, h11, hf⟩ := Option.bind_eq_some_iff.mp hf
              refine g_callv (pc := 226) (ws2 := fun u => (wM ad ca u)) (wr := ([] : va_W)) Z [0, 1, 2, 3, 4, 5, 6, 7] [] [0, 1, 2, 3, 4, 5, 6, 7] (g_runV Z (c_Mod_become l D ad ca vM y2 (((2 : Int64) * x3.toInt64) + (1 : Int64)) x10 h11) (cwV 2 Z.2.2.2.2.1 (gg_V wm48 wm49 wm50 wm11 wm51) rfl rfl rfl (yv_of rfl yd_Mod_become) ⟨Nat.le_of_ble_eq_true rfl, Nat.le_of_ble_eq_true rfl⟩) [0, 1, 2, 3, 4, 5, 6, 7] rfl (by decide) 0 rfl rfl rfl rfl rfl (Nat.le_of_ble_eq_true rfl) dX5_take_226 ⟨Nat.le_of_ble_eq_true rfl, Nat.le_of_ble_eq_true rfl⟩) rfl rfl (by decide) (by decide) (by decide) (fun _ => rfl) (fun u hu => ?_)
              obtain rfl := hu.symm
              refine g_iload_n (pc := 229) Z 8 dX5_take_229 rfl ?_
              refine g_iconst (pc := 230) (v := 1) Z dX5_take_230 (by decide) ?_
              refine g_iadd (pc := 231) Z dX5_take_231 ?_
              obtain rfl := Option.some.inj hf
              exact g_iret Z hr dX5_take_232 x10 ⟨rfl, rfl⟩ rfl
            · replace hf := gIfN c9 hf
              refine g_iconst (pc := 207) (v := -1) Z dX5_take_207 (by decide) ?_
              obtain rfl := Option.some.inj hf
              exact g_iret Z hr dX5_take_208 vM ⟨rfl, rfl⟩ rfl
          · replace hf := gIfP (bI_nz c8) hf
            refine g_iconst (pc := 187) (v := 1) Z dX5_take_187 (by decide) ?_
            refine g_goto (pc := 188) (tgt := 192) Z dX5_take_188 (by decide) ?_
            refine g_iadd (pc := 192) Z dX5_take_192 ?_
            refine g_istore (pc := 193) (lv' := [(10, .int ((0 : Int32) + (1 : Int32))), (8, .long (((2 : Int64) * x3.toInt64) + (1 : Int64))), (6, .long ((2 : Int64) * (((x3 - y1) - (1 : Int32)).toInt64))), (5, .int ((y2 + (1 : Int32)) + y1)), (4, .int (0 : Int32)), (3, .int x3), (0, .ref (ad 20)), (1, .int y1), (2, .int y2)]) Z dX5_take_193 (by decide) rfl ?_
            refine g_aload_n (pc := 195) Z 6 dX5_take_195 rfl ?_
            refine g_get (pc := 196) (v := .int vM.2.2.2.2.2.2.2.2.1) (T := TX5) (N := 21) Z 0 8 dX5_take_196 (mm wm5) inx_X5 rfl (by decide) rfl rfl rfl ?_
            refine g_iload (pc := 199) Z 0 dX5_take_199 rfl ?_
            refine g_iadd (pc := 201) Z dX5_take_201 ?_
            refine g_bipush (pc := 202) (v := 96) Z dX5_take_202 (by decide) ?_
            refine g_icmp_le (pc := 204) (tgt := 209) Z dX5_take_204 (by decide) (fun c12 => ?_) (fun c12 => ?_)
            · replace hf := gIfP c12 hf
              refine g_iload (pc := 209) Z 4 dX5_take_209 rfl ?_
              refine g_if_eq (pc := 211) (tgt := 222) Z dX5_take_211 (by decide) (fun _ => ?_) (fun c0 => absurd c0 (by decide))
              refine g_aload_n (pc := 222) Z 6 dX5_take_222 rfl ?_
              refine g_iload_n (pc := 223) Z 8 dX5_take_223 rfl ?_
              refine g_lload (pc := 224) Z 1 dX5_take_224 rfl ?_
              obtain ⟨x13, h14, hf⟩ := Option.bind_eq_some_iff.mp hf
              refine g_callv (pc := 226) (ws2 := fun u => (wM ad ca u)) (wr := ([] : va_W)) Z [0, 1, 2, 3, 4, 5, 6, 7] [] [0, 1, 2, 3, 4, 5, 6, 7] (g_runV Z (c_Mod_become l D ad ca vM y2 (((2 : Int64) * x3.toInt64) + (1 : Int64)) x13 h14) (cwV 2 Z.2.2.2.2.1 (gg_V wm48 wm49 wm50 wm11 wm51) rfl rfl rfl (yv_of rfl yd_Mod_become) ⟨Nat.le_of_ble_eq_true rfl, Nat.le_of_ble_eq_true rfl⟩) [0, 1, 2, 3, 4, 5, 6, 7] rfl (by decide) 0 rfl rfl rfl rfl rfl (Nat.le_of_ble_eq_true rfl) dX5_take_226 ⟨Nat.le_of_ble_eq_true rfl, Nat.le_of_ble_eq_true rfl⟩) rfl rfl (by decide) (by decide) (by decide) (fun _ => rfl) (fun u hu => ?_)
              obtain rfl := hu.symm
              refine g_iload_n (pc := 229) Z 8 dX5_take_229 rfl ?_
              refine g_iconst (pc := 230) (v := 1) Z dX5_take_230 (by decide) ?_
              refine g_iadd (pc := 231) Z dX5_take_231 ?_
              obtain rfl := Option.some.inj hf
              exact g_iret Z hr dX5_take_232 x13 ⟨rfl, rfl⟩ rfl
            · replace hf := gIfN c12 hf
              refine g_iconst (pc := 207) (v := -1) Z dX5_take_207 (by decide) ?_
              obtain rfl := Option.some.inj hf
              exact g_iret Z hr dX5_take_208 vM ⟨rfl, rfl⟩ rfl
        · replace hf := gIfN c5 hf
          refine g_iconst (pc := 104) (v := 1) Z dX5_take_104 (by decide) ?_
          refine g_goto (pc := 105) (tgt := 109) Z dX5_take_105 (by decide) ?_
          refine g_istore (pc := 109) (lv' := [(4, .int (1 : Int32)), (3, .int x3), (0, .ref (ad 20)), (1, .int y1), (2, .int y2)]) Z dX5_take_109 (by decide) rfl ?_
          refine g_iload_n (pc := 111) Z 4 dX5_take_111 rfl ?_
          refine g_iconst (pc := 112) (v := 1) Z dX5_take_112 (by decide) ?_
          refine g_iadd (pc := 113) Z dX5_take_113 ?_
          refine g_iload_n (pc := 114) Z 3 dX5_take_114 rfl ?_
          refine g_iadd (pc := 115) Z dX5_take_115 ?_
          refine g_istore (pc := 116) (lv' := [(5, .int ((y2 + (1 : Int32)) + y1)), (4, .int (1 : Int32)), (3, .int x3), (0, .ref (ad 20)), (1, .int y1), (2, .int y2)]) Z dX5_take_116 (by decide) rfl ?_
          refine g_ldc2 (pc := 118) (v := 2) Z dX5_take_118 (mm wm35) ?_
          refine g_iload_n (pc := 121) Z 2 dX5_take_121 rfl ?_
          refine g_iload_n (pc := 122) Z 4 dX5_take_122 rfl ?_
          refine g_isub (pc := 123) Z dX5_take_123 ?_
          refine g_iconst (pc := 124) (v := 1) Z dX5_take_124 (by decide) ?_
          refine g_isub (pc := 125) Z dX5_take_125 ?_
          refine g_i2l (pc := 126) Z dX5_take_126 ?_
          refine g_lmul (pc := 127) Z dX5_take_127 ?_
          refine g_lstore (pc := 128) (lv' := [(6, .long ((2 : Int64) * (((x3 - y1) - (1 : Int32)).toInt64))), (5, .int ((y2 + (1 : Int32)) + y1)), (4, .int (1 : Int32)), (3, .int x3), (0, .ref (ad 20)), (1, .int y1), (2, .int y2)]) Z dX5_take_128 (by decide) rfl ?_
          refine g_iload (pc := 130) Z 2 dX5_take_130 rfl ?_
          refine g_if_eq (pc := 132) (tgt := 146) Z dX5_take_132 (by decide) (fun c0 => absurd c0 (by decide)) (fun _ => ?_)
          refine g_ldc2 (pc := 135) (v := 2) Z dX5_take_135 (mm wm35) ?_
          refine g_iload_n (pc := 138) Z 5 dX5_take_138 rfl ?_
          refine g_i2l (pc := 139) Z dX5_take_139 ?_
          refine g_lmul (pc := 140) Z dX5_take_140 ?_
          refine g_lconst (pc := 141) (v := 1) Z dX5_take_141 (by decide) ?_
          refine g_ladd (pc := 142) Z dX5_take_142 ?_
          refine g_goto (pc := 143) (tgt := 154) Z dX5_take_143 (by decide) ?_
          refine g_lstore (pc := 154) (lv' := [(8, .long (((2 : Int64) * y1.toInt64) + (1 : Int64))), (6, .long ((2 : Int64) * (((x3 - y1) - (1 : Int32)).toInt64))), (5, .int ((y2 + (1 : Int32)) + y1)), (4, .int (1 : Int32)), (3, .int x3), (0, .ref (ad 20)), (1, .int y1), (2, .int y2)]) Z dX5_take_154 (by decide) rfl ?_
          refine g_iload (pc := 156) Z 3 dX5_take_156 rfl ?_
          refine g_if_eq (pc := 158) (tgt := 176) Z dX5_take_158 (by decide) (fun c0 => absurd c0 (by decide)) (fun _ => ?_)
          refine g_aload_n (pc := 161) Z 5 dX5_take_161 rfl ?_
          refine g_iload (pc := 162) Z 2 dX5_take_162 rfl ?_
          refine g_lload (pc := 164) Z 1 dX5_take_164 rfl ?_
          obtain ⟨x15, h16, hf⟩ := Option.bind_eq_some_iff.mp hf
          refine g_calli (pc := 166) (ws2 := fun u => (wM ad ca vM)) (wr := ([] : va_W)) Z [0, 1, 2, 3, 4, 5, 6, 7] [] [0, 1, 2, 3, 4, 5, 6, 7] (g_runV Z (c_Mod_isMore l D ad ca vM ((y2 + (1 : Int32)) + y1) ((2 : Int64) * (((x3 - y1) - (1 : Int32)).toInt64)) x15 h16) (cwV 2 Z.2.2.2.2.1 (gg_V wm44 wm45 wm46 wm11 wm47) rfl rfl rfl (yv_of rfl yd_Mod_isMore) ⟨Nat.le_of_ble_eq_true rfl, Nat.le_of_ble_eq_true rfl⟩) [0, 1, 2, 3, 4, 5, 6, 7] rfl (by decide) 0 rfl rfl rfl rfl rfl (Nat.le_of_ble_eq_true rfl) dX5_take_166 ⟨Nat.le_of_ble_eq_true rfl, Nat.le_of_ble_eq_true rfl⟩) rfl rfl (by decide) (by decide) (by decide) (fun _ => rfl) (fun r u hu => ?_)
          obtain rfl := hu.symm
          refine g_if_eq (pc := 169) (tgt := 176) Z dX5_take_169 (by decide) (fun c17 => ?_) (fun c17 => ?_)
          · replace hf := gIfN (bI_z c17) hf
            refine g_iconst (pc := 176) (v := 0) Z dX5_take_176 (by decide) ?_
            refine g_aload_n (pc := 177) Z 5 dX5_take_177 rfl ?_
            refine g_iload_n (pc := 178) Z 7 dX5_take_178 rfl ?_
            refine g_lload (pc := 179) Z 0 dX5_take_179 rfl ?_
            obtain ⟨x18, h19, hf⟩ := Option.bind_eq_some_iff.mp hf
            refine g_calli (pc := 181) (ws2 := fun u => (wM ad ca vM)) (wr := ([] : va_W)) Z [0, 1, 2, 3, 4, 5, 6, 7] [] [0, 1, 2, 3, 4, 5, 6, 7] (g_runV Z (c_Mod_isMore l D ad ca vM y2 (((2 : Int64) * y1.toInt64) + (1 : Int64)) x18 h19) (cwV 2 Z.2.2.2.2.1 (gg_V wm44 wm45 wm46 wm11 wm47) rfl rfl rfl (yv_of rfl yd_Mod_isMore) ⟨Nat.le_of_ble_eq_true rfl, Nat.le_of_ble_eq_true rfl⟩) [0, 1, 2, 3, 4, 5, 6, 7] rfl (by decide) 0 rfl rfl rfl rfl rfl (Nat.le_of_ble_eq_true rfl) dX5_take_181 ⟨Nat.le_of_ble_eq_true rfl, Nat.le_of_ble_eq_true rfl⟩) rfl rfl (by decide) (by decide) (by decide) (fun _ => rfl) (fun r u hu => ?_)
            obtain rfl := hu.symm
            refine g_if_eq (pc := 184) (tgt := 191) Z dX5_take_184 (by decide) (fun c20 => ?_) (fun c20 => ?_)
            · replace hf := gIfN (bI_z c20) hf
              refine g_iconst (pc := 191) (v := 0) Z dX5_take_191 (by decide) ?_
              refine g_iadd (pc := 192) Z dX5_take_192 ?_
              refine g_istore (pc := 193) (lv' := [(10, .int ((0 : Int32) + (0 : Int32))), (8, .long (((2 : Int64) * y1.toInt64) + (1 : Int64))), (6, .long ((2 : Int64) * (((x3 - y1) - (1 : Int32)).toInt64))), (5, .int ((y2 + (1 : Int32)) + y1)), (4, .int (1 : Int32)), (3, .int x3), (0, .ref (ad 20)), (1, .int y1), (2, .int y2)]) Z dX5_take_193 (by decide) rfl ?_
              refine g_aload_n (pc := 195) Z 6 dX5_take_195 rfl ?_
              refine g_get (pc := 196) (v := .int vM.2.2.2.2.2.2.2.2.1) (T := TX5) (N := 21) Z 0 8 dX5_take_196 (mm wm5) inx_X5 rfl (by decide) rfl rfl rfl ?_
              refine g_iload (pc := 199) Z 0 dX5_take_199 rfl ?_
              refine g_iadd (pc := 201) Z dX5_take_201 ?_
              refine g_bipush (pc := 202) (v := 96) Z dX5_take_202 (by decide) ?_
              refine g_icmp_le (pc := 204) (tgt := 209) Z dX5_take_204 (by decide) (fun c21 => ?_) (fun c21 => ?_)
              · replace hf := gIfP c21 hf
                refine g_iload (pc := 209) Z 4 dX5_take_209 rfl ?_
                refine g_if_eq (pc := 211) (tgt := 222) Z dX5_take_211 (by decide) (fun c0 => absurd c0 (by decide)) (fun _ => ?_)
                refine g_aload_n (pc := 214) Z 6 dX5_take_214 rfl ?_
                refine g_iload (pc := 215) Z 3 dX5_take_215 rfl ?_
                refine g_lload (pc := 217) Z 2 dX5_take_217 rfl ?_
                obtain ⟨x22, h23, hf⟩ := Option.bind_eq_some_iff.mp hf
                refine g_callv (pc := 219) (ws2 := fun u => (wM ad ca u)) (wr := ([] : va_W)) Z [0, 1, 2, 3, 4, 5, 6, 7] [] [0, 1, 2, 3, 4, 5, 6, 7] (g_runV Z (c_Mod_become l D ad ca vM ((y2 + (1 : Int32)) + y1) ((2 : Int64) * (((x3 - y1) - (1 : Int32)).toInt64)) x22 h23) (cwV 2 Z.2.2.2.2.1 (gg_V wm48 wm49 wm50 wm11 wm51) rfl rfl rfl (yv_of rfl yd_Mod_become) ⟨Nat.le_of_ble_eq_true rfl, Nat.le_of_ble_eq_true rfl⟩) [0, 1, 2, 3, 4, 5, 6, 7] rfl (by decide) 0 rfl rfl rfl rfl rfl (Nat.le_of_ble_eq_true rfl) dX5_take_219 ⟨Nat.le_of_ble_eq_true rfl, Nat.le_of_ble_eq_true rfl⟩) rfl rfl (by decide) (by decide) (by decide) (fun _ => rfl) (fun u hu => ?_)
                obtain rfl := hu.symm
                refine g_aload_n (pc := 222) Z 6 dX5_take_222 rfl ?_
                refine g_iload_n (pc := 223) Z 8 dX5_take_223 rfl ?_
                refine g_lload (pc := 224) Z 1 dX5_take_224 rfl ?_
                obtain ⟨x24, h25, hf⟩ := Option.bind_eq_some_iff.mp hf
                refine g_callv (pc := 226) (ws2 := fun u => (wM ad ca u)) (wr := ([] : va_W)) Z [0, 1, 2, 3, 4, 5, 6, 7] [] [0, 1, 2, 3, 4, 5, 6, 7] (g_runV Z (c_Mod_become l D ad ca x22 y2 (((2 : Int64) * y1.toInt64) + (1 : Int64)) x24 h25) (cwV 2 Z.2.2.2.2.1 (gg_V wm48 wm49 wm50 wm11 wm51) rfl rfl rfl (yv_of rfl yd_Mod_become) ⟨Nat.le_of_ble_eq_true rfl, Nat.le_of_ble_eq_true rfl⟩) [0, 1, 2, 3, 4, 5, 6, 7] rfl (by decide) 0 rfl rfl rfl rfl rfl (Nat.le_of_ble_eq_true rfl) dX5_take_226 ⟨Nat.le_of_ble_eq_true rfl, Nat.le_of_ble_eq_true rfl⟩) rfl rfl (by decide) (by decide) (by decide) (fun _ => rfl) (fun u hu => ?_)
                obtain rfl := hu.symm
                refine g_iload_n (pc := 229) Z 8 dX5_take_229 rfl ?_
                refine g_iconst (pc := 230) (v := 1) Z dX5_take_230 (by decide) ?_
                refine g_iadd (pc := 231) Z dX5_take_231 ?_
                obtain rfl := Option.some.inj hf
                exact g_iret Z hr dX5_take_232 x24 ⟨rfl, rfl⟩ rfl
              · replace hf := gIfN c21 hf
                refine g_iconst (pc := 207) (v := -1) Z dX5_take_207 (by decide) ?_
                obtain rfl := Option.some.inj hf
                exact g_iret Z hr dX5_take_208 vM ⟨rfl, rfl⟩ rfl
            · replace hf := gIfP (bI_nz c20) hf
              refine g_iconst (pc := 187) (v := 1) Z dX5_take_187 (by decide) ?_
              refine g_goto (pc := 188) (tgt := 192) Z dX5_take_188 (by decide) ?_
              refine g_iadd (pc := 192) Z dX5_take_192 ?_
              refine g_istore (pc := 193) (lv' := [(10, .int ((0 : Int32) + (1 : Int32))), (8, .long (((2 : Int64) * y1.toInt64) + (1 : Int64))), (6, .long ((2 : Int64) * (((x3 - y1) - (1 : Int32)).toInt64))), (5, .int ((y2 + (1 : Int32)) + y1)), (4, .int (1 : Int32)), (3, .int x3), (0, .ref (ad 20)), (1, .int y1), (2, .int y2)]) Z dX5_take_193 (by decide) rfl ?_
              refine g_aload_n (pc := 195) Z 6 dX5_take_195 rfl ?_
              refine g_get (pc := 196) (v := .int vM.2.2.2.2.2.2.2.2.1) (T := TX5) (N := 21) Z 0 8 dX5_take_196 (mm wm5) inx_X5 rfl (by decide) rfl rfl rfl ?_
              refine g_iload (pc := 199) Z 0 dX5_take_199 rfl ?_
              refine g_iadd (pc := 201) Z dX5_take_201 ?_
              refine g_bipush (pc := 202) (v := 96) Z dX5_take_202 (by decide) ?_
              refine g_icmp_le (pc := 204) (tgt := 209) Z dX5_take_204 (by decide) (fun c26 => ?_) (fun c26 => ?_)
              · replace hf := gIfP c26 hf
                refine g_iload (pc := 209) Z 4 dX5_take_209 rfl ?_
                refine g_if_eq (pc := 211) (tgt := 222) Z dX5_take_211 (by decide) (fun c0 => absurd c0 (by decide)) (fun _ => ?_)
                refine g_aload_n (pc := 214) Z 6 dX5_take_214 rfl ?_
                refine g_iload (pc := 215) Z 3 dX5_take_215 rfl ?_
                refine g_lload (pc := 217) Z 2 dX5_take_217 rfl ?_
                obtain ⟨x27, h28, hf⟩ := Option.bind_eq_some_iff.mp hf
                refine g_callv (pc := 219) (ws2 := fun u => (wM ad ca u)) (wr := ([] : va_W)) Z [0, 1, 2, 3, 4, 5, 6, 7] [] [0, 1, 2, 3, 4, 5, 6, 7] (g_runV Z (c_Mod_become l D ad ca vM ((y2 + (1 : Int32)) + y1) ((2 : Int64) * (((x3 - y1) - (1 : Int32)).toInt64)) x27 h28) (cwV 2 Z.2.2.2.2.1 (gg_V wm48 wm49 wm50 wm11 wm51) rfl rfl rfl (yv_of rfl yd_Mod_become) ⟨Nat.le_of_ble_eq_true rfl, Nat.le_of_ble_eq_true rfl⟩) [0, 1, 2, 3, 4, 5, 6, 7] rfl (by decide) 0 rfl rfl rfl rfl rfl (Nat.le_of_ble_eq_true rfl) dX5_take_219 ⟨Nat.le_of_ble_eq_true rfl, Nat.le_of_ble_eq_true rfl⟩) rfl rfl (by decide) (by decide) (by decide) (fun _ => rfl) (fun u hu => ?_)
                obtain rfl := hu.symm
                refine g_aload_n (pc := 222) Z 6 dX5_take_222 rfl ?_
                refine g_iload_n (pc := 223) Z 8 dX5_take_223 rfl ?_
                refine g_lload (pc := 224) Z 1 dX5_take_224 rfl ?_
                obtain ⟨x29, h30, hf⟩ := Option.bind_eq_some_iff.mp hf
                refine g_callv (pc := 226) (ws2 := fun u => (wM ad ca u)) (wr := ([] : va_W)) Z [0, 1, 2, 3, 4, 5, 6, 7] [] [0, 1, 2, 3, 4, 5, 6, 7] (g_runV Z (c_Mod_become l D ad ca x27 y2 (((2 : Int64) * y1.toInt64) + (1 : Int64)) x29 h30) (cwV 2 Z.2.2.2.2.1 (gg_V wm48 wm49 wm50 wm11 wm51) rfl rfl rfl (yv_of rfl yd_Mod_become) ⟨Nat.le_of_ble_eq_true rfl, Nat.le_of_ble_eq_true rfl⟩) [0, 1, 2, 3, 4, 5, 6, 7] rfl (by decide) 0 rfl rfl rfl rfl rfl (Nat.le_of_ble_eq_true rfl) dX5_take_226 ⟨Nat.le_of_ble_eq_true rfl, Nat.le_of_ble_eq_true rfl⟩) rfl rfl (by decide) (by decide) (by decide) (fun _ => rfl) (fun u hu => ?_)
                obtain rfl := hu.symm
                refine g_iload_n (pc := 229) Z 8 dX5_take_229 rfl ?_
                refine g_iconst (pc := 230) (v := 1) Z dX5_take_230 (by decide) ?_
                refine g_iadd (pc := 231) Z dX5_take_231 ?_
                obtain rfl := Option.some.inj hf
                exact g_iret Z hr dX5_take_232 x29 ⟨rfl, rfl⟩ rfl
              · replace hf := gIfN c26 hf
                refine g_iconst (pc := 207) (v := -1) Z dX5_take_207 (by decide) ?_
                obtain rfl := Option.some.inj hf
                exact g_iret Z hr dX5_take_208 vM ⟨rfl, rfl⟩ rfl
          · replace hf := gIfP (bI_nz c17) hf
            refine g_iconst (pc := 172) (v := 1) Z dX5_take_172 (by decide) ?_
            refine g_goto (pc := 173) (tgt := 177) Z dX5_take_173 (by decide) ?_
            refine g_aload_n (pc := 177) Z 5 dX5_take_177 rfl ?_
            refine g_iload_n (pc := 178) Z 7 dX5_take_178 rfl ?_
            refine g_lload (pc := 179) Z 0 dX5_take_179 rfl ?_
            obtain ⟨x31, h32, hf⟩ := Option.bind_eq_some_iff.mp hf
            refine g_calli (pc := 181) (ws2 := fun u => (wM ad ca vM)) (wr := ([] : va_W)) Z [0, 1, 2, 3, 4, 5, 6, 7] [] [0, 1, 2, 3, 4, 5, 6, 7] (g_runV Z (c_Mod_isMore l D ad ca vM y2 (((2 : Int64) * y1.toInt64) + (1 : Int64)) x31 h32) (cwV 2 Z.2.2.2.2.1 (gg_V wm44 wm45 wm46 wm11 wm47) rfl rfl rfl (yv_of rfl yd_Mod_isMore) ⟨Nat.le_of_ble_eq_true rfl, Nat.le_of_ble_eq_true rfl⟩) [0, 1, 2, 3, 4, 5, 6, 7] rfl (by decide) 0 rfl rfl rfl rfl rfl (Nat.le_of_ble_eq_true rfl) dX5_take_181 ⟨Nat.le_of_ble_eq_true rfl, Nat.le_of_ble_eq_true rfl⟩) rfl rfl (by decide) (by decide) (by decide) (fun _ => rfl) (fun r u hu => ?_)
            obtain rfl := hu.symm
            refine g_if_eq (pc := 184) (tgt := 191) Z dX5_take_184 (by decide) (fun c33 => ?_) (fun c33 => ?_)
            · replace hf := gIfN (bI_z c33) hf
              refine g_iconst (pc := 191) (v := 0) Z dX5_take_191 (by decide) ?_
              refine g_iadd (pc := 192) Z dX5_take_192 ?_
              refine g_istore (pc := 193) (lv' := [(10, .int ((1 : Int32) + (0 : Int32))), (8, .long (((2 : Int64) * y1.toInt64) + (1 : Int64))), (6, .long ((2 : Int64) * (((x3 - y1) - (1 : Int32)).toInt64))), (5, .int ((y2 + (1 : Int32)) + y1)), (4, .int (1 : Int32)), (3, .int x3), (0, .ref (ad 20)), (1, .int y1), (2, .int y2)]) Z dX5_take_193 (by decide) rfl ?_
              refine g_aload_n (pc := 195) Z 6 dX5_take_195 rfl ?_
              refine g_get (pc := 196) (v := .int vM.2.2.2.2.2.2.2.2.1) (T := TX5) (N := 21) Z 0 8 dX5_take_196 (mm wm5) inx_X5 rfl (by decide) rfl rfl rfl ?_
              refine g_iload (pc := 199) Z 0 dX5_take_199 rfl ?_
              refine g_iadd (pc := 201) Z dX5_take_201 ?_
              refine g_bipush (pc := 202) (v := 96) Z dX5_take_202 (by decide) ?_
              refine g_icmp_le (pc := 204) (tgt := 209) Z dX5_take_204 (by decide) (fun c34 => ?_) (fun c34 => ?_)
              · replace hf := gIfP c34 hf
                refine g_iload (pc := 209) Z 4 dX5_take_209 rfl ?_
                refine g_if_eq (pc := 211) (tgt := 222) Z dX5_take_211 (by decide) (fun c0 => absurd c0 (by decide)) (fun _ => ?_)
                refine g_aload_n (pc := 214) Z 6 dX5_take_214 rfl ?_
                refine g_iload (pc := 215) Z 3 dX5_take_215 rfl ?_
                refine g_lload (pc := 217) Z 2 dX5_take_217 rfl ?_
                obtain ⟨x35, h36, hf⟩ := Option.bind_eq_some_iff.mp hf
                refine g_callv (pc := 219) (ws2 := fun u => (wM ad ca u)) (wr := ([] : va_W)) Z [0, 1, 2, 3, 4, 5, 6, 7] [] [0, 1, 2, 3, 4, 5, 6, 7] (g_runV Z (c_Mod_become l D ad ca vM ((y2 + (1 : Int32)) + y1) ((2 : Int64) * (((x3 - y1) - (1 : Int32)).toInt64)) x35 h36) (cwV 2 Z.2.2.2.2.1 (gg_V wm48 wm49 wm50 wm11 wm51) rfl rfl rfl (yv_of rfl yd_Mod_become) ⟨Nat.le_of_ble_eq_true rfl, Nat.le_of_ble_eq_true rfl⟩) [0, 1, 2, 3, 4, 5, 6, 7] rfl (by decide) 0 rfl rfl rfl rfl rfl (Nat.le_of_ble_eq_true rfl) dX5_take_219 ⟨Nat.le_of_ble_eq_true rfl, Nat.le_of_ble_eq_true rfl⟩) rfl rfl (by decide) (by decide) (by decide) (fun _ => rfl) (fun u hu => ?_)
                obtain rfl := hu.symm
                refine g_aload_n (pc := 222) Z 6 dX5_take_222 rfl ?_
                refine g_iload_n (pc := 223) Z 8 dX5_take_223 rfl ?_
                refine g_lload (pc := 224) Z 1 dX5_take_224 rfl ?_
                obtain ⟨x37, h38, hf⟩ := Option.bind_eq_some_iff.mp hf
                refine g_callv (pc := 226) (ws2 := fun u => (wM ad ca u)) (wr := ([] : va_W)) Z [0, 1, 2, 3, 4, 5, 6, 7] [] [0, 1, 2, 3, 4, 5, 6, 7] (g_runV Z (c_Mod_become l D ad ca x35 y2 (((2 : Int64) * y1.toInt64) + (1 : Int64)) x37 h38) (cwV 2 Z.2.2.2.2.1 (gg_V wm48 wm49 wm50 wm11 wm51) rfl rfl rfl (yv_of rfl yd_Mod_become) ⟨Nat.le_of_ble_eq_true rfl, Nat.le_of_ble_eq_true rfl⟩) [0, 1, 2, 3, 4, 5, 6, 7] rfl (by decide) 0 rfl rfl rfl rfl rfl (Nat.le_of_ble_eq_true rfl) dX5_take_226 ⟨Nat.le_of_ble_eq_true rfl, Nat.le_of_ble_eq_true rfl⟩) rfl rfl (by decide) (by decide) (by decide) (fun _ => rfl) (fun u hu => ?_)
                obtain rfl := hu.symm
                refine g_iload_n (pc := 229) Z 8 dX5_take_229 rfl ?_
                refine g_iconst (pc := 230) (v := 1) Z dX5_take_230 (by decide) ?_
                refine g_iadd (pc := 231) Z dX5_take_231 ?_
                obtain rfl := Option.some.inj hf
                exact g_iret Z hr dX5_take_232 x37 ⟨rfl, rfl⟩ rfl
              · replace hf := gIfN c34 hf
                refine g_iconst (pc := 207) (v := -1) Z dX5_take_207 (by decide) ?_
                obtain rfl := Option.some.inj hf
                exact g_iret Z hr dX5_take_208 vM ⟨rfl, rfl⟩ rfl
            · replace hf := gIfP (bI_nz c33) hf
              refine g_iconst (pc := 187) (v := 1) Z dX5_take_187 (by decide) ?_
              refine g_goto (pc := 188) (tgt := 192) Z dX5_take_188 (by decide) ?_
              refine g_iadd (pc := 192) Z dX5_take_192 ?_
              refine g_istore (pc := 193) (lv' := [(10, .int ((1 : Int32) + (1 : Int32))), (8, .long (((2 : Int64) * y1.toInt64) + (1 : Int64))), (6, .long ((2 : Int64) * (((x3 - y1) - (1 : Int32)).toInt64))), (5, .int ((y2 + (1 : Int32)) + y1)), (4, .int (1 : Int32)), (3, .int x3), (0, .ref (ad 20)), (1, .int y1), (2, .int y2)]) Z dX5_take_193 (by decide) rfl ?_
              refine g_aload_n (pc := 195) Z 6 dX5_take_195 rfl ?_
              refine g_get (pc := 196) (v := .int vM.2.2.2.2.2.2.2.2.1) (T := TX5) (N := 21) Z 0 8 dX5_take_196 (mm wm5) inx_X5 rfl (by decide) rfl rfl rfl ?_
              refine g_iload (pc := 199) Z 0 dX5_take_199 rfl ?_
              refine g_iadd (pc := 201) Z dX5_take_201 ?_
              refine g_bipush (pc := 202) (v := 96) Z dX5_take_202 (by decide) ?_
              refine g_icmp_le (pc := 204) (tgt := 209) Z dX5_take_204 (by decide) (fun c39 => ?_) (fun c39 => ?_)
              · replace hf := gIfP c39 hf
                refine g_iload (pc := 209) Z 4 dX5_take_209 rfl ?_
                refine g_if_eq (pc := 211) (tgt := 222) Z dX5_take_211 (by decide) (fun c0 => absurd c0 (by decide)) (fun _ => ?_)
                refine g_aload_n (pc := 214) Z 6 dX5_take_214 rfl ?_
                refine g_iload (pc := 215) Z 3 dX5_take_215 rfl ?_
                refine g_lload (pc := 217) Z 2 dX5_take_217 rfl ?_
                obtain ⟨x40, h41, hf⟩ := Option.bind_eq_some_iff.mp hf
                refine g_callv (pc := 219) (ws2 := fun u => (wM ad ca u)) (wr := ([] : va_W)) Z [0, 1, 2, 3, 4, 5, 6, 7] [] [0, 1, 2, 3, 4, 5, 6, 7] (g_runV Z (c_Mod_become l D ad ca vM ((y2 + (1 : Int32)) + y1) ((2 : Int64) * (((x3 - y1) - (1 : Int32)).toInt64)) x40 h41) (cwV 2 Z.2.2.2.2.1 (gg_V wm48 wm49 wm50 wm11 wm51) rfl rfl rfl (yv_of rfl yd_Mod_become) ⟨Nat.le_of_ble_eq_true rfl, Nat.le_of_ble_eq_true rfl⟩) [0, 1, 2, 3, 4, 5, 6, 7] rfl (by decide) 0 rfl rfl rfl rfl rfl (Nat.le_of_ble_eq_true rfl) dX5_take_219 ⟨Nat.le_of_ble_eq_true rfl, Nat.le_of_ble_eq_true rfl⟩) rfl rfl (by decide) (by decide) (by decide) (fun _ => rfl) (fun u hu => ?_)
                obtain rfl := hu.symm
                refine g_aload_n (pc := 222) Z 6 dX5_take_222 rfl ?_
                refine g_iload_n (pc := 223) Z 8 dX5_take_223 rfl ?_
                refine g_lload (pc := 224) Z 1 dX5_take_224 rfl ?_
                obtain ⟨x42, h43, hf⟩ := Option.bind_eq_some_iff.mp hf
                refine g_callv (pc := 226) (ws2 := fun u => (wM ad ca u)) (wr := ([] : va_W)) Z [0, 1, 2, 3, 4, 5, 6, 7] [] [0, 1, 2, 3, 4, 5, 6, 7] (g_runV Z (c_Mod_become l D ad ca x40 y2 (((2 : Int64) * y1.toInt64) + (1 : Int64)) x42 h43) (cwV 2 Z.2.2.2.2.1 (gg_V wm48 wm49 wm50 wm11 wm51) rfl rfl rfl (yv_of rfl yd_Mod_become) ⟨Nat.le_of_ble_eq_true rfl, Nat.le_of_ble_eq_true rfl⟩) [0, 1, 2, 3, 4, 5, 6, 7] rfl (by decide) 0 rfl rfl rfl rfl rfl (Nat.le_of_ble_eq_true rfl) dX5_take_226 ⟨Nat.le_of_ble_eq_true rfl, Nat.le_of_ble_eq_true rfl⟩) rfl rfl (by decide) (by decide) (by decide) (fun _ => rfl) (fun u hu => ?_)
                obtain rfl := hu.symm
                refine g_iload_n (pc := 229) Z 8 dX5_take_229 rfl ?_
                refine g_iconst (pc := 230) (v := 1) Z dX5_take_230 (by decide) ?_
                refine g_iadd (pc := 231) Z dX5_take_231 ?_
                obtain rfl := Option.some.inj hf
                exact g_iret Z hr dX5_take_232 x42 ⟨rfl, rfl⟩ rfl
              · replace hf := gIfN c39 hf
                refine g_iconst (pc := 207) (v := -1) Z dX5_take_207 (by decide) ?_
                obtain rfl := Option.some.inj hf
                exact g_iret Z hr dX5_take_208 vM ⟨rfl, rfl⟩ rfl
      · replace hf := gIfN c2 hf
        refine g_iconst (pc := 89) (v := -1) Z dX5_take_89 (by decide) ?_
        obtain rfl := Option.some.inj hf
        exact g_iret Z hr dX5_take_90 vM ⟨rfl, rfl⟩ rfl
    · replace hf := gIfN c1 hf
      refine g_aload_n (pc := 52) Z 0 dX5_take_52 rfl ?_
      refine g_iload_n (pc := 53) Z 2 dX5_take_53 rfl ?_
      obtain ⟨x44, h45, hf⟩ := Option.bind_eq_some_iff.mp hf
      refine g_calli (pc := 54) (ws2 := fun u => (wM ad ca vM)) (wr := ([] : va_W)) Z [0, 1, 2, 3, 4, 5, 6, 7] [] [0, 1, 2, 3, 4, 5, 6, 7] (g_runV Z (c_Mod_isUsedAt l D ad ca vM y2 x44 h45) (cwV 1 Z.2.2.2.2.1 (gg_V wm36 wm37 wm38 wm11 wm39) rfl rfl rfl (yv_of rfl yd_Mod_isUsedAt) ⟨Nat.le_of_ble_eq_true rfl, Nat.le_of_ble_eq_true rfl⟩) [0, 1, 2, 3, 4, 5, 6, 7] rfl (by decide) 0 rfl rfl rfl rfl rfl (Nat.le_of_ble_eq_true rfl) dX5_take_54 ⟨Nat.le_of_ble_eq_true rfl, Nat.le_of_ble_eq_true rfl⟩) rfl rfl (by decide) (by decide) (by decide) (fun _ => rfl) (fun r u hu => ?_)
      obtain rfl := hu.symm
      refine g_if_ne (pc := 57) (tgt := 69) Z dX5_take_57 (by decide) (fun c46 => ?_) (fun c46 => ?_)
      · replace hf := gIfP (bI_nz c46) hf
        refine g_iload_n (pc := 69) Z 2 dX5_take_69 rfl ?_
        refine g_aload_n (pc := 70) Z 0 dX5_take_70 rfl ?_
        refine g_iload_n (pc := 71) Z 2 dX5_take_71 rfl ?_
        obtain ⟨x47, h48, hf⟩ := Option.bind_eq_some_iff.mp hf
        refine g_calli (pc := 72) (ws2 := fun u => (wM ad ca vM)) (wr := ([] : va_W)) Z [0, 1, 2, 3, 4, 5, 6, 7] [] [0, 1, 2, 3, 4, 5, 6, 7] (g_runV Z (c_Mod_sizeAt l D ad ca vM y2 x47 h48) (cwV 1 Z.2.2.2.2.1 (gg_V wm40 wm41 wm42 wm11 wm43) rfl rfl rfl (yv_of rfl yd_Mod_sizeAt) ⟨Nat.le_of_ble_eq_true rfl, Nat.le_of_ble_eq_true rfl⟩) [0, 1, 2, 3, 4, 5, 6, 7] rfl (by decide) 0 rfl rfl rfl rfl rfl (Nat.le_of_ble_eq_true rfl) dX5_take_72 ⟨Nat.le_of_ble_eq_true rfl, Nat.le_of_ble_eq_true rfl⟩) rfl rfl (by decide) (by decide) (by decide) (fun _ => rfl) (fun r u hu => ?_)
        obtain rfl := hu.symm
        refine g_iconst (pc := 75) (v := 1) Z dX5_take_75 (by decide) ?_
        refine g_iadd (pc := 76) Z dX5_take_76 ?_
        refine g_iadd (pc := 77) Z dX5_take_77 ?_
        refine g_istore_n (pc := 78) (lv' := [(2, .int (y2 + (x47 + (1 : Int32)))), (0, .ref (ad 20)), (1, .int y1)]) Z dX5_take_78 (by decide) rfl ?_
        refine g_goto (pc := 79) (tgt := 45) Z dX5_take_79 (by decide) ?_
        refine g_locals (lv2 := [(0, .ref (ad 20)), (1, .int y1), (2, .int (y2 + (x47 + (1 : Int32))))]) [1, 2, 0] rfl ?_
        exact ih _ _ _ hf
      · replace hf := gIfN (bI_z c46) hf
        refine g_aload_n (pc := 60) Z 0 dX5_take_60 rfl ?_
        refine g_iload_n (pc := 61) Z 2 dX5_take_61 rfl ?_
        obtain ⟨x49, h50, hf⟩ := Option.bind_eq_some_iff.mp hf
        refine g_calli (pc := 62) (ws2 := fun u => (wM ad ca vM)) (wr := ([] : va_W)) Z [0, 1, 2, 3, 4, 5, 6, 7] [] [0, 1, 2, 3, 4, 5, 6, 7] (g_runV Z (c_Mod_sizeAt l D ad ca vM y2 x49 h50) (cwV 1 Z.2.2.2.2.1 (gg_V wm40 wm41 wm42 wm11 wm43) rfl rfl rfl (yv_of rfl yd_Mod_sizeAt) ⟨Nat.le_of_ble_eq_true rfl, Nat.le_of_ble_eq_true rfl⟩) [0, 1, 2, 3, 4, 5, 6, 7] rfl (by decide) 0 rfl rfl rfl rfl rfl (Nat.le_of_ble_eq_true rfl) dX5_take_62 ⟨Nat.le_of_ble_eq_true rfl, Nat.le_of_ble_eq_true rfl⟩) rfl rfl (by decide) (by decide) (by decide) (fun _ => rfl) (fun r u hu => ?_)
        obtain rfl := hu.symm
        refine g_iload_n (pc := 65) Z 1 dX5_take_65 rfl ?_
        refine g_icmp_ge (pc := 66) (tgt := 82) Z dX5_take_66 (by decide) (fun c51 => ?_) (fun c51 => ?_)
        · replace hf := gIfP c51 hf
          refine g_iload_n (pc := 82) Z 2 dX5_take_82 rfl ?_
          refine g_sipush (pc := 83) (v := 1024) Z dX5_take_83 (by decide) ?_
          refine g_icmp_lt (pc := 86) (tgt := 91) Z dX5_take_86 (by decide) (fun c52 => ?_) (fun c52 => ?_)
          · replace hf := gIfP c52 hf
            refine g_aload_n (pc := 91) Z 0 dX5_take_91 rfl ?_
            refine g_iload_n (pc := 92) Z 2 dX5_take_92 rfl ?_
            obtain ⟨x53, h54, hf⟩ := Option.bind_eq_some_iff.mp hf
            refine g_calli (pc := 93) (ws2 := fun u => (wM ad ca vM)) (wr := ([] : va_W)) Z [0, 1, 2, 3, 4, 5, 6, 7] [] [0, 1, 2, 3, 4, 5, 6, 7] (g_runV Z (c_Mod_sizeAt l D ad ca vM y2 x53 h54) (cwV 1 Z.2.2.2.2.1 (gg_V wm40 wm41 wm42 wm11 wm43) rfl rfl rfl (yv_of rfl yd_Mod_sizeAt) ⟨Nat.le_of_ble_eq_true rfl, Nat.le_of_ble_eq_true rfl⟩) [0, 1, 2, 3, 4, 5, 6, 7] rfl (by decide) 0 rfl rfl rfl rfl rfl (Nat.le_of_ble_eq_true rfl) dX5_take_93 ⟨Nat.le_of_ble_eq_true rfl, Nat.le_of_ble_eq_true rfl⟩) rfl rfl (by decide) (by decide) (by decide) (fun _ => rfl) (fun r u hu => ?_)
            obtain rfl := hu.symm
            refine g_istore_n (pc := 96) (lv' := [(3, .int x53), (0, .ref (ad 20)), (1, .int y1), (2, .int y2)]) Z dX5_take_96 (by decide) rfl ?_
            refine g_iload_n (pc := 97) Z 0 dX5_take_97 rfl ?_
            refine g_iload_n (pc := 98) Z 2 dX5_take_98 rfl ?_
            refine g_iconst (pc := 99) (v := 2) Z dX5_take_99 (by decide) ?_
            refine g_iadd (pc := 100) Z dX5_take_100 ?_
            refine g_icmp_lt (pc := 101) (tgt := 108) Z dX5_take_101 (by decide) (fun c55 => ?_) (fun c55 => ?_)
            · replace hf := gIfP c55 hf
              refine g_iconst (pc := 108) (v := 0) Z dX5_take_108 (by decide) ?_
              refine g_istore (pc := 109) (lv' := [(4, .int (0 : Int32)), (3, .int x53), (0, .ref (ad 20)), (1, .int y1), (2, .int y2)]) Z dX5_take_109 (by decide) rfl ?_
              refine g_iload_n (pc := 111) Z 4 dX5_take_111 rfl ?_
              refine g_iconst (pc := 112) (v := 1) Z dX5_take_112 (by decide) ?_
              refine g_iadd (pc := 113) Z dX5_take_113 ?_
              refine g_iload_n (pc := 114) Z 3 dX5_take_114 rfl ?_
              refine g_iadd (pc := 115) Z dX5_take_115 ?_
              refine g_istore (pc := 116) (lv' := [(5, .int ((y2 + (1 : Int32)) + y1)), (4, .int (0 : Int32)), (3, .int x53), (0, .ref (ad 20)), (1, .int y1), (2, .int y2)]) Z dX5_take_116 (by decide) rfl ?_
              refine g_ldc2 (pc := 118) (v := 2) Z dX5_take_118 (mm wm35) ?_
              refine g_iload_n (pc := 121) Z 2 dX5_take_121 rfl ?_
              refine g_iload_n (pc := 122) Z 4 dX5_take_122 rfl ?_
              refine g_isub (pc := 123) Z dX5_take_123 ?_
              refine g_iconst (pc := 124) (v := 1) Z dX5_take_124 (by decide) ?_
              refine g_isub (pc := 125) Z dX5_take_125 ?_
              refine g_i2l (pc := 126) Z dX5_take_126 ?_
              refine g_lmul (pc := 127) Z dX5_take_127 ?_
              refine g_lstore (pc := 128) (lv' := [(6, .long ((2 : Int64) * (((x53 - y1) - (1 : Int32)).toInt64))), (5, .int ((y2 + (1 : Int32)) + y1)), (4, .int (0 : Int32)), (3, .int x53), (0, .ref (ad 20)), (1, .int y1), (2, .int y2)]) Z dX5_take_128 (by decide) rfl ?_
              refine g_iload (pc := 130) Z 2 dX5_take_130 rfl ?_
              refine g_if_eq (pc := 132) (tgt := 146) Z dX5_take_132 (by decide) (fun _ => ?_) (fun c0 => absurd c0 (by decide))
              refine g_ldc2 (pc := 146) (v := 2) Z dX5_take_146 (mm wm35) ?_
              refine g_iload_n (pc := 149) Z 3 dX5_take_149 rfl ?_
              refine g_i2l (pc := 150) Z dX5_take_150 ?_
              refine g_lmul (pc := 151) Z dX5_take_151 ?_
              refine g_lconst (pc := 152) (v := 1) Z dX5_take_152 (by decide) ?_
              refine g_ladd (pc := 153) Z dX5_take_153 ?_
              refine g_lstore (pc := 154) (lv' := [(8, .long (((2 : Int64) * x53.toInt64) + (1 : Int64))), (6, .long ((2 : Int64) * (((x53 - y1) - (1 : Int32)).toInt64))), (5, .int ((y2 + (1 : Int32)) + y1)), (4, .int (0 : Int32)), (3, .int x53), (0, .ref (ad 20)), (1, .int y1), (2, .int y2)]) Z dX5_take_154 (by decide) rfl ?_
              refine g_iload (pc := 156) Z 3 dX5_take_156 rfl ?_
              refine g_if_eq (pc := 158) (tgt := 176) Z dX5_take_158 (by decide) (fun _ => ?_) (fun c0 => absurd c0 (by decide))
              refine g_iconst (pc := 176) (v := 0) Z dX5_take_176 (by decide) ?_
              refine g_aload_n (pc := 177) Z 5 dX5_take_177 rfl ?_
              refine g_iload_n (pc := 178) Z 7 dX5_take_178 rfl ?_
              refine g_lload (pc := 179) Z 0 dX5_take_179 rfl ?_
              obtain ⟨x56, h57, hf⟩ := Option.bind_eq_some_iff.mp hf
              refine g_calli (pc := 181) (ws2 := fun u => (wM ad ca vM)) (wr := ([] : va_W)) Z [0, 1, 2, 3, 4, 5, 6, 7] [] [0, 1, 2, 3, 4, 5, 6, 7] (g_runV Z (c_Mod_isMore l D ad ca vM y2 (((2 : Int64) * x53.toInt64) + (1 : Int64)) x56 h57) (cwV 2 Z.2.2.2.2.1 (gg_V wm44 wm45 wm46 wm11 wm47) rfl rfl rfl (yv_of rfl yd_Mod_isMore) ⟨Nat.le_of_ble_eq_true rfl, Nat.le_of_ble_eq_true rfl⟩) [0, 1, 2, 3, 4, 5, 6, 7] rfl (by decide) 0 rfl rfl rfl rfl rfl (Nat.le_of_ble_eq_true rfl) dX5_take_181 ⟨Nat.le_of_ble_eq_true rfl, Nat.le_of_ble_eq_true rfl⟩) rfl rfl (by decide) (by decide) (by decide) (fun _ => rfl) (fun r u hu => ?_)
              obtain rfl := hu.symm
              refine g_if_eq (pc := 184) (tgt := 191) Z dX5_take_184 (by decide) (fun c58 => ?_) (fun c58 => ?_)
              · replace hf := gIfN (bI_z c58) hf
                refine g_iconst (pc := 191) (v := 0) Z dX5_take_191 (by decide) ?_
                refine g_iadd (pc := 192) Z dX5_take_192 ?_
                refine g_istore (pc := 193) (lv' := [(10, .int ((0 : Int32) + (0 : Int32))), (8, .long (((2 : Int64) * x53.toInt64) + (1 : Int64))), (6, .long ((2 : Int64) * (((x53 - y1) - (1 : Int32)).toInt64))), (5, .int ((y2 + (1 : Int32)) + y1)), (4, .int (0 : Int32)), (3, .int x53), (0, .ref (ad 20)), (1, .int y1), (2, .int y2)]) Z dX5_take_193 (by decide) rfl ?_
                refine g_aload_n (pc := 195) Z 6 dX5_take_195 rfl ?_
                refine g_get (pc := 196) (v := .int vM.2.2.2.2.2.2.2.2.1) (T := TX5) (N := 21) Z 0 8 dX5_take_196 (mm wm5) inx_X5 rfl (by decide) rfl rfl rfl ?_
                refine g_iload (pc := 199) Z 0 dX5_take_199 rfl ?_
                refine g_iadd (pc := 201) Z dX5_take_201 ?_
                refine g_bipush (pc := 202) (v := 96) Z dX5_take_202 (by decide) ?_
                refine g_icmp_le (pc := 204) (tgt := 209) Z dX5_take_204 (by decide) (fun c59 => ?_) (fun c59 => ?_)
                · replace hf := gIfP c59 hf
                  refine g_iload (pc := 209) Z 4 dX5_take_209 rfl ?_
                  refine g_if_eq (pc := 211) (tgt := 222) Z dX5_take_211 (by decide) (fun _ => ?_) (fun c0 => absurd c0 (by decide))
                  refine g_aload_n (pc := 222) Z 6 dX5_take_222 rfl ?_
                  refine g_iload_n (pc := 223) Z 8 dX5_take_223 rfl ?_
                  refine g_lload (pc := 224) Z 1 dX5_take_224 rfl ?_
                  obtain ⟨x60, h61, hf⟩ := Option.bind_eq_some_iff.mp hf
                  refine g_callv (pc := 226) (ws2 := fun u => (wM ad ca u)) (wr := ([] : va_W)) Z [0, 1, 2, 3, 4, 5, 6, 7] [] [0, 1, 2, 3, 4, 5, 6, 7] (g_runV Z (c_Mod_become l D ad ca vM y2 (((2 : Int64) * x53.toInt64) + (1 : Int64)) x60 h61) (cwV 2 Z.2.2.2.2.1 (gg_V wm48 wm49 wm50 wm11 wm51) rfl rfl rfl (yv_of rfl yd_Mod_become) ⟨Nat.le_of_ble_eq_true rfl, Nat.le_of_ble_eq_true rfl⟩) [0, 1, 2, 3, 4, 5, 6, 7] rfl (by decide) 0 rfl rfl rfl rfl rfl (Nat.le_of_ble_eq_true rfl) dX5_take_226 ⟨Nat.le_of_ble_eq_true rfl, Nat.le_of_ble_eq_true rfl⟩) rfl rfl (by decide) (by decide) (by decide) (fun _ => rfl) (fun u hu => ?_)
                  obtain rfl := hu.symm
                  refine g_iload_n (pc := 229) Z 8 dX5_take_229 rfl ?_
                  refine g_iconst (pc := 230) (v := 1) Z dX5_take_230 (by decide) ?_
                  refine g_iadd (pc := 231) Z dX5_take_231 ?_
                  obtain rfl := Option.some.inj hf
                  exact g_iret Z hr dX5_take_232 x60 ⟨rfl, rfl⟩ rfl
                · replace hf := gIfN c59 hf
                  refine g_iconst (pc := 207) (v := -1) Z dX5_take_207 (by decide) ?_
                  obtain rfl := Option.some.inj hf
                  exact g_iret Z hr dX5_take_208 vM ⟨rfl, rfl⟩ rfl
              · replace hf := gIfP (bI_nz c58) hf
                refine g_iconst (pc := 187) (v := 1) Z dX5_take_187 (by decide) ?_
                refine g_goto (pc := 188) (tgt := 192) Z dX5_take_188 (by decide) ?_
                refine g_iadd (pc := 192) Z dX5_take_192 ?_
                refine g_istore (pc := 193) (lv' := [(10, .int ((0 : Int32) + (1 : Int32))), (8, .long (((2 : Int64) * x53.toInt64) + (1 : Int64))), (6, .long ((2 : Int64) * (((x53 - y1) - (1 : Int32)).toInt64))), (5, .int ((y2 + (1 : Int32)) + y1)), (4, .int (0 : Int32)), (3, .int x53), (0, .ref (ad 20)), (1, .int y1), (2, .int y2)]) Z dX5_take_193 (by decide) rfl ?_
                refine g_aload_n (pc := 195) Z 6 dX5_take_195 rfl ?_
                refine g_get (pc := 196) (v := .int vM.2.2.2.2.2.2.2.2.1) (T := TX5) (N := 21) Z 0 8 dX5_take_196 (mm wm5) inx_X5 rfl (by decide) rfl rfl rfl ?_
                refine g_iload (pc := 199) Z 0 dX5_take_199 rfl ?_
                refine g_iadd (pc := 201) Z dX5_take_201 ?_
                refine g_bipush (pc := 202) (v := 96) Z dX5_take_202 (by decide) ?_
                refine g_icmp_le (pc := 204) (tgt := 209) Z dX5_take_204 (by decide) (fun c62 => ?_) (fun c62 => ?_)
                · replace hf := gIfP c62 hf
                  refine g_iload (pc := 209) Z 4 dX5_take_209 rfl ?_
                  refine g_if_eq (pc := 211) (tgt := 222) Z dX5_take_211 (by decide) (fun _ => ?_) (fun c0 => absurd c0 (by decide))
                  refine g_aload_n (pc := 222) Z 6 dX5_take_222 rfl ?_
                  refine g_iload_n (pc := 223) Z 8 dX5_take_223 rfl ?_
                  refine g_lload (pc := 224) Z 1 dX5_take_224 rfl ?_
                  obtain ⟨x63, h64, hf⟩ := Option.bind_eq_some_iff.mp hf
                  refine g_callv (pc := 226) (ws2 := fun u => (wM ad ca u)) (wr := ([] : va_W)) Z [0, 1, 2, 3, 4, 5, 6, 7] [] [0, 1, 2, 3, 4, 5, 6, 7] (g_runV Z (c_Mod_become l D ad ca vM y2 (((2 : Int64) * x53.toInt64) + (1 : Int64)) x63 h64) (cwV 2 Z.2.2.2.2.1 (gg_V wm48 wm49 wm50 wm11 wm51) rfl rfl rfl (yv_of rfl yd_Mod_become) ⟨Nat.le_of_ble_eq_true rfl, Nat.le_of_ble_eq_true rfl⟩) [0, 1, 2, 3, 4, 5, 6, 7] rfl (by decide) 0 rfl rfl rfl rfl rfl (Nat.le_of_ble_eq_true rfl) dX5_take_226 ⟨Nat.le_of_ble_eq_true rfl, Nat.le_of_ble_eq_true rfl⟩) rfl rfl (by decide) (by decide) (by decide) (fun _ => rfl) (fun u hu => ?_)
                  obtain rfl := hu.symm
                  refine g_iload_n (pc := 229) Z 8 dX5_take_229 rfl ?_
                  refine g_iconst (pc := 230) (v := 1) Z dX5_take_230 (by decide) ?_
                  refine g_iadd (pc := 231) Z dX5_take_231 ?_
                  obtain rfl := Option.some.inj hf
                  exact g_iret Z hr dX5_take_232 x63 ⟨rfl, rfl⟩ rfl
                · replace hf := gIfN c62 hf
                  refine g_iconst (pc := 207) (v := -1) Z dX5_take_207 (by decide) ?_
                  obtain rfl := Option.some.inj hf
                  exact g_iret Z hr dX5_take_208 vM ⟨rfl, rfl⟩ rfl
            · replace hf := gIfN c55 hf
              refine g_iconst (pc := 104) (v := 1) Z dX5_take_104 (by decide) ?_
              refine g_goto (pc := 105) (tgt := 109) Z dX5_take_105 (by decide) ?_
              refine g_istore (pc := 109) (lv' := [(4, .int (1 : Int32)), (3, .int x53), (0, .ref (ad 20)), (1, .int y1), (2, .int y2)]) Z dX5_take_109 (by decide) rfl ?_
              refine g_iload_n (pc := 111) Z 4 dX5_take_111 rfl ?_
              refine g_iconst (pc := 112) (v := 1) Z dX5_take_112 (by decide) ?_
              refine g_iadd (pc := 113) Z dX5_take_113 ?_
              refine g_iload_n (pc := 114) Z 3 dX5_take_114 rfl ?_
              refine g_iadd (pc := 115) Z dX5_take_115 ?_
              refine g_istore (pc := 116) (lv' := [(5, .int ((y2 + (1 : Int32)) + y1)), (4, .int (1 : Int32)), (3, .int x53), (0, .ref (ad 20)), (1, .int y1), (2, .int y2)]) Z dX5_take_116 (by decide) rfl ?_
              refine g_ldc2 (pc := 118) (v := 2) Z dX5_take_118 (mm wm35) ?_
              refine g_iload_n (pc := 121) Z 2 dX5_take_121 rfl ?_
              refine g_iload_n (pc := 122) Z 4 dX5_take_122 rfl ?_
              refine g_isub (pc := 123) Z dX5_take_123 ?_
              refine g_iconst (pc := 124) (v := 1) Z dX5_take_124 (by decide) ?_
              refine g_isub (pc := 125) Z dX5_take_125 ?_
              refine g_i2l (pc := 126) Z dX5_take_126 ?_
              refine g_lmul (pc := 127) Z dX5_take_127 ?_
              refine g_lstore (pc := 128) (lv' := [(6, .long ((2 : Int64) * (((x53 - y1) - (1 : Int32)).toInt64))), (5, .int ((y2 + (1 : Int32)) + y1)), (4, .int (1 : Int32)), (3, .int x53), (0, .ref (ad 20)), (1, .int y1), (2, .int y2)]) Z dX5_take_128 (by decide) rfl ?_
              refine g_iload (pc := 130) Z 2 dX5_take_130 rfl ?_
              refine g_if_eq (pc := 132) (tgt := 146) Z dX5_take_132 (by decide) (fun c0 => absurd c0 (by decide)) (fun _ => ?_)
              refine g_ldc2 (pc := 135) (v := 2) Z dX5_take_135 (mm wm35) ?_
              refine g_iload_n (pc := 138) Z 5 dX5_take_138 rfl ?_
              refine g_i2l (pc := 139) Z dX5_take_139 ?_
              refine g_lmul (pc := 140) Z dX5_take_140 ?_
              refine g_lconst (pc := 141) (v := 1) Z dX5_take_141 (by decide) ?_
              refine g_ladd (pc := 142) Z dX5_take_142 ?_
              refine g_goto (pc := 143) (tgt := 154) Z dX5_take_143 (by decide) ?_
              refine g_lstore (pc := 154) (lv' := [(8, .long (((2 : Int64) * y1.toInt64) + (1 : Int64))), (6, .long ((2 : Int64) * (((x53 - y1) - (1 : Int32)).toInt64))), (5, .int ((y2 + (1 : Int32)) + y1)), (4, .int (1 : Int32)), (3, .int x53), (0, .ref (ad 20)), (1, .int y1), (2, .int y2)]) Z dX5_take_154 (by decide) rfl ?_
              refine g_iload (pc := 156) Z 3 dX5_take_156 rfl ?_
              refine g_if_eq (pc := 158) (tgt := 176) Z dX5_take_158 (by decide) (fun c0 => absurd c0 (by decide)) (fun _ => ?_)
              refine g_aload_n (pc := 161) Z 5 dX5_take_161 rfl ?_
              refine g_iload (pc := 162) Z 2 dX5_take_162 rfl ?_
              refine g_lload (pc := 164) Z 1 dX5_take_164 rfl ?_
              obtain ⟨x65, h66, hf⟩ := Option.bind_eq_some_iff.mp hf
              refine g_calli (pc := 166) (ws2 := fun u => (wM ad ca vM)) (wr := ([] : va_W)) Z [0, 1, 2, 3, 4, 5, 6, 7] [] [0, 1, 2, 3, 4, 5, 6, 7] (g_runV Z (c_Mod_isMore l D ad ca vM ((y2 + (1 : Int32)) + y1) ((2 : Int64) * (((x53 - y1) - (1 : Int32)).toInt64)) x65 h66) (cwV 2 Z.2.2.2.2.1 (gg_V wm44 wm45 wm46 wm11 wm47) rfl rfl rfl (yv_of rfl yd_Mod_isMore) ⟨Nat.le_of_ble_eq_true rfl, Nat.le_of_ble_eq_true rfl⟩) [0, 1, 2, 3, 4, 5, 6, 7] rfl (by decide) 0 rfl rfl rfl rfl rfl (Nat.le_of_ble_eq_true rfl) dX5_take_166 ⟨Nat.le_of_ble_eq_true rfl, Nat.le_of_ble_eq_true rfl⟩) rfl rfl (by decide) (by decide) (by decide) (fun _ => rfl) (fun r u hu => ?_)
              obtain rfl := hu.symm
              refine g_if_eq (pc := 169) (tgt := 176) Z dX5_take_169 (by decide) (fun c67 => ?_) (fun c67 => ?_)
              · replace hf := gIfN (bI_z c67) hf
                refine g_iconst (pc := 176) (v := 0) Z dX5_take_176 (by decide) ?_
                refine g_aload_n (pc := 177) Z 5 dX5_take_177 rfl ?_
                refine g_iload_n (pc := 178) Z 7 dX5_take_178 rfl ?_
                refine g_lload (pc := 179) Z 0 dX5_take_179 rfl ?_
                obtain ⟨x68, h69, hf⟩ := Option.bind_eq_some_iff.mp hf
                refine g_calli (pc := 181) (ws2 := fun u => (wM ad ca vM)) (wr := ([] : va_W)) Z [0, 1, 2, 3, 4, 5, 6, 7] [] [0, 1, 2, 3, 4, 5, 6, 7] (g_runV Z (c_Mod_isMore l D ad ca vM y2 (((2 : Int64) * y1.toInt64) + (1 : Int64)) x68 h69) (cwV 2 Z.2.2.2.2.1 (gg_V wm44 wm45 wm46 wm11 wm47) rfl rfl rfl (yv_of rfl yd_Mod_isMore) ⟨Nat.le_of_ble_eq_true rfl, Nat.le_of_ble_eq_true rfl⟩) [0, 1, 2, 3, 4, 5, 6, 7] rfl (by decide) 0 rfl rfl rfl rfl rfl (Nat.le_of_ble_eq_true rfl) dX5_take_181 ⟨Nat.le_of_ble_eq_true rfl, Nat.le_of_ble_eq_true rfl⟩) rfl rfl (by decide) (by decide) (by decide) (fun _ => rfl) (fun r u hu => ?_)
                obtain rfl := hu.symm
                refine g_if_eq (pc := 184) (tgt := 191) Z dX5_take_184 (by decide) (fun c70 => ?_) (fun c70 => ?_)
                · replace hf := gIfN (bI_z c70) hf
                  refine g_iconst (pc := 191) (v := 0) Z dX5_take_191 (by decide) ?_
                  refine g_iadd (pc := 192) Z dX5_take_192 ?_
                  refine g_istore (pc := 193) (lv' := [(10, .int ((0 : Int32) + (0 : Int32))), (8, .long (((2 : Int64) * y1.toInt64) + (1 : Int64))), (6, .long ((2 : Int64) * (((x53 - y1) - (1 : Int32)).toInt64))), (5, .int ((y2 + (1 : Int32)) + y1)), (4, .int (1 : Int32)), (3, .int x53), (0, .ref (ad 20)), (1, .int y1), (2, .int y2)]) Z dX5_take_193 (by decide) rfl ?_
                  refine g_aload_n (pc := 195) Z 6 dX5_take_195 rfl ?_
                  refine g_get (pc := 196) (v := .int vM.2.2.2.2.2.2.2.2.1) (T := TX5) (N := 21) Z 0 8 dX5_take_196 (mm wm5) inx_X5 rfl (by decide) rfl rfl rfl ?_
                  refine g_iload (pc := 199) Z 0 dX5_take_199 rfl ?_
                  refine g_iadd (pc := 201) Z dX5_take_201 ?_
                  refine g_bipush (pc := 202) (v := 96) Z dX5_take_202 (by decide) ?_
                  refine g_icmp_le (pc := 204) (tgt := 209) Z dX5_take_204 (by decide) (fun c71 => ?_) (fun c71 => ?_)
                  · replace hf := gIfP c71 hf
                    refine g_iload (pc := 209) Z 4 dX5_take_209 rfl ?_
                    refine g_if_eq (pc := 211) (tgt := 222) Z dX5_take_211 (by decide) (fun c0 => absurd c0 (by decide)) (fun _ => ?_)
                    refine g_aload_n (pc := 214) Z 6 dX5_take_214 rfl ?_
                    refine g_iload (pc := 215) Z 3 dX5_take_215 rfl ?_
                    refine g_lload (pc := 217) Z 2 dX5_take_217 rfl ?_
                    obtain ⟨x72, h73, hf⟩ := Option.bind_eq_some_iff.mp hf
                    refine g_callv (pc := 219) (ws2 := fun u => (wM ad ca u)) (wr := ([] : va_W)) Z [0, 1, 2, 3, 4, 5, 6, 7] [] [0, 1, 2, 3, 4, 5, 6, 7] (g_runV Z (c_Mod_become l D ad ca vM ((y2 + (1 : Int32)) + y1) ((2 : Int64) * (((x53 - y1) - (1 : Int32)).toInt64)) x72 h73) (cwV 2 Z.2.2.2.2.1 (gg_V wm48 wm49 wm50 wm11 wm51) rfl rfl rfl (yv_of rfl yd_Mod_become) ⟨Nat.le_of_ble_eq_true rfl, Nat.le_of_ble_eq_true rfl⟩) [0, 1, 2, 3, 4, 5, 6, 7] rfl (by decide) 0 rfl rfl rfl rfl rfl (Nat.le_of_ble_eq_true rfl) dX5_take_219 ⟨Nat.le_of_ble_eq_true rfl, Nat.le_of_ble_eq_true rfl⟩) rfl rfl (by decide) (by decide) (by decide) (fun _ => rfl) (fun u hu => ?_)
                    obtain rfl := hu.symm
                    refine g_aload_n (pc := 222) Z 6 dX5_take_222 rfl ?_
                    refine g_iload_n (pc := 223) Z 8 dX5_take_223 rfl ?_
                    refine g_lload (pc := 224) Z 1 dX5_take_224 rfl ?_
                    obtain ⟨x74, h75, hf⟩ := Option.bind_eq_some_iff.mp hf
                    refine g_callv (pc := 226) (ws2 := fun u => (wM ad ca u)) (wr := ([] : va_W)) Z [0, 1, 2, 3, 4, 5, 6, 7] [] [0, 1, 2, 3, 4, 5, 6, 7] (g_runV Z (c_Mod_become l D ad ca x72 y2 (((2 : Int64) * y1.toInt64) + (1 : Int64)) x74 h75) (cwV 2 Z.2.2.2.2.1 (gg_V wm48 wm49 wm50 wm11 wm51) rfl rfl rfl (yv_of rfl yd_Mod_become) ⟨Nat.le_of_ble_eq_true rfl, Nat.le_of_ble_eq_true rfl⟩) [0, 1, 2, 3, 4, 5, 6, 7] rfl (by decide) 0 rfl rfl rfl rfl rfl (Nat.le_of_ble_eq_true rfl) dX5_take_226 ⟨Nat.le_of_ble_eq_true rfl, Nat.le_of_ble_eq_true rfl⟩) rfl rfl (by decide) (by decide) (by decide) (fun _ => rfl) (fun u hu => ?_)
                    obtain rfl := hu.symm
                    refine g_iload_n (pc := 229) Z 8 dX5_take_229 rfl ?_
                    refine g_iconst (pc := 230) (v := 1) Z dX5_take_230 (by decide) ?_
                    refine g_iadd (pc := 231) Z dX5_take_231 ?_
                    obtain rfl := Option.some.inj hf
                    exact g_iret Z hr dX5_take_232 x74 ⟨rfl, rfl⟩ rfl
                  · replace hf := gIfN c71 hf
                    refine g_iconst (pc := 207) (v := -1) Z dX5_take_207 (by decide) ?_
                    obtain rfl := Option.some.inj hf
                    exact g_iret Z hr dX5_take_208 vM ⟨rfl, rfl⟩ rfl
                · replace hf := gIfP (bI_nz c70) hf
                  refine g_iconst (pc := 187) (v := 1) Z dX5_take_187 (by decide) ?_
                  refine g_goto (pc := 188) (tgt := 192) Z dX5_take_188 (by decide) ?_
                  refine g_iadd (pc := 192) Z dX5_take_192 ?_
                  refine g_istore (pc := 193) (lv' := [(10, .int ((0 : Int32) + (1 : Int32))), (8, .long (((2 : Int64) * y1.toInt64) + (1 : Int64))), (6, .long ((2 : Int64) * (((x53 - y1) - (1 : Int32)).toInt64))), (5, .int ((y2 + (1 : Int32)) + y1)), (4, .int (1 : Int32)), (3, .int x53), (0, .ref (ad 20)), (1, .int y1), (2, .int y2)]) Z dX5_take_193 (by decide) rfl ?_
                  refine g_aload_n (pc := 195) Z 6 dX5_take_195 rfl ?_
                  refine g_get (pc := 196) (v := .int vM.2.2.2.2.2.2.2.2.1) (T := TX5) (N := 21) Z 0 8 dX5_take_196 (mm wm5) inx_X5 rfl (by decide) rfl rfl rfl ?_
                  refine g_iload (pc := 199) Z 0 dX5_take_199 rfl ?_
                  refine g_iadd (pc := 201) Z dX5_take_201 ?_
                  refine g_bipush (pc := 202) (v := 96) Z dX5_take_202 (by decide) ?_
                  refine g_icmp_le (pc := 204) (tgt := 209) Z dX5_take_204 (by decide) (fun c76 => ?_) (fun c76 => ?_)
                  · replace hf := gIfP c76 hf
                    refine g_iload (pc := 209) Z 4 dX5_take_209 rfl ?_
                    refine g_if_eq (pc := 211) (tgt := 222) Z dX5_take_211 (by decide) (fun c0 => absurd c0 (by decide)) (fun _ => ?_)
                    refine g_aload_n (pc := 214) Z 6 dX5_take_214 rfl ?_
                    refine g_iload (pc := 215) Z 3 dX5_take_215 rfl ?_
                    refine g_lload (pc := 217) Z 2 dX5_take_217 rfl ?_
                    obtain ⟨x77, h78, hf⟩ := Option.bind_eq_some_iff.mp hf
                    refine g_callv (pc := 219) (ws2 := fun u => (wM ad ca u)) (wr := ([] : va_W)) Z [0, 1, 2, 3, 4, 5, 6, 7] [] [0, 1, 2, 3, 4, 5, 6, 7] (g_runV Z (c_Mod_become l D ad ca vM ((y2 + (1 : Int32)) + y1) ((2 : Int64) * (((x53 - y1) - (1 : Int32)).toInt64)) x77 h78) (cwV 2 Z.2.2.2.2.1 (gg_V wm48 wm49 wm50 wm11 wm51) rfl rfl rfl (yv_of rfl yd_Mod_become) ⟨Nat.le_of_ble_eq_true rfl, Nat.le_of_ble_eq_true rfl⟩) [0, 1, 2, 3, 4, 5, 6, 7] rfl (by decide) 0 rfl rfl rfl rfl rfl (Nat.le_of_ble_eq_true rfl) dX5_take_219 ⟨Nat.le_of_ble_eq_true rfl, Nat.le_of_ble_eq_true rfl⟩) rfl rfl (by decide) (by decide) (by decide) (fun _ => rfl) (fun u hu => ?_)
                    obtain rfl := hu.symm
                    refine g_aload_n (pc := 222) Z 6 dX5_take_222 rfl ?_
                    refine g_iload_n (pc := 223) Z 8 dX5_take_223 rfl ?_
                    refine g_lload (pc := 224) Z 1 dX5_take_224 rfl ?_
                    obtain ⟨x79, h80, hf⟩ := Option.bind_eq_some_iff.mp hf
                    refine g_callv (pc := 226) (ws2 := fun u => (wM ad ca u)) (wr := ([] : va_W)) Z [0, 1, 2, 3, 4, 5, 6, 7] [] [0, 1, 2, 3, 4, 5, 6, 7] (g_runV Z (c_Mod_become l D ad ca x77 y2 (((2 : Int64) * y1.toInt64) + (1 : Int64)) x79 h80) (cwV 2 Z.2.2.2.2.1 (gg_V wm48 wm49 wm50 wm11 wm51) rfl rfl rfl (yv_of rfl yd_Mod_become) ⟨Nat.le_of_ble_eq_true rfl, Nat.le_of_ble_eq_true rfl⟩) [0, 1, 2, 3, 4, 5, 6, 7] rfl (by decide) 0 rfl rfl rfl rfl rfl (Nat.le_of_ble_eq_true rfl) dX5_take_226 ⟨Nat.le_of_ble_eq_true rfl, Nat.le_of_ble_eq_true rfl⟩) rfl rfl (by decide) (by decide) (by decide) (fun _ => rfl) (fun u hu => ?_)
                    obtain rfl := hu.symm
                    refine g_iload_n (pc := 229) Z 8 dX5_take_229 rfl ?_
                    refine g_iconst (pc := 230) (v := 1) Z dX5_take_230 (by decide) ?_
                    refine g_iadd (pc := 231) Z dX5_take_231 ?_
                    obtain rfl := Option.some.inj hf
                    exact g_iret Z hr dX5_take_232 x79 ⟨rfl, rfl⟩ rfl
                  · replace hf := gIfN c76 hf
                    refine g_iconst (pc := 207) (v := -1) Z dX5_take_207 (by decide) ?_
                    obtain rfl := Option.some.inj hf
                    exact g_iret Z hr dX5_take_208 vM ⟨rfl, rfl⟩ rfl
              · replace hf := gIfP (bI_nz c67) hf
                refine g_iconst (pc := 172) (v := 1) Z dX5_take_172 (by decide) ?_
                refine g_goto (pc := 173) (tgt := 177) Z dX5_take_173 (by decide) ?_
                refine g_aload_n (pc := 177) Z 5 dX5_take_177 rfl ?_
                refine g_iload_n (pc := 178) Z 7 dX5_take_178 rfl ?_
                refine g_lload (pc := 179) Z 0 dX5_take_179 rfl ?_
                obtain ⟨x81, h82, hf⟩ := Option.bind_eq_some_iff.mp hf
                refine g_calli (pc := 181) (ws2 := fun u => (wM ad ca vM)) (wr := ([] : va_W)) Z [0, 1, 2, 3, 4, 5, 6, 7] [] [0, 1, 2, 3, 4, 5, 6, 7] (g_runV Z (c_Mod_isMore l D ad ca vM y2 (((2 : Int64) * y1.toInt64) + (1 : Int64)) x81 h82) (cwV 2 Z.2.2.2.2.1 (gg_V wm44 wm45 wm46 wm11 wm47) rfl rfl rfl (yv_of rfl yd_Mod_isMore) ⟨Nat.le_of_ble_eq_true rfl, Nat.le_of_ble_eq_true rfl⟩) [0, 1, 2, 3, 4, 5, 6, 7] rfl (by decide) 0 rfl rfl rfl rfl rfl (Nat.le_of_ble_eq_true rfl) dX5_take_181 ⟨Nat.le_of_ble_eq_true rfl, Nat.le_of_ble_eq_true rfl⟩) rfl rfl (by decide) (by decide) (by decide) (fun _ => rfl) (fun r u hu => ?_)
                obtain rfl := hu.symm
                refine g_if_eq (pc := 184) (tgt := 191) Z dX5_take_184 (by decide) (fun c83 => ?_) (fun c83 => ?_)
                · replace hf := gIfN (bI_z c83) hf
                  refine g_iconst (pc := 191) (v := 0) Z dX5_take_191 (by decide) ?_
                  refine g_iadd (pc := 192) Z dX5_take_192 ?_
                  refine g_istore (pc := 193) (lv' := [(10, .int ((1 : Int32) + (0 : Int32))), (8, .long (((2 : Int64) * y1.toInt64) + (1 : Int64))), (6, .long ((2 : Int64) * (((x53 - y1) - (1 : Int32)).toInt64))), (5, .int ((y2 + (1 : Int32)) + y1)), (4, .int (1 : Int32)), (3, .int x53), (0, .ref (ad 20)), (1, .int y1), (2, .int y2)]) Z dX5_take_193 (by decide) rfl ?_
                  refine g_aload_n (pc := 195) Z 6 dX5_take_195 rfl ?_
                  refine g_get (pc := 196) (v := .int vM.2.2.2.2.2.2.2.2.1) (T := TX5) (N := 21) Z 0 8 dX5_take_196 (mm wm5) inx_X5 rfl (by decide) rfl rfl rfl ?_
                  refine g_iload (pc := 199) Z 0 dX5_take_199 rfl ?_
                  refine g_iadd (pc := 201) Z dX5_take_201 ?_
                  refine g_bipush (pc := 202) (v := 96) Z dX5_take_202 (by decide) ?_
                  refine g_icmp_le (pc := 204) (tgt := 209) Z dX5_take_204 (by decide) (fun c84 => ?_) (fun c84 => ?_)
                  · replace hf := gIfP c84 hf
                    refine g_iload (pc := 209) Z 4 dX5_take_209 rfl ?_
                    refine g_if_eq (pc := 211) (tgt := 222) Z dX5_take_211 (by decide) (fun c0 => absurd c0 (by decide)) (fun _ => ?_)
                    refine g_aload_n (pc := 214) Z 6 dX5_take_214 rfl ?_
                    refine g_iload (pc := 215) Z 3 dX5_take_215 rfl ?_
                    refine g_lload (pc := 217) Z 2 dX5_take_217 rfl ?_
                    obtain ⟨x85, h86, hf⟩ := Option.bind_eq_some_iff.mp hf
                    refine g_callv (pc := 219) (ws2 := fun u => (wM ad ca u)) (wr := ([] : va_W)) Z [0, 1, 2, 3, 4, 5, 6, 7] [] [0, 1, 2, 3, 4, 5, 6, 7] (g_runV Z (c_Mod_become l D ad ca vM ((y2 + (1 : Int32)) + y1) ((2 : Int64) * (((x53 - y1) - (1 : Int32)).toInt64)) x85 h86) (cwV 2 Z.2.2.2.2.1 (gg_V wm48 wm49 wm50 wm11 wm51) rfl rfl rfl (yv_of rfl yd_Mod_become) ⟨Nat.le_of_ble_eq_true rfl, Nat.le_of_ble_eq_true rfl⟩) [0, 1, 2, 3, 4, 5, 6, 7] rfl (by decide) 0 rfl rfl rfl rfl rfl (Nat.le_of_ble_eq_true rfl) dX5_take_219 ⟨Nat.le_of_ble_eq_true rfl, Nat.le_of_ble_eq_true rfl⟩) rfl rfl (by decide) (by decide) (by decide) (fun _ => rfl) (fun u hu => ?_)
                    obtain rfl := hu.symm
                    refine g_aload_n (pc := 222) Z 6 dX5_take_222 rfl ?_
                    refine g_iload_n (pc := 223) Z 8 dX5_take_223 rfl ?_
                    refine g_lload (pc := 224) Z 1 dX5_take_224 rfl ?_
                    obtain ⟨x87, h88, hf⟩ := Option.bind_eq_some_iff.mp hf
                    refine g_callv (pc := 226) (ws2 := fun u => (wM ad ca u)) (wr := ([] : va_W)) Z [0, 1, 2, 3, 4, 5, 6, 7] [] [0, 1, 2, 3, 4, 5, 6, 7] (g_runV Z (c_Mod_become l D ad ca x85 y2 (((2 : Int64) * y1.toInt64) + (1 : Int64)) x87 h88) (cwV 2 Z.2.2.2.2.1 (gg_V wm48 wm49 wm50 wm11 wm51) rfl rfl rfl (yv_of rfl yd_Mod_become) ⟨Nat.le_of_ble_eq_true rfl, Nat.le_of_ble_eq_true rfl⟩) [0, 1, 2, 3, 4, 5, 6, 7] rfl (by decide) 0 rfl rfl rfl rfl rfl (Nat.le_of_ble_eq_true rfl) dX5_take_226 ⟨Nat.le_of_ble_eq_true rfl, Nat.le_of_ble_eq_true rfl⟩) rfl rfl (by decide) (by decide) (by decide) (fun _ => rfl) (fun u hu => ?_)
                    obtain rfl := hu.symm
                    refine g_iload_n (pc := 229) Z 8 dX5_take_229 rfl ?_
                    refine g_iconst (pc := 230) (v := 1) Z dX5_take_230 (by decide) ?_
                    refine g_iadd (pc := 231) Z dX5_take_231 ?_
                    obtain rfl := Option.some.inj hf
                    exact g_iret Z hr dX5_take_232 x87 ⟨rfl, rfl⟩ rfl
                  · replace hf := gIfN c84 hf
                    refine g_iconst (pc := 207) (v := -1) Z dX5_take_207 (by decide) ?_
                    obtain rfl := Option.some.inj hf
                    exact g_iret Z hr dX5_take_208 vM ⟨rfl, rfl⟩ rfl
                · replace hf := gIfP (bI_nz c83) hf
                  refine g_iconst (pc := 187) (v := 1) Z dX5_take_187 (by decide) ?_
                  refine g_goto (pc := 188) (tgt := 192) Z dX5_take_188 (by decide) ?_
                  refine g_iadd (pc := 192) Z dX5_take_192 ?_
                  refine g_istore (pc := 193) (lv' := [(10, .int ((1 : Int32) + (1 : Int32))), (8, .long (((2 : Int64) * y1.toInt64) + (1 : Int64))), (6, .long ((2 : Int64) * (((x53 - y1) - (1 : Int32)).toInt64))), (5, .int ((y2 + (1 : Int32)) + y1)), (4, .int (1 : Int32)), (3, .int x53), (0, .ref (ad 20)), (1, .int y1), (2, .int y2)]) Z dX5_take_193 (by decide) rfl ?_
                  refine g_aload_n (pc := 195) Z 6 dX5_take_195 rfl ?_
                  refine g_get (pc := 196) (v := .int vM.2.2.2.2.2.2.2.2.1) (T := TX5) (N := 21) Z 0 8 dX5_take_196 (mm wm5) inx_X5 rfl (by decide) rfl rfl rfl ?_
                  refine g_iload (pc := 199) Z 0 dX5_take_199 rfl ?_
                  refine g_iadd (pc := 201) Z dX5_take_201 ?_
                  refine g_bipush (pc := 202) (v := 96) Z dX5_take_202 (by decide) ?_
                  refine g_icmp_le (pc := 204) (tgt := 209) Z dX5_take_204 (by decide) (fun c89 => ?_) (fun c89 => ?_)
                  · replace hf := gIfP c89 hf
                    refine g_iload (pc := 209) Z 4 dX5_take_209 rfl ?_
                    refine g_if_eq (pc := 211) (tgt := 222) Z dX5_take_211 (by decide) (fun c0 => absurd c0 (by decide)) (fun _ => ?_)
                    refine g_aload_n (pc := 214) Z 6 dX5_take_214 rfl ?_
                    refine g_iload (pc := 215) Z 3 dX5_take_215 rfl ?_
                    refine g_lload (pc := 217) Z 2 dX5_take_217 rfl ?_
                    obtain ⟨x90, h91, hf⟩ := Option.bind_eq_some_iff.mp hf
                    refine g_callv (pc := 219) (ws2 := fun u => (wM ad ca u)) (wr := ([] : va_W)) Z [0, 1, 2, 3, 4, 5, 6, 7] [] [0, 1, 2, 3, 4, 5, 6, 7] (g_runV Z (c_Mod_become l D ad ca vM ((y2 + (1 : Int32)) + y1) ((2 : Int64) * (((x53 - y1) - (1 : Int32)).toInt64)) x90 h91) (cwV 2 Z.2.2.2.2.1 (gg_V wm48 wm49 wm50 wm11 wm51) rfl rfl rfl (yv_of rfl yd_Mod_become) ⟨Nat.le_of_ble_eq_true rfl, Nat.le_of_ble_eq_true rfl⟩) [0, 1, 2, 3, 4, 5, 6, 7] rfl (by decide) 0 rfl rfl rfl rfl rfl (Nat.le_of_ble_eq_true rfl) dX5_take_219 ⟨Nat.le_of_ble_eq_true rfl, Nat.le_of_ble_eq_true rfl⟩) rfl rfl (by decide) (by decide) (by decide) (fun _ => rfl) (fun u hu => ?_)
                    obtain rfl := hu.symm
                    refine g_aload_n (pc := 222) Z 6 dX5_take_222 rfl ?_
                    refine g_iload_n (pc := 223) Z 8 dX5_take_223 rfl ?_
                    refine g_lload (pc := 224) Z 1 dX5_take_224 rfl ?_
                    obtain ⟨x92, h93, hf⟩ := Option.bind_eq_some_iff.mp hf
                    refine g_callv (pc := 226) (ws2 := fun u => (wM ad ca u)) (wr := ([] : va_W)) Z [0, 1, 2, 3, 4, 5, 6, 7] [] [0, 1, 2, 3, 4, 5, 6, 7] (g_runV Z (c_Mod_become l D ad ca x90 y2 (((2 : Int64) * y1.toInt64) + (1 : Int64)) x92 h93) (cwV 2 Z.2.2.2.2.1 (gg_V wm48 wm49 wm50 wm11 wm51) rfl rfl rfl (yv_of rfl yd_Mod_become) ⟨Nat.le_of_ble_eq_true rfl, Nat.le_of_ble_eq_true rfl⟩) [0, 1, 2, 3, 4, 5, 6, 7] rfl (by decide) 0 rfl rfl rfl rfl rfl (Nat.le_of_ble_eq_true rfl) dX5_take_226 ⟨Nat.le_of_ble_eq_true rfl, Nat.le_of_ble_eq_true rfl⟩) rfl rfl (by decide) (by decide) (by decide) (fun _ => rfl) (fun u hu => ?_)
                    obtain rfl := hu.symm
                    refine g_iload_n (pc := 229) Z 8 dX5_take_229 rfl ?_
                    refine g_iconst (pc := 230) (v := 1) Z dX5_take_230 (by decide) ?_
                    refine g_iadd (pc := 231) Z dX5_take_231 ?_
                    obtain rfl := Option.some.inj hf
                    exact g_iret Z hr dX5_take_232 x92 ⟨rfl, rfl⟩ rfl
                  · replace hf := gIfN c89 hf
                    refine g_iconst (pc := 207) (v := -1) Z dX5_take_207 (by decide) ?_
                    obtain rfl := Option.some.inj hf
                    exact g_iret Z hr dX5_take_208 vM ⟨rfl, rfl⟩ rfl
          · replace hf := gIfN c52 hf
            refine g_iconst (pc := 89) (v := -1) Z dX5_take_89 (by decide) ?_
            obtain rfl := Option.some.inj hf
            exact g_iret Z hr dX5_take_90 vM ⟨rfl, rfl⟩ rfl
        · replace hf := gIfN c51 hf
          refine g_iload_n (pc := 69) Z 2 dX5_take_69 rfl ?_
          refine g_aload_n (pc := 70) Z 0 dX5_take_70 rfl ?_
          refine g_iload_n (pc := 71) Z 2 dX5_take_71 rfl ?_
          obtain ⟨x94, h95, hf⟩ := Option.bind_eq_some_iff.mp hf
          refine g_calli (pc := 72) (ws2 := fun u => (wM ad ca vM)) (wr := ([] : va_W)) Z [0, 1, 2, 3, 4, 5, 6, 7] [] [0, 1, 2, 3, 4, 5, 6, 7] (g_runV Z (c_Mod_sizeAt l D ad ca vM y2 x94 h95) (cwV 1 Z.2.2.2.2.1 (gg_V wm40 wm41 wm42 wm11 wm43) rfl rfl rfl (yv_of rfl yd_Mod_sizeAt) ⟨Nat.le_of_ble_eq_true rfl, Nat.le_of_ble_eq_true rfl⟩) [0, 1, 2, 3, 4, 5, 6, 7] rfl (by decide) 0 rfl rfl rfl rfl rfl (Nat.le_of_ble_eq_true rfl) dX5_take_72 ⟨Nat.le_of_ble_eq_true rfl, Nat.le_of_ble_eq_true rfl⟩) rfl rfl (by decide) (by decide) (by decide) (fun _ => rfl) (fun r u hu => ?_)
          obtain rfl := hu.symm
          refine g_iconst (pc := 75) (v := 1) Z dX5_take_75 (by decide) ?_
          refine g_iadd (pc := 76) Z dX5_take_76 ?_
          refine g_iadd (pc := 77) Z dX5_take_77 ?_
          refine g_istore_n (pc := 78) (lv' := [(2, .int (y2 + (x94 + (1 : Int32)))), (0, .ref (ad 20)), (1, .int y1)]) Z dX5_take_78 (by decide) rfl ?_
          refine g_goto (pc := 79) (tgt := 45) Z dX5_take_79 (by decide) ?_
          refine g_locals (lv2 := [(0, .ref (ad 20)), (1, .int y1), (2, .int (y2 + (x94 + (1 : Int32))))]) [1, 2, 0] rfl ?_
          exact ih _ _ _ hf
set_option maxHeartbeats 4000000 in
set_option maxRecDepth 100000 in
theorem c_Mod_take (l : Launch) (D : va_G) (ad : Nat → Nat) (ca : Nat → ClassId) (N : Nat) (vM : MT) (p1 : Int32) (res : Int32 × MT) (hf : f_Mod_take N vM p1 = some res) (sz : Nat) : Met l yX5_take (cd_Mod_take :: gA) rm_Mod_take (va_Pc [.ref (ad 20), .int p1] (gP D cls (tys ca) (wM ad ca vM) sz)) (q_Mod_take D ad ca res (va_A (wM ad ca vM) sz)) 0 0 (va_A (wM ad ca vM) sz) := by
  refine g_met (cc := cX5_take) (Qc := q_Mod_take D ad ca res) (lv := [(0, .ref (ad 20)), (1, .int p1)]) (own := RX5) (by decide) rfl rfl (Nat.le_of_ble_eq_true rfl) rfl sz ?_
  intro p e s m args below meth c A Z hr hnm
  unfold f_Mod_take at hf
  refine g_aload_n (pc := 0) Z 0 dX5_take_0 rfl ?_
  refine g_aload_n (pc := 1) Z 0 dX5_take_1 rfl ?_
  obtain ⟨x96, h97, hf⟩ := Option.bind_eq_some_iff.mp hf
  refine g_calli (pc := 2) (ws2 := fun u => (wM ad ca vM)) (wr := ([] : va_W)) Z [0, 1, 2, 3, 4, 5, 6, 7] [] [0, 1, 2, 3, 4, 5, 6, 7] (g_runV Z (c_Mod_isShut l D ad ca vM x96 h97) (cwV 0 Z.2.2.2.2.1 (gg_V wm57 wm58 wm59 wm11 wm60) rfl rfl rfl (yv_of rfl yd_Mod_isShut) ⟨Nat.le_of_ble_eq_true rfl, Nat.le_of_ble_eq_true rfl⟩) [0, 1, 2, 3, 4, 5, 6, 7] rfl (by decide) 0 rfl rfl rfl rfl rfl (Nat.le_of_ble_eq_true rfl) dX5_take_2 ⟨Nat.le_of_ble_eq_true rfl, Nat.le_of_ble_eq_true rfl⟩) rfl rfl (by decide) (by decide) (by decide) (fun _ => rfl) (fun r u hu => ?_)
  obtain rfl := hu.symm
  refine g_if_eq (pc := 5) (tgt := 12) Z dX5_take_5 (by decide) (fun c98 => ?_) (fun c98 => ?_)
  · replace hf := gIfN (bI_z c98) hf
    refine g_iload_n (pc := 12) Z 1 dX5_take_12 rfl ?_
    refine g_iconst (pc := 13) (v := 1) Z dX5_take_13 (by decide) ?_
    refine g_icmp_lt (pc := 14) (tgt := 24) Z dX5_take_14 (by decide) (fun c99 => ?_) (fun c99 => ?_)
    · replace hf := gIfP c99 hf
      refine g_iconst (pc := 24) (v := 2) Z dX5_take_24 (by decide) ?_
      refine g_goto (pc := 25) (tgt := 29) Z dX5_take_25 (by decide) ?_
      refine g_put (pc := 29) (T := TX5) (N := 21) (ws' := (wM ad ca (vM.1, vM.2.1, vM.2.2.1, vM.2.2.2.1, vM.2.2.2.2.1, vM.2.2.2.2.2.1, vM.2.2.2.2.2.2.1, vM.2.2.2.2.2.2.2.1, vM.2.2.2.2.2.2.2.2.1, vM.2.2.2.2.2.2.2.2.2.1, vM.2.2.2.2.2.2.2.2.2.2.1, vM.2.2.2.2.2.2.2.2.2.2.2.1, vM.2.2.2.2.2.2.2.2.2.2.2.2.1, vM.2.2.2.2.2.2.2.2.2.2.2.2.2.1, vM.2.2.2.2.2.2.2.2.2.2.2.2.2.2.1, vM.2.2.2.2.2.2.2.2.2.2.2.2.2.2.2.1, vM.2.2.2.2.2.2.2.2.2.2.2.2.2.2.2.2.1, vM.2.2.2.2.2.2.2.2.2.2.2.2.2.2.2.2.2.1, vM.2.2.2.2.2.2.2.2.2.2.2.2.2.2.2.2.2.2.1, vM.2.2.2.2.2.2.2.2.2.2.2.2.2.2.2.2.2.2.2.1, (2 : Int32)))) Z 0 20 dX5_take_29 (mm wm0) inx_X5 tyX5_ok nmX5 rfl (by decide) rfl rfl rfl rfl rfl rfl (Nat.le_of_ble_eq_true rfl) rfl ?_
      refine g_aload_n (pc := 32) Z 0 dX5_take_32 rfl ?_
      refine g_get (pc := 33) (v := .int (2 : Int32)) (T := TX5) (N := 21) Z 0 20 dX5_take_33 (mm wm0) inx_X5 rfl (by decide) rfl rfl rfl ?_
      refine g_if_le (pc := 36) (tgt := 41) Z dX5_take_36 (by decide) (fun c0 => absurd c0 (by decide)) (fun _ => ?_)
      refine g_iconst (pc := 39) (v := 0) Z dX5_take_39 (by decide) ?_
      obtain rfl := Option.some.inj hf
      exact g_iret Z hr dX5_take_40 (vM.1, vM.2.1, vM.2.2.1, vM.2.2.2.1, vM.2.2.2.2.1, vM.2.2.2.2.2.1, vM.2.2.2.2.2.2.1, vM.2.2.2.2.2.2.2.1, vM.2.2.2.2.2.2.2.2.1, vM.2.2.2.2.2.2.2.2.2.1, vM.2.2.2.2.2.2.2.2.2.2.1, vM.2.2.2.2.2.2.2.2.2.2.2.1, vM.2.2.2.2.2.2.2.2.2.2.2.2.1, vM.2.2.2.2.2.2.2.2.2.2.2.2.2.1, vM.2.2.2.2.2.2.2.2.2.2.2.2.2.2.1, vM.2.2.2.2.2.2.2.2.2.2.2.2.2.2.2.1, vM.2.2.2.2.2.2.2.2.2.2.2.2.2.2.2.2.1, vM.2.2.2.2.2.2.2.2.2.2.2.2.2.2.2.2.2.1, vM.2.2.2.2.2.2.2.2.2.2.2.2.2.2.2.2.2.2.1, vM.2.2.2.2.2.2.2.2.2.2.2.2.2.2.2.2.2.2.2.1, (2 : Int32)) ⟨rfl, rfl⟩ rfl
    · replace hf := gIfN c99 hf
      refine g_iload_n (pc := 17) Z 1 dX5_take_17 rfl ?_
      refine g_sipush (pc := 18) (v := 847) Z dX5_take_18 (by decide) ?_
      refine g_icmp_le (pc := 21) (tgt := 28) Z dX5_take_21 (by decide) (fun c100 => ?_) (fun c100 => ?_)
      · replace hf := gIfP c100 hf
        refine g_iconst (pc := 28) (v := 0) Z dX5_take_28 (by decide) ?_
        refine g_put (pc := 29) (T := TX5) (N := 21) (ws' := (wM ad ca (vM.1, vM.2.1, vM.2.2.1, vM.2.2.2.1, vM.2.2.2.2.1, vM.2.2.2.2.2.1, vM.2.2.2.2.2.2.1, vM.2.2.2.2.2.2.2.1, vM.2.2.2.2.2.2.2.2.1, vM.2.2.2.2.2.2.2.2.2.1, vM.2.2.2.2.2.2.2.2.2.2.1, vM.2.2.2.2.2.2.2.2.2.2.2.1, vM.2.2.2.2.2.2.2.2.2.2.2.2.1, vM.2.2.2.2.2.2.2.2.2.2.2.2.2.1, vM.2.2.2.2.2.2.2.2.2.2.2.2.2.2.1, vM.2.2.2.2.2.2.2.2.2.2.2.2.2.2.2.1, vM.2.2.2.2.2.2.2.2.2.2.2.2.2.2.2.2.1, vM.2.2.2.2.2.2.2.2.2.2.2.2.2.2.2.2.2.1, vM.2.2.2.2.2.2.2.2.2.2.2.2.2.2.2.2.2.2.1, vM.2.2.2.2.2.2.2.2.2.2.2.2.2.2.2.2.2.2.2.1, (0 : Int32)))) Z 0 20 dX5_take_29 (mm wm0) inx_X5 tyX5_ok nmX5 rfl (by decide) rfl rfl rfl rfl rfl rfl (Nat.le_of_ble_eq_true rfl) rfl ?_
        refine g_aload_n (pc := 32) Z 0 dX5_take_32 rfl ?_
        refine g_get (pc := 33) (v := .int (0 : Int32)) (T := TX5) (N := 21) Z 0 20 dX5_take_33 (mm wm0) inx_X5 rfl (by decide) rfl rfl rfl ?_
        refine g_if_le (pc := 36) (tgt := 41) Z dX5_take_36 (by decide) (fun _ => ?_) (fun c0 => absurd c0 (by decide))
        refine g_sipush (pc := 41) (v := 176) Z dX5_take_41 (by decide) ?_
        refine g_istore_n (pc := 44) (lv' := [(2, .int (176 : Int32)), (0, .ref (ad 20)), (1, .int p1)]) Z dX5_take_44 (by decide) rfl ?_
        refine g_locals (lv2 := [(0, .ref (ad 20)), (1, .int p1), (2, .int (176 : Int32))]) [1, 2, 0] rfl ?_
        exact w_Mod_take_45 Z hr N _ _ _ hf
      · replace hf := gIfN c100 hf
        refine g_iconst (pc := 24) (v := 2) Z dX5_take_24 (by decide) ?_
        refine g_goto (pc := 25) (tgt := 29) Z dX5_take_25 (by decide) ?_
        refine g_put (pc := 29) (T := TX5) (N := 21) (ws' := (wM ad ca (vM.1, vM.2.1, vM.2.2.1, vM.2.2.2.1, vM.2.2.2.2.1, vM.2.2.2.2.2.1, vM.2.2.2.2.2.2.1, vM.2.2.2.2.2.2.2.1, vM.2.2.2.2.2.2.2.2.1, vM.2.2.2.2.2.2.2.2.2.1, vM.2.2.2.2.2.2.2.2.2.2.1, vM.2.2.2.2.2.2.2.2.2.2.2.1, vM.2.2.2.2.2.2.2.2.2.2.2.2.1, vM.2.2.2.2.2.2.2.2.2.2.2.2.2.1, vM.2.2.2.2.2.2.2.2.2.2.2.2.2.2.1, vM.2.2.2.2.2.2.2.2.2.2.2.2.2.2.2.1, vM.2.2.2.2.2.2.2.2.2.2.2.2.2.2.2.2.1, vM.2.2.2.2.2.2.2.2.2.2.2.2.2.2.2.2.2.1, vM.2.2.2.2.2.2.2.2.2.2.2.2.2.2.2.2.2.2.1, vM.2.2.2.2.2.2.2.2.2.2.2.2.2.2.2.2.2.2.2.1, (2 : Int32)))) Z 0 20 dX5_take_29 (mm wm0) inx_X5 tyX5_ok nmX5 rfl (by decide) rfl rfl rfl rfl rfl rfl (Nat.le_of_ble_eq_true rfl) rfl ?_
        refine g_aload_n (pc := 32) Z 0 dX5_take_32 rfl ?_
        refine g_get (pc := 33) (v := .int (2 : Int32)) (T := TX5) (N := 21) Z 0 20 dX5_take_33 (mm wm0) inx_X5 rfl (by decide) rfl rfl rfl ?_
        refine g_if_le (pc := 36) (tgt := 41) Z dX5_take_36 (by decide) (fun c0 => absurd c0 (by decide)) (fun _ => ?_)
        refine g_iconst (pc := 39) (v := 0) Z dX5_take_39 (by decide) ?_
        obtain rfl := Option.some.inj hf
        exact g_iret Z hr dX5_take_40 (vM.1, vM.2.1, vM.2.2.1, vM.2.2.2.1, vM.2.2.2.2.1, vM.2.2.2.2.2.1, vM.2.2.2.2.2.2.1, vM.2.2.2.2.2.2.2.1, vM.2.2.2.2.2.2.2.2.1, vM.2.2.2.2.2.2.2.2.2.1, vM.2.2.2.2.2.2.2.2.2.2.1, vM.2.2.2.2.2.2.2.2.2.2.2.1, vM.2.2.2.2.2.2.2.2.2.2.2.2.1, vM.2.2.2.2.2.2.2.2.2.2.2.2.2.1, vM.2.2.2.2.2.2.2.2.2.2.2.2.2.2.1, vM.2.2.2.2.2.2.2.2.2.2.2.2.2.2.2.1, vM.2.2.2.2.2.2.2.2.2.2.2.2.2.2.2.2.1, vM.2.2.2.2.2.2.2.2.2.2.2.2.2.2.2.2.2.1, vM.2.2.2.2.2.2.2.2.2.2.2.2.2.2.2.2.2.2.1, vM.2.2.2.2.2.2.2.2.2.2.2.2.2.2.2.2.2.2.2.1, (2 : Int32)) ⟨rfl, rfl⟩ rfl
  · replace hf := gIfP (bI_nz c98) hf
    refine g_iconst (pc := 8) (v := 1) Z dX5_take_8 (by decide) ?_
    refine g_goto (pc := 9) (tgt := 29) Z dX5_take_9 (by decide) ?_
    refine g_put (pc := 29) (T := TX5) (N := 21) (ws' := (wM ad ca (vM.1, vM.2.1, vM.2.2.1, vM.2.2.2.1, vM.2.2.2.2.1, vM.2.2.2.2.2.1, vM.2.2.2.2.2.2.1, vM.2.2.2.2.2.2.2.1, vM.2.2.2.2.2.2.2.2.1, vM.2.2.2.2.2.2.2.2.2.1, vM.2.2.2.2.2.2.2.2.2.2.1, vM.2.2.2.2.2.2.2.2.2.2.2.1, vM.2.2.2.2.2.2.2.2.2.2.2.2.1, vM.2.2.2.2.2.2.2.2.2.2.2.2.2.1, vM.2.2.2.2.2.2.2.2.2.2.2.2.2.2.1, vM.2.2.2.2.2.2.2.2.2.2.2.2.2.2.2.1, vM.2.2.2.2.2.2.2.2.2.2.2.2.2.2.2.2.1, vM.2.2.2.2.2.2.2.2.2.2.2.2.2.2.2.2.2.1, vM.2.2.2.2.2.2.2.2.2.2.2.2.2.2.2.2.2.2.1, vM.2.2.2.2.2.2.2.2.2.2.2.2.2.2.2.2.2.2.2.1, (1 : Int32)))) Z 0 20 dX5_take_29 (mm wm0) inx_X5 tyX5_ok nmX5 rfl (by decide) rfl rfl rfl rfl rfl rfl (Nat.le_of_ble_eq_true rfl) rfl ?_
    refine g_aload_n (pc := 32) Z 0 dX5_take_32 rfl ?_
    refine g_get (pc := 33) (v := .int (1 : Int32)) (T := TX5) (N := 21) Z 0 20 dX5_take_33 (mm wm0) inx_X5 rfl (by decide) rfl rfl rfl ?_
    refine g_if_le (pc := 36) (tgt := 41) Z dX5_take_36 (by decide) (fun c0 => absurd c0 (by decide)) (fun _ => ?_)
    refine g_iconst (pc := 39) (v := 0) Z dX5_take_39 (by decide) ?_
    obtain rfl := Option.some.inj hf
    exact g_iret Z hr dX5_take_40 (vM.1, vM.2.1, vM.2.2.1, vM.2.2.2.1, vM.2.2.2.2.1, vM.2.2.2.2.2.1, vM.2.2.2.2.2.2.1, vM.2.2.2.2.2.2.2.1, vM.2.2.2.2.2.2.2.2.1, vM.2.2.2.2.2.2.2.2.2.1, vM.2.2.2.2.2.2.2.2.2.2.1, vM.2.2.2.2.2.2.2.2.2.2.2.1, vM.2.2.2.2.2.2.2.2.2.2.2.2.1, vM.2.2.2.2.2.2.2.2.2.2.2.2.2.1, vM.2.2.2.2.2.2.2.2.2.2.2.2.2.2.1, vM.2.2.2.2.2.2.2.2.2.2.2.2.2.2.2.1, vM.2.2.2.2.2.2.2.2.2.2.2.2.2.2.2.2.1, vM.2.2.2.2.2.2.2.2.2.2.2.2.2.2.2.2.2.1, vM.2.2.2.2.2.2.2.2.2.2.2.2.2.2.2.2.2.2.1, vM.2.2.2.2.2.2.2.2.2.2.2.2.2.2.2.2.2.2.2.1, (1 : Int32)) ⟨rfl, rfl⟩ rfl
