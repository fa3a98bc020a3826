/-! RedoHeapModel.told(I)I -/
def f_Mod_told_51 (N : Nat) : Nat → MT → Int32 → Int32 → Int32 → Int32 → Int32 → Option (Int32 × MT)
  | 0, _, _, _, _, _, _ => none
  | n + 1, vM, y1, y2, y3, y4, y5 => if (1024 : Int32) ≤ y5 then if y1 = (0 : Int32) then some (y2, vM) else if y1 = (1 : Int32) then some (y3, vM) else if y1 = (2 : Int32) then some (y4, vM) else if y1 = (3 : Int32) then some (vM.2.2.2.2.2.2.2.2.2.2.2.1, vM) else if y1 = (4 : Int32) then some (vM.2.2.2.2.2.2.2.2.2.2.2.2.1, vM) else if y1 = (5 : Int32) then if gI (0 : Int32) 1024 = true then some ((vM.2.1 (0 : Int32).toNatClampNeg).toInt32, vM) else none else if y1 = (6 : Int32) then some (vM.2.2.2.2.2.2.2.2.2.2.2.2.2.1.toInt32, vM) else if vM.2.2.2.2.2.2.2.2.2.2.1 = true then some (vM.2.2.2.2.2.2.2.2.1, vM) else some ((0 : Int32), vM) else (f_Mod_sizeAt vM y5).bind fun x11 => (f_Mod_isUsedAt vM y5).bind fun x13 => if x13 = true then f_Mod_told_51 N n vM y1 y2 y3 (y4 + (1 : Int32)) (y5 + (x11 + (1 : Int32))) else if x11 ≤ y3 then f_Mod_told_51 N n vM y1 (y2 + x11) y3 (y4 + (1 : Int32)) (y5 + (x11 + (1 : Int32))) else f_Mod_told_51 N n vM y1 (y2 + x11) x11 (y4 + (1 : Int32)) (y5 + (x11 + (1 : Int32)))
def f_Mod_told (N : Nat) (vM : MT) (p1 : Int32) : Option (Int32 × MT) :=
  if vM.2.2.2.2.2.2.2.2.2.1 = true then if p1 < 0 then some ((0 : Int32), (vM.1, vM.2.1, vM.2.2.1, vM.2.2.2.1, vM.2.2.2.2.1, vM.2.2.2.2.2.1, vM.2.2.2.2.2.2.1, vM.2.2.2.2.2.2.2.1, vM.2.2.2.2.2.2.2.2.1, vM.2.2.2.2.2.2.2.2.2.1, vM.2.2.2.2.2.2.2.2.2.2.1, vM.2.2.2.2.2.2.2.2.2.2.2.1, vM.2.2.2.2.2.2.2.2.2.2.2.2.1, vM.2.2.2.2.2.2.2.2.2.2.2.2.2.1, vM.2.2.2.2.2.2.2.2.2.2.2.2.2.2.1, vM.2.2.2.2.2.2.2.2.2.2.2.2.2.2.2.1, vM.2.2.2.2.2.2.2.2.2.2.2.2.2.2.2.2.1, vM.2.2.2.2.2.2.2.2.2.2.2.2.2.2.2.2.2.1, vM.2.2.2.2.2.2.2.2.2.2.2.2.2.2.2.2.2.2.1, vM.2.2.2.2.2.2.2.2.2.2.2.2.2.2.2.2.2.2.2.1, (2 : Int32))) else if p1 ≤ (7 : Int32) then f_Mod_told_51 N N (vM.1, vM.2.1, vM.2.2.1, vM.2.2.2.1, vM.2.2.2.2.1, vM.2.2.2.2.2.1, vM.2.2.2.2.2.2.1, vM.2.2.2.2.2.2.2.1, vM.2.2.2.2.2.2.2.2.1, vM.2.2.2.2.2.2.2.2.2.1, vM.2.2.2.2.2.2.2.2.2.2.1, vM.2.2.2.2.2.2.2.2.2.2.2.1, vM.2.2.2.2.2.2.2.2.2.2.2.2.1, vM.2.2.2.2.2.2.2.2.2.2.2.2.2.1, vM.2.2.2.2.2.2.2.2.2.2.2.2.2.2.1, vM.2.2.2.2.2.2.2.2.2.2.2.2.2.2.2.1, vM.2.2.2.2.2.2.2.2.2.2.2.2.2.2.2.2.1, vM.2.2.2.2.2.2.2.2.2.2.2.2.2.2.2.2.2.1, vM.2.2.2.2.2.2.2.2.2.2.2.2.2.2.2.2.2.2.1, vM.2.2.2.2.2.2.2.2.2.2.2.2.2.2.2.2.2.2.2.1, (0 : Int32)) p1 (0 : Int32) (0 : Int32) (0 : Int32) (176 : Int32) else some ((0 : Int32), (vM.1, vM.2.1, vM.2.2.1, vM.2.2.2.1, vM.2.2.2.2.1, vM.2.2.2.2.2.1, vM.2.2.2.2.2.2.1, vM.2.2.2.2.2.2.2.1, vM.2.2.2.2.2.2.2.2.1, vM.2.2.2.2.2.2.2.2.2.1, vM.2.2.2.2.2.2.2.2.2.2.1, vM.2.2.2.2.2.2.2.2.2.2.2.1, vM.2.2.2.2.2.2.2.2.2.2.2.2.1, vM.2.2.2.2.2.2.2.2.2.2.2.2.2.1, vM.2.2.2.2.2.2.2.2.2.2.2.2.2.2.1, vM.2.2.2.2.2.2.2.2.2.2.2.2.2.2.2.1, vM.2.2.2.2.2.2.2.2.2.2.2.2.2.2.2.2.1, vM.2.2.2.2.2.2.2.2.2.2.2.2.2.2.2.2.2.1, vM.2.2.2.2.2.2.2.2.2.2.2.2.2.2.2.2.2.2.1, vM.2.2.2.2.2.2.2.2.2.2.2.2.2.2.2.2.2.2.2.1, (2 : Int32))) else some ((0 : Int32), (vM.1, vM.2.1, vM.2.2.1, vM.2.2.2.1, vM.2.2.2.2.1, vM.2.2.2.2.2.1, vM.2.2.2.2.2.2.1, vM.2.2.2.2.2.2.2.1, vM.2.2.2.2.2.2.2.2.1, vM.2.2.2.2.2.2.2.2.2.1, vM.2.2.2.2.2.2.2.2.2.2.1, vM.2.2.2.2.2.2.2.2.2.2.2.1, vM.2.2.2.2.2.2.2.2.2.2.2.2.1, vM.2.2.2.2.2.2.2.2.2.2.2.2.2.1, vM.2.2.2.2.2.2.2.2.2.2.2.2.2.2.1, vM.2.2.2.2.2.2.2.2.2.2.2.2.2.2.2.1, vM.2.2.2.2.2.2.2.2.2.2.2.2.2.2.2.2.1, vM.2.2.2.2.2.2.2.2.2.2.2.2.2.2.2.2.2.1, vM.2.2.2.2.2.2.2.2.2.2.2.2.2.2.2.2.2.2.1, vM.2.2.2.2.2.2.2.2.2.2.2.2.2.2.2.2.2.2.2.1, (1 : Int32)))
abbrev cd_Mod_told : Cond := .code yX5_told cX5_told 7 (some .int)
theorem yd_Mod_told : yX5_told.cls ≠ "java/lang/invoke/MethodHandle" ∧ yX5_told.cls ≠ "java/lang/invoke/VarHandle" ∧ (parseMethodDescriptor yX5_told.desc).map (fun d => d.parameters.length) = some 1 := by decide +kernel
abbrev rm_Mod_told : Room := { frames := 2, cells := 0, slots := 0, locals := 42 }
abbrev q_Mod_told (D : va_G) (ad : Nat → Nat) (ca : Nat → ClassId) (res : Int32 × MT) (A : Nat → Prop) : Array Value → State → Outcome → State → Prop := va_Qi (fun (r : Int32) (u : MT) => r = res.1 ∧ u = res.2) (gB D cls (tys ca) A (fun (u : MT) => (wM ad ca u))) A
set_option maxHeartbeats 4000000 in
set_option maxRecDepth 100000 in
theorem w_Mod_told_51 {p : Program} {l : Launch} {e : Env} {s : State} {m : MethodId} {args : Array Value} {below : List Frame} {meth : Method} {c : Code} {D : va_G} {ad : Nat → Nat} {ca : Nat → ClassId} {A : Nat → Prop} {N : Nat} {res : Int32 × MT} (Z : gZ p s m args meth c cX5_told 7 RX5 (cd_Mod_told :: gA) A D cls (tys ca)) (hr : meth.sig.returnType = (some .int)) : ∀ (n : Nat) (vM : MT) (y1 : Int32) (y2 : Int32) (y3 : Int32) (y4 : Int32) (y5 : Int32), f_Mod_told_51 N n vM y1 y2 y3 y4 y5 = some res → gW p l e rm_Mod_told s m args below meth c 7 A D cls 0 0 (MQ below (q_Mod_told D ad ca res A) args s 0 0 A) (wM ad ca vM) [(0, .ref (ad 20)), (1, .int y1), (2, .int y2), (3, .int y3), (4, .int y4), (5, .int y5)] 51 [] := by
  intro n
  induction n with
  | zero =>
    intro vM y1 y2 y3 y4 y5 hf
    exact absurd hf (by rw [f_Mod_told_51]; exact fun h => by cases h)
  | succ n ih =>
    intro vM y1 y2 y3 y4 y5 hf
    rw [f_Mod_told_51] at hf
    refine g_iload (pc := 51) Z 5 dX5_told_51 rfl ?_
    refine g_sipush (pc := 53) (v := 1024) Z dX5_told_53 (by decide) ?_
    refine g_icmp_ge (pc := 56) (tgt := 109) Z dX5_told_56 (by decide) (fun c1 => ?_) (fun c1 => ?_)
    · replace hf := gIfP c1 hf
      refine g_iload_n (pc := 109) Z 1 dX5_told_109 rfl ?_
      by_cases c2 : y1 = (0 : Int32)
      · replace hf := gIfP c2 hf
        refine g_tabIn (pc := 110) (tgt := 152) Z dX5_told_110 c2 (by decide) (by decide) rfl (by decide) ?_
        refine g_iload_n (pc := 152) Z 2 dX5_told_152 rfl ?_
        obtain rfl := Option.some.inj hf
        exact g_iret Z hr dX5_told_153 vM ⟨rfl, rfl⟩ rfl
      · replace hf := gIfN c2 hf
        by_cases c3 : y1 = (1 : Int32)
        · replace hf := gIfP c3 hf
          refine g_tabIn (pc := 110) (tgt := 154) Z dX5_told_110 c3 (by decide) (by decide) rfl (by decide) ?_
          refine g_iload_n (pc := 154) Z 3 dX5_told_154 rfl ?_
          obtain rfl := Option.some.inj hf
          exact g_iret Z hr dX5_told_155 vM ⟨rfl, rfl⟩ rfl
        · replace hf := gIfN c3 hf
          by_cases c4 : y1 = (2 : Int32)
          · replace hf := gIfP c4 hf
            refine g_tabIn (pc := 110) (tgt := 156) Z dX5_told_110 c4 (by decide) (by decide) rfl (by decide) ?_
            refine g_iload (pc := 156) Z 4 dX5_told_156 rfl ?_
            obtain rfl := Option.some.inj hf
            exact g_iret Z hr dX5_told_158 vM ⟨rfl, rfl⟩ rfl
          · replace hf := gIfN c4 hf
            by_cases c5 : y1 = (3 : Int32)
            · replace hf := gIfP c5 hf
              refine g_tabIn (pc := 110) (tgt := 159) Z dX5_told_110 c5 (by decide) (by decide) rfl (by decide) ?_
              refine g_aload_n (pc := 159) Z 0 dX5_told_159 rfl ?_
              refine g_get (pc := 160) (v := .int vM.2.2.2.2.2.2.2.2.2.2.2.1) (T := TX5) (N := 21) Z 0 11 dX5_told_160 (mm wm75) inx_X5 rfl (by decide) rfl rfl rfl ?_
              obtain rfl := Option.some.inj hf
              exact g_iret Z hr dX5_told_163 vM ⟨rfl, rfl⟩ rfl
            · replace hf := gIfN c5 hf
              by_cases c6 : y1 = (4 : Int32)
              · replace hf := gIfP c6 hf
                refine g_tabIn (pc := 110) (tgt := 164) Z dX5_told_110 c6 (by decide) (by decide) rfl (by decide) ?_
                refine g_aload_n (pc := 164) Z 0 dX5_told_164 rfl ?_
                refine g_get (pc := 165) (v := .int vM.2.2.2.2.2.2.2.2.2.2.2.2.1) (T := TX5) (N := 21) Z 0 12 dX5_told_165 (mm wm76) inx_X5 rfl (by decide) rfl rfl rfl ?_
                obtain rfl := Option.some.inj hf
                exact g_iret Z hr dX5_told_168 vM ⟨rfl, rfl⟩ rfl
              · replace hf := gIfN c6 hf
                by_cases c7 : y1 = (5 : Int32)
                · replace hf := gIfP c7 hf
                  refine g_tabIn (pc := 110) (tgt := 169) Z dX5_told_110 c7 (by decide) (by decide) rfl (by decide) ?_
                  refine g_aload_n (pc := 169) Z 0 dX5_told_169 rfl ?_
                  refine g_get (pc := 170) (v := .ref (ad 22)) (T := TX5) (N := 21) Z 0 1 dX5_told_170 (mm wm21) inx_X5 rfl (by decide) rfl rfl rfl ?_
                  refine g_iconst (pc := 173) (v := 0) Z dX5_told_173 (by decide) ?_
                  obtain ⟨b8, hf⟩ := gGuard hf
                  refine g_lald (pc := 174) (f := vM.2.1) Z 2 0 dX5_told_174 rfl rfl (gI_in b8) ?_
                  refine g_l2i (pc := 175) Z dX5_told_175 ?_
                  obtain rfl := Option.some.inj hf
                  exact g_iret Z hr dX5_told_176 vM ⟨rfl, rfl⟩ rfl
                · replace hf := gIfN c7 hf
                  by_cases c9 : y1 = (6 : Int32)
                  · replace hf := gIfP c9 hf
                    refine g_tabIn (pc := 110) (tgt := 177) Z dX5_told_110 c9 (by decide) (by decide) rfl (by decide) ?_
                    refine g_aload_n (pc := 177) Z 0 dX5_told_177 rfl ?_
                    refine g_get (pc := 178) (v := .long vM.2.2.2.2.2.2.2.2.2.2.2.2.2.1) (T := TX5) (N := 21) Z 0 13 dX5_told_178 (mm wm52) inx_X5 rfl (by decide) rfl rfl rfl ?_
                    refine g_l2i (pc := 181) Z dX5_told_181 ?_
                    obtain rfl := Option.some.inj hf
                    exact g_iret Z hr dX5_told_182 vM ⟨rfl, rfl⟩ rfl
                  · replace hf := gIfN c9 hf
                    refine g_tabOut (pc := 110) (tgt := 183) Z dX5_told_110 (by have q0 := lv_neT (a := 0) c2 (by decide); have q1 := lv_neT (a := 1) c3 (by decide); have q2 := lv_neT (a := 2) c4 (by decide); have q3 := lv_neT (a := 3) c5 (by decide); have q4 := lv_neT (a := 4) c6 (by decide); have q5 := lv_neT (a := 5) c7 (by decide); have q6 := lv_neT (a := 6) c9 (by decide); omega) (by decide) ?_
                    refine g_aload_n (pc := 183) Z 0 dX5_told_183 rfl ?_
                    refine g_get (pc := 184) (v := .int (bI vM.2.2.2.2.2.2.2.2.2.2.1)) (T := TX5) (N := 21) Z 0 10 dX5_told_184 (mm wm4) inx_X5 rfl (by decide) rfl rfl rfl ?_
                    refine g_if_eq (pc := 187) (tgt := 197) Z dX5_told_187 (by decide) (fun c10 => ?_) (fun c10 => ?_)
                    · replace hf := gIfN (bI_z c10) hf
                      refine g_iconst (pc := 197) (v := 0) Z dX5_told_197 (by decide) ?_
                      obtain rfl := Option.some.inj hf
                      exact g_iret Z hr dX5_told_198 vM ⟨rfl, rfl⟩ rfl
                    · replace hf := gIfP (bI_nz c10) hf
                      refine g_aload_n (pc := 190) Z 0 dX5_told_190 rfl ?_
                      refine g_get (pc := 191) (v := .int vM.2.2.2.2.2.2.2.2.1) (T := TX5) (N := 21) Z 0 8 dX5_told_191 (mm wm5) inx_X5 rfl (by decide) rfl rfl rfl ?_
                      refine g_goto (pc := 194) (tgt := 198) Z dX5_told_194 (by decide) ?_
                      obtain rfl := Option.some.inj hf
                      exact g_iret Z hr dX5_told_198 vM ⟨rfl, rfl⟩ rfl
    · replace hf := gIfN c1 hf
      refine g_aload_n (pc := 59) Z 0 dX5_told_59 rfl ?_
      refine g_iload (pc := 60) Z 5 dX5_told_60 rfl ?_
      obtain ⟨x11, h12, hf⟩ := Option.bind_eq_some_iff.mp hf
      refine g_calli (pc := 62) (ws2 := fun u => (wM ad ca vM)) (wr := ([] : va_W)) Z [0, 1, 2, 3, 4, 5, 6, 7] [] [0, 1, 2, 3, 4, 5, 6, 7] (g_runV Z (c_Mod_sizeAt l D ad ca vM y5 x11 h12) (cwV 1 Z.2.2.2.2.1 (gg_V wm40 wm41 wm42 wm11 wm43) rfl rfl rfl (yv_of rfl yd_Mod_sizeAt) ⟨Nat.le_of_ble_eq_true rfl, Nat.le_of_ble_eq_true rfl⟩) [0, 1, 2, 3, 4, 5, 6, 7] rfl (by decide) 0 rfl rfl rfl rfl rfl (Nat.le_of_ble_eq_true rfl) dX5_told_62 ⟨Nat.le_of_ble_eq_true rfl, Nat.le_of_ble_eq_true rfl⟩) rfl rfl (by decide) (by decide) (by decide) (fun _ => rfl) (fun r u hu => ?_)
      obtain rfl := hu.symm
      refine g_istore (pc := 65) (lv' := [(6, .int x11), (0, .ref (ad 20)), (1, .int y1), (2, .int y2), (3, .int y3), (4, .int y4), (5, .int y5)]) Z dX5_told_65 (by decide) rfl ?_
      refine g_aload_n (pc := 67) Z 1 dX5_told_67 rfl ?_
      refine g_iload (pc := 68) Z 6 dX5_told_68 rfl ?_
      obtain ⟨x13, h14, hf⟩ := Option.bind_eq_some_iff.mp hf
      refine g_calli (pc := 70) (ws2 := fun u => (wM ad ca vM)) (wr := ([] : va_W)) Z [0, 1, 2, 3, 4, 5, 6, 7] [] [0, 1, 2, 3, 4, 5, 6, 7] (g_runV Z (c_Mod_isUsedAt l D ad ca vM y5 x13 h14) (cwV 1 Z.2.2.2.2.1 (gg_V wm36 wm37 wm38 wm11 wm39) rfl rfl rfl (yv_of rfl yd_Mod_isUsedAt) ⟨Nat.le_of_ble_eq_true rfl, Nat.le_of_ble_eq_true rfl⟩) [0, 1, 2, 3, 4, 5, 6, 7] rfl (by decide) 0 rfl rfl rfl rfl rfl (Nat.le_of_ble_eq_true rfl) dX5_told_70 ⟨Nat.le_of_ble_eq_true rfl, Nat.le_of_ble_eq_true rfl⟩) rfl rfl (by decide) (by decide) (by decide) (fun _ => rfl) (fun r u hu => ?_)
      obtain rfl := hu.symm
      refine g_if_ne (pc := 73) (tgt := 94) Z dX5_told_73 (by decide) (fun c15 => ?_) (fun c15 => ?_)
      · replace hf := gIfP (bI_nz c15) hf
        refine g_iinc (pc := 94) (v := y4 + (1 : Int32)) (lv' := [(4, .int (y4 + (1 : Int32))), (6, .int x11), (0, .ref (ad 20)), (1, .int y1), (2, .int y2), (3, .int y3), (5, .int y5)]) Z 5 dX5_told_94 rfl rfl (by decide) rfl ?_
        refine g_iload (pc := 97) Z 6 dX5_told_97 rfl ?_
        refine g_iload (pc := 99) Z 1 dX5_told_99 rfl ?_
        refine g_iconst (pc := 101) (v := 1) Z dX5_told_101 (by decide) ?_
        refine g_iadd (pc := 102) Z dX5_told_102 ?_
        refine g_iadd (pc := 103) Z dX5_told_103 ?_
        refine g_istore (pc := 104) (lv' := [(5, .int (y5 + (x11 + (1 : Int32)))), (4, .int (y4 + (1 : Int32))), (6, .int x11), (0, .ref (ad 20)), (1, .int y1), (2, .int y2), (3, .int y3)]) Z dX5_told_104 (by decide) rfl ?_
        refine g_goto (pc := 106) (tgt := 51) Z dX5_told_106 (by decide) ?_
        refine g_locals (lv2 := [(0, .ref (ad 20)), (1, .int y1), (2, .int y2), (3, .int y3), (4, .int (y4 + (1 : Int32))), (5, .int (y5 + (x11 + (1 : Int32))))]) [3, 4, 5, 6, 1, 0] rfl ?_
        exact ih _ _ _ _ _ _ hf
      · replace hf := gIfN (bI_z c15) hf
        refine g_iload_n (pc := 76) Z 3 dX5_told_76 rfl ?_
        refine g_iload (pc := 77) Z 0 dX5_told_77 rfl ?_
        refine g_iadd (pc := 79) Z dX5_told_79 ?_
        refine g_istore_n (pc := 80) (lv' := [(2, .int (y2 + x11)), (6, .int x11), (0, .ref (ad 20)), (1, .int y1), (3, .int y3), (4, .int y4), (5, .int y5)]) Z dX5_told_80 (by decide) rfl ?_
        refine g_iload (pc := 81) Z 1 dX5_told_81 rfl ?_
        refine g_iload_n (pc := 83) Z 4 dX5_told_83 rfl ?_
        refine g_icmp_le (pc := 84) (tgt := 92) Z dX5_told_84 (by decide) (fun c16 => ?_) (fun c16 => ?_)
        · replace hf := gIfP c16 hf
          refine g_iload_n (pc := 92) Z 4 dX5_told_92 rfl ?_
          refine g_istore_n (pc := 93) (lv' := [(3, .int y3), (2, .int (y2 + x11)), (6, .int x11), (0, .ref (ad 20)), (1, .int y1), (4, .int y4), (5, .int y5)]) Z dX5_told_93 (by decide) rfl ?_
          refine g_iinc (pc := 94) (v := y4 + (1 : Int32)) (lv' := [(4, .int (y4 + (1 : Int32))), (3, .int y3), (2, .int (y2 + x11)), (6, .int x11), (0, .ref (ad 20)), (1, .int y1), (5, .int y5)]) Z 5 dX5_told_94 rfl rfl (by decide) rfl ?_
          refine g_iload (pc := 97) Z 6 dX5_told_97 rfl ?_
          refine g_iload (pc := 99) Z 3 dX5_told_99 rfl ?_
          refine g_iconst (pc := 101) (v := 1) Z dX5_told_101 (by decide) ?_
          refine g_iadd (pc := 102) Z dX5_told_102 ?_
          refine g_iadd (pc := 103) Z dX5_told_103 ?_
          refine g_istore (pc := 104) (lv' := [(5, .int (y5 + (x11 + (1 : Int32)))), (4, .int (y4 + (1 : Int32))), (3, .int y3), (2, .int (y2 + x11)), (6, .int x11), (0, .ref (ad 20)), (1, .int y1)]) Z dX5_told_104 (by decide) rfl ?_
          refine g_goto (pc := 106) (tgt := 51) Z dX5_told_106 (by decide) ?_
          refine g_locals (lv2 := [(0, .ref (ad 20)), (1, .int y1), (2, .int (y2 + x11)), (3, .int y3), (4, .int (y4 + (1 : Int32))), (5, .int (y5 + (x11 + (1 : Int32))))]) [5, 6, 3, 2, 1, 0] rfl ?_
          exact ih _ _ _ _ _ _ hf
        · replace hf := gIfN c16 hf
          refine g_iload (pc := 87) Z 1 dX5_told_87 rfl ?_
          refine g_goto (pc := 89) (tgt := 93) Z dX5_told_89 (by decide) ?_
          refine g_istore_n (pc := 93) (lv' := [(3, .int x11), (2, .int (y2 + x11)), (6, .int x11), (0, .ref (ad 20)), (1, .int y1), (4, .int y4), (5, .int y5)]) Z dX5_told_93 (by decide) rfl ?_
          refine g_iinc (pc := 94) (v := y4 + (1 : Int32)) (lv' := [(4, .int (y4 + (1 : Int32))), (3, .int x11), (2, .int (y2 + x11)), (6, .int x11), (0, .ref (ad 20)), (1, .int y1), (5, .int y5)]) Z 5 dX5_told_94 rfl rfl (by decide) rfl ?_
          refine g_iload (pc := 97) Z 6 dX5_told_97 rfl ?_
          refine g_iload (pc := 99) Z 3 dX5_told_99 rfl ?_
          refine g_iconst (pc := 101) (v := 1) Z dX5_told_101 (by decide) ?_
          refine g_iadd (pc := 102) Z dX5_told_102 ?_
          refine g_iadd (pc := 103) Z dX5_told_103 ?_
          refine g_istore (pc := 104) (lv' := [(5, .int (y5 + (x11 + (1 : Int32)))), (4, .int (y4 + (1 : Int32))), (3, .int x11), (2, .int (y2 + x11)), (6, .int x11), (0, .ref (ad 20)), (1, .int y1)]) Z dX5_told_104 (by decide) rfl ?_
          refine g_goto (pc := 106) (tgt := 51) Z dX5_told_106 (by decide) ?_
          refine g_locals (lv2 := [(0, .ref (ad 20)), (1, .int y1), (2, .int (y2 + x11)), (3, .int x11), (4, .int (y4 + (1 : Int32))), (5, .int (y5 + (x11 + (1 : Int32))))]) [5, 6, 3, 2, 1, 0] rfl ?_
          exact ih _ _ _ _ _ _ hf
set_option maxHeartbeats 4000000 in
set_option maxRecDepth 100000 in
theorem c_Mod_told (l : Launch) (D : va_G) (ad : Nat → Nat) (ca : Nat → ClassId) (N : Nat) (vM : MT) (p1 : Int32) (res : Int32 × MT) (hf : f_Mod_told N vM p1 = some res) (sz : Nat) : Met l yX5_told (cd_Mod_told :: gA) rm_Mod_told (va_Pc [.ref (ad 20), .int p1] (gP D cls (tys ca) (wM ad ca vM) sz)) (q_Mod_told D ad ca res (va_A (wM ad ca vM) sz)) 0 0 (va_A (wM ad ca vM) sz) := by
  refine g_met (cc := cX5_told) (Qc := q_Mod_told D ad ca res) (lv := [(0, .ref (ad 20)), (1, .int p1)]) (own := RX5) (by decide) rfl rfl (Nat.le_of_ble_eq_true rfl) rfl sz ?_
  intro p e s m args below meth c A Z hr hnm
  unfold f_Mod_told at hf
  refine g_aload_n (pc := 0) Z 0 dX5_told_0 rfl ?_
  refine g_aload_n (pc := 1) Z 0 dX5_told_1 rfl ?_
  refine g_get (pc := 2) (v := .int (bI vM.2.2.2.2.2.2.2.2.2.1)) (T := TX5) (N := 21) Z 0 9 dX5_told_2 (mm wm15) inx_X5 rfl (by decide) rfl rfl rfl ?_
  refine g_if_ne (pc := 5) (tgt := 12) Z dX5_told_5 (by decide) (fun c17 => ?_) (fun c17 => ?_)
  · replace hf := gIfP (bI_nz c17) hf
    refine g_iload_n (pc := 12) Z 1 dX5_told_12 rfl ?_
    refine g_if_lt (pc := 13) (tgt := 22) Z dX5_told_13 (by decide) (fun c18 => ?_) (fun c18 => ?_)
    · replace hf := gIfP c18 hf
      refine g_iconst (pc := 22) (v := 2) Z dX5_told_22 (by decide) ?_
      refine g_goto (pc := 23) (tgt := 27) Z dX5_told_23 (by decide) ?_
      refine g_put (pc := 27) (T := TX5) (N := 21) (ws' := (wM ad ca (vM.1, vM.2.1, vM.2.2.1, vM.2.2.2.1, vM.2.2.2.2.1, vM.2.2.2.2.2.1, vM.2.2.2.2.2.2.1, vM.2.2.2.2.2.2.2.1, vM.2.2.2.2.2.2.2.2.1, vM.2.2.2.2.2.2.2.2.2.1, vM.2.2.2.2.2.2.2.2.2.2.1, vM.2.2.2.2.2.2.2.2.2.2.2.1, vM.2.2.2.2.2.2.2.2.2.2.2.2.1, vM.2.2.2.2.2.2.2.2.2.2.2.2.2.1, vM.2.2.2.2.2.2.2.2.2.2.2.2.2.2.1, vM.2.2.2.2.2.2.2.2.2.2.2.2.2.2.2.1, vM.2.2.2.2.2.2.2.2.2.2.2.2.2.2.2.2.1, vM.2.2.2.2.2.2.2.2.2.2.2.2.2.2.2.2.2.1, vM.2.2.2.2.2.2.2.2.2.2.2.2.2.2.2.2.2.2.1, vM.2.2.2.2.2.2.2.2.2.2.2.2.2.2.2.2.2.2.2.1, (2 : Int32)))) Z 0 20 dX5_told_27 (mm wm0) inx_X5 tyX5_ok nmX5 rfl (by decide) rfl rfl rfl rfl rfl rfl (Nat.le_of_ble_eq_true rfl) rfl ?_
      refine g_aload_n (pc := 30) Z 0 dX5_told_30 rfl ?_
      refine g_get (pc := 31) (v := .int (2 : Int32)) (T := TX5) (N := 21) Z 0 20 dX5_told_31 (mm wm0) inx_X5 rfl (by decide) rfl rfl rfl ?_
      refine g_if_le (pc := 34) (tgt := 39) Z dX5_told_34 (by decide) (fun c0 => absurd c0 (by decide)) (fun _ => ?_)
      refine g_iconst (pc := 37) (v := 0) Z dX5_told_37 (by decide) ?_
      obtain rfl := Option.some.inj hf
      exact g_iret Z hr dX5_told_38 (vM.1, vM.2.1, vM.2.2.1, vM.2.2.2.1, vM.2.2.2.2.1, vM.2.2.2.2.2.1, vM.2.2.2.2.2.2.1, vM.2.2.2.2.2.2.2.1, vM.2.2.2.2.2.2.2.2.1, vM.2.2.2.2.2.2.2.2.2.1, vM.2.2.2.2.2.2.2.2.2.2.1, vM.2.2.2.2.2.2.2.2.2.2.2.1, vM.2.2.2.2.2.2.2.2.2.2.2.2.1, vM.2.2.2.2.2.2.2.2.2.2.2.2.2.1, vM.2.2.2.2.2.2.2.2.2.2.2.2.2.2.1, vM.2.2.2.2.2.2.2.2.2.2.2.2.2.2.2.1, vM.2.2.2.2.2.2.2.2.2.2.2.2.2.2.2.2.1, vM.2.2.2.2.2.2.2.2.2.2.2.2.2.2.2.2.2.1, vM.2.2.2.2.2.2.2.2.2.2.2.2.2.2.2.2.2.2.1, vM.2.2.2.2.2.2.2.2.2.2.2.2.2.2.2.2.2.2.2.1, (2 : Int32)) ⟨rfl, rfl⟩ rfl
    · replace hf := gIfN c18 hf
      refine g_iload_n (pc := 16) Z 1 dX5_told_16 rfl ?_
      refine g_bipush (pc := 17) (v := 7) Z dX5_told_17 (by decide) ?_
      refine g_icmp_le (pc := 19) (tgt := 26) Z dX5_told_19 (by decide) (fun c19 => ?_) (fun c19 => ?_)
      · replace hf := gIfP c19 hf
        refine g_iconst (pc := 26) (v := 0) Z dX5_told_26 (by decide) ?_
        refine g_put (pc := 27) (T := TX5) (N := 21) (ws' := (wM ad ca (vM.1, vM.2.1, vM.2.2.1, vM.2.2.2.1, vM.2.2.2.2.1, vM.2.2.2.2.2.1, vM.2.2.2.2.2.2.1, vM.2.2.2.2.2.2.2.1, vM.2.2.2.2.2.2.2.2.1, vM.2.2.2.2.2.2.2.2.2.1, vM.2.2.2.2.2.2.2.2.2.2.1, vM.2.2.2.2.2.2.2.2.2.2.2.1, vM.2.2.2.2.2.2.2.2.2.2.2.2.1, vM.2.2.2.2.2.2.2.2.2.2.2.2.2.1, vM.2.2.2.2.2.2.2.2.2.2.2.2.2.2.1, vM.2.2.2.2.2.2.2.2.2.2.2.2.2.2.2.1, vM.2.2.2.2.2.2.2.2.2.2.2.2.2.2.2.2.1, vM.2.2.2.2.2.2.2.2.2.2.2.2.2.2.2.2.2.1, vM.2.2.2.2.2.2.2.2.2.2.2.2.2.2.2.2.2.2.1, vM.2.2.2.2.2.2.2.2.2.2.2.2.2.2.2.2.2.2.2.1, (0 : Int32)))) Z 0 20 dX5_told_27 (mm wm0) inx_X5 tyX5_ok nmX5 rfl (by decide) rfl rfl rfl rfl rfl rfl (Nat.le_of_ble_eq_true rfl) rfl ?_
        refine g_aload_n (pc := 30) Z 0 dX5_told_30 rfl ?_
        refine g_get (pc := 31) (v := .int (0 : Int32)) (T := TX5) (N := 21) Z 0 20 dX5_told_31 (mm wm0) inx_X5 rfl (by decide) rfl rfl rfl ?_
        refine g_if_le (pc := 34) (tgt := 39) Z dX5_told_34 (by decide) (fun _ => ?_) (fun c0 => absurd c0 (by decide))
        refine g_iconst (pc := 39) (v := 0) Z dX5_told_39 (by decide) ?_
        refine g_istore_n (pc := 40) (lv' := [(2, .int (0 : Int32)), (0, .ref (ad 20)), (1, .int p1)]) Z dX5_told_40 (by decide) rfl ?_
        refine g_iconst (pc := 41) (v := 0) Z dX5_told_41 (by decide) ?_
        refine g_istore_n (pc := 42) (lv' := [(3, .int (0 : Int32)), (2, .int (0 : Int32)), (0, .ref (ad 20)), (1, .int p1)]) Z dX5_told_42 (by decide) rfl ?_
        refine g_iconst (pc := 43) (v := 0) Z dX5_told_43 (by decide) ?_
        refine g_istore (pc := 44) (lv' := [(4, .int (0 : Int32)), (3, .int (0 : Int32)), (2, .int (0 : Int32)), (0, .ref (ad 20)), (1, .int p1)]) Z dX5_told_44 (by decide) rfl ?_
        refine g_sipush (pc := 46) (v := 176) Z dX5_told_46 (by decide) ?_
        refine g_istore (pc := 49) (lv' := [(5, .int (176 : Int32)), (4, .int (0 : Int32)), (3, .int (0 : Int32)), (2, .int (0 : Int32)), (0, .ref (ad 20)), (1, .int p1)]) Z dX5_told_49 (by decide) rfl ?_
        refine g_locals (lv2 := [(0, .ref (ad 20)), (1, .int p1), (2, .int (0 : Int32)), (3, .int (0 : Int32)), (4, .int (0 : Int32)), (5, .int (176 : Int32))]) [4, 5, 3, 2, 1, 0] rfl ?_
        exact w_Mod_told_51 Z hr N _ _ _ _ _ _ hf
      · replace hf := gIfN c19 hf
        refine g_iconst (pc := 22) (v := 2) Z dX5_told_22 (by decide) ?_
        refine g_goto (pc := 23) (tgt := 27) Z dX5_told_23 (by decide) ?_
        refine g_put (pc := 27) (T := TX5) (N := 21) (ws' := (wM ad ca (vM.1, vM.2.1, vM.2.2.1, vM.2.2.2.1, vM.2.2.2.2.1, vM.2.2.2.2.2.1, vM.2.2.2.2.2.2.1, vM.2.2.2.2.2.2.2.1, vM.2.2.2.2.2.2.2.2.1, vM.2.2.2.2.2.2.2.2.2.1, vM.2.2.2.2.2.2.2.2.2.2.1, vM.2.2.2.2.2.2.2.2.2.2.2.1, vM.2.2.2.2.2.2.2.2.2.2.2.2.1, vM.2.2.2.2.2.2.2.2.2.2.2.2.2.1, vM.2.2.2.2.2.2.2.2.2.2.2.2.2.2.1, vM.2.2.2.2.2.2.2.2.2.2.2.2.2.2.2.1, vM.2.2.2.2.2.2.2.2.2.2.2.2.2.2.2.2.1, vM.2.2.2.2.2.2.2.2.2.2.2.2.2.2.2.2.2.1, vM.2.2.2.2.2.2.2.2.2.2.2.2.2.2.2.2.2.2.1, vM.2.2.2.2.2.2.2.2.2.2.2.2.2.2.2.2.2.2.2.1, (2 : Int32)))) Z 0 20 dX5_told_27 (mm wm0) inx_X5 tyX5_ok nmX5 rfl (by decide) rfl rfl rfl rfl rfl rfl (Nat.le_of_ble_eq_true rfl) rfl ?_
        refine g_aload_n (pc := 30) Z 0 dX5_told_30 rfl ?_
        refine g_get (pc := 31) (v := .int (2 : Int32)) (T := TX5) (N := 21) Z 0 20 dX5_told_31 (mm wm0) inx_X5 rfl (by decide) rfl rfl rfl ?_
        refine g_if_le (pc := 34) (tgt := 39) Z dX5_told_34 (by decide) (fun c0 => absurd c0 (by decide)) (fun _ => ?_)
        refine g_iconst (pc := 37) (v := 0) Z dX5_told_37 (by decide) ?_
        obtain rfl := Option.some.inj hf
        exact g_iret Z hr dX5_told_38 (vM.1, vM.2.1, vM.2.2.1, vM.2.2.2.1, vM.2.2.2.2.1, vM.2.2.2.2.2.1, vM.2.2.2.2.2.2.1, vM.2.2.2.2.2.2.2.1, vM.2.2.2.2.2.2.2.2.1, vM.2.2.2.2.2.2.2.2.2.1, vM.2.2.2.2.2.2.2.2.2.2.1, vM.2.2.2.2.2.2.2.2.2.2.2.1, vM.2.2.2.2.2.2.2.2.2.2.2.2.1, vM.2.2.2.2.2.2.2.2.2.2.2.2.2.1, vM.2.2.2.2.2.2.2.2.2.2.2.2.2.2.1, vM.2.2.2.2.2.2.2.2.2.2.2.2.2.2.2.1, vM.2.2.2.2.2.2.2.2.2.2.2.2.2.2.2.2.1, vM.2.2.2.2.2.2.2.2.2.2.2.2.2.2.2.2.2.1, vM.2.2.2.2.2.2.2.2.2.2.2.2.2.2.2.2.2.2.1, vM.2.2.2.2.2.2.2.2.2.2.2.2.2.2.2.2.2.2.2.1, (2 : Int32)) ⟨rfl, rfl⟩ rfl
  · replace hf := gIfN (bI_z c17) hf
    refine g_iconst (pc := 8) (v := 1) Z dX5_told_8 (by decide) ?_
    refine g_goto (pc := 9) (tgt := 27) Z dX5_told_9 (by decide) ?_
    refine g_put (pc := 27) (T := TX5) (N := 21) (ws' := (wM ad ca (vM.1, vM.2.1, vM.2.2.1, vM.2.2.2.1, vM.2.2.2.2.1, vM.2.2.2.2.2.1, vM.2.2.2.2.2.2.1, vM.2.2.2.2.2.2.2.1, vM.2.2.2.2.2.2.2.2.1, vM.2.2.2.2.2.2.2.2.2.1, vM.2.2.2.2.2.2.2.2.2.2.1, vM.2.2.2.2.2.2.2.2.2.2.2.1, vM.2.2.2.2.2.2.2.2.2.2.2.2.1, vM.2.2.2.2.2.2.2.2.2.2.2.2.2.1, vM.2.2.2.2.2.2.2.2.2.2.2.2.2.2.1, vM.2.2.2.2.2.2.2.2.2.2.2.2.2.2.2.1, vM.2.2.2.2.2.2.2.2.2.2.2.2.2.2.2.2.1, vM.2.2.2.2.2.2.2.2.2.2.2.2.2.2.2.2.2.1, vM.2.2.2.2.2.2.2.2.2.2.2.2.2.2.2.2.2.2.1, vM.2.2.2.2.2.2.2.2.2.2.2.2.2.2.2.2.2.2.2.1, (1 : Int32)))) Z 0 20 dX5_told_27 (mm wm0) inx_X5 tyX5_ok nmX5 rfl (by decide) rfl rfl rfl rfl rfl rfl (Nat.le_of_ble_eq_true rfl) rfl ?_
    refine g_aload_n (pc := 30) Z 0 dX5_told_30 rfl ?_
    refine g_get (pc := 31) (v := .int (1 : Int32)) (T := TX5) (N := 21) Z 0 20 dX5_told_31 (mm wm0) inx_X5 rfl (by decide) rfl rfl rfl ?_
    refine g_if_le (pc := 34) (tgt := 39) Z dX5_told_34 (by decide) (fun c0 => absurd c0 (by decide)) (fun _ => ?_)
    refine g_iconst (pc := 37) (v := 0) Z dX5_told_37 (by decide) ?_
    obtain rfl := Option.some.inj hf
    exact g_iret Z hr dX5_told_38 (vM.1, vM.2.1, vM.2.2.1, vM.2.2.2.1, vM.2.2.2.2.1, vM.2.2.2.2.2.1, vM.2.2.2.2.2.2.1, vM.2.2.2.2.2.2.2.1, vM.2.2.2.2.2.2.2.2.1, vM.2.2.2.2.2.2.2.2.2.1, vM.2.2.2.2.2.2.2.2.2.2.1, vM.2.2.2.2.2.2.2.2.2.2.2.1, vM.2.2.2.2.2.2.2.2.2.2.2.2.1, vM.2.2.2.2.2.2.2.2.2.2.2.2.2.1, vM.2.2.2.2.2.2.2.2.2.2.2.2.2.2.1, vM.2.2.2.2.2.2.2.2.2.2.2.2.2.2.2.1, vM.2.2.2.2.2.2.2.2.2.2.2.2.2.2.2.2.1, vM.2.2.2.2.2.2.2.2.2.2.2.2.2.2.2.2.2.1, vM.2.2.2.2.2.2.2.2.2.2.2.2.2.2.2.2.2.2.1, vM.2.2.2.2.2.2.2.2.2.2.2.2.2.2.2.2.2.2.2.1, (1 : Int32)) ⟨rfl, rfl⟩ rfl
