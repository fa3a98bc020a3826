/-! RedoHeapModel.block(II)I -/
def f_Mod_block_45 (N : Nat) : Nat → MT → Int32 → Int32 → Int32 → Int32 → Option (Int32 × MT)
  | 0, _, _, _, _, _ => none
  | n + 1, vM, y1, y2, y3, y4 => if (1024 : Int32) ≤ y3 then if y1 < 0 then some ((-1 : Int32), vM) else if y3 < (1024 : Int32) then if y2 = 0 then some (y3 + (1 : Int32), vM) else if y2 = (1 : Int32) then (f_Mod_sizeAt vM y3).bind fun x9 => some (x9, vM) else (f_Mod_isUsedAt vM y3).bind fun x6 => if x6 = true then some ((1 : Int32), vM) else some ((0 : Int32), vM) else some ((-1 : Int32), vM) else if y1 ≤ y4 then if y1 < 0 then some ((-1 : Int32), vM) else if y3 < (1024 : Int32) then if y2 = 0 then some (y3 + (1 : Int32), vM) else if y2 = (1 : Int32) then (f_Mod_sizeAt vM y3).bind fun x19 => some (x19, vM) else (f_Mod_isUsedAt vM y3).bind fun x16 => if x16 = true then some ((1 : Int32), vM) else some ((0 : Int32), vM) else some ((-1 : Int32), vM) else (f_Mod_sizeAt vM y3).bind fun x21 => f_Mod_block_45 N n vM y1 y2 (y3 + (x21 + (1 : Int32))) (y4 + (1 : Int32))
def f_Mod_block (N : Nat) (vM : MT) (p1 : Int32) (p2 : Int32) : Option (Int32 × MT) :=
  if vM.2.2.2.2.2.2.2.2.2.1 = true then if p2 < 0 then some ((0 : Int32), (vM.1, vM.2.1, vM.2.2.1, vM.2.2.2.1, vM.2.2.2.2.1, vM.2.2.2.2.2.1, vM.2.2.2.2.2.2.1, vM.2.2.2.2.2.2.2.1, vM.2.2.2.2.2.2.2.2.1, vM.2.2.2.2.2.2.2.2.2.1, vM.2.2.2.2.2.2.2.2.2.2.1, vM.2.2.2.2.2.2.2.2.2.2.2.1, vM.2.2.2.2.2.2.2.2.2.2.2.2.1, vM.2.2.2.2.2.2.2.2.2.2.2.2.2.1, vM.2.2.2.2.2.2.2.2.2.2.2.2.2.2.1, vM.2.2.2.2.2.2.2.2.2.2.2.2.2.2.2.1, vM.2.2.2.2.2.2.2.2.2.2.2.2.2.2.2.2.1, vM.2.2.2.2.2.2.2.2.2.2.2.2.2.2.2.2.2.1, vM.2.2.2.2.2.2.2.2.2.2.2.2.2.2.2.2.2.2.1, vM.2.2.2.2.2.2.2.2.2.2.2.2.2.2.2.2.2.2.2.1, (2 : Int32))) else if p2 ≤ (2 : Int32) then f_Mod_block_45 N N (vM.1, vM.2.1, vM.2.2.1, vM.2.2.2.1, vM.2.2.2.2.1, vM.2.2.2.2.2.1, vM.2.2.2.2.2.2.1, vM.2.2.2.2.2.2.2.1, vM.2.2.2.2.2.2.2.2.1, vM.2.2.2.2.2.2.2.2.2.1, vM.2.2.2.2.2.2.2.2.2.2.1, vM.2.2.2.2.2.2.2.2.2.2.2.1, vM.2.2.2.2.2.2.2.2.2.2.2.2.1, vM.2.2.2.2.2.2.2.2.2.2.2.2.2.1, vM.2.2.2.2.2.2.2.2.2.2.2.2.2.2.1, vM.2.2.2.2.2.2.2.2.2.2.2.2.2.2.2.1, vM.2.2.2.2.2.2.2.2.2.2.2.2.2.2.2.2.1, vM.2.2.2.2.2.2.2.2.2.2.2.2.2.2.2.2.2.1, vM.2.2.2.2.2.2.2.2.2.2.2.2.2.2.2.2.2.2.1, vM.2.2.2.2.2.2.2.2.2.2.2.2.2.2.2.2.2.2.2.1, (0 : Int32)) p1 p2 (176 : Int32) (0 : Int32) else some ((0 : Int32), (vM.1, vM.2.1, vM.2.2.1, vM.2.2.2.1, vM.2.2.2.2.1, vM.2.2.2.2.2.1, vM.2.2.2.2.2.2.1, vM.2.2.2.2.2.2.2.1, vM.2.2.2.2.2.2.2.2.1, vM.2.2.2.2.2.2.2.2.2.1, vM.2.2.2.2.2.2.2.2.2.2.1, vM.2.2.2.2.2.2.2.2.2.2.2.1, vM.2.2.2.2.2.2.2.2.2.2.2.2.1, vM.2.2.2.2.2.2.2.2.2.2.2.2.2.1, vM.2.2.2.2.2.2.2.2.2.2.2.2.2.2.1, vM.2.2.2.2.2.2.2.2.2.2.2.2.2.2.2.1, vM.2.2.2.2.2.2.2.2.2.2.2.2.2.2.2.2.1, vM.2.2.2.2.2.2.2.2.2.2.2.2.2.2.2.2.2.1, vM.2.2.2.2.2.2.2.2.2.2.2.2.2.2.2.2.2.2.1, vM.2.2.2.2.2.2.2.2.2.2.2.2.2.2.2.2.2.2.2.1, (2 : Int32))) else some ((0 : Int32), (vM.1, vM.2.1, vM.2.2.1, vM.2.2.2.1, vM.2.2.2.2.1, vM.2.2.2.2.2.1, vM.2.2.2.2.2.2.1, vM.2.2.2.2.2.2.2.1, vM.2.2.2.2.2.2.2.2.1, vM.2.2.2.2.2.2.2.2.2.1, vM.2.2.2.2.2.2.2.2.2.2.1, vM.2.2.2.2.2.2.2.2.2.2.2.1, vM.2.2.2.2.2.2.2.2.2.2.2.2.1, vM.2.2.2.2.2.2.2.2.2.2.2.2.2.1, vM.2.2.2.2.2.2.2.2.2.2.2.2.2.2.1, vM.2.2.2.2.2.2.2.2.2.2.2.2.2.2.2.1, vM.2.2.2.2.2.2.2.2.2.2.2.2.2.2.2.2.1, vM.2.2.2.2.2.2.2.2.2.2.2.2.2.2.2.2.2.1, vM.2.2.2.2.2.2.2.2.2.2.2.2.2.2.2.2.2.2.1, vM.2.2.2.2.2.2.2.2.2.2.2.2.2.2.2.2.2.2.2.1, (1 : Int32)))
abbrev cd_Mod_block : Cond := .code yX5_block cX5_block 5 (some .int)
theorem yd_Mod_block : yX5_block.cls ≠ "java/lang/invoke/MethodHandle" ∧ yX5_block.cls ≠ "java/lang/invoke/VarHandle" ∧ (parseMethodDescriptor yX5_block.desc).map (fun d => d.parameters.length) = some 2 := by decide +kernel
abbrev rm_Mod_block : Room := { frames := 2, cells := 0, slots := 0, locals := 42 }
abbrev q_Mod_block (D : va_G) (ad : Nat → Nat) (ca : Nat → ClassId) (res : Int32 × MT) (A : Nat → Prop) : Array Value → State → Outcome → State → Prop := va_Qi (fun (r : Int32) (u : MT) => r = res.1 ∧ u = res.2) (gB D cls (tys ca) A (fun (u : MT) => (wM ad ca u))) A
set_option maxHeartbeats 4000000 in
set_option maxRecDepth 100000 in
theorem w_Mod_block_45 {p : Program} {l : Launch} {e : Env} {s : State} {m : MethodId} {args : Array Value} {below : List Frame} {meth : Method} {c : Code} {D : va_G} {ad : Nat → Nat} {ca : Nat → ClassId} {A : Nat → Prop} {N : Nat} {res : Int32 × MT} (Z : gZ p s m args meth c cX5_block 5 RX5 (cd_Mod_block :: gA) A D cls (tys ca)) (hr : meth.sig.returnType = (some .int)) : ∀ (n : Nat) (vM : MT) (y1 : Int32) (y2 : Int32) (y3 : Int32) (y4 : Int32), f_Mod_block_45 N n vM y1 y2 y3 y4 = some res → gW p l e rm_Mod_block s m args below meth c 5 A D cls 0 0 (MQ below (q_Mod_block D ad ca res A) args s 0 0 A) (wM ad ca vM) [(0, .ref (ad 20)), (1, .int y1), (2, .int y2), (3, .int y3), (4, .int y4)] 45 [] := by
  intro n
  induction n with
  | zero =>
    intro vM y1 y2 y3 y4 hf
    exact absurd hf (by rw [f_Mod_block_45]; exact fun h => by cases h)
  | succ n ih =>
    intro vM y1 y2 y3 y4 hf
    rw [f_Mod_block_45] at hf
    refine g_iload_n (pc := 45) Z 3 dX5_block_45 rfl ?_
    refine g_sipush (pc := 46) (v := 1024) Z dX5_block_46 (by decide) ?_
    refine g_icmp_ge (pc := 49) (tgt := 74) Z dX5_block_49 (by decide) (fun c1 => ?_) (fun c1 => ?_)
    · replace hf := gIfP c1 hf
      refine g_iload_n (pc := 74) Z 1 dX5_block_74 rfl ?_
      refine g_if_lt (pc := 75) (tgt := 85) Z dX5_block_75 (by decide) (fun c2 => ?_) (fun c2 => ?_)
      · replace hf := gIfP c2 hf
        refine g_iconst (pc := 85) (v := -1) Z dX5_block_85 (by decide) ?_
        obtain rfl := Option.some.inj hf
        exact g_iret Z hr dX5_block_86 vM ⟨rfl, rfl⟩ rfl
      · replace hf := gIfN c2 hf
        refine g_iload_n (pc := 78) Z 3 dX5_block_78 rfl ?_
        refine g_sipush (pc := 79) (v := 1024) Z dX5_block_79 (by decide) ?_
        refine g_icmp_lt (pc := 82) (tgt := 87) Z dX5_block_82 (by decide) (fun c3 => ?_) (fun c3 => ?_)
        · replace hf := gIfP c3 hf
          refine g_iload_n (pc := 87) Z 2 dX5_block_87 rfl ?_
          refine g_if_ne (pc := 88) (tgt := 97) Z dX5_block_88 (by decide) (fun c4 => ?_) (fun c4 => ?_)
          · replace hf := gIfN c4 hf
            refine g_iload_n (pc := 97) Z 2 dX5_block_97 rfl ?_
            refine g_iconst (pc := 98) (v := 1) Z dX5_block_98 (by decide) ?_
            refine g_icmp_ne (pc := 99) (tgt := 110) Z dX5_block_99 (by decide) (fun c5 => ?_) (fun c5 => ?_)
            · replace hf := gIfN c5 hf
              refine g_aload_n (pc := 110) Z 0 dX5_block_110 rfl ?_
              refine g_iload_n (pc := 111) Z 3 dX5_block_111 rfl ?_
              obtain ⟨x6, h7, hf⟩ := Option.bind_eq_some_iff.mp hf
              refine g_calli (pc := 112) (ws2 := fun u => (wM ad ca vM)) (wr := ([] : va_W)) Z [0, 1, 2, 3, 4, 5, 6, 7] [] [0, 1, 2, 3, 4, 5, 6, 7] (g_runV Z (c_Mod_isUsedAt l D ad ca vM y3 x6 h7) (cwV 1 Z.2.2.2.2.1 (gg_V wm36 wm37 wm38 wm11 wm39) rfl rfl rfl (yv_of rfl yd_Mod_isUsedAt) ⟨Nat.le_of_ble_eq_true rfl, Nat.le_of_ble_eq_true rfl⟩) [0, 1, 2, 3, 4, 5, 6, 7] rfl (by decide) 0 rfl rfl rfl rfl rfl (Nat.le_of_ble_eq_true rfl) dX5_block_112 ⟨Nat.le_of_ble_eq_true rfl, Nat.le_of_ble_eq_true rfl⟩) rfl rfl (by decide) (by decide) (by decide) (fun _ => rfl) (fun r u hu => ?_)
              obtain rfl := hu.symm
              refine g_if_eq (pc := 115) (tgt := 122) Z dX5_block_115 (by decide) (fun c8 => ?_) (fun c8 => ?_)
              · replace hf := gIfN (bI_z c8) hf
                refine g_iconst (pc := 122) (v := 0) Z dX5_block_122 (by decide) ?_
                obtain rfl := Option.some.inj hf
                exact g_iret Z hr dX5_block_123 vM ⟨rfl, rfl⟩ rfl
              · replace hf := gIfP (bI_nz c8) hf
                refine g_iconst (pc := 118) (v := 1) Z dX5_block_118 (by decide) ?_
                refine g_goto (pc := 119) (tgt := 123) Z dX5_block_119 (by decide) ?_
                obtain rfl := Option.some.inj hf
                exact g_iret Z hr dX5_block_123 vM ⟨rfl, rfl⟩ rfl
            · replace hf := gIfP c5 hf
              refine g_aload_n (pc := 102) Z 0 dX5_block_102 rfl ?_
              refine g_iload_n (pc := 103) Z 3 dX5_block_103 rfl ?_
              obtain ⟨x9, h10, hf⟩ := Option.bind_eq_some_iff.mp hf
              refine g_calli (pc := 104) (ws2 := fun u => (wM ad ca vM)) (wr := ([] : va_W)) Z [0, 1, 2, 3, 4, 5, 6, 7] [] [0, 1, 2, 3, 4, 5, 6, 7] (g_runV Z (c_Mod_sizeAt l D ad ca vM y3 x9 h10) (cwV 1 Z.2.2.2.2.1 (gg_V wm40 wm41 wm42 wm11 wm43) rfl rfl rfl (yv_of rfl yd_Mod_sizeAt) ⟨Nat.le_of_ble_eq_true rfl, Nat.le_of_ble_eq_true rfl⟩) [0, 1, 2, 3, 4, 5, 6, 7] rfl (by decide) 0 rfl rfl rfl rfl rfl (Nat.le_of_ble_eq_true rfl) dX5_block_104 ⟨Nat.le_of_ble_eq_true rfl, Nat.le_of_ble_eq_true rfl⟩) rfl rfl (by decide) (by decide) (by decide) (fun _ => rfl) (fun r u hu => ?_)
              obtain rfl := hu.symm
              refine g_goto (pc := 107) (tgt := 123) Z dX5_block_107 (by decide) ?_
              obtain rfl := Option.some.inj hf
              exact g_iret Z hr dX5_block_123 vM ⟨rfl, rfl⟩ rfl
          · replace hf := gIfP c4 hf
            refine g_iload_n (pc := 91) Z 3 dX5_block_91 rfl ?_
            refine g_iconst (pc := 92) (v := 1) Z dX5_block_92 (by decide) ?_
            refine g_iadd (pc := 93) Z dX5_block_93 ?_
            refine g_goto (pc := 94) (tgt := 123) Z dX5_block_94 (by decide) ?_
            obtain rfl := Option.some.inj hf
            exact g_iret Z hr dX5_block_123 vM ⟨rfl, rfl⟩ rfl
        · replace hf := gIfN c3 hf
          refine g_iconst (pc := 85) (v := -1) Z dX5_block_85 (by decide) ?_
          obtain rfl := Option.some.inj hf
          exact g_iret Z hr dX5_block_86 vM ⟨rfl, rfl⟩ rfl
    · replace hf := gIfN c1 hf
      refine g_iload (pc := 52) Z 4 dX5_block_52 rfl ?_
      refine g_iload_n (pc := 54) Z 1 dX5_block_54 rfl ?_
      refine g_icmp_ge (pc := 55) (tgt := 74) Z dX5_block_55 (by decide) (fun c11 => ?_) (fun c11 => ?_)
      · replace hf := gIfP c11 hf
        refine g_iload_n (pc := 74) Z 1 dX5_block_74 rfl ?_
        refine g_if_lt (pc := 75) (tgt := 85) Z dX5_block_75 (by decide) (fun c12 => ?_) (fun c12 => ?_)
        · replace hf := gIfP c12 hf
          refine g_iconst (pc := 85) (v := -1) Z dX5_block_85 (by decide) ?_
          obtain rfl := Option.some.inj hf
          exact g_iret Z hr dX5_block_86 vM ⟨rfl, rfl⟩ rfl
        · replace hf := gIfN c12 hf
          refine g_iload_n (pc := 78) Z 3 dX5_block_78 rfl ?_
          refine g_sipush (pc := 79) (v := 1024) Z dX5_block_79 (by decide) ?_
          refine g_icmp_lt (pc := 82) (tgt := 87) Z dX5_block_82 (by decide) (fun c13 => ?_) (fun c13 => ?_)
          · replace hf := gIfP c13 hf
            refine g_iload_n (pc := 87) Z 2 dX5_block_87 rfl ?_
            refine g_if_ne (pc := 88) (tgt := 97) Z dX5_block_88 (by decide) (fun c14 => ?_) (fun c14 => ?_)
            · replace hf := gIfN c14 hf
              refine g_iload_n (pc := 97) Z 2 dX5_block_97 rfl ?_
              refine g_iconst (pc := 98) (v := 1) Z dX5_block_98 (by decide) ?_
              refine g_icmp_ne (pc := 99) (tgt := 110) Z dX5_block_99 (by decide) (fun c15 => ?_) (fun c15 => ?_)
              · replace hf := gIfN c15 hf
                refine g_aload_n (pc := 110) Z 0 dX5_block_110 rfl ?_
                refine g_iload_n (pc := 111) Z 3 dX5_block_111 rfl ?_
                obtain ⟨x16, h17, hf⟩ := Option.bind_eq_some_iff.mp hf
                refine g_calli (pc := 112) (ws2 := fun u => (wM ad ca vM)) (wr := ([] : va_W)) Z [0, 1, 2, 3, 4, 5, 6, 7] [] [0, 1, 2, 3, 4, 5, 6, 7] (g_runV Z (c_Mod_isUsedAt l D ad ca vM y3 x16 h17) (cwV 1 Z.2.2.2.2.1 (gg_V wm36 wm37 wm38 wm11 wm39) rfl rfl rfl (yv_of rfl yd_Mod_isUsedAt) ⟨Nat.le_of_ble_eq_true rfl, Nat.le_of_ble_eq_true rfl⟩) [0, 1, 2, 3, 4, 5, 6, 7] rfl (by decide) 0 rfl rfl rfl rfl rfl (Nat.le_of_ble_eq_true rfl) dX5_block_112 ⟨Nat.le_of_ble_eq_true rfl, Nat.le_of_ble_eq_true rfl⟩) rfl rfl (by decide) (by decide) (by decide) (fun _ => rfl) (fun r u hu => ?_)
                obtain rfl := hu.symm
                refine g_if_eq (pc := 115) (tgt := 122) Z dX5_block_115 (by decide) (fun c18 => ?_) (fun c18 => ?_)
                · replace hf := gIfN (bI_z c18) hf
                  refine g_iconst (pc := 122) (v := 0) Z dX5_block_122 (by decide) ?_
                  obtain rfl := Option.some.inj hf
                  exact g_iret Z hr dX5_block_123 vM ⟨rfl, rfl⟩ rfl
                · replace hf := gIfP (bI_nz c18) hf
                  refine g_iconst (pc := 118) (v := 1) Z dX5_block_118 (by decide) ?_
                  refine g_goto (pc := 119) (tgt := 123) Z dX5_block_119 (by decide) ?_
                  obtain rfl := Option.some.inj hf
                  exact g_iret Z hr dX5_block_123 vM ⟨rfl, rfl⟩ rfl
              · replace hf := gIfP c15 hf
                refine g_aload_n (pc := 102) Z 0 dX5_block_102 rfl ?_
                refine g_iload_n (pc := 103) Z 3 dX5_block_103 rfl ?_
                obtain ⟨x19, h20, hf⟩ := Option.bind_eq_some_iff.mp hf
                refine g_calli (pc := 104) (ws2 := fun u => (wM ad ca vM)) (wr := ([] : va_W)) Z [0, 1, 2, 3, 4, 5, 6, 7] [] [0, 1, 2, 3, 4, 5, 6, 7] (g_runV Z (c_Mod_sizeAt l D ad ca vM y3 x19 h20) (cwV 1 Z.2.2.2.2.1 (gg_V wm40 wm41 wm42 wm11 wm43) rfl rfl rfl (yv_of rfl yd_Mod_sizeAt) ⟨Nat.le_of_ble_eq_true rfl, Nat.le_of_ble_eq_true rfl⟩) [0, 1, 2, 3, 4, 5, 6, 7] rfl (by decide) 0 rfl rfl rfl rfl rfl (Nat.le_of_ble_eq_true rfl) dX5_block_104 ⟨Nat.le_of_ble_eq_true rfl, Nat.le_of_ble_eq_true rfl⟩) rfl rfl (by decide) (by decide) (by decide) (fun _ => rfl) (fun r u hu => ?_)
                obtain rfl := hu.symm
                refine g_goto (pc := 107) (tgt := 123) Z dX5_block_107 (by decide) ?_
                obtain rfl := Option.some.inj hf
                exact g_iret Z hr dX5_block_123 vM ⟨rfl, rfl⟩ rfl
            · replace hf := gIfP c14 hf
              refine g_iload_n (pc := 91) Z 3 dX5_block_91 rfl ?_
              refine g_iconst (pc := 92) (v := 1) Z dX5_block_92 (by decide) ?_
              refine g_iadd (pc := 93) Z dX5_block_93 ?_
              refine g_goto (pc := 94) (tgt := 123) Z dX5_block_94 (by decide) ?_
              obtain rfl := Option.some.inj hf
              exact g_iret Z hr dX5_block_123 vM ⟨rfl, rfl⟩ rfl
          · replace hf := gIfN c13 hf
            refine g_iconst (pc := 85) (v := -1) Z dX5_block_85 (by decide) ?_
            obtain rfl := Option.some.inj hf
            exact g_iret Z hr dX5_block_86 vM ⟨rfl, rfl⟩ rfl
      · replace hf := gIfN c11 hf
        refine g_iload_n (pc := 58) Z 3 dX5_block_58 rfl ?_
        refine g_aload_n (pc := 59) Z 0 dX5_block_59 rfl ?_
        refine g_iload_n (pc := 60) Z 3 dX5_block_60 rfl ?_
        obtain ⟨x21, h22, hf⟩ := Option.bind_eq_some_iff.mp hf
        refine g_calli (pc := 61) (ws2 := fun u => (wM ad ca vM)) (wr := ([] : va_W)) Z [0, 1, 2, 3, 4, 5, 6, 7] [] [0, 1, 2, 3, 4, 5, 6, 7] (g_runV Z (c_Mod_sizeAt l D ad ca vM y3 x21 h22) (cwV 1 Z.2.2.2.2.1 (gg_V wm40 wm41 wm42 wm11 wm43) rfl rfl rfl (yv_of rfl yd_Mod_sizeAt) ⟨Nat.le_of_ble_eq_true rfl, Nat.le_of_ble_eq_true rfl⟩) [0, 1, 2, 3, 4, 5, 6, 7] rfl (by decide) 0 rfl rfl rfl rfl rfl (Nat.le_of_ble_eq_true rfl) dX5_block_61 ⟨Nat.le_of_ble_eq_true rfl, Nat.le_of_ble_eq_true rfl⟩) rfl rfl (by decide) (by decide) (by decide) (fun _ => rfl) (fun r u hu => ?_)
        obtain rfl := hu.symm
        refine g_iconst (pc := 64) (v := 1) Z dX5_block_64 (by decide) ?_
        refine g_iadd (pc := 65) Z dX5_block_65 ?_
        refine g_iadd (pc := 66) Z dX5_block_66 ?_
        refine g_istore_n (pc := 67) (lv' := [(3, .int (y3 + (x21 + (1 : Int32)))), (0, .ref (ad 20)), (1, .int y1), (2, .int y2), (4, .int y4)]) Z dX5_block_67 (by decide) rfl ?_
        refine g_iinc (pc := 68) (v := y4 + (1 : Int32)) (lv' := [(4, .int (y4 + (1 : Int32))), (3, .int (y3 + (x21 + (1 : Int32)))), (0, .ref (ad 20)), (1, .int y1), (2, .int y2)]) Z 4 dX5_block_68 rfl rfl (by decide) rfl ?_
        refine g_goto (pc := 71) (tgt := 45) Z dX5_block_71 (by decide) ?_
        refine g_locals (lv2 := [(0, .ref (ad 20)), (1, .int y1), (2, .int y2), (3, .int (y3 + (x21 + (1 : Int32)))), (4, .int (y4 + (1 : Int32)))]) [2, 3, 4, 1, 0] rfl ?_
        exact ih _ _ _ _ _ hf
set_option maxHeartbeats 4000000 in
set_option maxRecDepth 100000 in
theorem c_Mod_block (l : Launch) (D : va_G) (ad : Nat → Nat) (ca : Nat → ClassId) (N : Nat) (vM : MT) (p1 : Int32) (p2 : Int32) (res : Int32 × MT) (hf : f_Mod_block N vM p1 p2 = some res) (sz : Nat) : Met l yX5_block (cd_Mod_block :: gA) rm_Mod_block (va_Pc [.ref (ad 20), .int p1, .int p2] (gP D cls (tys ca) (wM ad ca vM) sz)) (q_Mod_block D ad ca res (va_A (wM ad ca vM) sz)) 0 0 (va_A (wM ad ca vM) sz) := by
  refine g_met (cc := cX5_block) (Qc := q_Mod_block D ad ca res) (lv := [(0, .ref (ad 20)), (1, .int p1), (2, .int p2)]) (own := RX5) (by decide) rfl rfl (Nat.le_of_ble_eq_true rfl) rfl sz ?_
  intro p e s m args below meth c A Z hr hnm
  unfold f_Mod_block at hf
  refine g_aload_n (pc := 0) Z 0 dX5_block_0 rfl ?_
  refine g_aload_n (pc := 1) Z 0 dX5_block_1 rfl ?_
  refine g_get (pc := 2) (v := .int (bI vM.2.2.2.2.2.2.2.2.2.1)) (T := TX5) (N := 21) Z 0 9 dX5_block_2 (mm wm15) inx_X5 rfl (by decide) rfl rfl rfl ?_
  refine g_if_ne (pc := 5) (tgt := 12) Z dX5_block_5 (by decide) (fun c23 => ?_) (fun c23 => ?_)
  · replace hf := gIfP (bI_nz c23) hf
    refine g_iload_n (pc := 12) Z 2 dX5_block_12 rfl ?_
    refine g_if_lt (pc := 13) (tgt := 21) Z dX5_block_13 (by decide) (fun c24 => ?_) (fun c24 => ?_)
    · replace hf := gIfP c24 hf
      refine g_iconst (pc := 21) (v := 2) Z dX5_block_21 (by decide) ?_
      refine g_goto (pc := 22) (tgt := 26) Z dX5_block_22 (by decide) ?_
      refine g_put (pc := 26) (T := TX5) (N := 21) (ws' := (wM ad ca (vM.1, vM.2.1, vM.2.2.1, vM.2.2.2.1, vM.2.2.2.2.1, vM.2.2.2.2.2.1, vM.2.2.2.2.2.2.1, vM.2.2.2.2.2.2.2.1, vM.2.2.2.2.2.2.2.2.1, vM.2.2.2.2.2.2.2.2.2.1, vM.2.2.2.2.2.2.2.2.2.2.1, vM.2.2.2.2.2.2.2.2.2.2.2.1, vM.2.2.2.2.2.2.2.2.2.2.2.2.1, vM.2.2.2.2.2.2.2.2.2.2.2.2.2.1, vM.2.2.2.2.2.2.2.2.2.2.2.2.2.2.1, vM.2.2.2.2.2.2.2.2.2.2.2.2.2.2.2.1, vM.2.2.2.2.2.2.2.2.2.2.2.2.2.2.2.2.1, vM.2.2.2.2.2.2.2.2.2.2.2.2.2.2.2.2.2.1, vM.2.2.2.2.2.2.2.2.2.2.2.2.2.2.2.2.2.2.1, vM.2.2.2.2.2.2.2.2.2.2.2.2.2.2.2.2.2.2.2.1, (2 : Int32)))) Z 0 20 dX5_block_26 (mm wm0) inx_X5 tyX5_ok nmX5 rfl (by decide) rfl rfl rfl rfl rfl rfl (Nat.le_of_ble_eq_true rfl) rfl ?_
      refine g_aload_n (pc := 29) Z 0 dX5_block_29 rfl ?_
      refine g_get (pc := 30) (v := .int (2 : Int32)) (T := TX5) (N := 21) Z 0 20 dX5_block_30 (mm wm0) inx_X5 rfl (by decide) rfl rfl rfl ?_
      refine g_if_le (pc := 33) (tgt := 38) Z dX5_block_33 (by decide) (fun c0 => absurd c0 (by decide)) (fun _ => ?_)
      refine g_iconst (pc := 36) (v := 0) Z dX5_block_36 (by decide) ?_
      obtain rfl := Option.some.inj hf
      exact g_iret Z hr dX5_block_37 (vM.1, vM.2.1, vM.2.2.1, vM.2.2.2.1, vM.2.2.2.2.1, vM.2.2.2.2.2.1, vM.2.2.2.2.2.2.1, vM.2.2.2.2.2.2.2.1, vM.2.2.2.2.2.2.2.2.1, vM.2.2.2.2.2.2.2.2.2.1, vM.2.2.2.2.2.2.2.2.2.2.1, vM.2.2.2.2.2.2.2.2.2.2.2.1, vM.2.2.2.2.2.2.2.2.2.2.2.2.1, vM.2.2.2.2.2.2.2.2.2.2.2.2.2.1, vM.2.2.2.2.2.2.2.2.2.2.2.2.2.2.1, vM.2.2.2.2.2.2.2.2.2.2.2.2.2.2.2.1, vM.2.2.2.2.2.2.2.2.2.2.2.2.2.2.2.2.1, vM.2.2.2.2.2.2.2.2.2.2.2.2.2.2.2.2.2.1, vM.2.2.2.2.2.2.2.2.2.2.2.2.2.2.2.2.2.2.1, vM.2.2.2.2.2.2.2.2.2.2.2.2.2.2.2.2.2.2.2.1, (2 : Int32)) ⟨rfl, rfl⟩ rfl
    · replace hf := gIfN c24 hf
      refine g_iload_n (pc := 16) Z 2 dX5_block_16 rfl ?_
      refine g_iconst (pc := 17) (v := 2) Z dX5_block_17 (by decide) ?_
      refine g_icmp_le (pc := 18) (tgt := 25) Z dX5_block_18 (by decide) (fun c25 => ?_) (fun c25 => ?_)
      · replace hf := gIfP c25 hf
        refine g_iconst (pc := 25) (v := 0) Z dX5_block_25 (by decide) ?_
        refine g_put (pc := 26) (T := TX5) (N := 21) (ws' := (wM ad ca (vM.1, vM.2.1, vM.2.2.1, vM.2.2.2.1, vM.2.2.2.2.1, vM.2.2.2.2.2.1, vM.2.2.2.2.2.2.1, vM.2.2.2.2.2.2.2.1, vM.2.2.2.2.2.2.2.2.1, vM.2.2.2.2.2.2.2.2.2.1, vM.2.2.2.2.2.2.2.2.2.2.1, vM.2.2.2.2.2.2.2.2.2.2.2.1, vM.2.2.2.2.2.2.2.2.2.2.2.2.1, vM.2.2.2.2.2.2.2.2.2.2.2.2.2.1, vM.2.2.2.2.2.2.2.2.2.2.2.2.2.2.1, vM.2.2.2.2.2.2.2.2.2.2.2.2.2.2.2.1, vM.2.2.2.2.2.2.2.2.2.2.2.2.2.2.2.2.1, vM.2.2.2.2.2.2.2.2.2.2.2.2.2.2.2.2.2.1, vM.2.2.2.2.2.2.2.2.2.2.2.2.2.2.2.2.2.2.1, vM.2.2.2.2.2.2.2.2.2.2.2.2.2.2.2.2.2.2.2.1, (0 : Int32)))) Z 0 20 dX5_block_26 (mm wm0) inx_X5 tyX5_ok nmX5 rfl (by decide) rfl rfl rfl rfl rfl rfl (Nat.le_of_ble_eq_true rfl) rfl ?_
        refine g_aload_n (pc := 29) Z 0 dX5_block_29 rfl ?_
        refine g_get (pc := 30) (v := .int (0 : Int32)) (T := TX5) (N := 21) Z 0 20 dX5_block_30 (mm wm0) inx_X5 rfl (by decide) rfl rfl rfl ?_
        refine g_if_le (pc := 33) (tgt := 38) Z dX5_block_33 (by decide) (fun _ => ?_) (fun c0 => absurd c0 (by decide))
        refine g_sipush (pc := 38) (v := 176) Z dX5_block_38 (by decide) ?_
        refine g_istore_n (pc := 41) (lv' := [(3, .int (176 : Int32)), (0, .ref (ad 20)), (1, .int p1), (2, .int p2)]) Z dX5_block_41 (by decide) rfl ?_
        refine g_iconst (pc := 42) (v := 0) Z dX5_block_42 (by decide) ?_
        refine g_istore (pc := 43) (lv' := [(4, .int (0 : Int32)), (3, .int (176 : Int32)), (0, .ref (ad 20)), (1, .int p1), (2, .int p2)]) Z dX5_block_43 (by decide) rfl ?_
        refine g_locals (lv2 := [(0, .ref (ad 20)), (1, .int p1), (2, .int p2), (3, .int (176 : Int32)), (4, .int (0 : Int32))]) [2, 3, 4, 1, 0] rfl ?_
        exact w_Mod_block_45 Z hr N _ _ _ _ _ hf
      · replace hf := gIfN c25 hf
        refine g_iconst (pc := 21) (v := 2) Z dX5_block_21 (by decide) ?_
        refine g_goto (pc := 22) (tgt := 26) Z dX5_block_22 (by decide) ?_
        refine g_put (pc := 26) (T := TX5) (N := 21) (ws' := (wM ad ca (vM.1, vM.2.1, vM.2.2.1, vM.2.2.2.1, vM.2.2.2.2.1, vM.2.2.2.2.2.1, vM.2.2.2.2.2.2.1, vM.2.2.2.2.2.2.2.1, vM.2.2.2.2.2.2.2.2.1, vM.2.2.2.2.2.2.2.2.2.1, vM.2.2.2.2.2.2.2.2.2.2.1, vM.2.2.2.2.2.2.2.2.2.2.2.1, vM.2.2.2.2.2.2.2.2.2.2.2.2.1, vM.2.2.2.2.2.2.2.2.2.2.2.2.2.1, vM.2.2.2.2.2.2.2.2.2.2.2.2.2.2.1, vM.2.2.2.2.2.2.2.2.2.2.2.2.2.2.2.1, vM.2.2.2.2.2.2.2.2.2.2.2.2.2.2.2.2.1, vM.2.2.2.2.2.2.2.2.2.2.2.2.2.2.2.2.2.1, vM.2.2.2.2.2.2.2.2.2.2.2.2.2.2.2.2.2.2.1, vM.2.2.2.2.2.2.2.2.2.2.2.2.2.2.2.2.2.2.2.1, (2 : Int32)))) Z 0 20 dX5_block_26 (mm wm0) inx_X5 tyX5_ok nmX5 rfl (by decide) rfl rfl rfl rfl rfl rfl (Nat.le_of_ble_eq_true rfl) rfl ?_
        refine g_aload_n (pc := 29) Z 0 dX5_block_29 rfl ?_
        refine g_get (pc := 30) (v := .int (2 : Int32)) (T := TX5) (N := 21) Z 0 20 dX5_block_30 (mm wm0) inx_X5 rfl (by decide) rfl rfl rfl ?_
        refine g_if_le (pc := 33) (tgt := 38) Z dX5_block_33 (by decide) (fun c0 => absurd c0 (by decide)) (fun _ => ?_)
        refine g_iconst (pc := 36) (v := 0) Z dX5_block_36 (by decide) ?_
        obtain rfl := Option.some.inj hf
        exact g_iret Z hr dX5_block_37 (vM.1, vM.2.1, vM.2.2.1, vM.2.2.2.1, vM.2.2.2.2.1, vM.2.2.2.2.2.1, vM.2.2.2.2.2.2.1, vM.2.2.2.2.2.2.2.1, vM.2.2.2.2.2.2.2.2.1, vM.2.2.2.2.2.2.2.2.2.1, vM.2.2.2.2.2.2.2.2.2.2.1, vM.2.2.2.2.2.2.2.2.2.2.2.1, vM.2.2.2.2.2.2.2.2.2.2.2.2.1, vM.2.2.2.2.2.2.2.2.2.2.2.2.2.1, vM.2.2.2.2.2.2.2.2.2.2.2.2.2.2.1, vM.2.2.2.2.2.2.2.2.2.2.2.2.2.2.2.1, vM.2.2.2.2.2.2.2.2.2.2.2.2.2.2.2.2.1, vM.2.2.2.2.2.2.2.2.2.2.2.2.2.2.2.2.2.1, vM.2.2.2.2.2.2.2.2.2.2.2.2.2.2.2.2.2.2.1, vM.2.2.2.2.2.2.2.2.2.2.2.2.2.2.2.2.2.2.2.1, (2 : Int32)) ⟨rfl, rfl⟩ rfl
  · replace hf := gIfN (bI_z c23) hf
    refine g_iconst (pc := 8) (v := 1) Z dX5_block_8 (by decide) ?_
    refine g_goto (pc := 9) (tgt := 26) Z dX5_block_9 (by decide) ?_
    refine g_put (pc := 26) (T := TX5) (N := 21) (ws' := (wM ad ca (vM.1, vM.2.1, vM.2.2.1, vM.2.2.2.1, vM.2.2.2.2.1, vM.2.2.2.2.2.1, vM.2.2.2.2.2.2.1, vM.2.2.2.2.2.2.2.1, vM.2.2.2.2.2.2.2.2.1, vM.2.2.2.2.2.2.2.2.2.1, vM.2.2.2.2.2.2.2.2.2.2.1, vM.2.2.2.2.2.2.2.2.2.2.2.1, vM.2.2.2.2.2.2.2.2.2.2.2.2.1, vM.2.2.2.2.2.2.2.2.2.2.2.2.2.1, vM.2.2.2.2.2.2.2.2.2.2.2.2.2.2.1, vM.2.2.2.2.2.2.2.2.2.2.2.2.2.2.2.1, vM.2.2.2.2.2.2.2.2.2.2.2.2.2.2.2.2.1, vM.2.2.2.2.2.2.2.2.2.2.2.2.2.2.2.2.2.1, vM.2.2.2.2.2.2.2.2.2.2.2.2.2.2.2.2.2.2.1, vM.2.2.2.2.2.2.2.2.2.2.2.2.2.2.2.2.2.2.2.1, (1 : Int32)))) Z 0 20 dX5_block_26 (mm wm0) inx_X5 tyX5_ok nmX5 rfl (by decide) rfl rfl rfl rfl rfl rfl (Nat.le_of_ble_eq_true rfl) rfl ?_
    refine g_aload_n (pc := 29) Z 0 dX5_block_29 rfl ?_
    refine g_get (pc := 30) (v := .int (1 : Int32)) (T := TX5) (N := 21) Z 0 20 dX5_block_30 (mm wm0) inx_X5 rfl (by decide) rfl rfl rfl ?_
    refine g_if_le (pc := 33) (tgt := 38) Z dX5_block_33 (by decide) (fun c0 => absurd c0 (by decide)) (fun _ => ?_)
    refine g_iconst (pc := 36) (v := 0) Z dX5_block_36 (by decide) ?_
    obtain rfl := Option.some.inj hf
    exact g_iret Z hr dX5_block_37 (vM.1, vM.2.1, vM.2.2.1, vM.2.2.2.1, vM.2.2.2.2.1, vM.2.2.2.2.2.1, vM.2.2.2.2.2.2.1, vM.2.2.2.2.2.2.2.1, vM.2.2.2.2.2.2.2.2.1, vM.2.2.2.2.2.2.2.2.2.1, vM.2.2.2.2.2.2.2.2.2.2.1, vM.2.2.2.2.2.2.2.2.2.2.2.1, vM.2.2.2.2.2.2.2.2.2.2.2.2.1, vM.2.2.2.2.2.2.2.2.2.2.2.2.2.1, vM.2.2.2.2.2.2.2.2.2.2.2.2.2.2.1, vM.2.2.2.2.2.2.2.2.2.2.2.2.2.2.2.1, vM.2.2.2.2.2.2.2.2.2.2.2.2.2.2.2.2.1, vM.2.2.2.2.2.2.2.2.2.2.2.2.2.2.2.2.2.1, vM.2.2.2.2.2.2.2.2.2.2.2.2.2.2.2.2.2.2.1, vM.2.2.2.2.2.2.2.2.2.2.2.2.2.2.2.2.2.2.2.1, (1 : Int32)) ⟨rfl, rfl⟩ rfl
