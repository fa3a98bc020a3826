theorem wm61 : Cond.methodLink RX5 108 yX5_usedHead ∈ gA := wt4 37 rfl rfl
theorem wm62 : Cond.instanceMethod yX5_usedHead ∈ gA := wt4 39 rfl rfl
theorem wm63 : Cond.selects RX5 yX5_usedHead yX5_usedHead ∈ gA := wtS 23 rfl rfl
theorem wm64 : cd_Mod_usedHead ∈ gA := wt4 40 rfl rfl
theorem wm65 : Cond.methodLink RX5 111 yX5_tryOne ∈ gA := wt4 41 rfl rfl
theorem wm66 : Cond.instanceMethod yX5_tryOne ∈ gA := wt4 43 rfl rfl
theorem wm67 : Cond.selects RX5 yX5_tryOne yX5_tryOne ∈ gA := wtS 24 rfl rfl
theorem wm68 : cd_Mod_tryOne ∈ gA := wt4 44 rfl rfl
/-! RedoHeapModel.give(I)I -/
def f_Mod_give_99 (N : Nat) : Nat → MT → Int32 → Int32 → Int32 → Int32 → Int32 → Int32 → Option (Int32 × MT)
  | 0, _, _, _, _, _, _, _ => none
  | n + 1, vM, y1, y2, y3, y4, y5, y6 => if y2 ≤ y6 then if y5 < 0 then (f_Mod_tryOne vM y2 ((2 : Int64) * y3.toInt64)).bind fun x3 => if x3.1 = true then some (y3, x3.2) else some ((-1 : Int32), x3.2) else (f_Mod_isUsedAt vM y5).bind fun x6 => if x6 = true then (f_Mod_tryOne vM y2 ((2 : Int64) * y3.toInt64)).bind fun x9 => if x9.1 = true then some (y3, x9.2) else some ((-1 : Int32), x9.2) else (f_Mod_sizeAt vM y5).bind fun x12 => (f_Mod_tryOne vM y5 ((2 : Int64) * ((y3 + (x12 + (1 : Int32))).toInt64))).bind fun x14 => if x14.1 = true then some (y3 + (x12 + (1 : Int32)), x14.2) else some ((-1 : Int32), x14.2) else (f_Mod_sizeAt vM y6).bind fun x17 => f_Mod_give_99 N n vM y1 y2 y3 y4 y6 (y6 + (x17 + (1 : Int32)))
def f_Mod_give (N : Nat) (vM : MT) (p1 : Int32) : Option (Int32 × MT) :=
  (f_Mod_isShut vM).bind fun x19 => if x19 = true then (f_Mod_isShut vM).bind fun x36 => if x36 = true then some ((0 : Int32), (vM.1, vM.2.1, vM.2.2.1, vM.2.2.2.1, vM.2.2.2.2.1, vM.2.2.2.2.2.1, vM.2.2.2.2.2.2.1, vM.2.2.2.2.2.2.2.1, vM.2.2.2.2.2.2.2.2.1, vM.2.2.2.2.2.2.2.2.2.1, vM.2.2.2.2.2.2.2.2.2.2.1, vM.2.2.2.2.2.2.2.2.2.2.2.1, vM.2.2.2.2.2.2.2.2.2.2.2.2.1, vM.2.2.2.2.2.2.2.2.2.2.2.2.2.1, vM.2.2.2.2.2.2.2.2.2.2.2.2.2.2.1, vM.2.2.2.2.2.2.2.2.2.2.2.2.2.2.2.1, vM.2.2.2.2.2.2.2.2.2.2.2.2.2.2.2.2.1, vM.2.2.2.2.2.2.2.2.2.2.2.2.2.2.2.2.2.1, vM.2.2.2.2.2.2.2.2.2.2.2.2.2.2.2.2.2.2.1, vM.2.2.2.2.2.2.2.2.2.2.2.2.2.2.2.2.2.2.2.1, (1 : Int32))) else some ((0 : Int32), (vM.1, vM.2.1, vM.2.2.1, vM.2.2.2.1, vM.2.2.2.2.1, vM.2.2.2.2.2.1, vM.2.2.2.2.2.2.1, vM.2.2.2.2.2.2.2.1, vM.2.2.2.2.2.2.2.2.1, vM.2.2.2.2.2.2.2.2.2.1, vM.2.2.2.2.2.2.2.2.2.2.1, vM.2.2.2.2.2.2.2.2.2.2.2.1, vM.2.2.2.2.2.2.2.2.2.2.2.2.1, vM.2.2.2.2.2.2.2.2.2.2.2.2.2.1, vM.2.2.2.2.2.2.2.2.2.2.2.2.2.2.1, vM.2.2.2.2.2.2.2.2.2.2.2.2.2.2.2.1, vM.2.2.2.2.2.2.2.2.2.2.2.2.2.2.2.2.1, vM.2.2.2.2.2.2.2.2.2.2.2.2.2.2.2.2.2.1, vM.2.2.2.2.2.2.2.2.2.2.2.2.2.2.2.2.2.2.1, vM.2.2.2.2.2.2.2.2.2.2.2.2.2.2.2.2.2.2.2.1, (2 : Int32))) else (f_Mod_usedHead N vM p1).bind fun x22 => (f_Mod_isShut vM).bind fun x24 => if x24 = true then some ((0 : Int32), (vM.1, vM.2.1, vM.2.2.1, vM.2.2.2.1, vM.2.2.2.2.1, vM.2.2.2.2.2.1, vM.2.2.2.2.2.2.1, vM.2.2.2.2.2.2.2.1, vM.2.2.2.2.2.2.2.2.1, vM.2.2.2.2.2.2.2.2.2.1, vM.2.2.2.2.2.2.2.2.2.2.1, vM.2.2.2.2.2.2.2.2.2.2.2.1, vM.2.2.2.2.2.2.2.2.2.2.2.2.1, vM.2.2.2.2.2.2.2.2.2.2.2.2.2.1, vM.2.2.2.2.2.2.2.2.2.2.2.2.2.2.1, vM.2.2.2.2.2.2.2.2.2.2.2.2.2.2.2.1, vM.2.2.2.2.2.2.2.2.2.2.2.2.2.2.2.2.1, vM.2.2.2.2.2.2.2.2.2.2.2.2.2.2.2.2.2.1, vM.2.2.2.2.2.2.2.2.2.2.2.2.2.2.2.2.2.2.1, vM.2.2.2.2.2.2.2.2.2.2.2.2.2.2.2.2.2.2.2.1, (1 : Int32))) else if 0 ≤ x22 then (f_Mod_sizeAt (vM.1, vM.2.1, vM.2.2.1, vM.2.2.2.1, vM.2.2.2.2.1, vM.2.2.2.2.2.1, vM.2.2.2.2.2.2.1, vM.2.2.2.2.2.2.2.1, vM.2.2.2.2.2.2.2.2.1, vM.2.2.2.2.2.2.2.2.2.1, vM.2.2.2.2.2.2.2.2.2.2.1, vM.2.2.2.2.2.2.2.2.2.2.2.1, vM.2.2.2.2.2.2.2.2.2.2.2.2.1, vM.2.2.2.2.2.2.2.2.2.2.2.2.2.1, vM.2.2.2.2.2.2.2.2.2.2.2.2.2.2.1, vM.2.2.2.2.2.2.2.2.2.2.2.2.2.2.2.1, vM.2.2.2.2.2.2.2.2.2.2.2.2.2.2.2.2.1, vM.2.2.2.2.2.2.2.2.2.2.2.2.2.2.2.2.2.1, vM.2.2.2.2.2.2.2.2.2.2.2.2.2.2.2.2.2.2.1, vM.2.2.2.2.2.2.2.2.2.2.2.2.2.2.2.2.2.2.2.1, (0 : Int32)) x22).bind fun x28 => if (1024 : Int32) ≤ ((x22 + (1 : Int32)) + x28) then f_Mod_give_99 N N (vM.1, vM.2.1, vM.2.2.1, vM.2.2.2.1, vM.2.2.2.2.1, vM.2.2.2.2.2.1, vM.2.2.2.2.2.2.1, vM.2.2.2.2.2.2.2.1, vM.2.2.2.2.2.2.2.2.1, vM.2.2.2.2.2.2.2.2.2.1, vM.2.2.2.2.2.2.2.2.2.2.1, vM.2.2.2.2.2.2.2.2.2.2.2.1, vM.2.2.2.2.2.2.2.2.2.2.2.2.1, vM.2.2.2.2.2.2.2.2.2.2.2.2.2.1, vM.2.2.2.2.2.2.2.2.2.2.2.2.2.2.1, vM.2.2.2.2.2.2.2.2.2.2.2.2.2.2.2.1, vM.2.2.2.2.2.2.2.2.2.2.2.2.2.2.2.2.1, vM.2.2.2.2.2.2.2.2.2.2.2.2.2.2.2.2.2.1, vM.2.2.2.2.2.2.2.2.2.2.2.2.2.2.2.2.2.2.1, vM.2.2.2.2.2.2.2.2.2.2.2.2.2.2.2.2.2.2.2.1, (0 : Int32)) p1 x22 x28 ((x22 + (1 : Int32)) + x28) (-1 : Int32) (176 : Int32) else (f_Mod_isUsedAt (vM.1, vM.2.1, vM.2.2.1, vM.2.2.2.1, vM.2.2.2.2.1, vM.2.2.2.2.2.1, vM.2.2.2.2.2.2.1, vM.2.2.2.2.2.2.2.1, vM.2.2.2.2.2.2.2.2.1, vM.2.2.2.2.2.2.2.2.2.1, vM.2.2.2.2.2.2.2.2.2.2.1, vM.2.2.2.2.2.2.2.2.2.2.2.1, vM.2.2.2.2.2.2.2.2.2.2.2.2.1, vM.2.2.2.2.2.2.2.2.2.2.2.2.2.1, vM.2.2.2.2.2.2.2.2.2.2.2.2.2.2.1, vM.2.2.2.2.2.2.2.2.2.2.2.2.2.2.2.1, vM.2.2.2.2.2.2.2.2.2.2.2.2.2.2.2.2.1, vM.2.2.2.2.2.2.2.2.2.2.2.2.2.2.2.2.2.1, vM.2.2.2.2.2.2.2.2.2.2.2.2.2.2.2.2.2.2.1, vM.2.2.2.2.2.2.2.2.2.2.2.2.2.2.2.2.2.2.2.1, (0 : Int32)) ((x22 + (1 : Int32)) + x28)).bind fun x31 => if x31 = true then f_Mod_give_99 N N (vM.1, vM.2.1, vM.2.2.1, vM.2.2.2.1, vM.2.2.2.2.1, vM.2.2.2.2.2.1, vM.2.2.2.2.2.2.1, vM.2.2.2.2.2.2.2.1, vM.2.2.2.2.2.2.2.2.1, vM.2.2.2.2.2.2.2.2.2.1, vM.2.2.2.2.2.2.2.2.2.2.1, vM.2.2.2.2.2.2.2.2.2.2.2.1, vM.2.2.2.2.2.2.2.2.2.2.2.2.1, vM.2.2.2.2.2.2.2.2.2.2.2.2.2.1, vM.2.2.2.2.2.2.2.2.2.2.2.2.2.2.1, vM.2.2.2.2.2.2.2.2.2.2.2.2.2.2.2.1, vM.2.2.2.2.2.2.2.2.2.2.2.2.2.2.2.2.1, vM.2.2.2.2.2.2.2.2.2.2.2.2.2.2.2.2.2.1, vM.2.2.2.2.2.2.2.2.2.2.2.2.2.2.2.2.2.2.1, vM.2.2.2.2.2.2.2.2.2.2.2.2.2.2.2.2.2.2.2.1, (0 : Int32)) p1 x22 x28 ((x22 + (1 : Int32)) + x28) (-1 : Int32) (176 : Int32) else (f_Mod_sizeAt (vM.1, vM.2.1, vM.2.2.1, vM.2.2.2.1, vM.2.2.2.2.1, vM.2.2.2.2.2.1, vM.2.2.2.2.2.2.1, vM.2.2.2.2.2.2.2.1, vM.2.2.2.2.2.2.2.2.1, vM.2.2.2.2.2.2.2.2.2.1, vM.2.2.2.2.2.2.2.2.2.2.1, vM.2.2.2.2.2.2.2.2.2.2.2.1, vM.2.2.2.2.2.2.2.2.2.2.2.2.1, vM.2.2.2.2.2.2.2.2.2.2.2.2.2.1, vM.2.2.2.2.2.2.2.2.2.2.2.2.2.2.1, vM.2.2.2.2.2.2.2.2.2.2.2.2.2.2.2.1, vM.2.2.2.2.2.2.2.2.2.2.2.2.2.2.2.2.1, vM.2.2.2.2.2.2.2.2.2.2.2.2.2.2.2.2.2.1, vM.2.2.2.2.2.2.2.2.2.2.2.2.2.2.2.2.2.2.1, vM.2.2.2.2.2.2.2.2.2.2.2.2.2.2.2.2.2.2.2.1, (0 : Int32)) ((x22 + (1 : Int32)) + x28)).bind fun x34 => f_Mod_give_99 N N (vM.1, vM.2.1, vM.2.2.1, vM.2.2.2.1, vM.2.2.2.2.1, vM.2.2.2.2.2.1, vM.2.2.2.2.2.2.1, vM.2.2.2.2.2.2.2.1, vM.2.2.2.2.2.2.2.2.1, vM.2.2.2.2.2.2.2.2.2.1, vM.2.2.2.2.2.2.2.2.2.2.1, vM.2.2.2.2.2.2.2.2.2.2.2.1, vM.2.2.2.2.2.2.2.2.2.2.2.2.1, vM.2.2.2.2.2.2.2.2.2.2.2.2.2.1, vM.2.2.2.2.2.2.2.2.2.2.2.2.2.2.1, vM.2.2.2.2.2.2.2.2.2.2.2.2.2.2.2.1, vM.2.2.2.2.2.2.2.2.2.2.2.2.2.2.2.2.1, vM.2.2.2.2.2.2.2.2.2.2.2.2.2.2.2.2.2.1, vM.2.2.2.2.2.2.2.2.2.2.2.2.2.2.2.2.2.2.1, vM.2.2.2.2.2.2.2.2.2.2.2.2.2.2.2.2.2.2.2.1, (0 : Int32)) p1 x22 (x28 + (x34 + (1 : Int32))) ((x22 + (1 : Int32)) + x28) (-1 : Int32) (176 : Int32) else some ((0 : Int32), (vM.1, vM.2.1, vM.2.2.1, vM.2.2.2.1, vM.2.2.2.2.1, vM.2.2.2.2.2.1, vM.2.2.2.2.2.2.1, vM.2.2.2.2.2.2.2.1, vM.2.2.2.2.2.2.2.2.1, vM.2.2.2.2.2.2.2.2.2.1, vM.2.2.2.2.2.2.2.2.2.2.1, vM.2.2.2.2.2.2.2.2.2.2.2.1, vM.2.2.2.2.2.2.2.2.2.2.2.2.1, vM.2.2.2.2.2.2.2.2.2.2.2.2.2.1, vM.2.2.2.2.2.2.2.2.2.2.2.2.2.2.1, vM.2.2.2.2.2.2.2.2.2.2.2.2.2.2.2.1, vM.2.2.2.2.2.2.2.2.2.2.2.2.2.2.2.2.1, vM.2.2.2.2.2.2.2.2.2.2.2.2.2.2.2.2.2.1, vM.2.2.2.2.2.2.2.2.2.2.2.2.2.2.2.2.2.2.1, vM.2.2.2.2.2.2.2.2.2.2.2.2.2.2.2.2.2.2.2.1, (2 : Int32)))
abbrev cd_Mod_give : Cond := .code yX5_give cX5_give 8 (some .int)
theorem yd_Mod_give : yX5_give.cls ≠ "java/lang/invoke/MethodHandle" ∧ yX5_give.cls ≠ "java/lang/invoke/VarHandle" ∧ (parseMethodDescriptor yX5_give.desc).map (fun d => d.parameters.length) = some 1 := by decide +kernel
abbrev rm_Mod_give : Room := { frames := 3, cells := 0, slots := 0, locals := 64 }
abbrev q_Mod_give (D : va_G) (ad : Nat → Nat) (ca : Nat → ClassId) (res : Int32 × MT) (A : Nat → Prop) : Array Value → State → Outcome → State → Prop := va_Qi (fun (r : Int32) (u : MT) => r = res.1 ∧ u = res.2) (gB D cls (tys ca) A (fun (u : MT) => (wM ad ca u))) A
set_option maxHeartbeats 4000000 in
set_option maxRecDepth 100000 in
theorem w_Mod_give_99 {p : Program} {l : Launch} {e : Env} {s : State} {m : MethodId} {args : Array Value} {below : List Frame} {meth : Method} {c : Code} {D : va_G} {ad : Nat → Nat} {ca : Nat → ClassId} {A : Nat → Prop} {N : Nat} {res : Int32 × MT} (Z : gZ p s m args meth c cX5_give 8 RX5 (cd_Mod_give :: gA) A D cls (tys ca)) (hr : meth.sig.returnType = (some .int)) : ∀ (n : Nat) (vM : MT) (y1 : Int32) (y2 : Int32) (y3 : Int32) (y4 : Int32) (y5 : Int32) (y6 : Int32), f_Mod_give_99 N n vM y1 y2 y3 y4 y5 y6 = some res → gW p l e rm_Mod_give s m args below meth c 8 A D cls 0 0 (MQ below (q_Mod_give D ad ca res A) args s 0 0 A) (wM ad ca vM) [(0, .ref (ad 20)), (1, .int y1), (2, .int y2), (3, .int y3), (4, .int y4), (5, .int y5), (6, .int y6)] 99 [] := by
  intro n
  induction n with
  | zero =>
    intro vM y1 y2 y3 y4 y5 y6 hf
    exact absurd hf (by rw [f_Mod_give_99]; exact fun h => by cases h)
  | succ n ih =>
    intro vM y1 y2 y3 y4 y5 y6 hf
    rw [f_Mod_give_99] at hf
    refine g_iload (pc := 99) Z 6 dX5_give_99 rfl ?_
    refine g_iload_n (pc := 101) Z 2 dX5_give_101 rfl ?_
    refine g_icmp_ge (pc := 102) (tgt := 125) Z dX5_give_102 (by decide) (fun c1 => ?_) (fun c1 => ?_)
    · replace hf := gIfP c1 hf
      refine g_iload_n (pc := 125) Z 2 dX5_give_125 rfl ?_
      refine g_istore (pc := 126) (lv' := [(7, .int y2), (0, .ref (ad 20)), (1, .int y1), (2, .int y2), (3, .int y3), (4, .int y4), (5, .int y5), (6, .int y6)]) Z dX5_give_126 (by decide) rfl ?_
      refine g_iload (pc := 128) Z 6 dX5_give_128 rfl ?_
      refine g_if_lt (pc := 130) (tgt := 157) Z dX5_give_130 (by decide) (fun c2 => ?_) (fun c2 => ?_)
      · replace hf := gIfP c2 hf
        refine g_aload_n (pc := 157) Z 1 dX5_give_157 rfl ?_
        refine g_iload (pc := 158) Z 0 dX5_give_158 rfl ?_
        refine g_ldc2 (pc := 160) (v := 2) Z dX5_give_160 (mm wm35) ?_
        refine g_iload_n (pc := 163) Z 4 dX5_give_163 rfl ?_
        refine g_i2l (pc := 164) Z dX5_give_164 ?_
        refine g_lmul (pc := 165) Z dX5_give_165 ?_
        obtain ⟨x3, h4, hf⟩ := Option.bind_eq_some_iff.mp hf
        refine g_calli (pc := 166) (ws2 := fun u => (wM ad ca u)) (wr := ([] : va_W)) Z [0, 1, 2, 3, 4, 5, 6, 7] [] [0, 1, 2, 3, 4, 5, 6, 7] (g_runV Z (c_Mod_tryOne l D ad ca vM y2 ((2 : Int64) * y3.toInt64) x3 h4) (cwV 2 Z.2.2.2.2.1 (gg_V wm65 wm66 wm67 wm11 wm68) rfl rfl rfl (yv_of rfl yd_Mod_tryOne) ⟨Nat.le_of_ble_eq_true rfl, Nat.le_of_ble_eq_true rfl⟩) [0, 1, 2, 3, 4, 5, 6, 7] rfl (by decide) 0 rfl rfl rfl rfl rfl (Nat.le_of_ble_eq_true rfl) dX5_give_166 ⟨Nat.le_of_ble_eq_true rfl, Nat.le_of_ble_eq_true rfl⟩) rfl rfl (by decide) (by decide) (by decide) (fun _ => rfl) (fun r u hu => ?_)
        obtain ⟨rfl, rfl⟩ := hu
        refine g_if_eq (pc := 169) (tgt := 176) Z dX5_give_169 (by decide) (fun c5 => ?_) (fun c5 => ?_)
        · replace hf := gIfN (bI_z c5) hf
          refine g_iconst (pc := 176) (v := -1) Z dX5_give_176 (by decide) ?_
          obtain rfl := Option.some.inj hf
          exact g_iret Z hr dX5_give_177 x3.2 ⟨rfl, rfl⟩ rfl
        · replace hf := gIfP (bI_nz c5) hf
          refine g_iload_n (pc := 172) Z 4 dX5_give_172 rfl ?_
          refine g_goto (pc := 173) (tgt := 177) Z dX5_give_173 (by decide) ?_
          obtain rfl := Option.some.inj hf
          exact g_iret Z hr dX5_give_177 x3.2 ⟨rfl, rfl⟩ rfl
      · replace hf := gIfN c2 hf
        refine g_aload_n (pc := 133) Z 1 dX5_give_133 rfl ?_
        refine g_iload (pc := 134) Z 6 dX5_give_134 rfl ?_
        obtain ⟨x6, h7, hf⟩ := Option.bind_eq_some_iff.mp hf
        refine g_calli (pc := 136) (ws2 := fun u => (wM ad ca vM)) (wr := ([] : va_W)) Z [0, 1, 2, 3, 4, 5, 6, 7] [] [0, 1, 2, 3, 4, 5, 6, 7] (g_runV Z (c_Mod_isUsedAt l D ad ca vM y5 x6 h7) (cwV 1 Z.2.2.2.2.1 (gg_V wm36 wm37 wm38 wm11 wm39) rfl rfl rfl (yv_of rfl yd_Mod_isUsedAt) ⟨Nat.le_of_ble_eq_true rfl, Nat.le_of_ble_eq_true rfl⟩) [0, 1, 2, 3, 4, 5, 6, 7] rfl (by decide) 0 rfl rfl rfl rfl rfl (Nat.le_of_ble_eq_true rfl) dX5_give_136 ⟨Nat.le_of_ble_eq_true rfl, Nat.le_of_ble_eq_true rfl⟩) rfl rfl (by decide) (by decide) (by decide) (fun _ => rfl) (fun r u hu => ?_)
        obtain rfl := hu.symm
        refine g_if_ne (pc := 139) (tgt := 157) Z dX5_give_139 (by decide) (fun c8 => ?_) (fun c8 => ?_)
        · replace hf := gIfP (bI_nz c8) hf
          refine g_aload_n (pc := 157) Z 1 dX5_give_157 rfl ?_
          refine g_iload (pc := 158) Z 0 dX5_give_158 rfl ?_
          refine g_ldc2 (pc := 160) (v := 2) Z dX5_give_160 (mm wm35) ?_
          refine g_iload_n (pc := 163) Z 4 dX5_give_163 rfl ?_
          refine g_i2l (pc := 164) Z dX5_give_164 ?_
          refine g_lmul (pc := 165) Z dX5_give_165 ?_
          obtain ⟨x9, h10, hf⟩ := Option.bind_eq_some_iff.mp hf
          refine g_calli (pc := 166) (ws2 := fun u => (wM ad ca u)) (wr := ([] : va_W)) Z [0, 1, 2, 3, 4, 5, 6, 7] [] [0, 1, 2, 3, 4, 5, 6, 7] (g_runV Z (c_Mod_tryOne l D ad ca vM y2 ((2 : Int64) * y3.toInt64) x9 h10) (cwV 2 Z.2.2.2.2.1 (gg_V wm65 wm66 wm67 wm11 wm68) rfl rfl rfl (yv_of rfl yd_Mod_tryOne) ⟨Nat.le_of_ble_eq_true rfl, Nat.le_of_ble_eq_true rfl⟩) [0, 1, 2, 3, 4, 5, 6, 7] rfl (by decide) 0 rfl rfl rfl rfl rfl (Nat.le_of_ble_eq_true rfl) dX5_give_166 ⟨Nat.le_of_ble_eq_true rfl, Nat.le_of_ble_eq_true rfl⟩) rfl rfl (by decide) (by decide) (by decide) (fun _ => rfl) (fun r u hu => ?_)
          obtain ⟨rfl, rfl⟩ := hu
          refine g_if_eq (pc := 169) (tgt := 176) Z dX5_give_169 (by decide) (fun c11 => ?_) (fun c11 => ?_)
          · replace hf := gIfN (bI_z c11) hf
            refine g_iconst (pc := 176) (v := -1) Z dX5_give_176 (by decide) ?_
            obtain rfl := Option.some.inj hf
            exact g_iret Z hr dX5_give_177 x9.2 ⟨rfl, rfl⟩ rfl
          · replace hf := gIfP (bI_nz c11) hf
            refine g_iload_n (pc := 172) Z 4 dX5_give_172 rfl ?_
            refine g_goto (pc := 173) (tgt := 177) Z dX5_give_173 (by decide) ?_
            obtain rfl := Option.some.inj hf
            exact g_iret Z hr dX5_give_177 x9.2 ⟨rfl, rfl⟩ rfl
        · replace hf := gIfN (bI_z c8) hf
          refine g_iload_n (pc := 142) Z 4 dX5_give_142 rfl ?_
          refine g_aload_n (pc := 143) Z 1 dX5_give_143 rfl ?_
          refine g_iload (pc := 144) Z 6 dX5_give_144 rfl ?_
          obtain ⟨x12, h13, hf⟩ := Option.bind_eq_some_iff.mp hf
          refine g_calli (pc := 146) (ws2 := fun u => (wM ad ca vM)) (wr := ([] : va_W)) Z [0, 1, 2, 3, 4, 5, 6, 7] [] [0, 1, 2, 3, 4, 5, 6, 7] (g_runV Z (c_Mod_sizeAt l D ad ca vM y5 x12 h13) (cwV 1 Z.2.2.2.2.1 (gg_V wm40 wm41 wm42 wm11 wm43) rfl rfl rfl (yv_of rfl yd_Mod_sizeAt) ⟨Nat.le_of_ble_eq_true rfl, Nat.le_of_ble_eq_true rfl⟩) [0, 1, 2, 3, 4, 5, 6, 7] rfl (by decide) 0 rfl rfl rfl rfl rfl (Nat.le_of_ble_eq_true rfl) dX5_give_146 ⟨Nat.le_of_ble_eq_true rfl, Nat.le_of_ble_eq_true rfl⟩) rfl rfl (by decide) (by decide) (by decide) (fun _ => rfl) (fun r u hu => ?_)
          obtain rfl := hu.symm
          refine g_iconst (pc := 149) (v := 1) Z dX5_give_149 (by decide) ?_
          refine g_iadd (pc := 150) Z dX5_give_150 ?_
          refine g_iadd (pc := 151) Z dX5_give_151 ?_
          refine g_istore_n (pc := 152) (lv' := [(3, .int (y3 + (x12 + (1 : Int32)))), (7, .int y2), (0, .ref (ad 20)), (1, .int y1), (2, .int y2), (4, .int y4), (5, .int y5), (6, .int y6)]) Z dX5_give_152 (by decide) rfl ?_
          refine g_iload (pc := 153) Z 6 dX5_give_153 rfl ?_
          refine g_istore (pc := 155) (lv' := [(7, .int y5), (3, .int (y3 + (x12 + (1 : Int32)))), (0, .ref (ad 20)), (1, .int y1), (2, .int y2), (4, .int y4), (5, .int y5), (6, .int y6)]) Z dX5_give_155 (by decide) rfl ?_
          refine g_aload_n (pc := 157) Z 2 dX5_give_157 rfl ?_
          refine g_iload (pc := 158) Z 0 dX5_give_158 rfl ?_
          refine g_ldc2 (pc := 160) (v := 2) Z dX5_give_160 (mm wm35) ?_
          refine g_iload_n (pc := 163) Z 1 dX5_give_163 rfl ?_
          refine g_i2l (pc := 164) Z dX5_give_164 ?_
          refine g_lmul (pc := 165) Z dX5_give_165 ?_
          obtain ⟨x14, h15, hf⟩ := Option.bind_eq_some_iff.mp hf
          refine g_calli (pc := 166) (ws2 := fun u => (wM ad ca u)) (wr := ([] : va_W)) Z [0, 1, 2, 3, 4, 5, 6, 7] [] [0, 1, 2, 3, 4, 5, 6, 7] (g_runV Z (c_Mod_tryOne l D ad ca vM y5 ((2 : Int64) * ((y3 + (x12 + (1 : Int32))).toInt64)) x14 h15) (cwV 2 Z.2.2.2.2.1 (gg_V wm65 wm66 wm67 wm11 wm68) rfl rfl rfl (yv_of rfl yd_Mod_tryOne) ⟨Nat.le_of_ble_eq_true rfl, Nat.le_of_ble_eq_true rfl⟩) [0, 1, 2, 3, 4, 5, 6, 7] rfl (by decide) 0 rfl rfl rfl rfl rfl (Nat.le_of_ble_eq_true rfl) dX5_give_166 ⟨Nat.le_of_ble_eq_true rfl, Nat.le_of_ble_eq_true rfl⟩) rfl rfl (by decide) (by decide) (by decide) (fun _ => rfl) (fun r u hu => ?_)
          obtain ⟨rfl, rfl⟩ := hu
          refine g_if_eq (pc := 169) (tgt := 176) Z dX5_give_169 (by decide) (fun c16 => ?_) (fun c16 => ?_)
          · replace hf := gIfN (bI_z c16) hf
            refine g_iconst (pc := 176) (v := -1) Z dX5_give_176 (by decide) ?_
            obtain rfl := Option.some.inj hf
            exact g_iret Z hr dX5_give_177 x14.2 ⟨rfl, rfl⟩ rfl
          · replace hf := gIfP (bI_nz c16) hf
            refine g_iload_n (pc := 172) Z 1 dX5_give_172 rfl ?_
            refine g_goto (pc := 173) (tgt := 177) Z dX5_give_173 (by decide) ?_
            obtain rfl := Option.some.inj hf
            exact g_iret Z hr dX5_give_177 x14.2 ⟨rfl, rfl⟩ rfl
    · replace hf := gIfN c1 hf
      refine g_iload (pc := 105) Z 6 dX5_give_105 rfl ?_
      refine g_istore (pc := 107) (lv' := [(5, .int y6), (0, .ref (ad 20)), (1, .int y1), (2, .int y2), (3, .int y3), (4, .int y4), (6, .int y6)]) Z dX5_give_107 (by decide) rfl ?_
      refine g_iload (pc := 109) Z 6 dX5_give_109 rfl ?_
      refine g_aload_n (pc := 111) Z 1 dX5_give_111 rfl ?_
      refine g_iload (pc := 112) Z 6 dX5_give_112 rfl ?_
      obtain ⟨x17, h18, hf⟩ := Option.bind_eq_some_iff.mp hf
      refine g_calli (pc := 114) (ws2 := fun u => (wM ad ca vM)) (wr := ([] : va_W)) Z [0, 1, 2, 3, 4, 5, 6, 7] [] [0, 1, 2, 3, 4, 5, 6, 7] (g_runV Z (c_Mod_sizeAt l D ad ca vM y6 x17 h18) (cwV 1 Z.2.2.2.2.1 (gg_V wm40 wm41 wm42 wm11 wm43) rfl rfl rfl (yv_of rfl yd_Mod_sizeAt) ⟨Nat.le_of_ble_eq_true rfl, Nat.le_of_ble_eq_true rfl⟩) [0, 1, 2, 3, 4, 5, 6, 7] rfl (by decide) 0 rfl rfl rfl rfl rfl (Nat.le_of_ble_eq_true rfl) dX5_give_114 ⟨Nat.le_of_ble_eq_true rfl, Nat.le_of_ble_eq_true rfl⟩) rfl rfl (by decide) (by decide) (by decide) (fun _ => rfl) (fun r u hu => ?_)
      obtain rfl := hu.symm
      refine g_iconst (pc := 117) (v := 1) Z dX5_give_117 (by decide) ?_
      refine g_iadd (pc := 118) Z dX5_give_118 ?_
      refine g_iadd (pc := 119) Z dX5_give_119 ?_
      refine g_istore (pc := 120) (lv' := [(6, .int (y6 + (x17 + (1 : Int32)))), (5, .int y6), (0, .ref (ad 20)), (1, .int y1), (2, .int y2), (3, .int y3), (4, .int y4)]) Z dX5_give_120 (by decide) rfl ?_
      refine g_goto (pc := 122) (tgt := 99) Z dX5_give_122 (by decide) ?_
      refine g_locals (lv2 := [(0, .ref (ad 20)), (1, .int y1), (2, .int y2), (3, .int y3), (4, .int y4), (5, .int y6), (6, .int (y6 + (x17 + (1 : Int32))))]) [2, 3, 4, 5, 6, 1, 0] rfl ?_
      exact ih _ _ _ _ _ _ _ hf
set_option maxHeartbeats 4000000 in
set_option maxRecDepth 100000 in
theorem c_Mod_give (l : Launch) (D : va_G) (ad : Nat → Nat) (ca : Nat → ClassId) (N : Nat) (vM : MT) (p1 : Int32) (res : Int32 × MT) (hf : f_Mod_give N vM p1 = some res) (sz : Nat) : Met l yX5_give (cd_Mod_give :: gA) rm_Mod_give (va_Pc [.ref (ad 20), .int p1] (gP D cls (tys ca) (wM ad ca vM) sz)) (q_Mod_give D ad ca res (va_A (wM ad ca vM) sz)) 0 0 (va_A (wM ad ca vM) sz) := by
  refine g_met (cc := cX5_give) (Qc := q_Mod_give D ad ca res) (lv := [(0, .ref (ad 20)), (1, .int p1)]) (own := RX5) (by decide) rfl rfl (Nat.le_of_ble_eq_true rfl) rfl sz ?_
  intro p e s m args below meth c A Z hr hnm
  unfold f_Mod_give at hf
  refine g_aload_n (pc := 0) Z 0 dX5_give_0 rfl ?_
  obtain ⟨x19, h20, hf⟩ := Option.bind_eq_some_iff.mp hf
  refine g_calli (pc := 1) (ws2 := fun u => (wM ad ca vM)) (wr := ([] : va_W)) Z [0, 1, 2, 3, 4, 5, 6, 7] [] [0, 1, 2, 3, 4, 5, 6, 7] (g_runV Z (c_Mod_isShut l D ad ca vM x19 h20) (cwV 0 Z.2.2.2.2.1 (gg_V wm57 wm58 wm59 wm11 wm60) rfl rfl rfl (yv_of rfl yd_Mod_isShut) ⟨Nat.le_of_ble_eq_true rfl, Nat.le_of_ble_eq_true rfl⟩) [0, 1, 2, 3, 4, 5, 6, 7] rfl (by decide) 0 rfl rfl rfl rfl rfl (Nat.le_of_ble_eq_true rfl) dX5_give_1 ⟨Nat.le_of_ble_eq_true rfl, Nat.le_of_ble_eq_true rfl⟩) rfl rfl (by decide) (by decide) (by decide) (fun _ => rfl) (fun r u hu => ?_)
  obtain rfl := hu.symm
  refine g_if_eq (pc := 4) (tgt := 11) Z dX5_give_4 (by decide) (fun c21 => ?_) (fun c21 => ?_)
  · replace hf := gIfN (bI_z c21) hf
    refine g_aload_n (pc := 11) Z 0 dX5_give_11 rfl ?_
    refine g_iload_n (pc := 12) Z 1 dX5_give_12 rfl ?_
    obtain ⟨x22, h23, hf⟩ := Option.bind_eq_some_iff.mp hf
    refine g_calli (pc := 13) (ws2 := fun u => (wM ad ca vM)) (wr := ([] : va_W)) Z [0, 1, 2, 3, 4, 5, 6, 7] [] [0, 1, 2, 3, 4, 5, 6, 7] (g_runV Z (c_Mod_usedHead l D ad ca N vM p1 x22 h23) (cwV 1 Z.2.2.2.2.1 (gg_V wm61 wm62 wm63 wm11 wm64) rfl rfl rfl (yv_of rfl yd_Mod_usedHead) ⟨Nat.le_of_ble_eq_true rfl, Nat.le_of_ble_eq_true rfl⟩) [0, 1, 2, 3, 4, 5, 6, 7] rfl (by decide) 0 rfl rfl rfl rfl rfl (Nat.le_of_ble_eq_true rfl) dX5_give_13 ⟨Nat.le_of_ble_eq_true rfl, Nat.le_of_ble_eq_true rfl⟩) rfl rfl (by decide) (by decide) (by decide) (fun _ => rfl) (fun r u hu => ?_)
    obtain rfl := hu.symm
    refine g_istore_n (pc := 16) (lv' := [(2, .int x22), (0, .ref (ad 20)), (1, .int p1)]) Z dX5_give_16 (by decide) rfl ?_
    refine g_aload_n (pc := 17) Z 1 dX5_give_17 rfl ?_
    refine g_aload_n (pc := 18) Z 1 dX5_give_18 rfl ?_
    obtain ⟨x24, h25, hf⟩ := Option.bind_eq_some_iff.mp hf
    refine g_calli (pc := 19) (ws2 := fun u => (wM ad ca vM)) (wr := ([] : va_W)) Z [0, 1, 2, 3, 4, 5, 6, 7] [] [0, 1, 2, 3, 4, 5, 6, 7] (g_runV Z (c_Mod_isShut l D ad ca vM x24 h25) (cwV 0 Z.2.2.2.2.1 (gg_V wm57 wm58 wm59 wm11 wm60) rfl rfl rfl (yv_of rfl yd_Mod_isShut) ⟨Nat.le_of_ble_eq_true rfl, Nat.le_of_ble_eq_true rfl⟩) [0, 1, 2, 3, 4, 5, 6, 7] rfl (by decide) 0 rfl rfl rfl rfl rfl (Nat.le_of_ble_eq_true rfl) dX5_give_19 ⟨Nat.le_of_ble_eq_true rfl, Nat.le_of_ble_eq_true rfl⟩) rfl rfl (by decide) (by decide) (by decide) (fun _ => rfl) (fun r u hu => ?_)
    obtain rfl := hu.symm
    refine g_if_eq (pc := 22) (tgt := 29) Z dX5_give_22 (by decide) (fun c26 => ?_) (fun c26 => ?_)
    · replace hf := gIfN (bI_z c26) hf
      refine g_iload_n (pc := 29) Z 0 dX5_give_29 rfl ?_
      refine g_if_ge (pc := 30) (tgt := 37) Z dX5_give_30 (by decide) (fun c27 => ?_) (fun c27 => ?_)
      · replace hf := gIfP c27 hf
        refine g_iconst (pc := 37) (v := 0) Z dX5_give_37 (by decide) ?_
        refine g_put (pc := 38) (T := TX5) (N := 21) (ws' := (wM ad ca (vM.1, vM.2.1, vM.2.2.1, vM.2.2.2.1, vM.2.2.2.2.1, vM.2.2.2.2.2.1, vM.2.2.2.2.2.2.1, vM.2.2.2.2.2.2.2.1, vM.2.2.2.2.2.2.2.2.1, vM.2.2.2.2.2.2.2.2.2.1, vM.2.2.2.2.2.2.2.2.2.2.1, vM.2.2.2.2.2.2.2.2.2.2.2.1, vM.2.2.2.2.2.2.2.2.2.2.2.2.1, vM.2.2.2.2.2.2.2.2.2.2.2.2.2.1, vM.2.2.2.2.2.2.2.2.2.2.2.2.2.2.1, vM.2.2.2.2.2.2.2.2.2.2.2.2.2.2.2.1, vM.2.2.2.2.2.2.2.2.2.2.2.2.2.2.2.2.1, vM.2.2.2.2.2.2.2.2.2.2.2.2.2.2.2.2.2.1, vM.2.2.2.2.2.2.2.2.2.2.2.2.2.2.2.2.2.2.1, vM.2.2.2.2.2.2.2.2.2.2.2.2.2.2.2.2.2.2.2.1, (0 : Int32)))) Z 0 20 dX5_give_38 (mm wm0) inx_X5 tyX5_ok nmX5 rfl (by decide) rfl rfl rfl rfl rfl rfl (Nat.le_of_ble_eq_true rfl) rfl ?_
        refine g_aload_n (pc := 41) Z 1 dX5_give_41 rfl ?_
        refine g_get (pc := 42) (v := .int (0 : Int32)) (T := TX5) (N := 21) Z 0 20 dX5_give_42 (mm wm0) inx_X5 rfl (by decide) rfl rfl rfl ?_
        refine g_if_le (pc := 45) (tgt := 50) Z dX5_give_45 (by decide) (fun _ => ?_) (fun c0 => absurd c0 (by decide))
        refine g_aload_n (pc := 50) Z 1 dX5_give_50 rfl ?_
        refine g_iload_n (pc := 51) Z 0 dX5_give_51 rfl ?_
        obtain ⟨x28, h29, hf⟩ := Option.bind_eq_some_iff.mp hf
        refine g_calli (pc := 52) (ws2 := fun u => (wM ad ca (vM.1, vM.2.1, vM.2.2.1, vM.2.2.2.1, vM.2.2.2.2.1, vM.2.2.2.2.2.1, vM.2.2.2.2.2.2.1, vM.2.2.2.2.2.2.2.1, vM.2.2.2.2.2.2.2.2.1, vM.2.2.2.2.2.2.2.2.2.1, vM.2.2.2.2.2.2.2.2.2.2.1, vM.2.2.2.2.2.2.2.2.2.2.2.1, vM.2.2.2.2.2.2.2.2.2.2.2.2.1, vM.2.2.2.2.2.2.2.2.2.2.2.2.2.1, vM.2.2.2.2.2.2.2.2.2.2.2.2.2.2.1, vM.2.2.2.2.2.2.2.2.2.2.2.2.2.2.2.1, vM.2.2.2.2.2.2.2.2.2.2.2.2.2.2.2.2.1, vM.2.2.2.2.2.2.2.2.2.2.2.2.2.2.2.2.2.1, vM.2.2.2.2.2.2.2.2.2.2.2.2.2.2.2.2.2.2.1, vM.2.2.2.2.2.2.2.2.2.2.2.2.2.2.2.2.2.2.2.1, (0 : Int32)))) (wr := ([] : va_W)) Z [0, 1, 2, 3, 4, 5, 6, 7] [] [0, 1, 2, 3, 4, 5, 6, 7] (g_runV Z (c_Mod_sizeAt l D ad ca (vM.1, vM.2.1, vM.2.2.1, vM.2.2.2.1, vM.2.2.2.2.1, vM.2.2.2.2.2.1, vM.2.2.2.2.2.2.1, vM.2.2.2.2.2.2.2.1, vM.2.2.2.2.2.2.2.2.1, vM.2.2.2.2.2.2.2.2.2.1, vM.2.2.2.2.2.2.2.2.2.2.1, vM.2.2.2.2.2.2.2.2.2.2.2.1, vM.2.2.2.2.2.2.2.2.2.2.2.2.1, vM.2.2.2.2.2.2.2.2.2.2.2.2.2.1, vM.2.2.2.2.2.2.2.2.2.2.2.2.2.2.1, vM.2.2.2.2.2.2.2.2.2.2.2.2.2.2.2.1, vM.2.2.2.2.2.2.2.2.2.2.2.2.2.2.2.2.1, vM.2.2.2.2.2.2.2.2.2.2.2.2.2.2.2.2.2.1, vM.2.2.2.2.2.2.2.2.2.2.2.2.2.2.2.2.2.2.1, vM.2.2.2.2.2.2.2.2.2.2.2.2.2.2.2.2.2.2.2.1, (0 : Int32)) x22 x28 h29) (cwV 1 Z.2.2.2.2.1 (gg_V wm40 wm41 wm42 wm11 wm43) rfl rfl rfl (yv_of rfl yd_Mod_sizeAt) ⟨Nat.le_of_ble_eq_true rfl, Nat.le_of_ble_eq_true rfl⟩) [0, 1, 2, 3, 4, 5, 6, 7] rfl (by decide) 0 rfl rfl rfl rfl rfl (Nat.le_of_ble_eq_true rfl) dX5_give_52 ⟨Nat.le_of_ble_eq_true rfl, Nat.le_of_ble_eq_true rfl⟩) rfl rfl (by decide) (by decide) (by decide) (fun _ => rfl) (fun r u hu => ?_)
        obtain rfl := hu.symm
        refine g_istore_n (pc := 55) (lv' := [(3, .int x28), (2, .int x22), (0, .ref (ad 20)), (1, .int p1)]) Z dX5_give_55 (by decide) rfl ?_
        refine g_iload_n (pc := 56) Z 1 dX5_give_56 rfl ?_
        refine g_iconst (pc := 57) (v := 1) Z dX5_give_57 (by decide) ?_
        refine g_iadd (pc := 58) Z dX5_give_58 ?_
        refine g_iload_n (pc := 59) Z 0 dX5_give_59 rfl ?_
        refine g_iadd (pc := 60) Z dX5_give_60 ?_
        refine g_istore (pc := 61) (lv' := [(4, .int ((x22 + (1 : Int32)) + x28)), (3, .int x28), (2, .int x22), (0, .ref (ad 20)), (1, .int p1)]) Z dX5_give_61 (by decide) rfl ?_
        refine g_iload (pc := 63) Z 0 dX5_give_63 rfl ?_
        refine g_sipush (pc := 65) (v := 1024) Z dX5_give_65 (by decide) ?_
        refine g_icmp_ge (pc := 68) (tgt := 91) Z dX5_give_68 (by decide) (fun c30 => ?_) (fun c30 => ?_)
        · replace hf := gIfP c30 hf
          refine g_iconst (pc := 91) (v := -1) Z dX5_give_91 (by decide) ?_
          refine g_istore (pc := 92) (lv' := [(5, .int (-1 : Int32)), (4, .int ((x22 + (1 : Int32)) + x28)), (3, .int x28), (2, .int x22), (0, .ref (ad 20)), (1, .int p1)]) Z dX5_give_92 (by decide) rfl ?_
          refine g_sipush (pc := 94) (v := 176) Z dX5_give_94 (by decide) ?_
          refine g_istore (pc := 97) (lv' := [(6, .int (176 : Int32)), (5, .int (-1 : Int32)), (4, .int ((x22 + (1 : Int32)) + x28)), (3, .int x28), (2, .int x22), (0, .ref (ad 20)), (1, .int p1)]) Z dX5_give_97 (by decide) rfl ?_
          refine g_locals (lv2 := [(0, .ref (ad 20)), (1, .int p1), (2, .int x22), (3, .int x28), (4, .int ((x22 + (1 : Int32)) + x28)), (5, .int (-1 : Int32)), (6, .int (176 : Int32))]) [5, 6, 4, 3, 2, 1, 0] rfl ?_
          exact w_Mod_give_99 Z hr N _ _ _ _ _ _ _ hf
        · replace hf := gIfN c30 hf
          refine g_aload_n (pc := 71) Z 3 dX5_give_71 rfl ?_
          refine g_iload (pc := 72) Z 0 dX5_give_72 rfl ?_
          obtain ⟨x31, h32, hf⟩ := Option.bind_eq_some_iff.mp hf
          refine g_calli (pc := 74) (ws2 := fun u => (wM ad ca (vM.1, vM.2.1, vM.2.2.1, vM.2.2.2.1, vM.2.2.2.2.1, vM.2.2.2.2.2.1, vM.2.2.2.2.2.2.1, vM.2.2.2.2.2.2.2.1, vM.2.2.2.2.2.2.2.2.1, vM.2.2.2.2.2.2.2.2.2.1, vM.2.2.2.2.2.2.2.2.2.2.1, vM.2.2.2.2.2.2.2.2.2.2.2.1, vM.2.2.2.2.2.2.2.2.2.2.2.2.1, vM.2.2.2.2.2.2.2.2.2.2.2.2.2.1, vM.2.2.2.2.2.2.2.2.2.2.2.2.2.2.1, vM.2.2.2.2.2.2.2.2.2.2.2.2.2.2.2.1, vM.2.2.2.2.2.2.2.2.2.2.2.2.2.2.2.2.1, vM.2.2.2.2.2.2.2.2.2.2.2.2.2.2.2.2.2.1, vM.2.2.2.2.2.2.2.2.2.2.2.2.2.2.2.2.2.2.1, vM.2.2.2.2.2.2.2.2.2.2.2.2.2.2.2.2.2.2.2.1, (0 : Int32)))) (wr := ([] : va_W)) Z [0, 1, 2, 3, 4, 5, 6, 7] [] [0, 1, 2, 3, 4, 5, 6, 7] (g_runV Z (c_Mod_isUsedAt l D ad ca (vM.1, vM.2.1, vM.2.2.1, vM.2.2.2.1, vM.2.2.2.2.1, vM.2.2.2.2.2.1, vM.2.2.2.2.2.2.1, vM.2.2.2.2.2.2.2.1, vM.2.2.2.2.2.2.2.2.1, vM.2.2.2.2.2.2.2.2.2.1, vM.2.2.2.2.2.2.2.2.2.2.1, vM.2.2.2.2.2.2.2.2.2.2.2.1, vM.2.2.2.2.2.2.2.2.2.2.2.2.1, vM.2.2.2.2.2.2.2.2.2.2.2.2.2.1, vM.2.2.2.2.2.2.2.2.2.2.2.2.2.2.1, vM.2.2.2.2.2.2.2.2.2.2.2.2.2.2.2.1, vM.2.2.2.2.2.2.2.2.2.2.2.2.2.2.2.2.1, vM.2.2.2.2.2.2.2.2.2.2.2.2.2.2.2.2.2.1, vM.2.2.2.2.2.2.2.2.2.2.2.2.2.2.2.2.2.2.1, vM.2.2.2.2.2.2.2.2.2.2.2.2.2.2.2.2.2.2.2.1, (0 : Int32)) ((x22 + (1 : Int32)) + x28) x31 h32) (cwV 1 Z.2.2.2.2.1 (gg_V wm36 wm37 wm38 wm11 wm39) rfl rfl rfl (yv_of rfl yd_Mod_isUsedAt) ⟨Nat.le_of_ble_eq_true rfl, Nat.le_of_ble_eq_true rfl⟩) [0, 1, 2, 3, 4, 5, 6, 7] rfl (by decide) 0 rfl rfl rfl rfl rfl (Nat.le_of_ble_eq_true rfl) dX5_give_74 ⟨Nat.le_of_ble_eq_true rfl, Nat.le_of_ble_eq_true rfl⟩) rfl rfl (by decide) (by decide) (by decide) (fun _ => rfl) (fun r u hu => ?_)
          obtain rfl := hu.symm
          refine g_if_ne (pc := 77) (tgt := 91) Z dX5_give_77 (by decide) (fun c33 => ?_) (fun c33 => ?_)
          · replace hf := gIfP (bI_nz c33) hf
            refine g_iconst (pc := 91) (v := -1) Z dX5_give_91 (by decide) ?_
            refine g_istore (pc := 92) (lv' := [(5, .int (-1 : Int32)), (4, .int ((x22 + (1 : Int32)) + x28)), (3, .int x28), (2, .int x22), (0, .ref (ad 20)), (1, .int p1)]) Z dX5_give_92 (by decide) rfl ?_
            refine g_sipush (pc := 94) (v := 176) Z dX5_give_94 (by decide) ?_
            refine g_istore (pc := 97) (lv' := [(6, .int (176 : Int32)), (5, .int (-1 : Int32)), (4, .int ((x22 + (1 : Int32)) + x28)), (3, .int x28), (2, .int x22), (0, .ref (ad 20)), (1, .int p1)]) Z dX5_give_97 (by decide) rfl ?_
            refine g_locals (lv2 := [(0, .ref (ad 20)), (1, .int p1), (2, .int x22), (3, .int x28), (4, .int ((x22 + (1 : Int32)) + x28)), (5, .int (-1 : Int32)), (6, .int (176 : Int32))]) [5, 6, 4, 3, 2, 1, 0] rfl ?_
            exact w_Mod_give_99 Z hr N _ _ _ _ _ _ _ hf
          · replace hf := gIfN (bI_z c33) hf
            refine g_iload_n (pc := 80) Z 1 dX5_give_80 rfl ?_
            refine g_aload_n (pc := 81) Z 3 dX5_give_81 rfl ?_
            refine g_iload (pc := 82) Z 0 dX5_give_82 rfl ?_
            obtain ⟨x34, h35, hf⟩ := Option.bind_eq_some_iff.mp hf
            refine g_calli (pc := 84) (ws2 := fun u => (wM ad ca (vM.1, vM.2.1, vM.2.2.1, vM.2.2.2.1, vM.2.2.2.2.1, vM.2.2.2.2.2.1, vM.2.2.2.2.2.2.1, vM.2.2.2.2.2.2.2.1, vM.2.2.2.2.2.2.2.2.1, vM.2.2.2.2.2.2.2.2.2.1, vM.2.2.2.2.2.2.2.2.2.2.1, vM.2.2.2.2.2.2.2.2.2.2.2.1, vM.2.2.2.2.2.2.2.2.2.2.2.2.1, vM.2.2.2.2.2.2.2.2.2.2.2.2.2.1, vM.2.2.2.2.2.2.2.2.2.2.2.2.2.2.1, vM.2.2.2.2.2.2.2.2.2.2.2.2.2.2.2.1, vM.2.2.2.2.2.2.2.2.2.2.2.2.2.2.2.2.1, vM.2.2.2.2.2.2.2.2.2.2.2.2.2.2.2.2.2.1, vM.2.2.2.2.2.2.2.2.2.2.2.2.2.2.2.2.2.2.1, vM.2.2.2.2.2.2.2.2.2.2.2.2.2.2.2.2.2.2.2.1, (0 : Int32)))) (wr := ([] : va_W)) Z [0, 1, 2, 3, 4, 5, 6, 7] [] [0, 1, 2, 3, 4, 5, 6, 7] (g_runV Z (c_Mod_sizeAt l D ad ca (vM.1, vM.2.1, vM.2.2.1, vM.2.2.2.1, vM.2.2.2.2.1, vM.2.2.2.2.2.1, vM.2.2.2.2.2.2.1, vM.2.2.2.2.2.2.2.1, vM.2.2.2.2.2.2.2.2.1, vM.2.2.2.2.2.2.2.2.2.1, vM.2.2.2.2.2.2.2.2.2.2.1, vM.2.2.2.2.2.2.2.2.2.2.2.1, vM.2.2.2.2.2.2.2.2.2.2.2.2.1, vM.2.2.2.2.2.2.2.2.2.2.2.2.2.1, vM.2.2.2.2.2.2.2.2.2.2.2.2.2.2.1, vM.2.2.2.2.2.2.2.2.2.2.2.2.2.2.2.1, vM.2.2.2.2.2.2.2.2.2.2.2.2.2.2.2.2.1, vM.2.2.2.2.2.2.2.2.2.2.2.2.2.2.2.2.2.1, vM.2.2.2.2.2.2.2.2.2.2.2.2.2.2.2.2.2.2.1, vM.2.2.2.2.2.2.2.2.2.2.2.2.2.2.2.2.2.2.2.1, (0 : Int32)) ((x22 + (1 : Int32)) + x28) x34 h35) (cwV 1 Z.2.2.2.2.1 (gg_V wm40 wm41 wm42 wm11 wm43) rfl rfl rfl (yv_of rfl yd_Mod_sizeAt) ⟨Nat.le_of_ble_eq_true rfl, Nat.le_of_ble_eq_true rfl⟩) [0, 1, 2, 3, 4, 5, 6, 7] rfl (by decide) 0 rfl rfl rfl rfl rfl (Nat.le_of_ble_eq_true rfl) dX5_give_84 ⟨Nat.le_of_ble_eq_true rfl, Nat.le_of_ble_eq_true rfl⟩) rfl rfl (by decide) (by decide) (by decide) (fun _ => rfl) (fun r u hu => ?_)
            obtain rfl := hu.symm
            refine g_iconst (pc := 87) (v := 1) Z dX5_give_87 (by decide) ?_
            refine g_iadd (pc := 88) Z dX5_give_88 ?_
            refine g_iadd (pc := 89) Z dX5_give_89 ?_
            refine g_istore_n (pc := 90) (lv' := [(3, .int (x28 + (x34 + (1 : Int32)))), (4, .int ((x22 + (1 : Int32)) + x28)), (2, .int x22), (0, .ref (ad 20)), (1, .int p1)]) Z dX5_give_90 (by decide) rfl ?_
            refine g_iconst (pc := 91) (v := -1) Z dX5_give_91 (by decide) ?_
            refine g_istore (pc := 92) (lv' := [(5, .int (-1 : Int32)), (3, .int (x28 + (x34 + (1 : Int32)))), (4, .int ((x22 + (1 : Int32)) + x28)), (2, .int x22), (0, .ref (ad 20)), (1, .int p1)]) Z dX5_give_92 (by decide) rfl ?_
            refine g_sipush (pc := 94) (v := 176) Z dX5_give_94 (by decide) ?_
            refine g_istore (pc := 97) (lv' := [(6, .int (176 : Int32)), (5, .int (-1 : Int32)), (3, .int (x28 + (x34 + (1 : Int32)))), (4, .int ((x22 + (1 : Int32)) + x28)), (2, .int x22), (0, .ref (ad 20)), (1, .int p1)]) Z dX5_give_97 (by decide) rfl ?_
            refine g_locals (lv2 := [(0, .ref (ad 20)), (1, .int p1), (2, .int x22), (3, .int (x28 + (x34 + (1 : Int32)))), (4, .int ((x22 + (1 : Int32)) + x28)), (5, .int (-1 : Int32)), (6, .int (176 : Int32))]) [5, 6, 4, 2, 3, 1, 0] rfl ?_
            exact w_Mod_give_99 Z hr N _ _ _ _ _ _ _ hf
      · replace hf := gIfN c27 hf
        refine g_iconst (pc := 33) (v := 2) Z dX5_give_33 (by decide) ?_
        refine g_goto (pc := 34) (tgt := 38) Z dX5_give_34 (by decide) ?_
        refine g_put (pc := 38) (T := TX5) (N := 21) (ws' := (wM ad ca (vM.1, vM.2.1, vM.2.2.1, vM.2.2.2.1, vM.2.2.2.2.1, vM.2.2.2.2.2.1, vM.2.2.2.2.2.2.1, vM.2.2.2.2.2.2.2.1, vM.2.2.2.2.2.2.2.2.1, vM.2.2.2.2.2.2.2.2.2.1, vM.2.2.2.2.2.2.2.2.2.2.1, vM.2.2.2.2.2.2.2.2.2.2.2.1, vM.2.2.2.2.2.2.2.2.2.2.2.2.1, vM.2.2.2.2.2.2.2.2.2.2.2.2.2.1, vM.2.2.2.2.2.2.2.2.2.2.2.2.2.2.1, vM.2.2.2.2.2.2.2.2.2.2.2.2.2.2.2.1, vM.2.2.2.2.2.2.2.2.2.2.2.2.2.2.2.2.1, vM.2.2.2.2.2.2.2.2.2.2.2.2.2.2.2.2.2.1, vM.2.2.2.2.2.2.2.2.2.2.2.2.2.2.2.2.2.2.1, vM.2.2.2.2.2.2.2.2.2.2.2.2.2.2.2.2.2.2.2.1, (2 : Int32)))) Z 0 20 dX5_give_38 (mm wm0) inx_X5 tyX5_ok nmX5 rfl (by decide) rfl rfl rfl rfl rfl rfl (Nat.le_of_ble_eq_true rfl) rfl ?_
        refine g_aload_n (pc := 41) Z 1 dX5_give_41 rfl ?_
        refine g_get (pc := 42) (v := .int (2 : Int32)) (T := TX5) (N := 21) Z 0 20 dX5_give_42 (mm wm0) inx_X5 rfl (by decide) rfl rfl rfl ?_
        refine g_if_le (pc := 45) (tgt := 50) Z dX5_give_45 (by decide) (fun c0 => absurd c0 (by decide)) (fun _ => ?_)
        refine g_iconst (pc := 48) (v := 0) Z dX5_give_48 (by decide) ?_
        obtain rfl := Option.some.inj hf
        exact g_iret Z hr dX5_give_49 (vM.1, vM.2.1, vM.2.2.1, vM.2.2.2.1, vM.2.2.2.2.1, vM.2.2.2.2.2.1, vM.2.2.2.2.2.2.1, vM.2.2.2.2.2.2.2.1, vM.2.2.2.2.2.2.2.2.1, vM.2.2.2.2.2.2.2.2.2.1, vM.2.2.2.2.2.2.2.2.2.2.1, vM.2.2.2.2.2.2.2.2.2.2.2.1, vM.2.2.2.2.2.2.2.2.2.2.2.2.1, vM.2.2.2.2.2.2.2.2.2.2.2.2.2.1, vM.2.2.2.2.2.2.2.2.2.2.2.2.2.2.1, vM.2.2.2.2.2.2.2.2.2.2.2.2.2.2.2.1, vM.2.2.2.2.2.2.2.2.2.2.2.2.2.2.2.2.1, vM.2.2.2.2.2.2.2.2.2.2.2.2.2.2.2.2.2.1, vM.2.2.2.2.2.2.2.2.2.2.2.2.2.2.2.2.2.2.1, vM.2.2.2.2.2.2.2.2.2.2.2.2.2.2.2.2.2.2.2.1, (2 : Int32)) ⟨rfl, rfl⟩ rfl
    · replace hf := gIfP (bI_nz c26) hf
      refine g_iconst (pc := 25) (v := 1) Z dX5_give_25 (by decide) ?_
      refine g_goto (pc := 26) (tgt := 38) Z dX5_give_26 (by decide) ?_
      refine g_put (pc := 38) (T := TX5) (N := 21) (ws' := (wM ad ca (vM.1, vM.2.1, vM.2.2.1, vM.2.2.2.1, vM.2.2.2.2.1, vM.2.2.2.2.2.1, vM.2.2.2.2.2.2.1, vM.2.2.2.2.2.2.2.1, vM.2.2.2.2.2.2.2.2.1, vM.2.2.2.2.2.2.2.2.2.1, vM.2.2.2.2.2.2.2.2.2.2.1, vM.2.2.2.2.2.2.2.2.2.2.2.1, vM.2.2.2.2.2.2.2.2.2.2.2.2.1, vM.2.2.2.2.2.2.2.2.2.2.2.2.2.1, vM.2.2.2.2.2.2.2.2.2.2.2.2.2.2.1, vM.2.2.2.2.2.2.2.2.2.2.2.2.2.2.2.1, vM.2.2.2.2.2.2.2.2.2.2.2.2.2.2.2.2.1, vM.2.2.2.2.2.2.2.2.2.2.2.2.2.2.2.2.2.1, vM.2.2.2.2.2.2.2.2.2.2.2.2.2.2.2.2.2.2.1, vM.2.2.2.2.2.2.2.2.2.2.2.2.2.2.2.2.2.2.2.1, (1 : Int32)))) Z 0 20 dX5_give_38 (mm wm0) inx_X5 tyX5_ok nmX5 rfl (by decide) rfl rfl rfl rfl rfl rfl (Nat.le_of_ble_eq_true rfl) rfl ?_
      refine g_aload_n (pc := 41) Z 1 dX5_give_41 rfl ?_
      refine g_get (pc := 42) (v := .int (1 : Int32)) (T := TX5) (N := 21) Z 0 20 dX5_give_42 (mm wm0) inx_X5 rfl (by decide) rfl rfl rfl ?_
      refine g_if_le (pc := 45) (tgt := 50) Z dX5_give_45 (by decide) (fun c0 => absurd c0 (by decide)) (fun _ => ?_)
      refine g_iconst (pc := 48) (v := 0) Z dX5_give_48 (by decide) ?_
      obtain rfl := Option.some.inj hf
      exact g_iret Z hr dX5_give_49 (vM.1, vM.2.1, vM.2.2.1, vM.2.2.2.1, vM.2.2.2.2.1, vM.2.2.2.2.2.1, vM.2.2.2.2.2.2.1, vM.2.2.2.2.2.2.2.1, vM.2.2.2.2.2.2.2.2.1, vM.2.2.2.2.2.2.2.2.2.1, vM.2.2.2.2.2.2.2.2.2.2.1, vM.2.2.2.2.2.2.2.2.2.2.2.1, vM.2.2.2.2.2.2.2.2.2.2.2.2.1, vM.2.2.2.2.2.2.2.2.2.2.2.2.2.1, vM.2.2.2.2.2.2.2.2.2.2.2.2.2.2.1, vM.2.2.2.2.2.2.2.2.2.2.2.2.2.2.2.1, vM.2.2.2.2.2.2.2.2.2.2.2.2.2.2.2.2.1, vM.2.2.2.2.2.2.2.2.2.2.2.2.2.2.2.2.2.1, vM.2.2.2.2.2.2.2.2.2.2.2.2.2.2.2.2.2.2.1, vM.2.2.2.2.2.2.2.2.2.2.2.2.2.2.2.2.2.2.2.1, (1 : Int32)) ⟨rfl, rfl⟩ rfl
  · replace hf := gIfP (bI_nz c21) hf
    refine g_iconst (pc := 7) (v := -1) Z dX5_give_7 (by decide) ?_
    refine g_goto (pc := 8) (tgt := 16) Z dX5_give_8 (by decide) ?_
    refine g_istore_n (pc := 16) (lv' := [(2, .int (-1 : Int32)), (0, .ref (ad 20)), (1, .int p1)]) Z dX5_give_16 (by decide) rfl ?_
    refine g_aload_n (pc := 17) Z 1 dX5_give_17 rfl ?_
    refine g_aload_n (pc := 18) Z 1 dX5_give_18 rfl ?_
    obtain ⟨x36, h37, hf⟩ := Option.bind_eq_some_iff.mp hf
    refine g_calli (pc := 19) (ws2 := fun u => (wM ad ca vM)) (wr := ([] : va_W)) Z [0, 1, 2, 3, 4, 5, 6, 7] [] [0, 1, 2, 3, 4, 5, 6, 7] (g_runV Z (c_Mod_isShut l D ad ca vM x36 h37) (cwV 0 Z.2.2.2.2.1 (gg_V wm57 wm58 wm59 wm11 wm60) rfl rfl rfl (yv_of rfl yd_Mod_isShut) ⟨Nat.le_of_ble_eq_true rfl, Nat.le_of_ble_eq_true rfl⟩) [0, 1, 2, 3, 4, 5, 6, 7] rfl (by decide) 0 rfl rfl rfl rfl rfl (Nat.le_of_ble_eq_true rfl) dX5_give_19 ⟨Nat.le_of_ble_eq_true rfl, Nat.le_of_ble_eq_true rfl⟩) rfl rfl (by decide) (by decide) (by decide) (fun _ => rfl) (fun r u hu => ?_)
    obtain rfl := hu.symm
    refine g_if_eq (pc := 22) (tgt := 29) Z dX5_give_22 (by decide) (fun c38 => ?_) (fun c38 => ?_)
    · replace hf := gIfN (bI_z c38) hf
      refine g_iload_n (pc := 29) Z 0 dX5_give_29 rfl ?_
      refine g_if_ge (pc := 30) (tgt := 37) Z dX5_give_30 (by decide) (fun c0 => absurd c0 (by decide)) (fun _ => ?_)
      refine g_iconst (pc := 33) (v := 2) Z dX5_give_33 (by decide) ?_
      refine g_goto (pc := 34) (tgt := 38) Z dX5_give_34 (by decide) ?_
      refine g_put (pc := 38) (T := TX5) (N := 21) (ws' := (wM ad ca (vM.1, vM.2.1, vM.2.2.1, vM.2.2.2.1, vM.2.2.2.2.1, vM.2.2.2.2.2.1, vM.2.2.2.2.2.2.1, vM.2.2.2.2.2.2.2.1, vM.2.2.2.2.2.2.2.2.1, vM.2.2.2.2.2.2.2.2.2.1, vM.2.2.2.2.2.2.2.2.2.2.1, vM.2.2.2.2.2.2.2.2.2.2.2.1, vM.2.2.2.2.2.2.2.2.2.2.2.2.1, vM.2.2.2.2.2.2.2.2.2.2.2.2.2.1, vM.2.2.2.2.2.2.2.2.2.2.2.2.2.2.1, vM.2.2.2.2.2.2.2.2.2.2.2.2.2.2.2.1, vM.2.2.2.2.2.2.2.2.2.2.2.2.2.2.2.2.1, vM.2.2.2.2.2.2.2.2.2.2.2.2.2.2.2.2.2.1, vM.2.2.2.2.2.2.2.2.2.2.2.2.2.2.2.2.2.2.1, vM.2.2.2.2.2.2.2.2.2.2.2.2.2.2.2.2.2.2.2.1, (2 : Int32)))) Z 0 20 dX5_give_38 (mm wm0) inx_X5 tyX5_ok nmX5 rfl (by decide) rfl rfl rfl rfl rfl rfl (Nat.le_of_ble_eq_true rfl) rfl ?_
      refine g_aload_n (pc := 41) Z 1 dX5_give_41 rfl ?_
      refine g_get (pc := 42) (v := .int (2 : Int32)) (T := TX5) (N := 21) Z 0 20 dX5_give_42 (mm wm0) inx_X5 rfl (by decide) rfl rfl rfl ?_
      refine g_if_le (pc := 45) (tgt := 50) Z dX5_give_45 (by decide) (fun c0 => absurd c0 (by decide)) (fun _ => ?_)
      refine g_iconst (pc := 48) (v := 0) Z dX5_give_48 (by decide) ?_
      obtain rfl := Option.some.inj hf
      exact g_iret Z hr dX5_give_49 (vM.1, vM.2.1, vM.2.2.1, vM.2.2.2.1, vM.2.2.2.2.1, vM.2.2.2.2.2.1, vM.2.2.2.2.2.2.1, vM.2.2.2.2.2.2.2.1, vM.2.2.2.2.2.2.2.2.1, vM.2.2.2.2.2.2.2.2.2.1, vM.2.2.2.2.2.2.2.2.2.2.1, vM.2.2.2.2.2.2.2.2.2.2.2.1, vM.2.2.2.2.2.2.2.2.2.2.2.2.1, vM.2.2.2.2.2.2.2.2.2.2.2.2.2.1, vM.2.2.2.2.2.2.2.2.2.2.2.2.2.2.1, vM.2.2.2.2.2.2.2.2.2.2.2.2.2.2.2.1, vM.2.2.2.2.2.2.2.2.2.2.2.2.2.2.2.2.1, vM.2.2.2.2.2.2.2.2.2.2.2.2.2.2.2.2.2.1, vM.2.2.2.2.2.2.2.2.2.2.2.2.2.2.2.2.2.2.1, vM.2.2.2.2.2.2.2.2.2.2.2.2.2.2.2.2.2.2.2.1, (2 : Int32)) ⟨rfl, rfl⟩ rfl
    · replace hf := gIfP (bI_nz c38) hf
      refine g_iconst (pc := 25) (v := 1) Z dX5_give_25 (by decide) ?_
      refine g_goto (pc := 26) (tgt := 38) Z dX5_give_26 (by decide) ?_
      refine g_put (pc := 38) (T := TX5) (N := 21) (ws' := (wM ad ca (vM.1, vM.2.1, vM.2.2.1, vM.2.2.2.1, vM.2.2.2.2.1, vM.2.2.2.2.2.1, vM.2.2.2.2.2.2.1, vM.2.2.2.2.2.2.2.1, vM.2.2.2.2.2.2.2.2.1, vM.2.2.2.2.2.2.2.2.2.1, vM.2.2.2.2.2.2.2.2.2.2.1, vM.2.2.2.2.2.2.2.2.2.2.2.1, vM.2.2.2.2.2.2.2.2.2.2.2.2.1, vM.2.2.2.2.2.2.2.2.2.2.2.2.2.1, vM.2.2.2.2.2.2.2.2.2.2.2.2.2.2.1, vM.2.2.2.2.2.2.2.2.2.2.2.2.2.2.2.1, vM.2.2.2.2.2.2.2.2.2.2.2.2.2.2.2.2.1, vM.2.2.2.2.2.2.2.2.2.2.2.2.2.2.2.2.2.1, vM.2.2.2.2.2.2.2.2.2.2.2.2.2.2.2.2.2.2.1, vM.2.2.2.2.2.2.2.2.2.2.2.2.2.2.2.2.2.2.2.1, (1 : Int32)))) Z 0 20 dX5_give_38 (mm wm0) inx_X5 tyX5_ok nmX5 rfl (by decide) rfl rfl rfl rfl rfl rfl (Nat.le_of_ble_eq_true rfl) rfl ?_
      refine g_aload_n (pc := 41) Z 1 dX5_give_41 rfl ?_
      refine g_get (pc := 42) (v := .int (1 : Int32)) (T := TX5) (N := 21) Z 0 20 dX5_give_42 (mm wm0) inx_X5 rfl (by decide) rfl rfl rfl ?_
      refine g_if_le (pc := 45) (tgt := 50) Z dX5_give_45 (by decide) (fun c0 => absurd c0 (by decide)) (fun _ => ?_)
      refine g_iconst (pc := 48) (v := 0) Z dX5_give_48 (by decide) ?_
      obtain rfl := Option.some.inj hf
      exact g_iret Z hr dX5_give_49 (vM.1, vM.2.1, vM.2.2.1, vM.2.2.2.1, vM.2.2.2.2.1, vM.2.2.2.2.2.1, vM.2.2.2.2.2.2.1, vM.2.2.2.2.2.2.2.1, vM.2.2.2.2.2.2.2.2.1, vM.2.2.2.2.2.2.2.2.2.1, vM.2.2.2.2.2.2.2.2.2.2.1, vM.2.2.2.2.2.2.2.2.2.2.2.1, vM.2.2.2.2.2.2.2.2.2.2.2.2.1, vM.2.2.2.2.2.2.2.2.2.2.2.2.2.1, vM.2.2.2.2.2.2.2.2.2.2.2.2.2.2.1, vM.2.2.2.2.2.2.2.2.2.2.2.2.2.2.2.1, vM.2.2.2.2.2.2.2.2.2.2.2.2.2.2.2.2.1, vM.2.2.2.2.2.2.2.2.2.2.2.2.2.2.2.2.2.1, vM.2.2.2.2.2.2.2.2.2.2.2.2.2.2.2.2.2.2.1, vM.2.2.2.2.2.2.2.2.2.2.2.2.2.2.2.2.2.2.2.1, (1 : Int32)) ⟨rfl, rfl⟩ rfl
