theorem wm85 : Cond.methodLink RX5 145 yX5_find ∈ gA := wt4 114 rfl rfl
theorem wm86 : Cond.instanceMethod yX5_find ∈ gA := wt4 116 rfl rfl
theorem wm87 : Cond.selects RX5 yX5_find yX5_find ∈ gA := wtS 30 rfl rfl
theorem wm88 : cd_Mod_find ∈ gA := wt4 117 rfl rfl
theorem wm89 : Jvm.Cond.constantLong RX5 143 (1694) ∈ gA := wt4 113 rfl rfl
/-! RedoHeapModel.open()I -/
def f_Mod_open_181 (N : Nat) : Nat → MT → Int32 → Int32 → Option (Int32 × MT)
  | 0, _, _, _ => none
  | n + 1, vM, y1, y2 => if (1024 : Int32) ≤ y2 then if gI (2 : Int32) 1024 = true then some (y1, (vM.1, vM.2.1, vM.2.2.1, vM.2.2.2.1, vM.2.2.2.2.1, vM.2.2.2.2.2.1, vM.2.2.2.2.2.2.1, vM.2.2.2.2.2.2.2.1, vM.2.2.2.2.2.2.2.2.1, vM.2.2.2.2.2.2.2.2.2.1, vM.2.2.2.2.2.2.2.2.2.2.1, vM.2.2.2.2.2.2.2.2.2.2.2.1, vM.2.2.2.2.2.2.2.2.2.2.2.2.1, vM.2.1 (2 : Int32).toNatClampNeg, vM.2.2.2.2.2.2.2.2.2.2.2.2.2.2.1, vM.2.2.2.2.2.2.2.2.2.2.2.2.2.2.2.1, vM.2.2.2.2.2.2.2.2.2.2.2.2.2.2.2.2.1, vM.2.2.2.2.2.2.2.2.2.2.2.2.2.2.2.2.2.1, vM.2.2.2.2.2.2.2.2.2.2.2.2.2.2.2.2.2.2.1, vM.2.2.2.2.2.2.2.2.2.2.2.2.2.2.2.2.2.2.2.1, vM.2.2.2.2.2.2.2.2.2.2.2.2.2.2.2.2.2.2.2.2)) else none else if gI y2 1024 = true then if gI y2 1024 = true then f_Mod_open_181 N n (vM.1, vM.2.1, vM.2.2.1, vM.2.2.2.1, vM.2.2.2.2.1, vp_updL vM.2.2.2.2.2.1 y2.toNatClampNeg (vM.2.1 y2.toNatClampNeg), vM.2.2.2.2.2.2.1, vM.2.2.2.2.2.2.2.1, vM.2.2.2.2.2.2.2.2.1, vM.2.2.2.2.2.2.2.2.2.1, vM.2.2.2.2.2.2.2.2.2.2.1, vM.2.2.2.2.2.2.2.2.2.2.2.1, vM.2.2.2.2.2.2.2.2.2.2.2.2.1, vM.2.2.2.2.2.2.2.2.2.2.2.2.2.1, vM.2.2.2.2.2.2.2.2.2.2.2.2.2.2.1, vM.2.2.2.2.2.2.2.2.2.2.2.2.2.2.2.1, vM.2.2.2.2.2.2.2.2.2.2.2.2.2.2.2.2.1, vM.2.2.2.2.2.2.2.2.2.2.2.2.2.2.2.2.2.1, vM.2.2.2.2.2.2.2.2.2.2.2.2.2.2.2.2.2.2.1, vM.2.2.2.2.2.2.2.2.2.2.2.2.2.2.2.2.2.2.2.1, vM.2.2.2.2.2.2.2.2.2.2.2.2.2.2.2.2.2.2.2.2) y1 (y2 + (1 : Int32)) else none else none
def f_Mod_open_115 (N : Nat) : Nat → MT → Int32 → Int32 → Int32 → Int32 → Option (Int32 × MT)
  | 0, _, _, _, _, _ => none
  | n + 1, vM, y1, y2, y3, y4 => if (176 : Int32) ≤ y4 then if y3 ≤ 0 then f_Mod_open_181 N N (vM.1, vM.2.1, vM.2.2.1, vM.2.2.2.1, vM.2.2.2.2.1, vM.2.2.2.2.2.1, vM.2.2.2.2.2.2.1, vM.2.2.2.2.2.2.2.1, vM.2.2.2.2.2.2.2.2.1, vM.2.2.2.2.2.2.2.2.2.1, vM.2.2.2.2.2.2.2.2.2.2.1, (0 : Int32), (0 : Int32), vM.2.2.2.2.2.2.2.2.2.2.2.2.2.1, vM.2.2.2.2.2.2.2.2.2.2.2.2.2.2.1, vM.2.2.2.2.2.2.2.2.2.2.2.2.2.2.2.1, vM.2.2.2.2.2.2.2.2.2.2.2.2.2.2.2.2.1, vM.2.2.2.2.2.2.2.2.2.2.2.2.2.2.2.2.2.1, vM.2.2.2.2.2.2.2.2.2.2.2.2.2.2.2.2.2.2.1, vM.2.2.2.2.2.2.2.2.2.2.2.2.2.2.2.2.2.2.2.1, vM.2.2.2.2.2.2.2.2.2.2.2.2.2.2.2.2.2.2.2.2) y1 (0 : Int32) else (f_Mod_empty N vM y2 y3).bind fun x7 => if x7.1 = true then f_Mod_open_181 N N (x7.2.1, x7.2.2.1, x7.2.2.2.1, x7.2.2.2.2.1, x7.2.2.2.2.2.1, x7.2.2.2.2.2.2.1, x7.2.2.2.2.2.2.2.1, x7.2.2.2.2.2.2.2.2.1, x7.2.2.2.2.2.2.2.2.2.1, x7.2.2.2.2.2.2.2.2.2.2.1, x7.2.2.2.2.2.2.2.2.2.2.2.1, (0 : Int32), (0 : Int32), x7.2.2.2.2.2.2.2.2.2.2.2.2.2.2.1, x7.2.2.2.2.2.2.2.2.2.2.2.2.2.2.2.1, x7.2.2.2.2.2.2.2.2.2.2.2.2.2.2.2.2.1, x7.2.2.2.2.2.2.2.2.2.2.2.2.2.2.2.2.2.1, x7.2.2.2.2.2.2.2.2.2.2.2.2.2.2.2.2.2.2.1, x7.2.2.2.2.2.2.2.2.2.2.2.2.2.2.2.2.2.2.2.1, x7.2.2.2.2.2.2.2.2.2.2.2.2.2.2.2.2.2.2.2.2.1, x7.2.2.2.2.2.2.2.2.2.2.2.2.2.2.2.2.2.2.2.2.2) y1 (0 : Int32) else some ((-2 : Int32), x7.2) else if gI y4 1024 = true then if (lg_cmp (vM.2.1 y4.toNatClampNeg) (0 : Int64)) = 0 then f_Mod_open_115 N n vM y1 y2 y3 (y4 + (1 : Int32)) else f_Mod_open_115 N n vM y1 y2 ((y4 - (16 : Int32)) + (1 : Int32)) (y4 + (1 : Int32)) else none
def f_Mod_open (N : Nat) (vM : MT) : Option (Int32 × MT) :=
  if vM.2.2.2.2.2.2.2.2.2.1 = true then some ((0 : Int32), (vM.1, vM.2.1, vM.2.2.1, vM.2.2.2.1, vM.2.2.2.2.1, vM.2.2.2.2.2.1, vM.2.2.2.2.2.2.1, vM.2.2.2.2.2.2.2.1, vM.2.2.2.2.2.2.2.2.1, vM.2.2.2.2.2.2.2.2.2.1, vM.2.2.2.2.2.2.2.2.2.2.1, vM.2.2.2.2.2.2.2.2.2.2.2.1, vM.2.2.2.2.2.2.2.2.2.2.2.2.1, vM.2.2.2.2.2.2.2.2.2.2.2.2.2.1, vM.2.2.2.2.2.2.2.2.2.2.2.2.2.2.1, vM.2.2.2.2.2.2.2.2.2.2.2.2.2.2.2.1, vM.2.2.2.2.2.2.2.2.2.2.2.2.2.2.2.2.1, vM.2.2.2.2.2.2.2.2.2.2.2.2.2.2.2.2.2.1, vM.2.2.2.2.2.2.2.2.2.2.2.2.2.2.2.2.2.2.1, vM.2.2.2.2.2.2.2.2.2.2.2.2.2.2.2.2.2.2.2.1, (1 : Int32))) else (f_Mod_drop N (vM.1, vM.2.1, vM.2.2.1, vM.2.2.2.1, vM.2.2.2.2.1, vM.2.2.2.2.2.1, vM.2.2.2.2.2.2.1, vM.2.2.2.2.2.2.2.1, vM.2.2.2.2.2.2.2.2.1, true, vM.2.2.2.2.2.2.2.2.2.2.1, vM.2.2.2.2.2.2.2.2.2.2.2.1, vM.2.2.2.2.2.2.2.2.2.2.2.2.1, vM.2.2.2.2.2.2.2.2.2.2.2.2.2.1, vM.2.2.2.2.2.2.2.2.2.2.2.2.2.2.1, vM.2.2.2.2.2.2.2.2.2.2.2.2.2.2.2.1, vM.2.2.2.2.2.2.2.2.2.2.2.2.2.2.2.2.1, vM.2.2.2.2.2.2.2.2.2.2.2.2.2.2.2.2.2.1, vM.2.2.2.2.2.2.2.2.2.2.2.2.2.2.2.2.2.2.1, vM.2.2.2.2.2.2.2.2.2.2.2.2.2.2.2.2.2.2.2.1, (0 : Int32))).bind fun x13 => if gI (0 : Int32) 1024 = true then if (lg_cmp (x13.2.1 (0 : Int32).toNatClampNeg) (0 : Int64)) = 0 then (f_Mod_write N (x13.1, x13.2.1, x13.2.2.1, x13.2.2.2.1, x13.2.2.2.2.1, x13.2.2.2.2.2.1, x13.2.2.2.2.2.2.1, x13.2.2.2.2.2.2.2.1, x13.2.2.2.2.2.2.2.2.1, x13.2.2.2.2.2.2.2.2.2.1, x13.2.2.2.2.2.2.2.2.2.2.1, (0 : Int32), (0 : Int32), x13.2.2.2.2.2.2.2.2.2.2.2.2.2.1, x13.2.2.2.2.2.2.2.2.2.2.2.2.2.2.1, x13.2.2.2.2.2.2.2.2.2.2.2.2.2.2.2.1, x13.2.2.2.2.2.2.2.2.2.2.2.2.2.2.2.2.1, x13.2.2.2.2.2.2.2.2.2.2.2.2.2.2.2.2.2.1, x13.2.2.2.2.2.2.2.2.2.2.2.2.2.2.2.2.2.2.1, x13.2.2.2.2.2.2.2.2.2.2.2.2.2.2.2.2.2.2.2.1, x13.2.2.2.2.2.2.2.2.2.2.2.2.2.2.2.2.2.2.2.2) (176 : Int32) (1694 : Int64)).bind fun x19 => if x19.1 = true then (f_Mod_write N x19.2 (1 : Int32) (0 : Int64)).bind fun x22 => if x22.1 = true then (f_Mod_write N x22.2 (0 : Int32) (1 : Int64)).bind fun x25 => if x25.1 = true then (f_Mod_syncAll N x25.2).bind fun x28 => f_Mod_open_181 N N (x28.2.1, x28.2.2.1, x28.2.2.2.1, x28.2.2.2.2.1, x28.2.2.2.2.2.1, x28.2.2.2.2.2.2.1, x28.2.2.2.2.2.2.2.1, x28.2.2.2.2.2.2.2.2.1, x28.2.2.2.2.2.2.2.2.2.1, x28.2.2.2.2.2.2.2.2.2.2.1, x28.2.2.2.2.2.2.2.2.2.2.2.1, (0 : Int32), (0 : Int32), x28.2.2.2.2.2.2.2.2.2.2.2.2.2.2.1, x28.2.2.2.2.2.2.2.2.2.2.2.2.2.2.2.1, x28.2.2.2.2.2.2.2.2.2.2.2.2.2.2.2.2.1, x28.2.2.2.2.2.2.2.2.2.2.2.2.2.2.2.2.2.1, x28.2.2.2.2.2.2.2.2.2.2.2.2.2.2.2.2.2.2.1, x28.2.2.2.2.2.2.2.2.2.2.2.2.2.2.2.2.2.2.2.1, x28.2.2.2.2.2.2.2.2.2.2.2.2.2.2.2.2.2.2.2.2.1, x28.2.2.2.2.2.2.2.2.2.2.2.2.2.2.2.2.2.2.2.2.2) (0 : Int32) (0 : Int32) else some ((-2 : Int32), x25.2) else some ((-2 : Int32), x22.2) else some ((-2 : Int32), x19.2) else (f_Mod_find N (x13.1, x13.2.1, x13.2.2.1, x13.2.2.2.1, x13.2.2.2.2.1, x13.2.2.2.2.2.1, x13.2.2.2.2.2.2.1, x13.2.2.2.2.2.2.2.1, x13.2.2.2.2.2.2.2.2.1, x13.2.2.2.2.2.2.2.2.2.1, x13.2.2.2.2.2.2.2.2.2.2.1, (0 : Int32), (0 : Int32), x13.2.2.2.2.2.2.2.2.2.2.2.2.2.1, x13.2.2.2.2.2.2.2.2.2.2.2.2.2.2.1, x13.2.2.2.2.2.2.2.2.2.2.2.2.2.2.2.1, x13.2.2.2.2.2.2.2.2.2.2.2.2.2.2.2.2.1, x13.2.2.2.2.2.2.2.2.2.2.2.2.2.2.2.2.2.1, x13.2.2.2.2.2.2.2.2.2.2.2.2.2.2.2.2.2.2.1, x13.2.2.2.2.2.2.2.2.2.2.2.2.2.2.2.2.2.2.2.1, x13.2.2.2.2.2.2.2.2.2.2.2.2.2.2.2.2.2.2.2.2)).bind fun x17 => f_Mod_open_115 N N x17.2 x17.2.2.2.2.2.2.2.2.2.2.2.2.2.1 x17.1 (0 : Int32) (16 : Int32) else none
abbrev cd_Mod_open : Cond := .code yX5_open cX5_open 5 (some .int)
theorem yd_Mod_open : yX5_open.cls ≠ "java/lang/invoke/MethodHandle" ∧ yX5_open.cls ≠ "java/lang/invoke/VarHandle" ∧ (parseMethodDescriptor yX5_open.desc).map (fun d => d.parameters.length) = some 0 := by decide +kernel
abbrev rm_Mod_open : Room := { frames := 4, cells := 0, slots := 0, locals := 95 }
abbrev q_Mod_open (D : va_G) (ad : Nat → Nat) (ca : Nat → ClassId) (res : Int32 × MT) (A : Nat → Prop) : Array Value → State → Outcome → State → Prop := va_Qi (fun (r : Int32) (u : MT) => r = res.1 ∧ u = res.2) (gB D cls (tys ca) A (fun (u : MT) => (wM ad ca u))) A
set_option maxHeartbeats 4000000 in
set_option maxRecDepth 100000 in
theorem w_Mod_open_181 {p : Program} {l : Launch} {e : Env} {s : State} {m : MethodId} {args : Array Value} {below : List Frame} {meth : Method} {c : Code} {D : va_G} {ad : Nat → Nat} {ca : Nat → ClassId} {A : Nat → Prop} {N : Nat} {res : Int32 × MT} (Z : gZ p s m args meth c cX5_open 5 RX5 (cd_Mod_open :: gA) A D cls (tys ca)) (hr : meth.sig.returnType = (some .int)) : ∀ (n : Nat) (vM : MT) (y1 : Int32) (y2 : Int32), f_Mod_open_181 N n vM y1 y2 = some res → gW p l e rm_Mod_open s m args below meth c 5 A D cls 0 0 (MQ below (q_Mod_open D ad ca res A) args s 0 0 A) (wM ad ca vM) [(0, .ref (ad 20)), (1, .int y1), (2, .int y2)] 181 [] := by
  intro n
  induction n with
  | zero =>
    intro vM y1 y2 hf
    exact absurd hf (by rw [f_Mod_open_181]; exact fun h => by cases h)
  | succ n ih =>
    intro vM y1 y2 hf
    rw [f_Mod_open_181] at hf
    refine g_iload_n (pc := 181) Z 2 dX5_open_181 rfl ?_
    refine g_sipush (pc := 182) (v := 1024) Z dX5_open_182 (by decide) ?_
    refine g_icmp_ge (pc := 185) (tgt := 206) Z dX5_open_185 (by decide) (fun c1 => ?_) (fun c1 => ?_)
    · replace hf := gIfP c1 hf
      refine g_aload_n (pc := 206) Z 0 dX5_open_206 rfl ?_
      refine g_aload_n (pc := 207) Z 0 dX5_open_207 rfl ?_
      refine g_get (pc := 208) (v := .ref (ad 22)) (T := TX5) (N := 21) Z 0 1 dX5_open_208 (mm wm21) inx_X5 rfl (by decide) rfl rfl rfl ?_
      refine g_iconst (pc := 211) (v := 2) Z dX5_open_211 (by decide) ?_
      obtain ⟨b2, hf⟩ := gGuard hf
      refine g_lald (pc := 212) (f := vM.2.1) Z 2 0 dX5_open_212 rfl rfl (gI_in b2) ?_
      refine g_put (pc := 213) (T := TX5) (N := 21) (ws' := (wM ad ca (vM.1, vM.2.1, vM.2.2.1, vM.2.2.2.1, vM.2.2.2.2.1, vM.2.2.2.2.2.1, vM.2.2.2.2.2.2.1, vM.2.2.2.2.2.2.2.1, vM.2.2.2.2.2.2.2.2.1, vM.2.2.2.2.2.2.2.2.2.1, vM.2.2.2.2.2.2.2.2.2.2.1, vM.2.2.2.2.2.2.2.2.2.2.2.1, vM.2.2.2.2.2.2.2.2.2.2.2.2.1, vM.2.1 (2 : Int32).toNatClampNeg, vM.2.2.2.2.2.2.2.2.2.2.2.2.2.2.1, vM.2.2.2.2.2.2.2.2.2.2.2.2.2.2.2.1, vM.2.2.2.2.2.2.2.2.2.2.2.2.2.2.2.2.1, vM.2.2.2.2.2.2.2.2.2.2.2.2.2.2.2.2.2.1, vM.2.2.2.2.2.2.2.2.2.2.2.2.2.2.2.2.2.2.1, vM.2.2.2.2.2.2.2.2.2.2.2.2.2.2.2.2.2.2.2.1, vM.2.2.2.2.2.2.2.2.2.2.2.2.2.2.2.2.2.2.2.2))) Z 0 13 dX5_open_213 (mm wm52) inx_X5 tyX5_ok nmX5 rfl (by decide) rfl rfl rfl rfl rfl rfl (Nat.le_of_ble_eq_true rfl) rfl ?_
      refine g_iload_n (pc := 216) Z 1 dX5_open_216 rfl ?_
      obtain rfl := Option.some.inj hf
      exact g_iret Z hr dX5_open_217 (vM.1, vM.2.1, vM.2.2.1, vM.2.2.2.1, vM.2.2.2.2.1, vM.2.2.2.2.2.1, vM.2.2.2.2.2.2.1, vM.2.2.2.2.2.2.2.1, vM.2.2.2.2.2.2.2.2.1, vM.2.2.2.2.2.2.2.2.2.1, vM.2.2.2.2.2.2.2.2.2.2.1, vM.2.2.2.2.2.2.2.2.2.2.2.1, vM.2.2.2.2.2.2.2.2.2.2.2.2.1, vM.2.1 (2 : Int32).toNatClampNeg, vM.2.2.2.2.2.2.2.2.2.2.2.2.2.2.1, vM.2.2.2.2.2.2.2.2.2.2.2.2.2.2.2.1, vM.2.2.2.2.2.2.2.2.2.2.2.2.2.2.2.2.1, vM.2.2.2.2.2.2.2.2.2.2.2.2.2.2.2.2.2.1, vM.2.2.2.2.2.2.2.2.2.2.2.2.2.2.2.2.2.2.1, vM.2.2.2.2.2.2.2.2.2.2.2.2.2.2.2.2.2.2.2.1, vM.2.2.2.2.2.2.2.2.2.2.2.2.2.2.2.2.2.2.2.2) ⟨rfl, rfl⟩ rfl
    · replace hf := gIfN c1 hf
      refine g_aload_n (pc := 188) Z 0 dX5_open_188 rfl ?_
      refine g_get (pc := 189) (v := .ref (ad 25)) (T := TX5) (N := 21) Z 0 5 dX5_open_189 (mm wm29) inx_X5 rfl (by decide) rfl rfl rfl ?_
      refine g_iload_n (pc := 192) Z 2 dX5_open_192 rfl ?_
      refine g_aload_n (pc := 193) Z 0 dX5_open_193 rfl ?_
      refine g_get (pc := 194) (v := .ref (ad 22)) (T := TX5) (N := 21) Z 0 1 dX5_open_194 (mm wm21) inx_X5 rfl (by decide) rfl rfl rfl ?_
      refine g_iload_n (pc := 197) Z 2 dX5_open_197 rfl ?_
      obtain ⟨b3, hf⟩ := gGuard hf
      refine g_lald (pc := 198) (f := vM.2.1) Z 2 0 dX5_open_198 rfl rfl (gI_in b3) ?_
      obtain ⟨b4, hf⟩ := gGuard hf
      refine g_last (pc := 199) (f := vM.2.2.2.2.2.1) (ws' := (wM ad ca (vM.1, vM.2.1, vM.2.2.1, vM.2.2.2.1, vM.2.2.2.2.1, vp_updL vM.2.2.2.2.2.1 y2.toNatClampNeg (vM.2.1 y2.toNatClampNeg), vM.2.2.2.2.2.2.1, vM.2.2.2.2.2.2.2.1, vM.2.2.2.2.2.2.2.2.1, vM.2.2.2.2.2.2.2.2.2.1, vM.2.2.2.2.2.2.2.2.2.2.1, vM.2.2.2.2.2.2.2.2.2.2.2.1, vM.2.2.2.2.2.2.2.2.2.2.2.2.1, vM.2.2.2.2.2.2.2.2.2.2.2.2.2.1, vM.2.2.2.2.2.2.2.2.2.2.2.2.2.2.1, vM.2.2.2.2.2.2.2.2.2.2.2.2.2.2.2.1, vM.2.2.2.2.2.2.2.2.2.2.2.2.2.2.2.2.1, vM.2.2.2.2.2.2.2.2.2.2.2.2.2.2.2.2.2.1, vM.2.2.2.2.2.2.2.2.2.2.2.2.2.2.2.2.2.2.1, vM.2.2.2.2.2.2.2.2.2.2.2.2.2.2.2.2.2.2.2.1, vM.2.2.2.2.2.2.2.2.2.2.2.2.2.2.2.2.2.2.2.2))) Z 5 0 dX5_open_199 rfl rfl (gI_in b4) rfl ?_
      refine g_iinc (pc := 200) (v := y2 + (1 : Int32)) (lv' := [(2, .int (y2 + (1 : Int32))), (0, .ref (ad 20)), (1, .int y1)]) Z 2 dX5_open_200 rfl rfl (by decide) rfl ?_
      refine g_goto (pc := 203) (tgt := 181) Z dX5_open_203 (by decide) ?_
      refine g_locals (lv2 := [(0, .ref (ad 20)), (1, .int y1), (2, .int (y2 + (1 : Int32)))]) [1, 2, 0] rfl ?_
      exact ih _ _ _ hf
set_option maxHeartbeats 4000000 in
set_option maxRecDepth 100000 in
theorem w_Mod_open_115 {p : Program} {l : Launch} {e : Env} {s : State} {m : MethodId} {args : Array Value} {below : List Frame} {meth : Method} {c : Code} {D : va_G} {ad : Nat → Nat} {ca : Nat → ClassId} {A : Nat → Prop} {N : Nat} {res : Int32 × MT} (Z : gZ p s m args meth c cX5_open 5 RX5 (cd_Mod_open :: gA) A D cls (tys ca)) (hr : meth.sig.returnType = (some .int)) : ∀ (n : Nat) (vM : MT) (y1 : Int32) (y2 : Int32) (y3 : Int32) (y4 : Int32), f_Mod_open_115 N n vM y1 y2 y3 y4 = some res → gW p l e rm_Mod_open s m args below meth c 5 A D cls 0 0 (MQ below (q_Mod_open D ad ca res A) args s 0 0 A) (wM ad ca vM) [(0, .ref (ad 20)), (1, .int y1), (2, .int y2), (3, .int y3), (4, .int y4)] 115 [] := by
  intro n
  induction n with
  | zero =>
    intro vM y1 y2 y3 y4 hf
    exact absurd hf (by rw [f_Mod_open_115]; exact fun h => by cases h)
  | succ n ih =>
    intro vM y1 y2 y3 y4 hf
    rw [f_Mod_open_115] at hf
    refine g_iload (pc := 115) Z 4 dX5_open_115 rfl ?_
    refine g_sipush (pc := 117) (v := 176) Z dX5_open_117 (by decide) ?_
    refine g_icmp_ge (pc := 120) (tgt := 153) Z dX5_open_120 (by decide) (fun c5 => ?_) (fun c5 => ?_)
    · replace hf := gIfP c5 hf
      refine g_iload_n (pc := 153) Z 3 dX5_open_153 rfl ?_
      refine g_if_le (pc := 154) (tgt := 169) Z dX5_open_154 (by decide) (fun c6 => ?_) (fun c6 => ?_)
      · replace hf := gIfP c6 hf
        refine g_aload_n (pc := 169) Z 0 dX5_open_169 rfl ?_
        refine g_iconst (pc := 170) (v := 0) Z dX5_open_170 (by decide) ?_
        refine g_put (pc := 171) (T := TX5) (N := 21) (ws' := (wM ad ca (vM.1, vM.2.1, vM.2.2.1, vM.2.2.2.1, vM.2.2.2.2.1, vM.2.2.2.2.2.1, vM.2.2.2.2.2.2.1, vM.2.2.2.2.2.2.2.1, vM.2.2.2.2.2.2.2.2.1, vM.2.2.2.2.2.2.2.2.2.1, vM.2.2.2.2.2.2.2.2.2.2.1, (0 : Int32), vM.2.2.2.2.2.2.2.2.2.2.2.2.1, vM.2.2.2.2.2.2.2.2.2.2.2.2.2.1, vM.2.2.2.2.2.2.2.2.2.2.2.2.2.2.1, vM.2.2.2.2.2.2.2.2.2.2.2.2.2.2.2.1, vM.2.2.2.2.2.2.2.2.2.2.2.2.2.2.2.2.1, vM.2.2.2.2.2.2.2.2.2.2.2.2.2.2.2.2.2.1, vM.2.2.2.2.2.2.2.2.2.2.2.2.2.2.2.2.2.2.1, vM.2.2.2.2.2.2.2.2.2.2.2.2.2.2.2.2.2.2.2.1, vM.2.2.2.2.2.2.2.2.2.2.2.2.2.2.2.2.2.2.2.2))) Z 0 11 dX5_open_171 (mm wm75) inx_X5 tyX5_ok nmX5 rfl (by decide) rfl rfl rfl rfl rfl rfl (Nat.le_of_ble_eq_true rfl) rfl ?_
        refine g_aload_n (pc := 174) Z 0 dX5_open_174 rfl ?_
        refine g_iconst (pc := 175) (v := 0) Z dX5_open_175 (by decide) ?_
        refine g_put (pc := 176) (T := TX5) (N := 21) (ws' := (wM ad ca (vM.1, vM.2.1, vM.2.2.1, vM.2.2.2.1, vM.2.2.2.2.1, vM.2.2.2.2.2.1, vM.2.2.2.2.2.2.1, vM.2.2.2.2.2.2.2.1, vM.2.2.2.2.2.2.2.2.1, vM.2.2.2.2.2.2.2.2.2.1, vM.2.2.2.2.2.2.2.2.2.2.1, (0 : Int32), (0 : Int32), vM.2.2.2.2.2.2.2.2.2.2.2.2.2.1, vM.2.2.2.2.2.2.2.2.2.2.2.2.2.2.1, vM.2.2.2.2.2.2.2.2.2.2.2.2.2.2.2.1, vM.2.2.2.2.2.2.2.2.2.2.2.2.2.2.2.2.1, vM.2.2.2.2.2.2.2.2.2.2.2.2.2.2.2.2.2.1, vM.2.2.2.2.2.2.2.2.2.2.2.2.2.2.2.2.2.2.1, vM.2.2.2.2.2.2.2.2.2.2.2.2.2.2.2.2.2.2.2.1, vM.2.2.2.2.2.2.2.2.2.2.2.2.2.2.2.2.2.2.2.2))) Z 0 12 dX5_open_176 (mm wm76) inx_X5 tyX5_ok nmX5 rfl (by decide) rfl rfl rfl rfl rfl rfl (Nat.le_of_ble_eq_true rfl) rfl ?_
        refine g_iconst (pc := 179) (v := 0) Z dX5_open_179 (by decide) ?_
        refine g_istore_n (pc := 180) (lv' := [(2, .int (0 : Int32)), (0, .ref (ad 20)), (1, .int y1), (3, .int y3), (4, .int y4)]) Z dX5_open_180 (by decide) rfl ?_
        refine g_locals (lv2 := [(0, .ref (ad 20)), (1, .int y1), (2, .int (0 : Int32))]) [1, 2, 0] rfl ?_
        exact w_Mod_open_181 Z hr N _ _ _ hf
      · replace hf := gIfN c6 hf
        refine g_aload_n (pc := 157) Z 0 dX5_open_157 rfl ?_
        refine g_iload_n (pc := 158) Z 2 dX5_open_158 rfl ?_
        refine g_iload_n (pc := 159) Z 3 dX5_open_159 rfl ?_
        obtain ⟨x7, h8, hf⟩ := Option.bind_eq_some_iff.mp hf
        refine g_calli (pc := 160) (ws2 := fun u => (wM ad ca u)) (wr := ([] : va_W)) Z [0, 1, 2, 3, 4, 5, 6, 7] [] [0, 1, 2, 3, 4, 5, 6, 7] (g_runV Z (c_Mod_empty l D ad ca N vM y2 y3 x7 h8) (cwV 2 Z.2.2.2.2.1 (gg_V wm78 wm79 wm80 wm11 wm81) rfl rfl rfl (yv_of rfl yd_Mod_empty) ⟨Nat.le_of_ble_eq_true rfl, Nat.le_of_ble_eq_true rfl⟩) [0, 1, 2, 3, 4, 5, 6, 7] rfl (by decide) 0 rfl rfl rfl rfl rfl (Nat.le_of_ble_eq_true rfl) dX5_open_160 ⟨Nat.le_of_ble_eq_true rfl, Nat.le_of_ble_eq_true rfl⟩) rfl rfl (by decide) (by decide) (by decide) (fun _ => rfl) (fun r u hu => ?_)
        obtain ⟨rfl, rfl⟩ := hu
        refine g_if_ne (pc := 163) (tgt := 169) Z dX5_open_163 (by decide) (fun c9 => ?_) (fun c9 => ?_)
        · replace hf := gIfP (bI_nz c9) hf
          refine g_aload_n (pc := 169) Z 0 dX5_open_169 rfl ?_
          refine g_iconst (pc := 170) (v := 0) Z dX5_open_170 (by decide) ?_
          refine g_put (pc := 171) (T := TX5) (N := 21) (ws' := (wM ad ca (x7.2.1, x7.2.2.1, x7.2.2.2.1, x7.2.2.2.2.1, x7.2.2.2.2.2.1, x7.2.2.2.2.2.2.1, x7.2.2.2.2.2.2.2.1, x7.2.2.2.2.2.2.2.2.1, x7.2.2.2.2.2.2.2.2.2.1, x7.2.2.2.2.2.2.2.2.2.2.1, x7.2.2.2.2.2.2.2.2.2.2.2.1, (0 : Int32), x7.2.2.2.2.2.2.2.2.2.2.2.2.2.1, x7.2.2.2.2.2.2.2.2.2.2.2.2.2.2.1, x7.2.2.2.2.2.2.2.2.2.2.2.2.2.2.2.1, x7.2.2.2.2.2.2.2.2.2.2.2.2.2.2.2.2.1, x7.2.2.2.2.2.2.2.2.2.2.2.2.2.2.2.2.2.1, x7.2.2.2.2.2.2.2.2.2.2.2.2.2.2.2.2.2.2.1, x7.2.2.2.2.2.2.2.2.2.2.2.2.2.2.2.2.2.2.2.1, x7.2.2.2.2.2.2.2.2.2.2.2.2.2.2.2.2.2.2.2.2.1, x7.2.2.2.2.2.2.2.2.2.2.2.2.2.2.2.2.2.2.2.2.2))) Z 0 11 dX5_open_171 (mm wm75) inx_X5 tyX5_ok nmX5 rfl (by decide) rfl rfl rfl rfl rfl rfl (Nat.le_of_ble_eq_true rfl) rfl ?_
          refine g_aload_n (pc := 174) Z 0 dX5_open_174 rfl ?_
          refine g_iconst (pc := 175) (v := 0) Z dX5_open_175 (by decide) ?_
          refine g_put (pc := 176) (T := TX5) (N := 21) (ws' := (wM ad ca (x7.2.1, x7.2.2.1, x7.2.2.2.1, x7.2.2.2.2.1, x7.2.2.2.2.2.1, x7.2.2.2.2.2.2.1, x7.2.2.2.2.2.2.2.1, x7.2.2.2.2.2.2.2.2.1, x7.2.2.2.2.2.2.2.2.2.1, x7.2.2.2.2.2.2.2.2.2.2.1, x7.2.2.2.2.2.2.2.2.2.2.2.1, (0 : Int32), (0 : Int32), x7.2.2.2.2.2.2.2.2.2.2.2.2.2.2.1, x7.2.2.2.2.2.2.2.2.2.2.2.2.2.2.2.1, x7.2.2.2.2.2.2.2.2.2.2.2.2.2.2.2.2.1, x7.2.2.2.2.2.2.2.2.2.2.2.2.2.2.2.2.2.1, x7.2.2.2.2.2.2.2.2.2.2.2.2.2.2.2.2.2.2.1, x7.2.2.2.2.2.2.2.2.2.2.2.2.2.2.2.2.2.2.2.1, x7.2.2.2.2.2.2.2.2.2.2.2.2.2.2.2.2.2.2.2.2.1, x7.2.2.2.2.2.2.2.2.2.2.2.2.2.2.2.2.2.2.2.2.2))) Z 0 12 dX5_open_176 (mm wm76) inx_X5 tyX5_ok nmX5 rfl (by decide) rfl rfl rfl rfl rfl rfl (Nat.le_of_ble_eq_true rfl) rfl ?_
          refine g_iconst (pc := 179) (v := 0) Z dX5_open_179 (by decide) ?_
          refine g_istore_n (pc := 180) (lv' := [(2, .int (0 : Int32)), (0, .ref (ad 20)), (1, .int y1), (3, .int y3), (4, .int y4)]) Z dX5_open_180 (by decide) rfl ?_
          refine g_locals (lv2 := [(0, .ref (ad 20)), (1, .int y1), (2, .int (0 : Int32))]) [1, 2, 0] rfl ?_
          exact w_Mod_open_181 Z hr N _ _ _ hf
        · replace hf := gIfN (bI_z c9) hf
          refine g_bipush (pc := 166) (v := -2) Z dX5_open_166 (by decide) ?_
          obtain rfl := Option.some.inj hf
          exact g_iret Z hr dX5_open_168 x7.2 ⟨rfl, rfl⟩ rfl
    · replace hf := gIfN c5 hf
      refine g_aload_n (pc := 123) Z 0 dX5_open_123 rfl ?_
      refine g_get (pc := 124) (v := .ref (ad 22)) (T := TX5) (N := 21) Z 0 1 dX5_open_124 (mm wm21) inx_X5 rfl (by decide) rfl rfl rfl ?_
      refine g_iload (pc := 127) Z 4 dX5_open_127 rfl ?_
      obtain ⟨b10, hf⟩ := gGuard hf
      refine g_lald (pc := 129) (f := vM.2.1) Z 2 0 dX5_open_129 rfl rfl (gI_in b10) ?_
      refine g_lconst (pc := 130) (v := 0) Z dX5_open_130 (by decide) ?_
      refine g_lcmp (pc := 131) Z dX5_open_131 ?_
      refine g_if_eq (pc := 132) (tgt := 145) Z dX5_open_132 (by decide) (fun c11 => ?_) (fun c11 => ?_)
      · replace hf := gIfP c11 hf
        refine g_iload_n (pc := 145) Z 3 dX5_open_145 rfl ?_
        refine g_istore_n (pc := 146) (lv' := [(3, .int y3), (0, .ref (ad 20)), (1, .int y1), (2, .int y2), (4, .int y4)]) Z dX5_open_146 (by decide) rfl ?_
        refine g_iinc (pc := 147) (v := y4 + (1 : Int32)) (lv' := [(4, .int (y4 + (1 : Int32))), (3, .int y3), (0, .ref (ad 20)), (1, .int y1), (2, .int y2)]) Z 4 dX5_open_147 rfl rfl (by decide) rfl ?_
        refine g_goto (pc := 150) (tgt := 115) Z dX5_open_150 (by decide) ?_
        refine g_locals (lv2 := [(0, .ref (ad 20)), (1, .int y1), (2, .int y2), (3, .int y3), (4, .int (y4 + (1 : Int32)))]) [2, 3, 4, 1, 0] rfl ?_
        exact ih _ _ _ _ _ hf
      · replace hf := gIfN c11 hf
        refine g_iload (pc := 135) Z 4 dX5_open_135 rfl ?_
        refine g_bipush (pc := 137) (v := 16) Z dX5_open_137 (by decide) ?_
        refine g_isub (pc := 139) Z dX5_open_139 ?_
        refine g_iconst (pc := 140) (v := 1) Z dX5_open_140 (by decide) ?_
        refine g_iadd (pc := 141) Z dX5_open_141 ?_
        refine g_goto (pc := 142) (tgt := 146) Z dX5_open_142 (by decide) ?_
        refine g_istore_n (pc := 146) (lv' := [(3, .int ((y4 - (16 : Int32)) + (1 : Int32))), (0, .ref (ad 20)), (1, .int y1), (2, .int y2), (4, .int y4)]) Z dX5_open_146 (by decide) rfl ?_
        refine g_iinc (pc := 147) (v := y4 + (1 : Int32)) (lv' := [(4, .int (y4 + (1 : Int32))), (3, .int ((y4 - (16 : Int32)) + (1 : Int32))), (0, .ref (ad 20)), (1, .int y1), (2, .int y2)]) Z 4 dX5_open_147 rfl rfl (by decide) rfl ?_
        refine g_goto (pc := 150) (tgt := 115) Z dX5_open_150 (by decide) ?_
        refine g_locals (lv2 := [(0, .ref (ad 20)), (1, .int y1), (2, .int y2), (3, .int ((y4 - (16 : Int32)) + (1 : Int32))), (4, .int (y4 + (1 : Int32)))]) [2, 3, 4, 1, 0] rfl ?_
        exact ih _ _ _ _ _ hf
set_option maxHeartbeats 4000000 in
set_option maxRecDepth 100000 in
theorem c_Mod_open (l : Launch) (D : va_G) (ad : Nat → Nat) (ca : Nat → ClassId) (N : Nat) (vM : MT) (res : Int32 × MT) (hf : f_Mod_open N vM = some res) (sz : Nat) : Met l yX5_open (cd_Mod_open :: gA) rm_Mod_open (va_Pc [.ref (ad 20)] (gP D cls (tys ca) (wM ad ca vM) sz)) (q_Mod_open D ad ca res (va_A (wM ad ca vM) sz)) 0 0 (va_A (wM ad ca vM) sz) := by
  refine g_met (cc := cX5_open) (Qc := q_Mod_open D ad ca res) (lv := [(0, .ref (ad 20))]) (own := RX5) (by decide) rfl rfl (Nat.le_of_ble_eq_true rfl) rfl sz ?_
  intro p e s m args below meth c A Z hr hnm
  unfold f_Mod_open at hf
  refine g_aload_n (pc := 0) Z 0 dX5_open_0 rfl ?_
  refine g_aload_n (pc := 1) Z 0 dX5_open_1 rfl ?_
  refine g_get (pc := 2) (v := .int (bI vM.2.2.2.2.2.2.2.2.2.1)) (T := TX5) (N := 21) Z 0 9 dX5_open_2 (mm wm15) inx_X5 rfl (by decide) rfl rfl rfl ?_
  refine g_if_eq (pc := 5) (tgt := 12) Z dX5_open_5 (by decide) (fun c12 => ?_) (fun c12 => ?_)
  · replace hf := gIfN (bI_z c12) hf
    refine g_iconst (pc := 12) (v := 0) Z dX5_open_12 (by decide) ?_
    refine g_put (pc := 13) (T := TX5) (N := 21) (ws' := (wM ad ca (vM.1, vM.2.1, vM.2.2.1, vM.2.2.2.1, vM.2.2.2.2.1, vM.2.2.2.2.2.1, vM.2.2.2.2.2.2.1, vM.2.2.2.2.2.2.2.1, vM.2.2.2.2.2.2.2.2.1, vM.2.2.2.2.2.2.2.2.2.1, vM.2.2.2.2.2.2.2.2.2.2.1, vM.2.2.2.2.2.2.2.2.2.2.2.1, vM.2.2.2.2.2.2.2.2.2.2.2.2.1, vM.2.2.2.2.2.2.2.2.2.2.2.2.2.1, vM.2.2.2.2.2.2.2.2.2.2.2.2.2.2.1, vM.2.2.2.2.2.2.2.2.2.2.2.2.2.2.2.1, vM.2.2.2.2.2.2.2.2.2.2.2.2.2.2.2.2.1, vM.2.2.2.2.2.2.2.2.2.2.2.2.2.2.2.2.2.1, vM.2.2.2.2.2.2.2.2.2.2.2.2.2.2.2.2.2.2.1, vM.2.2.2.2.2.2.2.2.2.2.2.2.2.2.2.2.2.2.2.1, (0 : Int32)))) Z 0 20 dX5_open_13 (mm wm0) inx_X5 tyX5_ok nmX5 rfl (by decide) rfl rfl rfl rfl rfl rfl (Nat.le_of_ble_eq_true rfl) rfl ?_
    refine g_aload_n (pc := 16) Z 0 dX5_open_16 rfl ?_
    refine g_get (pc := 17) (v := .int (0 : Int32)) (T := TX5) (N := 21) Z 0 20 dX5_open_17 (mm wm0) inx_X5 rfl (by decide) rfl rfl rfl ?_
    refine g_if_le (pc := 20) (tgt := 25) Z dX5_open_20 (by decide) (fun _ => ?_) (fun c0 => absurd c0 (by decide))
    refine g_aload_n (pc := 25) Z 0 dX5_open_25 rfl ?_
    refine g_iconst (pc := 26) (v := 1) Z dX5_open_26 (by decide) ?_
    refine g_put (pc := 27) (T := TX5) (N := 21) (ws' := (wM ad ca (vM.1, vM.2.1, vM.2.2.1, vM.2.2.2.1, vM.2.2.2.2.1, vM.2.2.2.2.2.1, vM.2.2.2.2.2.2.1, vM.2.2.2.2.2.2.2.1, vM.2.2.2.2.2.2.2.2.1, true, vM.2.2.2.2.2.2.2.2.2.2.1, vM.2.2.2.2.2.2.2.2.2.2.2.1, vM.2.2.2.2.2.2.2.2.2.2.2.2.1, vM.2.2.2.2.2.2.2.2.2.2.2.2.2.1, vM.2.2.2.2.2.2.2.2.2.2.2.2.2.2.1, vM.2.2.2.2.2.2.2.2.2.2.2.2.2.2.2.1, vM.2.2.2.2.2.2.2.2.2.2.2.2.2.2.2.2.1, vM.2.2.2.2.2.2.2.2.2.2.2.2.2.2.2.2.2.1, vM.2.2.2.2.2.2.2.2.2.2.2.2.2.2.2.2.2.2.1, vM.2.2.2.2.2.2.2.2.2.2.2.2.2.2.2.2.2.2.2.1, (0 : Int32)))) Z 0 9 dX5_open_27 (mm wm15) inx_X5 tyX5_ok nmX5 rfl (by decide) rfl rfl rfl rfl rfl rfl (Nat.le_of_ble_eq_true rfl) rfl ?_
    refine g_aload_n (pc := 30) Z 0 dX5_open_30 rfl ?_
    obtain ⟨x13, h14, hf⟩ := Option.bind_eq_some_iff.mp hf
    refine g_callv (pc := 31) (ws2 := fun u => (wM ad ca u)) (wr := ([] : va_W)) Z [0, 1, 2, 3, 4, 5, 6, 7] [] [0, 1, 2, 3, 4, 5, 6, 7] (g_runV Z (c_Mod_drop l D ad ca N (vM.1, vM.2.1, vM.2.2.1, vM.2.2.2.1, vM.2.2.2.2.1, vM.2.2.2.2.2.1, vM.2.2.2.2.2.2.1, vM.2.2.2.2.2.2.2.1, vM.2.2.2.2.2.2.2.2.1, true, vM.2.2.2.2.2.2.2.2.2.2.1, vM.2.2.2.2.2.2.2.2.2.2.2.1, vM.2.2.2.2.2.2.2.2.2.2.2.2.1, vM.2.2.2.2.2.2.2.2.2.2.2.2.2.1, vM.2.2.2.2.2.2.2.2.2.2.2.2.2.2.1, vM.2.2.2.2.2.2.2.2.2.2.2.2.2.2.2.1, vM.2.2.2.2.2.2.2.2.2.2.2.2.2.2.2.2.1, vM.2.2.2.2.2.2.2.2.2.2.2.2.2.2.2.2.2.1, vM.2.2.2.2.2.2.2.2.2.2.2.2.2.2.2.2.2.2.1, vM.2.2.2.2.2.2.2.2.2.2.2.2.2.2.2.2.2.2.2.1, (0 : Int32)) x13 h14) (cwV 0 Z.2.2.2.2.1 (gg_V wm17 wm18 wm19 wm11 wm20) rfl rfl rfl (yv_of rfl yd_Mod_drop) ⟨Nat.le_of_ble_eq_true rfl, Nat.le_of_ble_eq_true rfl⟩) [0, 1, 2, 3, 4, 5, 6, 7] rfl (by decide) 0 rfl rfl rfl rfl rfl (Nat.le_of_ble_eq_true rfl) dX5_open_31 ⟨Nat.le_of_ble_eq_true rfl, Nat.le_of_ble_eq_true rfl⟩) rfl rfl (by decide) (by decide) (by decide) (fun _ => rfl) (fun u hu => ?_)
    obtain rfl := hu.symm
    refine g_aload_n (pc := 34) Z 0 dX5_open_34 rfl ?_
    refine g_iconst (pc := 35) (v := 0) Z dX5_open_35 (by decide) ?_
    refine g_put (pc := 36) (T := TX5) (N := 21) (ws' := (wM ad ca (x13.1, x13.2.1, x13.2.2.1, x13.2.2.2.1, x13.2.2.2.2.1, x13.2.2.2.2.2.1, x13.2.2.2.2.2.2.1, x13.2.2.2.2.2.2.2.1, x13.2.2.2.2.2.2.2.2.1, x13.2.2.2.2.2.2.2.2.2.1, x13.2.2.2.2.2.2.2.2.2.2.1, (0 : Int32), x13.2.2.2.2.2.2.2.2.2.2.2.2.1, x13.2.2.2.2.2.2.2.2.2.2.2.2.2.1, x13.2.2.2.2.2.2.2.2.2.2.2.2.2.2.1, x13.2.2.2.2.2.2.2.2.2.2.2.2.2.2.2.1, x13.2.2.2.2.2.2.2.2.2.2.2.2.2.2.2.2.1, x13.2.2.2.2.2.2.2.2.2.2.2.2.2.2.2.2.2.1, x13.2.2.2.2.2.2.2.2.2.2.2.2.2.2.2.2.2.2.1, x13.2.2.2.2.2.2.2.2.2.2.2.2.2.2.2.2.2.2.2.1, x13.2.2.2.2.2.2.2.2.2.2.2.2.2.2.2.2.2.2.2.2))) Z 0 11 dX5_open_36 (mm wm75) inx_X5 tyX5_ok nmX5 rfl (by decide) rfl rfl rfl rfl rfl rfl (Nat.le_of_ble_eq_true rfl) rfl ?_
    refine g_aload_n (pc := 39) Z 0 dX5_open_39 rfl ?_
    refine g_iconst (pc := 40) (v := 0) Z dX5_open_40 (by decide) ?_
    refine g_put (pc := 41) (T := TX5) (N := 21) (ws' := (wM ad ca (x13.1, x13.2.1, x13.2.2.1, x13.2.2.2.1, x13.2.2.2.2.1, x13.2.2.2.2.2.1, x13.2.2.2.2.2.2.1, x13.2.2.2.2.2.2.2.1, x13.2.2.2.2.2.2.2.2.1, x13.2.2.2.2.2.2.2.2.2.1, x13.2.2.2.2.2.2.2.2.2.2.1, (0 : Int32), (0 : Int32), x13.2.2.2.2.2.2.2.2.2.2.2.2.2.1, x13.2.2.2.2.2.2.2.2.2.2.2.2.2.2.1, x13.2.2.2.2.2.2.2.2.2.2.2.2.2.2.2.1, x13.2.2.2.2.2.2.2.2.2.2.2.2.2.2.2.2.1, x13.2.2.2.2.2.2.2.2.2.2.2.2.2.2.2.2.2.1, x13.2.2.2.2.2.2.2.2.2.2.2.2.2.2.2.2.2.2.1, x13.2.2.2.2.2.2.2.2.2.2.2.2.2.2.2.2.2.2.2.1, x13.2.2.2.2.2.2.2.2.2.2.2.2.2.2.2.2.2.2.2.2))) Z 0 12 dX5_open_41 (mm wm76) inx_X5 tyX5_ok nmX5 rfl (by decide) rfl rfl rfl rfl rfl rfl (Nat.le_of_ble_eq_true rfl) rfl ?_
    refine g_iconst (pc := 44) (v := 0) Z dX5_open_44 (by decide) ?_
    refine g_istore_n (pc := 45) (lv' := [(1, .int (0 : Int32)), (0, .ref (ad 20))]) Z dX5_open_45 (by decide) rfl ?_
    refine g_aload_n (pc := 46) Z 1 dX5_open_46 rfl ?_
    refine g_get (pc := 47) (v := .ref (ad 22)) (T := TX5) (N := 21) Z 0 1 dX5_open_47 (mm wm21) inx_X5 rfl (by decide) rfl rfl rfl ?_
    refine g_iconst (pc := 50) (v := 0) Z dX5_open_50 (by decide) ?_
    obtain ⟨b15, hf⟩ := gGuard hf
    refine g_lald (pc := 51) (f := x13.2.1) Z 2 0 dX5_open_51 rfl rfl (gI_in b15) ?_
    refine g_lconst (pc := 52) (v := 0) Z dX5_open_52 (by decide) ?_
    refine g_lcmp (pc := 53) Z dX5_open_53 ?_
    refine g_if_ne (pc := 54) (tgt := 99) Z dX5_open_54 (by decide) (fun c16 => ?_) (fun c16 => ?_)
    · replace hf := gIfN c16 hf
      refine g_aload_n (pc := 99) Z 1 dX5_open_99 rfl ?_
      obtain ⟨x17, h18, hf⟩ := Option.bind_eq_some_iff.mp hf
      refine g_calli (pc := 100) (ws2 := fun u => (wM ad ca u)) (wr := ([] : va_W)) Z [0, 1, 2, 3, 4, 5, 6, 7] [] [0, 1, 2, 3, 4, 5, 6, 7] (g_runV Z (c_Mod_find l D ad ca N (x13.1, x13.2.1, x13.2.2.1, x13.2.2.2.1, x13.2.2.2.2.1, x13.2.2.2.2.2.1, x13.2.2.2.2.2.2.1, x13.2.2.2.2.2.2.2.1, x13.2.2.2.2.2.2.2.2.1, x13.2.2.2.2.2.2.2.2.2.1, x13.2.2.2.2.2.2.2.2.2.2.1, (0 : Int32), (0 : Int32), x13.2.2.2.2.2.2.2.2.2.2.2.2.2.1, x13.2.2.2.2.2.2.2.2.2.2.2.2.2.2.1, x13.2.2.2.2.2.2.2.2.2.2.2.2.2.2.2.1, x13.2.2.2.2.2.2.2.2.2.2.2.2.2.2.2.2.1, x13.2.2.2.2.2.2.2.2.2.2.2.2.2.2.2.2.2.1, x13.2.2.2.2.2.2.2.2.2.2.2.2.2.2.2.2.2.2.1, x13.2.2.2.2.2.2.2.2.2.2.2.2.2.2.2.2.2.2.2.1, x13.2.2.2.2.2.2.2.2.2.2.2.2.2.2.2.2.2.2.2.2) x17 h18) (cwV 0 Z.2.2.2.2.1 (gg_V wm85 wm86 wm87 wm11 wm88) rfl rfl rfl (yv_of rfl yd_Mod_find) ⟨Nat.le_of_ble_eq_true rfl, Nat.le_of_ble_eq_true rfl⟩) [0, 1, 2, 3, 4, 5, 6, 7] rfl (by decide) 0 rfl rfl rfl rfl rfl (Nat.le_of_ble_eq_true rfl) dX5_open_100 ⟨Nat.le_of_ble_eq_true rfl, Nat.le_of_ble_eq_true rfl⟩) rfl rfl (by decide) (by decide) (by decide) (fun _ => rfl) (fun r u hu => ?_)
      obtain ⟨rfl, rfl⟩ := hu
      refine g_istore_n (pc := 103) (lv' := [(2, .int x17.1), (1, .int (0 : Int32)), (0, .ref (ad 20))]) Z dX5_open_103 (by decide) rfl ?_
      refine g_aload_n (pc := 104) Z 2 dX5_open_104 rfl ?_
      refine g_get (pc := 105) (v := .int x17.2.2.2.2.2.2.2.2.2.2.2.2.2.1) (T := TX5) (N := 21) Z 0 12 dX5_open_105 (mm wm76) inx_X5 rfl (by decide) rfl rfl rfl ?_
      refine g_istore_n (pc := 108) (lv' := [(1, .int x17.2.2.2.2.2.2.2.2.2.2.2.2.2.1), (2, .int x17.1), (0, .ref (ad 20))]) Z dX5_open_108 (by decide) rfl ?_
      refine g_iconst (pc := 109) (v := 0) Z dX5_open_109 (by decide) ?_
      refine g_istore_n (pc := 110) (lv' := [(3, .int (0 : Int32)), (1, .int x17.2.2.2.2.2.2.2.2.2.2.2.2.2.1), (2, .int x17.1), (0, .ref (ad 20))]) Z dX5_open_110 (by decide) rfl ?_
      refine g_bipush (pc := 111) (v := 16) Z dX5_open_111 (by decide) ?_
      refine g_istore (pc := 113) (lv' := [(4, .int (16 : Int32)), (3, .int (0 : Int32)), (1, .int x17.2.2.2.2.2.2.2.2.2.2.2.2.2.1), (2, .int x17.1), (0, .ref (ad 20))]) Z dX5_open_113 (by decide) rfl ?_
      refine g_locals (lv2 := [(0, .ref (ad 20)), (1, .int x17.2.2.2.2.2.2.2.2.2.2.2.2.2.1), (2, .int x17.1), (3, .int (0 : Int32)), (4, .int (16 : Int32))]) [4, 2, 3, 1, 0] rfl ?_
      exact w_Mod_open_115 Z hr N _ _ _ _ _ hf
    · replace hf := gIfP c16 hf
      refine g_aload_n (pc := 57) Z 1 dX5_open_57 rfl ?_
      refine g_sipush (pc := 58) (v := 176) Z dX5_open_58 (by decide) ?_
      refine g_ldc2 (pc := 61) (v := 1694) Z dX5_open_61 (mm wm89) ?_
      obtain ⟨x19, h20, hf⟩ := Option.bind_eq_some_iff.mp hf
      refine g_calli (pc := 64) (ws2 := fun u => (wM ad ca u)) (wr := ([] : va_W)) Z [0, 1, 2, 3, 4, 5, 6, 7] [] [0, 1, 2, 3, 4, 5, 6, 7] (g_runV Z (c_Mod_write l D ad ca N (x13.1, x13.2.1, x13.2.2.1, x13.2.2.2.1, x13.2.2.2.2.1, x13.2.2.2.2.2.1, x13.2.2.2.2.2.2.1, x13.2.2.2.2.2.2.2.1, x13.2.2.2.2.2.2.2.2.1, x13.2.2.2.2.2.2.2.2.2.1, x13.2.2.2.2.2.2.2.2.2.2.1, (0 : Int32), (0 : Int32), x13.2.2.2.2.2.2.2.2.2.2.2.2.2.1, x13.2.2.2.2.2.2.2.2.2.2.2.2.2.2.1, x13.2.2.2.2.2.2.2.2.2.2.2.2.2.2.2.1, x13.2.2.2.2.2.2.2.2.2.2.2.2.2.2.2.2.1, x13.2.2.2.2.2.2.2.2.2.2.2.2.2.2.2.2.2.1, x13.2.2.2.2.2.2.2.2.2.2.2.2.2.2.2.2.2.2.1, x13.2.2.2.2.2.2.2.2.2.2.2.2.2.2.2.2.2.2.2.1, x13.2.2.2.2.2.2.2.2.2.2.2.2.2.2.2.2.2.2.2.2) (176 : Int32) (1694 : Int64) x19 h20) (cwV 2 Z.2.2.2.2.1 (gg_V wm69 wm70 wm71 wm11 wm72) rfl rfl rfl (yv_of rfl yd_Mod_write) ⟨Nat.le_of_ble_eq_true rfl, Nat.le_of_ble_eq_true rfl⟩) [0, 1, 2, 3, 4, 5, 6, 7] rfl (by decide) 0 rfl rfl rfl rfl rfl (Nat.le_of_ble_eq_true rfl) dX5_open_64 ⟨Nat.le_of_ble_eq_true rfl, Nat.le_of_ble_eq_true rfl⟩) rfl rfl (by decide) (by decide) (by decide) (fun _ => rfl) (fun r u hu => ?_)
      obtain ⟨rfl, rfl⟩ := hu
      refine g_if_eq (pc := 67) (tgt := 88) Z dX5_open_67 (by decide) (fun c21 => ?_) (fun c21 => ?_)
      · replace hf := gIfN (bI_z c21) hf
        refine g_bipush (pc := 88) (v := -2) Z dX5_open_88 (by decide) ?_
        obtain rfl := Option.some.inj hf
        exact g_iret Z hr dX5_open_90 x19.2 ⟨rfl, rfl⟩ rfl
      · replace hf := gIfP (bI_nz c21) hf
        refine g_aload_n (pc := 70) Z 1 dX5_open_70 rfl ?_
        refine g_iconst (pc := 71) (v := 1) Z dX5_open_71 (by decide) ?_
        refine g_lconst (pc := 72) (v := 0) Z dX5_open_72 (by decide) ?_
        obtain ⟨x22, h23, hf⟩ := Option.bind_eq_some_iff.mp hf
        refine g_calli (pc := 73) (ws2 := fun u => (wM ad ca u)) (wr := ([] : va_W)) Z [0, 1, 2, 3, 4, 5, 6, 7] [] [0, 1, 2, 3, 4, 5, 6, 7] (g_runV Z (c_Mod_write l D ad ca N x19.2 (1 : Int32) (0 : Int64) x22 h23) (cwV 2 Z.2.2.2.2.1 (gg_V wm69 wm70 wm71 wm11 wm72) rfl rfl rfl (yv_of rfl yd_Mod_write) ⟨Nat.le_of_ble_eq_true rfl, Nat.le_of_ble_eq_true rfl⟩) [0, 1, 2, 3, 4, 5, 6, 7] rfl (by decide) 0 rfl rfl rfl rfl rfl (Nat.le_of_ble_eq_true rfl) dX5_open_73 ⟨Nat.le_of_ble_eq_true rfl, Nat.le_of_ble_eq_true rfl⟩) rfl rfl (by decide) (by decide) (by decide) (fun _ => rfl) (fun r u hu => ?_)
        obtain ⟨rfl, rfl⟩ := hu
        refine g_if_eq (pc := 76) (tgt := 88) Z dX5_open_76 (by decide) (fun c24 => ?_) (fun c24 => ?_)
        · replace hf := gIfN (bI_z c24) hf
          refine g_bipush (pc := 88) (v := -2) Z dX5_open_88 (by decide) ?_
          obtain rfl := Option.some.inj hf
          exact g_iret Z hr dX5_open_90 x22.2 ⟨rfl, rfl⟩ rfl
        · replace hf := gIfP (bI_nz c24) hf
          refine g_aload_n (pc := 79) Z 1 dX5_open_79 rfl ?_
          refine g_iconst (pc := 80) (v := 0) Z dX5_open_80 (by decide) ?_
          refine g_lconst (pc := 81) (v := 1) Z dX5_open_81 (by decide) ?_
          obtain ⟨x25, h26, hf⟩ := Option.bind_eq_some_iff.mp hf
          refine g_calli (pc := 82) (ws2 := fun u => (wM ad ca u)) (wr := ([] : va_W)) Z [0, 1, 2, 3, 4, 5, 6, 7] [] [0, 1, 2, 3, 4, 5, 6, 7] (g_runV Z (c_Mod_write l D ad ca N x22.2 (0 : Int32) (1 : Int64) x25 h26) (cwV 2 Z.2.2.2.2.1 (gg_V wm69 wm70 wm71 wm11 wm72) rfl rfl rfl (yv_of rfl yd_Mod_write) ⟨Nat.le_of_ble_eq_true rfl, Nat.le_of_ble_eq_true rfl⟩) [0, 1, 2, 3, 4, 5, 6, 7] rfl (by decide) 0 rfl rfl rfl rfl rfl (Nat.le_of_ble_eq_true rfl) dX5_open_82 ⟨Nat.le_of_ble_eq_true rfl, Nat.le_of_ble_eq_true rfl⟩) rfl rfl (by decide) (by decide) (by decide) (fun _ => rfl) (fun r u hu => ?_)
          obtain ⟨rfl, rfl⟩ := hu
          refine g_if_ne (pc := 85) (tgt := 91) Z dX5_open_85 (by decide) (fun c27 => ?_) (fun c27 => ?_)
          · replace hf := gIfP (bI_nz c27) hf
            refine g_aload_n (pc := 91) Z 1 dX5_open_91 rfl ?_
            obtain ⟨x28, h29, hf⟩ := Option.bind_eq_some_iff.mp hf
            refine g_calli (pc := 92) (ws2 := fun u => (wM ad ca u)) (wr := ([] : va_W)) Z [0, 1, 2, 3, 4, 5, 6, 7] [] [0, 1, 2, 3, 4, 5, 6, 7] (g_runV Z (c_Mod_syncAll l D ad ca N x25.2 x28 h29) (cwV 0 Z.2.2.2.2.1 (gg_V wm53 wm54 wm55 wm11 wm56) rfl rfl rfl (yv_of rfl yd_Mod_syncAll) ⟨Nat.le_of_ble_eq_true rfl, Nat.le_of_ble_eq_true rfl⟩) [0, 1, 2, 3, 4, 5, 6, 7] rfl (by decide) 0 rfl rfl rfl rfl rfl (Nat.le_of_ble_eq_true rfl) dX5_open_92 ⟨Nat.le_of_ble_eq_true rfl, Nat.le_of_ble_eq_true rfl⟩) rfl rfl (by decide) (by decide) (by decide) (fun _ => rfl) (fun r u hu => ?_)
            obtain ⟨rfl, rfl⟩ := hu
            refine g_istore_n (pc := 95) (lv' := [(2, .int x28.1), (1, .int (0 : Int32)), (0, .ref (ad 20))]) Z dX5_open_95 (by decide) rfl ?_
            refine g_goto (pc := 96) (tgt := 169) Z dX5_open_96 (by decide) ?_
            refine g_aload_n (pc := 169) Z 2 dX5_open_169 rfl ?_
            refine g_iconst (pc := 170) (v := 0) Z dX5_open_170 (by decide) ?_
            refine g_put (pc := 171) (T := TX5) (N := 21) (ws' := (wM ad ca (x28.2.1, x28.2.2.1, x28.2.2.2.1, x28.2.2.2.2.1, x28.2.2.2.2.2.1, x28.2.2.2.2.2.2.1, x28.2.2.2.2.2.2.2.1, x28.2.2.2.2.2.2.2.2.1, x28.2.2.2.2.2.2.2.2.2.1, x28.2.2.2.2.2.2.2.2.2.2.1, x28.2.2.2.2.2.2.2.2.2.2.2.1, (0 : Int32), x28.2.2.2.2.2.2.2.2.2.2.2.2.2.1, x28.2.2.2.2.2.2.2.2.2.2.2.2.2.2.1, x28.2.2.2.2.2.2.2.2.2.2.2.2.2.2.2.1, x28.2.2.2.2.2.2.2.2.2.2.2.2.2.2.2.2.1, x28.2.2.2.2.2.2.2.2.2.2.2.2.2.2.2.2.2.1, x28.2.2.2.2.2.2.2.2.2.2.2.2.2.2.2.2.2.2.1, x28.2.2.2.2.2.2.2.2.2.2.2.2.2.2.2.2.2.2.2.1, x28.2.2.2.2.2.2.2.2.2.2.2.2.2.2.2.2.2.2.2.2.1, x28.2.2.2.2.2.2.2.2.2.2.2.2.2.2.2.2.2.2.2.2.2))) Z 0 11 dX5_open_171 (mm wm75) inx_X5 tyX5_ok nmX5 rfl (by decide) rfl rfl rfl rfl rfl rfl (Nat.le_of_ble_eq_true rfl) rfl ?_
            refine g_aload_n (pc := 174) Z 2 dX5_open_174 rfl ?_
            refine g_iconst (pc := 175) (v := 0) Z dX5_open_175 (by decide) ?_
            refine g_put (pc := 176) (T := TX5) (N := 21) (ws' := (wM ad ca (x28.2.1, x28.2.2.1, x28.2.2.2.1, x28.2.2.2.2.1, x28.2.2.2.2.2.1, x28.2.2.2.2.2.2.1, x28.2.2.2.2.2.2.2.1, x28.2.2.2.2.2.2.2.2.1, x28.2.2.2.2.2.2.2.2.2.1, x28.2.2.2.2.2.2.2.2.2.2.1, x28.2.2.2.2.2.2.2.2.2.2.2.1, (0 : Int32), (0 : Int32), x28.2.2.2.2.2.2.2.2.2.2.2.2.2.2.1, x28.2.2.2.2.2.2.2.2.2.2.2.2.2.2.2.1, x28.2.2.2.2.2.2.2.2.2.2.2.2.2.2.2.2.1, x28.2.2.2.2.2.2.2.2.2.2.2.2.2.2.2.2.2.1, x28.2.2.2.2.2.2.2.2.2.2.2.2.2.2.2.2.2.2.1, x28.2.2.2.2.2.2.2.2.2.2.2.2.2.2.2.2.2.2.2.1, x28.2.2.2.2.2.2.2.2.2.2.2.2.2.2.2.2.2.2.2.2.1, x28.2.2.2.2.2.2.2.2.2.2.2.2.2.2.2.2.2.2.2.2.2))) Z 0 12 dX5_open_176 (mm wm76) inx_X5 tyX5_ok nmX5 rfl (by decide) rfl rfl rfl rfl rfl rfl (Nat.le_of_ble_eq_true rfl) rfl ?_
            refine g_iconst (pc := 179) (v := 0) Z dX5_open_179 (by decide) ?_
            refine g_istore_n (pc := 180) (lv' := [(2, .int (0 : Int32)), (1, .int (0 : Int32)), (0, .ref (ad 20))]) Z dX5_open_180 (by decide) rfl ?_
            refine g_locals (lv2 := [(0, .ref (ad 20)), (1, .int (0 : Int32)), (2, .int (0 : Int32))]) [2, 1, 0] rfl ?_
            exact w_Mod_open_181 Z hr N _ _ _ hf
          · replace hf := gIfN (bI_z c27) hf
            refine g_bipush (pc := 88) (v := -2) Z dX5_open_88 (by decide) ?_
            obtain rfl := Option.some.inj hf
            exact g_iret Z hr dX5_open_90 x25.2 ⟨rfl, rfl⟩ rfl
  · replace hf := gIfP (bI_nz c12) hf
    refine g_iconst (pc := 8) (v := 1) Z dX5_open_8 (by decide) ?_
    refine g_goto (pc := 9) (tgt := 13) Z dX5_open_9 (by decide) ?_
    refine g_put (pc := 13) (T := TX5) (N := 21) (ws' := (wM ad ca (vM.1, vM.2.1, vM.2.2.1, vM.2.2.2.1, vM.2.2.2.2.1, vM.2.2.2.2.2.1, vM.2.2.2.2.2.2.1, vM.2.2.2.2.2.2.2.1, vM.2.2.2.2.2.2.2.2.1, vM.2.2.2.2.2.2.2.2.2.1, vM.2.2.2.2.2.2.2.2.2.2.1, vM.2.2.2.2.2.2.2.2.2.2.2.1, vM.2.2.2.2.2.2.2.2.2.2.2.2.1, vM.2.2.2.2.2.2.2.2.2.2.2.2.2.1, vM.2.2.2.2.2.2.2.2.2.2.2.2.2.2.1, vM.2.2.2.2.2.2.2.2.2.2.2.2.2.2.2.1, vM.2.2.2.2.2.2.2.2.2.2.2.2.2.2.2.2.1, vM.2.2.2.2.2.2.2.2.2.2.2.2.2.2.2.2.2.1, vM.2.2.2.2.2.2.2.2.2.2.2.2.2.2.2.2.2.2.1, vM.2.2.2.2.2.2.2.2.2.2.2.2.2.2.2.2.2.2.2.1, (1 : Int32)))) Z 0 20 dX5_open_13 (mm wm0) inx_X5 tyX5_ok nmX5 rfl (by decide) rfl rfl rfl rfl rfl rfl (Nat.le_of_ble_eq_true rfl) rfl ?_
    refine g_aload_n (pc := 16) Z 0 dX5_open_16 rfl ?_
    refine g_get (pc := 17) (v := .int (1 : Int32)) (T := TX5) (N := 21) Z 0 20 dX5_open_17 (mm wm0) inx_X5 rfl (by decide) rfl rfl rfl ?_
    refine g_if_le (pc := 20) (tgt := 25) Z dX5_open_20 (by decide) (fun c0 => absurd c0 (by decide)) (fun _ => ?_)
    refine g_iconst (pc := 23) (v := 0) Z dX5_open_23 (by decide) ?_
    obtain rfl := Option.some.inj hf
    exact g_iret Z hr dX5_open_24 (vM.1, vM.2.1, vM.2.2.1, vM.2.2.2.1, vM.2.2.2.2.1, vM.2.2.2.2.2.1, vM.2.2.2.2.2.2.1, vM.2.2.2.2.2.2.2.1, vM.2.2.2.2.2.2.2.2.1, vM.2.2.2.2.2.2.2.2.2.1, vM.2.2.2.2.2.2.2.2.2.2.1, vM.2.2.2.2.2.2.2.2.2.2.2.1, vM.2.2.2.2.2.2.2.2.2.2.2.2.1, vM.2.2.2.2.2.2.2.2.2.2.2.2.2.1, vM.2.2.2.2.2.2.2.2.2.2.2.2.2.2.1, vM.2.2.2.2.2.2.2.2.2.2.2.2.2.2.2.1, vM.2.2.2.2.2.2.2.2.2.2.2.2.2.2.2.2.1, vM.2.2.2.2.2.2.2.2.2.2.2.2.2.2.2.2.2.1, vM.2.2.2.2.2.2.2.2.2.2.2.2.2.2.2.2.2.2.1, vM.2.2.2.2.2.2.2.2.2.2.2.2.2.2.2.2.2.2.2.1, (1 : Int32)) ⟨rfl, rfl⟩ rfl
