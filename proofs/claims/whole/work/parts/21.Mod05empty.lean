theorem wm69 : Cond.methodLink RX5 116 yX5_write ∈ gA := wt4 70 rfl rfl
theorem wm70 : Cond.instanceMethod yX5_write ∈ gA := wt4 72 rfl rfl
theorem wm71 : Cond.selects RX5 yX5_write yX5_write ∈ gA := wtS 26 rfl rfl
theorem wm72 : cd_Mod_write ∈ gA := wt4 73 rfl rfl
theorem wm73 : Jvm.Cond.constantLong RX5 114 (4095) ∈ gA := wt4 69 rfl rfl
theorem wm74 : Jvm.Cond.constantLong RX5 119 (-1) ∈ gA := wt4 82 rfl rfl
theorem wm75 : Cond.fieldLink RX5 125 "RedoHeapModel" "used" "I" ∈ gA := wt3 179 rfl rfl
theorem wm76 : Cond.fieldLink RX5 128 "RedoHeapModel" "commits" "I" ∈ gA := wt3 180 rfl rfl
/-! RedoHeapModel.empty(II)Z -/
def f_Mod_empty_137 (N : Nat) : Nat → MT → Int32 → Int32 → Int32 → Int64 → Int32 → Int32 → Option (Bool × MT)
  | 0, _, _, _, _, _, _, _ => none
  | n + 1, vM, y1, y2, y3, y4, y6, y7 => if ((16 : Int32) + y2) ≤ y7 then if gI (0 : Int32) 1024 = true then (f_Mod_write N vM (0 : Int32) ((vM.2.1 (0 : Int32).toNatClampNeg) + (1 : Int64))).bind fun x3 => if x3.1 = true then (f_Mod_syncAll N x3.2).bind fun x6 => some (true, (x6.2.1, x6.2.2.1, x6.2.2.2.1, x6.2.2.2.2.1, x6.2.2.2.2.2.1, x6.2.2.2.2.2.2.1, x6.2.2.2.2.2.2.2.1, x6.2.2.2.2.2.2.2.2.1, x6.2.2.2.2.2.2.2.2.2.1, x6.2.2.2.2.2.2.2.2.2.2.1, x6.2.2.2.2.2.2.2.2.2.2.2.1, (0 : Int32), (0 : Int32), x6.2.2.2.2.2.2.2.2.2.2.2.2.2.2.1, x6.2.2.2.2.2.2.2.2.2.2.2.2.2.2.2.1, x6.2.2.2.2.2.2.2.2.2.2.2.2.2.2.2.2.1, x6.2.2.2.2.2.2.2.2.2.2.2.2.2.2.2.2.2.1, x6.2.2.2.2.2.2.2.2.2.2.2.2.2.2.2.2.2.2.1, x6.2.2.2.2.2.2.2.2.2.2.2.2.2.2.2.2.2.2.2.1, x6.2.2.2.2.2.2.2.2.2.2.2.2.2.2.2.2.2.2.2.2.1, x6.2.2.2.2.2.2.2.2.2.2.2.2.2.2.2.2.2.2.2.2.2)) else some (false, x3.2) else none else (f_Mod_write N vM y7 (0 : Int64)).bind fun x8 => if x8.1 = true then f_Mod_empty_137 N n x8.2 y1 y2 y3 y4 y6 (y7 + (1 : Int32)) else some (false, x8.2)
def f_Mod_empty_35 (N : Nat) (K : MT → Int32 → Int32 → Int32 → Int64 → Option (Bool × MT)) : Nat → MT → Int32 → Int32 → Int32 → Int64 → Int32 → Int32 → Option (Bool × MT)
  | 0, _, _, _, _, _, _, _ => none
  | n + 1, vM, y1, y2, y3, y4, y6, y7 => if y6 ≤ y7 then if gI ((y3 + (1 : Int32)) + ((2 : Int32) * y6)) 1024 = true then K vM y1 y2 (y3 + ((2 : Int32) + ((2 : Int32) * y6))) ((-1 : Int64) - (vM.2.1 ((y3 + (1 : Int32)) + ((2 : Int32) * y6)).toNatClampNeg)) else none else if gI ((y3 + (1 : Int32)) + ((2 : Int32) * y7)) 1024 = true then if gI ((y3 + (2 : Int32)) + ((2 : Int32) * y7)) 1024 = true then (f_Mod_write N vM ((vM.2.1 ((y3 + (1 : Int32)) + ((2 : Int32) * y7)).toNatClampNeg).toInt32) (vM.2.1 ((y3 + (2 : Int32)) + ((2 : Int32) * y7)).toNatClampNeg)).bind fun x15 => if x15.1 = true then f_Mod_empty_35 N K n x15.2 y1 y2 y3 y4 y6 (y7 + (1 : Int32)) else some (false, x15.2) else none else none
def f_Mod_empty_11 (N : Nat) : Nat → MT → Int32 → Int32 → Int32 → Int64 → Option (Bool × MT)
  | 0, _, _, _, _, _ => none
  | n + 1, vM, y1, y2, y3, y4 => if ((16 : Int32) + y1) ≤ y3 then (f_Mod_write N vM (2 : Int32) y4).bind fun x19 => if x19.1 = true then (f_Mod_syncAll N x19.2).bind fun x22 => f_Mod_empty_137 N N x22.2 y1 y2 y3 y4 x22.1 (16 : Int32) else some (false, x19.2) else if gI y3 1024 = true then f_Mod_empty_35 N (fun z0 z1 z2 z3 z4 => f_Mod_empty_11 N n z0 z1 z2 z3 z4) N vM y1 y2 y3 y4 (((vM.2.1 y3.toNatClampNeg) &&& (4095 : Int64)).toInt32) (0 : Int32) else none
def f_Mod_empty (N : Nat) (vM : MT) (p1 : Int32) (p2 : Int32) : Option (Bool × MT) :=
  if gI (2 : Int32) 1024 = true then f_Mod_empty_11 N N vM p1 p2 (16 : Int32) (vM.2.1 (2 : Int32).toNatClampNeg) else none
abbrev cd_Mod_empty : Cond := .code yX5_empty cX5_empty 8 (some .boolean)
theorem yd_Mod_empty : yX5_empty.cls ≠ "java/lang/invoke/MethodHandle" ∧ yX5_empty.cls ≠ "java/lang/invoke/VarHandle" ∧ (parseMethodDescriptor yX5_empty.desc).map (fun d => d.parameters.length) = some 2 := by decide +kernel
abbrev rm_Mod_empty : Room := { frames := 3, cells := 0, slots := 0, locals := 68 }
abbrev q_Mod_empty (D : va_G) (ad : Nat → Nat) (ca : Nat → ClassId) (res : Bool × MT) (A : Nat → Prop) : Array Value → State → Outcome → State → Prop := va_Qi (fun (r : Int32) (u : MT) => r = bI res.1 ∧ u = res.2) (gB D cls (tys ca) A (fun (u : MT) => (wM ad ca u))) A
set_option maxHeartbeats 4000000 in
set_option maxRecDepth 100000 in
theorem w_Mod_empty_137 {p : Program} {l : Launch} {e : Env} {s : State} {m : MethodId} {args : Array Value} {below : List Frame} {meth : Method} {c : Code} {D : va_G} {ad : Nat → Nat} {ca : Nat → ClassId} {A : Nat → Prop} {N : Nat} {res : Bool × MT} (Z : gZ p s m args meth c cX5_empty 8 RX5 (cd_Mod_empty :: gA) A D cls (tys ca)) (hr : meth.sig.returnType = (some .boolean)) : ∀ (n : Nat) (vM : MT) (y1 : Int32) (y2 : Int32) (y3 : Int32) (y4 : Int64) (y6 : Int32) (y7 : Int32), f_Mod_empty_137 N n vM y1 y2 y3 y4 y6 y7 = some res → gW p l e rm_Mod_empty s m args below meth c 8 A D cls 0 0 (MQ below (q_Mod_empty D ad ca res A) args s 0 0 A) (wM ad ca vM) [(0, .ref (ad 20)), (1, .int y1), (2, .int y2), (3, .int y3), (4, .long y4), (6, .int y6), (7, .int y7)] 137 [] := by
  intro n
  induction n with
  | zero =>
    intro vM y1 y2 y3 y4 y6 y7 hf
    exact absurd hf (by rw [f_Mod_empty_137]; exact fun h => by cases h)
  | succ n ih =>
    intro vM y1 y2 y3 y4 y6 y7 hf
    rw [f_Mod_empty_137] at hf
    refine g_iload (pc := 137) Z 6 dX5_empty_137 rfl ?_
    refine g_bipush (pc := 139) (v := 16) Z dX5_empty_139 (by decide) ?_
    refine g_iload_n (pc := 141) Z 2 dX5_empty_141 rfl ?_
    refine g_iadd (pc := 142) Z dX5_empty_142 ?_
    refine g_icmp_ge (pc := 143) (tgt := 164) Z dX5_empty_143 (by decide) (fun c1 => ?_) (fun c1 => ?_)
    · replace hf := gIfP c1 hf
      refine g_aload_n (pc := 164) Z 0 dX5_empty_164 rfl ?_
      refine g_iconst (pc := 165) (v := 0) Z dX5_empty_165 (by decide) ?_
      refine g_aload_n (pc := 166) Z 0 dX5_empty_166 rfl ?_
      refine g_get (pc := 167) (v := .ref (ad 22)) (T := TX5) (N := 21) Z 0 1 dX5_empty_167 (mm wm21) inx_X5 rfl (by decide) rfl rfl rfl ?_
      refine g_iconst (pc := 170) (v := 0) Z dX5_empty_170 (by decide) ?_
      obtain ⟨b2, hf⟩ := gGuard hf
      refine g_lald (pc := 171) (f := vM.2.1) Z 2 0 dX5_empty_171 rfl rfl (gI_in b2) ?_
      refine g_lconst (pc := 172) (v := 1) Z dX5_empty_172 (by decide) ?_
      refine g_ladd (pc := 173) Z dX5_empty_173 ?_
      obtain ⟨x3, h4, hf⟩ := Option.bind_eq_some_iff.mp hf
      refine g_calli (pc := 174) (ws2 := fun u => (wM ad ca u)) (wr := ([] : va_W)) Z [0, 1, 2, 3, 4, 5, 6, 7] [] [0, 1, 2, 3, 4, 5, 6, 7] (g_runV Z (c_Mod_write l D ad ca N vM (0 : Int32) ((vM.2.1 (0 : Int32).toNatClampNeg) + (1 : Int64)) x3 h4) (cwV 2 Z.2.2.2.2.1 (gg_V wm69 wm70 wm71 wm11 wm72) rfl rfl rfl (yv_of rfl yd_Mod_write) ⟨Nat.le_of_ble_eq_true rfl, Nat.le_of_ble_eq_true rfl⟩) [0, 1, 2, 3, 4, 5, 6, 7] rfl (by decide) 0 rfl rfl rfl rfl rfl (Nat.le_of_ble_eq_true rfl) dX5_empty_174 ⟨Nat.le_of_ble_eq_true rfl, Nat.le_of_ble_eq_true rfl⟩) rfl rfl (by decide) (by decide) (by decide) (fun _ => rfl) (fun r u hu => ?_)
      obtain ⟨rfl, rfl⟩ := hu
      refine g_if_ne (pc := 177) (tgt := 182) Z dX5_empty_177 (by decide) (fun c5 => ?_) (fun c5 => ?_)
      · replace hf := gIfP (bI_nz c5) hf
        refine g_aload_n (pc := 182) Z 0 dX5_empty_182 rfl ?_
        obtain ⟨x6, h7, hf⟩ := Option.bind_eq_some_iff.mp hf
        refine g_calli (pc := 183) (ws2 := fun u => (wM ad ca u)) (wr := ([] : va_W)) Z [0, 1, 2, 3, 4, 5, 6, 7] [] [0, 1, 2, 3, 4, 5, 6, 7] (g_runV Z (c_Mod_syncAll l D ad ca N x3.2 x6 h7) (cwV 0 Z.2.2.2.2.1 (gg_V wm53 wm54 wm55 wm11 wm56) rfl rfl rfl (yv_of rfl yd_Mod_syncAll) ⟨Nat.le_of_ble_eq_true rfl, Nat.le_of_ble_eq_true rfl⟩) [0, 1, 2, 3, 4, 5, 6, 7] rfl (by decide) 0 rfl rfl rfl rfl rfl (Nat.le_of_ble_eq_true rfl) dX5_empty_183 ⟨Nat.le_of_ble_eq_true rfl, Nat.le_of_ble_eq_true rfl⟩) rfl rfl (by decide) (by decide) (by decide) (fun _ => rfl) (fun r u hu => ?_)
        obtain ⟨rfl, rfl⟩ := hu
        refine g_istore (pc := 186) (lv' := [(6, .int x6.1), (0, .ref (ad 20)), (1, .int y1), (2, .int y2), (3, .int y3), (4, .long y4), (7, .int y7)]) Z dX5_empty_186 (by decide) rfl ?_
        refine g_aload_n (pc := 188) Z 1 dX5_empty_188 rfl ?_
        refine g_iconst (pc := 189) (v := 0) Z dX5_empty_189 (by decide) ?_
        refine g_put (pc := 190) (T := TX5) (N := 21) (ws' := (wM ad ca (x6.2.1, x6.2.2.1, x6.2.2.2.1, x6.2.2.2.2.1, x6.2.2.2.2.2.1, x6.2.2.2.2.2.2.1, x6.2.2.2.2.2.2.2.1, x6.2.2.2.2.2.2.2.2.1, x6.2.2.2.2.2.2.2.2.2.1, x6.2.2.2.2.2.2.2.2.2.2.1, x6.2.2.2.2.2.2.2.2.2.2.2.1, (0 : Int32), x6.2.2.2.2.2.2.2.2.2.2.2.2.2.1, x6.2.2.2.2.2.2.2.2.2.2.2.2.2.2.1, x6.2.2.2.2.2.2.2.2.2.2.2.2.2.2.2.1, x6.2.2.2.2.2.2.2.2.2.2.2.2.2.2.2.2.1, x6.2.2.2.2.2.2.2.2.2.2.2.2.2.2.2.2.2.1, x6.2.2.2.2.2.2.2.2.2.2.2.2.2.2.2.2.2.2.1, x6.2.2.2.2.2.2.2.2.2.2.2.2.2.2.2.2.2.2.2.1, x6.2.2.2.2.2.2.2.2.2.2.2.2.2.2.2.2.2.2.2.2.1, x6.2.2.2.2.2.2.2.2.2.2.2.2.2.2.2.2.2.2.2.2.2))) Z 0 11 dX5_empty_190 (mm wm75) inx_X5 tyX5_ok nmX5 rfl (by decide) rfl rfl rfl rfl rfl rfl (Nat.le_of_ble_eq_true rfl) rfl ?_
        refine g_aload_n (pc := 193) Z 1 dX5_empty_193 rfl ?_
        refine g_iconst (pc := 194) (v := 0) Z dX5_empty_194 (by decide) ?_
        refine g_put (pc := 195) (T := TX5) (N := 21) (ws' := (wM ad ca (x6.2.1, x6.2.2.1, x6.2.2.2.1, x6.2.2.2.2.1, x6.2.2.2.2.2.1, x6.2.2.2.2.2.2.1, x6.2.2.2.2.2.2.2.1, x6.2.2.2.2.2.2.2.2.1, x6.2.2.2.2.2.2.2.2.2.1, x6.2.2.2.2.2.2.2.2.2.2.1, x6.2.2.2.2.2.2.2.2.2.2.2.1, (0 : Int32), (0 : Int32), x6.2.2.2.2.2.2.2.2.2.2.2.2.2.2.1, x6.2.2.2.2.2.2.2.2.2.2.2.2.2.2.2.1, x6.2.2.2.2.2.2.2.2.2.2.2.2.2.2.2.2.1, x6.2.2.2.2.2.2.2.2.2.2.2.2.2.2.2.2.2.1, x6.2.2.2.2.2.2.2.2.2.2.2.2.2.2.2.2.2.2.1, x6.2.2.2.2.2.2.2.2.2.2.2.2.2.2.2.2.2.2.2.1, x6.2.2.2.2.2.2.2.2.2.2.2.2.2.2.2.2.2.2.2.2.1, x6.2.2.2.2.2.2.2.2.2.2.2.2.2.2.2.2.2.2.2.2.2))) Z 0 12 dX5_empty_195 (mm wm76) inx_X5 tyX5_ok nmX5 rfl (by decide) rfl rfl rfl rfl rfl rfl (Nat.le_of_ble_eq_true rfl) rfl ?_
        refine g_iconst (pc := 198) (v := 1) Z dX5_empty_198 (by decide) ?_
        obtain rfl := Option.some.inj hf
        exact g_zret Z hr rfl dX5_empty_199 (x6.2.1, x6.2.2.1, x6.2.2.2.1, x6.2.2.2.2.1, x6.2.2.2.2.2.1, x6.2.2.2.2.2.2.1, x6.2.2.2.2.2.2.2.1, x6.2.2.2.2.2.2.2.2.1, x6.2.2.2.2.2.2.2.2.2.1, x6.2.2.2.2.2.2.2.2.2.2.1, x6.2.2.2.2.2.2.2.2.2.2.2.1, (0 : Int32), (0 : Int32), x6.2.2.2.2.2.2.2.2.2.2.2.2.2.2.1, x6.2.2.2.2.2.2.2.2.2.2.2.2.2.2.2.1, x6.2.2.2.2.2.2.2.2.2.2.2.2.2.2.2.2.1, x6.2.2.2.2.2.2.2.2.2.2.2.2.2.2.2.2.2.1, x6.2.2.2.2.2.2.2.2.2.2.2.2.2.2.2.2.2.2.1, x6.2.2.2.2.2.2.2.2.2.2.2.2.2.2.2.2.2.2.2.1, x6.2.2.2.2.2.2.2.2.2.2.2.2.2.2.2.2.2.2.2.2.1, x6.2.2.2.2.2.2.2.2.2.2.2.2.2.2.2.2.2.2.2.2.2) ⟨rfl, rfl⟩ rfl
      · replace hf := gIfN (bI_z c5) hf
        refine g_iconst (pc := 180) (v := 0) Z dX5_empty_180 (by decide) ?_
        obtain rfl := Option.some.inj hf
        exact g_zret Z hr rfl dX5_empty_181 x3.2 ⟨rfl, rfl⟩ rfl
    · replace hf := gIfN c1 hf
      refine g_aload_n (pc := 146) Z 0 dX5_empty_146 rfl ?_
      refine g_iload (pc := 147) Z 6 dX5_empty_147 rfl ?_
      refine g_lconst (pc := 149) (v := 0) Z dX5_empty_149 (by decide) ?_
      obtain ⟨x8, h9, hf⟩ := Option.bind_eq_some_iff.mp hf
      refine g_calli (pc := 150) (ws2 := fun u => (wM ad ca u)) (wr := ([] : va_W)) Z [0, 1, 2, 3, 4, 5, 6, 7] [] [0, 1, 2, 3, 4, 5, 6, 7] (g_runV Z (c_Mod_write l D ad ca N vM y7 (0 : Int64) x8 h9) (cwV 2 Z.2.2.2.2.1 (gg_V wm69 wm70 wm71 wm11 wm72) rfl rfl rfl (yv_of rfl yd_Mod_write) ⟨Nat.le_of_ble_eq_true rfl, Nat.le_of_ble_eq_true rfl⟩) [0, 1, 2, 3, 4, 5, 6, 7] rfl (by decide) 0 rfl rfl rfl rfl rfl (Nat.le_of_ble_eq_true rfl) dX5_empty_150 ⟨Nat.le_of_ble_eq_true rfl, Nat.le_of_ble_eq_true rfl⟩) rfl rfl (by decide) (by decide) (by decide) (fun _ => rfl) (fun r u hu => ?_)
      obtain ⟨rfl, rfl⟩ := hu
      refine g_if_ne (pc := 153) (tgt := 158) Z dX5_empty_153 (by decide) (fun c10 => ?_) (fun c10 => ?_)
      · replace hf := gIfP (bI_nz c10) hf
        refine g_iinc (pc := 158) (v := y7 + (1 : Int32)) (lv' := [(7, .int (y7 + (1 : Int32))), (0, .ref (ad 20)), (1, .int y1), (2, .int y2), (3, .int y3), (4, .long y4), (6, .int y6)]) Z 6 dX5_empty_158 rfl rfl (by decide) rfl ?_
        refine g_goto (pc := 161) (tgt := 137) Z dX5_empty_161 (by decide) ?_
        refine g_locals (lv2 := [(0, .ref (ad 20)), (1, .int y1), (2, .int y2), (3, .int y3), (4, .long y4), (6, .int y6), (7, .int (y7 + (1 : Int32)))]) [1, 2, 3, 4, 5, 6, 0] rfl ?_
        exact ih _ _ _ _ _ _ _ hf
      · replace hf := gIfN (bI_z c10) hf
        refine g_iconst (pc := 156) (v := 0) Z dX5_empty_156 (by decide) ?_
        obtain rfl := Option.some.inj hf
        exact g_zret Z hr rfl dX5_empty_157 x8.2 ⟨rfl, rfl⟩ rfl
set_option maxHeartbeats 4000000 in
set_option maxRecDepth 100000 in
theorem w_Mod_empty_35 {p : Program} {l : Launch} {e : Env} {s : State} {m : MethodId} {args : Array Value} {below : List Frame} {meth : Method} {c : Code} {D : va_G} {ad : Nat → Nat} {ca : Nat → ClassId} {A : Nat → Prop} {N : Nat} {K : MT → Int32 → Int32 → Int32 → Int64 → Option (Bool × MT)} {res : Bool × MT} (Z : gZ p s m args meth c cX5_empty 8 RX5 (cd_Mod_empty :: gA) A D cls (tys ca)) (hr : meth.sig.returnType = (some .boolean)) (hK : ∀ (vM : MT) (y1 : Int32) (y2 : Int32) (y3 : Int32) (y4 : Int64), K vM y1 y2 y3 y4 = some res → gW p l e rm_Mod_empty s m args below meth c 8 A D cls 0 0 (MQ below (q_Mod_empty D ad ca res A) args s 0 0 A) (wM ad ca vM) [(0, .ref (ad 20)), (1, .int y1), (2, .int y2), (3, .int y3), (4, .long y4)] 11 []) : ∀ (n : Nat) (vM : MT) (y1 : Int32) (y2 : Int32) (y3 : Int32) (y4 : Int64) (y6 : Int32) (y7 : Int32), f_Mod_empty_35 N K n vM y1 y2 y3 y4 y6 y7 = some res → gW p l e rm_Mod_empty s m args below meth c 8 A D cls 0 0 (MQ below (q_Mod_empty D ad ca res A) args s 0 0 A) (wM ad ca vM) [(0, .ref (ad 20)), (1, .int y1), (2, .int y2), (3, .int y3), (4, .long y4), (6, .int y6), (7, .int y7)] 35 [] := by
  intro n
  induction n with
  | zero =>
    intro vM y1 y2 y3 y4 y6 y7 hf
    exact absurd hf (by rw [f_Mod_empty_35]; exact fun h => by cases h)
  | succ n ih =>
    intro vM y1 y2 y3 y4 y6 y7 hf
    rw [f_Mod_empty_35] at hf
    refine g_iload (pc := 35) Z 6 dX5_empty_35 rfl ?_
    refine g_iload (pc := 37) Z 5 dX5_empty_37 rfl ?_
    refine g_icmp_ge (pc := 39) (tgt := 84) Z dX5_empty_39 (by decide) (fun c11 => ?_) (fun c11 => ?_)
    · replace hf := gIfP c11 hf
      refine g_ldc2 (pc := 84) (v := -1) Z dX5_empty_84 (mm wm74) ?_
      refine g_aload_n (pc := 87) Z 0 dX5_empty_87 rfl ?_
      refine g_get (pc := 88) (v := .ref (ad 22)) (T := TX5) (N := 21) Z 0 1 dX5_empty_88 (mm wm21) inx_X5 rfl (by decide) rfl rfl rfl ?_
      refine g_iload_n (pc := 91) Z 3 dX5_empty_91 rfl ?_
      refine g_iconst (pc := 92) (v := 1) Z dX5_empty_92 (by decide) ?_
      refine g_iadd (pc := 93) Z dX5_empty_93 ?_
      refine g_iconst (pc := 94) (v := 2) Z dX5_empty_94 (by decide) ?_
      refine g_iload (pc := 95) Z 5 dX5_empty_95 rfl ?_
      refine g_imul (pc := 97) Z dX5_empty_97 ?_
      refine g_iadd (pc := 98) Z dX5_empty_98 ?_
      obtain ⟨b12, hf⟩ := gGuard hf
      refine g_lald (pc := 99) (f := vM.2.1) Z 2 0 dX5_empty_99 rfl rfl (gI_in b12) ?_
      refine g_lsub (pc := 100) Z dX5_empty_100 ?_
      refine g_lstore (pc := 101) (lv' := [(4, .long ((-1 : Int64) - (vM.2.1 ((y3 + (1 : Int32)) + ((2 : Int32) * y6)).toNatClampNeg))), (0, .ref (ad 20)), (1, .int y1), (2, .int y2), (3, .int y3), (6, .int y6), (7, .int y7)]) Z dX5_empty_101 (by decide) rfl ?_
      refine g_iload_n (pc := 103) Z 4 dX5_empty_103 rfl ?_
      refine g_iconst (pc := 104) (v := 2) Z dX5_empty_104 (by decide) ?_
      refine g_iconst (pc := 105) (v := 2) Z dX5_empty_105 (by decide) ?_
      refine g_iload (pc := 106) Z 5 dX5_empty_106 rfl ?_
      refine g_imul (pc := 108) Z dX5_empty_108 ?_
      refine g_iadd (pc := 109) Z dX5_empty_109 ?_
      refine g_iadd (pc := 110) Z dX5_empty_110 ?_
      refine g_istore_n (pc := 111) (lv' := [(3, .int (y3 + ((2 : Int32) + ((2 : Int32) * y6)))), (4, .long ((-1 : Int64) - (vM.2.1 ((y3 + (1 : Int32)) + ((2 : Int32) * y6)).toNatClampNeg))), (0, .ref (ad 20)), (1, .int y1), (2, .int y2), (6, .int y6), (7, .int y7)]) Z dX5_empty_111 (by decide) rfl ?_
      refine g_goto (pc := 112) (tgt := 11) Z dX5_empty_112 (by decide) ?_
      refine g_locals (lv2 := [(0, .ref (ad 20)), (1, .int y1), (2, .int y2), (3, .int (y3 + ((2 : Int32) + ((2 : Int32) * y6)))), (4, .long ((-1 : Int64) - (vM.2.1 ((y3 + (1 : Int32)) + ((2 : Int32) * y6)).toNatClampNeg)))]) [2, 3, 4, 0, 1] rfl ?_
      exact hK _ _ _ _ _ hf
    · replace hf := gIfN c11 hf
      refine g_aload_n (pc := 42) Z 0 dX5_empty_42 rfl ?_
      refine g_aload_n (pc := 43) Z 0 dX5_empty_43 rfl ?_
      refine g_get (pc := 44) (v := .ref (ad 22)) (T := TX5) (N := 21) Z 0 1 dX5_empty_44 (mm wm21) inx_X5 rfl (by decide) rfl rfl rfl ?_
      refine g_iload_n (pc := 47) Z 3 dX5_empty_47 rfl ?_
      refine g_iconst (pc := 48) (v := 1) Z dX5_empty_48 (by decide) ?_
      refine g_iadd (pc := 49) Z dX5_empty_49 ?_
      refine g_iconst (pc := 50) (v := 2) Z dX5_empty_50 (by decide) ?_
      refine g_iload (pc := 51) Z 6 dX5_empty_51 rfl ?_
      refine g_imul (pc := 53) Z dX5_empty_53 ?_
      refine g_iadd (pc := 54) Z dX5_empty_54 ?_
      obtain ⟨b13, hf⟩ := gGuard hf
      refine g_lald (pc := 55) (f := vM.2.1) Z 2 0 dX5_empty_55 rfl rfl (gI_in b13) ?_
      refine g_l2i (pc := 56) Z dX5_empty_56 ?_
      refine g_aload_n (pc := 57) Z 0 dX5_empty_57 rfl ?_
      refine g_get (pc := 58) (v := .ref (ad 22)) (T := TX5) (N := 21) Z 0 1 dX5_empty_58 (mm wm21) inx_X5 rfl (by decide) rfl rfl rfl ?_
      refine g_iload_n (pc := 61) Z 3 dX5_empty_61 rfl ?_
      refine g_iconst (pc := 62) (v := 2) Z dX5_empty_62 (by decide) ?_
      refine g_iadd (pc := 63) Z dX5_empty_63 ?_
      refine g_iconst (pc := 64) (v := 2) Z dX5_empty_64 (by decide) ?_
      refine g_iload (pc := 65) Z 6 dX5_empty_65 rfl ?_
      refine g_imul (pc := 67) Z dX5_empty_67 ?_
      refine g_iadd (pc := 68) Z dX5_empty_68 ?_
      obtain ⟨b14, hf⟩ := gGuard hf
      refine g_lald (pc := 69) (f := vM.2.1) Z 2 0 dX5_empty_69 rfl rfl (gI_in b14) ?_
      obtain ⟨x15, h16, hf⟩ := Option.bind_eq_some_iff.mp hf
      refine g_calli (pc := 70) (ws2 := fun u => (wM ad ca u)) (wr := ([] : va_W)) Z [0, 1, 2, 3, 4, 5, 6, 7] [] [0, 1, 2, 3, 4, 5, 6, 7] (g_runV Z (c_Mod_write l D ad ca N vM ((vM.2.1 ((y3 + (1 : Int32)) + ((2 : Int32) * y7)).toNatClampNeg).toInt32) (vM.2.1 ((y3 + (2 : Int32)) + ((2 : Int32) * y7)).toNatClampNeg) x15 h16) (cwV 2 Z.2.2.2.2.1 (gg_V wm69 wm70 wm71 wm11 wm72) rfl rfl rfl (yv_of rfl yd_Mod_write) ⟨Nat.le_of_ble_eq_true rfl, Nat.le_of_ble_eq_true rfl⟩) [0, 1, 2, 3, 4, 5, 6, 7] rfl (by decide) 0 rfl rfl rfl rfl rfl (Nat.le_of_ble_eq_true rfl) dX5_empty_70 ⟨Nat.le_of_ble_eq_true rfl, Nat.le_of_ble_eq_true rfl⟩) rfl rfl (by decide) (by decide) (by decide) (fun _ => rfl) (fun r u hu => ?_)
      obtain ⟨rfl, rfl⟩ := hu
      refine g_if_ne (pc := 73) (tgt := 78) Z dX5_empty_73 (by decide) (fun c17 => ?_) (fun c17 => ?_)
      · replace hf := gIfP (bI_nz c17) hf
        refine g_iinc (pc := 78) (v := y7 + (1 : Int32)) (lv' := [(7, .int (y7 + (1 : Int32))), (0, .ref (ad 20)), (1, .int y1), (2, .int y2), (3, .int y3), (4, .long y4), (6, .int y6)]) Z 6 dX5_empty_78 rfl rfl (by decide) rfl ?_
        refine g_goto (pc := 81) (tgt := 35) Z dX5_empty_81 (by decide) ?_
        refine g_locals (lv2 := [(0, .ref (ad 20)), (1, .int y1), (2, .int y2), (3, .int y3), (4, .long y4), (6, .int y6), (7, .int (y7 + (1 : Int32)))]) [1, 2, 3, 4, 5, 6, 0] rfl ?_
        exact ih _ _ _ _ _ _ _ hf
      · replace hf := gIfN (bI_z c17) hf
        refine g_iconst (pc := 76) (v := 0) Z dX5_empty_76 (by decide) ?_
        obtain rfl := Option.some.inj hf
        exact g_zret Z hr rfl dX5_empty_77 x15.2 ⟨rfl, rfl⟩ rfl
set_option maxHeartbeats 4000000 in
set_option maxRecDepth 100000 in
theorem w_Mod_empty_11 {p : Program} {l : Launch} {e : Env} {s : State} {m : MethodId} {args : Array Value} {below : List Frame} {meth : Method} {c : Code} {D : va_G} {ad : Nat → Nat} {ca : Nat → ClassId} {A : Nat → Prop} {N : Nat} {res : Bool × MT} (Z : gZ p s m args meth c cX5_empty 8 RX5 (cd_Mod_empty :: gA) A D cls (tys ca)) (hr : meth.sig.returnType = (some .boolean)) : ∀ (n : Nat) (vM : MT) (y1 : Int32) (y2 : Int32) (y3 : Int32) (y4 : Int64), f_Mod_empty_11 N n vM y1 y2 y3 y4 = some res → gW p l e rm_Mod_empty s m args below meth c 8 A D cls 0 0 (MQ below (q_Mod_empty D ad ca res A) args s 0 0 A) (wM ad ca vM) [(0, .ref (ad 20)), (1, .int y1), (2, .int y2), (3, .int y3), (4, .long y4)] 11 [] := by
  intro n
  induction n with
  | zero =>
    intro vM y1 y2 y3 y4 hf
    exact absurd hf (by rw [f_Mod_empty_11]; exact fun h => by cases h)
  | succ n ih =>
    intro vM y1 y2 y3 y4 hf
    rw [f_Mod_empty_11] at hf
    refine g_iload_n (pc := 11) Z 3 dX5_empty_11 rfl ?_
    refine g_bipush (pc := 12) (v := 16) Z dX5_empty_12 (by decide) ?_
    refine g_iload_n (pc := 14) Z 1 dX5_empty_14 rfl ?_
    refine g_iadd (pc := 15) Z dX5_empty_15 ?_
    refine g_icmp_ge (pc := 16) (tgt := 115) Z dX5_empty_16 (by decide) (fun c18 => ?_) (fun c18 => ?_)
    · replace hf := gIfP c18 hf
      refine g_aload_n (pc := 115) Z 0 dX5_empty_115 rfl ?_
      refine g_iconst (pc := 116) (v := 2) Z dX5_empty_116 (by decide) ?_
      refine g_lload (pc := 117) Z 4 dX5_empty_117 rfl ?_
      obtain ⟨x19, h20, hf⟩ := Option.bind_eq_some_iff.mp hf
      refine g_calli (pc := 119) (ws2 := fun u => (wM ad ca u)) (wr := ([] : va_W)) Z [0, 1, 2, 3, 4, 5, 6, 7] [] [0, 1, 2, 3, 4, 5, 6, 7] (g_runV Z (c_Mod_write l D ad ca N vM (2 : Int32) y4 x19 h20) (cwV 2 Z.2.2.2.2.1 (gg_V wm69 wm70 wm71 wm11 wm72) rfl rfl rfl (yv_of rfl yd_Mod_write) ⟨Nat.le_of_ble_eq_true rfl, Nat.le_of_ble_eq_true rfl⟩) [0, 1, 2, 3, 4, 5, 6, 7] rfl (by decide) 0 rfl rfl rfl rfl rfl (Nat.le_of_ble_eq_true rfl) dX5_empty_119 ⟨Nat.le_of_ble_eq_true rfl, Nat.le_of_ble_eq_true rfl⟩) rfl rfl (by decide) (by decide) (by decide) (fun _ => rfl) (fun r u hu => ?_)
      obtain ⟨rfl, rfl⟩ := hu
      refine g_if_ne (pc := 122) (tgt := 127) Z dX5_empty_122 (by decide) (fun c21 => ?_) (fun c21 => ?_)
      · replace hf := gIfP (bI_nz c21) hf
        refine g_aload_n (pc := 127) Z 0 dX5_empty_127 rfl ?_
        obtain ⟨x22, h23, hf⟩ := Option.bind_eq_some_iff.mp hf
        refine g_calli (pc := 128) (ws2 := fun u => (wM ad ca u)) (wr := ([] : va_W)) Z [0, 1, 2, 3, 4, 5, 6, 7] [] [0, 1, 2, 3, 4, 5, 6, 7] (g_runV Z (c_Mod_syncAll l D ad ca N x19.2 x22 h23) (cwV 0 Z.2.2.2.2.1 (gg_V wm53 wm54 wm55 wm11 wm56) rfl rfl rfl (yv_of rfl yd_Mod_syncAll) ⟨Nat.le_of_ble_eq_true rfl, Nat.le_of_ble_eq_true rfl⟩) [0, 1, 2, 3, 4, 5, 6, 7] rfl (by decide) 0 rfl rfl rfl rfl rfl (Nat.le_of_ble_eq_true rfl) dX5_empty_128 ⟨Nat.le_of_ble_eq_true rfl, Nat.le_of_ble_eq_true rfl⟩) rfl rfl (by decide) (by decide) (by decide) (fun _ => rfl) (fun r u hu => ?_)
        obtain ⟨rfl, rfl⟩ := hu
        refine g_istore (pc := 131) (lv' := [(6, .int x22.1), (0, .ref (ad 20)), (1, .int y1), (2, .int y2), (3, .int y3), (4, .long y4)]) Z dX5_empty_131 (by decide) rfl ?_
        refine g_bipush (pc := 133) (v := 16) Z dX5_empty_133 (by decide) ?_
        refine g_istore (pc := 135) (lv' := [(7, .int (16 : Int32)), (6, .int x22.1), (0, .ref (ad 20)), (1, .int y1), (2, .int y2), (3, .int y3), (4, .long y4)]) Z dX5_empty_135 (by decide) rfl ?_
        refine g_locals (lv2 := [(0, .ref (ad 20)), (1, .int y1), (2, .int y2), (3, .int y3), (4, .long y4), (6, .int x22.1), (7, .int (16 : Int32))]) [2, 3, 4, 5, 6, 1, 0] rfl ?_
        exact w_Mod_empty_137 Z hr N _ _ _ _ _ _ _ hf
      · replace hf := gIfN (bI_z c21) hf
        refine g_iconst (pc := 125) (v := 0) Z dX5_empty_125 (by decide) ?_
        obtain rfl := Option.some.inj hf
        exact g_zret Z hr rfl dX5_empty_126 x19.2 ⟨rfl, rfl⟩ rfl
    · replace hf := gIfN c18 hf
      refine g_aload_n (pc := 19) Z 0 dX5_empty_19 rfl ?_
      refine g_get (pc := 20) (v := .ref (ad 22)) (T := TX5) (N := 21) Z 0 1 dX5_empty_20 (mm wm21) inx_X5 rfl (by decide) rfl rfl rfl ?_
      refine g_iload_n (pc := 23) Z 3 dX5_empty_23 rfl ?_
      obtain ⟨b24, hf⟩ := gGuard hf
      refine g_lald (pc := 24) (f := vM.2.1) Z 2 0 dX5_empty_24 rfl rfl (gI_in b24) ?_
      refine g_ldc2 (pc := 25) (v := 4095) Z dX5_empty_25 (mm wm73) ?_
      refine g_land (pc := 28) Z dX5_empty_28 ?_
      refine g_l2i (pc := 29) Z dX5_empty_29 ?_
      refine g_istore (pc := 30) (lv' := [(6, .int (((vM.2.1 y3.toNatClampNeg) &&& (4095 : Int64)).toInt32)), (0, .ref (ad 20)), (1, .int y1), (2, .int y2), (3, .int y3), (4, .long y4)]) Z dX5_empty_30 (by decide) rfl ?_
      refine g_iconst (pc := 32) (v := 0) Z dX5_empty_32 (by decide) ?_
      refine g_istore (pc := 33) (lv' := [(7, .int (0 : Int32)), (6, .int (((vM.2.1 y3.toNatClampNeg) &&& (4095 : Int64)).toInt32)), (0, .ref (ad 20)), (1, .int y1), (2, .int y2), (3, .int y3), (4, .long y4)]) Z dX5_empty_33 (by decide) rfl ?_
      refine g_locals (lv2 := [(0, .ref (ad 20)), (1, .int y1), (2, .int y2), (3, .int y3), (4, .long y4), (6, .int (((vM.2.1 y3.toNatClampNeg) &&& (4095 : Int64)).toInt32)), (7, .int (0 : Int32))]) [2, 3, 4, 5, 6, 1, 0] rfl ?_
      exact w_Mod_empty_35 Z hr (fun z0 z1 z2 z3 z4 hf => ih z0 z1 z2 z3 z4 hf) N _ _ _ _ _ _ _ hf
set_option maxHeartbeats 4000000 in
set_option maxRecDepth 100000 in
theorem c_Mod_empty (l : Launch) (D : va_G) (ad : Nat → Nat) (ca : Nat → ClassId) (N : Nat) (vM : MT) (p1 : Int32) (p2 : Int32) (res : Bool × MT) (hf : f_Mod_empty N vM p1 p2 = some res) (sz : Nat) : Met l yX5_empty (cd_Mod_empty :: gA) rm_Mod_empty (va_Pc [.ref (ad 20), .int p1, .int p2] (gP D cls (tys ca) (wM ad ca vM) sz)) (q_Mod_empty D ad ca res (va_A (wM ad ca vM) sz)) 0 0 (va_A (wM ad ca vM) sz) := by
  refine g_met (cc := cX5_empty) (Qc := q_Mod_empty D ad ca res) (lv := [(0, .ref (ad 20)), (1, .int p1), (2, .int p2)]) (own := RX5) (by decide) rfl rfl (Nat.le_of_ble_eq_true rfl) rfl sz ?_
  intro p e s m args below meth c A Z hr hnm
  unfold f_Mod_empty at hf
  refine g_bipush (pc := 0) (v := 16) Z dX5_empty_0 (by decide) ?_
  refine g_istore_n (pc := 2) (lv' := [(3, .int (16 : Int32)), (0, .ref (ad 20)), (1, .int p1), (2, .int p2)]) Z dX5_empty_2 (by decide) rfl ?_
  refine g_aload_n (pc := 3) Z 1 dX5_empty_3 rfl ?_
  refine g_get (pc := 4) (v := .ref (ad 22)) (T := TX5) (N := 21) Z 0 1 dX5_empty_4 (mm wm21) inx_X5 rfl (by decide) rfl rfl rfl ?_
  refine g_iconst (pc := 7) (v := 2) Z dX5_empty_7 (by decide) ?_
  obtain ⟨b25, hf⟩ := gGuard hf
  refine g_lald (pc := 8) (f := vM.2.1) Z 2 0 dX5_empty_8 rfl rfl (gI_in b25) ?_
  refine g_lstore (pc := 9) (lv' := [(4, .long (vM.2.1 (2 : Int32).toNatClampNeg)), (3, .int (16 : Int32)), (0, .ref (ad 20)), (1, .int p1), (2, .int p2)]) Z dX5_empty_9 (by decide) rfl ?_
  refine g_locals (lv2 := [(0, .ref (ad 20)), (1, .int p1), (2, .int p2), (3, .int (16 : Int32)), (4, .long (vM.2.1 (2 : Int32).toNatClampNeg))]) [2, 3, 4, 1, 0] rfl ?_
  exact w_Mod_empty_11 Z hr N _ _ _ _ _ hf
