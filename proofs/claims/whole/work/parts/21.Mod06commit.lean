theorem wm77 : Jvm.Cond.constantLong RX5 135 (4096) ∈ gA := wt4 87 rfl rfl
theorem wm78 : Cond.methodLink RX5 131 yX5_empty ∈ gA := wt4 65 rfl rfl
theorem wm79 : Cond.instanceMethod yX5_empty ∈ gA := wt4 67 rfl rfl
theorem wm80 : Cond.selects RX5 yX5_empty yX5_empty ∈ gA := wtS 25 rfl rfl
theorem wm81 : cd_Mod_empty ∈ gA := wt4 68 rfl rfl
theorem wm82 : Jvm.Cond.constantLong RX5 137 (-2) ∈ gA := wt4 88 rfl rfl
/-! RedoHeapModel.commit(Z)I -/
def f_Mod_commit_234 (N : Nat) : Nat → MT → Int32 → Int32 → Int32 → Int32 → Int32 → Option (Int32 × MT)
  | 0, _, _, _, _, _, _ => none
  | n + 1, vM, y1, y2, y3, y4, y5 => if (1024 : Int32) ≤ y5 then (f_Mod_drop N (vM.1, vM.2.1, vM.2.2.1, vM.2.2.2.1, vM.2.2.2.2.1, vM.2.2.2.2.2.1, vM.2.2.2.2.2.2.1, vM.2.2.2.2.2.2.2.1, vM.2.2.2.2.2.2.2.2.1, vM.2.2.2.2.2.2.2.2.2.1, vM.2.2.2.2.2.2.2.2.2.2.1, vM.2.2.2.2.2.2.2.2.2.2.2.1 + y3, vM.2.2.2.2.2.2.2.2.2.2.2.2.1 + (1 : Int32), vM.2.2.2.2.2.2.2.2.2.2.2.2.2.1 + (1 : Int64), vM.2.2.2.2.2.2.2.2.2.2.2.2.2.2.1, vM.2.2.2.2.2.2.2.2.2.2.2.2.2.2.2.1, vM.2.2.2.2.2.2.2.2.2.2.2.2.2.2.2.2.1, vM.2.2.2.2.2.2.2.2.2.2.2.2.2.2.2.2.2.1, vM.2.2.2.2.2.2.2.2.2.2.2.2.2.2.2.2.2.2.1, vM.2.2.2.2.2.2.2.2.2.2.2.2.2.2.2.2.2.2.2.1, vM.2.2.2.2.2.2.2.2.2.2.2.2.2.2.2.2.2.2.2.2)).bind fun x2 => some (x2.2.2.2.2.2.2.2.2.2.2.2.2.2.1.toInt32, x2) else if gI y5 1024 = true then if (vM.2.2.2.2.2.2.1 y5.toNatClampNeg) = 0 then if gI y5 1024 = true then if gI y5 1024 = true then f_Mod_commit_234 N n (vM.1, vM.2.1, vM.2.2.1, vM.2.2.2.1, vM.2.2.2.2.1, vp_updL vM.2.2.2.2.2.1 y5.toNatClampNeg (vM.2.2.2.2.2.1 y5.toNatClampNeg), vM.2.2.2.2.2.2.1, vM.2.2.2.2.2.2.2.1, vM.2.2.2.2.2.2.2.2.1, vM.2.2.2.2.2.2.2.2.2.1, vM.2.2.2.2.2.2.2.2.2.2.1, vM.2.2.2.2.2.2.2.2.2.2.2.1, vM.2.2.2.2.2.2.2.2.2.2.2.2.1, vM.2.2.2.2.2.2.2.2.2.2.2.2.2.1, vM.2.2.2.2.2.2.2.2.2.2.2.2.2.2.1, vM.2.2.2.2.2.2.2.2.2.2.2.2.2.2.2.1, vM.2.2.2.2.2.2.2.2.2.2.2.2.2.2.2.2.1, vM.2.2.2.2.2.2.2.2.2.2.2.2.2.2.2.2.2.1, vM.2.2.2.2.2.2.2.2.2.2.2.2.2.2.2.2.2.2.1, vM.2.2.2.2.2.2.2.2.2.2.2.2.2.2.2.2.2.2.2.1, vM.2.2.2.2.2.2.2.2.2.2.2.2.2.2.2.2.2.2.2.2) y1 y2 y3 y4 (y5 + (1 : Int32)) else none else none else if gI y5 1024 = true then if gI y5 1024 = true then f_Mod_commit_234 N n (vM.1, vM.2.1, vM.2.2.1, vM.2.2.2.1, vM.2.2.2.2.1, vp_updL vM.2.2.2.2.2.1 y5.toNatClampNeg (vM.2.2.2.2.2.2.2.1 y5.toNatClampNeg), vM.2.2.2.2.2.2.1, vM.2.2.2.2.2.2.2.1, vM.2.2.2.2.2.2.2.2.1, vM.2.2.2.2.2.2.2.2.2.1, vM.2.2.2.2.2.2.2.2.2.2.1, vM.2.2.2.2.2.2.2.2.2.2.2.1, vM.2.2.2.2.2.2.2.2.2.2.2.2.1, vM.2.2.2.2.2.2.2.2.2.2.2.2.2.1, vM.2.2.2.2.2.2.2.2.2.2.2.2.2.2.1, vM.2.2.2.2.2.2.2.2.2.2.2.2.2.2.2.1, vM.2.2.2.2.2.2.2.2.2.2.2.2.2.2.2.2.1, vM.2.2.2.2.2.2.2.2.2.2.2.2.2.2.2.2.2.1, vM.2.2.2.2.2.2.2.2.2.2.2.2.2.2.2.2.2.2.1, vM.2.2.2.2.2.2.2.2.2.2.2.2.2.2.2.2.2.2.2.1, vM.2.2.2.2.2.2.2.2.2.2.2.2.2.2.2.2.2.2.2.2) y1 y2 y3 y4 (y5 + (1 : Int32)) else none else none else none
def f_Mod_commit_141 (N : Nat) : Nat → MT → Int32 → Int32 → Int32 → Int32 → Int32 → Option (Int32 × MT)
  | 0, _, _, _, _, _, _ => none
  | n + 1, vM, y1, y2, y3, y4, y5 => if (1024 : Int32) ≤ y5 then (f_Mod_write N vM y4 ((-2 : Int64) - vM.2.2.2.2.2.2.2.2.2.2.2.2.2.1)).bind fun x11 => if x11.1 = true then if y1 = 0 then f_Mod_commit_234 N N x11.2 y1 y2 y3 y4 (0 : Int32) else (f_Mod_syncAll N x11.2).bind fun x15 => f_Mod_commit_234 N N x15.2 y1 y2 y3 y4 (0 : Int32) else some ((-2 : Int32), x11.2) else if gI y5 1024 = true then if (vM.2.2.2.2.2.2.1 y5.toNatClampNeg) = 0 then f_Mod_commit_141 N n vM y1 y2 y3 y4 (y5 + (1 : Int32)) else (f_Mod_write N vM y4 y5.toInt64).bind fun x19 => if x19.1 = true then if gI y5 1024 = true then (f_Mod_write N x19.2 (y4 + (1 : Int32)) (x19.2.2.2.2.2.2.2.2.1 y5.toNatClampNeg)).bind fun x23 => if x23.1 = true then f_Mod_commit_141 N n x23.2 y1 y2 y3 (y4 + (2 : Int32)) (y5 + (1 : Int32)) else some ((-2 : Int32), x23.2) else none else some ((-2 : Int32), x19.2) else none
def f_Mod_commit (N : Nat) (vM : MT) (p1 : Bool) : Option (Int32 × MT) :=
  (f_Mod_isShut vM).bind fun x26 => if x26 = true then some ((0 : Int32), (vM.1, vM.2.1, vM.2.2.1, vM.2.2.2.1, vM.2.2.2.2.1, vM.2.2.2.2.2.1, vM.2.2.2.2.2.2.1, vM.2.2.2.2.2.2.2.1, vM.2.2.2.2.2.2.2.2.1, vM.2.2.2.2.2.2.2.2.2.1, vM.2.2.2.2.2.2.2.2.2.2.1, vM.2.2.2.2.2.2.2.2.2.2.2.1, vM.2.2.2.2.2.2.2.2.2.2.2.2.1, vM.2.2.2.2.2.2.2.2.2.2.2.2.2.1, vM.2.2.2.2.2.2.2.2.2.2.2.2.2.2.1, vM.2.2.2.2.2.2.2.2.2.2.2.2.2.2.2.1, vM.2.2.2.2.2.2.2.2.2.2.2.2.2.2.2.2.1, vM.2.2.2.2.2.2.2.2.2.2.2.2.2.2.2.2.2.1, vM.2.2.2.2.2.2.2.2.2.2.2.2.2.2.2.2.2.2.1, vM.2.2.2.2.2.2.2.2.2.2.2.2.2.2.2.2.2.2.2.1, (1 : Int32))) else if vM.2.2.2.2.2.2.2.2.1 = 0 then (f_Mod_drop N (vM.1, vM.2.1, vM.2.2.1, vM.2.2.2.1, vM.2.2.2.2.1, vM.2.2.2.2.2.1, vM.2.2.2.2.2.2.1, vM.2.2.2.2.2.2.2.1, vM.2.2.2.2.2.2.2.2.1, vM.2.2.2.2.2.2.2.2.2.1, vM.2.2.2.2.2.2.2.2.2.2.1, vM.2.2.2.2.2.2.2.2.2.2.2.1, vM.2.2.2.2.2.2.2.2.2.2.2.2.1, vM.2.2.2.2.2.2.2.2.2.2.2.2.2.1, vM.2.2.2.2.2.2.2.2.2.2.2.2.2.2.1, vM.2.2.2.2.2.2.2.2.2.2.2.2.2.2.2.1, vM.2.2.2.2.2.2.2.2.2.2.2.2.2.2.2.2.1, vM.2.2.2.2.2.2.2.2.2.2.2.2.2.2.2.2.2.1, vM.2.2.2.2.2.2.2.2.2.2.2.2.2.2.2.2.2.2.1, vM.2.2.2.2.2.2.2.2.2.2.2.2.2.2.2.2.2.2.2.1, (0 : Int32))).bind fun x50 => some (x50.2.2.2.2.2.2.2.2.2.2.2.2.2.1.toInt32, x50) else if ((2 : Int32) + ((2 : Int32) * vM.2.2.2.2.2.2.2.2.1)) ≤ ((160 : Int32) - vM.2.2.2.2.2.2.2.2.2.2.2.1) then if ((2 : Int32) + ((2 : Int32) * vM.2.2.2.2.2.2.2.2.1)) ≤ ((160 : Int32) - vM.2.2.2.2.2.2.2.2.2.2.2.1) then if gI (0 : Int32) 1024 = true then (f_Mod_write N (vM.1, vM.2.1, vM.2.2.1, vM.2.2.2.1, vM.2.2.2.2.1, vM.2.2.2.2.2.1, vM.2.2.2.2.2.2.1, vM.2.2.2.2.2.2.2.1, vM.2.2.2.2.2.2.2.2.1, vM.2.2.2.2.2.2.2.2.2.1, vM.2.2.2.2.2.2.2.2.2.2.1, vM.2.2.2.2.2.2.2.2.2.2.2.1, vM.2.2.2.2.2.2.2.2.2.2.2.2.1, vM.2.2.2.2.2.2.2.2.2.2.2.2.2.1, vM.2.2.2.2.2.2.2.2.2.2.2.2.2.2.1, vM.2.2.2.2.2.2.2.2.2.2.2.2.2.2.2.1, vM.2.2.2.2.2.2.2.2.2.2.2.2.2.2.2.2.1, vM.2.2.2.2.2.2.2.2.2.2.2.2.2.2.2.2.2.1, vM.2.2.2.2.2.2.2.2.2.2.2.2.2.2.2.2.2.2.1, vM.2.2.2.2.2.2.2.2.2.2.2.2.2.2.2.2.2.2.2.1, (0 : Int32)) ((16 : Int32) + vM.2.2.2.2.2.2.2.2.2.2.2.1) (((4096 : Int64) * (vM.2.1 (0 : Int32).toNatClampNeg)) + vM.2.2.2.2.2.2.2.2.1.toInt64)).bind fun x33 => if x33.1 = true then f_Mod_commit_141 N N x33.2 (bI p1) vM.2.2.2.2.2.2.2.2.1 ((2 : Int32) + ((2 : Int32) * vM.2.2.2.2.2.2.2.2.1)) (((16 : Int32) + vM.2.2.2.2.2.2.2.2.2.2.2.1) + (1 : Int32)) (0 : Int32) else some ((-2 : Int32), x33.2) else none else some ((-1 : Int32), (vM.1, vM.2.1, vM.2.2.1, vM.2.2.2.1, vM.2.2.2.2.1, vM.2.2.2.2.2.1, vM.2.2.2.2.2.2.1, vM.2.2.2.2.2.2.2.1, vM.2.2.2.2.2.2.2.2.1, vM.2.2.2.2.2.2.2.2.2.1, vM.2.2.2.2.2.2.2.2.2.2.1, vM.2.2.2.2.2.2.2.2.2.2.2.1, vM.2.2.2.2.2.2.2.2.2.2.2.2.1, vM.2.2.2.2.2.2.2.2.2.2.2.2.2.1, vM.2.2.2.2.2.2.2.2.2.2.2.2.2.2.1, vM.2.2.2.2.2.2.2.2.2.2.2.2.2.2.2.1, vM.2.2.2.2.2.2.2.2.2.2.2.2.2.2.2.2.1, vM.2.2.2.2.2.2.2.2.2.2.2.2.2.2.2.2.2.1, vM.2.2.2.2.2.2.2.2.2.2.2.2.2.2.2.2.2.2.1, vM.2.2.2.2.2.2.2.2.2.2.2.2.2.2.2.2.2.2.2.1, (0 : Int32))) else if vM.2.2.2.2.2.2.2.2.2.2.2.1 ≤ 0 then if ((2 : Int32) + ((2 : Int32) * vM.2.2.2.2.2.2.2.2.1)) ≤ ((160 : Int32) - vM.2.2.2.2.2.2.2.2.2.2.2.1) then if gI (0 : Int32) 1024 = true then (f_Mod_write N (vM.1, vM.2.1, vM.2.2.1, vM.2.2.2.1, vM.2.2.2.2.1, vM.2.2.2.2.2.1, vM.2.2.2.2.2.2.1, vM.2.2.2.2.2.2.2.1, vM.2.2.2.2.2.2.2.2.1, vM.2.2.2.2.2.2.2.2.2.1, vM.2.2.2.2.2.2.2.2.2.2.1, vM.2.2.2.2.2.2.2.2.2.2.2.1, vM.2.2.2.2.2.2.2.2.2.2.2.2.1, vM.2.2.2.2.2.2.2.2.2.2.2.2.2.1, vM.2.2.2.2.2.2.2.2.2.2.2.2.2.2.1, vM.2.2.2.2.2.2.2.2.2.2.2.2.2.2.2.1, vM.2.2.2.2.2.2.2.2.2.2.2.2.2.2.2.2.1, vM.2.2.2.2.2.2.2.2.2.2.2.2.2.2.2.2.2.1, vM.2.2.2.2.2.2.2.2.2.2.2.2.2.2.2.2.2.2.1, vM.2.2.2.2.2.2.2.2.2.2.2.2.2.2.2.2.2.2.2.1, (0 : Int32)) ((16 : Int32) + vM.2.2.2.2.2.2.2.2.2.2.2.1) (((4096 : Int64) * (vM.2.1 (0 : Int32).toNatClampNeg)) + vM.2.2.2.2.2.2.2.2.1.toInt64)).bind fun x39 => if x39.1 = true then f_Mod_commit_141 N N x39.2 (bI p1) vM.2.2.2.2.2.2.2.2.1 ((2 : Int32) + ((2 : Int32) * vM.2.2.2.2.2.2.2.2.1)) (((16 : Int32) + vM.2.2.2.2.2.2.2.2.2.2.2.1) + (1 : Int32)) (0 : Int32) else some ((-2 : Int32), x39.2) else none else some ((-1 : Int32), (vM.1, vM.2.1, vM.2.2.1, vM.2.2.2.1, vM.2.2.2.2.1, vM.2.2.2.2.2.1, vM.2.2.2.2.2.2.1, vM.2.2.2.2.2.2.2.1, vM.2.2.2.2.2.2.2.2.1, vM.2.2.2.2.2.2.2.2.2.1, vM.2.2.2.2.2.2.2.2.2.2.1, vM.2.2.2.2.2.2.2.2.2.2.2.1, vM.2.2.2.2.2.2.2.2.2.2.2.2.1, vM.2.2.2.2.2.2.2.2.2.2.2.2.2.1, vM.2.2.2.2.2.2.2.2.2.2.2.2.2.2.1, vM.2.2.2.2.2.2.2.2.2.2.2.2.2.2.2.1, vM.2.2.2.2.2.2.2.2.2.2.2.2.2.2.2.2.1, vM.2.2.2.2.2.2.2.2.2.2.2.2.2.2.2.2.2.1, vM.2.2.2.2.2.2.2.2.2.2.2.2.2.2.2.2.2.2.1, vM.2.2.2.2.2.2.2.2.2.2.2.2.2.2.2.2.2.2.2.1, (0 : Int32))) else (f_Mod_empty N (vM.1, vM.2.1, vM.2.2.1, vM.2.2.2.1, vM.2.2.2.2.1, vM.2.2.2.2.2.1, vM.2.2.2.2.2.2.1, vM.2.2.2.2.2.2.2.1, vM.2.2.2.2.2.2.2.2.1, vM.2.2.2.2.2.2.2.2.2.1, vM.2.2.2.2.2.2.2.2.2.2.1, vM.2.2.2.2.2.2.2.2.2.2.2.1, vM.2.2.2.2.2.2.2.2.2.2.2.2.1, vM.2.2.2.2.2.2.2.2.2.2.2.2.2.1, vM.2.2.2.2.2.2.2.2.2.2.2.2.2.2.1, vM.2.2.2.2.2.2.2.2.2.2.2.2.2.2.2.1, vM.2.2.2.2.2.2.2.2.2.2.2.2.2.2.2.2.1, vM.2.2.2.2.2.2.2.2.2.2.2.2.2.2.2.2.2.1, vM.2.2.2.2.2.2.2.2.2.2.2.2.2.2.2.2.2.2.1, vM.2.2.2.2.2.2.2.2.2.2.2.2.2.2.2.2.2.2.2.1, (0 : Int32)) vM.2.2.2.2.2.2.2.2.2.2.2.1 vM.2.2.2.2.2.2.2.2.2.2.2.1).bind fun x42 => if x42.1 = true then if ((2 : Int32) + ((2 : Int32) * vM.2.2.2.2.2.2.2.2.1)) ≤ ((160 : Int32) - x42.2.2.2.2.2.2.2.2.2.2.2.2.1) then if gI (0 : Int32) 1024 = true then (f_Mod_write N x42.2 ((16 : Int32) + x42.2.2.2.2.2.2.2.2.2.2.2.2.1) (((4096 : Int64) * (x42.2.2.1 (0 : Int32).toNatClampNeg)) + vM.2.2.2.2.2.2.2.2.1.toInt64)).bind fun x47 => if x47.1 = true then f_Mod_commit_141 N N x47.2 (bI p1) vM.2.2.2.2.2.2.2.2.1 ((2 : Int32) + ((2 : Int32) * vM.2.2.2.2.2.2.2.2.1)) (((16 : Int32) + x42.2.2.2.2.2.2.2.2.2.2.2.2.1) + (1 : Int32)) (0 : Int32) else some ((-2 : Int32), x47.2) else none else some ((-1 : Int32), x42.2) else some ((-2 : Int32), x42.2)
abbrev cd_Mod_commit : Cond := .code yX5_commit cX5_commit 6 (some .int)
theorem yd_Mod_commit : yX5_commit.cls ≠ "java/lang/invoke/MethodHandle" ∧ yX5_commit.cls ≠ "java/lang/invoke/VarHandle" ∧ (parseMethodDescriptor yX5_commit.desc).map (fun d => d.parameters.length) = some 1 := by decide +kernel
abbrev rm_Mod_commit : Room := { frames := 4, cells := 0, slots := 0, locals := 95 }
abbrev q_Mod_commit (D : va_G) (ad : Nat → Nat) (ca : Nat → ClassId) (res : Int32 × MT) (A : Nat → Prop) : Array Value → State → Outcome → State → Prop := va_Qi (fun (r : Int32) (u : MT) => r = res.1 ∧ u = res.2) (gB D cls (tys ca) A (fun (u : MT) => (wM ad ca u))) A
set_option maxHeartbeats 4000000 in
set_option maxRecDepth 100000 in
theorem w_Mod_commit_234 {p : Program} {l : Launch} {e : Env} {s : State} {m : MethodId} {args : Array Value} {below : List Frame} {meth : Method} {c : Code} {D : va_G} {ad : Nat → Nat} {ca : Nat → ClassId} {A : Nat → Prop} {N : Nat} {res : Int32 × MT} (Z : gZ p s m args meth c cX5_commit 6 RX5 (cd_Mod_commit :: gA) A D cls (tys ca)) (hr : meth.sig.returnType = (some .int)) : ∀ (n : Nat) (vM : MT) (y1 : Int32) (y2 : Int32) (y3 : Int32) (y4 : Int32) (y5 : Int32), f_Mod_commit_234 N n vM y1 y2 y3 y4 y5 = some res → gW p l e rm_Mod_commit s m args below meth c 6 A D cls 0 0 (MQ below (q_Mod_commit D ad ca res A) args s 0 0 A) (wM ad ca vM) [(0, .ref (ad 20)), (1, .int y1), (2, .int y2), (3, .int y3), (4, .int y4), (5, .int y5)] 234 [] := by
  intro n
  induction n with
  | zero =>
    intro vM y1 y2 y3 y4 y5 hf
    exact absurd hf (by rw [f_Mod_commit_234]; exact fun h => by cases h)
  | succ n ih =>
    intro vM y1 y2 y3 y4 y5 hf
    rw [f_Mod_commit_234] at hf
    refine g_iload (pc := 234) Z 5 dX5_commit_234 rfl ?_
    refine g_sipush (pc := 236) (v := 1024) Z dX5_commit_236 (by decide) ?_
    refine g_icmp_ge (pc := 239) (tgt := 282) Z dX5_commit_239 (by decide) (fun c1 => ?_) (fun c1 => ?_)
    · replace hf := gIfP c1 hf
      refine g_aload_n (pc := 282) Z 0 dX5_commit_282 rfl ?_
      refine g_dup (pc := 283) Z dX5_commit_283 rfl ?_
      refine g_get (pc := 284) (v := .int vM.2.2.2.2.2.2.2.2.2.2.2.1) (T := TX5) (N := 21) Z 0 11 dX5_commit_284 (mm wm75) inx_X5 rfl (by decide) rfl rfl rfl ?_
      refine g_iload_n (pc := 287) Z 3 dX5_commit_287 rfl ?_
      refine g_iadd (pc := 288) Z dX5_commit_288 ?_
      refine g_put (pc := 289) (T := TX5) (N := 21) (ws' := (wM ad ca (vM.1, vM.2.1, vM.2.2.1, vM.2.2.2.1, vM.2.2.2.2.1, vM.2.2.2.2.2.1, vM.2.2.2.2.2.2.1, vM.2.2.2.2.2.2.2.1, vM.2.2.2.2.2.2.2.2.1, vM.2.2.2.2.2.2.2.2.2.1, vM.2.2.2.2.2.2.2.2.2.2.1, vM.2.2.2.2.2.2.2.2.2.2.2.1 + y3, vM.2.2.2.2.2.2.2.2.2.2.2.2.1, vM.2.2.2.2.2.2.2.2.2.2.2.2.2.1, vM.2.2.2.2.2.2.2.2.2.2.2.2.2.2.1, vM.2.2.2.2.2.2.2.2.2.2.2.2.2.2.2.1, vM.2.2.2.2.2.2.2.2.2.2.2.2.2.2.2.2.1, vM.2.2.2.2.2.2.2.2.2.2.2.2.2.2.2.2.2.1, vM.2.2.2.2.2.2.2.2.2.2.2.2.2.2.2.2.2.2.1, vM.2.2.2.2.2.2.2.2.2.2.2.2.2.2.2.2.2.2.2.1, vM.2.2.2.2.2.2.2.2.2.2.2.2.2.2.2.2.2.2.2.2))) Z 0 11 dX5_commit_289 (mm wm75) inx_X5 tyX5_ok nmX5 rfl (by decide) rfl rfl rfl rfl rfl rfl (Nat.le_of_ble_eq_true rfl) rfl ?_
      refine g_aload_n (pc := 292) Z 0 dX5_commit_292 rfl ?_
      refine g_dup (pc := 293) Z dX5_commit_293 rfl ?_
      refine g_get (pc := 294) (v := .int vM.2.2.2.2.2.2.2.2.2.2.2.2.1) (T := TX5) (N := 21) Z 0 12 dX5_commit_294 (mm wm76) inx_X5 rfl (by decide) rfl rfl rfl ?_
      refine g_iconst (pc := 297) (v := 1) Z dX5_commit_297 (by decide) ?_
      refine g_iadd (pc := 298) Z dX5_commit_298 ?_
      refine g_put (pc := 299) (T := TX5) (N := 21) (ws' := (wM ad ca (vM.1, vM.2.1, vM.2.2.1, vM.2.2.2.1, vM.2.2.2.2.1, vM.2.2.2.2.2.1, vM.2.2.2.2.2.2.1, vM.2.2.2.2.2.2.2.1, vM.2.2.2.2.2.2.2.2.1, vM.2.2.2.2.2.2.2.2.2.1, vM.2.2.2.2.2.2.2.2.2.2.1, vM.2.2.2.2.2.2.2.2.2.2.2.1 + y3, vM.2.2.2.2.2.2.2.2.2.2.2.2.1 + (1 : Int32), vM.2.2.2.2.2.2.2.2.2.2.2.2.2.1, vM.2.2.2.2.2.2.2.2.2.2.2.2.2.2.1, vM.2.2.2.2.2.2.2.2.2.2.2.2.2.2.2.1, vM.2.2.2.2.2.2.2.2.2.2.2.2.2.2.2.2.1, vM.2.2.2.2.2.2.2.2.2.2.2.2.2.2.2.2.2.1, vM.2.2.2.2.2.2.2.2.2.2.2.2.2.2.2.2.2.2.1, vM.2.2.2.2.2.2.2.2.2.2.2.2.2.2.2.2.2.2.2.1, vM.2.2.2.2.2.2.2.2.2.2.2.2.2.2.2.2.2.2.2.2))) Z 0 12 dX5_commit_299 (mm wm76) inx_X5 tyX5_ok nmX5 rfl (by decide) rfl rfl rfl rfl rfl rfl (Nat.le_of_ble_eq_true rfl) rfl ?_
      refine g_aload_n (pc := 302) Z 0 dX5_commit_302 rfl ?_
      refine g_dup (pc := 303) Z dX5_commit_303 rfl ?_
      refine g_get (pc := 304) (v := .long vM.2.2.2.2.2.2.2.2.2.2.2.2.2.1) (T := TX5) (N := 21) Z 0 13 dX5_commit_304 (mm wm52) inx_X5 rfl (by decide) rfl rfl rfl ?_
      refine g_lconst (pc := 307) (v := 1) Z dX5_commit_307 (by decide) ?_
      refine g_ladd (pc := 308) Z dX5_commit_308 ?_
      refine g_put (pc := 309) (T := TX5) (N := 21) (ws' := (wM ad ca (vM.1, vM.2.1, vM.2.2.1, vM.2.2.2.1, vM.2.2.2.2.1, vM.2.2.2.2.2.1, vM.2.2.2.2.2.2.1, vM.2.2.2.2.2.2.2.1, vM.2.2.2.2.2.2.2.2.1, vM.2.2.2.2.2.2.2.2.2.1, vM.2.2.2.2.2.2.2.2.2.2.1, vM.2.2.2.2.2.2.2.2.2.2.2.1 + y3, vM.2.2.2.2.2.2.2.2.2.2.2.2.1 + (1 : Int32), vM.2.2.2.2.2.2.2.2.2.2.2.2.2.1 + (1 : Int64), vM.2.2.2.2.2.2.2.2.2.2.2.2.2.2.1, vM.2.2.2.2.2.2.2.2.2.2.2.2.2.2.2.1, vM.2.2.2.2.2.2.2.2.2.2.2.2.2.2.2.2.1, vM.2.2.2.2.2.2.2.2.2.2.2.2.2.2.2.2.2.1, vM.2.2.2.2.2.2.2.2.2.2.2.2.2.2.2.2.2.2.1, vM.2.2.2.2.2.2.2.2.2.2.2.2.2.2.2.2.2.2.2.1, vM.2.2.2.2.2.2.2.2.2.2.2.2.2.2.2.2.2.2.2.2))) Z 0 13 dX5_commit_309 (mm wm52) inx_X5 tyX5_ok nmX5 rfl (by decide) rfl rfl rfl rfl rfl rfl (Nat.le_of_ble_eq_true rfl) rfl ?_
      refine g_aload_n (pc := 312) Z 0 dX5_commit_312 rfl ?_
      obtain ⟨x2, h3, hf⟩ := Option.bind_eq_some_iff.mp hf
      refine g_callv (pc := 313) (ws2 := fun u => (wM ad ca u)) (wr := ([] : va_W)) Z [0, 1, 2, 3, 4, 5, 6, 7] [] [0, 1, 2, 3, 4, 5, 6, 7] (g_runV Z (c_Mod_drop l D ad ca N (vM.1, vM.2.1, vM.2.2.1, vM.2.2.2.1, vM.2.2.2.2.1, vM.2.2.2.2.2.1, vM.2.2.2.2.2.2.1, vM.2.2.2.2.2.2.2.1, vM.2.2.2.2.2.2.2.2.1, vM.2.2.2.2.2.2.2.2.2.1, vM.2.2.2.2.2.2.2.2.2.2.1, vM.2.2.2.2.2.2.2.2.2.2.2.1 + y3, vM.2.2.2.2.2.2.2.2.2.2.2.2.1 + (1 : Int32), vM.2.2.2.2.2.2.2.2.2.2.2.2.2.1 + (1 : Int64), vM.2.2.2.2.2.2.2.2.2.2.2.2.2.2.1, vM.2.2.2.2.2.2.2.2.2.2.2.2.2.2.2.1, vM.2.2.2.2.2.2.2.2.2.2.2.2.2.2.2.2.1, vM.2.2.2.2.2.2.2.2.2.2.2.2.2.2.2.2.2.1, vM.2.2.2.2.2.2.2.2.2.2.2.2.2.2.2.2.2.2.1, vM.2.2.2.2.2.2.2.2.2.2.2.2.2.2.2.2.2.2.2.1, vM.2.2.2.2.2.2.2.2.2.2.2.2.2.2.2.2.2.2.2.2) x2 h3) (cwV 0 Z.2.2.2.2.1 (gg_V wm17 wm18 wm19 wm11 wm20) rfl rfl rfl (yv_of rfl yd_Mod_drop) ⟨Nat.le_of_ble_eq_true rfl, Nat.le_of_ble_eq_true rfl⟩) [0, 1, 2, 3, 4, 5, 6, 7] rfl (by decide) 0 rfl rfl rfl rfl rfl (Nat.le_of_ble_eq_true rfl) dX5_commit_313 ⟨Nat.le_of_ble_eq_true rfl, Nat.le_of_ble_eq_true rfl⟩) rfl rfl (by decide) (by decide) (by decide) (fun _ => rfl) (fun u hu => ?_)
      obtain rfl := hu.symm
      refine g_aload_n (pc := 316) Z 0 dX5_commit_316 rfl ?_
      refine g_get (pc := 317) (v := .long x2.2.2.2.2.2.2.2.2.2.2.2.2.2.1) (T := TX5) (N := 21) Z 0 13 dX5_commit_317 (mm wm52) inx_X5 rfl (by decide) rfl rfl rfl ?_
      refine g_l2i (pc := 320) Z dX5_commit_320 ?_
      obtain rfl := Option.some.inj hf
      exact g_iret Z hr dX5_commit_321 x2 ⟨rfl, rfl⟩ rfl
    · replace hf := gIfN c1 hf
      refine g_aload_n (pc := 242) Z 0 dX5_commit_242 rfl ?_
      refine g_get (pc := 243) (v := .ref (ad 25)) (T := TX5) (N := 21) Z 0 5 dX5_commit_243 (mm wm29) inx_X5 rfl (by decide) rfl rfl rfl ?_
      refine g_iload (pc := 246) Z 5 dX5_commit_246 rfl ?_
      refine g_aload_n (pc := 248) Z 0 dX5_commit_248 rfl ?_
      refine g_get (pc := 249) (v := .ref (ad 26)) (T := TX5) (N := 21) Z 0 6 dX5_commit_249 (mm wm6) inx_X5 rfl (by decide) rfl rfl rfl ?_
      refine g_iload (pc := 252) Z 5 dX5_commit_252 rfl ?_
      obtain ⟨b4, hf⟩ := gGuard hf
      refine g_zald (pc := 254) (f := vM.2.2.2.2.2.2.1) Z 6 2 dX5_commit_254 rfl rfl (gI_in b4) ?_
      refine g_if_eq (pc := 255) (tgt := 268) Z dX5_commit_255 (by decide) (fun c5 => ?_) (fun c5 => ?_)
      · replace hf := gIfP c5 hf
        refine g_aload_n (pc := 268) Z 0 dX5_commit_268 rfl ?_
        refine g_get (pc := 269) (v := .ref (ad 25)) (T := TX5) (N := 21) Z 0 5 dX5_commit_269 (mm wm29) inx_X5 rfl (by decide) rfl rfl rfl ?_
        refine g_iload (pc := 272) Z 5 dX5_commit_272 rfl ?_
        obtain ⟨b6, hf⟩ := gGuard hf
        refine g_lald (pc := 274) (f := vM.2.2.2.2.2.1) Z 5 0 dX5_commit_274 rfl rfl (gI_in b6) ?_
        obtain ⟨b7, hf⟩ := gGuard hf
        refine g_last (pc := 275) (f := vM.2.2.2.2.2.1) (ws' := (wM ad ca (vM.1, vM.2.1, vM.2.2.1, vM.2.2.2.1, vM.2.2.2.2.1, vp_updL vM.2.2.2.2.2.1 y5.toNatClampNeg (vM.2.2.2.2.2.1 y5.toNatClampNeg), vM.2.2.2.2.2.2.1, vM.2.2.2.2.2.2.2.1, vM.2.2.2.2.2.2.2.2.1, vM.2.2.2.2.2.2.2.2.2.1, vM.2.2.2.2.2.2.2.2.2.2.1, vM.2.2.2.2.2.2.2.2.2.2.2.1, vM.2.2.2.2.2.2.2.2.2.2.2.2.1, vM.2.2.2.2.2.2.2.2.2.2.2.2.2.1, vM.2.2.2.2.2.2.2.2.2.2.2.2.2.2.1, vM.2.2.2.2.2.2.2.2.2.2.2.2.2.2.2.1, vM.2.2.2.2.2.2.2.2.2.2.2.2.2.2.2.2.1, vM.2.2.2.2.2.2.2.2.2.2.2.2.2.2.2.2.2.1, vM.2.2.2.2.2.2.2.2.2.2.2.2.2.2.2.2.2.2.1, vM.2.2.2.2.2.2.2.2.2.2.2.2.2.2.2.2.2.2.2.1, vM.2.2.2.2.2.2.2.2.2.2.2.2.2.2.2.2.2.2.2.2))) Z 5 0 dX5_commit_275 rfl rfl (gI_in b7) rfl ?_
        refine g_iinc (pc := 276) (v := y5 + (1 : Int32)) (lv' := [(5, .int (y5 + (1 : Int32))), (0, .ref (ad 20)), (1, .int y1), (2, .int y2), (3, .int y3), (4, .int y4)]) Z 5 dX5_commit_276 rfl rfl (by decide) rfl ?_
        refine g_goto (pc := 279) (tgt := 234) Z dX5_commit_279 (by decide) ?_
        refine g_locals (lv2 := [(0, .ref (ad 20)), (1, .int y1), (2, .int y2), (3, .int y3), (4, .int y4), (5, .int (y5 + (1 : Int32)))]) [1, 2, 3, 4, 5, 0] rfl ?_
        exact ih _ _ _ _ _ _ hf
      · replace hf := gIfN c5 hf
        refine g_aload_n (pc := 258) Z 0 dX5_commit_258 rfl ?_
        refine g_get (pc := 259) (v := .ref (ad 27)) (T := TX5) (N := 21) Z 0 7 dX5_commit_259 (mm wm30) inx_X5 rfl (by decide) rfl rfl rfl ?_
        refine g_iload (pc := 262) Z 5 dX5_commit_262 rfl ?_
        obtain ⟨b8, hf⟩ := gGuard hf
        refine g_lald (pc := 264) (f := vM.2.2.2.2.2.2.2.1) Z 7 0 dX5_commit_264 rfl rfl (gI_in b8) ?_
        refine g_goto (pc := 265) (tgt := 275) Z dX5_commit_265 (by decide) ?_
        obtain ⟨b9, hf⟩ := gGuard hf
        refine g_last (pc := 275) (f := vM.2.2.2.2.2.1) (ws' := (wM ad ca (vM.1, vM.2.1, vM.2.2.1, vM.2.2.2.1, vM.2.2.2.2.1, vp_updL vM.2.2.2.2.2.1 y5.toNatClampNeg (vM.2.2.2.2.2.2.2.1 y5.toNatClampNeg), vM.2.2.2.2.2.2.1, vM.2.2.2.2.2.2.2.1, vM.2.2.2.2.2.2.2.2.1, vM.2.2.2.2.2.2.2.2.2.1, vM.2.2.2.2.2.2.2.2.2.2.1, vM.2.2.2.2.2.2.2.2.2.2.2.1, vM.2.2.2.2.2.2.2.2.2.2.2.2.1, vM.2.2.2.2.2.2.2.2.2.2.2.2.2.1, vM.2.2.2.2.2.2.2.2.2.2.2.2.2.2.1, vM.2.2.2.2.2.2.2.2.2.2.2.2.2.2.2.1, vM.2.2.2.2.2.2.2.2.2.2.2.2.2.2.2.2.1, vM.2.2.2.2.2.2.2.2.2.2.2.2.2.2.2.2.2.1, vM.2.2.2.2.2.2.2.2.2.2.2.2.2.2.2.2.2.2.1, vM.2.2.2.2.2.2.2.2.2.2.2.2.2.2.2.2.2.2.2.1, vM.2.2.2.2.2.2.2.2.2.2.2.2.2.2.2.2.2.2.2.2))) Z 5 0 dX5_commit_275 rfl rfl (gI_in b9) rfl ?_
        refine g_iinc (pc := 276) (v := y5 + (1 : Int32)) (lv' := [(5, .int (y5 + (1 : Int32))), (0, .ref (ad 20)), (1, .int y1), (2, .int y2), (3, .int y3), (4, .int y4)]) Z 5 dX5_commit_276 rfl rfl (by decide) rfl ?_
        refine g_goto (pc := 279) (tgt := 234) Z dX5_commit_279 (by decide) ?_
        refine g_locals (lv2 := [(0, .ref (ad 20)), (1, .int y1), (2, .int y2), (3, .int y3), (4, .int y4), (5, .int (y5 + (1 : Int32)))]) [1, 2, 3, 4, 5, 0] rfl ?_
        exact ih _ _ _ _ _ _ hf
set_option maxHeartbeats 4000000 in
set_option maxRecDepth 100000 in
theorem w_Mod_commit_141 {p : Program} {l : Launch} {e : Env} {s : State} {m : MethodId} {args : Array Value} {below : List Frame} {meth : Method} {c : Code} {D : va_G} {ad : Nat → Nat} {ca : Nat → ClassId} {A : Nat → Prop} {N : Nat} {res : Int32 × MT} (Z : gZ p s m args meth c cX5_commit 6 RX5 (cd_Mod_commit :: gA) A D cls (tys ca)) (hr : meth.sig.returnType = (some .int)) : ∀ (n : Nat) (vM : MT) (y1 : Int32) (y2 : Int32) (y3 : Int32) (y4 : Int32) (y5 : Int32), f_Mod_commit_141 N n vM y1 y2 y3 y4 y5 = some res → gW p l e rm_Mod_commit s m args below meth c 6 A D cls 0 0 (MQ below (q_Mod_commit D ad ca res A) args s 0 0 A) (wM ad ca vM) [(0, .ref (ad 20)), (1, .int y1), (2, .int y2), (3, .int y3), (4, .int y4), (5, .int y5)] 141 [] := by
  intro n
  induction n with
  | zero =>
    intro vM y1 y2 y3 y4 y5 hf
    exact absurd hf (by rw [f_Mod_commit_141]; exact fun h => by cases h)
  | succ n ih =>
    intro vM y1 y2 y3 y4 y5 hf
    rw [f_Mod_commit_141] at hf
    refine g_iload (pc := 141) Z 5 dX5_commit_141 rfl ?_
    refine g_sipush (pc := 143) (v := 1024) Z dX5_commit_143 (by decide) ?_
    refine g_icmp_ge (pc := 146) (tgt := 201) Z dX5_commit_146 (by decide) (fun c10 => ?_) (fun c10 => ?_)
    · replace hf := gIfP c10 hf
      refine g_aload_n (pc := 201) Z 0 dX5_commit_201 rfl ?_
      refine g_iload (pc := 202) Z 4 dX5_commit_202 rfl ?_
      refine g_ldc2 (pc := 204) (v := -2) Z dX5_commit_204 (mm wm82) ?_
      refine g_aload_n (pc := 207) Z 0 dX5_commit_207 rfl ?_
      refine g_get (pc := 208) (v := .long vM.2.2.2.2.2.2.2.2.2.2.2.2.2.1) (T := TX5) (N := 21) Z 0 13 dX5_commit_208 (mm wm52) inx_X5 rfl (by decide) rfl rfl rfl ?_
      refine g_lsub (pc := 211) Z dX5_commit_211 ?_
      obtain ⟨x11, h12, hf⟩ := Option.bind_eq_some_iff.mp hf
      refine g_calli (pc := 212) (ws2 := fun u => (wM ad ca u)) (wr := ([] : va_W)) Z [0, 1, 2, 3, 4, 5, 6, 7] [] [0, 1, 2, 3, 4, 5, 6, 7] (g_runV Z (c_Mod_write l D ad ca N vM y4 ((-2 : Int64) - vM.2.2.2.2.2.2.2.2.2.2.2.2.2.1) x11 h12) (cwV 2 Z.2.2.2.2.1 (gg_V wm69 wm70 wm71 wm11 wm72) rfl rfl rfl (yv_of rfl yd_Mod_write) ⟨Nat.le_of_ble_eq_true rfl, Nat.le_of_ble_eq_true rfl⟩) [0, 1, 2, 3, 4, 5, 6, 7] rfl (by decide) 0 rfl rfl rfl rfl rfl (Nat.le_of_ble_eq_true rfl) dX5_commit_212 ⟨Nat.le_of_ble_eq_true rfl, Nat.le_of_ble_eq_true rfl⟩) rfl rfl (by decide) (by decide) (by decide) (fun _ => rfl) (fun r u hu => ?_)
      obtain ⟨rfl, rfl⟩ := hu
      refine g_if_ne (pc := 215) (tgt := 221) Z dX5_commit_215 (by decide) (fun c13 => ?_) (fun c13 => ?_)
      · replace hf := gIfP (bI_nz c13) hf
        refine g_iload_n (pc := 221) Z 1 dX5_commit_221 rfl ?_
        refine g_if_eq (pc := 222) (tgt := 231) Z dX5_commit_222 (by decide) (fun c14 => ?_) (fun c14 => ?_)
        · replace hf := gIfP c14 hf
          refine g_iconst (pc := 231) (v := 0) Z dX5_commit_231 (by decide) ?_
          refine g_istore (pc := 232) (lv' := [(5, .int (0 : Int32)), (0, .ref (ad 20)), (1, .int y1), (2, .int y2), (3, .int y3), (4, .int y4)]) Z dX5_commit_232 (by decide) rfl ?_
          refine g_locals (lv2 := [(0, .ref (ad 20)), (1, .int y1), (2, .int y2), (3, .int y3), (4, .int y4), (5, .int (0 : Int32))]) [1, 2, 3, 4, 5, 0] rfl ?_
          exact w_Mod_commit_234 Z hr N _ _ _ _ _ _ hf
        · replace hf := gIfN c14 hf
          refine g_aload_n (pc := 225) Z 0 dX5_commit_225 rfl ?_
          obtain ⟨x15, h16, hf⟩ := Option.bind_eq_some_iff.mp hf
          refine g_calli (pc := 226) (ws2 := fun u => (wM ad ca u)) (wr := ([] : va_W)) Z [0, 1, 2, 3, 4, 5, 6, 7] [] [0, 1, 2, 3, 4, 5, 6, 7] (g_runV Z (c_Mod_syncAll l D ad ca N x11.2 x15 h16) (cwV 0 Z.2.2.2.2.1 (gg_V wm53 wm54 wm55 wm11 wm56) rfl rfl rfl (yv_of rfl yd_Mod_syncAll) ⟨Nat.le_of_ble_eq_true rfl, Nat.le_of_ble_eq_true rfl⟩) [0, 1, 2, 3, 4, 5, 6, 7] rfl (by decide) 0 rfl rfl rfl rfl rfl (Nat.le_of_ble_eq_true rfl) dX5_commit_226 ⟨Nat.le_of_ble_eq_true rfl, Nat.le_of_ble_eq_true rfl⟩) rfl rfl (by decide) (by decide) (by decide) (fun _ => rfl) (fun r u hu => ?_)
          obtain ⟨rfl, rfl⟩ := hu
          refine g_istore (pc := 229) (lv' := [(5, .int x15.1), (0, .ref (ad 20)), (1, .int y1), (2, .int y2), (3, .int y3), (4, .int y4)]) Z dX5_commit_229 (by decide) rfl ?_
          refine g_iconst (pc := 231) (v := 0) Z dX5_commit_231 (by decide) ?_
          refine g_istore (pc := 232) (lv' := [(5, .int (0 : Int32)), (0, .ref (ad 20)), (1, .int y1), (2, .int y2), (3, .int y3), (4, .int y4)]) Z dX5_commit_232 (by decide) rfl ?_
          refine g_locals (lv2 := [(0, .ref (ad 20)), (1, .int y1), (2, .int y2), (3, .int y3), (4, .int y4), (5, .int (0 : Int32))]) [1, 2, 3, 4, 5, 0] rfl ?_
          exact w_Mod_commit_234 Z hr N _ _ _ _ _ _ hf
      · replace hf := gIfN (bI_z c13) hf
        refine g_bipush (pc := 218) (v := -2) Z dX5_commit_218 (by decide) ?_
        obtain rfl := Option.some.inj hf
        exact g_iret Z hr dX5_commit_220 x11.2 ⟨rfl, rfl⟩ rfl
    · replace hf := gIfN c10 hf
      refine g_aload_n (pc := 149) Z 0 dX5_commit_149 rfl ?_
      refine g_get (pc := 150) (v := .ref (ad 26)) (T := TX5) (N := 21) Z 0 6 dX5_commit_150 (mm wm6) inx_X5 rfl (by decide) rfl rfl rfl ?_
      refine g_iload (pc := 153) Z 5 dX5_commit_153 rfl ?_
      obtain ⟨b17, hf⟩ := gGuard hf
      refine g_zald (pc := 155) (f := vM.2.2.2.2.2.2.1) Z 6 2 dX5_commit_155 rfl rfl (gI_in b17) ?_
      refine g_if_eq (pc := 156) (tgt := 195) Z dX5_commit_156 (by decide) (fun c18 => ?_) (fun c18 => ?_)
      · replace hf := gIfP c18 hf
        refine g_iinc (pc := 195) (v := y5 + (1 : Int32)) (lv' := [(5, .int (y5 + (1 : Int32))), (0, .ref (ad 20)), (1, .int y1), (2, .int y2), (3, .int y3), (4, .int y4)]) Z 5 dX5_commit_195 rfl rfl (by decide) rfl ?_
        refine g_goto (pc := 198) (tgt := 141) Z dX5_commit_198 (by decide) ?_
        refine g_locals (lv2 := [(0, .ref (ad 20)), (1, .int y1), (2, .int y2), (3, .int y3), (4, .int y4), (5, .int (y5 + (1 : Int32)))]) [1, 2, 3, 4, 5, 0] rfl ?_
        exact ih _ _ _ _ _ _ hf
      · replace hf := gIfN c18 hf
        refine g_aload_n (pc := 159) Z 0 dX5_commit_159 rfl ?_
        refine g_iload (pc := 160) Z 4 dX5_commit_160 rfl ?_
        refine g_iload (pc := 162) Z 5 dX5_commit_162 rfl ?_
        refine g_i2l (pc := 164) Z dX5_commit_164 ?_
        obtain ⟨x19, h20, hf⟩ := Option.bind_eq_some_iff.mp hf
        refine g_calli (pc := 165) (ws2 := fun u => (wM ad ca u)) (wr := ([] : va_W)) Z [0, 1, 2, 3, 4, 5, 6, 7] [] [0, 1, 2, 3, 4, 5, 6, 7] (g_runV Z (c_Mod_write l D ad ca N vM y4 y5.toInt64 x19 h20) (cwV 2 Z.2.2.2.2.1 (gg_V wm69 wm70 wm71 wm11 wm72) rfl rfl rfl (yv_of rfl yd_Mod_write) ⟨Nat.le_of_ble_eq_true rfl, Nat.le_of_ble_eq_true rfl⟩) [0, 1, 2, 3, 4, 5, 6, 7] rfl (by decide) 0 rfl rfl rfl rfl rfl (Nat.le_of_ble_eq_true rfl) dX5_commit_165 ⟨Nat.le_of_ble_eq_true rfl, Nat.le_of_ble_eq_true rfl⟩) rfl rfl (by decide) (by decide) (by decide) (fun _ => rfl) (fun r u hu => ?_)
        obtain ⟨rfl, rfl⟩ := hu
        refine g_if_eq (pc := 168) (tgt := 189) Z dX5_commit_168 (by decide) (fun c21 => ?_) (fun c21 => ?_)
        · replace hf := gIfN (bI_z c21) hf
          refine g_bipush (pc := 189) (v := -2) Z dX5_commit_189 (by decide) ?_
          obtain rfl := Option.some.inj hf
          exact g_iret Z hr dX5_commit_191 x19.2 ⟨rfl, rfl⟩ rfl
        · replace hf := gIfP (bI_nz c21) hf
          refine g_aload_n (pc := 171) Z 0 dX5_commit_171 rfl ?_
          refine g_iload (pc := 172) Z 4 dX5_commit_172 rfl ?_
          refine g_iconst (pc := 174) (v := 1) Z dX5_commit_174 (by decide) ?_
          refine g_iadd (pc := 175) Z dX5_commit_175 ?_
          refine g_aload_n (pc := 176) Z 0 dX5_commit_176 rfl ?_
          refine g_get (pc := 177) (v := .ref (ad 27)) (T := TX5) (N := 21) Z 0 7 dX5_commit_177 (mm wm30) inx_X5 rfl (by decide) rfl rfl rfl ?_
          refine g_iload (pc := 180) Z 5 dX5_commit_180 rfl ?_
          obtain ⟨b22, hf⟩ := gGuard hf
          refine g_lald (pc := 182) (f := x19.2.2.2.2.2.2.2.2.1) Z 7 0 dX5_commit_182 rfl rfl (gI_in b22) ?_
          obtain ⟨x23, h24, hf⟩ := Option.bind_eq_some_iff.mp hf
          refine g_calli (pc := 183) (ws2 := fun u => (wM ad ca u)) (wr := ([] : va_W)) Z [0, 1, 2, 3, 4, 5, 6, 7] [] [0, 1, 2, 3, 4, 5, 6, 7] (g_runV Z (c_Mod_write l D ad ca N x19.2 (y4 + (1 : Int32)) (x19.2.2.2.2.2.2.2.2.1 y5.toNatClampNeg) x23 h24) (cwV 2 Z.2.2.2.2.1 (gg_V wm69 wm70 wm71 wm11 wm72) rfl rfl rfl (yv_of rfl yd_Mod_write) ⟨Nat.le_of_ble_eq_true rfl, Nat.le_of_ble_eq_true rfl⟩) [0, 1, 2, 3, 4, 5, 6, 7] rfl (by decide) 0 rfl rfl rfl rfl rfl (Nat.le_of_ble_eq_true rfl) dX5_commit_183 ⟨Nat.le_of_ble_eq_true rfl, Nat.le_of_ble_eq_true rfl⟩) rfl rfl (by decide) (by decide) (by decide) (fun _ => rfl) (fun r u hu => ?_)
          obtain ⟨rfl, rfl⟩ := hu
          refine g_if_ne (pc := 186) (tgt := 192) Z dX5_commit_186 (by decide) (fun c25 => ?_) (fun c25 => ?_)
          · replace hf := gIfP (bI_nz c25) hf
            refine g_iinc (pc := 192) (v := y4 + (2 : Int32)) (lv' := [(4, .int (y4 + (2 : Int32))), (0, .ref (ad 20)), (1, .int y1), (2, .int y2), (3, .int y3), (5, .int y5)]) Z 4 dX5_commit_192 rfl rfl (by decide) rfl ?_
            refine g_iinc (pc := 195) (v := y5 + (1 : Int32)) (lv' := [(5, .int (y5 + (1 : Int32))), (4, .int (y4 + (2 : Int32))), (0, .ref (ad 20)), (1, .int y1), (2, .int y2), (3, .int y3)]) Z 5 dX5_commit_195 rfl rfl (by decide) rfl ?_
            refine g_goto (pc := 198) (tgt := 141) Z dX5_commit_198 (by decide) ?_
            refine g_locals (lv2 := [(0, .ref (ad 20)), (1, .int y1), (2, .int y2), (3, .int y3), (4, .int (y4 + (2 : Int32))), (5, .int (y5 + (1 : Int32)))]) [2, 3, 4, 5, 1, 0] rfl ?_
            exact ih _ _ _ _ _ _ hf
          · replace hf := gIfN (bI_z c25) hf
            refine g_bipush (pc := 189) (v := -2) Z dX5_commit_189 (by decide) ?_
            obtain rfl := Option.some.inj hf
            exact g_iret Z hr dX5_commit_191 x23.2 ⟨rfl, rfl⟩ rfl
set_option maxHeartbeats 4000000 in
set_option maxRecDepth 100000 in
theorem c_Mod_commit (l : Launch) (D : va_G) (ad : Nat → Nat) (ca : Nat → ClassId) (N : Nat) (vM : MT) (p1 : Bool) (res : Int32 × MT) (hf : f_Mod_commit N vM p1 = some res) (sz : Nat) : Met l yX5_commit (cd_Mod_commit :: gA) rm_Mod_commit (va_Pc [.ref (ad 20), .int (bI p1)] (gP D cls (tys ca) (wM ad ca vM) sz)) (q_Mod_commit D ad ca res (va_A (wM ad ca vM) sz)) 0 0 (va_A (wM ad ca vM) sz) := by
  refine g_met (cc := cX5_commit) (Qc := q_Mod_commit D ad ca res) (lv := [(0, .ref (ad 20)), (1, .int (bI p1))]) (own := RX5) (by decide) rfl rfl (Nat.le_of_ble_eq_true rfl) rfl sz ?_
  intro p e s m args below meth c A Z hr hnm
  unfold f_Mod_commit at hf
  refine g_aload_n (pc := 0) Z 0 dX5_commit_0 rfl ?_
  refine g_aload_n (pc := 1) Z 0 dX5_commit_1 rfl ?_
  obtain ⟨x26, h27, hf⟩ := Option.bind_eq_some_iff.mp hf
  refine g_calli (pc := 2) (ws2 := fun u => (wM ad ca vM)) (wr := ([] : va_W)) Z [0, 1, 2, 3, 4, 5, 6, 7] [] [0, 1, 2, 3, 4, 5, 6, 7] (g_runV Z (c_Mod_isShut l D ad ca vM x26 h27) (cwV 0 Z.2.2.2.2.1 (gg_V wm57 wm58 wm59 wm11 wm60) rfl rfl rfl (yv_of rfl yd_Mod_isShut) ⟨Nat.le_of_ble_eq_true rfl, Nat.le_of_ble_eq_true rfl⟩) [0, 1, 2, 3, 4, 5, 6, 7] rfl (by decide) 0 rfl rfl rfl rfl rfl (Nat.le_of_ble_eq_true rfl) dX5_commit_2 ⟨Nat.le_of_ble_eq_true rfl, Nat.le_of_ble_eq_true rfl⟩) rfl rfl (by decide) (by decide) (by decide) (fun _ => rfl) (fun r u hu => ?_)
  obtain rfl := hu.symm
  refine g_if_eq (pc := 5) (tgt := 12) Z dX5_commit_5 (by decide) (fun c28 => ?_) (fun c28 => ?_)
  · replace hf := gIfN (bI_z c28) hf
    refine g_iconst (pc := 12) (v := 0) Z dX5_commit_12 (by decide) ?_
    refine g_put (pc := 13) (T := TX5) (N := 21) (ws' := (wM ad ca (vM.1, vM.2.1, vM.2.2.1, vM.2.2.2.1, vM.2.2.2.2.1, vM.2.2.2.2.2.1, vM.2.2.2.2.2.2.1, vM.2.2.2.2.2.2.2.1, vM.2.2.2.2.2.2.2.2.1, vM.2.2.2.2.2.2.2.2.2.1, vM.2.2.2.2.2.2.2.2.2.2.1, vM.2.2.2.2.2.2.2.2.2.2.2.1, vM.2.2.2.2.2.2.2.2.2.2.2.2.1, vM.2.2.2.2.2.2.2.2.2.2.2.2.2.1, vM.2.2.2.2.2.2.2.2.2.2.2.2.2.2.1, vM.2.2.2.2.2.2.2.2.2.2.2.2.2.2.2.1, vM.2.2.2.2.2.2.2.2.2.2.2.2.2.2.2.2.1, vM.2.2.2.2.2.2.2.2.2.2.2.2.2.2.2.2.2.1, vM.2.2.2.2.2.2.2.2.2.2.2.2.2.2.2.2.2.2.1, vM.2.2.2.2.2.2.2.2.2.2.2.2.2.2.2.2.2.2.2.1, (0 : Int32)))) Z 0 20 dX5_commit_13 (mm wm0) inx_X5 tyX5_ok nmX5 rfl (by decide) rfl rfl rfl rfl rfl rfl (Nat.le_of_ble_eq_true rfl) rfl ?_
    refine g_aload_n (pc := 16) Z 0 dX5_commit_16 rfl ?_
    refine g_get (pc := 17) (v := .int (0 : Int32)) (T := TX5) (N := 21) Z 0 20 dX5_commit_17 (mm wm0) inx_X5 rfl (by decide) rfl rfl rfl ?_
    refine g_if_le (pc := 20) (tgt := 25) Z dX5_commit_20 (by decide) (fun _ => ?_) (fun c0 => absurd c0 (by decide))
    refine g_aload_n (pc := 25) Z 0 dX5_commit_25 rfl ?_
    refine g_get (pc := 26) (v := .int vM.2.2.2.2.2.2.2.2.1) (T := TX5) (N := 21) Z 0 8 dX5_commit_26 (mm wm5) inx_X5 rfl (by decide) rfl rfl rfl ?_
    refine g_istore_n (pc := 29) (lv' := [(2, .int vM.2.2.2.2.2.2.2.2.1), (0, .ref (ad 20)), (1, .int (bI p1))]) Z dX5_commit_29 (by decide) rfl ?_
    refine g_iload_n (pc := 30) Z 0 dX5_commit_30 rfl ?_
    refine g_if_ne (pc := 31) (tgt := 44) Z dX5_commit_31 (by decide) (fun c29 => ?_) (fun c29 => ?_)
    · replace hf := gIfN c29 hf
      refine g_iconst (pc := 44) (v := 2) Z dX5_commit_44 (by decide) ?_
      refine g_iconst (pc := 45) (v := 2) Z dX5_commit_45 (by decide) ?_
      refine g_iload_n (pc := 46) Z 0 dX5_commit_46 rfl ?_
      refine g_imul (pc := 47) Z dX5_commit_47 ?_
      refine g_iadd (pc := 48) Z dX5_commit_48 ?_
      refine g_istore_n (pc := 49) (lv' := [(3, .int ((2 : Int32) + ((2 : Int32) * vM.2.2.2.2.2.2.2.2.1))), (2, .int vM.2.2.2.2.2.2.2.2.1), (0, .ref (ad 20)), (1, .int (bI p1))]) Z dX5_commit_49 (by decide) rfl ?_
      refine g_sipush (pc := 50) (v := 160) Z dX5_commit_50 (by decide) ?_
      refine g_aload_n (pc := 53) Z 2 dX5_commit_53 rfl ?_
      refine g_get (pc := 54) (v := .int vM.2.2.2.2.2.2.2.2.2.2.2.1) (T := TX5) (N := 21) Z 0 11 dX5_commit_54 (mm wm75) inx_X5 rfl (by decide) rfl rfl rfl ?_
      refine g_isub (pc := 57) Z dX5_commit_57 ?_
      refine g_iload_n (pc := 58) Z 0 dX5_commit_58 rfl ?_
      refine g_icmp_ge (pc := 59) (tgt := 87) Z dX5_commit_59 (by decide) (fun c30 => ?_) (fun c30 => ?_)
      · replace hf := gIfP c30 hf
        refine g_sipush (pc := 87) (v := 160) Z dX5_commit_87 (by decide) ?_
        refine g_aload_n (pc := 90) Z 2 dX5_commit_90 rfl ?_
        refine g_get (pc := 91) (v := .int vM.2.2.2.2.2.2.2.2.2.2.2.1) (T := TX5) (N := 21) Z 0 11 dX5_commit_91 (mm wm75) inx_X5 rfl (by decide) rfl rfl rfl ?_
        refine g_isub (pc := 94) Z dX5_commit_94 ?_
        refine g_iload_n (pc := 95) Z 0 dX5_commit_95 rfl ?_
        refine g_icmp_ge (pc := 96) (tgt := 101) Z dX5_commit_96 (by decide) (fun c31 => ?_) (fun c31 => ?_)
        · replace hf := gIfP c31 hf
          refine g_bipush (pc := 101) (v := 16) Z dX5_commit_101 (by decide) ?_
          refine g_aload_n (pc := 103) Z 2 dX5_commit_103 rfl ?_
          refine g_get (pc := 104) (v := .int vM.2.2.2.2.2.2.2.2.2.2.2.1) (T := TX5) (N := 21) Z 0 11 dX5_commit_104 (mm wm75) inx_X5 rfl (by decide) rfl rfl rfl ?_
          refine g_iadd (pc := 107) Z dX5_commit_107 ?_
          refine g_istore (pc := 108) (lv' := [(4, .int ((16 : Int32) + vM.2.2.2.2.2.2.2.2.2.2.2.1)), (3, .int ((2 : Int32) + ((2 : Int32) * vM.2.2.2.2.2.2.2.2.1))), (2, .int vM.2.2.2.2.2.2.2.2.1), (0, .ref (ad 20)), (1, .int (bI p1))]) Z dX5_commit_108 (by decide) rfl ?_
          refine g_aload_n (pc := 110) Z 3 dX5_commit_110 rfl ?_
          refine g_iload (pc := 111) Z 0 dX5_commit_111 rfl ?_
          refine g_ldc2 (pc := 113) (v := 4096) Z dX5_commit_113 (mm wm77) ?_
          refine g_aload_n (pc := 116) Z 3 dX5_commit_116 rfl ?_
          refine g_get (pc := 117) (v := .ref (ad 22)) (T := TX5) (N := 21) Z 0 1 dX5_commit_117 (mm wm21) inx_X5 rfl (by decide) rfl rfl rfl ?_
          refine g_iconst (pc := 120) (v := 0) Z dX5_commit_120 (by decide) ?_
          obtain ⟨b32, hf⟩ := gGuard hf
          refine g_lald (pc := 121) (f := vM.2.1) Z 2 0 dX5_commit_121 rfl rfl (gI_in b32) ?_
          refine g_lmul (pc := 122) Z dX5_commit_122 ?_
          refine g_iload_n (pc := 123) Z 2 dX5_commit_123 rfl ?_
          refine g_i2l (pc := 124) Z dX5_commit_124 ?_
          refine g_ladd (pc := 125) Z dX5_commit_125 ?_
          obtain ⟨x33, h34, hf⟩ := Option.bind_eq_some_iff.mp hf
          refine g_calli (pc := 126) (ws2 := fun u => (wM ad ca u)) (wr := ([] : va_W)) Z [0, 1, 2, 3, 4, 5, 6, 7] [] [0, 1, 2, 3, 4, 5, 6, 7] (g_runV Z (c_Mod_write l D ad ca N (vM.1, vM.2.1, vM.2.2.1, vM.2.2.2.1, vM.2.2.2.2.1, vM.2.2.2.2.2.1, vM.2.2.2.2.2.2.1, vM.2.2.2.2.2.2.2.1, vM.2.2.2.2.2.2.2.2.1, vM.2.2.2.2.2.2.2.2.2.1, vM.2.2.2.2.2.2.2.2.2.2.1, vM.2.2.2.2.2.2.2.2.2.2.2.1, vM.2.2.2.2.2.2.2.2.2.2.2.2.1, vM.2.2.2.2.2.2.2.2.2.2.2.2.2.1, vM.2.2.2.2.2.2.2.2.2.2.2.2.2.2.1, vM.2.2.2.2.2.2.2.2.2.2.2.2.2.2.2.1, vM.2.2.2.2.2.2.2.2.2.2.2.2.2.2.2.2.1, vM.2.2.2.2.2.2.2.2.2.2.2.2.2.2.2.2.2.1, vM.2.2.2.2.2.2.2.2.2.2.2.2.2.2.2.2.2.2.1, vM.2.2.2.2.2.2.2.2.2.2.2.2.2.2.2.2.2.2.2.1, (0 : Int32)) ((16 : Int32) + vM.2.2.2.2.2.2.2.2.2.2.2.1) (((4096 : Int64) * (vM.2.1 (0 : Int32).toNatClampNeg)) + vM.2.2.2.2.2.2.2.2.1.toInt64) x33 h34) (cwV 2 Z.2.2.2.2.1 (gg_V wm69 wm70 wm71 wm11 wm72) rfl rfl rfl (yv_of rfl yd_Mod_write) ⟨Nat.le_of_ble_eq_true rfl, Nat.le_of_ble_eq_true rfl⟩) [0, 1, 2, 3, 4, 5, 6, 7] rfl (by decide) 0 rfl rfl rfl rfl rfl (Nat.le_of_ble_eq_true rfl) dX5_commit_126 ⟨Nat.le_of_ble_eq_true rfl, Nat.le_of_ble_eq_true rfl⟩) rfl rfl (by decide) (by decide) (by decide) (fun _ => rfl) (fun r u hu => ?_)
          obtain ⟨rfl, rfl⟩ := hu
          refine g_if_ne (pc := 129) (tgt := 135) Z dX5_commit_129 (by decide) (fun c35 => ?_) (fun c35 => ?_)
          · replace hf := gIfP (bI_nz c35) hf
            refine g_iinc (pc := 135) (v := ((16 : Int32) + vM.2.2.2.2.2.2.2.2.2.2.2.1) + (1 : Int32)) (lv' := [(4, .int (((16 : Int32) + vM.2.2.2.2.2.2.2.2.2.2.2.1) + (1 : Int32))), (3, .int ((2 : Int32) + ((2 : Int32) * vM.2.2.2.2.2.2.2.2.1))), (2, .int vM.2.2.2.2.2.2.2.2.1), (0, .ref (ad 20)), (1, .int (bI p1))]) Z 0 dX5_commit_135 rfl rfl (by decide) rfl ?_
            refine g_iconst (pc := 138) (v := 0) Z dX5_commit_138 (by decide) ?_
            refine g_istore (pc := 139) (lv' := [(5, .int (0 : Int32)), (4, .int (((16 : Int32) + vM.2.2.2.2.2.2.2.2.2.2.2.1) + (1 : Int32))), (3, .int ((2 : Int32) + ((2 : Int32) * vM.2.2.2.2.2.2.2.2.1))), (2, .int vM.2.2.2.2.2.2.2.2.1), (0, .ref (ad 20)), (1, .int (bI p1))]) Z dX5_commit_139 (by decide) rfl ?_
            refine g_locals (lv2 := [(0, .ref (ad 20)), (1, .int (bI p1)), (2, .int vM.2.2.2.2.2.2.2.2.1), (3, .int ((2 : Int32) + ((2 : Int32) * vM.2.2.2.2.2.2.2.2.1))), (4, .int (((16 : Int32) + vM.2.2.2.2.2.2.2.2.2.2.2.1) + (1 : Int32))), (5, .int (0 : Int32))]) [4, 5, 3, 2, 1, 0] rfl ?_
            exact w_Mod_commit_141 Z hr N _ _ _ _ _ _ hf
          · replace hf := gIfN (bI_z c35) hf
            refine g_bipush (pc := 132) (v := -2) Z dX5_commit_132 (by decide) ?_
            obtain rfl := Option.some.inj hf
            exact g_iret Z hr dX5_commit_134 x33.2 ⟨rfl, rfl⟩ rfl
        · replace hf := gIfN c31 hf
          refine g_iconst (pc := 99) (v := -1) Z dX5_commit_99 (by decide) ?_
          obtain rfl := Option.some.inj hf
          exact g_iret Z hr dX5_commit_100 (vM.1, vM.2.1, vM.2.2.1, vM.2.2.2.1, vM.2.2.2.2.1, vM.2.2.2.2.2.1, vM.2.2.2.2.2.2.1, vM.2.2.2.2.2.2.2.1, vM.2.2.2.2.2.2.2.2.1, vM.2.2.2.2.2.2.2.2.2.1, vM.2.2.2.2.2.2.2.2.2.2.1, vM.2.2.2.2.2.2.2.2.2.2.2.1, vM.2.2.2.2.2.2.2.2.2.2.2.2.1, vM.2.2.2.2.2.2.2.2.2.2.2.2.2.1, vM.2.2.2.2.2.2.2.2.2.2.2.2.2.2.1, vM.2.2.2.2.2.2.2.2.2.2.2.2.2.2.2.1, vM.2.2.2.2.2.2.2.2.2.2.2.2.2.2.2.2.1, vM.2.2.2.2.2.2.2.2.2.2.2.2.2.2.2.2.2.1, vM.2.2.2.2.2.2.2.2.2.2.2.2.2.2.2.2.2.2.1, vM.2.2.2.2.2.2.2.2.2.2.2.2.2.2.2.2.2.2.2.1, (0 : Int32)) ⟨rfl, rfl⟩ rfl
      · replace hf := gIfN c30 hf
        refine g_aload_n (pc := 62) Z 2 dX5_commit_62 rfl ?_
        refine g_get (pc := 63) (v := .int vM.2.2.2.2.2.2.2.2.2.2.2.1) (T := TX5) (N := 21) Z 0 11 dX5_commit_63 (mm wm75) inx_X5 rfl (by decide) rfl rfl rfl ?_
        refine g_if_le (pc := 66) (tgt := 87) Z dX5_commit_66 (by decide) (fun c36 => ?_) (fun c36 => ?_)
        · replace hf := gIfP c36 hf
          refine g_sipush (pc := 87) (v := 160) Z dX5_commit_87 (by decide) ?_
          refine g_aload_n (pc := 90) Z 2 dX5_commit_90 rfl ?_
          refine g_get (pc := 91) (v := .int vM.2.2.2.2.2.2.2.2.2.2.2.1) (T := TX5) (N := 21) Z 0 11 dX5_commit_91 (mm wm75) inx_X5 rfl (by decide) rfl rfl rfl ?_
          refine g_isub (pc := 94) Z dX5_commit_94 ?_
          refine g_iload_n (pc := 95) Z 0 dX5_commit_95 rfl ?_
          refine g_icmp_ge (pc := 96) (tgt := 101) Z dX5_commit_96 (by decide) (fun c37 => ?_) (fun c37 => ?_)
          · replace hf := gIfP c37 hf
            refine g_bipush (pc := 101) (v := 16) Z dX5_commit_101 (by decide) ?_
            refine g_aload_n (pc := 103) Z 2 dX5_commit_103 rfl ?_
            refine g_get (pc := 104) (v := .int vM.2.2.2.2.2.2.2.2.2.2.2.1) (T := TX5) (N := 21) Z 0 11 dX5_commit_104 (mm wm75) inx_X5 rfl (by decide) rfl rfl rfl ?_
            refine g_iadd (pc := 107) Z dX5_commit_107 ?_
            refine g_istore (pc := 108) (lv' := [(4, .int ((16 : Int32) + vM.2.2.2.2.2.2.2.2.2.2.2.1)), (3, .int ((2 : Int32) + ((2 : Int32) * vM.2.2.2.2.2.2.2.2.1))), (2, .int vM.2.2.2.2.2.2.2.2.1), (0, .ref (ad 20)), (1, .int (bI p1))]) Z dX5_commit_108 (by decide) rfl ?_
            refine g_aload_n (pc := 110) Z 3 dX5_commit_110 rfl ?_
            refine g_iload (pc := 111) Z 0 dX5_commit_111 rfl ?_
            refine g_ldc2 (pc := 113) (v := 4096) Z dX5_commit_113 (mm wm77) ?_
            refine g_aload_n (pc := 116) Z 3 dX5_commit_116 rfl ?_
            refine g_get (pc := 117) (v := .ref (ad 22)) (T := TX5) (N := 21) Z 0 1 dX5_commit_117 (mm wm21) inx_X5 rfl (by decide) rfl rfl rfl ?_
            refine g_iconst (pc := 120) (v := 0) Z dX5_commit_120 (by decide) ?_
            obtain ⟨b38, hf⟩ := gGuard hf
            refine g_lald (pc := 121) (f := vM.2.1) Z 2 0 dX5_commit_121 rfl rfl (gI_in b38) ?_
            refine g_lmul (pc := 122) Z dX5_commit_122 ?_
            refine g_iload_n (pc := 123) Z 2 dX5_commit_123 rfl ?_
            refine g_i2l (pc := 124) Z dX5_commit_124 ?_
            refine g_ladd (pc := 125) Z dX5_commit_125 ?_
            obtain ⟨x39, h40, hf⟩ := Option.bind_eq_some_iff.mp hf
            refine g_calli (pc := 126) (ws2 := fun u => (wM ad ca u)) (wr := ([] : va_W)) Z [0, 1, 2, 3, 4, 5, 6, 7] [] [0, 1, 2, 3, 4, 5, 6, 7] (g_runV Z (c_Mod_write l D ad ca N (vM.1, vM.2.1, vM.2.2.1, vM.2.2.2.1, vM.2.2.2.2.1, vM.2.2.2.2.2.1, vM.2.2.2.2.2.2.1, vM.2.2.2.2.2.2.2.1, vM.2.2.2.2.2.2.2.2.1, vM.2.2.2.2.2.2.2.2.2.1, vM.2.2.2.2.2.2.2.2.2.2.1, vM.2.2.2.2.2.2.2.2.2.2.2.1, vM.2.2.2.2.2.2.2.2.2.2.2.2.1, vM.2.2.2.2.2.2.2.2.2.2.2.2.2.1, vM.2.2.2.2.2.2.2.2.2.2.2.2.2.2.1, vM.2.2.2.2.2.2.2.2.2.2.2.2.2.2.2.1, vM.2.2.2.2.2.2.2.2.2.2.2.2.2.2.2.2.1, vM.2.2.2.2.2.2.2.2.2.2.2.2.2.2.2.2.2.1, vM.2.2.2.2.2.2.2.2.2.2.2.2.2.2.2.2.2.2.1, vM.2.2.2.2.2.2.2.2.2.2.2.2.2.2.2.2.2.2.2.1, (0 : Int32)) ((16 : Int32) + vM.2.2.2.2.2.2.2.2.2.2.2.1) (((4096 : Int64) * (vM.2.1 (0 : Int32).toNatClampNeg)) + vM.2.2.2.2.2.2.2.2.1.toInt64) x39 h40) (cwV 2 Z.2.2.2.2.1 (gg_V wm69 wm70 wm71 wm11 wm72) rfl rfl rfl (yv_of rfl yd_Mod_write) ⟨Nat.le_of_ble_eq_true rfl, Nat.le_of_ble_eq_true rfl⟩) [0, 1, 2, 3, 4, 5, 6, 7] rfl (by decide) 0 rfl rfl rfl rfl rfl (Nat.le_of_ble_eq_true rfl) dX5_commit_126 ⟨Nat.le_of_ble_eq_true rfl, Nat.le_of_ble_eq_true rfl⟩) rfl rfl (by decide) (by decide) (by decide) (fun _ => rfl) (fun r u hu => ?_)
            obtain ⟨rfl, rfl⟩ := hu
            refine g_if_ne (pc := 129) (tgt := 135) Z dX5_commit_129 (by decide) (fun c41 => ?_) (fun c41 => ?_)
            · replace hf := gIfP (bI_nz c41) hf
              refine g_iinc (pc := 135) (v := ((16 : Int32) + vM.2.2.2.2.2.2.2.2.2.2.2.1) + (1 : Int32)) (lv' := [(4, .int (((16 : Int32) + vM.2.2.2.2.2.2.2.2.2.2.2.1) + (1 : Int32))), (3, .int ((2 : Int32) + ((2 : Int32) * vM.2.2.2.2.2.2.2.2.1))), (2, .int vM.2.2.2.2.2.2.2.2.1), (0, .ref (ad 20)), (1, .int (bI p1))]) Z 0 dX5_commit_135 rfl rfl (by decide) rfl ?_
              refine g_iconst (pc := 138) (v := 0) Z dX5_commit_138 (by decide) ?_
              refine g_istore (pc := 139) (lv' := [(5, .int (0 : Int32)), (4, .int (((16 : Int32) + vM.2.2.2.2.2.2.2.2.2.2.2.1) + (1 : Int32))), (3, .int ((2 : Int32) + ((2 : Int32) * vM.2.2.2.2.2.2.2.2.1))), (2, .int vM.2.2.2.2.2.2.2.2.1), (0, .ref (ad 20)), (1, .int (bI p1))]) Z dX5_commit_139 (by decide) rfl ?_
              refine g_locals (lv2 := [(0, .ref (ad 20)), (1, .int (bI p1)), (2, .int vM.2.2.2.2.2.2.2.2.1), (3, .int ((2 : Int32) + ((2 : Int32) * vM.2.2.2.2.2.2.2.2.1))), (4, .int (((16 : Int32) + vM.2.2.2.2.2.2.2.2.2.2.2.1) + (1 : Int32))), (5, .int (0 : Int32))]) [4, 5, 3, 2, 1, 0] rfl ?_
              exact w_Mod_commit_141 Z hr N _ _ _ _ _ _ hf
            · replace hf := gIfN (bI_z c41) hf
              refine g_bipush (pc := 132) (v := -2) Z dX5_commit_132 (by decide) ?_
              obtain rfl := Option.some.inj hf
              exact g_iret Z hr dX5_commit_134 x39.2 ⟨rfl, rfl⟩ rfl
          · replace hf := gIfN c37 hf
            refine g_iconst (pc := 99) (v := -1) Z dX5_commit_99 (by decide) ?_
            obtain rfl := Option.some.inj hf
            exact g_iret Z hr dX5_commit_100 (vM.1, vM.2.1, vM.2.2.1, vM.2.2.2.1, vM.2.2.2.2.1, vM.2.2.2.2.2.1, vM.2.2.2.2.2.2.1, vM.2.2.2.2.2.2.2.1, vM.2.2.2.2.2.2.2.2.1, vM.2.2.2.2.2.2.2.2.2.1, vM.2.2.2.2.2.2.2.2.2.2.1, vM.2.2.2.2.2.2.2.2.2.2.2.1, vM.2.2.2.2.2.2.2.2.2.2.2.2.1, vM.2.2.2.2.2.2.2.2.2.2.2.2.2.1, vM.2.2.2.2.2.2.2.2.2.2.2.2.2.2.1, vM.2.2.2.2.2.2.2.2.2.2.2.2.2.2.2.1, vM.2.2.2.2.2.2.2.2.2.2.2.2.2.2.2.2.1, vM.2.2.2.2.2.2.2.2.2.2.2.2.2.2.2.2.2.1, vM.2.2.2.2.2.2.2.2.2.2.2.2.2.2.2.2.2.2.1, vM.2.2.2.2.2.2.2.2.2.2.2.2.2.2.2.2.2.2.2.1, (0 : Int32)) ⟨rfl, rfl⟩ rfl
        · replace hf := gIfN c36 hf
          refine g_aload_n (pc := 69) Z 2 dX5_commit_69 rfl ?_
          refine g_aload_n (pc := 70) Z 2 dX5_commit_70 rfl ?_
          refine g_get (pc := 71) (v := .int vM.2.2.2.2.2.2.2.2.2.2.2.1) (T := TX5) (N := 21) Z 0 11 dX5_commit_71 (mm wm75) inx_X5 rfl (by decide) rfl rfl rfl ?_
          refine g_aload_n (pc := 74) Z 2 dX5_commit_74 rfl ?_
          refine g_get (pc := 75) (v := .int vM.2.2.2.2.2.2.2.2.2.2.2.1) (T := TX5) (N := 21) Z 0 11 dX5_commit_75 (mm wm75) inx_X5 rfl (by decide) rfl rfl rfl ?_
          obtain ⟨x42, h43, hf⟩ := Option.bind_eq_some_iff.mp hf
          refine g_calli (pc := 78) (ws2 := fun u => (wM ad ca u)) (wr := ([] : va_W)) Z [0, 1, 2, 3, 4, 5, 6, 7] [] [0, 1, 2, 3, 4, 5, 6, 7] (g_runV Z (c_Mod_empty l D ad ca N (vM.1, vM.2.1, vM.2.2.1, vM.2.2.2.1, vM.2.2.2.2.1, vM.2.2.2.2.2.1, vM.2.2.2.2.2.2.1, vM.2.2.2.2.2.2.2.1, vM.2.2.2.2.2.2.2.2.1, vM.2.2.2.2.2.2.2.2.2.1, vM.2.2.2.2.2.2.2.2.2.2.1, vM.2.2.2.2.2.2.2.2.2.2.2.1, vM.2.2.2.2.2.2.2.2.2.2.2.2.1, vM.2.2.2.2.2.2.2.2.2.2.2.2.2.1, vM.2.2.2.2.2.2.2.2.2.2.2.2.2.2.1, vM.2.2.2.2.2.2.2.2.2.2.2.2.2.2.2.1, vM.2.2.2.2.2.2.2.2.2.2.2.2.2.2.2.2.1, vM.2.2.2.2.2.2.2.2.2.2.2.2.2.2.2.2.2.1, vM.2.2.2.2.2.2.2.2.2.2.2.2.2.2.2.2.2.2.1, vM.2.2.2.2.2.2.2.2.2.2.2.2.2.2.2.2.2.2.2.1, (0 : Int32)) vM.2.2.2.2.2.2.2.2.2.2.2.1 vM.2.2.2.2.2.2.2.2.2.2.2.1 x42 h43) (cwV 2 Z.2.2.2.2.1 (gg_V wm78 wm79 wm80 wm11 wm81) rfl rfl rfl (yv_of rfl yd_Mod_empty) ⟨Nat.le_of_ble_eq_true rfl, Nat.le_of_ble_eq_true rfl⟩) [0, 1, 2, 3, 4, 5, 6, 7] rfl (by decide) 0 rfl rfl rfl rfl rfl (Nat.le_of_ble_eq_true rfl) dX5_commit_78 ⟨Nat.le_of_ble_eq_true rfl, Nat.le_of_ble_eq_true rfl⟩) rfl rfl (by decide) (by decide) (by decide) (fun _ => rfl) (fun r u hu => ?_)
          obtain ⟨rfl, rfl⟩ := hu
          refine g_if_ne (pc := 81) (tgt := 87) Z dX5_commit_81 (by decide) (fun c44 => ?_) (fun c44 => ?_)
          · replace hf := gIfP (bI_nz c44) hf
            refine g_sipush (pc := 87) (v := 160) Z dX5_commit_87 (by decide) ?_
            refine g_aload_n (pc := 90) Z 2 dX5_commit_90 rfl ?_
            refine g_get (pc := 91) (v := .int x42.2.2.2.2.2.2.2.2.2.2.2.2.1) (T := TX5) (N := 21) Z 0 11 dX5_commit_91 (mm wm75) inx_X5 rfl (by decide) rfl rfl rfl ?_
            refine g_isub (pc := 94) Z dX5_commit_94 ?_
            refine g_iload_n (pc := 95) Z 0 dX5_commit_95 rfl ?_
            refine g_icmp_ge (pc := 96) (tgt := 101) Z dX5_commit_96 (by decide) (fun c45 => ?_) (fun c45 => ?_)
            · replace hf := gIfP c45 hf
              refine g_bipush (pc := 101) (v := 16) Z dX5_commit_101 (by decide) ?_
              refine g_aload_n (pc := 103) Z 2 dX5_commit_103 rfl ?_
              refine g_get (pc := 104) (v := .int x42.2.2.2.2.2.2.2.2.2.2.2.2.1) (T := TX5) (N := 21) Z 0 11 dX5_commit_104 (mm wm75) inx_X5 rfl (by decide) rfl rfl rfl ?_
              refine g_iadd (pc := 107) Z dX5_commit_107 ?_
              refine g_istore (pc := 108) (lv' := [(4, .int ((16 : Int32) + x42.2.2.2.2.2.2.2.2.2.2.2.2.1)), (3, .int ((2 : Int32) + ((2 : Int32) * vM.2.2.2.2.2.2.2.2.1))), (2, .int vM.2.2.2.2.2.2.2.2.1), (0, .ref (ad 20)), (1, .int (bI p1))]) Z dX5_commit_108 (by decide) rfl ?_
              refine g_aload_n (pc := 110) Z 3 dX5_commit_110 rfl ?_
              refine g_iload (pc := 111) Z 0 dX5_commit_111 rfl ?_
              refine g_ldc2 (pc := 113) (v := 4096) Z dX5_commit_113 (mm wm77) ?_
              refine g_aload_n (pc := 116) Z 3 dX5_commit_116 rfl ?_
              refine g_get (pc := 117) (v := .ref (ad 22)) (T := TX5) (N := 21) Z 0 1 dX5_commit_117 (mm wm21) inx_X5 rfl (by decide) rfl rfl rfl ?_
              refine g_iconst (pc := 120) (v := 0) Z dX5_commit_120 (by decide) ?_
              obtain ⟨b46, hf⟩ := gGuard hf
              refine g_lald (pc := 121) (f := x42.2.2.1) Z 2 0 dX5_commit_121 rfl rfl (gI_in b46) ?_
              refine g_lmul (pc := 122) Z dX5_commit_122 ?_
              refine g_iload_n (pc := 123) Z 2 dX5_commit_123 rfl ?_
              refine g_i2l (pc := 124) Z dX5_commit_124 ?_
              refine g_ladd (pc := 125) Z dX5_commit_125 ?_
              obtain ⟨x47, h48, hf⟩ := Option.bind_eq_some_iff.mp hf
              refine g_calli (pc := 126) (ws2 := fun u => (wM ad ca u)) (wr := ([] : va_W)) Z [0, 1, 2, 3, 4, 5, 6, 7] [] [0, 1, 2, 3, 4, 5, 6, 7] (g_runV Z (c_Mod_write l D ad ca N x42.2 ((16 : Int32) + x42.2.2.2.2.2.2.2.2.2.2.2.2.1) (((4096 : Int64) * (x42.2.2.1 (0 : Int32).toNatClampNeg)) + vM.2.2.2.2.2.2.2.2.1.toInt64) x47 h48) (cwV 2 Z.2.2.2.2.1 (gg_V wm69 wm70 wm71 wm11 wm72) rfl rfl rfl (yv_of rfl yd_Mod_write) ⟨Nat.le_of_ble_eq_true rfl, Nat.le_of_ble_eq_true rfl⟩) [0, 1, 2, 3, 4, 5, 6, 7] rfl (by decide) 0 rfl rfl rfl rfl rfl (Nat.le_of_ble_eq_true rfl) dX5_commit_126 ⟨Nat.le_of_ble_eq_true rfl, Nat.le_of_ble_eq_true rfl⟩) rfl rfl (by decide) (by decide) (by decide) (fun _ => rfl) (fun r u hu => ?_)
              obtain ⟨rfl, rfl⟩ := hu
              refine g_if_ne (pc := 129) (tgt := 135) Z dX5_commit_129 (by decide) (fun c49 => ?_) (fun c49 => ?_)
              · replace hf := gIfP (bI_nz c49) hf
                refine g_iinc (pc := 135) (v := ((16 : Int32) + x42.2.2.2.2.2.2.2.2.2.2.2.2.1) + (1 : Int32)) (lv' := [(4, .int (((16 : Int32) + x42.2.2.2.2.2.2.2.2.2.2.2.2.1) + (1 : Int32))), (3, .int ((2 : Int32) + ((2 : Int32) * vM.2.2.2.2.2.2.2.2.1))), (2, .int vM.2.2.2.2.2.2.2.2.1), (0, .ref (ad 20)), (1, .int (bI p1))]) Z 0 dX5_commit_135 rfl rfl (by decide) rfl ?_
                refine g_iconst (pc := 138) (v := 0) Z dX5_commit_138 (by decide) ?_
                refine g_istore (pc := 139) (lv' := [(5, .int (0 : Int32)), (4, .int (((16 : Int32) + x42.2.2.2.2.2.2.2.2.2.2.2.2.1) + (1 : Int32))), (3, .int ((2 : Int32) + ((2 : Int32) * vM.2.2.2.2.2.2.2.2.1))), (2, .int vM.2.2.2.2.2.2.2.2.1), (0, .ref (ad 20)), (1, .int (bI p1))]) Z dX5_commit_139 (by decide) rfl ?_
                refine g_locals (lv2 := [(0, .ref (ad 20)), (1, .int (bI p1)), (2, .int vM.2.2.2.2.2.2.2.2.1), (3, .int ((2 : Int32) + ((2 : Int32) * vM.2.2.2.2.2.2.2.2.1))), (4, .int (((16 : Int32) + x42.2.2.2.2.2.2.2.2.2.2.2.2.1) + (1 : Int32))), (5, .int (0 : Int32))]) [4, 5, 3, 2, 1, 0] rfl ?_
                exact w_Mod_commit_141 Z hr N _ _ _ _ _ _ hf
              · replace hf := gIfN (bI_z c49) hf
                refine g_bipush (pc := 132) (v := -2) Z dX5_commit_132 (by decide) ?_
                obtain rfl := Option.some.inj hf
                exact g_iret Z hr dX5_commit_134 x47.2 ⟨rfl, rfl⟩ rfl
            · replace hf := gIfN c45 hf
              refine g_iconst (pc := 99) (v := -1) Z dX5_commit_99 (by decide) ?_
              obtain rfl := Option.some.inj hf
              exact g_iret Z hr dX5_commit_100 x42.2 ⟨rfl, rfl⟩ rfl
          · replace hf := gIfN (bI_z c44) hf
            refine g_bipush (pc := 84) (v := -2) Z dX5_commit_84 (by decide) ?_
            obtain rfl := Option.some.inj hf
            exact g_iret Z hr dX5_commit_86 x42.2 ⟨rfl, rfl⟩ rfl
    · replace hf := gIfP c29 hf
      refine g_aload_n (pc := 34) Z 1 dX5_commit_34 rfl ?_
      obtain ⟨x50, h51, hf⟩ := Option.bind_eq_some_iff.mp hf
      refine g_callv (pc := 35) (ws2 := fun u => (wM ad ca u)) (wr := ([] : va_W)) Z [0, 1, 2, 3, 4, 5, 6, 7] [] [0, 1, 2, 3, 4, 5, 6, 7] (g_runV Z (c_Mod_drop l D ad ca N (vM.1, vM.2.1, vM.2.2.1, vM.2.2.2.1, vM.2.2.2.2.1, vM.2.2.2.2.2.1, vM.2.2.2.2.2.2.1, vM.2.2.2.2.2.2.2.1, vM.2.2.2.2.2.2.2.2.1, vM.2.2.2.2.2.2.2.2.2.1, vM.2.2.2.2.2.2.2.2.2.2.1, vM.2.2.2.2.2.2.2.2.2.2.2.1, vM.2.2.2.2.2.2.2.2.2.2.2.2.1, vM.2.2.2.2.2.2.2.2.2.2.2.2.2.1, vM.2.2.2.2.2.2.2.2.2.2.2.2.2.2.1, vM.2.2.2.2.2.2.2.2.2.2.2.2.2.2.2.1, vM.2.2.2.2.2.2.2.2.2.2.2.2.2.2.2.2.1, vM.2.2.2.2.2.2.2.2.2.2.2.2.2.2.2.2.2.1, vM.2.2.2.2.2.2.2.2.2.2.2.2.2.2.2.2.2.2.1, vM.2.2.2.2.2.2.2.2.2.2.2.2.2.2.2.2.2.2.2.1, (0 : Int32)) x50 h51) (cwV 0 Z.2.2.2.2.1 (gg_V wm17 wm18 wm19 wm11 wm20) rfl rfl rfl (yv_of rfl yd_Mod_drop) ⟨Nat.le_of_ble_eq_true rfl, Nat.le_of_ble_eq_true rfl⟩) [0, 1, 2, 3, 4, 5, 6, 7] rfl (by decide) 0 rfl rfl rfl rfl rfl (Nat.le_of_ble_eq_true rfl) dX5_commit_35 ⟨Nat.le_of_ble_eq_true rfl, Nat.le_of_ble_eq_true rfl⟩) rfl rfl (by decide) (by decide) (by decide) (fun _ => rfl) (fun u hu => ?_)
      obtain rfl := hu.symm
      refine g_aload_n (pc := 38) Z 1 dX5_commit_38 rfl ?_
      refine g_get (pc := 39) (v := .long x50.2.2.2.2.2.2.2.2.2.2.2.2.2.1) (T := TX5) (N := 21) Z 0 13 dX5_commit_39 (mm wm52) inx_X5 rfl (by decide) rfl rfl rfl ?_
      refine g_l2i (pc := 42) Z dX5_commit_42 ?_
      obtain rfl := Option.some.inj hf
      exact g_iret Z hr dX5_commit_43 x50 ⟨rfl, rfl⟩ rfl
  · replace hf := gIfP (bI_nz c28) hf
    refine g_iconst (pc := 8) (v := 1) Z dX5_commit_8 (by decide) ?_
    refine g_goto (pc := 9) (tgt := 13) Z dX5_commit_9 (by decide) ?_
    refine g_put (pc := 13) (T := TX5) (N := 21) (ws' := (wM ad ca (vM.1, vM.2.1, vM.2.2.1, vM.2.2.2.1, vM.2.2.2.2.1, vM.2.2.2.2.2.1, vM.2.2.2.2.2.2.1, vM.2.2.2.2.2.2.2.1, vM.2.2.2.2.2.2.2.2.1, vM.2.2.2.2.2.2.2.2.2.1, vM.2.2.2.2.2.2.2.2.2.2.1, vM.2.2.2.2.2.2.2.2.2.2.2.1, vM.2.2.2.2.2.2.2.2.2.2.2.2.1, vM.2.2.2.2.2.2.2.2.2.2.2.2.2.1, vM.2.2.2.2.2.2.2.2.2.2.2.2.2.2.1, vM.2.2.2.2.2.2.2.2.2.2.2.2.2.2.2.1, vM.2.2.2.2.2.2.2.2.2.2.2.2.2.2.2.2.1, vM.2.2.2.2.2.2.2.2.2.2.2.2.2.2.2.2.2.1, vM.2.2.2.2.2.2.2.2.2.2.2.2.2.2.2.2.2.2.1, vM.2.2.2.2.2.2.2.2.2.2.2.2.2.2.2.2.2.2.2.1, (1 : Int32)))) Z 0 20 dX5_commit_13 (mm wm0) inx_X5 tyX5_ok nmX5 rfl (by decide) rfl rfl rfl rfl rfl rfl (Nat.le_of_ble_eq_true rfl) rfl ?_
    refine g_aload_n (pc := 16) Z 0 dX5_commit_16 rfl ?_
    refine g_get (pc := 17) (v := .int (1 : Int32)) (T := TX5) (N := 21) Z 0 20 dX5_commit_17 (mm wm0) inx_X5 rfl (by decide) rfl rfl rfl ?_
    refine g_if_le (pc := 20) (tgt := 25) Z dX5_commit_20 (by decide) (fun c0 => absurd c0 (by decide)) (fun _ => ?_)
    refine g_iconst (pc := 23) (v := 0) Z dX5_commit_23 (by decide) ?_
    obtain rfl := Option.some.inj hf
    exact g_iret Z hr dX5_commit_24 (vM.1, vM.2.1, vM.2.2.1, vM.2.2.2.1, vM.2.2.2.2.1, vM.2.2.2.2.2.1, vM.2.2.2.2.2.2.1, vM.2.2.2.2.2.2.2.1, vM.2.2.2.2.2.2.2.2.1, vM.2.2.2.2.2.2.2.2.2.1, vM.2.2.2.2.2.2.2.2.2.2.1, vM.2.2.2.2.2.2.2.2.2.2.2.1, vM.2.2.2.2.2.2.2.2.2.2.2.2.1, vM.2.2.2.2.2.2.2.2.2.2.2.2.2.1, vM.2.2.2.2.2.2.2.2.2.2.2.2.2.2.1, vM.2.2.2.2.2.2.2.2.2.2.2.2.2.2.2.1, vM.2.2.2.2.2.2.2.2.2.2.2.2.2.2.2.2.1, vM.2.2.2.2.2.2.2.2.2.2.2.2.2.2.2.2.2.1, vM.2.2.2.2.2.2.2.2.2.2.2.2.2.2.2.2.2.2.1, vM.2.2.2.2.2.2.2.2.2.2.2.2.2.2.2.2.2.2.2.1, (1 : Int32)) ⟨rfl, rfl⟩ rfl
