/-! the world of the reference: addresses 20 to 27; disk, now, waitWord, waitValue, waits, view, isChanged, change, changes, on, open, used, commits, last, until, keeps, writes, syncs, cuts, lost, thrown -/
abbrev MT : Type := (Nat → Int64) × (Nat → Int64) × (Nat → Int32) × (Nat → Int64) × Int32 × (Nat → Int64) × (Nat → Int32) × (Nat → Int64) × Int32 × Bool × Bool × Int32 × Int32 × Int64 × Int32 × Int32 × Int32 × Int32 × Int32 × Int32 × Int32
def wM (ad : Nat → Nat) (ca : Nat → ClassId) (v : MT) : va_W := [(ad 20, .inr (5, [.ref (ad 21), .ref (ad 22), .ref (ad 23), .ref (ad 24), .int v.2.2.2.2.1, .ref (ad 25), .ref (ad 26), .ref (ad 27), .int v.2.2.2.2.2.2.2.2.1, .int (bI v.2.2.2.2.2.2.2.2.2.1), .int (bI v.2.2.2.2.2.2.2.2.2.2.1), .int v.2.2.2.2.2.2.2.2.2.2.2.1, .int v.2.2.2.2.2.2.2.2.2.2.2.2.1, .long v.2.2.2.2.2.2.2.2.2.2.2.2.2.1, .int v.2.2.2.2.2.2.2.2.2.2.2.2.2.2.1, .int v.2.2.2.2.2.2.2.2.2.2.2.2.2.2.2.1, .int v.2.2.2.2.2.2.2.2.2.2.2.2.2.2.2.2.1, .int v.2.2.2.2.2.2.2.2.2.2.2.2.2.2.2.2.2.1, .int v.2.2.2.2.2.2.2.2.2.2.2.2.2.2.2.2.2.2.1, .int v.2.2.2.2.2.2.2.2.2.2.2.2.2.2.2.2.2.2.2.1, .int v.2.2.2.2.2.2.2.2.2.2.2.2.2.2.2.2.2.2.2.2])), (ad 21, .inl (ca 0, 1024, .inr (.inl v.1))), (ad 22, .inl (ca 0, 1024, .inr (.inl v.2.1))), (ad 23, .inl (ca 1, 6000, .inl v.2.2.1)), (ad 24, .inl (ca 0, 6000, .inr (.inl v.2.2.2.1))), (ad 25, .inl (ca 0, 1024, .inr (.inl v.2.2.2.2.2.1))), (ad 26, .inl (ca 2, 1024, .inl v.2.2.2.2.2.2.1)), (ad 27, .inl (ca 0, 1024, .inr (.inl v.2.2.2.2.2.2.2.1)))]

theorem wm0 : Cond.fieldLink RX5 37 "RedoHeapModel" "thrown" "I" ∈ gA := wt3 188 rfl rfl
/-! RedoHeapModel.thrown()I -/
def f_Mod_thrown (vM : MT) : Option (Int32) :=
  some vM.2.2.2.2.2.2.2.2.2.2.2.2.2.2.2.2.2.2.2.2
abbrev cd_Mod_thrown : Cond := .code yX5_thrown cX5_thrown 1 (some .int)
theorem yd_Mod_thrown : yX5_thrown.cls ≠ "java/lang/invoke/MethodHandle" ∧ yX5_thrown.cls ≠ "java/lang/invoke/VarHandle" ∧ (parseMethodDescriptor yX5_thrown.desc).map (fun d => d.parameters.length) = some 0 := by decide +kernel
abbrev rm_Mod_thrown : Room := { frames := 0, cells := 0, slots := 0, locals := 0 }
abbrev q_Mod_thrown (D : va_G) (ad : Nat → Nat) (ca : Nat → ClassId) (vM : MT) (res : Int32) (A : Nat → Prop) : Array Value → State → Outcome → State → Prop := va_Qi (fun (r : Int32) (_ : Unit) => r = res) (gB D cls (tys ca) A (fun (u : Unit) => (wM ad ca vM))) A
set_option maxHeartbeats 4000000 in
set_option maxRecDepth 100000 in
theorem c_Mod_thrown (l : Launch) (D : va_G) (ad : Nat → Nat) (ca : Nat → ClassId) (vM : MT) (res : Int32) (hf : f_Mod_thrown vM = some res) (sz : Nat) : Met l yX5_thrown (cd_Mod_thrown :: gA) rm_Mod_thrown (va_Pc [.ref (ad 20)] (gP D cls (tys ca) (wM ad ca vM) sz)) (q_Mod_thrown D ad ca vM res (va_A (wM ad ca vM) sz)) 0 0 (va_A (wM ad ca vM) sz) := by
  refine g_met (cc := cX5_thrown) (Qc := q_Mod_thrown D ad ca vM res) (lv := [(0, .ref (ad 20))]) (own := RX5) (by decide) rfl rfl (Nat.le_of_ble_eq_true rfl) rfl sz ?_
  intro p e s m args below meth c A Z hr hnm
  unfold f_Mod_thrown at hf
  refine g_aload_n (pc := 0) Z 0 dX5_thrown_0 rfl ?_
  refine g_get (pc := 1) (v := .int vM.2.2.2.2.2.2.2.2.2.2.2.2.2.2.2.2.2.2.2.2) (T := TX5) (N := 21) Z 0 20 dX5_thrown_1 (mm wm0) inx_X5 rfl (by decide) rfl rfl rfl ?_
  obtain rfl := Option.some.inj hf
  exact g_iret Z hr dX5_thrown_4 () rfl rfl
theorem wm1 : Cond.fieldLink RX5 7 "RedoHeapModel" "disk" "[J" ∈ gA := wt3 168 rfl rfl
theorem wm2 : Cond.fieldLink RX5 16 "RedoHeapModel" "waitWord" "[I" ∈ gA := wt3 170 rfl rfl
theorem wm3 : Cond.fieldLink RX5 20 "RedoHeapModel" "waitValue" "[J" ∈ gA := wt3 171 rfl rfl
/-! RedoHeapModel.settle(I)V -/
def f_Mod_settle_2 (N : Nat) : Nat → MT → Int32 → Int32 → Option (MT)
  | 0, _, _, _ => none
  | n + 1, vM, y1, y2 => if y1 ≤ y2 then some vM else if gI y2 6000 = true then if gI y2 6000 = true then if gI (vM.2.2.1 y2.toNatClampNeg) 1024 = true then f_Mod_settle_2 N n (vp_updL vM.1 (vM.2.2.1 y2.toNatClampNeg).toNatClampNeg (vM.2.2.2.1 y2.toNatClampNeg), vM.2.1, vM.2.2.1, vM.2.2.2.1, vM.2.2.2.2.1, vM.2.2.2.2.2.1, vM.2.2.2.2.2.2.1, vM.2.2.2.2.2.2.2.1, vM.2.2.2.2.2.2.2.2.1, vM.2.2.2.2.2.2.2.2.2.1, vM.2.2.2.2.2.2.2.2.2.2.1, vM.2.2.2.2.2.2.2.2.2.2.2.1, vM.2.2.2.2.2.2.2.2.2.2.2.2.1, vM.2.2.2.2.2.2.2.2.2.2.2.2.2.1, vM.2.2.2.2.2.2.2.2.2.2.2.2.2.2.1, vM.2.2.2.2.2.2.2.2.2.2.2.2.2.2.2.1, vM.2.2.2.2.2.2.2.2.2.2.2.2.2.2.2.2.1, vM.2.2.2.2.2.2.2.2.2.2.2.2.2.2.2.2.2.1, vM.2.2.2.2.2.2.2.2.2.2.2.2.2.2.2.2.2.2.1, vM.2.2.2.2.2.2.2.2.2.2.2.2.2.2.2.2.2.2.2.1, vM.2.2.2.2.2.2.2.2.2.2.2.2.2.2.2.2.2.2.2.2) y1 (y2 + (1 : Int32)) else none else none else none
def f_Mod_settle (N : Nat) (vM : MT) (p1 : Int32) : Option (MT) :=
  f_Mod_settle_2 N N vM p1 (0 : Int32)
abbrev cd_Mod_settle : Cond := .code yX5_settle cX5_settle 3 none
theorem yd_Mod_settle : yX5_settle.cls ≠ "java/lang/invoke/MethodHandle" ∧ yX5_settle.cls ≠ "java/lang/invoke/VarHandle" ∧ (parseMethodDescriptor yX5_settle.desc).map (fun d => d.parameters.length) = some 1 := by decide +kernel
abbrev rm_Mod_settle : Room := { frames := 0, cells := 0, slots := 0, locals := 0 }
abbrev q_Mod_settle (D : va_G) (ad : Nat → Nat) (ca : Nat → ClassId) (res : MT) (A : Nat → Prop) : Array Value → State → Outcome → State → Prop := va_Qv (fun (u : MT) => u = res) (gB D cls (tys ca) A (fun (u : MT) => (wM ad ca u))) A
set_option maxHeartbeats 4000000 in
set_option maxRecDepth 100000 in
theorem w_Mod_settle_2 {p : Program} {l : Launch} {e : Env} {s : State} {m : MethodId} {args : Array Value} {below : List Frame} {meth : Method} {c : Code} {D : va_G} {ad : Nat → Nat} {ca : Nat → ClassId} {A : Nat → Prop} {N : Nat} {res : MT} (Z : gZ p s m args meth c cX5_settle 3 RX5 (cd_Mod_settle :: gA) A D cls (tys ca)) (hr : meth.sig.returnType = none) : ∀ (n : Nat) (vM : MT) (y1 : Int32) (y2 : Int32), f_Mod_settle_2 N n vM y1 y2 = some res → gW p l e rm_Mod_settle s m args below meth c 3 A D cls 0 0 (MQ below (q_Mod_settle D ad ca res A) args s 0 0 A) (wM ad ca vM) [(0, .ref (ad 20)), (1, .int y1), (2, .int y2)] 2 [] := by
  intro n
  induction n with
  | zero =>
    intro vM y1 y2 hf
    exact absurd hf (by rw [f_Mod_settle_2]; exact fun h => by cases h)
  | succ n ih =>
    intro vM y1 y2 hf
    rw [f_Mod_settle_2] at hf
    refine g_iload_n (pc := 2) Z 2 dX5_settle_2 rfl ?_
    refine g_iload_n (pc := 3) Z 1 dX5_settle_3 rfl ?_
    refine g_icmp_ge (pc := 4) (tgt := 30) Z dX5_settle_4 (by decide) (fun c1 => ?_) (fun c1 => ?_)
    · replace hf := gIfP c1 hf
      obtain rfl := Option.some.inj hf
      exact g_vret Z hr dX5_settle_30 vM rfl rfl
    · replace hf := gIfN c1 hf
      refine g_aload_n (pc := 7) Z 0 dX5_settle_7 rfl ?_
      refine g_get (pc := 8) (v := .ref (ad 21)) (T := TX5) (N := 21) Z 0 0 dX5_settle_8 (mm wm1) inx_X5 rfl (by decide) rfl rfl rfl ?_
      refine g_aload_n (pc := 11) Z 0 dX5_settle_11 rfl ?_
      refine g_get (pc := 12) (v := .ref (ad 23)) (T := TX5) (N := 21) Z 0 2 dX5_settle_12 (mm wm2) inx_X5 rfl (by decide) rfl rfl rfl ?_
      refine g_iload_n (pc := 15) Z 2 dX5_settle_15 rfl ?_
      obtain ⟨b2, hf⟩ := gGuard hf
      refine g_iald (pc := 16) (f := vM.2.2.1) Z 3 1 dX5_settle_16 rfl rfl (gI_in b2) ?_
      refine g_aload_n (pc := 17) Z 0 dX5_settle_17 rfl ?_
      refine g_get (pc := 18) (v := .ref (ad 24)) (T := TX5) (N := 21) Z 0 3 dX5_settle_18 (mm wm3) inx_X5 rfl (by decide) rfl rfl rfl ?_
      refine g_iload_n (pc := 21) Z 2 dX5_settle_21 rfl ?_
      obtain ⟨b3, hf⟩ := gGuard hf
      refine g_lald (pc := 22) (f := vM.2.2.2.1) Z 4 0 dX5_settle_22 rfl rfl (gI_in b3) ?_
      obtain ⟨b4, hf⟩ := gGuard hf
      refine g_last (pc := 23) (f := vM.1) (ws' := (wM ad ca (vp_updL vM.1 (vM.2.2.1 y2.toNatClampNeg).toNatClampNeg (vM.2.2.2.1 y2.toNatClampNeg), vM.2.1, vM.2.2.1, vM.2.2.2.1, vM.2.2.2.2.1, vM.2.2.2.2.2.1, vM.2.2.2.2.2.2.1, vM.2.2.2.2.2.2.2.1, vM.2.2.2.2.2.2.2.2.1, vM.2.2.2.2.2.2.2.2.2.1, vM.2.2.2.2.2.2.2.2.2.2.1, vM.2.2.2.2.2.2.2.2.2.2.2.1, vM.2.2.2.2.2.2.2.2.2.2.2.2.1, vM.2.2.2.2.2.2.2.2.2.2.2.2.2.1, vM.2.2.2.2.2.2.2.2.2.2.2.2.2.2.1, vM.2.2.2.2.2.2.2.2.2.2.2.2.2.2.2.1, vM.2.2.2.2.2.2.2.2.2.2.2.2.2.2.2.2.1, vM.2.2.2.2.2.2.2.2.2.2.2.2.2.2.2.2.2.1, vM.2.2.2.2.2.2.2.2.2.2.2.2.2.2.2.2.2.2.1, vM.2.2.2.2.2.2.2.2.2.2.2.2.2.2.2.2.2.2.2.1, vM.2.2.2.2.2.2.2.2.2.2.2.2.2.2.2.2.2.2.2.2))) Z 1 0 dX5_settle_23 rfl rfl (gI_in b4) rfl ?_
      refine g_iinc (pc := 24) (v := y2 + (1 : Int32)) (lv' := [(2, .int (y2 + (1 : Int32))), (0, .ref (ad 20)), (1, .int y1)]) Z 2 dX5_settle_24 rfl rfl (by decide) rfl ?_
      refine g_goto (pc := 27) (tgt := 2) Z dX5_settle_27 (by decide) ?_
      refine g_locals (lv2 := [(0, .ref (ad 20)), (1, .int y1), (2, .int (y2 + (1 : Int32)))]) [1, 2, 0] rfl ?_
      exact ih _ _ _ hf
set_option maxHeartbeats 4000000 in
set_option maxRecDepth 100000 in
theorem c_Mod_settle (l : Launch) (D : va_G) (ad : Nat → Nat) (ca : Nat → ClassId) (N : Nat) (vM : MT) (p1 : Int32) (res : MT) (hf : f_Mod_settle N vM p1 = some res) (sz : Nat) : Met l yX5_settle (cd_Mod_settle :: gA) rm_Mod_settle (va_Pc [.ref (ad 20), .int p1] (gP D cls (tys ca) (wM ad ca vM) sz)) (q_Mod_settle D ad ca res (va_A (wM ad ca vM) sz)) 0 0 (va_A (wM ad ca vM) sz) := by
  refine g_met (cc := cX5_settle) (Qc := q_Mod_settle D ad ca res) (lv := [(0, .ref (ad 20)), (1, .int p1)]) (own := RX5) (by decide) rfl rfl (Nat.le_of_ble_eq_true rfl) rfl sz ?_
  intro p e s m args below meth c A Z hr hnm
  unfold f_Mod_settle at hf
  refine g_iconst (pc := 0) (v := 0) Z dX5_settle_0 (by decide) ?_
  refine g_istore_n (pc := 1) (lv' := [(2, .int (0 : Int32)), (0, .ref (ad 20)), (1, .int p1)]) Z dX5_settle_1 (by decide) rfl ?_
  refine g_locals (lv2 := [(0, .ref (ad 20)), (1, .int p1), (2, .int (0 : Int32))]) [1, 2, 0] rfl ?_
  exact w_Mod_settle_2 Z hr N _ _ _ hf
theorem wm4 : Cond.fieldLink RX5 72 "RedoHeapModel" "open" "Z" ∈ gA := wt3 178 rfl rfl
theorem wm5 : Cond.fieldLink RX5 75 "RedoHeapModel" "changes" "I" ∈ gA := wt3 176 rfl rfl
theorem wm6 : Cond.fieldLink RX5 26 "RedoHeapModel" "isChanged" "[Z" ∈ gA := wt3 174 rfl rfl
/-! RedoHeapModel.drop()V -/
def f_Mod_drop_12 (N : Nat) : Nat → MT → Int32 → Option (MT)
  | 0, _, _ => none
  | n + 1, vM, y1 => if (1024 : Int32) ≤ y1 then some vM else if gI y1 1024 = true then f_Mod_drop_12 N n (vM.1, vM.2.1, vM.2.2.1, vM.2.2.2.1, vM.2.2.2.2.1, vM.2.2.2.2.2.1, upd vM.2.2.2.2.2.2.1 y1.toNatClampNeg (vp_nar .boolean (0 : Int32)), vM.2.2.2.2.2.2.2.1, vM.2.2.2.2.2.2.2.2.1, vM.2.2.2.2.2.2.2.2.2.1, vM.2.2.2.2.2.2.2.2.2.2.1, vM.2.2.2.2.2.2.2.2.2.2.2.1, vM.2.2.2.2.2.2.2.2.2.2.2.2.1, vM.2.2.2.2.2.2.2.2.2.2.2.2.2.1, vM.2.2.2.2.2.2.2.2.2.2.2.2.2.2.1, vM.2.2.2.2.2.2.2.2.2.2.2.2.2.2.2.1, vM.2.2.2.2.2.2.2.2.2.2.2.2.2.2.2.2.1, vM.2.2.2.2.2.2.2.2.2.2.2.2.2.2.2.2.2.1, vM.2.2.2.2.2.2.2.2.2.2.2.2.2.2.2.2.2.2.1, vM.2.2.2.2.2.2.2.2.2.2.2.2.2.2.2.2.2.2.2.1, vM.2.2.2.2.2.2.2.2.2.2.2.2.2.2.2.2.2.2.2.2) (y1 + (1 : Int32)) else none
def f_Mod_drop (N : Nat) (vM : MT) : Option (MT) :=
  f_Mod_drop_12 N N (vM.1, vM.2.1, vM.2.2.1, vM.2.2.2.1, vM.2.2.2.2.1, vM.2.2.2.2.2.1, vM.2.2.2.2.2.2.1, vM.2.2.2.2.2.2.2.1, (0 : Int32), vM.2.2.2.2.2.2.2.2.2.1, false, vM.2.2.2.2.2.2.2.2.2.2.2.1, vM.2.2.2.2.2.2.2.2.2.2.2.2.1, vM.2.2.2.2.2.2.2.2.2.2.2.2.2.1, vM.2.2.2.2.2.2.2.2.2.2.2.2.2.2.1, vM.2.2.2.2.2.2.2.2.2.2.2.2.2.2.2.1, vM.2.2.2.2.2.2.2.2.2.2.2.2.2.2.2.2.1, vM.2.2.2.2.2.2.2.2.2.2.2.2.2.2.2.2.2.1, vM.2.2.2.2.2.2.2.2.2.2.2.2.2.2.2.2.2.2.1, vM.2.2.2.2.2.2.2.2.2.2.2.2.2.2.2.2.2.2.2.1, vM.2.2.2.2.2.2.2.2.2.2.2.2.2.2.2.2.2.2.2.2) (0 : Int32)
abbrev cd_Mod_drop : Cond := .code yX5_drop cX5_drop 2 none
theorem yd_Mod_drop : yX5_drop.cls ≠ "java/lang/invoke/MethodHandle" ∧ yX5_drop.cls ≠ "java/lang/invoke/VarHandle" ∧ (parseMethodDescriptor yX5_drop.desc).map (fun d => d.parameters.length) = some 0 := by decide +kernel
abbrev rm_Mod_drop : Room := { frames := 0, cells := 0, slots := 0, locals := 0 }
abbrev q_Mod_drop (D : va_G) (ad : Nat → Nat) (ca : Nat → ClassId) (res : MT) (A : Nat → Prop) : Array Value → State → Outcome → State → Prop := va_Qv (fun (u : MT) => u = res) (gB D cls (tys ca) A (fun (u : MT) => (wM ad ca u))) A
set_option maxHeartbeats 4000000 in
set_option maxRecDepth 100000 in
theorem w_Mod_drop_12 {p : Program} {l : Launch} {e : Env} {s : State} {m : MethodId} {args : Array Value} {below : List Frame} {meth : Method} {c : Code} {D : va_G} {ad : Nat → Nat} {ca : Nat → ClassId} {A : Nat → Prop} {N : Nat} {res : MT} (Z : gZ p s m args meth c cX5_drop 2 RX5 (cd_Mod_drop :: gA) A D cls (tys ca)) (hr : meth.sig.returnType = none) : ∀ (n : Nat) (vM : MT) (y1 : Int32), f_Mod_drop_12 N n vM y1 = some res → gW p l e rm_Mod_drop s m args below meth c 2 A D cls 0 0 (MQ below (q_Mod_drop D ad ca res A) args s 0 0 A) (wM ad ca vM) [(0, .ref (ad 20)), (1, .int y1)] 12 [] := by
  intro n
  induction n with
  | zero =>
    intro vM y1 hf
    exact absurd hf (by rw [f_Mod_drop_12]; exact fun h => by cases h)
  | succ n ih =>
    intro vM y1 hf
    rw [f_Mod_drop_12] at hf
    refine g_iload_n (pc := 12) Z 1 dX5_drop_12 rfl ?_
    refine g_sipush (pc := 13) (v := 1024) Z dX5_drop_13 (by decide) ?_
    refine g_icmp_ge (pc := 16) (tgt := 32) Z dX5_drop_16 (by decide) (fun c1 => ?_) (fun c1 => ?_)
    · replace hf := gIfP c1 hf
      obtain rfl := Option.some.inj hf
      exact g_vret Z hr dX5_drop_32 vM rfl rfl
    · replace hf := gIfN c1 hf
      refine g_aload_n (pc := 19) Z 0 dX5_drop_19 rfl ?_
      refine g_get (pc := 20) (v := .ref (ad 26)) (T := TX5) (N := 21) Z 0 6 dX5_drop_20 (mm wm6) inx_X5 rfl (by decide) rfl rfl rfl ?_
      refine g_iload_n (pc := 23) Z 1 dX5_drop_23 rfl ?_
      refine g_iconst (pc := 24) (v := 0) Z dX5_drop_24 (by decide) ?_
      obtain ⟨b2, hf⟩ := gGuard hf
      refine g_zast (pc := 25) (f := vM.2.2.2.2.2.2.1) (ws' := (wM ad ca (vM.1, vM.2.1, vM.2.2.1, vM.2.2.2.1, vM.2.2.2.2.1, vM.2.2.2.2.2.1, upd vM.2.2.2.2.2.2.1 y1.toNatClampNeg (vp_nar .boolean (0 : Int32)), vM.2.2.2.2.2.2.2.1, vM.2.2.2.2.2.2.2.2.1, vM.2.2.2.2.2.2.2.2.2.1, vM.2.2.2.2.2.2.2.2.2.2.1, vM.2.2.2.2.2.2.2.2.2.2.2.1, vM.2.2.2.2.2.2.2.2.2.2.2.2.1, vM.2.2.2.2.2.2.2.2.2.2.2.2.2.1, vM.2.2.2.2.2.2.2.2.2.2.2.2.2.2.1, vM.2.2.2.2.2.2.2.2.2.2.2.2.2.2.2.1, vM.2.2.2.2.2.2.2.2.2.2.2.2.2.2.2.2.1, vM.2.2.2.2.2.2.2.2.2.2.2.2.2.2.2.2.2.1, vM.2.2.2.2.2.2.2.2.2.2.2.2.2.2.2.2.2.2.1, vM.2.2.2.2.2.2.2.2.2.2.2.2.2.2.2.2.2.2.2.1, vM.2.2.2.2.2.2.2.2.2.2.2.2.2.2.2.2.2.2.2.2))) Z 6 2 dX5_drop_25 rfl rfl (gI_in b2) rfl ?_
      refine g_iinc (pc := 26) (v := y1 + (1 : Int32)) (lv' := [(1, .int (y1 + (1 : Int32))), (0, .ref (ad 20))]) Z 1 dX5_drop_26 rfl rfl (by decide) rfl ?_
      refine g_goto (pc := 29) (tgt := 12) Z dX5_drop_29 (by decide) ?_
      refine g_locals (lv2 := [(0, .ref (ad 20)), (1, .int (y1 + (1 : Int32)))]) [1, 0] rfl ?_
      exact ih _ _ hf
set_option maxHeartbeats 4000000 in
set_option maxRecDepth 100000 in
theorem c_Mod_drop (l : Launch) (D : va_G) (ad : Nat → Nat) (ca : Nat → ClassId) (N : Nat) (vM : MT) (res : MT) (hf : f_Mod_drop N vM = some res) (sz : Nat) : Met l yX5_drop (cd_Mod_drop :: gA) rm_Mod_drop (va_Pc [.ref (ad 20)] (gP D cls (tys ca) (wM ad ca vM) sz)) (q_Mod_drop D ad ca res (va_A (wM ad ca vM) sz)) 0 0 (va_A (wM ad ca vM) sz) := by
  refine g_met (cc := cX5_drop) (Qc := q_Mod_drop D ad ca res) (lv := [(0, .ref (ad 20))]) (own := RX5) (by decide) rfl rfl (Nat.le_of_ble_eq_true rfl) rfl sz ?_
  intro p e s m args below meth c A Z hr hnm
  unfold f_Mod_drop at hf
  refine g_aload_n (pc := 0) Z 0 dX5_drop_0 rfl ?_
  refine g_iconst (pc := 1) (v := 0) Z dX5_drop_1 (by decide) ?_
  refine g_put (pc := 2) (T := TX5) (N := 21) (ws' := (wM ad ca (vM.1, vM.2.1, vM.2.2.1, vM.2.2.2.1, vM.2.2.2.2.1, vM.2.2.2.2.2.1, vM.2.2.2.2.2.2.1, vM.2.2.2.2.2.2.2.1, vM.2.2.2.2.2.2.2.2.1, vM.2.2.2.2.2.2.2.2.2.1, false, vM.2.2.2.2.2.2.2.2.2.2.2.1, vM.2.2.2.2.2.2.2.2.2.2.2.2.1, vM.2.2.2.2.2.2.2.2.2.2.2.2.2.1, vM.2.2.2.2.2.2.2.2.2.2.2.2.2.2.1, vM.2.2.2.2.2.2.2.2.2.2.2.2.2.2.2.1, vM.2.2.2.2.2.2.2.2.2.2.2.2.2.2.2.2.1, vM.2.2.2.2.2.2.2.2.2.2.2.2.2.2.2.2.2.1, vM.2.2.2.2.2.2.2.2.2.2.2.2.2.2.2.2.2.2.1, vM.2.2.2.2.2.2.2.2.2.2.2.2.2.2.2.2.2.2.2.1, vM.2.2.2.2.2.2.2.2.2.2.2.2.2.2.2.2.2.2.2.2))) Z 0 10 dX5_drop_2 (mm wm4) inx_X5 tyX5_ok nmX5 rfl (by decide) rfl rfl rfl rfl rfl rfl (Nat.le_of_ble_eq_true rfl) rfl ?_
  refine g_aload_n (pc := 5) Z 0 dX5_drop_5 rfl ?_
  refine g_iconst (pc := 6) (v := 0) Z dX5_drop_6 (by decide) ?_
  refine g_put (pc := 7) (T := TX5) (N := 21) (ws' := (wM ad ca (vM.1, vM.2.1, vM.2.2.1, vM.2.2.2.1, vM.2.2.2.2.1, vM.2.2.2.2.2.1, vM.2.2.2.2.2.2.1, vM.2.2.2.2.2.2.2.1, (0 : Int32), vM.2.2.2.2.2.2.2.2.2.1, false, vM.2.2.2.2.2.2.2.2.2.2.2.1, vM.2.2.2.2.2.2.2.2.2.2.2.2.1, vM.2.2.2.2.2.2.2.2.2.2.2.2.2.1, vM.2.2.2.2.2.2.2.2.2.2.2.2.2.2.1, vM.2.2.2.2.2.2.2.2.2.2.2.2.2.2.2.1, vM.2.2.2.2.2.2.2.2.2.2.2.2.2.2.2.2.1, vM.2.2.2.2.2.2.2.2.2.2.2.2.2.2.2.2.2.1, vM.2.2.2.2.2.2.2.2.2.2.2.2.2.2.2.2.2.2.1, vM.2.2.2.2.2.2.2.2.2.2.2.2.2.2.2.2.2.2.2.1, vM.2.2.2.2.2.2.2.2.2.2.2.2.2.2.2.2.2.2.2.2))) Z 0 8 dX5_drop_7 (mm wm5) inx_X5 tyX5_ok nmX5 rfl (by decide) rfl rfl rfl rfl rfl rfl (Nat.le_of_ble_eq_true rfl) rfl ?_
  refine g_iconst (pc := 10) (v := 0) Z dX5_drop_10 (by decide) ?_
  refine g_istore_n (pc := 11) (lv' := [(1, .int (0 : Int32)), (0, .ref (ad 20))]) Z dX5_drop_11 (by decide) rfl ?_
  refine g_locals (lv2 := [(0, .ref (ad 20)), (1, .int (0 : Int32))]) [1, 0] rfl ?_
  exact w_Mod_drop_12 Z hr N _ _ hf
theorem wm7 : Cond.fieldLink RX5 41 "RedoHeapModel" "waits" "I" ∈ gA := wt3 172 rfl rfl
theorem wm8 : Cond.methodLink RX5 44 yX5_settle ∈ gA := wt4 78 rfl rfl
theorem wm9 : Cond.instanceMethod yX5_settle ∈ gA := wt4 80 rfl rfl
theorem wm10 : Cond.selects RX5 yX5_settle yX5_settle ∈ gA := wtS 28 rfl rfl
theorem wm11 : Cond.initialized RX5 ∈ gA := wt1 6 rfl rfl
theorem wm12 : cd_Mod_settle ∈ gA := wt4 81 rfl rfl
theorem wm13 : Cond.fieldLink RX5 48 "RedoHeapModel" "lost" "I" ∈ gA := wt3 187 rfl rfl
theorem wm14 : Cond.fieldLink RX5 51 "RedoHeapModel" "until" "I" ∈ gA := wt3 182 rfl rfl
theorem wm15 : Cond.fieldLink RX5 33 "RedoHeapModel" "on" "Z" ∈ gA := wt3 177 rfl rfl
theorem wm16 : Cond.fieldLink RX5 54 "RedoHeapModel" "cuts" "I" ∈ gA := wt3 186 rfl rfl
theorem wm17 : Cond.methodLink RX5 57 yX5_drop ∈ gA := wt4 0 rfl rfl
theorem wm18 : Cond.instanceMethod yX5_drop ∈ gA := wt4 2 rfl rfl
theorem wm19 : Cond.selects RX5 yX5_drop yX5_drop ∈ gA := wtS 16 rfl rfl
theorem wm20 : cd_Mod_drop ∈ gA := wt4 3 rfl rfl
theorem wm21 : Cond.fieldLink RX5 13 "RedoHeapModel" "now" "[J" ∈ gA := wt3 169 rfl rfl
/-! RedoHeapModel.goOff(I)V -/
def f_Mod_goOff_68 (N : Nat) : Nat → MT → Int32 → Int32 → Int32 → Option (MT)
  | 0, _, _, _, _ => none
  | n + 1, vM, y1, y2, y3 => if (1024 : Int32) ≤ y3 then some vM else if gI y3 1024 = true then if gI y3 1024 = true then f_Mod_goOff_68 N n (vM.1, vp_updL vM.2.1 y3.toNatClampNeg (vM.1 y3.toNatClampNeg), vM.2.2.1, vM.2.2.2.1, vM.2.2.2.2.1, vM.2.2.2.2.2.1, vM.2.2.2.2.2.2.1, vM.2.2.2.2.2.2.2.1, vM.2.2.2.2.2.2.2.2.1, vM.2.2.2.2.2.2.2.2.2.1, vM.2.2.2.2.2.2.2.2.2.2.1, vM.2.2.2.2.2.2.2.2.2.2.2.1, vM.2.2.2.2.2.2.2.2.2.2.2.2.1, vM.2.2.2.2.2.2.2.2.2.2.2.2.2.1, vM.2.2.2.2.2.2.2.2.2.2.2.2.2.2.1, vM.2.2.2.2.2.2.2.2.2.2.2.2.2.2.2.1, vM.2.2.2.2.2.2.2.2.2.2.2.2.2.2.2.2.1, vM.2.2.2.2.2.2.2.2.2.2.2.2.2.2.2.2.2.1, vM.2.2.2.2.2.2.2.2.2.2.2.2.2.2.2.2.2.2.1, vM.2.2.2.2.2.2.2.2.2.2.2.2.2.2.2.2.2.2.2.1, vM.2.2.2.2.2.2.2.2.2.2.2.2.2.2.2.2.2.2.2.2) y1 y2 (y3 + (1 : Int32)) else none else none
def f_Mod_goOff (N : Nat) (vM : MT) (p1 : Int32) : Option (MT) :=
  if vM.2.2.2.2.1 ≤ p1 then (f_Mod_settle N vM vM.2.2.2.2.1).bind fun x5 => (f_Mod_drop N (x5.1, x5.2.1, x5.2.2.1, x5.2.2.2.1, (0 : Int32), x5.2.2.2.2.2.1, x5.2.2.2.2.2.2.1, x5.2.2.2.2.2.2.2.1, x5.2.2.2.2.2.2.2.2.1, false, x5.2.2.2.2.2.2.2.2.2.2.1, x5.2.2.2.2.2.2.2.2.2.2.2.1, x5.2.2.2.2.2.2.2.2.2.2.2.2.1, x5.2.2.2.2.2.2.2.2.2.2.2.2.2.1, (0 : Int32), x5.2.2.2.2.2.2.2.2.2.2.2.2.2.2.2.1, x5.2.2.2.2.2.2.2.2.2.2.2.2.2.2.2.2.1, x5.2.2.2.2.2.2.2.2.2.2.2.2.2.2.2.2.2.1, x5.2.2.2.2.2.2.2.2.2.2.2.2.2.2.2.2.2.2.1 + (1 : Int32), x5.2.2.2.2.2.2.2.2.2.2.2.2.2.2.2.2.2.2.2.1 + (x5.2.2.2.2.1 - vM.2.2.2.2.1), x5.2.2.2.2.2.2.2.2.2.2.2.2.2.2.2.2.2.2.2.2)).bind fun x7 => f_Mod_goOff_68 N N x7 p1 vM.2.2.2.2.1 (0 : Int32) else (f_Mod_settle N vM p1).bind fun x9 => (f_Mod_drop N (x9.1, x9.2.1, x9.2.2.1, x9.2.2.2.1, (0 : Int32), x9.2.2.2.2.2.1, x9.2.2.2.2.2.2.1, x9.2.2.2.2.2.2.2.1, x9.2.2.2.2.2.2.2.2.1, false, x9.2.2.2.2.2.2.2.2.2.2.1, x9.2.2.2.2.2.2.2.2.2.2.2.1, x9.2.2.2.2.2.2.2.2.2.2.2.2.1, x9.2.2.2.2.2.2.2.2.2.2.2.2.2.1, (0 : Int32), x9.2.2.2.2.2.2.2.2.2.2.2.2.2.2.2.1, x9.2.2.2.2.2.2.2.2.2.2.2.2.2.2.2.2.1, x9.2.2.2.2.2.2.2.2.2.2.2.2.2.2.2.2.2.1, x9.2.2.2.2.2.2.2.2.2.2.2.2.2.2.2.2.2.2.1 + (1 : Int32), x9.2.2.2.2.2.2.2.2.2.2.2.2.2.2.2.2.2.2.2.1 + (x9.2.2.2.2.1 - p1), x9.2.2.2.2.2.2.2.2.2.2.2.2.2.2.2.2.2.2.2.2)).bind fun x11 => f_Mod_goOff_68 N N x11 p1 p1 (0 : Int32)
abbrev cd_Mod_goOff : Cond := .code yX5_goOff cX5_goOff 4 none
theorem yd_Mod_goOff : yX5_goOff.cls ≠ "java/lang/invoke/MethodHandle" ∧ yX5_goOff.cls ≠ "java/lang/invoke/VarHandle" ∧ (parseMethodDescriptor yX5_goOff.desc).map (fun d => d.parameters.length) = some 1 := by decide +kernel
abbrev rm_Mod_goOff : Room := { frames := 1, cells := 0, slots := 0, locals := 22 }
abbrev q_Mod_goOff (D : va_G) (ad : Nat → Nat) (ca : Nat → ClassId) (res : MT) (A : Nat → Prop) : Array Value → State → Outcome → State → Prop := va_Qv (fun (u : MT) => u = res) (gB D cls (tys ca) A (fun (u : MT) => (wM ad ca u))) A
set_option maxHeartbeats 4000000 in
set_option maxRecDepth 100000 in
theorem w_Mod_goOff_68 {p : Program} {l : Launch} {e : Env} {s : State} {m : MethodId} {args : Array Value} {below : List Frame} {meth : Method} {c : Code} {D : va_G} {ad : Nat → Nat} {ca : Nat → ClassId} {A : Nat → Prop} {N : Nat} {res : MT} (Z : gZ p s m args meth c cX5_goOff 4 RX5 (cd_Mod_goOff :: gA) A D cls (tys ca)) (hr : meth.sig.returnType = none) : ∀ (n : Nat) (vM : MT) (y1 : Int32) (y2 : Int32) (y3 : Int32), f_Mod_goOff_68 N n vM y1 y2 y3 = some res → gW p l e rm_Mod_goOff s m args below meth c 4 A D cls 0 0 (MQ below (q_Mod_goOff D ad ca res A) args s 0 0 A) (wM ad ca vM) [(0, .ref (ad 20)), (1, .int y1), (2, .int y2), (3, .int y3)] 68 [] := by
  intro n
  induction n with
  | zero =>
    intro vM y1 y2 y3 hf
    exact absurd hf (by rw [f_Mod_goOff_68]; exact fun h => by cases h)
  | succ n ih =>
    intro vM y1 y2 y3 hf
    rw [f_Mod_goOff_68] at hf
    refine g_iload_n (pc := 68) Z 3 dX5_goOff_68 rfl ?_
    refine g_sipush (pc := 69) (v := 1024) Z dX5_goOff_69 (by decide) ?_
    refine g_icmp_ge (pc := 72) (tgt := 93) Z dX5_goOff_72 (by decide) (fun c1 => ?_) (fun c1 => ?_)
    · replace hf := gIfP c1 hf
      obtain rfl := Option.some.inj hf
      exact g_vret Z hr dX5_goOff_93 vM rfl rfl
    · replace hf := gIfN c1 hf
      refine g_aload_n (pc := 75) Z 0 dX5_goOff_75 rfl ?_
      refine g_get (pc := 76) (v := .ref (ad 22)) (T := TX5) (N := 21) Z 0 1 dX5_goOff_76 (mm wm21) inx_X5 rfl (by decide) rfl rfl rfl ?_
      refine g_iload_n (pc := 79) Z 3 dX5_goOff_79 rfl ?_
      refine g_aload_n (pc := 80) Z 0 dX5_goOff_80 rfl ?_
      refine g_get (pc := 81) (v := .ref (ad 21)) (T := TX5) (N := 21) Z 0 0 dX5_goOff_81 (mm wm1) inx_X5 rfl (by decide) rfl rfl rfl ?_
      refine g_iload_n (pc := 84) Z 3 dX5_goOff_84 rfl ?_
      obtain ⟨b2, hf⟩ := gGuard hf
      refine g_lald (pc := 85) (f := vM.1) Z 1 0 dX5_goOff_85 rfl rfl (gI_in b2) ?_
      obtain ⟨b3, hf⟩ := gGuard hf
      refine g_last (pc := 86) (f := vM.2.1) (ws' := (wM ad ca (vM.1, vp_updL vM.2.1 y3.toNatClampNeg (vM.1 y3.toNatClampNeg), vM.2.2.1, vM.2.2.2.1, vM.2.2.2.2.1, vM.2.2.2.2.2.1, vM.2.2.2.2.2.2.1, vM.2.2.2.2.2.2.2.1, vM.2.2.2.2.2.2.2.2.1, vM.2.2.2.2.2.2.2.2.2.1, vM.2.2.2.2.2.2.2.2.2.2.1, vM.2.2.2.2.2.2.2.2.2.2.2.1, vM.2.2.2.2.2.2.2.2.2.2.2.2.1, vM.2.2.2.2.2.2.2.2.2.2.2.2.2.1, vM.2.2.2.2.2.2.2.2.2.2.2.2.2.2.1, vM.2.2.2.2.2.2.2.2.2.2.2.2.2.2.2.1, vM.2.2.2.2.2.2.2.2.2.2.2.2.2.2.2.2.1, vM.2.2.2.2.2.2.2.2.2.2.2.2.2.2.2.2.2.1, vM.2.2.2.2.2.2.2.2.2.2.2.2.2.2.2.2.2.2.1, vM.2.2.2.2.2.2.2.2.2.2.2.2.2.2.2.2.2.2.2.1, vM.2.2.2.2.2.2.2.2.2.2.2.2.2.2.2.2.2.2.2.2))) Z 2 0 dX5_goOff_86 rfl rfl (gI_in b3) rfl ?_
      refine g_iinc (pc := 87) (v := y3 + (1 : Int32)) (lv' := [(3, .int (y3 + (1 : Int32))), (0, .ref (ad 20)), (1, .int y1), (2, .int y2)]) Z 3 dX5_goOff_87 rfl rfl (by decide) rfl ?_
      refine g_goto (pc := 90) (tgt := 68) Z dX5_goOff_90 (by decide) ?_
      refine g_locals (lv2 := [(0, .ref (ad 20)), (1, .int y1), (2, .int y2), (3, .int (y3 + (1 : Int32)))]) [1, 2, 3, 0] rfl ?_
      exact ih _ _ _ _ hf
set_option maxHeartbeats 4000000 in
set_option maxRecDepth 100000 in
theorem c_Mod_goOff (l : Launch) (D : va_G) (ad : Nat → Nat) (ca : Nat → ClassId) (N : Nat) (vM : MT) (p1 : Int32) (res : MT) (hf : f_Mod_goOff N vM p1 = some res) (sz : Nat) : Met l yX5_goOff (cd_Mod_goOff :: gA) rm_Mod_goOff (va_Pc [.ref (ad 20), .int p1] (gP D cls (tys ca) (wM ad ca vM) sz)) (q_Mod_goOff D ad ca res (va_A (wM ad ca vM) sz)) 0 0 (va_A (wM ad ca vM) sz) := by
  refine g_met (cc := cX5_goOff) (Qc := q_Mod_goOff D ad ca res) (lv := [(0, .ref (ad 20)), (1, .int p1)]) (own := RX5) (by decide) rfl rfl (Nat.le_of_ble_eq_true rfl) rfl sz ?_
  intro p e s m args below meth c A Z hr hnm
  unfold f_Mod_goOff at hf
  refine g_iload_n (pc := 0) Z 1 dX5_goOff_0 rfl ?_
  refine g_aload_n (pc := 1) Z 0 dX5_goOff_1 rfl ?_
  refine g_get (pc := 2) (v := .int vM.2.2.2.2.1) (T := TX5) (N := 21) Z 0 4 dX5_goOff_2 (mm wm7) inx_X5 rfl (by decide) rfl rfl rfl ?_
  refine g_icmp_ge (pc := 5) (tgt := 12) Z dX5_goOff_5 (by decide) (fun c4 => ?_) (fun c4 => ?_)
  · replace hf := gIfP c4 hf
    refine g_aload_n (pc := 12) Z 0 dX5_goOff_12 rfl ?_
    refine g_get (pc := 13) (v := .int vM.2.2.2.2.1) (T := TX5) (N := 21) Z 0 4 dX5_goOff_13 (mm wm7) inx_X5 rfl (by decide) rfl rfl rfl ?_
    refine g_istore_n (pc := 16) (lv' := [(2, .int vM.2.2.2.2.1), (0, .ref (ad 20)), (1, .int p1)]) Z dX5_goOff_16 (by decide) rfl ?_
    refine g_aload_n (pc := 17) Z 1 dX5_goOff_17 rfl ?_
    refine g_iload_n (pc := 18) Z 0 dX5_goOff_18 rfl ?_
    obtain ⟨x5, h6, hf⟩ := Option.bind_eq_some_iff.mp hf
    refine g_callv (pc := 19) (ws2 := fun u => (wM ad ca u)) (wr := ([] : va_W)) Z [0, 1, 2, 3, 4, 5, 6, 7] [] [0, 1, 2, 3, 4, 5, 6, 7] (g_runV Z (c_Mod_settle l D ad ca N vM vM.2.2.2.2.1 x5 h6) (cwV 1 Z.2.2.2.2.1 (gg_V wm8 wm9 wm10 wm11 wm12) rfl rfl rfl (yv_of rfl yd_Mod_settle) ⟨Nat.le_of_ble_eq_true rfl, Nat.le_of_ble_eq_true rfl⟩) [0, 1, 2, 3, 4, 5, 6, 7] rfl (by decide) 0 rfl rfl rfl rfl rfl (Nat.le_of_ble_eq_true rfl) dX5_goOff_19 ⟨Nat.le_of_ble_eq_true rfl, Nat.le_of_ble_eq_true rfl⟩) rfl rfl (by decide) (by decide) (by decide) (fun _ => rfl) (fun u hu => ?_)
    obtain rfl := hu.symm
    refine g_aload_n (pc := 22) Z 1 dX5_goOff_22 rfl ?_
    refine g_dup (pc := 23) Z dX5_goOff_23 rfl ?_
    refine g_get (pc := 24) (v := .int x5.2.2.2.2.2.2.2.2.2.2.2.2.2.2.2.2.2.2.2.1) (T := TX5) (N := 21) Z 0 19 dX5_goOff_24 (mm wm13) inx_X5 rfl (by decide) rfl rfl rfl ?_
    refine g_aload_n (pc := 27) Z 1 dX5_goOff_27 rfl ?_
    refine g_get (pc := 28) (v := .int x5.2.2.2.2.1) (T := TX5) (N := 21) Z 0 4 dX5_goOff_28 (mm wm7) inx_X5 rfl (by decide) rfl rfl rfl ?_
    refine g_iload_n (pc := 31) Z 0 dX5_goOff_31 rfl ?_
    refine g_isub (pc := 32) Z dX5_goOff_32 ?_
    refine g_iadd (pc := 33) Z dX5_goOff_33 ?_
    refine g_put (pc := 34) (T := TX5) (N := 21) (ws' := (wM ad ca (x5.1, x5.2.1, x5.2.2.1, x5.2.2.2.1, x5.2.2.2.2.1, x5.2.2.2.2.2.1, x5.2.2.2.2.2.2.1, x5.2.2.2.2.2.2.2.1, x5.2.2.2.2.2.2.2.2.1, x5.2.2.2.2.2.2.2.2.2.1, x5.2.2.2.2.2.2.2.2.2.2.1, x5.2.2.2.2.2.2.2.2.2.2.2.1, x5.2.2.2.2.2.2.2.2.2.2.2.2.1, x5.2.2.2.2.2.2.2.2.2.2.2.2.2.1, x5.2.2.2.2.2.2.2.2.2.2.2.2.2.2.1, x5.2.2.2.2.2.2.2.2.2.2.2.2.2.2.2.1, x5.2.2.2.2.2.2.2.2.2.2.2.2.2.2.2.2.1, x5.2.2.2.2.2.2.2.2.2.2.2.2.2.2.2.2.2.1, x5.2.2.2.2.2.2.2.2.2.2.2.2.2.2.2.2.2.2.1, x5.2.2.2.2.2.2.2.2.2.2.2.2.2.2.2.2.2.2.2.1 + (x5.2.2.2.2.1 - vM.2.2.2.2.1), x5.2.2.2.2.2.2.2.2.2.2.2.2.2.2.2.2.2.2.2.2))) Z 0 19 dX5_goOff_34 (mm wm13) inx_X5 tyX5_ok nmX5 rfl (by decide) rfl rfl rfl rfl rfl rfl (Nat.le_of_ble_eq_true rfl) rfl ?_
    refine g_aload_n (pc := 37) Z 1 dX5_goOff_37 rfl ?_
    refine g_iconst (pc := 38) (v := 0) Z dX5_goOff_38 (by decide) ?_
    refine g_put (pc := 39) (T := TX5) (N := 21) (ws' := (wM ad ca (x5.1, x5.2.1, x5.2.2.1, x5.2.2.2.1, (0 : Int32), x5.2.2.2.2.2.1, x5.2.2.2.2.2.2.1, x5.2.2.2.2.2.2.2.1, x5.2.2.2.2.2.2.2.2.1, x5.2.2.2.2.2.2.2.2.2.1, x5.2.2.2.2.2.2.2.2.2.2.1, x5.2.2.2.2.2.2.2.2.2.2.2.1, x5.2.2.2.2.2.2.2.2.2.2.2.2.1, x5.2.2.2.2.2.2.2.2.2.2.2.2.2.1, x5.2.2.2.2.2.2.2.2.2.2.2.2.2.2.1, x5.2.2.2.2.2.2.2.2.2.2.2.2.2.2.2.1, x5.2.2.2.2.2.2.2.2.2.2.2.2.2.2.2.2.1, x5.2.2.2.2.2.2.2.2.2.2.2.2.2.2.2.2.2.1, x5.2.2.2.2.2.2.2.2.2.2.2.2.2.2.2.2.2.2.1, x5.2.2.2.2.2.2.2.2.2.2.2.2.2.2.2.2.2.2.2.1 + (x5.2.2.2.2.1 - vM.2.2.2.2.1), x5.2.2.2.2.2.2.2.2.2.2.2.2.2.2.2.2.2.2.2.2))) Z 0 4 dX5_goOff_39 (mm wm7) inx_X5 tyX5_ok nmX5 rfl (by decide) rfl rfl rfl rfl rfl rfl (Nat.le_of_ble_eq_true rfl) rfl ?_
    refine g_aload_n (pc := 42) Z 1 dX5_goOff_42 rfl ?_
    refine g_iconst (pc := 43) (v := 0) Z dX5_goOff_43 (by decide) ?_
    refine g_put (pc := 44) (T := TX5) (N := 21) (ws' := (wM ad ca (x5.1, x5.2.1, x5.2.2.1, x5.2.2.2.1, (0 : Int32), x5.2.2.2.2.2.1, x5.2.2.2.2.2.2.1, x5.2.2.2.2.2.2.2.1, x5.2.2.2.2.2.2.2.2.1, x5.2.2.2.2.2.2.2.2.2.1, x5.2.2.2.2.2.2.2.2.2.2.1, x5.2.2.2.2.2.2.2.2.2.2.2.1, x5.2.2.2.2.2.2.2.2.2.2.2.2.1, x5.2.2.2.2.2.2.2.2.2.2.2.2.2.1, (0 : Int32), x5.2.2.2.2.2.2.2.2.2.2.2.2.2.2.2.1, x5.2.2.2.2.2.2.2.2.2.2.2.2.2.2.2.2.1, x5.2.2.2.2.2.2.2.2.2.2.2.2.2.2.2.2.2.1, x5.2.2.2.2.2.2.2.2.2.2.2.2.2.2.2.2.2.2.1, x5.2.2.2.2.2.2.2.2.2.2.2.2.2.2.2.2.2.2.2.1 + (x5.2.2.2.2.1 - vM.2.2.2.2.1), x5.2.2.2.2.2.2.2.2.2.2.2.2.2.2.2.2.2.2.2.2))) Z 0 14 dX5_goOff_44 (mm wm14) inx_X5 tyX5_ok nmX5 rfl (by decide) rfl rfl rfl rfl rfl rfl (Nat.le_of_ble_eq_true rfl) rfl ?_
    refine g_aload_n (pc := 47) Z 1 dX5_goOff_47 rfl ?_
    refine g_iconst (pc := 48) (v := 0) Z dX5_goOff_48 (by decide) ?_
    refine g_put (pc := 49) (T := TX5) (N := 21) (ws' := (wM ad ca (x5.1, x5.2.1, x5.2.2.1, x5.2.2.2.1, (0 : Int32), x5.2.2.2.2.2.1, x5.2.2.2.2.2.2.1, x5.2.2.2.2.2.2.2.1, x5.2.2.2.2.2.2.2.2.1, false, x5.2.2.2.2.2.2.2.2.2.2.1, x5.2.2.2.2.2.2.2.2.2.2.2.1, x5.2.2.2.2.2.2.2.2.2.2.2.2.1, x5.2.2.2.2.2.2.2.2.2.2.2.2.2.1, (0 : Int32), x5.2.2.2.2.2.2.2.2.2.2.2.2.2.2.2.1, x5.2.2.2.2.2.2.2.2.2.2.2.2.2.2.2.2.1, x5.2.2.2.2.2.2.2.2.2.2.2.2.2.2.2.2.2.1, x5.2.2.2.2.2.2.2.2.2.2.2.2.2.2.2.2.2.2.1, x5.2.2.2.2.2.2.2.2.2.2.2.2.2.2.2.2.2.2.2.1 + (x5.2.2.2.2.1 - vM.2.2.2.2.1), x5.2.2.2.2.2.2.2.2.2.2.2.2.2.2.2.2.2.2.2.2))) Z 0 9 dX5_goOff_49 (mm wm15) inx_X5 tyX5_ok nmX5 rfl (by decide) rfl rfl rfl rfl rfl rfl (Nat.le_of_ble_eq_true rfl) rfl ?_
    refine g_aload_n (pc := 52) Z 1 dX5_goOff_52 rfl ?_
    refine g_dup (pc := 53) Z dX5_goOff_53 rfl ?_
    refine g_get (pc := 54) (v := .int x5.2.2.2.2.2.2.2.2.2.2.2.2.2.2.2.2.2.2.1) (T := TX5) (N := 21) Z 0 18 dX5_goOff_54 (mm wm16) inx_X5 rfl (by decide) rfl rfl rfl ?_
    refine g_iconst (pc := 57) (v := 1) Z dX5_goOff_57 (by decide) ?_
    refine g_iadd (pc := 58) Z dX5_goOff_58 ?_
    refine g_put (pc := 59) (T := TX5) (N := 21) (ws' := (wM ad ca (x5.1, x5.2.1, x5.2.2.1, x5.2.2.2.1, (0 : Int32), x5.2.2.2.2.2.1, x5.2.2.2.2.2.2.1, x5.2.2.2.2.2.2.2.1, x5.2.2.2.2.2.2.2.2.1, false, x5.2.2.2.2.2.2.2.2.2.2.1, x5.2.2.2.2.2.2.2.2.2.2.2.1, x5.2.2.2.2.2.2.2.2.2.2.2.2.1, x5.2.2.2.2.2.2.2.2.2.2.2.2.2.1, (0 : Int32), x5.2.2.2.2.2.2.2.2.2.2.2.2.2.2.2.1, x5.2.2.2.2.2.2.2.2.2.2.2.2.2.2.2.2.1, x5.2.2.2.2.2.2.2.2.2.2.2.2.2.2.2.2.2.1, x5.2.2.2.2.2.2.2.2.2.2.2.2.2.2.2.2.2.2.1 + (1 : Int32), x5.2.2.2.2.2.2.2.2.2.2.2.2.2.2.2.2.2.2.2.1 + (x5.2.2.2.2.1 - vM.2.2.2.2.1), x5.2.2.2.2.2.2.2.2.2.2.2.2.2.2.2.2.2.2.2.2))) Z 0 18 dX5_goOff_59 (mm wm16) inx_X5 tyX5_ok nmX5 rfl (by decide) rfl rfl rfl rfl rfl rfl (Nat.le_of_ble_eq_true rfl) rfl ?_
    refine g_aload_n (pc := 62) Z 1 dX5_goOff_62 rfl ?_
    obtain ⟨x7, h8, hf⟩ := Option.bind_eq_some_iff.mp hf
    refine g_callv (pc := 63) (ws2 := fun u => (wM ad ca u)) (wr := ([] : va_W)) Z [0, 1, 2, 3, 4, 5, 6, 7] [] [0, 1, 2, 3, 4, 5, 6, 7] (g_runV Z (c_Mod_drop l D ad ca N (x5.1, x5.2.1, x5.2.2.1, x5.2.2.2.1, (0 : Int32), x5.2.2.2.2.2.1, x5.2.2.2.2.2.2.1, x5.2.2.2.2.2.2.2.1, x5.2.2.2.2.2.2.2.2.1, false, x5.2.2.2.2.2.2.2.2.2.2.1, x5.2.2.2.2.2.2.2.2.2.2.2.1, x5.2.2.2.2.2.2.2.2.2.2.2.2.1, x5.2.2.2.2.2.2.2.2.2.2.2.2.2.1, (0 : Int32), x5.2.2.2.2.2.2.2.2.2.2.2.2.2.2.2.1, x5.2.2.2.2.2.2.2.2.2.2.2.2.2.2.2.2.1, x5.2.2.2.2.2.2.2.2.2.2.2.2.2.2.2.2.2.1, x5.2.2.2.2.2.2.2.2.2.2.2.2.2.2.2.2.2.2.1 + (1 : Int32), x5.2.2.2.2.2.2.2.2.2.2.2.2.2.2.2.2.2.2.2.1 + (x5.2.2.2.2.1 - vM.2.2.2.2.1), x5.2.2.2.2.2.2.2.2.2.2.2.2.2.2.2.2.2.2.2.2) x7 h8) (cwV 0 Z.2.2.2.2.1 (gg_V wm17 wm18 wm19 wm11 wm20) rfl rfl rfl (yv_of rfl yd_Mod_drop) ⟨Nat.le_of_ble_eq_true rfl, Nat.le_of_ble_eq_true rfl⟩) [0, 1, 2, 3, 4, 5, 6, 7] rfl (by decide) 0 rfl rfl rfl rfl rfl (Nat.le_of_ble_eq_true rfl) dX5_goOff_63 ⟨Nat.le_of_ble_eq_true rfl, Nat.le_of_ble_eq_true rfl⟩) rfl rfl (by decide) (by decide) (by decide) (fun _ => rfl) (fun u hu => ?_)
    obtain rfl := hu.symm
    refine g_iconst (pc := 66) (v := 0) Z dX5_goOff_66 (by decide) ?_
    refine g_istore_n (pc := 67) (lv' := [(3, .int (0 : Int32)), (2, .int vM.2.2.2.2.1), (0, .ref (ad 20)), (1, .int p1)]) Z dX5_goOff_67 (by decide) rfl ?_
    refine g_locals (lv2 := [(0, .ref (ad 20)), (1, .int p1), (2, .int vM.2.2.2.2.1), (3, .int (0 : Int32))]) [2, 3, 1, 0] rfl ?_
    exact w_Mod_goOff_68 Z hr N _ _ _ _ hf
  · replace hf := gIfN c4 hf
    refine g_iload_n (pc := 8) Z 1 dX5_goOff_8 rfl ?_
    refine g_goto (pc := 9) (tgt := 16) Z dX5_goOff_9 (by decide) ?_
    refine g_istore_n (pc := 16) (lv' := [(2, .int p1), (0, .ref (ad 20)), (1, .int p1)]) Z dX5_goOff_16 (by decide) rfl ?_
    refine g_aload_n (pc := 17) Z 1 dX5_goOff_17 rfl ?_
    refine g_iload_n (pc := 18) Z 0 dX5_goOff_18 rfl ?_
    obtain ⟨x9, h10, hf⟩ := Option.bind_eq_some_iff.mp hf
    refine g_callv (pc := 19) (ws2 := fun u => (wM ad ca u)) (wr := ([] : va_W)) Z [0, 1, 2, 3, 4, 5, 6, 7] [] [0, 1, 2, 3, 4, 5, 6, 7] (g_runV Z (c_Mod_settle l D ad ca N vM p1 x9 h10) (cwV 1 Z.2.2.2.2.1 (gg_V wm8 wm9 wm10 wm11 wm12) rfl rfl rfl (yv_of rfl yd_Mod_settle) ⟨Nat.le_of_ble_eq_true rfl, Nat.le_of_ble_eq_true rfl⟩) [0, 1, 2, 3, 4, 5, 6, 7] rfl (by decide) 0 rfl rfl rfl rfl rfl (Nat.le_of_ble_eq_true rfl) dX5_goOff_19 ⟨Nat.le_of_ble_eq_true rfl, Nat.le_of_ble_eq_true rfl⟩) rfl rfl (by decide) (by decide) (by decide) (fun _ => rfl) (fun u hu => ?_)
    obtain rfl := hu.symm
    refine g_aload_n (pc := 22) Z 1 dX5_goOff_22 rfl ?_
    refine g_dup (pc := 23) Z dX5_goOff_23 rfl ?_
    refine g_get (pc := 24) (v := .int x9.2.2.2.2.2.2.2.2.2.2.2.2.2.2.2.2.2.2.2.1) (T := TX5) (N := 21) Z 0 19 dX5_goOff_24 (mm wm13) inx_X5 rfl (by decide) rfl rfl rfl ?_
    refine g_aload_n (pc := 27) Z 1 dX5_goOff_27 rfl ?_
    refine g_get (pc := 28) (v := .int x9.2.2.2.2.1) (T := TX5) (N := 21) Z 0 4 dX5_goOff_28 (mm wm7) inx_X5 rfl (by decide) rfl rfl rfl ?_
    refine g_iload_n (pc := 31) Z 0 dX5_goOff_31 rfl ?_
    refine g_isub (pc := 32) Z dX5_goOff_32 ?_
    refine g_iadd (pc := 33) Z dX5_goOff_33 ?_
    refine g_put (pc := 34) (T := TX5) (N := 21) (ws' := (wM ad ca (x9.1, x9.2.1, x9.2.2.1, x9.2.2.2.1, x9.2.2.2.2.1, x9.2.2.2.2.2.1, x9.2.2.2.2.2.2.1, x9.2.2.2.2.2.2.2.1, x9.2.2.2.2.2.2.2.2.1, x9.2.2.2.2.2.2.2.2.2.1, x9.2.2.2.2.2.2.2.2.2.2.1, x9.2.2.2.2.2.2.2.2.2.2.2.1, x9.2.2.2.2.2.2.2.2.2.2.2.2.1, x9.2.2.2.2.2.2.2.2.2.2.2.2.2.1, x9.2.2.2.2.2.2.2.2.2.2.2.2.2.2.1, x9.2.2.2.2.2.2.2.2.2.2.2.2.2.2.2.1, x9.2.2.2.2.2.2.2.2.2.2.2.2.2.2.2.2.1, x9.2.2.2.2.2.2.2.2.2.2.2.2.2.2.2.2.2.1, x9.2.2.2.2.2.2.2.2.2.2.2.2.2.2.2.2.2.2.1, x9.2.2.2.2.2.2.2.2.2.2.2.2.2.2.2.2.2.2.2.1 + (x9.2.2.2.2.1 - p1), x9.2.2.2.2.2.2.2.2.2.2.2.2.2.2.2.2.2.2.2.2))) Z 0 19 dX5_goOff_34 (mm wm13) inx_X5 tyX5_ok nmX5 rfl (by decide) rfl rfl rfl rfl rfl rfl (Nat.le_of_ble_eq_true rfl) rfl ?_
    refine g_aload_n (pc := 37) Z 1 dX5_goOff_37 rfl ?_
    refine g_iconst (pc := 38) (v := 0) Z dX5_goOff_38 (by decide) ?_
    refine g_put (pc := 39) (T := TX5) (N := 21) (ws' := (wM ad ca (x9.1, x9.2.1, x9.2.2.1, x9.2.2.2.1, (0 : Int32), x9.2.2.2.2.2.1, x9.2.2.2.2.2.2.1, x9.2.2.2.2.2.2.2.1, x9.2.2.2.2.2.2.2.2.1, x9.2.2.2.2.2.2.2.2.2.1, x9.2.2.2.2.2.2.2.2.2.2.1, x9.2.2.2.2.2.2.2.2.2.2.2.1, x9.2.2.2.2.2.2.2.2.2.2.2.2.1, x9.2.2.2.2.2.2.2.2.2.2.2.2.2.1, x9.2.2.2.2.2.2.2.2.2.2.2.2.2.2.1, x9.2.2.2.2.2.2.2.2.2.2.2.2.2.2.2.1, x9.2.2.2.2.2.2.2.2.2.2.2.2.2.2.2.2.1, x9.2.2.2.2.2.2.2.2.2.2.2.2.2.2.2.2.2.1, x9.2.2.2.2.2.2.2.2.2.2.2.2.2.2.2.2.2.2.1, x9.2.2.2.2.2.2.2.2.2.2.2.2.2.2.2.2.2.2.2.1 + (x9.2.2.2.2.1 - p1), x9.2.2.2.2.2.2.2.2.2.2.2.2.2.2.2.2.2.2.2.2))) Z 0 4 dX5_goOff_39 (mm wm7) inx_X5 tyX5_ok nmX5 rfl (by decide) rfl rfl rfl rfl rfl rfl (Nat.le_of_ble_eq_true rfl) rfl ?_
    refine g_aload_n (pc := 42) Z 1 dX5_goOff_42 rfl ?_
    refine g_iconst (pc := 43) (v := 0) Z dX5_goOff_43 (by decide) ?_
    refine g_put (pc := 44) (T := TX5) (N := 21) (ws' := (wM ad ca (x9.1, x9.2.1, x9.2.2.1, x9.2.2.2.1, (0 : Int32), x9.2.2.2.2.2.1, x9.2.2.2.2.2.2.1, x9.2.2.2.2.2.2.2.1, x9.2.2.2.2.2.2.2.2.1, x9.2.2.2.2.2.2.2.2.2.1, x9.2.2.2.2.2.2.2.2.2.2.1, x9.2.2.2.2.2.2.2.2.2.2.2.1, x9.2.2.2.2.2.2.2.2.2.2.2.2.1, x9.2.2.2.2.2.2.2.2.2.2.2.2.2.1, (0 : Int32), x9.2.2.2.2.2.2.2.2.2.2.2.2.2.2.2.1, x9.2.2.2.2.2.2.2.2.2.2.2.2.2.2.2.2.1, x9.2.2.2.2.2.2.2.2.2.2.2.2.2.2.2.2.2.1, x9.2.2.2.2.2.2.2.2.2.2.2.2.2.2.2.2.2.2.1, x9.2.2.2.2.2.2.2.2.2.2.2.2.2.2.2.2.2.2.2.1 + (x9.2.2.2.2.1 - p1), x9.2.2.2.2.2.2.2.2.2.2.2.2.2.2.2.2.2.2.2.2))) Z 0 14 dX5_goOff_44 (mm wm14) inx_X5 tyX5_ok nmX5 rfl (by decide) rfl rfl rfl rfl rfl rfl (Nat.le_of_ble_eq_true rfl) rfl ?_
    refine g_aload_n (pc := 47) Z 1 dX5_goOff_47 rfl ?_
    refine g_iconst (pc := 48) (v := 0) Z dX5_goOff_48 (by decide) ?_
    refine g_put (pc := 49) (T := TX5) (N := 21) (ws' := (wM ad ca (x9.1, x9.2.1, x9.2.2.1, x9.2.2.2.1, (0 : Int32), x9.2.2.2.2.2.1, x9.2.2.2.2.2.2.1, x9.2.2.2.2.2.2.2.1, x9.2.2.2.2.2.2.2.2.1, false, x9.2.2.2.2.2.2.2.2.2.2.1, x9.2.2.2.2.2.2.2.2.2.2.2.1, x9.2.2.2.2.2.2.2.2.2.2.2.2.1, x9.2.2.2.2.2.2.2.2.2.2.2.2.2.1, (0 : Int32), x9.2.2.2.2.2.2.2.2.2.2.2.2.2.2.2.1, x9.2.2.2.2.2.2.2.2.2.2.2.2.2.2.2.2.1, x9.2.2.2.2.2.2.2.2.2.2.2.2.2.2.2.2.2.1, x9.2.2.2.2.2.2.2.2.2.2.2.2.2.2.2.2.2.2.1, x9.2.2.2.2.2.2.2.2.2.2.2.2.2.2.2.2.2.2.2.1 + (x9.2.2.2.2.1 - p1), x9.2.2.2.2.2.2.2.2.2.2.2.2.2.2.2.2.2.2.2.2))) Z 0 9 dX5_goOff_49 (mm wm15) inx_X5 tyX5_ok nmX5 rfl (by decide) rfl rfl rfl rfl rfl rfl (Nat.le_of_ble_eq_true rfl) rfl ?_
    refine g_aload_n (pc := 52) Z 1 dX5_goOff_52 rfl ?_
    refine g_dup (pc := 53) Z dX5_goOff_53 rfl ?_
    refine g_get (pc := 54) (v := .int x9.2.2.2.2.2.2.2.2.2.2.2.2.2.2.2.2.2.2.1) (T := TX5) (N := 21) Z 0 18 dX5_goOff_54 (mm wm16) inx_X5 rfl (by decide) rfl rfl rfl ?_
    refine g_iconst (pc := 57) (v := 1) Z dX5_goOff_57 (by decide) ?_
    refine g_iadd (pc := 58) Z dX5_goOff_58 ?_
    refine g_put (pc := 59) (T := TX5) (N := 21) (ws' := (wM ad ca (x9.1, x9.2.1, x9.2.2.1, x9.2.2.2.1, (0 : Int32), x9.2.2.2.2.2.1, x9.2.2.2.2.2.2.1, x9.2.2.2.2.2.2.2.1, x9.2.2.2.2.2.2.2.2.1, false, x9.2.2.2.2.2.2.2.2.2.2.1, x9.2.2.2.2.2.2.2.2.2.2.2.1, x9.2.2.2.2.2.2.2.2.2.2.2.2.1, x9.2.2.2.2.2.2.2.2.2.2.2.2.2.1, (0 : Int32), x9.2.2.2.2.2.2.2.2.2.2.2.2.2.2.2.1, x9.2.2.2.2.2.2.2.2.2.2.2.2.2.2.2.2.1, x9.2.2.2.2.2.2.2.2.2.2.2.2.2.2.2.2.2.1, x9.2.2.2.2.2.2.2.2.2.2.2.2.2.2.2.2.2.2.1 + (1 : Int32), x9.2.2.2.2.2.2.2.2.2.2.2.2.2.2.2.2.2.2.2.1 + (x9.2.2.2.2.1 - p1), x9.2.2.2.2.2.2.2.2.2.2.2.2.2.2.2.2.2.2.2.2))) Z 0 18 dX5_goOff_59 (mm wm16) inx_X5 tyX5_ok nmX5 rfl (by decide) rfl rfl rfl rfl rfl rfl (Nat.le_of_ble_eq_true rfl) rfl ?_
    refine g_aload_n (pc := 62) Z 1 dX5_goOff_62 rfl ?_
    obtain ⟨x11, h12, hf⟩ := Option.bind_eq_some_iff.mp hf
    refine g_callv (pc := 63) (ws2 := fun u => (wM ad ca u)) (wr := ([] : va_W)) Z [0, 1, 2, 3, 4, 5, 6, 7] [] [0, 1, 2, 3, 4, 5, 6, 7] (g_runV Z (c_Mod_drop l D ad ca N (x9.1, x9.2.1, x9.2.2.1, x9.2.2.2.1, (0 : Int32), x9.2.2.2.2.2.1, x9.2.2.2.2.2.2.1, x9.2.2.2.2.2.2.2.1, x9.2.2.2.2.2.2.2.2.1, false, x9.2.2.2.2.2.2.2.2.2.2.1, x9.2.2.2.2.2.2.2.2.2.2.2.1, x9.2.2.2.2.2.2.2.2.2.2.2.2.1, x9.2.2.2.2.2.2.2.2.2.2.2.2.2.1, (0 : Int32), x9.2.2.2.2.2.2.2.2.2.2.2.2.2.2.2.1, x9.2.2.2.2.2.2.2.2.2.2.2.2.2.2.2.2.1, x9.2.2.2.2.2.2.2.2.2.2.2.2.2.2.2.2.2.1, x9.2.2.2.2.2.2.2.2.2.2.2.2.2.2.2.2.2.2.1 + (1 : Int32), x9.2.2.2.2.2.2.2.2.2.2.2.2.2.2.2.2.2.2.2.1 + (x9.2.2.2.2.1 - p1), x9.2.2.2.2.2.2.2.2.2.2.2.2.2.2.2.2.2.2.2.2) x11 h12) (cwV 0 Z.2.2.2.2.1 (gg_V wm17 wm18 wm19 wm11 wm20) rfl rfl rfl (yv_of rfl yd_Mod_drop) ⟨Nat.le_of_ble_eq_true rfl, Nat.le_of_ble_eq_true rfl⟩) [0, 1, 2, 3, 4, 5, 6, 7] rfl (by decide) 0 rfl rfl rfl rfl rfl (Nat.le_of_ble_eq_true rfl) dX5_goOff_63 ⟨Nat.le_of_ble_eq_true rfl, Nat.le_of_ble_eq_true rfl⟩) rfl rfl (by decide) (by decide) (by decide) (fun _ => rfl) (fun u hu => ?_)
    obtain rfl := hu.symm
    refine g_iconst (pc := 66) (v := 0) Z dX5_goOff_66 (by decide) ?_
    refine g_istore_n (pc := 67) (lv' := [(3, .int (0 : Int32)), (2, .int p1), (0, .ref (ad 20)), (1, .int p1)]) Z dX5_goOff_67 (by decide) rfl ?_
    refine g_locals (lv2 := [(0, .ref (ad 20)), (1, .int p1), (2, .int p1), (3, .int (0 : Int32))]) [2, 3, 1, 0] rfl ?_
    exact w_Mod_goOff_68 Z hr N _ _ _ _ hf
theorem wm22 : Cond.fieldLink RX5 60 "RedoHeapModel" "writes" "I" ∈ gA := wt3 184 rfl rfl
theorem wm23 : Cond.fieldLink RX5 63 "RedoHeapModel" "keeps" "I" ∈ gA := wt3 183 rfl rfl
theorem wm24 : Cond.methodLink RX5 66 yX5_goOff ∈ gA := wt4 74 rfl rfl
theorem wm25 : Cond.instanceMethod yX5_goOff ∈ gA := wt4 76 rfl rfl
theorem wm26 : Cond.selects RX5 yX5_goOff yX5_goOff ∈ gA := wtS 27 rfl rfl
theorem wm27 : cd_Mod_goOff ∈ gA := wt4 77 rfl rfl
/-! RedoHeapModel.write(IJ)Z -/
def f_Mod_write (N : Nat) (vM : MT) (p1 : Int32) (p2 : Int64) : Option (Bool × MT) :=
  if gI p1 1024 = true then if gI vM.2.2.2.2.1 6000 = true then if gI vM.2.2.2.2.1 6000 = true then if vM.2.2.2.2.2.2.2.2.2.2.2.2.2.2.1 ≤ 0 then some (true, (vM.1, vp_updL vM.2.1 p1.toNatClampNeg p2, upd vM.2.2.1 vM.2.2.2.2.1.toNatClampNeg p1, vp_updL vM.2.2.2.1 vM.2.2.2.2.1.toNatClampNeg p2, vM.2.2.2.2.1 + (1 : Int32), vM.2.2.2.2.2.1, vM.2.2.2.2.2.2.1, vM.2.2.2.2.2.2.2.1, vM.2.2.2.2.2.2.2.2.1, vM.2.2.2.2.2.2.2.2.2.1, vM.2.2.2.2.2.2.2.2.2.2.1, vM.2.2.2.2.2.2.2.2.2.2.2.1, vM.2.2.2.2.2.2.2.2.2.2.2.2.1, vM.2.2.2.2.2.2.2.2.2.2.2.2.2.1, vM.2.2.2.2.2.2.2.2.2.2.2.2.2.2.1, vM.2.2.2.2.2.2.2.2.2.2.2.2.2.2.2.1, vM.2.2.2.2.2.2.2.2.2.2.2.2.2.2.2.2.1 + (1 : Int32), vM.2.2.2.2.2.2.2.2.2.2.2.2.2.2.2.2.2.1, vM.2.2.2.2.2.2.2.2.2.2.2.2.2.2.2.2.2.2.1, vM.2.2.2.2.2.2.2.2.2.2.2.2.2.2.2.2.2.2.2.1, vM.2.2.2.2.2.2.2.2.2.2.2.2.2.2.2.2.2.2.2.2)) else if (vM.2.2.2.2.2.2.2.2.2.2.2.2.2.2.1 - (1 : Int32)) = 0 then (f_Mod_goOff N (vM.1, vp_updL vM.2.1 p1.toNatClampNeg p2, upd vM.2.2.1 vM.2.2.2.2.1.toNatClampNeg p1, vp_updL vM.2.2.2.1 vM.2.2.2.2.1.toNatClampNeg p2, vM.2.2.2.2.1 + (1 : Int32), vM.2.2.2.2.2.1, vM.2.2.2.2.2.2.1, vM.2.2.2.2.2.2.2.1, vM.2.2.2.2.2.2.2.2.1, vM.2.2.2.2.2.2.2.2.2.1, vM.2.2.2.2.2.2.2.2.2.2.1, vM.2.2.2.2.2.2.2.2.2.2.2.1, vM.2.2.2.2.2.2.2.2.2.2.2.2.1, vM.2.2.2.2.2.2.2.2.2.2.2.2.2.1, vM.2.2.2.2.2.2.2.2.2.2.2.2.2.2.1 - (1 : Int32), vM.2.2.2.2.2.2.2.2.2.2.2.2.2.2.2.1, vM.2.2.2.2.2.2.2.2.2.2.2.2.2.2.2.2.1 + (1 : Int32), vM.2.2.2.2.2.2.2.2.2.2.2.2.2.2.2.2.2.1, vM.2.2.2.2.2.2.2.2.2.2.2.2.2.2.2.2.2.2.1, vM.2.2.2.2.2.2.2.2.2.2.2.2.2.2.2.2.2.2.2.1, vM.2.2.2.2.2.2.2.2.2.2.2.2.2.2.2.2.2.2.2.2) vM.2.2.2.2.2.2.2.2.2.2.2.2.2.2.2.1).bind fun x6 => some (false, x6) else some (true, (vM.1, vp_updL vM.2.1 p1.toNatClampNeg p2, upd vM.2.2.1 vM.2.2.2.2.1.toNatClampNeg p1, vp_updL vM.2.2.2.1 vM.2.2.2.2.1.toNatClampNeg p2, vM.2.2.2.2.1 + (1 : Int32), vM.2.2.2.2.2.1, vM.2.2.2.2.2.2.1, vM.2.2.2.2.2.2.2.1, vM.2.2.2.2.2.2.2.2.1, vM.2.2.2.2.2.2.2.2.2.1, vM.2.2.2.2.2.2.2.2.2.2.1, vM.2.2.2.2.2.2.2.2.2.2.2.1, vM.2.2.2.2.2.2.2.2.2.2.2.2.1, vM.2.2.2.2.2.2.2.2.2.2.2.2.2.1, vM.2.2.2.2.2.2.2.2.2.2.2.2.2.2.1 - (1 : Int32), vM.2.2.2.2.2.2.2.2.2.2.2.2.2.2.2.1, vM.2.2.2.2.2.2.2.2.2.2.2.2.2.2.2.2.1 + (1 : Int32), vM.2.2.2.2.2.2.2.2.2.2.2.2.2.2.2.2.2.1, vM.2.2.2.2.2.2.2.2.2.2.2.2.2.2.2.2.2.2.1, vM.2.2.2.2.2.2.2.2.2.2.2.2.2.2.2.2.2.2.2.1, vM.2.2.2.2.2.2.2.2.2.2.2.2.2.2.2.2.2.2.2.2)) else none else none else none
abbrev cd_Mod_write : Cond := .code yX5_write cX5_write 4 (some .boolean)
theorem yd_Mod_write : yX5_write.cls ≠ "java/lang/invoke/MethodHandle" ∧ yX5_write.cls ≠ "java/lang/invoke/VarHandle" ∧ (parseMethodDescriptor yX5_write.desc).map (fun d => d.parameters.length) = some 2 := by decide +kernel
abbrev rm_Mod_write : Room := { frames := 2, cells := 0, slots := 0, locals := 45 }
abbrev q_Mod_write (D : va_G) (ad : Nat → Nat) (ca : Nat → ClassId) (res : Bool × MT) (A : Nat → Prop) : Array Value → State → Outcome → State → Prop := va_Qi (fun (r : Int32) (u : MT) => r = bI res.1 ∧ u = res.2) (gB D cls (tys ca) A (fun (u : MT) => (wM ad ca u))) A
set_option maxHeartbeats 4000000 in
set_option maxRecDepth 100000 in
theorem c_Mod_write (l : Launch) (D : va_G) (ad : Nat → Nat) (ca : Nat → ClassId) (N : Nat) (vM : MT) (p1 : Int32) (p2 : Int64) (res : Bool × MT) (hf : f_Mod_write N vM p1 p2 = some res) (sz : Nat) : Met l yX5_write (cd_Mod_write :: gA) rm_Mod_write (va_Pc [.ref (ad 20), .int p1, .long p2] (gP D cls (tys ca) (wM ad ca vM) sz)) (q_Mod_write D ad ca res (va_A (wM ad ca vM) sz)) 0 0 (va_A (wM ad ca vM) sz) := by
  refine g_met (cc := cX5_write) (Qc := q_Mod_write D ad ca res) (lv := [(0, .ref (ad 20)), (1, .int p1), (2, .long p2)]) (own := RX5) (by decide) rfl rfl (Nat.le_of_ble_eq_true rfl) rfl sz ?_
  intro p e s m args below meth c A Z hr hnm
  unfold f_Mod_write at hf
  refine g_aload_n (pc := 0) Z 0 dX5_write_0 rfl ?_
  refine g_get (pc := 1) (v := .ref (ad 22)) (T := TX5) (N := 21) Z 0 1 dX5_write_1 (mm wm21) inx_X5 rfl (by decide) rfl rfl rfl ?_
  refine g_iload_n (pc := 4) Z 1 dX5_write_4 rfl ?_
  refine g_lload_n (pc := 5) Z 2 dX5_write_5 rfl ?_
  obtain ⟨b1, hf⟩ := gGuard hf
  refine g_last (pc := 6) (f := vM.2.1) (ws' := (wM ad ca (vM.1, vp_updL vM.2.1 p1.toNatClampNeg p2, vM.2.2.1, vM.2.2.2.1, vM.2.2.2.2.1, vM.2.2.2.2.2.1, vM.2.2.2.2.2.2.1, vM.2.2.2.2.2.2.2.1, vM.2.2.2.2.2.2.2.2.1, vM.2.2.2.2.2.2.2.2.2.1, vM.2.2.2.2.2.2.2.2.2.2.1, vM.2.2.2.2.2.2.2.2.2.2.2.1, vM.2.2.2.2.2.2.2.2.2.2.2.2.1, vM.2.2.2.2.2.2.2.2.2.2.2.2.2.1, vM.2.2.2.2.2.2.2.2.2.2.2.2.2.2.1, vM.2.2.2.2.2.2.2.2.2.2.2.2.2.2.2.1, vM.2.2.2.2.2.2.2.2.2.2.2.2.2.2.2.2.1, vM.2.2.2.2.2.2.2.2.2.2.2.2.2.2.2.2.2.1, vM.2.2.2.2.2.2.2.2.2.2.2.2.2.2.2.2.2.2.1, vM.2.2.2.2.2.2.2.2.2.2.2.2.2.2.2.2.2.2.2.1, vM.2.2.2.2.2.2.2.2.2.2.2.2.2.2.2.2.2.2.2.2))) Z 2 0 dX5_write_6 rfl rfl (gI_in b1) rfl ?_
  refine g_aload_n (pc := 7) Z 0 dX5_write_7 rfl ?_
  refine g_get (pc := 8) (v := .ref (ad 23)) (T := TX5) (N := 21) Z 0 2 dX5_write_8 (mm wm2) inx_X5 rfl (by decide) rfl rfl rfl ?_
  refine g_aload_n (pc := 11) Z 0 dX5_write_11 rfl ?_
  refine g_get (pc := 12) (v := .int vM.2.2.2.2.1) (T := TX5) (N := 21) Z 0 4 dX5_write_12 (mm wm7) inx_X5 rfl (by decide) rfl rfl rfl ?_
  refine g_iload_n (pc := 15) Z 1 dX5_write_15 rfl ?_
  obtain ⟨b2, hf⟩ := gGuard hf
  refine g_iast (pc := 16) (f := vM.2.2.1) (ws' := (wM ad ca (vM.1, vp_updL vM.2.1 p1.toNatClampNeg p2, upd vM.2.2.1 vM.2.2.2.2.1.toNatClampNeg p1, vM.2.2.2.1, vM.2.2.2.2.1, vM.2.2.2.2.2.1, vM.2.2.2.2.2.2.1, vM.2.2.2.2.2.2.2.1, vM.2.2.2.2.2.2.2.2.1, vM.2.2.2.2.2.2.2.2.2.1, vM.2.2.2.2.2.2.2.2.2.2.1, vM.2.2.2.2.2.2.2.2.2.2.2.1, vM.2.2.2.2.2.2.2.2.2.2.2.2.1, vM.2.2.2.2.2.2.2.2.2.2.2.2.2.1, vM.2.2.2.2.2.2.2.2.2.2.2.2.2.2.1, vM.2.2.2.2.2.2.2.2.2.2.2.2.2.2.2.1, vM.2.2.2.2.2.2.2.2.2.2.2.2.2.2.2.2.1, vM.2.2.2.2.2.2.2.2.2.2.2.2.2.2.2.2.2.1, vM.2.2.2.2.2.2.2.2.2.2.2.2.2.2.2.2.2.2.1, vM.2.2.2.2.2.2.2.2.2.2.2.2.2.2.2.2.2.2.2.1, vM.2.2.2.2.2.2.2.2.2.2.2.2.2.2.2.2.2.2.2.2))) Z 3 1 dX5_write_16 rfl rfl (gI_in b2) rfl ?_
  refine g_aload_n (pc := 17) Z 0 dX5_write_17 rfl ?_
  refine g_get (pc := 18) (v := .ref (ad 24)) (T := TX5) (N := 21) Z 0 3 dX5_write_18 (mm wm3) inx_X5 rfl (by decide) rfl rfl rfl ?_
  refine g_aload_n (pc := 21) Z 0 dX5_write_21 rfl ?_
  refine g_get (pc := 22) (v := .int vM.2.2.2.2.1) (T := TX5) (N := 21) Z 0 4 dX5_write_22 (mm wm7) inx_X5 rfl (by decide) rfl rfl rfl ?_
  refine g_lload_n (pc := 25) Z 2 dX5_write_25 rfl ?_
  obtain ⟨b3, hf⟩ := gGuard hf
  refine g_last (pc := 26) (f := vM.2.2.2.1) (ws' := (wM ad ca (vM.1, vp_updL vM.2.1 p1.toNatClampNeg p2, upd vM.2.2.1 vM.2.2.2.2.1.toNatClampNeg p1, vp_updL vM.2.2.2.1 vM.2.2.2.2.1.toNatClampNeg p2, vM.2.2.2.2.1, vM.2.2.2.2.2.1, vM.2.2.2.2.2.2.1, vM.2.2.2.2.2.2.2.1, vM.2.2.2.2.2.2.2.2.1, vM.2.2.2.2.2.2.2.2.2.1, vM.2.2.2.2.2.2.2.2.2.2.1, vM.2.2.2.2.2.2.2.2.2.2.2.1, vM.2.2.2.2.2.2.2.2.2.2.2.2.1, vM.2.2.2.2.2.2.2.2.2.2.2.2.2.1, vM.2.2.2.2.2.2.2.2.2.2.2.2.2.2.1, vM.2.2.2.2.2.2.2.2.2.2.2.2.2.2.2.1, vM.2.2.2.2.2.2.2.2.2.2.2.2.2.2.2.2.1, vM.2.2.2.2.2.2.2.2.2.2.2.2.2.2.2.2.2.1, vM.2.2.2.2.2.2.2.2.2.2.2.2.2.2.2.2.2.2.1, vM.2.2.2.2.2.2.2.2.2.2.2.2.2.2.2.2.2.2.2.1, vM.2.2.2.2.2.2.2.2.2.2.2.2.2.2.2.2.2.2.2.2))) Z 4 0 dX5_write_26 rfl rfl (gI_in b3) rfl ?_
  refine g_aload_n (pc := 27) Z 0 dX5_write_27 rfl ?_
  refine g_dup (pc := 28) Z dX5_write_28 rfl ?_
  refine g_get (pc := 29) (v := .int vM.2.2.2.2.1) (T := TX5) (N := 21) Z 0 4 dX5_write_29 (mm wm7) inx_X5 rfl (by decide) rfl rfl rfl ?_
  refine g_iconst (pc := 32) (v := 1) Z dX5_write_32 (by decide) ?_
  refine g_iadd (pc := 33) Z dX5_write_33 ?_
  refine g_put (pc := 34) (T := TX5) (N := 21) (ws' := (wM ad ca (vM.1, vp_updL vM.2.1 p1.toNatClampNeg p2, upd vM.2.2.1 vM.2.2.2.2.1.toNatClampNeg p1, vp_updL vM.2.2.2.1 vM.2.2.2.2.1.toNatClampNeg p2, vM.2.2.2.2.1 + (1 : Int32), vM.2.2.2.2.2.1, vM.2.2.2.2.2.2.1, vM.2.2.2.2.2.2.2.1, vM.2.2.2.2.2.2.2.2.1, vM.2.2.2.2.2.2.2.2.2.1, vM.2.2.2.2.2.2.2.2.2.2.1, vM.2.2.2.2.2.2.2.2.2.2.2.1, vM.2.2.2.2.2.2.2.2.2.2.2.2.1, vM.2.2.2.2.2.2.2.2.2.2.2.2.2.1, vM.2.2.2.2.2.2.2.2.2.2.2.2.2.2.1, vM.2.2.2.2.2.2.2.2.2.2.2.2.2.2.2.1, vM.2.2.2.2.2.2.2.2.2.2.2.2.2.2.2.2.1, vM.2.2.2.2.2.2.2.2.2.2.2.2.2.2.2.2.2.1, vM.2.2.2.2.2.2.2.2.2.2.2.2.2.2.2.2.2.2.1, vM.2.2.2.2.2.2.2.2.2.2.2.2.2.2.2.2.2.2.2.1, vM.2.2.2.2.2.2.2.2.2.2.2.2.2.2.2.2.2.2.2.2))) Z 0 4 dX5_write_34 (mm wm7) inx_X5 tyX5_ok nmX5 rfl (by decide) rfl rfl rfl rfl rfl rfl (Nat.le_of_ble_eq_true rfl) rfl ?_
  refine g_aload_n (pc := 37) Z 0 dX5_write_37 rfl ?_
  refine g_dup (pc := 38) Z dX5_write_38 rfl ?_
  refine g_get (pc := 39) (v := .int vM.2.2.2.2.2.2.2.2.2.2.2.2.2.2.2.2.1) (T := TX5) (N := 21) Z 0 16 dX5_write_39 (mm wm22) inx_X5 rfl (by decide) rfl rfl rfl ?_
  refine g_iconst (pc := 42) (v := 1) Z dX5_write_42 (by decide) ?_
  refine g_iadd (pc := 43) Z dX5_write_43 ?_
  refine g_put (pc := 44) (T := TX5) (N := 21) (ws' := (wM ad ca (vM.1, vp_updL vM.2.1 p1.toNatClampNeg p2, upd vM.2.2.1 vM.2.2.2.2.1.toNatClampNeg p1, vp_updL vM.2.2.2.1 vM.2.2.2.2.1.toNatClampNeg p2, vM.2.2.2.2.1 + (1 : Int32), vM.2.2.2.2.2.1, vM.2.2.2.2.2.2.1, vM.2.2.2.2.2.2.2.1, vM.2.2.2.2.2.2.2.2.1, vM.2.2.2.2.2.2.2.2.2.1, vM.2.2.2.2.2.2.2.2.2.2.1, vM.2.2.2.2.2.2.2.2.2.2.2.1, vM.2.2.2.2.2.2.2.2.2.2.2.2.1, vM.2.2.2.2.2.2.2.2.2.2.2.2.2.1, vM.2.2.2.2.2.2.2.2.2.2.2.2.2.2.1, vM.2.2.2.2.2.2.2.2.2.2.2.2.2.2.2.1, vM.2.2.2.2.2.2.2.2.2.2.2.2.2.2.2.2.1 + (1 : Int32), vM.2.2.2.2.2.2.2.2.2.2.2.2.2.2.2.2.2.1, vM.2.2.2.2.2.2.2.2.2.2.2.2.2.2.2.2.2.2.1, vM.2.2.2.2.2.2.2.2.2.2.2.2.2.2.2.2.2.2.2.1, vM.2.2.2.2.2.2.2.2.2.2.2.2.2.2.2.2.2.2.2.2))) Z 0 16 dX5_write_44 (mm wm22) inx_X5 tyX5_ok nmX5 rfl (by decide) rfl rfl rfl rfl rfl rfl (Nat.le_of_ble_eq_true rfl) rfl ?_
  refine g_aload_n (pc := 47) Z 0 dX5_write_47 rfl ?_
  refine g_get (pc := 48) (v := .int vM.2.2.2.2.2.2.2.2.2.2.2.2.2.2.1) (T := TX5) (N := 21) Z 0 14 dX5_write_48 (mm wm14) inx_X5 rfl (by decide) rfl rfl rfl ?_
  refine g_if_le (pc := 51) (tgt := 81) Z dX5_write_51 (by decide) (fun c4 => ?_) (fun c4 => ?_)
  · replace hf := gIfP c4 hf
    refine g_iconst (pc := 81) (v := 1) Z dX5_write_81 (by decide) ?_
    obtain rfl := Option.some.inj hf
    exact g_zret Z hr rfl dX5_write_82 (vM.1, vp_updL vM.2.1 p1.toNatClampNeg p2, upd vM.2.2.1 vM.2.2.2.2.1.toNatClampNeg p1, vp_updL vM.2.2.2.1 vM.2.2.2.2.1.toNatClampNeg p2, vM.2.2.2.2.1 + (1 : Int32), vM.2.2.2.2.2.1, vM.2.2.2.2.2.2.1, vM.2.2.2.2.2.2.2.1, vM.2.2.2.2.2.2.2.2.1, vM.2.2.2.2.2.2.2.2.2.1, vM.2.2.2.2.2.2.2.2.2.2.1, vM.2.2.2.2.2.2.2.2.2.2.2.1, vM.2.2.2.2.2.2.2.2.2.2.2.2.1, vM.2.2.2.2.2.2.2.2.2.2.2.2.2.1, vM.2.2.2.2.2.2.2.2.2.2.2.2.2.2.1, vM.2.2.2.2.2.2.2.2.2.2.2.2.2.2.2.1, vM.2.2.2.2.2.2.2.2.2.2.2.2.2.2.2.2.1 + (1 : Int32), vM.2.2.2.2.2.2.2.2.2.2.2.2.2.2.2.2.2.1, vM.2.2.2.2.2.2.2.2.2.2.2.2.2.2.2.2.2.2.1, vM.2.2.2.2.2.2.2.2.2.2.2.2.2.2.2.2.2.2.2.1, vM.2.2.2.2.2.2.2.2.2.2.2.2.2.2.2.2.2.2.2.2) ⟨rfl, rfl⟩ rfl
  · replace hf := gIfN c4 hf
    refine g_aload_n (pc := 54) Z 0 dX5_write_54 rfl ?_
    refine g_dup (pc := 55) Z dX5_write_55 rfl ?_
    refine g_get (pc := 56) (v := .int vM.2.2.2.2.2.2.2.2.2.2.2.2.2.2.1) (T := TX5) (N := 21) Z 0 14 dX5_write_56 (mm wm14) inx_X5 rfl (by decide) rfl rfl rfl ?_
    refine g_iconst (pc := 59) (v := 1) Z dX5_write_59 (by decide) ?_
    refine g_isub (pc := 60) Z dX5_write_60 ?_
    refine g_put (pc := 61) (T := TX5) (N := 21) (ws' := (wM ad ca (vM.1, vp_updL vM.2.1 p1.toNatClampNeg p2, upd vM.2.2.1 vM.2.2.2.2.1.toNatClampNeg p1, vp_updL vM.2.2.2.1 vM.2.2.2.2.1.toNatClampNeg p2, vM.2.2.2.2.1 + (1 : Int32), vM.2.2.2.2.2.1, vM.2.2.2.2.2.2.1, vM.2.2.2.2.2.2.2.1, vM.2.2.2.2.2.2.2.2.1, vM.2.2.2.2.2.2.2.2.2.1, vM.2.2.2.2.2.2.2.2.2.2.1, vM.2.2.2.2.2.2.2.2.2.2.2.1, vM.2.2.2.2.2.2.2.2.2.2.2.2.1, vM.2.2.2.2.2.2.2.2.2.2.2.2.2.1, vM.2.2.2.2.2.2.2.2.2.2.2.2.2.2.1 - (1 : Int32), vM.2.2.2.2.2.2.2.2.2.2.2.2.2.2.2.1, vM.2.2.2.2.2.2.2.2.2.2.2.2.2.2.2.2.1 + (1 : Int32), vM.2.2.2.2.2.2.2.2.2.2.2.2.2.2.2.2.2.1, vM.2.2.2.2.2.2.2.2.2.2.2.2.2.2.2.2.2.2.1, vM.2.2.2.2.2.2.2.2.2.2.2.2.2.2.2.2.2.2.2.1, vM.2.2.2.2.2.2.2.2.2.2.2.2.2.2.2.2.2.2.2.2))) Z 0 14 dX5_write_61 (mm wm14) inx_X5 tyX5_ok nmX5 rfl (by decide) rfl rfl rfl rfl rfl rfl (Nat.le_of_ble_eq_true rfl) rfl ?_
    refine g_aload_n (pc := 64) Z 0 dX5_write_64 rfl ?_
    refine g_get (pc := 65) (v := .int (vM.2.2.2.2.2.2.2.2.2.2.2.2.2.2.1 - (1 : Int32))) (T := TX5) (N := 21) Z 0 14 dX5_write_65 (mm wm14) inx_X5 rfl (by decide) rfl rfl rfl ?_
    refine g_if_ne (pc := 68) (tgt := 81) Z dX5_write_68 (by decide) (fun c5 => ?_) (fun c5 => ?_)
    · replace hf := gIfN c5 hf
      refine g_iconst (pc := 81) (v := 1) Z dX5_write_81 (by decide) ?_
      obtain rfl := Option.some.inj hf
      exact g_zret Z hr rfl dX5_write_82 (vM.1, vp_updL vM.2.1 p1.toNatClampNeg p2, upd vM.2.2.1 vM.2.2.2.2.1.toNatClampNeg p1, vp_updL vM.2.2.2.1 vM.2.2.2.2.1.toNatClampNeg p2, vM.2.2.2.2.1 + (1 : Int32), vM.2.2.2.2.2.1, vM.2.2.2.2.2.2.1, vM.2.2.2.2.2.2.2.1, vM.2.2.2.2.2.2.2.2.1, vM.2.2.2.2.2.2.2.2.2.1, vM.2.2.2.2.2.2.2.2.2.2.1, vM.2.2.2.2.2.2.2.2.2.2.2.1, vM.2.2.2.2.2.2.2.2.2.2.2.2.1, vM.2.2.2.2.2.2.2.2.2.2.2.2.2.1, vM.2.2.2.2.2.2.2.2.2.2.2.2.2.2.1 - (1 : Int32), vM.2.2.2.2.2.2.2.2.2.2.2.2.2.2.2.1, vM.2.2.2.2.2.2.2.2.2.2.2.2.2.2.2.2.1 + (1 : Int32), vM.2.2.2.2.2.2.2.2.2.2.2.2.2.2.2.2.2.1, vM.2.2.2.2.2.2.2.2.2.2.2.2.2.2.2.2.2.2.1, vM.2.2.2.2.2.2.2.2.2.2.2.2.2.2.2.2.2.2.2.1, vM.2.2.2.2.2.2.2.2.2.2.2.2.2.2.2.2.2.2.2.2) ⟨rfl, rfl⟩ rfl
    · replace hf := gIfP c5 hf
      refine g_aload_n (pc := 71) Z 0 dX5_write_71 rfl ?_
      refine g_aload_n (pc := 72) Z 0 dX5_write_72 rfl ?_
      refine g_get (pc := 73) (v := .int vM.2.2.2.2.2.2.2.2.2.2.2.2.2.2.2.1) (T := TX5) (N := 21) Z 0 15 dX5_write_73 (mm wm23) inx_X5 rfl (by decide) rfl rfl rfl ?_
      obtain ⟨x6, h7, hf⟩ := Option.bind_eq_some_iff.mp hf
      refine g_callv (pc := 76) (ws2 := fun u => (wM ad ca u)) (wr := ([] : va_W)) Z [0, 1, 2, 3, 4, 5, 6, 7] [] [0, 1, 2, 3, 4, 5, 6, 7] (g_runV Z (c_Mod_goOff l D ad ca N (vM.1, vp_updL vM.2.1 p1.toNatClampNeg p2, upd vM.2.2.1 vM.2.2.2.2.1.toNatClampNeg p1, vp_updL vM.2.2.2.1 vM.2.2.2.2.1.toNatClampNeg p2, vM.2.2.2.2.1 + (1 : Int32), vM.2.2.2.2.2.1, vM.2.2.2.2.2.2.1, vM.2.2.2.2.2.2.2.1, vM.2.2.2.2.2.2.2.2.1, vM.2.2.2.2.2.2.2.2.2.1, vM.2.2.2.2.2.2.2.2.2.2.1, vM.2.2.2.2.2.2.2.2.2.2.2.1, vM.2.2.2.2.2.2.2.2.2.2.2.2.1, vM.2.2.2.2.2.2.2.2.2.2.2.2.2.1, vM.2.2.2.2.2.2.2.2.2.2.2.2.2.2.1 - (1 : Int32), vM.2.2.2.2.2.2.2.2.2.2.2.2.2.2.2.1, vM.2.2.2.2.2.2.2.2.2.2.2.2.2.2.2.2.1 + (1 : Int32), vM.2.2.2.2.2.2.2.2.2.2.2.2.2.2.2.2.2.1, vM.2.2.2.2.2.2.2.2.2.2.2.2.2.2.2.2.2.2.1, vM.2.2.2.2.2.2.2.2.2.2.2.2.2.2.2.2.2.2.2.1, vM.2.2.2.2.2.2.2.2.2.2.2.2.2.2.2.2.2.2.2.2) vM.2.2.2.2.2.2.2.2.2.2.2.2.2.2.2.1 x6 h7) (cwV 1 Z.2.2.2.2.1 (gg_V wm24 wm25 wm26 wm11 wm27) rfl rfl rfl (yv_of rfl yd_Mod_goOff) ⟨Nat.le_of_ble_eq_true rfl, Nat.le_of_ble_eq_true rfl⟩) [0, 1, 2, 3, 4, 5, 6, 7] rfl (by decide) 0 rfl rfl rfl rfl rfl (Nat.le_of_ble_eq_true rfl) dX5_write_76 ⟨Nat.le_of_ble_eq_true rfl, Nat.le_of_ble_eq_true rfl⟩) rfl rfl (by decide) (by decide) (by decide) (fun _ => rfl) (fun u hu => ?_)
      obtain rfl := hu.symm
      refine g_iconst (pc := 79) (v := 0) Z dX5_write_79 (by decide) ?_
      obtain rfl := Option.some.inj hf
      exact g_zret Z hr rfl dX5_write_80 x6 ⟨rfl, rfl⟩ rfl
theorem wm28 : Cond.fieldLink RX5 69 "RedoHeapModel" "syncs" "I" ∈ gA := wt3 185 rfl rfl
/-! RedoHeapModel.syncAll()I -/
def f_Mod_syncAll (N : Nat) (vM : MT) : Option (Int32 × MT) :=
  (f_Mod_settle N vM vM.2.2.2.2.1).bind fun x1 => some (vM.2.2.2.2.1, (x1.1, x1.2.1, x1.2.2.1, x1.2.2.2.1, (0 : Int32), x1.2.2.2.2.2.1, x1.2.2.2.2.2.2.1, x1.2.2.2.2.2.2.2.1, x1.2.2.2.2.2.2.2.2.1, x1.2.2.2.2.2.2.2.2.2.1, x1.2.2.2.2.2.2.2.2.2.2.1, x1.2.2.2.2.2.2.2.2.2.2.2.1, x1.2.2.2.2.2.2.2.2.2.2.2.2.1, x1.2.2.2.2.2.2.2.2.2.2.2.2.2.1, x1.2.2.2.2.2.2.2.2.2.2.2.2.2.2.1, x1.2.2.2.2.2.2.2.2.2.2.2.2.2.2.2.1, x1.2.2.2.2.2.2.2.2.2.2.2.2.2.2.2.2.1, x1.2.2.2.2.2.2.2.2.2.2.2.2.2.2.2.2.2.1 + (1 : Int32), x1.2.2.2.2.2.2.2.2.2.2.2.2.2.2.2.2.2.2.1, x1.2.2.2.2.2.2.2.2.2.2.2.2.2.2.2.2.2.2.2.1, x1.2.2.2.2.2.2.2.2.2.2.2.2.2.2.2.2.2.2.2.2))
abbrev cd_Mod_syncAll : Cond := .code yX5_syncAll cX5_syncAll 2 (some .int)
theorem yd_Mod_syncAll : yX5_syncAll.cls ≠ "java/lang/invoke/MethodHandle" ∧ yX5_syncAll.cls ≠ "java/lang/invoke/VarHandle" ∧ (parseMethodDescriptor yX5_syncAll.desc).map (fun d => d.parameters.length) = some 0 := by decide +kernel
abbrev rm_Mod_syncAll : Room := { frames := 1, cells := 0, slots := 0, locals := 22 }
abbrev q_Mod_syncAll (D : va_G) (ad : Nat → Nat) (ca : Nat → ClassId) (res : Int32 × MT) (A : Nat → Prop) : Array Value → State → Outcome → State → Prop := va_Qi (fun (r : Int32) (u : MT) => r = res.1 ∧ u = res.2) (gB D cls (tys ca) A (fun (u : MT) => (wM ad ca u))) A
set_option maxHeartbeats 4000000 in
set_option maxRecDepth 100000 in
theorem c_Mod_syncAll (l : Launch) (D : va_G) (ad : Nat → Nat) (ca : Nat → ClassId) (N : Nat) (vM : MT) (res : Int32 × MT) (hf : f_Mod_syncAll N vM = some res) (sz : Nat) : Met l yX5_syncAll (cd_Mod_syncAll :: gA) rm_Mod_syncAll (va_Pc [.ref (ad 20)] (gP D cls (tys ca) (wM ad ca vM) sz)) (q_Mod_syncAll D ad ca res (va_A (wM ad ca vM) sz)) 0 0 (va_A (wM ad ca vM) sz) := by
  refine g_met (cc := cX5_syncAll) (Qc := q_Mod_syncAll D ad ca res) (lv := [(0, .ref (ad 20))]) (own := RX5) (by decide) rfl rfl (Nat.le_of_ble_eq_true rfl) rfl sz ?_
  intro p e s m args below meth c A Z hr hnm
  unfold f_Mod_syncAll at hf
  refine g_aload_n (pc := 0) Z 0 dX5_syncAll_0 rfl ?_
  refine g_get (pc := 1) (v := .int vM.2.2.2.2.1) (T := TX5) (N := 21) Z 0 4 dX5_syncAll_1 (mm wm7) inx_X5 rfl (by decide) rfl rfl rfl ?_
  refine g_istore_n (pc := 4) (lv' := [(1, .int vM.2.2.2.2.1), (0, .ref (ad 20))]) Z dX5_syncAll_4 (by decide) rfl ?_
  refine g_aload_n (pc := 5) Z 1 dX5_syncAll_5 rfl ?_
  refine g_iload_n (pc := 6) Z 0 dX5_syncAll_6 rfl ?_
  obtain ⟨x1, h2, hf⟩ := Option.bind_eq_some_iff.mp hf
  refine g_callv (pc := 7) (ws2 := fun u => (wM ad ca u)) (wr := ([] : va_W)) Z [0, 1, 2, 3, 4, 5, 6, 7] [] [0, 1, 2, 3, 4, 5, 6, 7] (g_runV Z (c_Mod_settle l D ad ca N vM vM.2.2.2.2.1 x1 h2) (cwV 1 Z.2.2.2.2.1 (gg_V wm8 wm9 wm10 wm11 wm12) rfl rfl rfl (yv_of rfl yd_Mod_settle) ⟨Nat.le_of_ble_eq_true rfl, Nat.le_of_ble_eq_true rfl⟩) [0, 1, 2, 3, 4, 5, 6, 7] rfl (by decide) 0 rfl rfl rfl rfl rfl (Nat.le_of_ble_eq_true rfl) dX5_syncAll_7 ⟨Nat.le_of_ble_eq_true rfl, Nat.le_of_ble_eq_true rfl⟩) rfl rfl (by decide) (by decide) (by decide) (fun _ => rfl) (fun u hu => ?_)
  obtain rfl := hu.symm
  refine g_aload_n (pc := 10) Z 1 dX5_syncAll_10 rfl ?_
  refine g_iconst (pc := 11) (v := 0) Z dX5_syncAll_11 (by decide) ?_
  refine g_put (pc := 12) (T := TX5) (N := 21) (ws' := (wM ad ca (x1.1, x1.2.1, x1.2.2.1, x1.2.2.2.1, (0 : Int32), x1.2.2.2.2.2.1, x1.2.2.2.2.2.2.1, x1.2.2.2.2.2.2.2.1, x1.2.2.2.2.2.2.2.2.1, x1.2.2.2.2.2.2.2.2.2.1, x1.2.2.2.2.2.2.2.2.2.2.1, x1.2.2.2.2.2.2.2.2.2.2.2.1, x1.2.2.2.2.2.2.2.2.2.2.2.2.1, x1.2.2.2.2.2.2.2.2.2.2.2.2.2.1, x1.2.2.2.2.2.2.2.2.2.2.2.2.2.2.1, x1.2.2.2.2.2.2.2.2.2.2.2.2.2.2.2.1, x1.2.2.2.2.2.2.2.2.2.2.2.2.2.2.2.2.1, x1.2.2.2.2.2.2.2.2.2.2.2.2.2.2.2.2.2.1, x1.2.2.2.2.2.2.2.2.2.2.2.2.2.2.2.2.2.2.1, x1.2.2.2.2.2.2.2.2.2.2.2.2.2.2.2.2.2.2.2.1, x1.2.2.2.2.2.2.2.2.2.2.2.2.2.2.2.2.2.2.2.2))) Z 0 4 dX5_syncAll_12 (mm wm7) inx_X5 tyX5_ok nmX5 rfl (by decide) rfl rfl rfl rfl rfl rfl (Nat.le_of_ble_eq_true rfl) rfl ?_
  refine g_aload_n (pc := 15) Z 1 dX5_syncAll_15 rfl ?_
  refine g_dup (pc := 16) Z dX5_syncAll_16 rfl ?_
  refine g_get (pc := 17) (v := .int x1.2.2.2.2.2.2.2.2.2.2.2.2.2.2.2.2.2.1) (T := TX5) (N := 21) Z 0 17 dX5_syncAll_17 (mm wm28) inx_X5 rfl (by decide) rfl rfl rfl ?_
  refine g_iconst (pc := 20) (v := 1) Z dX5_syncAll_20 (by decide) ?_
  refine g_iadd (pc := 21) Z dX5_syncAll_21 ?_
  refine g_put (pc := 22) (T := TX5) (N := 21) (ws' := (wM ad ca (x1.1, x1.2.1, x1.2.2.1, x1.2.2.2.1, (0 : Int32), x1.2.2.2.2.2.1, x1.2.2.2.2.2.2.1, x1.2.2.2.2.2.2.2.1, x1.2.2.2.2.2.2.2.2.1, x1.2.2.2.2.2.2.2.2.2.1, x1.2.2.2.2.2.2.2.2.2.2.1, x1.2.2.2.2.2.2.2.2.2.2.2.1, x1.2.2.2.2.2.2.2.2.2.2.2.2.1, x1.2.2.2.2.2.2.2.2.2.2.2.2.2.1, x1.2.2.2.2.2.2.2.2.2.2.2.2.2.2.1, x1.2.2.2.2.2.2.2.2.2.2.2.2.2.2.2.1, x1.2.2.2.2.2.2.2.2.2.2.2.2.2.2.2.2.1, x1.2.2.2.2.2.2.2.2.2.2.2.2.2.2.2.2.2.1 + (1 : Int32), x1.2.2.2.2.2.2.2.2.2.2.2.2.2.2.2.2.2.2.1, x1.2.2.2.2.2.2.2.2.2.2.2.2.2.2.2.2.2.2.2.1, x1.2.2.2.2.2.2.2.2.2.2.2.2.2.2.2.2.2.2.2.2))) Z 0 17 dX5_syncAll_22 (mm wm28) inx_X5 tyX5_ok nmX5 rfl (by decide) rfl rfl rfl rfl rfl rfl (Nat.le_of_ble_eq_true rfl) rfl ?_
  refine g_iload_n (pc := 25) Z 0 dX5_syncAll_25 rfl ?_
  obtain rfl := Option.some.inj hf
  exact g_iret Z hr dX5_syncAll_26 (x1.1, x1.2.1, x1.2.2.1, x1.2.2.2.1, (0 : Int32), x1.2.2.2.2.2.1, x1.2.2.2.2.2.2.1, x1.2.2.2.2.2.2.2.1, x1.2.2.2.2.2.2.2.2.1, x1.2.2.2.2.2.2.2.2.2.1, x1.2.2.2.2.2.2.2.2.2.2.1, x1.2.2.2.2.2.2.2.2.2.2.2.1, x1.2.2.2.2.2.2.2.2.2.2.2.2.1, x1.2.2.2.2.2.2.2.2.2.2.2.2.2.1, x1.2.2.2.2.2.2.2.2.2.2.2.2.2.2.1, x1.2.2.2.2.2.2.2.2.2.2.2.2.2.2.2.1, x1.2.2.2.2.2.2.2.2.2.2.2.2.2.2.2.2.1, x1.2.2.2.2.2.2.2.2.2.2.2.2.2.2.2.2.2.1 + (1 : Int32), x1.2.2.2.2.2.2.2.2.2.2.2.2.2.2.2.2.2.2.1, x1.2.2.2.2.2.2.2.2.2.2.2.2.2.2.2.2.2.2.2.1, x1.2.2.2.2.2.2.2.2.2.2.2.2.2.2.2.2.2.2.2.2) ⟨rfl, rfl⟩ rfl
theorem wm29 : Cond.fieldLink RX5 23 "RedoHeapModel" "view" "[J" ∈ gA := wt3 173 rfl rfl
theorem wm30 : Cond.fieldLink RX5 30 "RedoHeapModel" "change" "[J" ∈ gA := wt3 175 rfl rfl
/-! RedoHeapModel.at(I)J -/
def f_Mod_at (vM : MT) (p1 : Int32) : Option (Int64) :=
  if vM.2.2.2.2.2.2.2.2.2.2.1 = true then if gI p1 1024 = true then if (vM.2.2.2.2.2.2.1 p1.toNatClampNeg) = 0 then if gI p1 1024 = true then some (vM.2.2.2.2.2.1 p1.toNatClampNeg) else none else if gI p1 1024 = true then some (vM.2.2.2.2.2.2.2.1 p1.toNatClampNeg) else none else none else if gI p1 1024 = true then some (vM.2.2.2.2.2.1 p1.toNatClampNeg) else none
abbrev cd_Mod_at : Cond := .code yX5_at cX5_at 2 (some .long)
theorem yd_Mod_at : yX5_at.cls ≠ "java/lang/invoke/MethodHandle" ∧ yX5_at.cls ≠ "java/lang/invoke/VarHandle" ∧ (parseMethodDescriptor yX5_at.desc).map (fun d => d.parameters.length) = some 1 := by decide +kernel
abbrev rm_Mod_at : Room := { frames := 0, cells := 0, slots := 0, locals := 0 }
abbrev q_Mod_at (D : va_G) (ad : Nat → Nat) (ca : Nat → ClassId) (vM : MT) (res : Int64) (A : Nat → Prop) : Array Value → State → Outcome → State → Prop := va_Ql (fun (r : Int64) (_ : Unit) => r = res) (gB D cls (tys ca) A (fun (u : Unit) => (wM ad ca vM))) A
set_option maxHeartbeats 4000000 in
set_option maxRecDepth 100000 in
theorem c_Mod_at (l : Launch) (D : va_G) (ad : Nat → Nat) (ca : Nat → ClassId) (vM : MT) (p1 : Int32) (res : Int64) (hf : f_Mod_at vM p1 = some res) (sz : Nat) : Met l yX5_at (cd_Mod_at :: gA) rm_Mod_at (va_Pc [.ref (ad 20), .int p1] (gP D cls (tys ca) (wM ad ca vM) sz)) (q_Mod_at D ad ca vM res (va_A (wM ad ca vM) sz)) 0 0 (va_A (wM ad ca vM) sz) := by
  refine g_met (cc := cX5_at) (Qc := q_Mod_at D ad ca vM res) (lv := [(0, .ref (ad 20)), (1, .int p1)]) (own := RX5) (by decide) rfl rfl (Nat.le_of_ble_eq_true rfl) rfl sz ?_
  intro p e s m args below meth c A Z hr hnm
  unfold f_Mod_at at hf
  refine g_aload_n (pc := 0) Z 0 dX5_at_0 rfl ?_
  refine g_get (pc := 1) (v := .int (bI vM.2.2.2.2.2.2.2.2.2.2.1)) (T := TX5) (N := 21) Z 0 10 dX5_at_1 (mm wm4) inx_X5 rfl (by decide) rfl rfl rfl ?_
  refine g_if_eq (pc := 4) (tgt := 25) Z dX5_at_4 (by decide) (fun c1 => ?_) (fun c1 => ?_)
  · replace hf := gIfN (bI_z c1) hf
    refine g_aload_n (pc := 25) Z 0 dX5_at_25 rfl ?_
    refine g_get (pc := 26) (v := .ref (ad 25)) (T := TX5) (N := 21) Z 0 5 dX5_at_26 (mm wm29) inx_X5 rfl (by decide) rfl rfl rfl ?_
    refine g_iload_n (pc := 29) Z 1 dX5_at_29 rfl ?_
    obtain ⟨b2, hf⟩ := gGuard hf
    refine g_lald (pc := 30) (f := vM.2.2.2.2.2.1) Z 5 0 dX5_at_30 rfl rfl (gI_in b2) ?_
    obtain rfl := Option.some.inj hf
    exact g_lret Z hr dX5_at_31 () rfl rfl
  · replace hf := gIfP (bI_nz c1) hf
    refine g_aload_n (pc := 7) Z 0 dX5_at_7 rfl ?_
    refine g_get (pc := 8) (v := .ref (ad 26)) (T := TX5) (N := 21) Z 0 6 dX5_at_8 (mm wm6) inx_X5 rfl (by decide) rfl rfl rfl ?_
    refine g_iload_n (pc := 11) Z 1 dX5_at_11 rfl ?_
    obtain ⟨b3, hf⟩ := gGuard hf
    refine g_zald (pc := 12) (f := vM.2.2.2.2.2.2.1) Z 6 2 dX5_at_12 rfl rfl (gI_in b3) ?_
    refine g_if_eq (pc := 13) (tgt := 25) Z dX5_at_13 (by decide) (fun c4 => ?_) (fun c4 => ?_)
    · replace hf := gIfP c4 hf
      refine g_aload_n (pc := 25) Z 0 dX5_at_25 rfl ?_
      refine g_get (pc := 26) (v := .ref (ad 25)) (T := TX5) (N := 21) Z 0 5 dX5_at_26 (mm wm29) inx_X5 rfl (by decide) rfl rfl rfl ?_
      refine g_iload_n (pc := 29) Z 1 dX5_at_29 rfl ?_
      obtain ⟨b5, hf⟩ := gGuard hf
      refine g_lald (pc := 30) (f := vM.2.2.2.2.2.1) Z 5 0 dX5_at_30 rfl rfl (gI_in b5) ?_
      obtain rfl := Option.some.inj hf
      exact g_lret Z hr dX5_at_31 () rfl rfl
    · replace hf := gIfN c4 hf
      refine g_aload_n (pc := 16) Z 0 dX5_at_16 rfl ?_
      refine g_get (pc := 17) (v := .ref (ad 27)) (T := TX5) (N := 21) Z 0 7 dX5_at_17 (mm wm30) inx_X5 rfl (by decide) rfl rfl rfl ?_
      refine g_iload_n (pc := 20) Z 1 dX5_at_20 rfl ?_
      obtain ⟨b6, hf⟩ := gGuard hf
      refine g_lald (pc := 21) (f := vM.2.2.2.2.2.2.2.1) Z 7 0 dX5_at_21 rfl rfl (gI_in b6) ?_
      refine g_goto (pc := 22) (tgt := 31) Z dX5_at_22 (by decide) ?_
      obtain rfl := Option.some.inj hf
      exact g_lret Z hr dX5_at_31 () rfl rfl
theorem wm31 : Cond.methodLink RX5 78 yX5_at ∈ gA := wt4 16 rfl rfl
theorem wm32 : Cond.instanceMethod yX5_at ∈ gA := wt4 18 rfl rfl
theorem wm33 : Cond.selects RX5 yX5_at yX5_at ∈ gA := wtS 19 rfl rfl
theorem wm34 : cd_Mod_at ∈ gA := wt4 19 rfl rfl
theorem wm35 : Jvm.Cond.constantLong RX5 82 (2) ∈ gA := wt4 20 rfl rfl
/-! RedoHeapModel.sizeAt(I)I -/
def f_Mod_sizeAt (vM : MT) (p1 : Int32) : Option (Int32) :=
  (f_Mod_at vM p1).bind fun x1 => some ((x1 / (2 : Int64)).toInt32)
abbrev cd_Mod_sizeAt : Cond := .code yX5_sizeAt cX5_sizeAt 2 (some .int)
theorem yd_Mod_sizeAt : yX5_sizeAt.cls ≠ "java/lang/invoke/MethodHandle" ∧ yX5_sizeAt.cls ≠ "java/lang/invoke/VarHandle" ∧ (parseMethodDescriptor yX5_sizeAt.desc).map (fun d => d.parameters.length) = some 1 := by decide +kernel
abbrev rm_Mod_sizeAt : Room := { frames := 1, cells := 0, slots := 0, locals := 21 }
abbrev q_Mod_sizeAt (D : va_G) (ad : Nat → Nat) (ca : Nat → ClassId) (vM : MT) (res : Int32) (A : Nat → Prop) : Array Value → State → Outcome → State → Prop := va_Qi (fun (r : Int32) (_ : Unit) => r = res) (gB D cls (tys ca) A (fun (u : Unit) => (wM ad ca vM))) A
set_option maxHeartbeats 4000000 in
set_option maxRecDepth 100000 in
theorem c_Mod_sizeAt (l : Launch) (D : va_G) (ad : Nat → Nat) (ca : Nat → ClassId) (vM : MT) (p1 : Int32) (res : Int32) (hf : f_Mod_sizeAt vM p1 = some res) (sz : Nat) : Met l yX5_sizeAt (cd_Mod_sizeAt :: gA) rm_Mod_sizeAt (va_Pc [.ref (ad 20), .int p1] (gP D cls (tys ca) (wM ad ca vM) sz)) (q_Mod_sizeAt D ad ca vM res (va_A (wM ad ca vM) sz)) 0 0 (va_A (wM ad ca vM) sz) := by
  refine g_met (cc := cX5_sizeAt) (Qc := q_Mod_sizeAt D ad ca vM res) (lv := [(0, .ref (ad 20)), (1, .int p1)]) (own := RX5) (by decide) rfl rfl (Nat.le_of_ble_eq_true rfl) rfl sz ?_
  intro p e s m args below meth c A Z hr hnm
  unfold f_Mod_sizeAt at hf
  refine g_aload_n (pc := 0) Z 0 dX5_sizeAt_0 rfl ?_
  refine g_iload_n (pc := 1) Z 1 dX5_sizeAt_1 rfl ?_
  obtain ⟨x1, h2, hf⟩ := Option.bind_eq_some_iff.mp hf
  refine g_calll (pc := 2) (ws2 := fun u => (wM ad ca vM)) (wr := ([] : va_W)) Z [0, 1, 2, 3, 4, 5, 6, 7] [] [0, 1, 2, 3, 4, 5, 6, 7] (g_runV Z (c_Mod_at l D ad ca vM p1 x1 h2) (cwV 1 Z.2.2.2.2.1 (gg_V wm31 wm32 wm33 wm11 wm34) rfl rfl rfl (yv_of rfl yd_Mod_at) ⟨Nat.le_of_ble_eq_true rfl, Nat.le_of_ble_eq_true rfl⟩) [0, 1, 2, 3, 4, 5, 6, 7] rfl (by decide) 0 rfl rfl rfl rfl rfl (Nat.le_of_ble_eq_true rfl) dX5_sizeAt_2 ⟨Nat.le_of_ble_eq_true rfl, Nat.le_of_ble_eq_true rfl⟩) rfl rfl (by decide) (by decide) (by decide) (fun _ => rfl) (fun r u hu => ?_)
  obtain rfl := hu.symm
  refine g_ldc2 (pc := 5) (v := 2) Z dX5_sizeAt_5 (mm wm35) ?_
  refine g_ldiv (pc := 8) Z dX5_sizeAt_8 (by decide) ?_
  refine g_l2i (pc := 9) Z dX5_sizeAt_9 ?_
  obtain rfl := Option.some.inj hf
  exact g_iret Z hr dX5_sizeAt_10 () rfl rfl
/-! RedoHeapModel.isUsedAt(I)Z -/
def f_Mod_isUsedAt (vM : MT) (p1 : Int32) : Option (Bool) :=
  (f_Mod_at vM p1).bind fun x1 => if (lg_cmp (x1 - x1 / (2 : Int64) * (2 : Int64)) (0 : Int64)) = 0 then some false else some true
abbrev cd_Mod_isUsedAt : Cond := .code yX5_isUsedAt cX5_isUsedAt 2 (some .boolean)
theorem yd_Mod_isUsedAt : yX5_isUsedAt.cls ≠ "java/lang/invoke/MethodHandle" ∧ yX5_isUsedAt.cls ≠ "java/lang/invoke/VarHandle" ∧ (parseMethodDescriptor yX5_isUsedAt.desc).map (fun d => d.parameters.length) = some 1 := by decide +kernel
abbrev rm_Mod_isUsedAt : Room := { frames := 1, cells := 0, slots := 0, locals := 21 }
abbrev q_Mod_isUsedAt (D : va_G) (ad : Nat → Nat) (ca : Nat → ClassId) (vM : MT) (res : Bool) (A : Nat → Prop) : Array Value → State → Outcome → State → Prop := va_Qi (fun (r : Int32) (_ : Unit) => r = bI res) (gB D cls (tys ca) A (fun (u : Unit) => (wM ad ca vM))) A
set_option maxHeartbeats 4000000 in
set_option maxRecDepth 100000 in
theorem c_Mod_isUsedAt (l : Launch) (D : va_G) (ad : Nat → Nat) (ca : Nat → ClassId) (vM : MT) (p1 : Int32) (res : Bool) (hf : f_Mod_isUsedAt vM p1 = some res) (sz : Nat) : Met l yX5_isUsedAt (cd_Mod_isUsedAt :: gA) rm_Mod_isUsedAt (va_Pc [.ref (ad 20), .int p1] (gP D cls (tys ca) (wM ad ca vM) sz)) (q_Mod_isUsedAt D ad ca vM res (va_A (wM ad ca vM) sz)) 0 0 (va_A (wM ad ca vM) sz) := by
  refine g_met (cc := cX5_isUsedAt) (Qc := q_Mod_isUsedAt D ad ca vM res) (lv := [(0, .ref (ad 20)), (1, .int p1)]) (own := RX5) (by decide) rfl rfl (Nat.le_of_ble_eq_true rfl) rfl sz ?_
  intro p e s m args below meth c A Z hr hnm
  unfold f_Mod_isUsedAt at hf
  refine g_aload_n (pc := 0) Z 0 dX5_isUsedAt_0 rfl ?_
  refine g_iload_n (pc := 1) Z 1 dX5_isUsedAt_1 rfl ?_
  obtain ⟨x1, h2, hf⟩ := Option.bind_eq_some_iff.mp hf
  refine g_calll (pc := 2) (ws2 := fun u => (wM ad ca vM)) (wr := ([] : va_W)) Z [0, 1, 2, 3, 4, 5, 6, 7] [] [0, 1, 2, 3, 4, 5, 6, 7] (g_runV Z (c_Mod_at l D ad ca vM p1 x1 h2) (cwV 1 Z.2.2.2.2.1 (gg_V wm31 wm32 wm33 wm11 wm34) rfl rfl rfl (yv_of rfl yd_Mod_at) ⟨Nat.le_of_ble_eq_true rfl, Nat.le_of_ble_eq_true rfl⟩) [0, 1, 2, 3, 4, 5, 6, 7] rfl (by decide) 0 rfl rfl rfl rfl rfl (Nat.le_of_ble_eq_true rfl) dX5_isUsedAt_2 ⟨Nat.le_of_ble_eq_true rfl, Nat.le_of_ble_eq_true rfl⟩) rfl rfl (by decide) (by decide) (by decide) (fun _ => rfl) (fun r u hu => ?_)
  obtain rfl := hu.symm
  refine g_ldc2 (pc := 5) (v := 2) Z dX5_isUsedAt_5 (mm wm35) ?_
  refine g_lrem (pc := 8) Z dX5_isUsedAt_8 (by decide) ?_
  refine g_lconst (pc := 9) (v := 0) Z dX5_isUsedAt_9 (by decide) ?_
  refine g_lcmp (pc := 10) Z dX5_isUsedAt_10 ?_
  refine g_if_eq (pc := 11) (tgt := 18) Z dX5_isUsedAt_11 (by decide) (fun c3 => ?_) (fun c3 => ?_)
  · replace hf := gIfP c3 hf
    refine g_iconst (pc := 18) (v := 0) Z dX5_isUsedAt_18 (by decide) ?_
    obtain rfl := Option.some.inj hf
    exact g_zret Z hr rfl dX5_isUsedAt_19 () rfl rfl
  · replace hf := gIfN c3 hf
    refine g_iconst (pc := 14) (v := 1) Z dX5_isUsedAt_14 (by decide) ?_
    refine g_goto (pc := 15) (tgt := 19) Z dX5_isUsedAt_15 (by decide) ?_
    obtain rfl := Option.some.inj hf
    exact g_zret Z hr rfl dX5_isUsedAt_19 () rfl rfl
theorem wm36 : Cond.methodLink RX5 88 yX5_isUsedAt ∈ gA := wt4 12 rfl rfl
theorem wm37 : Cond.instanceMethod yX5_isUsedAt ∈ gA := wt4 14 rfl rfl
theorem wm38 : Cond.selects RX5 yX5_isUsedAt yX5_isUsedAt ∈ gA := wtS 18 rfl rfl
theorem wm39 : cd_Mod_isUsedAt ∈ gA := wt4 15 rfl rfl
theorem wm40 : Cond.methodLink RX5 84 yX5_sizeAt ∈ gA := wt4 21 rfl rfl
theorem wm41 : Cond.instanceMethod yX5_sizeAt ∈ gA := wt4 23 rfl rfl
theorem wm42 : Cond.selects RX5 yX5_sizeAt yX5_sizeAt ∈ gA := wtS 20 rfl rfl
theorem wm43 : cd_Mod_sizeAt ∈ gA := wt4 24 rfl rfl
/-! RedoHeapModel.usedHead(I)I -/
def f_Mod_usedHead_4 (N : Nat) (vM : MT) : Nat → Int32 → Int32 → Option (Int32)
  | 0, _, _ => none
  | n + 1, y1, y2 => if (1024 : Int32) ≤ y2 then if (1024 : Int32) ≤ y2 then some (-1 : Int32) else (f_Mod_isUsedAt vM y2).bind fun x3 => if x3 = true then some y2 else some (-1 : Int32) else if (y2 + (1 : Int32)) = y1 then if (1024 : Int32) ≤ y2 then some (-1 : Int32) else (f_Mod_isUsedAt vM y2).bind fun x8 => if x8 = true then some y2 else some (-1 : Int32) else (f_Mod_sizeAt vM y2).bind fun x11 => f_Mod_usedHead_4 N vM n y1 (y2 + (x11 + (1 : Int32)))
def f_Mod_usedHead (N : Nat) (vM : MT) (p1 : Int32) : Option (Int32) :=
  f_Mod_usedHead_4 N vM N p1 (176 : Int32)
abbrev cd_Mod_usedHead : Cond := .code yX5_usedHead cX5_usedHead 3 (some .int)
theorem yd_Mod_usedHead : yX5_usedHead.cls ≠ "java/lang/invoke/MethodHandle" ∧ yX5_usedHead.cls ≠ "java/lang/invoke/VarHandle" ∧ (parseMethodDescriptor yX5_usedHead.desc).map (fun d => d.parameters.length) = some 1 := by decide +kernel
abbrev rm_Mod_usedHead : Room := { frames := 2, cells := 0, slots := 0, locals := 42 }
abbrev q_Mod_usedHead (D : va_G) (ad : Nat → Nat) (ca : Nat → ClassId) (vM : MT) (res : Int32) (A : Nat → Prop) : Array Value → State → Outcome → State → Prop := va_Qi (fun (r : Int32) (_ : Unit) => r = res) (gB D cls (tys ca) A (fun (u : Unit) => (wM ad ca vM))) A
set_option maxHeartbeats 4000000 in
set_option maxRecDepth 100000 in
theorem w_Mod_usedHead_4 {p : Program} {l : Launch} {e : Env} {s : State} {m : MethodId} {args : Array Value} {below : List Frame} {meth : Method} {c : Code} {D : va_G} {ad : Nat → Nat} {ca : Nat → ClassId} {A : Nat → Prop} {N : Nat} {vM : MT} {res : Int32} (Z : gZ p s m args meth c cX5_usedHead 3 RX5 (cd_Mod_usedHead :: gA) A D cls (tys ca)) (hr : meth.sig.returnType = (some .int)) : ∀ (n : Nat) (y1 : Int32) (y2 : Int32), f_Mod_usedHead_4 N vM n y1 y2 = some res → gW p l e rm_Mod_usedHead s m args below meth c 3 A D cls 0 0 (MQ below (q_Mod_usedHead D ad ca vM res A) args s 0 0 A) (wM ad ca vM) [(0, .ref (ad 20)), (1, .int y1), (2, .int y2)] 4 [] := by
  intro n
  induction n with
  | zero =>
    intro y1 y2 hf
    exact absurd hf (by rw [f_Mod_usedHead_4]; exact fun h => by cases h)
  | succ n ih =>
    intro y1 y2 hf
    rw [f_Mod_usedHead_4] at hf
    refine g_iload_n (pc := 4) Z 2 dX5_usedHead_4 rfl ?_
    refine g_sipush (pc := 5) (v := 1024) Z dX5_usedHead_5 (by decide) ?_
    refine g_icmp_ge (pc := 8) (tgt := 31) Z dX5_usedHead_8 (by decide) (fun c1 => ?_) (fun c1 => ?_)
    · replace hf := gIfP c1 hf
      refine g_iload_n (pc := 31) Z 2 dX5_usedHead_31 rfl ?_
      refine g_sipush (pc := 32) (v := 1024) Z dX5_usedHead_32 (by decide) ?_
      refine g_icmp_ge (pc := 35) (tgt := 50) Z dX5_usedHead_35 (by decide) (fun c2 => ?_) (fun c2 => ?_)
      · replace hf := gIfP c2 hf
        refine g_iconst (pc := 50) (v := -1) Z dX5_usedHead_50 (by decide) ?_
        obtain rfl := Option.some.inj hf
        exact g_iret Z hr dX5_usedHead_51 () rfl rfl
      · replace hf := gIfN c2 hf
        refine g_aload_n (pc := 38) Z 0 dX5_usedHead_38 rfl ?_
        refine g_iload_n (pc := 39) Z 2 dX5_usedHead_39 rfl ?_
        obtain ⟨x3, h4, hf⟩ := Option.bind_eq_some_iff.mp hf
        refine g_calli (pc := 40) (ws2 := fun u => (wM ad ca vM)) (wr := ([] : va_W)) Z [0, 1, 2, 3, 4, 5, 6, 7] [] [0, 1, 2, 3, 4, 5, 6, 7] (g_runV Z (c_Mod_isUsedAt l D ad ca vM y2 x3 h4) (cwV 1 Z.2.2.2.2.1 (gg_V wm36 wm37 wm38 wm11 wm39) rfl rfl rfl (yv_of rfl yd_Mod_isUsedAt) ⟨Nat.le_of_ble_eq_true rfl, Nat.le_of_ble_eq_true rfl⟩) [0, 1, 2, 3, 4, 5, 6, 7] rfl (by decide) 0 rfl rfl rfl rfl rfl (Nat.le_of_ble_eq_true rfl) dX5_usedHead_40 ⟨Nat.le_of_ble_eq_true rfl, Nat.le_of_ble_eq_true rfl⟩) rfl rfl (by decide) (by decide) (by decide) (fun _ => rfl) (fun r u hu => ?_)
        obtain rfl := hu.symm
        refine g_if_eq (pc := 43) (tgt := 50) Z dX5_usedHead_43 (by decide) (fun c5 => ?_) (fun c5 => ?_)
        · replace hf := gIfN (bI_z c5) hf
          refine g_iconst (pc := 50) (v := -1) Z dX5_usedHead_50 (by decide) ?_
          obtain rfl := Option.some.inj hf
          exact g_iret Z hr dX5_usedHead_51 () rfl rfl
        · replace hf := gIfP (bI_nz c5) hf
          refine g_iload_n (pc := 46) Z 2 dX5_usedHead_46 rfl ?_
          refine g_goto (pc := 47) (tgt := 51) Z dX5_usedHead_47 (by decide) ?_
          obtain rfl := Option.some.inj hf
          exact g_iret Z hr dX5_usedHead_51 () rfl rfl
    · replace hf := gIfN c1 hf
      refine g_iload_n (pc := 11) Z 2 dX5_usedHead_11 rfl ?_
      refine g_iconst (pc := 12) (v := 1) Z dX5_usedHead_12 (by decide) ?_
      refine g_iadd (pc := 13) Z dX5_usedHead_13 ?_
      refine g_iload_n (pc := 14) Z 1 dX5_usedHead_14 rfl ?_
      refine g_icmp_eq (pc := 15) (tgt := 31) Z dX5_usedHead_15 (by decide) (fun c6 => ?_) (fun c6 => ?_)
      · replace hf := gIfP c6 hf
        refine g_iload_n (pc := 31) Z 2 dX5_usedHead_31 rfl ?_
        refine g_sipush (pc := 32) (v := 1024) Z dX5_usedHead_32 (by decide) ?_
        refine g_icmp_ge (pc := 35) (tgt := 50) Z dX5_usedHead_35 (by decide) (fun c7 => ?_) (fun c7 => ?_)
        · replace hf := gIfP c7 hf
          refine g_iconst (pc := 50) (v := -1) Z dX5_usedHead_50 (by decide) ?_
          obtain rfl := Option.some.inj hf
          exact g_iret Z hr dX5_usedHead_51 () rfl rfl
        · replace hf := gIfN c7 hf
          refine g_aload_n (pc := 38) Z 0 dX5_usedHead_38 rfl ?_
          refine g_iload_n (pc := 39) Z 2 dX5_usedHead_39 rfl ?_
          obtain ⟨x8, h9, hf⟩ := Option.bind_eq_some_iff.mp hf
          refine g_calli (pc := 40) (ws2 := fun u => (wM ad ca vM)) (wr := ([] : va_W)) Z [0, 1, 2, 3, 4, 5, 6, 7] [] [0, 1, 2, 3, 4, 5, 6, 7] (g_runV Z (c_Mod_isUsedAt l D ad ca vM y2 x8 h9) (cwV 1 Z.2.2.2.2.1 (gg_V wm36 wm37 wm38 wm11 wm39) rfl rfl rfl (yv_of rfl yd_Mod_isUsedAt) ⟨Nat.le_of_ble_eq_true rfl, Nat.le_of_ble_eq_true rfl⟩) [0, 1, 2, 3, 4, 5, 6, 7] rfl (by decide) 0 rfl rfl rfl rfl rfl (Nat.le_of_ble_eq_true rfl) dX5_usedHead_40 ⟨Nat.le_of_ble_eq_true rfl, Nat.le_of_ble_eq_true rfl⟩) rfl rfl (by decide) (by decide) (by decide) (fun _ => rfl) (fun r u hu => ?_)
          obtain rfl := hu.symm
          refine g_if_eq (pc := 43) (tgt := 50) Z dX5_usedHead_43 (by decide) (fun c10 => ?_) (fun c10 => ?_)
          · replace hf := gIfN (bI_z c10) hf
            refine g_iconst (pc := 50) (v := -1) Z dX5_usedHead_50 (by decide) ?_
            obtain rfl := Option.some.inj hf
            exact g_iret Z hr dX5_usedHead_51 () rfl rfl
          · replace hf := gIfP (bI_nz c10) hf
            refine g_iload_n (pc := 46) Z 2 dX5_usedHead_46 rfl ?_
            refine g_goto (pc := 47) (tgt := 51) Z dX5_usedHead_47 (by decide) ?_
            obtain rfl := Option.some.inj hf
            exact g_iret Z hr dX5_usedHead_51 () rfl rfl
      · replace hf := gIfN c6 hf
        refine g_iload_n (pc := 18) Z 2 dX5_usedHead_18 rfl ?_
        refine g_aload_n (pc := 19) Z 0 dX5_usedHead_19 rfl ?_
        refine g_iload_n (pc := 20) Z 2 dX5_usedHead_20 rfl ?_
        obtain ⟨x11, h12, hf⟩ := Option.bind_eq_some_iff.mp hf
        refine g_calli (pc := 21) (ws2 := fun u => (wM ad ca vM)) (wr := ([] : va_W)) Z [0, 1, 2, 3, 4, 5, 6, 7] [] [0, 1, 2, 3, 4, 5, 6, 7] (g_runV Z (c_Mod_sizeAt l D ad ca vM y2 x11 h12) (cwV 1 Z.2.2.2.2.1 (gg_V wm40 wm41 wm42 wm11 wm43) rfl rfl rfl (yv_of rfl yd_Mod_sizeAt) ⟨Nat.le_of_ble_eq_true rfl, Nat.le_of_ble_eq_true rfl⟩) [0, 1, 2, 3, 4, 5, 6, 7] rfl (by decide) 0 rfl rfl rfl rfl rfl (Nat.le_of_ble_eq_true rfl) dX5_usedHead_21 ⟨Nat.le_of_ble_eq_true rfl, Nat.le_of_ble_eq_true rfl⟩) rfl rfl (by decide) (by decide) (by decide) (fun _ => rfl) (fun r u hu => ?_)
        obtain rfl := hu.symm
        refine g_iconst (pc := 24) (v := 1) Z dX5_usedHead_24 (by decide) ?_
        refine g_iadd (pc := 25) Z dX5_usedHead_25 ?_
        refine g_iadd (pc := 26) Z dX5_usedHead_26 ?_
        refine g_istore_n (pc := 27) (lv' := [(2, .int (y2 + (x11 + (1 : Int32)))), (0, .ref (ad 20)), (1, .int y1)]) Z dX5_usedHead_27 (by decide) rfl ?_
        refine g_goto (pc := 28) (tgt := 4) Z dX5_usedHead_28 (by decide) ?_
        refine g_locals (lv2 := [(0, .ref (ad 20)), (1, .int y1), (2, .int (y2 + (x11 + (1 : Int32))))]) [1, 2, 0] rfl ?_
        exact ih _ _ hf
set_option maxHeartbeats 4000000 in
set_option maxRecDepth 100000 in
theorem c_Mod_usedHead (l : Launch) (D : va_G) (ad : Nat → Nat) (ca : Nat → ClassId) (N : Nat) (vM : MT) (p1 : Int32) (res : Int32) (hf : f_Mod_usedHead N vM p1 = some res) (sz : Nat) : Met l yX5_usedHead (cd_Mod_usedHead :: gA) rm_Mod_usedHead (va_Pc [.ref (ad 20), .int p1] (gP D cls (tys ca) (wM ad ca vM) sz)) (q_Mod_usedHead D ad ca vM res (va_A (wM ad ca vM) sz)) 0 0 (va_A (wM ad ca vM) sz) := by
  refine g_met (cc := cX5_usedHead) (Qc := q_Mod_usedHead D ad ca vM res) (lv := [(0, .ref (ad 20)), (1, .int p1)]) (own := RX5) (by decide) rfl rfl (Nat.le_of_ble_eq_true rfl) rfl sz ?_
  intro p e s m args below meth c A Z hr hnm
  unfold f_Mod_usedHead at hf
  refine g_sipush (pc := 0) (v := 176) Z dX5_usedHead_0 (by decide) ?_
  refine g_istore_n (pc := 3) (lv' := [(2, .int (176 : Int32)), (0, .ref (ad 20)), (1, .int p1)]) Z dX5_usedHead_3 (by decide) rfl ?_
  refine g_locals (lv2 := [(0, .ref (ad 20)), (1, .int p1), (2, .int (176 : Int32))]) [1, 2, 0] rfl ?_
  exact w_Mod_usedHead_4 Z hr N _ _ hf
/-! RedoHeapModel.isMore(IJ)Z -/
def f_Mod_isMore (vM : MT) (p1 : Int32) (p2 : Int64) : Option (Bool) :=
  if gI p1 1024 = true then if (vM.2.2.2.2.2.2.1 p1.toNatClampNeg) = 0 then if gI p1 1024 = true then if (lg_cmp (vM.2.2.2.2.2.1 p1.toNatClampNeg) p2) = 0 then some false else some true else none else some false else none
abbrev cd_Mod_isMore : Cond := .code yX5_isMore cX5_isMore 4 (some .boolean)
theorem yd_Mod_isMore : yX5_isMore.cls ≠ "java/lang/invoke/MethodHandle" ∧ yX5_isMore.cls ≠ "java/lang/invoke/VarHandle" ∧ (parseMethodDescriptor yX5_isMore.desc).map (fun d => d.parameters.length) = some 2 := by decide +kernel
abbrev rm_Mod_isMore : Room := { frames := 0, cells := 0, slots := 0, locals := 0 }
abbrev q_Mod_isMore (D : va_G) (ad : Nat → Nat) (ca : Nat → ClassId) (vM : MT) (res : Bool) (A : Nat → Prop) : Array Value → State → Outcome → State → Prop := va_Qi (fun (r : Int32) (_ : Unit) => r = bI res) (gB D cls (tys ca) A (fun (u : Unit) => (wM ad ca vM))) A
set_option maxHeartbeats 4000000 in
set_option maxRecDepth 100000 in
theorem c_Mod_isMore (l : Launch) (D : va_G) (ad : Nat → Nat) (ca : Nat → ClassId) (vM : MT) (p1 : Int32) (p2 : Int64) (res : Bool) (hf : f_Mod_isMore vM p1 p2 = some res) (sz : Nat) : Met l yX5_isMore (cd_Mod_isMore :: gA) rm_Mod_isMore (va_Pc [.ref (ad 20), .int p1, .long p2] (gP D cls (tys ca) (wM ad ca vM) sz)) (q_Mod_isMore D ad ca vM res (va_A (wM ad ca vM) sz)) 0 0 (va_A (wM ad ca vM) sz) := by
  refine g_met (cc := cX5_isMore) (Qc := q_Mod_isMore D ad ca vM res) (lv := [(0, .ref (ad 20)), (1, .int p1), (2, .long p2)]) (own := RX5) (by decide) rfl rfl (Nat.le_of_ble_eq_true rfl) rfl sz ?_
  intro p e s m args below meth c A Z hr hnm
  unfold f_Mod_isMore at hf
  refine g_aload_n (pc := 0) Z 0 dX5_isMore_0 rfl ?_
  refine g_get (pc := 1) (v := .ref (ad 26)) (T := TX5) (N := 21) Z 0 6 dX5_isMore_1 (mm wm6) inx_X5 rfl (by decide) rfl rfl rfl ?_
  refine g_iload_n (pc := 4) Z 1 dX5_isMore_4 rfl ?_
  obtain ⟨b1, hf⟩ := gGuard hf
  refine g_zald (pc := 5) (f := vM.2.2.2.2.2.2.1) Z 6 2 dX5_isMore_5 rfl rfl (gI_in b1) ?_
  refine g_if_ne (pc := 6) (tgt := 24) Z dX5_isMore_6 (by decide) (fun c2 => ?_) (fun c2 => ?_)
  · replace hf := gIfN c2 hf
    refine g_iconst (pc := 24) (v := 0) Z dX5_isMore_24 (by decide) ?_
    obtain rfl := Option.some.inj hf
    exact g_zret Z hr rfl dX5_isMore_25 () rfl rfl
  · replace hf := gIfP c2 hf
    refine g_aload_n (pc := 9) Z 0 dX5_isMore_9 rfl ?_
    refine g_get (pc := 10) (v := .ref (ad 25)) (T := TX5) (N := 21) Z 0 5 dX5_isMore_10 (mm wm29) inx_X5 rfl (by decide) rfl rfl rfl ?_
    refine g_iload_n (pc := 13) Z 1 dX5_isMore_13 rfl ?_
    obtain ⟨b3, hf⟩ := gGuard hf
    refine g_lald (pc := 14) (f := vM.2.2.2.2.2.1) Z 5 0 dX5_isMore_14 rfl rfl (gI_in b3) ?_
    refine g_lload_n (pc := 15) Z 2 dX5_isMore_15 rfl ?_
    refine g_lcmp (pc := 16) Z dX5_isMore_16 ?_
    refine g_if_eq (pc := 17) (tgt := 24) Z dX5_isMore_17 (by decide) (fun c4 => ?_) (fun c4 => ?_)
    · replace hf := gIfP c4 hf
      refine g_iconst (pc := 24) (v := 0) Z dX5_isMore_24 (by decide) ?_
      obtain rfl := Option.some.inj hf
      exact g_zret Z hr rfl dX5_isMore_25 () rfl rfl
    · replace hf := gIfN c4 hf
      refine g_iconst (pc := 20) (v := 1) Z dX5_isMore_20 (by decide) ?_
      refine g_goto (pc := 21) (tgt := 25) Z dX5_isMore_21 (by decide) ?_
      obtain rfl := Option.some.inj hf
      exact g_zret Z hr rfl dX5_isMore_25 () rfl rfl
/-! RedoHeapModel.become(IJ)V -/
def f_Mod_become (vM : MT) (p1 : Int32) (p2 : Int64) : Option (MT) :=
  if gI p1 1024 = true then if (vM.2.2.2.2.2.2.1 p1.toNatClampNeg) = 0 then if gI p1 1024 = true then if (lg_cmp (vM.2.2.2.2.2.1 p1.toNatClampNeg) p2) = 0 then some vM else if gI p1 1024 = true then if (vM.2.2.2.2.2.2.1 p1.toNatClampNeg) = 0 then if gI p1 1024 = true then if gI p1 1024 = true then some (vM.1, vM.2.1, vM.2.2.1, vM.2.2.2.1, vM.2.2.2.2.1, vM.2.2.2.2.2.1, upd vM.2.2.2.2.2.2.1 p1.toNatClampNeg (vp_nar .boolean (1 : Int32)), vp_updL vM.2.2.2.2.2.2.2.1 p1.toNatClampNeg p2, vM.2.2.2.2.2.2.2.2.1 + (1 : Int32), vM.2.2.2.2.2.2.2.2.2.1, vM.2.2.2.2.2.2.2.2.2.2.1, vM.2.2.2.2.2.2.2.2.2.2.2.1, vM.2.2.2.2.2.2.2.2.2.2.2.2.1, vM.2.2.2.2.2.2.2.2.2.2.2.2.2.1, vM.2.2.2.2.2.2.2.2.2.2.2.2.2.2.1, vM.2.2.2.2.2.2.2.2.2.2.2.2.2.2.2.1, vM.2.2.2.2.2.2.2.2.2.2.2.2.2.2.2.2.1, vM.2.2.2.2.2.2.2.2.2.2.2.2.2.2.2.2.2.1, vM.2.2.2.2.2.2.2.2.2.2.2.2.2.2.2.2.2.2.1, vM.2.2.2.2.2.2.2.2.2.2.2.2.2.2.2.2.2.2.2.1, vM.2.2.2.2.2.2.2.2.2.2.2.2.2.2.2.2.2.2.2.2) else none else none else if gI p1 1024 = true then if gI p1 1024 = true then some (vM.1, vM.2.1, vM.2.2.1, vM.2.2.2.1, vM.2.2.2.2.1, vM.2.2.2.2.2.1, upd vM.2.2.2.2.2.2.1 p1.toNatClampNeg (vp_nar .boolean (1 : Int32)), vp_updL vM.2.2.2.2.2.2.2.1 p1.toNatClampNeg p2, vM.2.2.2.2.2.2.2.2.1 + (0 : Int32), vM.2.2.2.2.2.2.2.2.2.1, vM.2.2.2.2.2.2.2.2.2.2.1, vM.2.2.2.2.2.2.2.2.2.2.2.1, vM.2.2.2.2.2.2.2.2.2.2.2.2.1, vM.2.2.2.2.2.2.2.2.2.2.2.2.2.1, vM.2.2.2.2.2.2.2.2.2.2.2.2.2.2.1, vM.2.2.2.2.2.2.2.2.2.2.2.2.2.2.2.1, vM.2.2.2.2.2.2.2.2.2.2.2.2.2.2.2.2.1, vM.2.2.2.2.2.2.2.2.2.2.2.2.2.2.2.2.2.1, vM.2.2.2.2.2.2.2.2.2.2.2.2.2.2.2.2.2.2.1, vM.2.2.2.2.2.2.2.2.2.2.2.2.2.2.2.2.2.2.2.1, vM.2.2.2.2.2.2.2.2.2.2.2.2.2.2.2.2.2.2.2.2) else none else none else none else none else if gI p1 1024 = true then if (vM.2.2.2.2.2.2.1 p1.toNatClampNeg) = 0 then if gI p1 1024 = true then if gI p1 1024 = true then some (vM.1, vM.2.1, vM.2.2.1, vM.2.2.2.1, vM.2.2.2.2.1, vM.2.2.2.2.2.1, upd vM.2.2.2.2.2.2.1 p1.toNatClampNeg (vp_nar .boolean (1 : Int32)), vp_updL vM.2.2.2.2.2.2.2.1 p1.toNatClampNeg p2, vM.2.2.2.2.2.2.2.2.1 + (1 : Int32), vM.2.2.2.2.2.2.2.2.2.1, vM.2.2.2.2.2.2.2.2.2.2.1, vM.2.2.2.2.2.2.2.2.2.2.2.1, vM.2.2.2.2.2.2.2.2.2.2.2.2.1, vM.2.2.2.2.2.2.2.2.2.2.2.2.2.1, vM.2.2.2.2.2.2.2.2.2.2.2.2.2.2.1, vM.2.2.2.2.2.2.2.2.2.2.2.2.2.2.2.1, vM.2.2.2.2.2.2.2.2.2.2.2.2.2.2.2.2.1, vM.2.2.2.2.2.2.2.2.2.2.2.2.2.2.2.2.2.1, vM.2.2.2.2.2.2.2.2.2.2.2.2.2.2.2.2.2.2.1, vM.2.2.2.2.2.2.2.2.2.2.2.2.2.2.2.2.2.2.2.1, vM.2.2.2.2.2.2.2.2.2.2.2.2.2.2.2.2.2.2.2.2) else none else none else if gI p1 1024 = true then if gI p1 1024 = true then some (vM.1, vM.2.1, vM.2.2.1, vM.2.2.2.1, vM.2.2.2.2.1, vM.2.2.2.2.2.1, upd vM.2.2.2.2.2.2.1 p1.toNatClampNeg (vp_nar .boolean (1 : Int32)), vp_updL vM.2.2.2.2.2.2.2.1 p1.toNatClampNeg p2, vM.2.2.2.2.2.2.2.2.1 + (0 : Int32), vM.2.2.2.2.2.2.2.2.2.1, vM.2.2.2.2.2.2.2.2.2.2.1, vM.2.2.2.2.2.2.2.2.2.2.2.1, vM.2.2.2.2.2.2.2.2.2.2.2.2.1, vM.2.2.2.2.2.2.2.2.2.2.2.2.2.1, vM.2.2.2.2.2.2.2.2.2.2.2.2.2.2.1, vM.2.2.2.2.2.2.2.2.2.2.2.2.2.2.2.1, vM.2.2.2.2.2.2.2.2.2.2.2.2.2.2.2.2.1, vM.2.2.2.2.2.2.2.2.2.2.2.2.2.2.2.2.2.1, vM.2.2.2.2.2.2.2.2.2.2.2.2.2.2.2.2.2.2.1, vM.2.2.2.2.2.2.2.2.2.2.2.2.2.2.2.2.2.2.2.1, vM.2.2.2.2.2.2.2.2.2.2.2.2.2.2.2.2.2.2.2.2) else none else none else none else none
abbrev cd_Mod_become : Cond := .code yX5_become cX5_become 4 none
theorem yd_Mod_become : yX5_become.cls ≠ "java/lang/invoke/MethodHandle" ∧ yX5_become.cls ≠ "java/lang/invoke/VarHandle" ∧ (parseMethodDescriptor yX5_become.desc).map (fun d => d.parameters.length) = some 2 := by decide +kernel
abbrev rm_Mod_become : Room := { frames := 0, cells := 0, slots := 0, locals := 0 }
abbrev q_Mod_become (D : va_G) (ad : Nat → Nat) (ca : Nat → ClassId) (res : MT) (A : Nat → Prop) : Array Value → State → Outcome → State → Prop := va_Qv (fun (u : MT) => u = res) (gB D cls (tys ca) A (fun (u : MT) => (wM ad ca u))) A
set_option maxHeartbeats 4000000 in
set_option maxRecDepth 100000 in
theorem c_Mod_become (l : Launch) (D : va_G) (ad : Nat → Nat) (ca : Nat → ClassId) (vM : MT) (p1 : Int32) (p2 : Int64) (res : MT) (hf : f_Mod_become vM p1 p2 = some res) (sz : Nat) : Met l yX5_become (cd_Mod_become :: gA) rm_Mod_become (va_Pc [.ref (ad 20), .int p1, .long p2] (gP D cls (tys ca) (wM ad ca vM) sz)) (q_Mod_become D ad ca res (va_A (wM ad ca vM) sz)) 0 0 (va_A (wM ad ca vM) sz) := by
  refine g_met (cc := cX5_become) (Qc := q_Mod_become D ad ca res) (lv := [(0, .ref (ad 20)), (1, .int p1), (2, .long p2)]) (own := RX5) (by decide) rfl rfl (Nat.le_of_ble_eq_true rfl) rfl sz ?_
  intro p e s m args below meth c A Z hr hnm
  unfold f_Mod_become at hf
  refine g_aload_n (pc := 0) Z 0 dX5_become_0 rfl ?_
  refine g_get (pc := 1) (v := .ref (ad 26)) (T := TX5) (N := 21) Z 0 6 dX5_become_1 (mm wm6) inx_X5 rfl (by decide) rfl rfl rfl ?_
  refine g_iload_n (pc := 4) Z 1 dX5_become_4 rfl ?_
  obtain ⟨b1, hf⟩ := gGuard hf
  refine g_zald (pc := 5) (f := vM.2.2.2.2.2.2.1) Z 6 2 dX5_become_5 rfl rfl (gI_in b1) ?_
  refine g_if_ne (pc := 6) (tgt := 20) Z dX5_become_6 (by decide) (fun c2 => ?_) (fun c2 => ?_)
  · replace hf := gIfN c2 hf
    refine g_aload_n (pc := 20) Z 0 dX5_become_20 rfl ?_
    refine g_dup (pc := 21) Z dX5_become_21 rfl ?_
    refine g_get (pc := 22) (v := .int vM.2.2.2.2.2.2.2.2.1) (T := TX5) (N := 21) Z 0 8 dX5_become_22 (mm wm5) inx_X5 rfl (by decide) rfl rfl rfl ?_
    refine g_aload_n (pc := 25) Z 0 dX5_become_25 rfl ?_
    refine g_get (pc := 26) (v := .ref (ad 26)) (T := TX5) (N := 21) Z 0 6 dX5_become_26 (mm wm6) inx_X5 rfl (by decide) rfl rfl rfl ?_
    refine g_iload_n (pc := 29) Z 1 dX5_become_29 rfl ?_
    obtain ⟨b3, hf⟩ := gGuard hf
    refine g_zald (pc := 30) (f := vM.2.2.2.2.2.2.1) Z 6 2 dX5_become_30 rfl rfl (gI_in b3) ?_
    refine g_if_eq (pc := 31) (tgt := 38) Z dX5_become_31 (by decide) (fun c4 => ?_) (fun c4 => ?_)
    · replace hf := gIfP c4 hf
      refine g_iconst (pc := 38) (v := 1) Z dX5_become_38 (by decide) ?_
      refine g_iadd (pc := 39) Z dX5_become_39 ?_
      refine g_put (pc := 40) (T := TX5) (N := 21) (ws' := (wM ad ca (vM.1, vM.2.1, vM.2.2.1, vM.2.2.2.1, vM.2.2.2.2.1, vM.2.2.2.2.2.1, vM.2.2.2.2.2.2.1, vM.2.2.2.2.2.2.2.1, vM.2.2.2.2.2.2.2.2.1 + (1 : Int32), vM.2.2.2.2.2.2.2.2.2.1, vM.2.2.2.2.2.2.2.2.2.2.1, vM.2.2.2.2.2.2.2.2.2.2.2.1, vM.2.2.2.2.2.2.2.2.2.2.2.2.1, vM.2.2.2.2.2.2.2.2.2.2.2.2.2.1, vM.2.2.2.2.2.2.2.2.2.2.2.2.2.2.1, vM.2.2.2.2.2.2.2.2.2.2.2.2.2.2.2.1, vM.2.2.2.2.2.2.2.2.2.2.2.2.2.2.2.2.1, vM.2.2.2.2.2.2.2.2.2.2.2.2.2.2.2.2.2.1, vM.2.2.2.2.2.2.2.2.2.2.2.2.2.2.2.2.2.2.1, vM.2.2.2.2.2.2.2.2.2.2.2.2.2.2.2.2.2.2.2.1, vM.2.2.2.2.2.2.2.2.2.2.2.2.2.2.2.2.2.2.2.2))) Z 0 8 dX5_become_40 (mm wm5) inx_X5 tyX5_ok nmX5 rfl (by decide) rfl rfl rfl rfl rfl rfl (Nat.le_of_ble_eq_true rfl) rfl ?_
      refine g_aload_n (pc := 43) Z 0 dX5_become_43 rfl ?_
      refine g_get (pc := 44) (v := .ref (ad 26)) (T := TX5) (N := 21) Z 0 6 dX5_become_44 (mm wm6) inx_X5 rfl (by decide) rfl rfl rfl ?_
      refine g_iload_n (pc := 47) Z 1 dX5_become_47 rfl ?_
      refine g_iconst (pc := 48) (v := 1) Z dX5_become_48 (by decide) ?_
      obtain ⟨b5, hf⟩ := gGuard hf
      refine g_zast (pc := 49) (f := vM.2.2.2.2.2.2.1) (ws' := (wM ad ca (vM.1, vM.2.1, vM.2.2.1, vM.2.2.2.1, vM.2.2.2.2.1, vM.2.2.2.2.2.1, upd vM.2.2.2.2.2.2.1 p1.toNatClampNeg (vp_nar .boolean (1 : Int32)), vM.2.2.2.2.2.2.2.1, vM.2.2.2.2.2.2.2.2.1 + (1 : Int32), vM.2.2.2.2.2.2.2.2.2.1, vM.2.2.2.2.2.2.2.2.2.2.1, vM.2.2.2.2.2.2.2.2.2.2.2.1, vM.2.2.2.2.2.2.2.2.2.2.2.2.1, vM.2.2.2.2.2.2.2.2.2.2.2.2.2.1, vM.2.2.2.2.2.2.2.2.2.2.2.2.2.2.1, vM.2.2.2.2.2.2.2.2.2.2.2.2.2.2.2.1, vM.2.2.2.2.2.2.2.2.2.2.2.2.2.2.2.2.1, vM.2.2.2.2.2.2.2.2.2.2.2.2.2.2.2.2.2.1, vM.2.2.2.2.2.2.2.2.2.2.2.2.2.2.2.2.2.2.1, vM.2.2.2.2.2.2.2.2.2.2.2.2.2.2.2.2.2.2.2.1, vM.2.2.2.2.2.2.2.2.2.2.2.2.2.2.2.2.2.2.2.2))) Z 6 2 dX5_become_49 rfl rfl (gI_in b5) rfl ?_
      refine g_aload_n (pc := 50) Z 0 dX5_become_50 rfl ?_
      refine g_get (pc := 51) (v := .ref (ad 27)) (T := TX5) (N := 21) Z 0 7 dX5_become_51 (mm wm30) inx_X5 rfl (by decide) rfl rfl rfl ?_
      refine g_iload_n (pc := 54) Z 1 dX5_become_54 rfl ?_
      refine g_lload_n (pc := 55) Z 2 dX5_become_55 rfl ?_
      obtain ⟨b6, hf⟩ := gGuard hf
      refine g_last (pc := 56) (f := vM.2.2.2.2.2.2.2.1) (ws' := (wM ad ca (vM.1, vM.2.1, vM.2.2.1, vM.2.2.2.1, vM.2.2.2.2.1, vM.2.2.2.2.2.1, upd vM.2.2.2.2.2.2.1 p1.toNatClampNeg (vp_nar .boolean (1 : Int32)), vp_updL vM.2.2.2.2.2.2.2.1 p1.toNatClampNeg p2, vM.2.2.2.2.2.2.2.2.1 + (1 : Int32), vM.2.2.2.2.2.2.2.2.2.1, vM.2.2.2.2.2.2.2.2.2.2.1, vM.2.2.2.2.2.2.2.2.2.2.2.1, vM.2.2.2.2.2.2.2.2.2.2.2.2.1, vM.2.2.2.2.2.2.2.2.2.2.2.2.2.1, vM.2.2.2.2.2.2.2.2.2.2.2.2.2.2.1, vM.2.2.2.2.2.2.2.2.2.2.2.2.2.2.2.1, vM.2.2.2.2.2.2.2.2.2.2.2.2.2.2.2.2.1, vM.2.2.2.2.2.2.2.2.2.2.2.2.2.2.2.2.2.1, vM.2.2.2.2.2.2.2.2.2.2.2.2.2.2.2.2.2.2.1, vM.2.2.2.2.2.2.2.2.2.2.2.2.2.2.2.2.2.2.2.1, vM.2.2.2.2.2.2.2.2.2.2.2.2.2.2.2.2.2.2.2.2))) Z 7 0 dX5_become_56 rfl rfl (gI_in b6) rfl ?_
      obtain rfl := Option.some.inj hf
      exact g_vret Z hr dX5_become_57 (vM.1, vM.2.1, vM.2.2.1, vM.2.2.2.1, vM.2.2.2.2.1, vM.2.2.2.2.2.1, upd vM.2.2.2.2.2.2.1 p1.toNatClampNeg (vp_nar .boolean (1 : Int32)), vp_updL vM.2.2.2.2.2.2.2.1 p1.toNatClampNeg p2, vM.2.2.2.2.2.2.2.2.1 + (1 : Int32), vM.2.2.2.2.2.2.2.2.2.1, vM.2.2.2.2.2.2.2.2.2.2.1, vM.2.2.2.2.2.2.2.2.2.2.2.1, vM.2.2.2.2.2.2.2.2.2.2.2.2.1, vM.2.2.2.2.2.2.2.2.2.2.2.2.2.1, vM.2.2.2.2.2.2.2.2.2.2.2.2.2.2.1, vM.2.2.2.2.2.2.2.2.2.2.2.2.2.2.2.1, vM.2.2.2.2.2.2.2.2.2.2.2.2.2.2.2.2.1, vM.2.2.2.2.2.2.2.2.2.2.2.2.2.2.2.2.2.1, vM.2.2.2.2.2.2.2.2.2.2.2.2.2.2.2.2.2.2.1, vM.2.2.2.2.2.2.2.2.2.2.2.2.2.2.2.2.2.2.2.1, vM.2.2.2.2.2.2.2.2.2.2.2.2.2.2.2.2.2.2.2.2) rfl rfl
    · replace hf := gIfN c4 hf
      refine g_iconst (pc := 34) (v := 0) Z dX5_become_34 (by decide) ?_
      refine g_goto (pc := 35) (tgt := 39) Z dX5_become_35 (by decide) ?_
      refine g_iadd (pc := 39) Z dX5_become_39 ?_
      refine g_put (pc := 40) (T := TX5) (N := 21) (ws' := (wM ad ca (vM.1, vM.2.1, vM.2.2.1, vM.2.2.2.1, vM.2.2.2.2.1, vM.2.2.2.2.2.1, vM.2.2.2.2.2.2.1, vM.2.2.2.2.2.2.2.1, vM.2.2.2.2.2.2.2.2.1 + (0 : Int32), vM.2.2.2.2.2.2.2.2.2.1, vM.2.2.2.2.2.2.2.2.2.2.1, vM.2.2.2.2.2.2.2.2.2.2.2.1, vM.2.2.2.2.2.2.2.2.2.2.2.2.1, vM.2.2.2.2.2.2.2.2.2.2.2.2.2.1, vM.2.2.2.2.2.2.2.2.2.2.2.2.2.2.1, vM.2.2.2.2.2.2.2.2.2.2.2.2.2.2.2.1, vM.2.2.2.2.2.2.2.2.2.2.2.2.2.2.2.2.1, vM.2.2.2.2.2.2.2.2.2.2.2.2.2.2.2.2.2.1, vM.2.2.2.2.2.2.2.2.2.2.2.2.2.2.2.2.2.2.1, vM.2.2.2.2.2.2.2.2.2.2.2.2.2.2.2.2.2.2.2.1, vM.2.2.2.2.2.2.2.2.2.2.2.2.2.2.2.2.2.2.2.2))) Z 0 8 dX5_become_40 (mm wm5) inx_X5 tyX5_ok nmX5 rfl (by decide) rfl rfl rfl rfl rfl rfl (Nat.le_of_ble_eq_true rfl) rfl ?_
      refine g_aload_n (pc := 43) Z 0 dX5_become_43 rfl ?_
      refine g_get (pc := 44) (v := .ref (ad 26)) (T := TX5) (N := 21) Z 0 6 dX5_become_44 (mm wm6) inx_X5 rfl (by decide) rfl rfl rfl ?_
      refine g_iload_n (pc := 47) Z 1 dX5_become_47 rfl ?_
      refine g_iconst (pc := 48) (v := 1) Z dX5_become_48 (by decide) ?_
      obtain ⟨b7, hf⟩ := gGuard hf
      refine g_zast (pc := 49) (f := vM.2.2.2.2.2.2.1) (ws' := (wM ad ca (vM.1, vM.2.1, vM.2.2.1, vM.2.2.2.1, vM.2.2.2.2.1, vM.2.2.2.2.2.1, upd vM.2.2.2.2.2.2.1 p1.toNatClampNeg (vp_nar .boolean (1 : Int32)), vM.2.2.2.2.2.2.2.1, vM.2.2.2.2.2.2.2.2.1 + (0 : Int32), vM.2.2.2.2.2.2.2.2.2.1, vM.2.2.2.2.2.2.2.2.2.2.1, vM.2.2.2.2.2.2.2.2.2.2.2.1, vM.2.2.2.2.2.2.2.2.2.2.2.2.1, vM.2.2.2.2.2.2.2.2.2.2.2.2.2.1, vM.2.2.2.2.2.2.2.2.2.2.2.2.2.2.1, vM.2.2.2.2.2.2.2.2.2.2.2.2.2.2.2.1, vM.2.2.2.2.2.2.2.2.2.2.2.2.2.2.2.2.1, vM.2.2.2.2.2.2.2.2.2.2.2.2.2.2.2.2.2.1, vM.2.2.2.2.2.2.2.2.2.2.2.2.2.2.2.2.2.2.1, vM.2.2.2.2.2.2.2.2.2.2.2.2.2.2.2.2.2.2.2.1, vM.2.2.2.2.2.2.2.2.2.2.2.2.2.2.2.2.2.2.2.2))) Z 6 2 dX5_become_49 rfl rfl (gI_in b7) rfl ?_
      refine g_aload_n (pc := 50) Z 0 dX5_become_50 rfl ?_
      refine g_get (pc := 51) (v := .ref (ad 27)) (T := TX5) (N := 21) Z 0 7 dX5_become_51 (mm wm30) inx_X5 rfl (by decide) rfl rfl rfl ?_
      refine g_iload_n (pc := 54) Z 1 dX5_become_54 rfl ?_
      refine g_lload_n (pc := 55) Z 2 dX5_become_55 rfl ?_
      obtain ⟨b8, hf⟩ := gGuard hf
      refine g_last (pc := 56) (f := vM.2.2.2.2.2.2.2.1) (ws' := (wM ad ca (vM.1, vM.2.1, vM.2.2.1, vM.2.2.2.1, vM.2.2.2.2.1, vM.2.2.2.2.2.1, upd vM.2.2.2.2.2.2.1 p1.toNatClampNeg (vp_nar .boolean (1 : Int32)), vp_updL vM.2.2.2.2.2.2.2.1 p1.toNatClampNeg p2, vM.2.2.2.2.2.2.2.2.1 + (0 : Int32), vM.2.2.2.2.2.2.2.2.2.1, vM.2.2.2.2.2.2.2.2.2.2.1, vM.2.2.2.2.2.2.2.2.2.2.2.1, vM.2.2.2.2.2.2.2.2.2.2.2.2.1, vM.2.2.2.2.2.2.2.2.2.2.2.2.2.1, vM.2.2.2.2.2.2.2.2.2.2.2.2.2.2.1, vM.2.2.2.2.2.2.2.2.2.2.2.2.2.2.2.1, vM.2.2.2.2.2.2.2.2.2.2.2.2.2.2.2.2.1, vM.2.2.2.2.2.2.2.2.2.2.2.2.2.2.2.2.2.1, vM.2.2.2.2.2.2.2.2.2.2.2.2.2.2.2.2.2.2.1, vM.2.2.2.2.2.2.2.2.2.2.2.2.2.2.2.2.2.2.2.1, vM.2.2.2.2.2.2.2.2.2.2.2.2.2.2.2.2.2.2.2.2))) Z 7 0 dX5_become_56 rfl rfl (gI_in b8) rfl ?_
      obtain rfl := Option.some.inj hf
      exact g_vret Z hr dX5_become_57 (vM.1, vM.2.1, vM.2.2.1, vM.2.2.2.1, vM.2.2.2.2.1, vM.2.2.2.2.2.1, upd vM.2.2.2.2.2.2.1 p1.toNatClampNeg (vp_nar .boolean (1 : Int32)), vp_updL vM.2.2.2.2.2.2.2.1 p1.toNatClampNeg p2, vM.2.2.2.2.2.2.2.2.1 + (0 : Int32), vM.2.2.2.2.2.2.2.2.2.1, vM.2.2.2.2.2.2.2.2.2.2.1, vM.2.2.2.2.2.2.2.2.2.2.2.1, vM.2.2.2.2.2.2.2.2.2.2.2.2.1, vM.2.2.2.2.2.2.2.2.2.2.2.2.2.1, vM.2.2.2.2.2.2.2.2.2.2.2.2.2.2.1, vM.2.2.2.2.2.2.2.2.2.2.2.2.2.2.2.1, vM.2.2.2.2.2.2.2.2.2.2.2.2.2.2.2.2.1, vM.2.2.2.2.2.2.2.2.2.2.2.2.2.2.2.2.2.1, vM.2.2.2.2.2.2.2.2.2.2.2.2.2.2.2.2.2.2.1, vM.2.2.2.2.2.2.2.2.2.2.2.2.2.2.2.2.2.2.2.1, vM.2.2.2.2.2.2.2.2.2.2.2.2.2.2.2.2.2.2.2.2) rfl rfl
  · replace hf := gIfP c2 hf
    refine g_aload_n (pc := 9) Z 0 dX5_become_9 rfl ?_
    refine g_get (pc := 10) (v := .ref (ad 25)) (T := TX5) (N := 21) Z 0 5 dX5_become_10 (mm wm29) inx_X5 rfl (by decide) rfl rfl rfl ?_
    refine g_iload_n (pc := 13) Z 1 dX5_become_13 rfl ?_
    obtain ⟨b9, hf⟩ := gGuard hf
    refine g_lald (pc := 14) (f := vM.2.2.2.2.2.1) Z 5 0 dX5_become_14 rfl rfl (gI_in b9) ?_
    refine g_lload_n (pc := 15) Z 2 dX5_become_15 rfl ?_
    refine g_lcmp (pc := 16) Z dX5_become_16 ?_
    refine g_if_eq (pc := 17) (tgt := 57) Z dX5_become_17 (by decide) (fun c10 => ?_) (fun c10 => ?_)
    · replace hf := gIfP c10 hf
      obtain rfl := Option.some.inj hf
      exact g_vret Z hr dX5_become_57 vM rfl rfl
    · replace hf := gIfN c10 hf
      refine g_aload_n (pc := 20) Z 0 dX5_become_20 rfl ?_
      refine g_dup (pc := 21) Z dX5_become_21 rfl ?_
      refine g_get (pc := 22) (v := .int vM.2.2.2.2.2.2.2.2.1) (T := TX5) (N := 21) Z 0 8 dX5_become_22 (mm wm5) inx_X5 rfl (by decide) rfl rfl rfl ?_
      refine g_aload_n (pc := 25) Z 0 dX5_become_25 rfl ?_
      refine g_get (pc := 26) (v := .ref (ad 26)) (T := TX5) (N := 21) Z 0 6 dX5_become_26 (mm wm6) inx_X5 rfl (by decide) rfl rfl rfl ?_
      refine g_iload_n (pc := 29) Z 1 dX5_become_29 rfl ?_
      obtain ⟨b11, hf⟩ := gGuard hf
      refine g_zald (pc := 30) (f := vM.2.2.2.2.2.2.1) Z 6 2 dX5_become_30 rfl rfl (gI_in b11) ?_
      refine g_if_eq (pc := 31) (tgt := 38) Z dX5_become_31 (by decide) (fun c12 => ?_) (fun c12 => ?_)
      · replace hf := gIfP c12 hf
        refine g_iconst (pc := 38) (v := 1) Z dX5_become_38 (by decide) ?_
        refine g_iadd (pc := 39) Z dX5_become_39 ?_
        refine g_put (pc := 40) (T := TX5) (N := 21) (ws' := (wM ad ca (vM.1, vM.2.1, vM.2.2.1, vM.2.2.2.1, vM.2.2.2.2.1, vM.2.2.2.2.2.1, vM.2.2.2.2.2.2.1, vM.2.2.2.2.2.2.2.1, vM.2.2.2.2.2.2.2.2.1 + (1 : Int32), vM.2.2.2.2.2.2.2.2.2.1, vM.2.2.2.2.2.2.2.2.2.2.1, vM.2.2.2.2.2.2.2.2.2.2.2.1, vM.2.2.2.2.2.2.2.2.2.2.2.2.1, vM.2.2.2.2.2.2.2.2.2.2.2.2.2.1, vM.2.2.2.2.2.2.2.2.2.2.2.2.2.2.1, vM.2.2.2.2.2.2.2.2.2.2.2.2.2.2.2.1, vM.2.2.2.2.2.2.2.2.2.2.2.2.2.2.2.2.1, vM.2.2.2.2.2.2.2.2.2.2.2.2.2.2.2.2.2.1, vM.2.2.2.2.2.2.2.2.2.2.2.2.2.2.2.2.2.2.1, vM.2.2.2.2.2.2.2.2.2.2.2.2.2.2.2.2.2.2.2.1, vM.2.2.2.2.2.2.2.2.2.2.2.2.2.2.2.2.2.2.2.2))) Z 0 8 dX5_become_40 (mm wm5) inx_X5 tyX5_ok nmX5 rfl (by decide) rfl rfl rfl rfl rfl rfl (Nat.le_of_ble_eq_true rfl) rfl ?_
        refine g_aload_n (pc := 43) Z 0 dX5_become_43 rfl ?_
        refine g_get (pc := 44) (v := .ref (ad 26)) (T := TX5) (N := 21) Z 0 6 dX5_become_44 (mm wm6) inx_X5 rfl (by decide) rfl rfl rfl ?_
        refine g_iload_n (pc := 47) Z 1 dX5_become_47 rfl ?_
        refine g_iconst (pc := 48) (v := 1) Z dX5_become_48 (by decide) ?_
        obtain ⟨b13, hf⟩ := gGuard hf
        refine g_zast (pc := 49) (f := vM.2.2.2.2.2.2.1) (ws' := (wM ad ca (vM.1, vM.2.1, vM.2.2.1, vM.2.2.2.1, vM.2.2.2.2.1, vM.2.2.2.2.2.1, upd vM.2.2.2.2.2.2.1 p1.toNatClampNeg (vp_nar .boolean (1 : Int32)), vM.2.2.2.2.2.2.2.1, vM.2.2.2.2.2.2.2.2.1 + (1 : Int32), vM.2.2.2.2.2.2.2.2.2.1, vM.2.2.2.2.2.2.2.2.2.2.1, vM.2.2.2.2.2.2.2.2.2.2.2.1, vM.2.2.2.2.2.2.2.2.2.2.2.2.1, vM.2.2.2.2.2.2.2.2.2.2.2.2.2.1, vM.2.2.2.2.2.2.2.2.2.2.2.2.2.2.1, vM.2.2.2.2.2.2.2.2.2.2.2.2.2.2.2.1, vM.2.2.2.2.2.2.2.2.2.2.2.2.2.2.2.2.1, vM.2.2.2.2.2.2.2.2.2.2.2.2.2.2.2.2.2.1, vM.2.2.2.2.2.2.2.2.2.2.2.2.2.2.2.2.2.2.1, vM.2.2.2.2.2.2.2.2.2.2.2.2.2.2.2.2.2.2.2.1, vM.2.2.2.2.2.2.2.2.2.2.2.2.2.2.2.2.2.2.2.2))) Z 6 2 dX5_become_49 rfl rfl (gI_in b13) rfl ?_
        refine g_aload_n (pc := 50) Z 0 dX5_become_50 rfl ?_
        refine g_get (pc := 51) (v := .ref (ad 27)) (T := TX5) (N := 21) Z 0 7 dX5_become_51 (mm wm30) inx_X5 rfl (by decide) rfl rfl rfl ?_
        refine g_iload_n (pc := 54) Z 1 dX5_become_54 rfl ?_
        refine g_lload_n (pc := 55) Z 2 dX5_become_55 rfl ?_
        obtain ⟨b14, hf⟩ := gGuard hf
        refine g_last (pc := 56) (f := vM.2.2.2.2.2.2.2.1) (ws' := (wM ad ca (vM.1, vM.2.1, vM.2.2.1, vM.2.2.2.1, vM.2.2.2.2.1, vM.2.2.2.2.2.1, upd vM.2.2.2.2.2.2.1 p1.toNatClampNeg (vp_nar .boolean (1 : Int32)), vp_updL vM.2.2.2.2.2.2.2.1 p1.toNatClampNeg p2, vM.2.2.2.2.2.2.2.2.1 + (1 : Int32), vM.2.2.2.2.2.2.2.2.2.1, vM.2.2.2.2.2.2.2.2.2.2.1, vM.2.2.2.2.2.2.2.2.2.2.2.1, vM.2.2.2.2.2.2.2.2.2.2.2.2.1, vM.2.2.2.2.2.2.2.2.2.2.2.2.2.1, vM.2.2.2.2.2.2.2.2.2.2.2.2.2.2.1, vM.2.2.2.2.2.2.2.2.2.2.2.2.2.2.2.1, vM.2.2.2.2.2.2.2.2.2.2.2.2.2.2.2.2.1, vM.2.2.2.2.2.2.2.2.2.2.2.2.2.2.2.2.2.1, vM.2.2.2.2.2.2.2.2.2.2.2.2.2.2.2.2.2.2.1, vM.2.2.2.2.2.2.2.2.2.2.2.2.2.2.2.2.2.2.2.1, vM.2.2.2.2.2.2.2.2.2.2.2.2.2.2.2.2.2.2.2.2))) Z 7 0 dX5_become_56 rfl rfl (gI_in b14) rfl ?_
        obtain rfl := Option.some.inj hf
        exact g_vret Z hr dX5_become_57 (vM.1, vM.2.1, vM.2.2.1, vM.2.2.2.1, vM.2.2.2.2.1, vM.2.2.2.2.2.1, upd vM.2.2.2.2.2.2.1 p1.toNatClampNeg (vp_nar .boolean (1 : Int32)), vp_updL vM.2.2.2.2.2.2.2.1 p1.toNatClampNeg p2, vM.2.2.2.2.2.2.2.2.1 + (1 : Int32), vM.2.2.2.2.2.2.2.2.2.1, vM.2.2.2.2.2.2.2.2.2.2.1, vM.2.2.2.2.2.2.2.2.2.2.2.1, vM.2.2.2.2.2.2.2.2.2.2.2.2.1, vM.2.2.2.2.2.2.2.2.2.2.2.2.2.1, vM.2.2.2.2.2.2.2.2.2.2.2.2.2.2.1, vM.2.2.2.2.2.2.2.2.2.2.2.2.2.2.2.1, vM.2.2.2.2.2.2.2.2.2.2.2.2.2.2.2.2.1, vM.2.2.2.2.2.2.2.2.2.2.2.2.2.2.2.2.2.1, vM.2.2.2.2.2.2.2.2.2.2.2.2.2.2.2.2.2.2.1, vM.2.2.2.2.2.2.2.2.2.2.2.2.2.2.2.2.2.2.2.1, vM.2.2.2.2.2.2.2.2.2.2.2.2.2.2.2.2.2.2.2.2) rfl rfl
      · replace hf := gIfN c12 hf
        refine g_iconst (pc := 34) (v := 0) Z dX5_become_34 (by decide) ?_
        refine g_goto (pc := 35) (tgt := 39) Z dX5_become_35 (by decide) ?_
        refine g_iadd (pc := 39) Z dX5_become_39 ?_
        refine g_put (pc := 40) (T := TX5) (N := 21) (ws' := (wM ad ca (vM.1, vM.2.1, vM.2.2.1, vM.2.2.2.1, vM.2.2.2.2.1, vM.2.2.2.2.2.1, vM.2.2.2.2.2.2.1, vM.2.2.2.2.2.2.2.1, vM.2.2.2.2.2.2.2.2.1 + (0 : Int32), vM.2.2.2.2.2.2.2.2.2.1, vM.2.2.2.2.2.2.2.2.2.2.1, vM.2.2.2.2.2.2.2.2.2.2.2.1, vM.2.2.2.2.2.2.2.2.2.2.2.2.1, vM.2.2.2.2.2.2.2.2.2.2.2.2.2.1, vM.2.2.2.2.2.2.2.2.2.2.2.2.2.2.1, vM.2.2.2.2.2.2.2.2.2.2.2.2.2.2.2.1, vM.2.2.2.2.2.2.2.2.2.2.2.2.2.2.2.2.1, vM.2.2.2.2.2.2.2.2.2.2.2.2.2.2.2.2.2.1, vM.2.2.2.2.2.2.2.2.2.2.2.2.2.2.2.2.2.2.1, vM.2.2.2.2.2.2.2.2.2.2.2.2.2.2.2.2.2.2.2.1, vM.2.2.2.2.2.2.2.2.2.2.2.2.2.2.2.2.2.2.2.2))) Z 0 8 dX5_become_40 (mm wm5) inx_X5 tyX5_ok nmX5 rfl (by decide) rfl rfl rfl rfl rfl rfl (Nat.le_of_ble_eq_true rfl) rfl ?_
        refine g_aload_n (pc := 43) Z 0 dX5_become_43 rfl ?_
        refine g_get (pc := 44) (v := .ref (ad 26)) (T := TX5) (N := 21) Z 0 6 dX5_become_44 (mm wm6) inx_X5 rfl (by decide) rfl rfl rfl ?_
        refine g_iload_n (pc := 47) Z 1 dX5_become_47 rfl ?_
        refine g_iconst (pc := 48) (v := 1) Z dX5_become_48 (by decide) ?_
        obtain ⟨b15, hf⟩ := gGuard hf
        refine g_zast (pc := 49) (f := vM.2.2.2.2.2.2.1) (ws' := (wM ad ca (vM.1, vM.2.1, vM.2.2.1, vM.2.2.2.1, vM.2.2.2.2.1, vM.2.2.2.2.2.1, upd vM.2.2.2.2.2.2.1 p1.toNatClampNeg (vp_nar .boolean (1 : Int32)), vM.2.2.2.2.2.2.2.1, vM.2.2.2.2.2.2.2.2.1 + (0 : Int32), vM.2.2.2.2.2.2.2.2.2.1, vM.2.2.2.2.2.2.2.2.2.2.1, vM.2.2.2.2.2.2.2.2.2.2.2.1, vM.2.2.2.2.2.2.2.2.2.2.2.2.1, vM.2.2.2.2.2.2.2.2.2.2.2.2.2.1, vM.2.2.2.2.2.2.2.2.2.2.2.2.2.2.1, vM.2.2.2.2.2.2.2.2.2.2.2.2.2.2.2.1, vM.2.2.2.2.2.2.2.2.2.2.2.2.2.2.2.2.1, vM.2.2.2.2.2.2.2.2.2.2.2.2.2.2.2.2.2.1, vM.2.2.2.2.2.2.2.2.2.2.2.2.2.2.2.2.2.2.1, vM.2.2.2.2.2.2.2.2.2.2.2.2.2.2.2.2.2.2.2.1, vM.2.2.2.2.2.2.2.2.2.2.2.2.2.2.2.2.2.2.2.2))) Z 6 2 dX5_become_49 rfl rfl (gI_in b15) rfl ?_
        refine g_aload_n (pc := 50) Z 0 dX5_become_50 rfl ?_
        refine g_get (pc := 51) (v := .ref (ad 27)) (T := TX5) (N := 21) Z 0 7 dX5_become_51 (mm wm30) inx_X5 rfl (by decide) rfl rfl rfl ?_
        refine g_iload_n (pc := 54) Z 1 dX5_become_54 rfl ?_
        refine g_lload_n (pc := 55) Z 2 dX5_become_55 rfl ?_
        obtain ⟨b16, hf⟩ := gGuard hf
        refine g_last (pc := 56) (f := vM.2.2.2.2.2.2.2.1) (ws' := (wM ad ca (vM.1, vM.2.1, vM.2.2.1, vM.2.2.2.1, vM.2.2.2.2.1, vM.2.2.2.2.2.1, upd vM.2.2.2.2.2.2.1 p1.toNatClampNeg (vp_nar .boolean (1 : Int32)), vp_updL vM.2.2.2.2.2.2.2.1 p1.toNatClampNeg p2, vM.2.2.2.2.2.2.2.2.1 + (0 : Int32), vM.2.2.2.2.2.2.2.2.2.1, vM.2.2.2.2.2.2.2.2.2.2.1, vM.2.2.2.2.2.2.2.2.2.2.2.1, vM.2.2.2.2.2.2.2.2.2.2.2.2.1, vM.2.2.2.2.2.2.2.2.2.2.2.2.2.1, vM.2.2.2.2.2.2.2.2.2.2.2.2.2.2.1, vM.2.2.2.2.2.2.2.2.2.2.2.2.2.2.2.1, vM.2.2.2.2.2.2.2.2.2.2.2.2.2.2.2.2.1, vM.2.2.2.2.2.2.2.2.2.2.2.2.2.2.2.2.2.1, vM.2.2.2.2.2.2.2.2.2.2.2.2.2.2.2.2.2.2.1, vM.2.2.2.2.2.2.2.2.2.2.2.2.2.2.2.2.2.2.2.1, vM.2.2.2.2.2.2.2.2.2.2.2.2.2.2.2.2.2.2.2.2))) Z 7 0 dX5_become_56 rfl rfl (gI_in b16) rfl ?_
        obtain rfl := Option.some.inj hf
        exact g_vret Z hr dX5_become_57 (vM.1, vM.2.1, vM.2.2.1, vM.2.2.2.1, vM.2.2.2.2.1, vM.2.2.2.2.2.1, upd vM.2.2.2.2.2.2.1 p1.toNatClampNeg (vp_nar .boolean (1 : Int32)), vp_updL vM.2.2.2.2.2.2.2.1 p1.toNatClampNeg p2, vM.2.2.2.2.2.2.2.2.1 + (0 : Int32), vM.2.2.2.2.2.2.2.2.2.1, vM.2.2.2.2.2.2.2.2.2.2.1, vM.2.2.2.2.2.2.2.2.2.2.2.1, vM.2.2.2.2.2.2.2.2.2.2.2.2.1, vM.2.2.2.2.2.2.2.2.2.2.2.2.2.1, vM.2.2.2.2.2.2.2.2.2.2.2.2.2.2.1, vM.2.2.2.2.2.2.2.2.2.2.2.2.2.2.2.1, vM.2.2.2.2.2.2.2.2.2.2.2.2.2.2.2.2.1, vM.2.2.2.2.2.2.2.2.2.2.2.2.2.2.2.2.2.1, vM.2.2.2.2.2.2.2.2.2.2.2.2.2.2.2.2.2.2.1, vM.2.2.2.2.2.2.2.2.2.2.2.2.2.2.2.2.2.2.2.1, vM.2.2.2.2.2.2.2.2.2.2.2.2.2.2.2.2.2.2.2.2) rfl rfl
theorem wm44 : Cond.methodLink RX5 92 yX5_isMore ∈ gA := wt4 25 rfl rfl
theorem wm45 : Cond.instanceMethod yX5_isMore ∈ gA := wt4 27 rfl rfl
theorem wm46 : Cond.selects RX5 yX5_isMore yX5_isMore ∈ gA := wtS 21 rfl rfl
theorem wm47 : cd_Mod_isMore ∈ gA := wt4 28 rfl rfl
theorem wm48 : Cond.methodLink RX5 96 yX5_become ∈ gA := wt4 29 rfl rfl
theorem wm49 : Cond.instanceMethod yX5_become ∈ gA := wt4 31 rfl rfl
theorem wm50 : Cond.selects RX5 yX5_become yX5_become ∈ gA := wtS 22 rfl rfl
theorem wm51 : cd_Mod_become ∈ gA := wt4 32 rfl rfl
/-! RedoHeapModel.tryOne(IJ)Z -/
def f_Mod_tryOne (vM : MT) (p1 : Int32) (p2 : Int64) : Option (Bool × MT) :=
  (f_Mod_isMore vM p1 p2).bind fun x1 => if x1 = true then if vM.2.2.2.2.2.2.2.2.1 = (96 : Int32) then some (false, vM) else (f_Mod_become vM p1 p2).bind fun x7 => some (true, x7) else (f_Mod_become vM p1 p2).bind fun x4 => some (true, x4)
abbrev cd_Mod_tryOne : Cond := .code yX5_tryOne cX5_tryOne 4 (some .boolean)
theorem yd_Mod_tryOne : yX5_tryOne.cls ≠ "java/lang/invoke/MethodHandle" ∧ yX5_tryOne.cls ≠ "java/lang/invoke/VarHandle" ∧ (parseMethodDescriptor yX5_tryOne.desc).map (fun d => d.parameters.length) = some 2 := by decide +kernel
abbrev rm_Mod_tryOne : Room := { frames := 1, cells := 0, slots := 0, locals := 23 }
abbrev q_Mod_tryOne (D : va_G) (ad : Nat → Nat) (ca : Nat → ClassId) (res : Bool × MT) (A : Nat → Prop) : Array Value → State → Outcome → State → Prop := va_Qi (fun (r : Int32) (u : MT) => r = bI res.1 ∧ u = res.2) (gB D cls (tys ca) A (fun (u : MT) => (wM ad ca u))) A
set_option maxHeartbeats 4000000 in
set_option maxRecDepth 100000 in
theorem c_Mod_tryOne (l : Launch) (D : va_G) (ad : Nat → Nat) (ca : Nat → ClassId) (vM : MT) (p1 : Int32) (p2 : Int64) (res : Bool × MT) (hf : f_Mod_tryOne vM p1 p2 = some res) (sz : Nat) : Met l yX5_tryOne (cd_Mod_tryOne :: gA) rm_Mod_tryOne (va_Pc [.ref (ad 20), .int p1, .long p2] (gP D cls (tys ca) (wM ad ca vM) sz)) (q_Mod_tryOne D ad ca res (va_A (wM ad ca vM) sz)) 0 0 (va_A (wM ad ca vM) sz) := by
  refine g_met (cc := cX5_tryOne) (Qc := q_Mod_tryOne D ad ca res) (lv := [(0, .ref (ad 20)), (1, .int p1), (2, .long p2)]) (own := RX5) (by decide) rfl rfl (Nat.le_of_ble_eq_true rfl) rfl sz ?_
  intro p e s m args below meth c A Z hr hnm
  unfold f_Mod_tryOne at hf
  refine g_aload_n (pc := 0) Z 0 dX5_tryOne_0 rfl ?_
  refine g_iload_n (pc := 1) Z 1 dX5_tryOne_1 rfl ?_
  refine g_lload_n (pc := 2) Z 2 dX5_tryOne_2 rfl ?_
  obtain ⟨x1, h2, hf⟩ := Option.bind_eq_some_iff.mp hf
  refine g_calli (pc := 3) (ws2 := fun u => (wM ad ca vM)) (wr := ([] : va_W)) Z [0, 1, 2, 3, 4, 5, 6, 7] [] [0, 1, 2, 3, 4, 5, 6, 7] (g_runV Z (c_Mod_isMore l D ad ca vM p1 p2 x1 h2) (cwV 2 Z.2.2.2.2.1 (gg_V wm44 wm45 wm46 wm11 wm47) rfl rfl rfl (yv_of rfl yd_Mod_isMore) ⟨Nat.le_of_ble_eq_true rfl, Nat.le_of_ble_eq_true rfl⟩) [0, 1, 2, 3, 4, 5, 6, 7] rfl (by decide) 0 rfl rfl rfl rfl rfl (Nat.le_of_ble_eq_true rfl) dX5_tryOne_3 ⟨Nat.le_of_ble_eq_true rfl, Nat.le_of_ble_eq_true rfl⟩) rfl rfl (by decide) (by decide) (by decide) (fun _ => rfl) (fun r u hu => ?_)
  obtain rfl := hu.symm
  refine g_if_eq (pc := 6) (tgt := 20) Z dX5_tryOne_6 (by decide) (fun c3 => ?_) (fun c3 => ?_)
  · replace hf := gIfN (bI_z c3) hf
    refine g_aload_n (pc := 20) Z 0 dX5_tryOne_20 rfl ?_
    refine g_iload_n (pc := 21) Z 1 dX5_tryOne_21 rfl ?_
    refine g_lload_n (pc := 22) Z 2 dX5_tryOne_22 rfl ?_
    obtain ⟨x4, h5, hf⟩ := Option.bind_eq_some_iff.mp hf
    refine g_callv (pc := 23) (ws2 := fun u => (wM ad ca u)) (wr := ([] : va_W)) Z [0, 1, 2, 3, 4, 5, 6, 7] [] [0, 1, 2, 3, 4, 5, 6, 7] (g_runV Z (c_Mod_become l D ad ca vM p1 p2 x4 h5) (cwV 2 Z.2.2.2.2.1 (gg_V wm48 wm49 wm50 wm11 wm51) rfl rfl rfl (yv_of rfl yd_Mod_become) ⟨Nat.le_of_ble_eq_true rfl, Nat.le_of_ble_eq_true rfl⟩) [0, 1, 2, 3, 4, 5, 6, 7] rfl (by decide) 0 rfl rfl rfl rfl rfl (Nat.le_of_ble_eq_true rfl) dX5_tryOne_23 ⟨Nat.le_of_ble_eq_true rfl, Nat.le_of_ble_eq_true rfl⟩) rfl rfl (by decide) (by decide) (by decide) (fun _ => rfl) (fun u hu => ?_)
    obtain rfl := hu.symm
    refine g_iconst (pc := 26) (v := 1) Z dX5_tryOne_26 (by decide) ?_
    obtain rfl := Option.some.inj hf
    exact g_zret Z hr rfl dX5_tryOne_27 x4 ⟨rfl, rfl⟩ rfl
  · replace hf := gIfP (bI_nz c3) hf
    refine g_aload_n (pc := 9) Z 0 dX5_tryOne_9 rfl ?_
    refine g_get (pc := 10) (v := .int vM.2.2.2.2.2.2.2.2.1) (T := TX5) (N := 21) Z 0 8 dX5_tryOne_10 (mm wm5) inx_X5 rfl (by decide) rfl rfl rfl ?_
    refine g_bipush (pc := 13) (v := 96) Z dX5_tryOne_13 (by decide) ?_
    refine g_icmp_ne (pc := 15) (tgt := 20) Z dX5_tryOne_15 (by decide) (fun c6 => ?_) (fun c6 => ?_)
    · replace hf := gIfN c6 hf
      refine g_aload_n (pc := 20) Z 0 dX5_tryOne_20 rfl ?_
      refine g_iload_n (pc := 21) Z 1 dX5_tryOne_21 rfl ?_
      refine g_lload_n (pc := 22) Z 2 dX5_tryOne_22 rfl ?_
      obtain ⟨x7, h8, hf⟩ := Option.bind_eq_some_iff.mp hf
      refine g_callv (pc := 23) (ws2 := fun u => (wM ad ca u)) (wr := ([] : va_W)) Z [0, 1, 2, 3, 4, 5, 6, 7] [] [0, 1, 2, 3, 4, 5, 6, 7] (g_runV Z (c_Mod_become l D ad ca vM p1 p2 x7 h8) (cwV 2 Z.2.2.2.2.1 (gg_V wm48 wm49 wm50 wm11 wm51) rfl rfl rfl (yv_of rfl yd_Mod_become) ⟨Nat.le_of_ble_eq_true rfl, Nat.le_of_ble_eq_true rfl⟩) [0, 1, 2, 3, 4, 5, 6, 7] rfl (by decide) 0 rfl rfl rfl rfl rfl (Nat.le_of_ble_eq_true rfl) dX5_tryOne_23 ⟨Nat.le_of_ble_eq_true rfl, Nat.le_of_ble_eq_true rfl⟩) rfl rfl (by decide) (by decide) (by decide) (fun _ => rfl) (fun u hu => ?_)
      obtain rfl := hu.symm
      refine g_iconst (pc := 26) (v := 1) Z dX5_tryOne_26 (by decide) ?_
      obtain rfl := Option.some.inj hf
      exact g_zret Z hr rfl dX5_tryOne_27 x7 ⟨rfl, rfl⟩ rfl
    · replace hf := gIfP c6 hf
      refine g_iconst (pc := 18) (v := 0) Z dX5_tryOne_18 (by decide) ?_
      obtain rfl := Option.some.inj hf
      exact g_zret Z hr rfl dX5_tryOne_19 vM ⟨rfl, rfl⟩ rfl
/-! RedoHeapModel.isShut()Z -/
def f_Mod_isShut (vM : MT) : Option (Bool) :=
  if vM.2.2.2.2.2.2.2.2.2.1 = true then if vM.2.2.2.2.2.2.2.2.2.2.1 = true then some false else some true else some true
abbrev cd_Mod_isShut : Cond := .code yX5_isShut cX5_isShut 1 (some .boolean)
theorem yd_Mod_isShut : yX5_isShut.cls ≠ "java/lang/invoke/MethodHandle" ∧ yX5_isShut.cls ≠ "java/lang/invoke/VarHandle" ∧ (parseMethodDescriptor yX5_isShut.desc).map (fun d => d.parameters.length) = some 0 := by decide +kernel
abbrev rm_Mod_isShut : Room := { frames := 0, cells := 0, slots := 0, locals := 0 }
abbrev q_Mod_isShut (D : va_G) (ad : Nat → Nat) (ca : Nat → ClassId) (vM : MT) (res : Bool) (A : Nat → Prop) : Array Value → State → Outcome → State → Prop := va_Qi (fun (r : Int32) (_ : Unit) => r = bI res) (gB D cls (tys ca) A (fun (u : Unit) => (wM ad ca vM))) A
set_option maxHeartbeats 4000000 in
set_option maxRecDepth 100000 in
theorem c_Mod_isShut (l : Launch) (D : va_G) (ad : Nat → Nat) (ca : Nat → ClassId) (vM : MT) (res : Bool) (hf : f_Mod_isShut vM = some res) (sz : Nat) : Met l yX5_isShut (cd_Mod_isShut :: gA) rm_Mod_isShut (va_Pc [.ref (ad 20)] (gP D cls (tys ca) (wM ad ca vM) sz)) (q_Mod_isShut D ad ca vM res (va_A (wM ad ca vM) sz)) 0 0 (va_A (wM ad ca vM) sz) := by
  refine g_met (cc := cX5_isShut) (Qc := q_Mod_isShut D ad ca vM res) (lv := [(0, .ref (ad 20))]) (own := RX5) (by decide) rfl rfl (Nat.le_of_ble_eq_true rfl) rfl sz ?_
  intro p e s m args below meth c A Z hr hnm
  unfold f_Mod_isShut at hf
  refine g_aload_n (pc := 0) Z 0 dX5_isShut_0 rfl ?_
  refine g_get (pc := 1) (v := .int (bI vM.2.2.2.2.2.2.2.2.2.1)) (T := TX5) (N := 21) Z 0 9 dX5_isShut_1 (mm wm15) inx_X5 rfl (by decide) rfl rfl rfl ?_
  refine g_if_eq (pc := 4) (tgt := 14) Z dX5_isShut_4 (by decide) (fun c1 => ?_) (fun c1 => ?_)
  · replace hf := gIfN (bI_z c1) hf
    refine g_iconst (pc := 14) (v := 1) Z dX5_isShut_14 (by decide) ?_
    refine g_goto (pc := 15) (tgt := 19) Z dX5_isShut_15 (by decide) ?_
    obtain rfl := Option.some.inj hf
    exact g_zret Z hr rfl dX5_isShut_19 () rfl rfl
  · replace hf := gIfP (bI_nz c1) hf
    refine g_aload_n (pc := 7) Z 0 dX5_isShut_7 rfl ?_
    refine g_get (pc := 8) (v := .int (bI vM.2.2.2.2.2.2.2.2.2.2.1)) (T := TX5) (N := 21) Z 0 10 dX5_isShut_8 (mm wm4) inx_X5 rfl (by decide) rfl rfl rfl ?_
    refine g_if_ne (pc := 11) (tgt := 18) Z dX5_isShut_11 (by decide) (fun c2 => ?_) (fun c2 => ?_)
    · replace hf := gIfP (bI_nz c2) hf
      refine g_iconst (pc := 18) (v := 0) Z dX5_isShut_18 (by decide) ?_
      obtain rfl := Option.some.inj hf
      exact g_zret Z hr rfl dX5_isShut_19 () rfl rfl
    · replace hf := gIfN (bI_z c2) hf
      refine g_iconst (pc := 14) (v := 1) Z dX5_isShut_14 (by decide) ?_
      refine g_goto (pc := 15) (tgt := 19) Z dX5_isShut_15 (by decide) ?_
      obtain rfl := Option.some.inj hf
      exact g_zret Z hr rfl dX5_isShut_19 () rfl rfl
