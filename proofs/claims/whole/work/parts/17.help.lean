/-- the law's out: one long -/
def wO (ad : Nat → Nat) (ca : Nat → ClassId) (v : Nat → Int64) : va_W := [(ad 30, .inl (ca 0, 1, .inr (.inl v)))]
theorem wl0 : Cond.methodLink RL 7 yX4_begin ∈ gA := wt1 140 rfl rfl
theorem wl1 : Cond.instanceMethod yX4_begin ∈ gA := wt1 141 rfl rfl
theorem wl2 : Cond.selects RX4 yX4_begin yX4_begin ∈ gA := wt1 142 rfl rfl
theorem wl3 : Cond.initialized RX4 ∈ gA := wt1 1 rfl rfl
theorem wl4 : cd_Heap_begin ∈ gA := wt1 143 rfl rfl
theorem wl5 : Cond.classLink RL 13 "java/lang/IllegalStateException" ∈ gA := wt1 139 rfl rfl
/-! RedoHeapLaw.begin(LRedoHeap;[J)I -/
def f_Law_begin (vL : LT) (vD : DT) (vC : CT) (vO : (Nat → Int64)) : Option (Int32 × CT × (Nat → Int64)) :=
  gH (f_Heap_begin vL vD vC) (fun x1 => if gI (0 : Int32) 1 = true then some ((0 : Int32), x1.2, (vp_updL vO (0 : Int32).toNatClampNeg x1.1.toInt64)) else none) (fun E => if E = "java/lang/IllegalStateException" then some ((1 : Int32), vC, vO) else none)
abbrev cd_Law_begin : Cond := .codeWith yL_begin cL_begin 3 (some .int) [(0, 8, 11, 13)]
theorem yd_Law_begin : yL_begin.cls ≠ "java/lang/invoke/MethodHandle" ∧ yL_begin.cls ≠ "java/lang/invoke/VarHandle" ∧ (parseMethodDescriptor yL_begin.desc).map (fun d => d.parameters.length) = some 2 := by decide +kernel
abbrev rm_Law_begin : Room := { frames := 8, cells := 1, slots := 6, locals := 122 }
abbrev q_Law_begin (D : va_G) (ad : Nat → Nat) (ca : Nat → ClassId) (vL : LT) (vD : DT) (res : Int32 × CT × (Nat → Int64)) (A : Nat → Prop) : Array Value → State → Outcome → State → Prop := va_Qi (fun (r : Int32) (u : CT × (Nat → Int64)) => r = res.1 ∧ u = res.2) (gB D cls (tys ca) A (fun (u : CT × (Nat → Int64)) => (wH ad ++ wL ad ca vL ++ wD ad ca vD ++ wC ad ca u.1 ++ wO ad ca u.2))) A
set_option maxHeartbeats 4000000 in
set_option maxRecDepth 100000 in
theorem c_Law_begin (l : Launch) (hl0 : l.stackTraces = false) (D : va_G) (ad : Nat → Nat) (ca : Nat → ClassId) (vL : LT) (vD : DT) (vC : CT) (vO : (Nat → Int64)) (res : Int32 × CT × (Nat → Int64)) (hf : f_Law_begin vL vD vC vO = some res) (sz : Nat) : Met l yL_begin (cd_Law_begin :: gA) rm_Law_begin (va_Pc [.ref (ad 0), .ref (ad 30)] (gPX D cls (tys ca) (wH ad ++ wL ad ca vL ++ wD ad ca vD ++ wC ad ca vC ++ wO ad ca vO) sz RX4 strsH)) (q_Law_begin D ad ca vL vD res (va_A (wH ad ++ wL ad ca vL ++ wD ad ca vD ++ wC ad ca vC ++ wO ad ca vO) sz)) 1 6 (va_A (wH ad ++ wL ad ca vL ++ wD ad ca vD ++ wC ad ca vC ++ wO ad ca vO) sz) := by
  refine g_metW (cc := cL_begin) (hh := [(0, 8, 11, 13)]) (Qc := q_Law_begin D ad ca vL vD res) (lv := [(0, .ref (ad 0)), (1, .ref (ad 30))]) (own := RL) (by decide) rfl rfl (Nat.le_of_ble_eq_true rfl) rfl sz ?_
  intro p e s m args below meth c A Z hr hT htab
  unfold f_Law_begin at hf
  refine g_aload_n (pc := 0) Z 1 dL_begin_0 rfl ?_
  refine g_iconst (pc := 1) (v := 0) Z dL_begin_1 (by decide) ?_
  refine g_aload_n (pc := 2) Z 0 dL_begin_2 rfl ?_
  rcases gH_of hf with ⟨x1, h2, hf⟩ | ⟨E, h2, hf⟩
  · refine g_calli (pc := 3) (ws2 := fun u => (wH ad ++ wL ad ca vL ++ wD ad ca vD ++ wC ad ca u ++ wO ad ca vO)) (wr := (wO ad ca vO)) Z [0, 1, 2, 3, 4, 5, 6, 7, 8, 9, 10, 11] [12] [1, 2, 3, 4, 5, 6, 7, 8, 9, 10, 11, 12, 0] (g_runV Z (c_Heap_begin l D ad ca vL vD vC x1 h2) (cwV 0 Z.2.2.2.2.1 (gg_V wl0 wl1 wl2 wl3 wl4) rfl rfl rfl (yv_of rfl yd_Heap_begin) ⟨Nat.le_of_ble_eq_true rfl, Nat.le_of_ble_eq_true rfl⟩) [0, 1, 2, 3, 4, 5, 6, 7, 8, 9, 10, 11] rfl (by decide) 0 rfl rfl rfl rfl rfl (Nat.le_of_ble_eq_true rfl) dL_begin_3 ⟨(Nat.le_of_ble_eq_true rfl), (Nat.le_of_ble_eq_true rfl)⟩) rfl rfl (by decide) (by decide) (by decide) (fun _ => rfl) (fun r u hu => ?_)
    obtain ⟨rfl, rfl⟩ := hu
    refine g_i2l (pc := 6) Z dL_begin_6 ?_
    obtain ⟨b3, hf⟩ := gGuard hf
    refine g_last (pc := 7) (f := vO) (ws' := (wH ad ++ wL ad ca vL ++ wD ad ca vD ++ wC ad ca x1.2 ++ wO ad ca (vp_updL vO (0 : Int32).toNatClampNeg x1.1.toInt64))) Z 12 0 dL_begin_7 rfl rfl (gI_in b3) rfl ?_
    refine g_goto (pc := 8) (tgt := 14) Z dL_begin_8 (by decide) ?_
    refine g_iconst (pc := 14) (v := 0) Z dL_begin_14 (by decide) ?_
    refine g_widen (k := 1) (n := 6) (by decide) (by decide) ?_
    obtain rfl := Option.some.inj hf
    exact g_iret Z hr dL_begin_15 (x1.2, (vp_updL vO (0 : Int32).toNatClampNeg x1.1.toInt64)) ⟨rfl, rfl⟩ rfl
  · refine g_callE (pc := 3) (wr := (wO ad ca vO)) Z [0, 1, 2, 3, 4, 5, 6, 7, 8, 9, 10, 11] [12] [1, 2, 3, 4, 5, 6, 7, 8, 9, 10, 11, 12, 0] (g_runXV Z hT (x_Heap_begin l hl0 D ad ca vL vD vC E h2) (cwV 0 Z.2.2.2.2.1 (gg_V wl0 wl1 wl2 wl3 wl4) rfl rfl rfl (yv_of rfl yd_Heap_begin) ⟨Nat.le_of_ble_eq_true rfl, Nat.le_of_ble_eq_true rfl⟩) [0, 1, 2, 3, 4, 5, 6, 7, 8, 9, 10, 11] rfl (by decide) 0 rfl rfl rfl rfl rfl (Nat.le_of_ble_eq_true rfl) dL_begin_3 ⟨(Nat.le_of_ble_eq_true rfl), (Nat.le_of_ble_eq_true rfl)⟩) rfl rfl (by decide) (by decide) (by decide) rfl ?_
    by_cases hE0 : E = "java/lang/IllegalStateException"
    · replace hf := gIfP hE0 hf
      subst hE0
      refine g_catch1 Z ⟨0, 8, 11, 13⟩ [] htab (by decide) (by decide) (mm wl5) (va_Nw.use rfl Z.2.2.2.2.2.2.2.2.2.2.2.2.1) (fun q => ?_)
      refine g_astore_n (pc := 11) (lv' := [(2, .ref q), (0, .ref (ad 0)), (1, .ref (ad 30))]) Z dL_begin_11 (by decide) rfl ?_
      refine g_iconst (pc := 12) (v := 1) Z dL_begin_12 (by decide) ?_
      refine g_widen (k := 1) (n := 6) (by decide) (by decide) ?_
      obtain rfl := Option.some.inj hf
      exact g_iret Z hr dL_begin_13 (vC, vO) ⟨rfl, rfl⟩ rfl
    · replace hf := gIfN hE0 hf
      exact absurd hf (fun h => by cases h)
theorem wl6 : Cond.methodLink RL 15 yX4_take ∈ gA := wt1 237 rfl rfl
theorem wl7 : Cond.instanceMethod yX4_take ∈ gA := wt1 238 rfl rfl
theorem wl8 : Cond.selects RX4 yX4_take yX4_take ∈ gA := wt1 239 rfl rfl
theorem wl9 : cd_Heap_take ∈ gA := wt2 0 rfl rfl
theorem wl10 : Cond.classLink RL 19 "java/lang/IllegalArgumentException" ∈ gA := wt1 236 rfl rfl
/-! RedoHeapLaw.take(LRedoHeap;I[J)I -/
def f_Law_take (N : Nat) (vD : DT) (vC : CT) (vO : (Nat → Int64)) (p2 : Int32) : Option (Int32 × CT × (Nat → Int64)) :=
  gH (f_Heap_take N vD vC p2) (fun x1 => if gI (0 : Int32) 1 = true then some ((0 : Int32), x1.2, (vp_updL vO (0 : Int32).toNatClampNeg x1.1.toInt64)) else none) (fun E => if E = "java/lang/IllegalStateException" then some ((1 : Int32), vC, vO) else if E = "java/lang/IllegalArgumentException" then some ((2 : Int32), vC, vO) else none)
abbrev cd_Law_take : Cond := .codeWith yL_take cL_take 4 (some .int) [(0, 9, 12, 13), (0, 9, 15, 19)]
theorem yd_Law_take : yL_take.cls ≠ "java/lang/invoke/MethodHandle" ∧ yL_take.cls ≠ "java/lang/invoke/VarHandle" ∧ (parseMethodDescriptor yL_take.desc).map (fun d => d.parameters.length) = some 3 := by decide +kernel
abbrev rm_Law_take : Room := { frames := 9, cells := 1, slots := 6, locals := 153 }
abbrev q_Law_take (D : va_G) (ad : Nat → Nat) (ca : Nat → ClassId) (vD : DT) (res : Int32 × CT × (Nat → Int64)) (A : Nat → Prop) : Array Value → State → Outcome → State → Prop := va_Qi (fun (r : Int32) (u : CT × (Nat → Int64)) => r = res.1 ∧ u = res.2) (gB D cls (tys ca) A (fun (u : CT × (Nat → Int64)) => (wH ad ++ wB ad ++ wD ad ca vD ++ wC ad ca u.1 ++ wO ad ca u.2))) A
set_option maxHeartbeats 4000000 in
set_option maxRecDepth 100000 in
theorem c_Law_take (l : Launch) (hl0 : l.stackTraces = false) (D : va_G) (ad : Nat → Nat) (ca : Nat → ClassId) (N : Nat) (vD : DT) (vC : CT) (vO : (Nat → Int64)) (p2 : Int32) (res : Int32 × CT × (Nat → Int64)) (hf : f_Law_take N vD vC vO p2 = some res) (sz : Nat) : Met l yL_take (cd_Law_take :: gA) rm_Law_take (va_Pc [.ref (ad 0), .int p2, .ref (ad 30)] (gPX D cls (tys ca) (wH ad ++ wB ad ++ wD ad ca vD ++ wC ad ca vC ++ wO ad ca vO) sz RX4 strsH)) (q_Law_take D ad ca vD res (va_A (wH ad ++ wB ad ++ wD ad ca vD ++ wC ad ca vC ++ wO ad ca vO) sz)) 1 6 (va_A (wH ad ++ wB ad ++ wD ad ca vD ++ wC ad ca vC ++ wO ad ca vO) sz) := by
  refine g_metW (cc := cL_take) (hh := [(0, 9, 12, 13), (0, 9, 15, 19)]) (Qc := q_Law_take D ad ca vD res) (lv := [(0, .ref (ad 0)), (1, .int p2), (2, .ref (ad 30))]) (own := RL) (by decide) rfl rfl (Nat.le_of_ble_eq_true rfl) rfl sz ?_
  intro p e s m args below meth c A Z hr hT htab
  unfold f_Law_take at hf
  refine g_aload_n (pc := 0) Z 2 dL_take_0 rfl ?_
  refine g_iconst (pc := 1) (v := 0) Z dL_take_1 (by decide) ?_
  refine g_aload_n (pc := 2) Z 0 dL_take_2 rfl ?_
  refine g_iload_n (pc := 3) Z 1 dL_take_3 rfl ?_
  rcases gH_of hf with ⟨x1, h2, hf⟩ | ⟨E, h2, hf⟩
  · refine g_calli (pc := 4) (ws2 := fun u => (wH ad ++ wB ad ++ wD ad ca vD ++ wC ad ca u ++ wO ad ca vO)) (wr := (wO ad ca vO)) Z [0, 1, 2, 3, 4, 5, 6, 7, 8, 9, 10, 11] [12] [1, 2, 3, 4, 5, 6, 7, 8, 9, 10, 11, 12, 0] (g_runV Z (c_Heap_take l D ad ca N vD vC p2 x1 h2) (cwV 1 Z.2.2.2.2.1 (gg_V wl6 wl7 wl8 wl3 wl9) rfl rfl rfl (yv_of rfl yd_Heap_take) ⟨Nat.le_of_ble_eq_true rfl, Nat.le_of_ble_eq_true rfl⟩) [0, 1, 2, 3, 4, 5, 6, 7, 8, 9, 10, 11] rfl (by decide) 0 rfl rfl rfl rfl rfl (Nat.le_of_ble_eq_true rfl) dL_take_4 ⟨(Nat.le_of_ble_eq_true rfl), (Nat.le_of_ble_eq_true rfl)⟩) rfl rfl (by decide) (by decide) (by decide) (fun _ => rfl) (fun r u hu => ?_)
    obtain ⟨rfl, rfl⟩ := hu
    refine g_i2l (pc := 7) Z dL_take_7 ?_
    obtain ⟨b3, hf⟩ := gGuard hf
    refine g_last (pc := 8) (f := vO) (ws' := (wH ad ++ wB ad ++ wD ad ca vD ++ wC ad ca x1.2 ++ wO ad ca (vp_updL vO (0 : Int32).toNatClampNeg x1.1.toInt64))) Z 12 0 dL_take_8 rfl rfl (gI_in b3) rfl ?_
    refine g_goto (pc := 9) (tgt := 18) Z dL_take_9 (by decide) ?_
    refine g_iconst (pc := 18) (v := 0) Z dL_take_18 (by decide) ?_
    refine g_widen (k := 1) (n := 6) (by decide) (by decide) ?_
    obtain rfl := Option.some.inj hf
    exact g_iret Z hr dL_take_19 (x1.2, (vp_updL vO (0 : Int32).toNatClampNeg x1.1.toInt64)) ⟨rfl, rfl⟩ rfl
  · refine g_callE (pc := 4) (wr := (wO ad ca vO)) Z [0, 1, 2, 3, 4, 5, 6, 7, 8, 9, 10, 11] [12] [1, 2, 3, 4, 5, 6, 7, 8, 9, 10, 11, 12, 0] (g_runXV Z hT (x_Heap_take l hl0 D ad ca N vD vC p2 E h2) (cwV 1 Z.2.2.2.2.1 (gg_V wl6 wl7 wl8 wl3 wl9) rfl rfl rfl (yv_of rfl yd_Heap_take) ⟨Nat.le_of_ble_eq_true rfl, Nat.le_of_ble_eq_true rfl⟩) [0, 1, 2, 3, 4, 5, 6, 7, 8, 9, 10, 11] rfl (by decide) 0 rfl rfl rfl rfl rfl (Nat.le_of_ble_eq_true rfl) dL_take_4 ⟨(Nat.le_of_ble_eq_true rfl), (Nat.le_of_ble_eq_true rfl)⟩) rfl rfl (by decide) (by decide) (by decide) rfl ?_
    by_cases hE0 : E = "java/lang/IllegalStateException"
    · replace hf := gIfP hE0 hf
      subst hE0
      refine g_catch1 Z ⟨0, 9, 12, 13⟩ [⟨0, 9, 15, 19⟩] htab (by decide) (by decide) (mm wl5) (va_Nw.use rfl Z.2.2.2.2.2.2.2.2.2.2.2.2.1) (fun q => ?_)
      refine g_astore_n (pc := 12) (lv' := [(3, .ref q), (0, .ref (ad 0)), (1, .int p2), (2, .ref (ad 30))]) Z dL_take_12 (by decide) rfl ?_
      refine g_iconst (pc := 13) (v := 1) Z dL_take_13 (by decide) ?_
      refine g_widen (k := 1) (n := 6) (by decide) (by decide) ?_
      obtain rfl := Option.some.inj hf
      exact g_iret Z hr dL_take_14 (vC, vO) ⟨rfl, rfl⟩ rfl
    · replace hf := gIfN hE0 hf
      by_cases hE1 : E = "java/lang/IllegalArgumentException"
      · replace hf := gIfP hE1 hf
        subst hE1
        refine g_catch2 Z ⟨0, 9, 12, 13⟩ ⟨0, 9, 15, 19⟩ [] htab (by decide) (by decide) (mm wl5) Z.2.2.2.2.2.2.2.2.2.2.2.2.2.2.2.2.2.2.1 (by decide) (by decide) (mm wl10) (va_Nw.use rfl Z.2.2.2.2.2.2.2.2.2.2.2.2.2.1) (fun q => ?_)
        refine g_astore_n (pc := 15) (lv' := [(3, .ref q), (0, .ref (ad 0)), (1, .int p2), (2, .ref (ad 30))]) Z dL_take_15 (by decide) rfl ?_
        refine g_iconst (pc := 16) (v := 2) Z dL_take_16 (by decide) ?_
        refine g_widen (k := 1) (n := 6) (by decide) (by decide) ?_
        obtain rfl := Option.some.inj hf
        exact g_iret Z hr dL_take_17 (vC, vO) ⟨rfl, rfl⟩ rfl
      · replace hf := gIfN hE1 hf
        exact absurd hf (fun h => by cases h)
theorem wl11 : Cond.methodLink RL 21 yX4_give ∈ gA := wt2 76 rfl rfl
theorem wl12 : Cond.instanceMethod yX4_give ∈ gA := wt2 77 rfl rfl
theorem wl13 : Cond.selects RX4 yX4_give yX4_give ∈ gA := wt2 78 rfl rfl
theorem wl14 : cd_Heap_give ∈ gA := wt2 79 rfl rfl
/-! RedoHeapLaw.give(LRedoHeap;I[J)I -/
def f_Law_give (N : Nat) (vD : DT) (vC : CT) (vO : (Nat → Int64)) (p2 : Int32) : Option (Int32 × CT × (Nat → Int64)) :=
  gH (f_Heap_give N vD vC p2) (fun x1 => if gI (0 : Int32) 1 = true then some ((0 : Int32), x1.2, (vp_updL vO (0 : Int32).toNatClampNeg x1.1.toInt64)) else none) (fun E => if E = "java/lang/IllegalStateException" then some ((1 : Int32), vC, vO) else if E = "java/lang/IllegalArgumentException" then some ((2 : Int32), vC, vO) else none)
abbrev cd_Law_give : Cond := .codeWith yL_give cL_give 4 (some .int) [(0, 9, 12, 13), (0, 9, 15, 19)]
theorem yd_Law_give : yL_give.cls ≠ "java/lang/invoke/MethodHandle" ∧ yL_give.cls ≠ "java/lang/invoke/VarHandle" ∧ (parseMethodDescriptor yL_give.desc).map (fun d => d.parameters.length) = some 3 := by decide +kernel
abbrev rm_Law_give : Room := { frames := 9, cells := 1, slots := 6, locals := 143 }
abbrev q_Law_give (D : va_G) (ad : Nat → Nat) (ca : Nat → ClassId) (vD : DT) (res : Int32 × CT × (Nat → Int64)) (A : Nat → Prop) : Array Value → State → Outcome → State → Prop := va_Qi (fun (r : Int32) (u : CT × (Nat → Int64)) => r = res.1 ∧ u = res.2) (gB D cls (tys ca) A (fun (u : CT × (Nat → Int64)) => (wH ad ++ wB ad ++ wD ad ca vD ++ wC ad ca u.1 ++ wO ad ca u.2))) A
set_option maxHeartbeats 4000000 in
set_option maxRecDepth 100000 in
theorem c_Law_give (l : Launch) (hl0 : l.stackTraces = false) (D : va_G) (ad : Nat → Nat) (ca : Nat → ClassId) (N : Nat) (vD : DT) (vC : CT) (vO : (Nat → Int64)) (p2 : Int32) (res : Int32 × CT × (Nat → Int64)) (hf : f_Law_give N vD vC vO p2 = some res) (sz : Nat) : Met l yL_give (cd_Law_give :: gA) rm_Law_give (va_Pc [.ref (ad 0), .int p2, .ref (ad 30)] (gPX D cls (tys ca) (wH ad ++ wB ad ++ wD ad ca vD ++ wC ad ca vC ++ wO ad ca vO) sz RX4 strsH)) (q_Law_give D ad ca vD res (va_A (wH ad ++ wB ad ++ wD ad ca vD ++ wC ad ca vC ++ wO ad ca vO) sz)) 1 6 (va_A (wH ad ++ wB ad ++ wD ad ca vD ++ wC ad ca vC ++ wO ad ca vO) sz) := by
  refine g_metW (cc := cL_give) (hh := [(0, 9, 12, 13), (0, 9, 15, 19)]) (Qc := q_Law_give D ad ca vD res) (lv := [(0, .ref (ad 0)), (1, .int p2), (2, .ref (ad 30))]) (own := RL) (by decide) rfl rfl (Nat.le_of_ble_eq_true rfl) rfl sz ?_
  intro p e s m args below meth c A Z hr hT htab
  unfold f_Law_give at hf
  refine g_aload_n (pc := 0) Z 2 dL_give_0 rfl ?_
  refine g_iconst (pc := 1) (v := 0) Z dL_give_1 (by decide) ?_
  refine g_aload_n (pc := 2) Z 0 dL_give_2 rfl ?_
  refine g_iload_n (pc := 3) Z 1 dL_give_3 rfl ?_
  rcases gH_of hf with ⟨x1, h2, hf⟩ | ⟨E, h2, hf⟩
  · refine g_calli (pc := 4) (ws2 := fun u => (wH ad ++ wB ad ++ wD ad ca vD ++ wC ad ca u ++ wO ad ca vO)) (wr := (wO ad ca vO)) Z [0, 1, 2, 3, 4, 5, 6, 7, 8, 9, 10, 11] [12] [1, 2, 3, 4, 5, 6, 7, 8, 9, 10, 11, 12, 0] (g_runV Z (c_Heap_give l D ad ca N vD vC p2 x1 h2) (cwV 1 Z.2.2.2.2.1 (gg_V wl11 wl12 wl13 wl3 wl14) rfl rfl rfl (yv_of rfl yd_Heap_give) ⟨Nat.le_of_ble_eq_true rfl, Nat.le_of_ble_eq_true rfl⟩) [0, 1, 2, 3, 4, 5, 6, 7, 8, 9, 10, 11] rfl (by decide) 0 rfl rfl rfl rfl rfl (Nat.le_of_ble_eq_true rfl) dL_give_4 ⟨(Nat.le_of_ble_eq_true rfl), (Nat.le_of_ble_eq_true rfl)⟩) rfl rfl (by decide) (by decide) (by decide) (fun _ => rfl) (fun r u hu => ?_)
    obtain ⟨rfl, rfl⟩ := hu
    refine g_i2l (pc := 7) Z dL_give_7 ?_
    obtain ⟨b3, hf⟩ := gGuard hf
    refine g_last (pc := 8) (f := vO) (ws' := (wH ad ++ wB ad ++ wD ad ca vD ++ wC ad ca x1.2 ++ wO ad ca (vp_updL vO (0 : Int32).toNatClampNeg x1.1.toInt64))) Z 12 0 dL_give_8 rfl rfl (gI_in b3) rfl ?_
    refine g_goto (pc := 9) (tgt := 18) Z dL_give_9 (by decide) ?_
    refine g_iconst (pc := 18) (v := 0) Z dL_give_18 (by decide) ?_
    refine g_widen (k := 1) (n := 6) (by decide) (by decide) ?_
    obtain rfl := Option.some.inj hf
    exact g_iret Z hr dL_give_19 (x1.2, (vp_updL vO (0 : Int32).toNatClampNeg x1.1.toInt64)) ⟨rfl, rfl⟩ rfl
  · refine g_callE (pc := 4) (wr := (wO ad ca vO)) Z [0, 1, 2, 3, 4, 5, 6, 7, 8, 9, 10, 11] [12] [1, 2, 3, 4, 5, 6, 7, 8, 9, 10, 11, 12, 0] (g_runXV Z hT (x_Heap_give l hl0 D ad ca N vD vC p2 E h2) (cwV 1 Z.2.2.2.2.1 (gg_V wl11 wl12 wl13 wl3 wl14) rfl rfl rfl (yv_of rfl yd_Heap_give) ⟨Nat.le_of_ble_eq_true rfl, Nat.le_of_ble_eq_true rfl⟩) [0, 1, 2, 3, 4, 5, 6, 7, 8, 9, 10, 11] rfl (by decide) 0 rfl rfl rfl rfl rfl (Nat.le_of_ble_eq_true rfl) dL_give_4 ⟨(Nat.le_of_ble_eq_true rfl), (Nat.le_of_ble_eq_true rfl)⟩) rfl rfl (by decide) (by decide) (by decide) rfl ?_
    by_cases hE0 : E = "java/lang/IllegalStateException"
    · replace hf := gIfP hE0 hf
      subst hE0
      refine g_catch1 Z ⟨0, 9, 12, 13⟩ [⟨0, 9, 15, 19⟩] htab (by decide) (by decide) (mm wl5) (va_Nw.use rfl Z.2.2.2.2.2.2.2.2.2.2.2.2.1) (fun q => ?_)
      refine g_astore_n (pc := 12) (lv' := [(3, .ref q), (0, .ref (ad 0)), (1, .int p2), (2, .ref (ad 30))]) Z dL_give_12 (by decide) rfl ?_
      refine g_iconst (pc := 13) (v := 1) Z dL_give_13 (by decide) ?_
      refine g_widen (k := 1) (n := 6) (by decide) (by decide) ?_
      obtain rfl := Option.some.inj hf
      exact g_iret Z hr dL_give_14 (vC, vO) ⟨rfl, rfl⟩ rfl
    · replace hf := gIfN hE0 hf
      by_cases hE1 : E = "java/lang/IllegalArgumentException"
      · replace hf := gIfP hE1 hf
        subst hE1
        refine g_catch2 Z ⟨0, 9, 12, 13⟩ ⟨0, 9, 15, 19⟩ [] htab (by decide) (by decide) (mm wl5) Z.2.2.2.2.2.2.2.2.2.2.2.2.2.2.2.2.2.2.1 (by decide) (by decide) (mm wl10) (va_Nw.use rfl Z.2.2.2.2.2.2.2.2.2.2.2.2.2.1) (fun q => ?_)
        refine g_astore_n (pc := 15) (lv' := [(3, .ref q), (0, .ref (ad 0)), (1, .int p2), (2, .ref (ad 30))]) Z dL_give_15 (by decide) rfl ?_
        refine g_iconst (pc := 16) (v := 2) Z dL_give_16 (by decide) ?_
        refine g_widen (k := 1) (n := 6) (by decide) (by decide) ?_
        obtain rfl := Option.some.inj hf
        exact g_iret Z hr dL_give_17 (vC, vO) ⟨rfl, rfl⟩ rfl
      · replace hf := gIfN hE1 hf
        exact absurd hf (fun h => by cases h)
theorem wl15 : Cond.methodLink RL 24 yX4_set ∈ gA := wt2 100 rfl rfl
theorem wl16 : Cond.instanceMethod yX4_set ∈ gA := wt2 101 rfl rfl
theorem wl17 : Cond.selects RX4 yX4_set yX4_set ∈ gA := wt2 102 rfl rfl
theorem wl18 : cd_Heap_set ∈ gA := wt2 103 rfl rfl
/-! RedoHeapLaw.set(LRedoHeap;IIJ[J)I -/
def f_Law_set (N : Nat) (vD : DT) (vC : CT) (vO : (Nat → Int64)) (p2 : Int32) (p3 : Int32) (p4 : Int64) : Option (Int32 × CT × (Nat → Int64)) :=
  gH (f_Heap_set N vD vC p2 p3 p4) (fun x1 => if x1.1 = true then if gI (0 : Int32) 1 = true then some ((0 : Int32), x1.2, (vp_updL vO (0 : Int32).toNatClampNeg (1 : Int64))) else none else if gI (0 : Int32) 1 = true then some ((0 : Int32), x1.2, (vp_updL vO (0 : Int32).toNatClampNeg (0 : Int64))) else none) (fun E => if E = "java/lang/IllegalStateException" then some ((1 : Int32), vC, vO) else if E = "java/lang/IllegalArgumentException" then some ((2 : Int32), vC, vO) else none)
abbrev cd_Law_set : Cond := .codeWith yL_set cL_set 7 (some .int) [(0, 19, 22, 13), (0, 19, 26, 19)]
theorem yd_Law_set : yL_set.cls ≠ "java/lang/invoke/MethodHandle" ∧ yL_set.cls ≠ "java/lang/invoke/VarHandle" ∧ (parseMethodDescriptor yL_set.desc).map (fun d => d.parameters.length) = some 5 := by decide +kernel
abbrev rm_Law_set : Room := { frames := 9, cells := 1, slots := 6, locals := 154 }
abbrev q_Law_set (D : va_G) (ad : Nat → Nat) (ca : Nat → ClassId) (vD : DT) (res : Int32 × CT × (Nat → Int64)) (A : Nat → Prop) : Array Value → State → Outcome → State → Prop := va_Qi (fun (r : Int32) (u : CT × (Nat → Int64)) => r = res.1 ∧ u = res.2) (gB D cls (tys ca) A (fun (u : CT × (Nat → Int64)) => (wH ad ++ wB ad ++ wD ad ca vD ++ wC ad ca u.1 ++ wO ad ca u.2))) A
set_option maxHeartbeats 4000000 in
set_option maxRecDepth 100000 in
theorem c_Law_set (l : Launch) (hl0 : l.stackTraces = false) (D : va_G) (ad : Nat → Nat) (ca : Nat → ClassId) (N : Nat) (vD : DT) (vC : CT) (vO : (Nat → Int64)) (p2 : Int32) (p3 : Int32) (p4 : Int64) (res : Int32 × CT × (Nat → Int64)) (hf : f_Law_set N vD vC vO p2 p3 p4 = some res) (sz : Nat) : Met l yL_set (cd_Law_set :: gA) rm_Law_set (va_Pc [.ref (ad 0), .int p2, .int p3, .long p4, .ref (ad 30)] (gPX D cls (tys ca) (wH ad ++ wB ad ++ wD ad ca vD ++ wC ad ca vC ++ wO ad ca vO) sz RX4 strsH)) (q_Law_set D ad ca vD res (va_A (wH ad ++ wB ad ++ wD ad ca vD ++ wC ad ca vC ++ wO ad ca vO) sz)) 1 6 (va_A (wH ad ++ wB ad ++ wD ad ca vD ++ wC ad ca vC ++ wO ad ca vO) sz) := by
  refine g_metW (cc := cL_set) (hh := [(0, 19, 22, 13), (0, 19, 26, 19)]) (Qc := q_Law_set D ad ca vD res) (lv := [(0, .ref (ad 0)), (1, .int p2), (2, .int p3), (3, .long p4), (5, .ref (ad 30))]) (own := RL) (by decide) rfl rfl (Nat.le_of_ble_eq_true rfl) rfl sz ?_
  intro p e s m args below meth c A Z hr hT htab
  unfold f_Law_set at hf
  refine g_aload (pc := 0) Z 4 dL_set_0 rfl ?_
  refine g_iconst (pc := 2) (v := 0) Z dL_set_2 (by decide) ?_
  refine g_aload_n (pc := 3) Z 0 dL_set_3 rfl ?_
  refine g_iload_n (pc := 4) Z 1 dL_set_4 rfl ?_
  refine g_iload_n (pc := 5) Z 2 dL_set_5 rfl ?_
  refine g_lload_n (pc := 6) Z 3 dL_set_6 rfl ?_
  rcases gH_of hf with ⟨x1, h2, hf⟩ | ⟨E, h2, hf⟩
  · refine g_calli (pc := 7) (ws2 := fun u => (wH ad ++ wB ad ++ wD ad ca vD ++ wC ad ca u ++ wO ad ca vO)) (wr := (wO ad ca vO)) Z [0, 1, 2, 3, 4, 5, 6, 7, 8, 9, 10, 11] [12] [1, 2, 3, 4, 5, 6, 7, 8, 9, 10, 11, 12, 0] (g_runV Z (c_Heap_set l D ad ca N vD vC p2 p3 p4 x1 h2) (cwV 3 Z.2.2.2.2.1 (gg_V wl15 wl16 wl17 wl3 wl18) rfl rfl rfl (yv_of rfl yd_Heap_set) ⟨Nat.le_of_ble_eq_true rfl, Nat.le_of_ble_eq_true rfl⟩) [0, 1, 2, 3, 4, 5, 6, 7, 8, 9, 10, 11] rfl (by decide) 0 rfl rfl rfl rfl rfl (Nat.le_of_ble_eq_true rfl) dL_set_7 ⟨(Nat.le_of_ble_eq_true rfl), (Nat.le_of_ble_eq_true rfl)⟩) rfl rfl (by decide) (by decide) (by decide) (fun _ => rfl) (fun r u hu => ?_)
    obtain ⟨rfl, rfl⟩ := hu
    refine g_if_eq (pc := 10) (tgt := 17) Z dL_set_10 (by decide) (fun c3 => ?_) (fun c3 => ?_)
    · replace hf := gIfN (bI_z c3) hf
      refine g_lconst (pc := 17) (v := 0) Z dL_set_17 (by decide) ?_
      obtain ⟨b4, hf⟩ := gGuard hf
      refine g_last (pc := 18) (f := vO) (ws' := (wH ad ++ wB ad ++ wD ad ca vD ++ wC ad ca x1.2 ++ wO ad ca (vp_updL vO (0 : Int32).toNatClampNeg (0 : Int64)))) Z 12 0 dL_set_18 rfl rfl (gI_in b4) rfl ?_
      refine g_goto (pc := 19) (tgt := 30) Z dL_set_19 (by decide) ?_
      refine g_iconst (pc := 30) (v := 0) Z dL_set_30 (by decide) ?_
      refine g_widen (k := 1) (n := 6) (by decide) (by decide) ?_
      obtain rfl := Option.some.inj hf
      exact g_iret Z hr dL_set_31 (x1.2, (vp_updL vO (0 : Int32).toNatClampNeg (0 : Int64))) ⟨rfl, rfl⟩ rfl
    · replace hf := gIfP (bI_nz c3) hf
      refine g_lconst (pc := 13) (v := 1) Z dL_set_13 (by decide) ?_
      refine g_goto (pc := 14) (tgt := 18) Z dL_set_14 (by decide) ?_
      obtain ⟨b5, hf⟩ := gGuard hf
      refine g_last (pc := 18) (f := vO) (ws' := (wH ad ++ wB ad ++ wD ad ca vD ++ wC ad ca x1.2 ++ wO ad ca (vp_updL vO (0 : Int32).toNatClampNeg (1 : Int64)))) Z 12 0 dL_set_18 rfl rfl (gI_in b5) rfl ?_
      refine g_goto (pc := 19) (tgt := 30) Z dL_set_19 (by decide) ?_
      refine g_iconst (pc := 30) (v := 0) Z dL_set_30 (by decide) ?_
      refine g_widen (k := 1) (n := 6) (by decide) (by decide) ?_
      obtain rfl := Option.some.inj hf
      exact g_iret Z hr dL_set_31 (x1.2, (vp_updL vO (0 : Int32).toNatClampNeg (1 : Int64))) ⟨rfl, rfl⟩ rfl
  · refine g_callE (pc := 7) (wr := (wO ad ca vO)) Z [0, 1, 2, 3, 4, 5, 6, 7, 8, 9, 10, 11] [12] [1, 2, 3, 4, 5, 6, 7, 8, 9, 10, 11, 12, 0] (g_runXV Z hT (x_Heap_set l hl0 D ad ca N vD vC p2 p3 p4 E h2) (cwV 3 Z.2.2.2.2.1 (gg_V wl15 wl16 wl17 wl3 wl18) rfl rfl rfl (yv_of rfl yd_Heap_set) ⟨Nat.le_of_ble_eq_true rfl, Nat.le_of_ble_eq_true rfl⟩) [0, 1, 2, 3, 4, 5, 6, 7, 8, 9, 10, 11] rfl (by decide) 0 rfl rfl rfl rfl rfl (Nat.le_of_ble_eq_true rfl) dL_set_7 ⟨(Nat.le_of_ble_eq_true rfl), (Nat.le_of_ble_eq_true rfl)⟩) rfl rfl (by decide) (by decide) (by decide) rfl ?_
    by_cases hE0 : E = "java/lang/IllegalStateException"
    · replace hf := gIfP hE0 hf
      subst hE0
      refine g_catch1 Z ⟨0, 19, 22, 13⟩ [⟨0, 19, 26, 19⟩] htab (by decide) (by decide) (mm wl5) (va_Nw.use rfl Z.2.2.2.2.2.2.2.2.2.2.2.2.1) (fun q => ?_)
      refine g_astore (pc := 22) (lv' := [(6, .ref q), (0, .ref (ad 0)), (1, .int p2), (2, .int p3), (3, .long p4), (5, .ref (ad 30))]) Z dL_set_22 (by decide) rfl ?_
      refine g_iconst (pc := 24) (v := 1) Z dL_set_24 (by decide) ?_
      refine g_widen (k := 1) (n := 6) (by decide) (by decide) ?_
      obtain rfl := Option.some.inj hf
      exact g_iret Z hr dL_set_25 (vC, vO) ⟨rfl, rfl⟩ rfl
    · replace hf := gIfN hE0 hf
      by_cases hE1 : E = "java/lang/IllegalArgumentException"
      · replace hf := gIfP hE1 hf
        subst hE1
        refine g_catch2 Z ⟨0, 19, 22, 13⟩ ⟨0, 19, 26, 19⟩ [] htab (by decide) (by decide) (mm wl5) Z.2.2.2.2.2.2.2.2.2.2.2.2.2.2.2.2.2.2.1 (by decide) (by decide) (mm wl10) (va_Nw.use rfl Z.2.2.2.2.2.2.2.2.2.2.2.2.2.1) (fun q => ?_)
        refine g_astore (pc := 26) (lv' := [(6, .ref q), (0, .ref (ad 0)), (1, .int p2), (2, .int p3), (3, .long p4), (5, .ref (ad 30))]) Z dL_set_26 (by decide) rfl ?_
        refine g_iconst (pc := 28) (v := 2) Z dL_set_28 (by decide) ?_
        refine g_widen (k := 1) (n := 6) (by decide) (by decide) ?_
        obtain rfl := Option.some.inj hf
        exact g_iret Z hr dL_set_29 (vC, vO) ⟨rfl, rfl⟩ rfl
      · replace hf := gIfN hE1 hf
        exact absurd hf (fun h => by cases h)
theorem wl19 : Cond.methodLink RL 28 yX4_get ∈ gA := wt2 114 rfl rfl
theorem wl20 : Cond.instanceMethod yX4_get ∈ gA := wt2 115 rfl rfl
theorem wl21 : Cond.selects RX4 yX4_get yX4_get ∈ gA := wt2 116 rfl rfl
theorem wl22 : cd_Heap_get ∈ gA := wt2 117 rfl rfl
/-! RedoHeapLaw.get(LRedoHeap;II[J)I -/
def f_Law_get (N : Nat) (vD : DT) (vC : CT) (vO : (Nat → Int64)) (p2 : Int32) (p3 : Int32) : Option (Int32 × (Nat → Int64)) :=
  gH (f_Heap_get N vD vC p2 p3) (fun x1 => if gI (0 : Int32) 1 = true then some ((0 : Int32), (vp_updL vO (0 : Int32).toNatClampNeg x1)) else none) (fun E => if E = "java/lang/IllegalStateException" then some ((1 : Int32), vO) else if E = "java/lang/IllegalArgumentException" then some ((2 : Int32), vO) else none)
abbrev cd_Law_get : Cond := .codeWith yL_get cL_get 5 (some .int) [(0, 9, 12, 13), (0, 9, 16, 19)]
theorem yd_Law_get : yL_get.cls ≠ "java/lang/invoke/MethodHandle" ∧ yL_get.cls ≠ "java/lang/invoke/VarHandle" ∧ (parseMethodDescriptor yL_get.desc).map (fun d => d.parameters.length) = some 4 := by decide +kernel
abbrev rm_Law_get : Room := { frames := 9, cells := 1, slots := 6, locals := 152 }
abbrev q_Law_get (D : va_G) (ad : Nat → Nat) (ca : Nat → ClassId) (vD : DT) (vC : CT) (res : Int32 × (Nat → Int64)) (A : Nat → Prop) : Array Value → State → Outcome → State → Prop := va_Qi (fun (r : Int32) (u : (Nat → Int64)) => r = res.1 ∧ u = res.2) (gB D cls (tys ca) A (fun (u : (Nat → Int64)) => (wH ad ++ wB ad ++ wD ad ca vD ++ wC ad ca vC ++ wO ad ca u))) A
set_option maxHeartbeats 4000000 in
set_option maxRecDepth 100000 in
theorem c_Law_get (l : Launch) (hl0 : l.stackTraces = false) (D : va_G) (ad : Nat → Nat) (ca : Nat → ClassId) (N : Nat) (vD : DT) (vC : CT) (vO : (Nat → Int64)) (p2 : Int32) (p3 : Int32) (res : Int32 × (Nat → Int64)) (hf : f_Law_get N vD vC vO p2 p3 = some res) (sz : Nat) : Met l yL_get (cd_Law_get :: gA) rm_Law_get (va_Pc [.ref (ad 0), .int p2, .int p3, .ref (ad 30)] (gPX D cls (tys ca) (wH ad ++ wB ad ++ wD ad ca vD ++ wC ad ca vC ++ wO ad ca vO) sz RX4 strsH)) (q_Law_get D ad ca vD vC res (va_A (wH ad ++ wB ad ++ wD ad ca vD ++ wC ad ca vC ++ wO ad ca vO) sz)) 1 6 (va_A (wH ad ++ wB ad ++ wD ad ca vD ++ wC ad ca vC ++ wO ad ca vO) sz) := by
  refine g_metW (cc := cL_get) (hh := [(0, 9, 12, 13), (0, 9, 16, 19)]) (Qc := q_Law_get D ad ca vD vC res) (lv := [(0, .ref (ad 0)), (1, .int p2), (2, .int p3), (3, .ref (ad 30))]) (own := RL) (by decide) rfl rfl (Nat.le_of_ble_eq_true rfl) rfl sz ?_
  intro p e s m args below meth c A Z hr hT htab
  unfold f_Law_get at hf
  refine g_aload_n (pc := 0) Z 3 dL_get_0 rfl ?_
  refine g_iconst (pc := 1) (v := 0) Z dL_get_1 (by decide) ?_
  refine g_aload_n (pc := 2) Z 0 dL_get_2 rfl ?_
  refine g_iload_n (pc := 3) Z 1 dL_get_3 rfl ?_
  refine g_iload_n (pc := 4) Z 2 dL_get_4 rfl ?_
  rcases gH_of hf with ⟨x1, h2, hf⟩ | ⟨E, h2, hf⟩
  · refine g_calll (pc := 5) (ws2 := fun u => (wH ad ++ wB ad ++ wD ad ca vD ++ wC ad ca vC ++ wO ad ca vO)) (wr := (wO ad ca vO)) Z [0, 1, 2, 3, 4, 5, 6, 7, 8, 9, 10, 11] [12] [1, 2, 3, 4, 5, 6, 7, 8, 9, 10, 11, 12, 0] (g_runV Z (c_Heap_get l D ad ca N vD vC p2 p3 x1 h2) (cwV 2 Z.2.2.2.2.1 (gg_V wl19 wl20 wl21 wl3 wl22) rfl rfl rfl (yv_of rfl yd_Heap_get) ⟨Nat.le_of_ble_eq_true rfl, Nat.le_of_ble_eq_true rfl⟩) [0, 1, 2, 3, 4, 5, 6, 7, 8, 9, 10, 11] rfl (by decide) 0 rfl rfl rfl rfl rfl (Nat.le_of_ble_eq_true rfl) dL_get_5 ⟨(Nat.le_of_ble_eq_true rfl), (Nat.le_of_ble_eq_true rfl)⟩) rfl rfl (by decide) (by decide) (by decide) (fun _ => rfl) (fun r u hu => ?_)
    obtain rfl := hu.symm
    obtain ⟨b3, hf⟩ := gGuard hf
    refine g_last (pc := 8) (f := vO) (ws' := (wH ad ++ wB ad ++ wD ad ca vD ++ wC ad ca vC ++ wO ad ca (vp_updL vO (0 : Int32).toNatClampNeg x1))) Z 12 0 dL_get_8 rfl rfl (gI_in b3) rfl ?_
    refine g_goto (pc := 9) (tgt := 20) Z dL_get_9 (by decide) ?_
    refine g_iconst (pc := 20) (v := 0) Z dL_get_20 (by decide) ?_
    refine g_widen (k := 1) (n := 6) (by decide) (by decide) ?_
    obtain rfl := Option.some.inj hf
    exact g_iret Z hr dL_get_21 (vp_updL vO (0 : Int32).toNatClampNeg x1) ⟨rfl, rfl⟩ rfl
  · refine g_callE (pc := 5) (wr := (wO ad ca vO)) Z [0, 1, 2, 3, 4, 5, 6, 7, 8, 9, 10, 11] [12] [1, 2, 3, 4, 5, 6, 7, 8, 9, 10, 11, 12, 0] (g_runXV Z hT (x_Heap_get l hl0 D ad ca N vD vC p2 p3 E h2) (cwV 2 Z.2.2.2.2.1 (gg_V wl19 wl20 wl21 wl3 wl22) rfl rfl rfl (yv_of rfl yd_Heap_get) ⟨Nat.le_of_ble_eq_true rfl, Nat.le_of_ble_eq_true rfl⟩) [0, 1, 2, 3, 4, 5, 6, 7, 8, 9, 10, 11] rfl (by decide) 0 rfl rfl rfl rfl rfl (Nat.le_of_ble_eq_true rfl) dL_get_5 ⟨(Nat.le_of_ble_eq_true rfl), (Nat.le_of_ble_eq_true rfl)⟩) rfl rfl (by decide) (by decide) (by decide) rfl ?_
    by_cases hE0 : E = "java/lang/IllegalStateException"
    · replace hf := gIfP hE0 hf
      subst hE0
      refine g_catch1 Z ⟨0, 9, 12, 13⟩ [⟨0, 9, 16, 19⟩] htab (by decide) (by decide) (mm wl5) (va_Nw.use rfl Z.2.2.2.2.2.2.2.2.2.2.2.2.1) (fun q => ?_)
      refine g_astore (pc := 12) (lv' := [(4, .ref q), (0, .ref (ad 0)), (1, .int p2), (2, .int p3), (3, .ref (ad 30))]) Z dL_get_12 (by decide) rfl ?_
      refine g_iconst (pc := 14) (v := 1) Z dL_get_14 (by decide) ?_
      refine g_widen (k := 1) (n := 6) (by decide) (by decide) ?_
      obtain rfl := Option.some.inj hf
      exact g_iret Z hr dL_get_15 vO ⟨rfl, rfl⟩ rfl
    · replace hf := gIfN hE0 hf
      by_cases hE1 : E = "java/lang/IllegalArgumentException"
      · replace hf := gIfP hE1 hf
        subst hE1
        refine g_catch2 Z ⟨0, 9, 12, 13⟩ ⟨0, 9, 16, 19⟩ [] htab (by decide) (by decide) (mm wl5) Z.2.2.2.2.2.2.2.2.2.2.2.2.2.2.2.2.2.2.1 (by decide) (by decide) (mm wl10) (va_Nw.use rfl Z.2.2.2.2.2.2.2.2.2.2.2.2.2.1) (fun q => ?_)
        refine g_astore (pc := 16) (lv' := [(4, .ref q), (0, .ref (ad 0)), (1, .int p2), (2, .int p3), (3, .ref (ad 30))]) Z dL_get_16 (by decide) rfl ?_
        refine g_iconst (pc := 18) (v := 2) Z dL_get_18 (by decide) ?_
        refine g_widen (k := 1) (n := 6) (by decide) (by decide) ?_
        obtain rfl := Option.some.inj hf
        exact g_iret Z hr dL_get_19 vO ⟨rfl, rfl⟩ rfl
      · replace hf := gIfN hE1 hf
        exact absurd hf (fun h => by cases h)
theorem wl23 : Cond.methodLink RL 32 yX4_setRoot ∈ gA := wt2 122 rfl rfl
theorem wl24 : Cond.instanceMethod yX4_setRoot ∈ gA := wt2 123 rfl rfl
theorem wl25 : Cond.selects RX4 yX4_setRoot yX4_setRoot ∈ gA := wt2 124 rfl rfl
theorem wl26 : cd_Heap_setRoot ∈ gA := wt2 125 rfl rfl
/-! RedoHeapLaw.setRoot(LRedoHeap;I[J)I -/
def f_Law_setRoot (N : Nat) (vD : DT) (vC : CT) (vO : (Nat → Int64)) (p2 : Int32) : Option (Int32 × CT × (Nat → Int64)) :=
  gH (f_Heap_setRoot N vD vC p2) (fun x1 => if x1.1 = true then if gI (0 : Int32) 1 = true then some ((0 : Int32), x1.2, (vp_updL vO (0 : Int32).toNatClampNeg (1 : Int64))) else none else if gI (0 : Int32) 1 = true then some ((0 : Int32), x1.2, (vp_updL vO (0 : Int32).toNatClampNeg (0 : Int64))) else none) (fun E => if E = "java/lang/IllegalStateException" then some ((1 : Int32), vC, vO) else if E = "java/lang/IllegalArgumentException" then some ((2 : Int32), vC, vO) else none)
abbrev cd_Law_setRoot : Cond := .codeWith yL_setRoot cL_setRoot 4 (some .int) [(0, 16, 19, 13), (0, 16, 22, 19)]
theorem yd_Law_setRoot : yL_setRoot.cls ≠ "java/lang/invoke/MethodHandle" ∧ yL_setRoot.cls ≠ "java/lang/invoke/VarHandle" ∧ (parseMethodDescriptor yL_setRoot.desc).map (fun d => d.parameters.length) = some 3 := by decide +kernel
abbrev rm_Law_setRoot : Room := { frames := 9, cells := 1, slots := 6, locals := 143 }
abbrev q_Law_setRoot (D : va_G) (ad : Nat → Nat) (ca : Nat → ClassId) (vD : DT) (res : Int32 × CT × (Nat → Int64)) (A : Nat → Prop) : Array Value → State → Outcome → State → Prop := va_Qi (fun (r : Int32) (u : CT × (Nat → Int64)) => r = res.1 ∧ u = res.2) (gB D cls (tys ca) A (fun (u : CT × (Nat → Int64)) => (wH ad ++ wB ad ++ wD ad ca vD ++ wC ad ca u.1 ++ wO ad ca u.2))) A
set_option maxHeartbeats 4000000 in
set_option maxRecDepth 100000 in
theorem c_Law_setRoot (l : Launch) (hl0 : l.stackTraces = false) (D : va_G) (ad : Nat → Nat) (ca : Nat → ClassId) (N : Nat) (vD : DT) (vC : CT) (vO : (Nat → Int64)) (p2 : Int32) (res : Int32 × CT × (Nat → Int64)) (hf : f_Law_setRoot N vD vC vO p2 = some res) (sz : Nat) : Met l yL_setRoot (cd_Law_setRoot :: gA) rm_Law_setRoot (va_Pc [.ref (ad 0), .int p2, .ref (ad 30)] (gPX D cls (tys ca) (wH ad ++ wB ad ++ wD ad ca vD ++ wC ad ca vC ++ wO ad ca vO) sz RX4 strsH)) (q_Law_setRoot D ad ca vD res (va_A (wH ad ++ wB ad ++ wD ad ca vD ++ wC ad ca vC ++ wO ad ca vO) sz)) 1 6 (va_A (wH ad ++ wB ad ++ wD ad ca vD ++ wC ad ca vC ++ wO ad ca vO) sz) := by
  refine g_metW (cc := cL_setRoot) (hh := [(0, 16, 19, 13), (0, 16, 22, 19)]) (Qc := q_Law_setRoot D ad ca vD res) (lv := [(0, .ref (ad 0)), (1, .int p2), (2, .ref (ad 30))]) (own := RL) (by decide) rfl rfl (Nat.le_of_ble_eq_true rfl) rfl sz ?_
  intro p e s m args below meth c A Z hr hT htab
  unfold f_Law_setRoot at hf
  refine g_aload_n (pc := 0) Z 2 dL_setRoot_0 rfl ?_
  refine g_iconst (pc := 1) (v := 0) Z dL_setRoot_1 (by decide) ?_
  refine g_aload_n (pc := 2) Z 0 dL_setRoot_2 rfl ?_
  refine g_iload_n (pc := 3) Z 1 dL_setRoot_3 rfl ?_
  rcases gH_of hf with ⟨x1, h2, hf⟩ | ⟨E, h2, hf⟩
  · refine g_calli (pc := 4) (ws2 := fun u => (wH ad ++ wB ad ++ wD ad ca vD ++ wC ad ca u ++ wO ad ca vO)) (wr := (wO ad ca vO)) Z [0, 1, 2, 3, 4, 5, 6, 7, 8, 9, 10, 11] [12] [1, 2, 3, 4, 5, 6, 7, 8, 9, 10, 11, 12, 0] (g_runV Z (c_Heap_setRoot l D ad ca N vD vC p2 x1 h2) (cwV 1 Z.2.2.2.2.1 (gg_V wl23 wl24 wl25 wl3 wl26) rfl rfl rfl (yv_of rfl yd_Heap_setRoot) ⟨Nat.le_of_ble_eq_true rfl, Nat.le_of_ble_eq_true rfl⟩) [0, 1, 2, 3, 4, 5, 6, 7, 8, 9, 10, 11] rfl (by decide) 0 rfl rfl rfl rfl rfl (Nat.le_of_ble_eq_true rfl) dL_setRoot_4 ⟨(Nat.le_of_ble_eq_true rfl), (Nat.le_of_ble_eq_true rfl)⟩) rfl rfl (by decide) (by decide) (by decide) (fun _ => rfl) (fun r u hu => ?_)
    obtain ⟨rfl, rfl⟩ := hu
    refine g_if_eq (pc := 7) (tgt := 14) Z dL_setRoot_7 (by decide) (fun c3 => ?_) (fun c3 => ?_)
    · replace hf := gIfN (bI_z c3) hf
      refine g_lconst (pc := 14) (v := 0) Z dL_setRoot_14 (by decide) ?_
      obtain ⟨b4, hf⟩ := gGuard hf
      refine g_last (pc := 15) (f := vO) (ws' := (wH ad ++ wB ad ++ wD ad ca vD ++ wC ad ca x1.2 ++ wO ad ca (vp_updL vO (0 : Int32).toNatClampNeg (0 : Int64)))) Z 12 0 dL_setRoot_15 rfl rfl (gI_in b4) rfl ?_
      refine g_goto (pc := 16) (tgt := 25) Z dL_setRoot_16 (by decide) ?_
      refine g_iconst (pc := 25) (v := 0) Z dL_setRoot_25 (by decide) ?_
      refine g_widen (k := 1) (n := 6) (by decide) (by decide) ?_
      obtain rfl := Option.some.inj hf
      exact g_iret Z hr dL_setRoot_26 (x1.2, (vp_updL vO (0 : Int32).toNatClampNeg (0 : Int64))) ⟨rfl, rfl⟩ rfl
    · replace hf := gIfP (bI_nz c3) hf
      refine g_lconst (pc := 10) (v := 1) Z dL_setRoot_10 (by decide) ?_
      refine g_goto (pc := 11) (tgt := 15) Z dL_setRoot_11 (by decide) ?_
      obtain ⟨b5, hf⟩ := gGuard hf
      refine g_last (pc := 15) (f := vO) (ws' := (wH ad ++ wB ad ++ wD ad ca vD ++ wC ad ca x1.2 ++ wO ad ca (vp_updL vO (0 : Int32).toNatClampNeg (1 : Int64)))) Z 12 0 dL_setRoot_15 rfl rfl (gI_in b5) rfl ?_
      refine g_goto (pc := 16) (tgt := 25) Z dL_setRoot_16 (by decide) ?_
      refine g_iconst (pc := 25) (v := 0) Z dL_setRoot_25 (by decide) ?_
      refine g_widen (k := 1) (n := 6) (by decide) (by decide) ?_
      obtain rfl := Option.some.inj hf
      exact g_iret Z hr dL_setRoot_26 (x1.2, (vp_updL vO (0 : Int32).toNatClampNeg (1 : Int64))) ⟨rfl, rfl⟩ rfl
  · refine g_callE (pc := 4) (wr := (wO ad ca vO)) Z [0, 1, 2, 3, 4, 5, 6, 7, 8, 9, 10, 11] [12] [1, 2, 3, 4, 5, 6, 7, 8, 9, 10, 11, 12, 0] (g_runXV Z hT (x_Heap_setRoot l hl0 D ad ca N vD vC p2 E h2) (cwV 1 Z.2.2.2.2.1 (gg_V wl23 wl24 wl25 wl3 wl26) rfl rfl rfl (yv_of rfl yd_Heap_setRoot) ⟨Nat.le_of_ble_eq_true rfl, Nat.le_of_ble_eq_true rfl⟩) [0, 1, 2, 3, 4, 5, 6, 7, 8, 9, 10, 11] rfl (by decide) 0 rfl rfl rfl rfl rfl (Nat.le_of_ble_eq_true rfl) dL_setRoot_4 ⟨(Nat.le_of_ble_eq_true rfl), (Nat.le_of_ble_eq_true rfl)⟩) rfl rfl (by decide) (by decide) (by decide) rfl ?_
    by_cases hE0 : E = "java/lang/IllegalStateException"
    · replace hf := gIfP hE0 hf
      subst hE0
      refine g_catch1 Z ⟨0, 16, 19, 13⟩ [⟨0, 16, 22, 19⟩] htab (by decide) (by decide) (mm wl5) (va_Nw.use rfl Z.2.2.2.2.2.2.2.2.2.2.2.2.1) (fun q => ?_)
      refine g_astore_n (pc := 19) (lv' := [(3, .ref q), (0, .ref (ad 0)), (1, .int p2), (2, .ref (ad 30))]) Z dL_setRoot_19 (by decide) rfl ?_
      refine g_iconst (pc := 20) (v := 1) Z dL_setRoot_20 (by decide) ?_
      refine g_widen (k := 1) (n := 6) (by decide) (by decide) ?_
      obtain rfl := Option.some.inj hf
      exact g_iret Z hr dL_setRoot_21 (vC, vO) ⟨rfl, rfl⟩ rfl
    · replace hf := gIfN hE0 hf
      by_cases hE1 : E = "java/lang/IllegalArgumentException"
      · replace hf := gIfP hE1 hf
        subst hE1
        refine g_catch2 Z ⟨0, 16, 19, 13⟩ ⟨0, 16, 22, 19⟩ [] htab (by decide) (by decide) (mm wl5) Z.2.2.2.2.2.2.2.2.2.2.2.2.2.2.2.2.2.2.1 (by decide) (by decide) (mm wl10) (va_Nw.use rfl Z.2.2.2.2.2.2.2.2.2.2.2.2.2.1) (fun q => ?_)
        refine g_astore_n (pc := 22) (lv' := [(3, .ref q), (0, .ref (ad 0)), (1, .int p2), (2, .ref (ad 30))]) Z dL_setRoot_22 (by decide) rfl ?_
        refine g_iconst (pc := 23) (v := 2) Z dL_setRoot_23 (by decide) ?_
        refine g_widen (k := 1) (n := 6) (by decide) (by decide) ?_
        obtain rfl := Option.some.inj hf
        exact g_iret Z hr dL_setRoot_24 (vC, vO) ⟨rfl, rfl⟩ rfl
      · replace hf := gIfN hE1 hf
        exact absurd hf (fun h => by cases h)
theorem wl27 : Cond.methodLink RL 36 yX4_root ∈ gA := wt2 129 rfl rfl
theorem wl28 : Cond.instanceMethod yX4_root ∈ gA := wt2 130 rfl rfl
theorem wl29 : Cond.selects RX4 yX4_root yX4_root ∈ gA := wt2 131 rfl rfl
theorem wl30 : cd_Heap_root ∈ gA := wt2 132 rfl rfl
/-! RedoHeapLaw.root(LRedoHeap;[J)I -/
def f_Law_root (vD : DT) (vC : CT) (vO : (Nat → Int64)) : Option (Int32 × (Nat → Int64)) :=
  gH (f_Heap_root vD vC) (fun x1 => if gI (0 : Int32) 1 = true then some ((0 : Int32), (vp_updL vO (0 : Int32).toNatClampNeg x1.toInt64)) else none) (fun E => if E = "java/lang/IllegalStateException" then some ((1 : Int32), vO) else none)
abbrev cd_Law_root : Cond := .codeWith yL_root cL_root 3 (some .int) [(0, 8, 11, 13)]
theorem yd_Law_root : yL_root.cls ≠ "java/lang/invoke/MethodHandle" ∧ yL_root.cls ≠ "java/lang/invoke/VarHandle" ∧ (parseMethodDescriptor yL_root.desc).map (fun d => d.parameters.length) = some 2 := by decide +kernel
abbrev rm_Law_root : Room := { frames := 8, cells := 1, slots := 6, locals := 122 }
abbrev q_Law_root (D : va_G) (ad : Nat → Nat) (ca : Nat → ClassId) (vD : DT) (vC : CT) (res : Int32 × (Nat → Int64)) (A : Nat → Prop) : Array Value → State → Outcome → State → Prop := va_Qi (fun (r : Int32) (u : (Nat → Int64)) => r = res.1 ∧ u = res.2) (gB D cls (tys ca) A (fun (u : (Nat → Int64)) => (wH ad ++ wD ad ca vD ++ wC ad ca vC ++ wO ad ca u))) A
set_option maxHeartbeats 4000000 in
set_option maxRecDepth 100000 in
theorem c_Law_root (l : Launch) (hl0 : l.stackTraces = false) (D : va_G) (ad : Nat → Nat) (ca : Nat → ClassId) (vD : DT) (vC : CT) (vO : (Nat → Int64)) (res : Int32 × (Nat → Int64)) (hf : f_Law_root vD vC vO = some res) (sz : Nat) : Met l yL_root (cd_Law_root :: gA) rm_Law_root (va_Pc [.ref (ad 0), .ref (ad 30)] (gPX D cls (tys ca) (wH ad ++ wD ad ca vD ++ wC ad ca vC ++ wO ad ca vO) sz RX4 strsH)) (q_Law_root D ad ca vD vC res (va_A (wH ad ++ wD ad ca vD ++ wC ad ca vC ++ wO ad ca vO) sz)) 1 6 (va_A (wH ad ++ wD ad ca vD ++ wC ad ca vC ++ wO ad ca vO) sz) := by
  refine g_metW (cc := cL_root) (hh := [(0, 8, 11, 13)]) (Qc := q_Law_root D ad ca vD vC res) (lv := [(0, .ref (ad 0)), (1, .ref (ad 30))]) (own := RL) (by decide) rfl rfl (Nat.le_of_ble_eq_true rfl) rfl sz ?_
  intro p e s m args below meth c A Z hr hT htab
  unfold f_Law_root at hf
  refine g_aload_n (pc := 0) Z 1 dL_root_0 rfl ?_
  refine g_iconst (pc := 1) (v := 0) Z dL_root_1 (by decide) ?_
  refine g_aload_n (pc := 2) Z 0 dL_root_2 rfl ?_
  rcases gH_of hf with ⟨x1, h2, hf⟩ | ⟨E, h2, hf⟩
  · refine g_calli (pc := 3) (ws2 := fun u => (wH ad ++ wD ad ca vD ++ wC ad ca vC ++ wO ad ca vO)) (wr := (wO ad ca vO)) Z [0, 1, 2, 3, 4, 5, 6, 7, 8, 9, 10] [11] [1, 2, 3, 4, 5, 6, 7, 8, 9, 10, 11, 0] (g_runV Z (c_Heap_root l D ad ca vD vC x1 h2) (cwV 0 Z.2.2.2.2.1 (gg_V wl27 wl28 wl29 wl3 wl30) rfl rfl rfl (yv_of rfl yd_Heap_root) ⟨Nat.le_of_ble_eq_true rfl, Nat.le_of_ble_eq_true rfl⟩) [0, 1, 2, 3, 4, 5, 6, 7, 8, 9, 10] rfl (by decide) 0 rfl rfl rfl rfl rfl (Nat.le_of_ble_eq_true rfl) dL_root_3 ⟨(Nat.le_of_ble_eq_true rfl), (Nat.le_of_ble_eq_true rfl)⟩) rfl rfl (by decide) (by decide) (by decide) (fun _ => rfl) (fun r u hu => ?_)
    obtain rfl := hu.symm
    refine g_i2l (pc := 6) Z dL_root_6 ?_
    obtain ⟨b3, hf⟩ := gGuard hf
    refine g_last (pc := 7) (f := vO) (ws' := (wH ad ++ wD ad ca vD ++ wC ad ca vC ++ wO ad ca (vp_updL vO (0 : Int32).toNatClampNeg x1.toInt64))) Z 11 0 dL_root_7 rfl rfl (gI_in b3) rfl ?_
    refine g_goto (pc := 8) (tgt := 14) Z dL_root_8 (by decide) ?_
    refine g_iconst (pc := 14) (v := 0) Z dL_root_14 (by decide) ?_
    refine g_widen (k := 1) (n := 6) (by decide) (by decide) ?_
    obtain rfl := Option.some.inj hf
    exact g_iret Z hr dL_root_15 (vp_updL vO (0 : Int32).toNatClampNeg x1.toInt64) ⟨rfl, rfl⟩ rfl
  · refine g_callE (pc := 3) (wr := (wO ad ca vO)) Z [0, 1, 2, 3, 4, 5, 6, 7, 8, 9, 10] [11] [1, 2, 3, 4, 5, 6, 7, 8, 9, 10, 11, 0] (g_runXV Z hT (x_Heap_root l hl0 D ad ca vD vC E h2) (cwV 0 Z.2.2.2.2.1 (gg_V wl27 wl28 wl29 wl3 wl30) rfl rfl rfl (yv_of rfl yd_Heap_root) ⟨Nat.le_of_ble_eq_true rfl, Nat.le_of_ble_eq_true rfl⟩) [0, 1, 2, 3, 4, 5, 6, 7, 8, 9, 10] rfl (by decide) 0 rfl rfl rfl rfl rfl (Nat.le_of_ble_eq_true rfl) dL_root_3 ⟨(Nat.le_of_ble_eq_true rfl), (Nat.le_of_ble_eq_true rfl)⟩) rfl rfl (by decide) (by decide) (by decide) rfl ?_
    by_cases hE0 : E = "java/lang/IllegalStateException"
    · replace hf := gIfP hE0 hf
      subst hE0
      refine g_catch1 Z ⟨0, 8, 11, 13⟩ [] htab (by decide) (by decide) (mm wl5) (va_Nw.use rfl Z.2.2.2.2.2.2.2.2.2.2.2.2.1) (fun q => ?_)
      refine g_astore_n (pc := 11) (lv' := [(2, .ref q), (0, .ref (ad 0)), (1, .ref (ad 30))]) Z dL_root_11 (by decide) rfl ?_
      refine g_iconst (pc := 12) (v := 1) Z dL_root_12 (by decide) ?_
      refine g_widen (k := 1) (n := 6) (by decide) (by decide) ?_
      obtain rfl := Option.some.inj hf
      exact g_iret Z hr dL_root_13 vO ⟨rfl, rfl⟩ rfl
    · replace hf := gIfN hE0 hf
      exact absurd hf (fun h => by cases h)
theorem wl31 : Cond.methodLink RL 39 yX4_commit ∈ gA := wt2 136 rfl rfl
theorem wl32 : Cond.instanceMethod yX4_commit ∈ gA := wt2 137 rfl rfl
theorem wl33 : Cond.selects RX4 yX4_commit yX4_commit ∈ gA := wt2 138 rfl rfl
theorem wl34 : cd_Heap_commit ∈ gA := wt2 139 rfl rfl
/-! RedoHeapLaw.commit(LRedoHeap;Z[J)I -/
def f_Law_commit (N : Nat) (vL : LT) (vD : DT) (vC : CT) (vO : (Nat → Int64)) (p2 : Bool) : Option (Int32 × LT × DT × CT × (Nat → Int64)) :=
  gH (f_Heap_commit N vL vD vC p2) (fun x1 => if gI (0 : Int32) 1 = true then some ((0 : Int32), x1.2.1, x1.2.2.1, x1.2.2.2, (vp_updL vO (0 : Int32).toNatClampNeg x1.1.toInt64)) else none) (fun E => if E = "java/lang/IllegalStateException" then some ((1 : Int32), vL, vD, vC, vO) else none)
abbrev cd_Law_commit : Cond := .codeWith yL_commit cL_commit 4 (some .int) [(0, 9, 12, 13)]
theorem yd_Law_commit : yL_commit.cls ≠ "java/lang/invoke/MethodHandle" ∧ yL_commit.cls ≠ "java/lang/invoke/VarHandle" ∧ (parseMethodDescriptor yL_commit.desc).map (fun d => d.parameters.length) = some 3 := by decide +kernel
abbrev rm_Law_commit : Room := { frames := 9, cells := 1, slots := 6, locals := 176 }
abbrev q_Law_commit (D : va_G) (ad : Nat → Nat) (ca : Nat → ClassId) (res : Int32 × LT × DT × CT × (Nat → Int64)) (A : Nat → Prop) : Array Value → State → Outcome → State → Prop := va_Qi (fun (r : Int32) (u : LT × DT × CT × (Nat → Int64)) => r = res.1 ∧ u = res.2) (gB D cls (tys ca) A (fun (u : LT × DT × CT × (Nat → Int64)) => (wH ad ++ wL ad ca u.1 ++ wD ad ca u.2.1 ++ wC ad ca u.2.2.1 ++ wO ad ca u.2.2.2))) A
set_option maxHeartbeats 4000000 in
set_option maxRecDepth 100000 in
theorem c_Law_commit (l : Launch) (hl0 : l.stackTraces = false) (D : va_G) (ad : Nat → Nat) (ca : Nat → ClassId) (N : Nat) (vL : LT) (vD : DT) (vC : CT) (vO : (Nat → Int64)) (p2 : Bool) (res : Int32 × LT × DT × CT × (Nat → Int64)) (hf : f_Law_commit N vL vD vC vO p2 = some res) (sz : Nat) : Met l yL_commit (cd_Law_commit :: gA) rm_Law_commit (va_Pc [.ref (ad 0), .int (bI p2), .ref (ad 30)] (gPX D cls (tys ca) (wH ad ++ wL ad ca vL ++ wD ad ca vD ++ wC ad ca vC ++ wO ad ca vO) sz RX4 strsH)) (q_Law_commit D ad ca res (va_A (wH ad ++ wL ad ca vL ++ wD ad ca vD ++ wC ad ca vC ++ wO ad ca vO) sz)) 1 6 (va_A (wH ad ++ wL ad ca vL ++ wD ad ca vD ++ wC ad ca vC ++ wO ad ca vO) sz) := by
  refine g_metW (cc := cL_commit) (hh := [(0, 9, 12, 13)]) (Qc := q_Law_commit D ad ca res) (lv := [(0, .ref (ad 0)), (1, .int (bI p2)), (2, .ref (ad 30))]) (own := RL) (by decide) rfl rfl (Nat.le_of_ble_eq_true rfl) rfl sz ?_
  intro p e s m args below meth c A Z hr hT htab
  unfold f_Law_commit at hf
  refine g_aload_n (pc := 0) Z 2 dL_commit_0 rfl ?_
  refine g_iconst (pc := 1) (v := 0) Z dL_commit_1 (by decide) ?_
  refine g_aload_n (pc := 2) Z 0 dL_commit_2 rfl ?_
  refine g_iload_n (pc := 3) Z 1 dL_commit_3 rfl ?_
  rcases gH_of hf with ⟨x1, h2, hf⟩ | ⟨E, h2, hf⟩
  · refine g_calli (pc := 4) (ws2 := fun u => (wH ad ++ wL ad ca u.1 ++ wD ad ca u.2.1 ++ wC ad ca u.2.2 ++ wO ad ca vO)) (wr := (wO ad ca vO)) Z [0, 1, 2, 3, 4, 5, 6, 7, 8, 9, 10, 11] [12] [1, 2, 3, 4, 5, 6, 7, 8, 9, 10, 11, 12, 0] (g_runV Z (c_Heap_commit l D ad ca N vL vD vC p2 x1 h2) (cwV 1 Z.2.2.2.2.1 (gg_V wl31 wl32 wl33 wl3 wl34) rfl rfl rfl (yv_of rfl yd_Heap_commit) ⟨Nat.le_of_ble_eq_true rfl, Nat.le_of_ble_eq_true rfl⟩) [0, 1, 2, 3, 4, 5, 6, 7, 8, 9, 10, 11] rfl (by decide) 0 rfl rfl rfl rfl rfl (Nat.le_of_ble_eq_true rfl) dL_commit_4 ⟨(Nat.le_of_ble_eq_true rfl), (Nat.le_of_ble_eq_true rfl)⟩) rfl rfl (by decide) (by decide) (by decide) (fun _ => rfl) (fun r u hu => ?_)
    obtain ⟨rfl, rfl⟩ := hu
    refine g_i2l (pc := 7) Z dL_commit_7 ?_
    obtain ⟨b3, hf⟩ := gGuard hf
    refine g_last (pc := 8) (f := vO) (ws' := (wH ad ++ wL ad ca x1.2.1 ++ wD ad ca x1.2.2.1 ++ wC ad ca x1.2.2.2 ++ wO ad ca (vp_updL vO (0 : Int32).toNatClampNeg x1.1.toInt64))) Z 12 0 dL_commit_8 rfl rfl (gI_in b3) rfl ?_
    refine g_goto (pc := 9) (tgt := 15) Z dL_commit_9 (by decide) ?_
    refine g_iconst (pc := 15) (v := 0) Z dL_commit_15 (by decide) ?_
    refine g_widen (k := 1) (n := 6) (by decide) (by decide) ?_
    obtain rfl := Option.some.inj hf
    exact g_iret Z hr dL_commit_16 (x1.2.1, x1.2.2.1, x1.2.2.2, (vp_updL vO (0 : Int32).toNatClampNeg x1.1.toInt64)) ⟨rfl, rfl⟩ rfl
  · refine g_callE (pc := 4) (wr := (wO ad ca vO)) Z [0, 1, 2, 3, 4, 5, 6, 7, 8, 9, 10, 11] [12] [1, 2, 3, 4, 5, 6, 7, 8, 9, 10, 11, 12, 0] (g_runXV Z hT (x_Heap_commit l hl0 D ad ca N vL vD vC p2 E h2) (cwV 1 Z.2.2.2.2.1 (gg_V wl31 wl32 wl33 wl3 wl34) rfl rfl rfl (yv_of rfl yd_Heap_commit) ⟨Nat.le_of_ble_eq_true rfl, Nat.le_of_ble_eq_true rfl⟩) [0, 1, 2, 3, 4, 5, 6, 7, 8, 9, 10, 11] rfl (by decide) 0 rfl rfl rfl rfl rfl (Nat.le_of_ble_eq_true rfl) dL_commit_4 ⟨(Nat.le_of_ble_eq_true rfl), (Nat.le_of_ble_eq_true rfl)⟩) rfl rfl (by decide) (by decide) (by decide) rfl ?_
    by_cases hE0 : E = "java/lang/IllegalStateException"
    · replace hf := gIfP hE0 hf
      subst hE0
      refine g_catch1 Z ⟨0, 9, 12, 13⟩ [] htab (by decide) (by decide) (mm wl5) (va_Nw.use rfl Z.2.2.2.2.2.2.2.2.2.2.2.2.1) (fun q => ?_)
      refine g_astore_n (pc := 12) (lv' := [(3, .ref q), (0, .ref (ad 0)), (1, .int (bI p2)), (2, .ref (ad 30))]) Z dL_commit_12 (by decide) rfl ?_
      refine g_iconst (pc := 13) (v := 1) Z dL_commit_13 (by decide) ?_
      refine g_widen (k := 1) (n := 6) (by decide) (by decide) ?_
      obtain rfl := Option.some.inj hf
      exact g_iret Z hr dL_commit_14 (vL, vD, vC, vO) ⟨rfl, rfl⟩ rfl
    · replace hf := gIfN hE0 hf
      exact absurd hf (fun h => by cases h)
theorem wl35 : Cond.methodLink RL 43 yX4_sync ∈ gA := wt2 225 rfl rfl
theorem wl36 : Cond.instanceMethod yX4_sync ∈ gA := wt2 226 rfl rfl
theorem wl37 : Cond.selects RX4 yX4_sync yX4_sync ∈ gA := wt2 227 rfl rfl
theorem wl38 : cd_Heap_sync ∈ gA := wt2 228 rfl rfl
/-! RedoHeapLaw.sync(LRedoHeap;[J)I -/
def f_Law_sync (N : Nat) (vD : DT) (vO : (Nat → Int64)) : Option (Int32 × DT × (Nat → Int64)) :=
  gH (f_Heap_sync N vD) (fun x1 => if gI (0 : Int32) 1 = true then some ((0 : Int32), x1.2, (vp_updL vO (0 : Int32).toNatClampNeg x1.1.toInt64)) else none) (fun E => if E = "java/lang/IllegalStateException" then some ((1 : Int32), vD, vO) else none)
abbrev cd_Law_sync : Cond := .codeWith yL_sync cL_sync 3 (some .int) [(0, 8, 11, 13)]
theorem yd_Law_sync : yL_sync.cls ≠ "java/lang/invoke/MethodHandle" ∧ yL_sync.cls ≠ "java/lang/invoke/VarHandle" ∧ (parseMethodDescriptor yL_sync.desc).map (fun d => d.parameters.length) = some 2 := by decide +kernel
abbrev rm_Law_sync : Room := { frames := 8, cells := 1, slots := 6, locals := 123 }
abbrev q_Law_sync (D : va_G) (ad : Nat → Nat) (ca : Nat → ClassId) (res : Int32 × DT × (Nat → Int64)) (A : Nat → Prop) : Array Value → State → Outcome → State → Prop := va_Qi (fun (r : Int32) (u : DT × (Nat → Int64)) => r = res.1 ∧ u = res.2) (gB D cls (tys ca) A (fun (u : DT × (Nat → Int64)) => (wH ad ++ wD ad ca u.1 ++ wO ad ca u.2))) A
set_option maxHeartbeats 4000000 in
set_option maxRecDepth 100000 in
theorem c_Law_sync (l : Launch) (hl0 : l.stackTraces = false) (D : va_G) (ad : Nat → Nat) (ca : Nat → ClassId) (N : Nat) (vD : DT) (vO : (Nat → Int64)) (res : Int32 × DT × (Nat → Int64)) (hf : f_Law_sync N vD vO = some res) (sz : Nat) : Met l yL_sync (cd_Law_sync :: gA) rm_Law_sync (va_Pc [.ref (ad 0), .ref (ad 30)] (gPX D cls (tys ca) (wH ad ++ wD ad ca vD ++ wO ad ca vO) sz RX4 strsH)) (q_Law_sync D ad ca res (va_A (wH ad ++ wD ad ca vD ++ wO ad ca vO) sz)) 1 6 (va_A (wH ad ++ wD ad ca vD ++ wO ad ca vO) sz) := by
  refine g_metW (cc := cL_sync) (hh := [(0, 8, 11, 13)]) (Qc := q_Law_sync D ad ca res) (lv := [(0, .ref (ad 0)), (1, .ref (ad 30))]) (own := RL) (by decide) rfl rfl (Nat.le_of_ble_eq_true rfl) rfl sz ?_
  intro p e s m args below meth c A Z hr hT htab
  unfold f_Law_sync at hf
  refine g_aload_n (pc := 0) Z 1 dL_sync_0 rfl ?_
  refine g_iconst (pc := 1) (v := 0) Z dL_sync_1 (by decide) ?_
  refine g_aload_n (pc := 2) Z 0 dL_sync_2 rfl ?_
  rcases gH_of hf with ⟨x1, h2, hf⟩ | ⟨E, h2, hf⟩
  · refine g_calli (pc := 3) (ws2 := fun u => (wH ad ++ wD ad ca u ++ wO ad ca vO)) (wr := (wO ad ca vO)) Z [0, 1, 2, 3, 4, 5] [6] [1, 2, 3, 4, 5, 6, 0] (g_runV Z (c_Heap_sync l D ad ca N vD x1 h2) (cwV 0 Z.2.2.2.2.1 (gg_V wl35 wl36 wl37 wl3 wl38) rfl rfl rfl (yv_of rfl yd_Heap_sync) ⟨Nat.le_of_ble_eq_true rfl, Nat.le_of_ble_eq_true rfl⟩) [0, 1, 2, 3, 4, 5] rfl (by decide) 0 rfl rfl rfl rfl rfl (Nat.le_of_ble_eq_true rfl) dL_sync_3 ⟨(Nat.le_of_ble_eq_true rfl), (Nat.le_of_ble_eq_true rfl)⟩) rfl rfl (by decide) (by decide) (by decide) (fun _ => rfl) (fun r u hu => ?_)
    obtain ⟨rfl, rfl⟩ := hu
    refine g_i2l (pc := 6) Z dL_sync_6 ?_
    obtain ⟨b3, hf⟩ := gGuard hf
    refine g_last (pc := 7) (f := vO) (ws' := (wH ad ++ wD ad ca x1.2 ++ wO ad ca (vp_updL vO (0 : Int32).toNatClampNeg x1.1.toInt64))) Z 6 0 dL_sync_7 rfl rfl (gI_in b3) rfl ?_
    refine g_goto (pc := 8) (tgt := 14) Z dL_sync_8 (by decide) ?_
    refine g_iconst (pc := 14) (v := 0) Z dL_sync_14 (by decide) ?_
    refine g_widen (k := 1) (n := 6) (by decide) (by decide) ?_
    obtain rfl := Option.some.inj hf
    exact g_iret Z hr dL_sync_15 (x1.2, (vp_updL vO (0 : Int32).toNatClampNeg x1.1.toInt64)) ⟨rfl, rfl⟩ rfl
  · refine g_callE (pc := 3) (wr := (wO ad ca vO)) Z [0, 1, 2, 3, 4, 5] [6] [1, 2, 3, 4, 5, 6, 0] (g_runXV Z hT (x_Heap_sync l hl0 D ad ca N vD E h2) (cwV 0 Z.2.2.2.2.1 (gg_V wl35 wl36 wl37 wl3 wl38) rfl rfl rfl (yv_of rfl yd_Heap_sync) ⟨Nat.le_of_ble_eq_true rfl, Nat.le_of_ble_eq_true rfl⟩) [0, 1, 2, 3, 4, 5] rfl (by decide) 0 rfl rfl rfl rfl rfl (Nat.le_of_ble_eq_true rfl) dL_sync_3 ⟨(Nat.le_of_ble_eq_true rfl), (Nat.le_of_ble_eq_true rfl)⟩) rfl rfl (by decide) (by decide) (by decide) rfl ?_
    by_cases hE0 : E = "java/lang/IllegalStateException"
    · replace hf := gIfP hE0 hf
      subst hE0
      refine g_catch1 Z ⟨0, 8, 11, 13⟩ [] htab (by decide) (by decide) (mm wl5) (va_Nw.use rfl Z.2.2.2.2.2.2.2.2.2.2.2.2.1) (fun q => ?_)
      refine g_astore_n (pc := 11) (lv' := [(2, .ref q), (0, .ref (ad 0)), (1, .ref (ad 30))]) Z dL_sync_11 (by decide) rfl ?_
      refine g_iconst (pc := 12) (v := 1) Z dL_sync_12 (by decide) ?_
      refine g_widen (k := 1) (n := 6) (by decide) (by decide) ?_
      obtain rfl := Option.some.inj hf
      exact g_iret Z hr dL_sync_13 (vD, vO) ⟨rfl, rfl⟩ rfl
    · replace hf := gIfN hE0 hf
      exact absurd hf (fun h => by cases h)
theorem wl39 : Cond.methodLink RL 46 yX4_abort ∈ gA := wt2 237 rfl rfl
theorem wl40 : Cond.instanceMethod yX4_abort ∈ gA := wt2 238 rfl rfl
theorem wl41 : Cond.selects RX4 yX4_abort yX4_abort ∈ gA := wt2 239 rfl rfl
theorem wl42 : cd_Heap_abort ∈ gA := wt3 0 rfl rfl
/-! RedoHeapLaw.abort(LRedoHeap;[J)I -/
def f_Law_abort (N : Nat) (vD : DT) (vC : CT) (vO : (Nat → Int64)) : Option (Int32 × CT × (Nat → Int64)) :=
  gH (f_Heap_abort N vD vC) (fun x1 => if gI (0 : Int32) 1 = true then some ((0 : Int32), x1.2, (vp_updL vO (0 : Int32).toNatClampNeg x1.1.toInt64)) else none) (fun E => if E = "java/lang/IllegalStateException" then some ((1 : Int32), vC, vO) else none)
abbrev cd_Law_abort : Cond := .codeWith yL_abort cL_abort 3 (some .int) [(0, 8, 11, 13)]
theorem yd_Law_abort : yL_abort.cls ≠ "java/lang/invoke/MethodHandle" ∧ yL_abort.cls ≠ "java/lang/invoke/VarHandle" ∧ (parseMethodDescriptor yL_abort.desc).map (fun d => d.parameters.length) = some 2 := by decide +kernel
abbrev rm_Law_abort : Room := { frames := 9, cells := 1, slots := 6, locals := 143 }
abbrev q_Law_abort (D : va_G) (ad : Nat → Nat) (ca : Nat → ClassId) (vD : DT) (res : Int32 × CT × (Nat → Int64)) (A : Nat → Prop) : Array Value → State → Outcome → State → Prop := va_Qi (fun (r : Int32) (u : CT × (Nat → Int64)) => r = res.1 ∧ u = res.2) (gB D cls (tys ca) A (fun (u : CT × (Nat → Int64)) => (wH ad ++ wD ad ca vD ++ wC ad ca u.1 ++ wO ad ca u.2))) A
set_option maxHeartbeats 4000000 in
set_option maxRecDepth 100000 in
theorem c_Law_abort (l : Launch) (hl0 : l.stackTraces = false) (D : va_G) (ad : Nat → Nat) (ca : Nat → ClassId) (N : Nat) (vD : DT) (vC : CT) (vO : (Nat → Int64)) (res : Int32 × CT × (Nat → Int64)) (hf : f_Law_abort N vD vC vO = some res) (sz : Nat) : Met l yL_abort (cd_Law_abort :: gA) rm_Law_abort (va_Pc [.ref (ad 0), .ref (ad 30)] (gPX D cls (tys ca) (wH ad ++ wD ad ca vD ++ wC ad ca vC ++ wO ad ca vO) sz RX4 strsH)) (q_Law_abort D ad ca vD res (va_A (wH ad ++ wD ad ca vD ++ wC ad ca vC ++ wO ad ca vO) sz)) 1 6 (va_A (wH ad ++ wD ad ca vD ++ wC ad ca vC ++ wO ad ca vO) sz) := by
  refine g_metW (cc := cL_abort) (hh := [(0, 8, 11, 13)]) (Qc := q_Law_abort D ad ca vD res) (lv := [(0, .ref (ad 0)), (1, .ref (ad 30))]) (own := RL) (by decide) rfl rfl (Nat.le_of_ble_eq_true rfl) rfl sz ?_
  intro p e s m args below meth c A Z hr hT htab
  unfold f_Law_abort at hf
  refine g_aload_n (pc := 0) Z 1 dL_abort_0 rfl ?_
  refine g_iconst (pc := 1) (v := 0) Z dL_abort_1 (by decide) ?_
  refine g_aload_n (pc := 2) Z 0 dL_abort_2 rfl ?_
  rcases gH_of hf with ⟨x1, h2, hf⟩ | ⟨E, h2, hf⟩
  · refine g_calli (pc := 3) (ws2 := fun u => (wH ad ++ wD ad ca vD ++ wC ad ca u ++ wO ad ca vO)) (wr := (wO ad ca vO)) Z [0, 1, 2, 3, 4, 5, 6, 7, 8, 9, 10] [11] [1, 2, 3, 4, 5, 6, 7, 8, 9, 10, 11, 0] (g_runV Z (c_Heap_abort l D ad ca N vD vC x1 h2) (cwV 0 Z.2.2.2.2.1 (gg_V wl39 wl40 wl41 wl3 wl42) rfl rfl rfl (yv_of rfl yd_Heap_abort) ⟨Nat.le_of_ble_eq_true rfl, Nat.le_of_ble_eq_true rfl⟩) [0, 1, 2, 3, 4, 5, 6, 7, 8, 9, 10] rfl (by decide) 0 rfl rfl rfl rfl rfl (Nat.le_of_ble_eq_true rfl) dL_abort_3 ⟨(Nat.le_of_ble_eq_true rfl), (Nat.le_of_ble_eq_true rfl)⟩) rfl rfl (by decide) (by decide) (by decide) (fun _ => rfl) (fun r u hu => ?_)
    obtain ⟨rfl, rfl⟩ := hu
    refine g_i2l (pc := 6) Z dL_abort_6 ?_
    obtain ⟨b3, hf⟩ := gGuard hf
    refine g_last (pc := 7) (f := vO) (ws' := (wH ad ++ wD ad ca vD ++ wC ad ca x1.2 ++ wO ad ca (vp_updL vO (0 : Int32).toNatClampNeg x1.1.toInt64))) Z 11 0 dL_abort_7 rfl rfl (gI_in b3) rfl ?_
    refine g_goto (pc := 8) (tgt := 14) Z dL_abort_8 (by decide) ?_
    refine g_iconst (pc := 14) (v := 0) Z dL_abort_14 (by decide) ?_
    refine g_widen (k := 1) (n := 6) (by decide) (by decide) ?_
    obtain rfl := Option.some.inj hf
    exact g_iret Z hr dL_abort_15 (x1.2, (vp_updL vO (0 : Int32).toNatClampNeg x1.1.toInt64)) ⟨rfl, rfl⟩ rfl
  · refine g_callE (pc := 3) (wr := (wO ad ca vO)) Z [0, 1, 2, 3, 4, 5, 6, 7, 8, 9, 10] [11] [1, 2, 3, 4, 5, 6, 7, 8, 9, 10, 11, 0] (g_runXV Z hT (x_Heap_abort l hl0 D ad ca N vD vC E h2) (cwV 0 Z.2.2.2.2.1 (gg_V wl39 wl40 wl41 wl3 wl42) rfl rfl rfl (yv_of rfl yd_Heap_abort) ⟨Nat.le_of_ble_eq_true rfl, Nat.le_of_ble_eq_true rfl⟩) [0, 1, 2, 3, 4, 5, 6, 7, 8, 9, 10] rfl (by decide) 0 rfl rfl rfl rfl rfl (Nat.le_of_ble_eq_true rfl) dL_abort_3 ⟨(Nat.le_of_ble_eq_true rfl), (Nat.le_of_ble_eq_true rfl)⟩) rfl rfl (by decide) (by decide) (by decide) rfl ?_
    by_cases hE0 : E = "java/lang/IllegalStateException"
    · replace hf := gIfP hE0 hf
      subst hE0
      refine g_catch1 Z ⟨0, 8, 11, 13⟩ [] htab (by decide) (by decide) (mm wl5) (va_Nw.use rfl Z.2.2.2.2.2.2.2.2.2.2.2.2.1) (fun q => ?_)
      refine g_astore_n (pc := 11) (lv' := [(2, .ref q), (0, .ref (ad 0)), (1, .ref (ad 30))]) Z dL_abort_11 (by decide) rfl ?_
      refine g_iconst (pc := 12) (v := 1) Z dL_abort_12 (by decide) ?_
      refine g_widen (k := 1) (n := 6) (by decide) (by decide) ?_
      obtain rfl := Option.some.inj hf
      exact g_iret Z hr dL_abort_13 (vC, vO) ⟨rfl, rfl⟩ rfl
    · replace hf := gIfN hE0 hf
      exact absurd hf (fun h => by cases h)
theorem wl43 : Cond.methodLink RL 49 yX4_checkpoint ∈ gA := wt3 8 rfl rfl
theorem wl44 : Cond.instanceMethod yX4_checkpoint ∈ gA := wt3 9 rfl rfl
theorem wl45 : Cond.selects RX4 yX4_checkpoint yX4_checkpoint ∈ gA := wt3 10 rfl rfl
theorem wl46 : cd_Heap_checkpoint ∈ gA := wt3 11 rfl rfl
/-! RedoHeapLaw.checkpoint(LRedoHeap;[J)I -/
def f_Law_checkpoint (N : Nat) (vL : LT) (vD : DT) (vC : CT) (vO : (Nat → Int64)) : Option (Int32 × LT × DT × (Nat → Int64)) :=
  gH (f_Heap_checkpoint N vL vD vC) (fun x1 => if gI (0 : Int32) 1 = true then some ((0 : Int32), x1.2.1, x1.2.2, (vp_updL vO (0 : Int32).toNatClampNeg x1.1.toInt64)) else none) (fun E => if E = "java/lang/IllegalStateException" then some ((1 : Int32), vL, vD, vO) else none)
abbrev cd_Law_checkpoint : Cond := .codeWith yL_checkpoint cL_checkpoint 3 (some .int) [(0, 8, 11, 13)]
theorem yd_Law_checkpoint : yL_checkpoint.cls ≠ "java/lang/invoke/MethodHandle" ∧ yL_checkpoint.cls ≠ "java/lang/invoke/VarHandle" ∧ (parseMethodDescriptor yL_checkpoint.desc).map (fun d => d.parameters.length) = some 2 := by decide +kernel
abbrev rm_Law_checkpoint : Room := { frames := 8, cells := 1, slots := 6, locals := 172 }
abbrev q_Law_checkpoint (D : va_G) (ad : Nat → Nat) (ca : Nat → ClassId) (vC : CT) (res : Int32 × LT × DT × (Nat → Int64)) (A : Nat → Prop) : Array Value → State → Outcome → State → Prop := va_Qi (fun (r : Int32) (u : LT × DT × (Nat → Int64)) => r = res.1 ∧ u = res.2) (gB D cls (tys ca) A (fun (u : LT × DT × (Nat → Int64)) => (wH ad ++ wL ad ca u.1 ++ wD ad ca u.2.1 ++ wC ad ca vC ++ wO ad ca u.2.2))) A
set_option maxHeartbeats 4000000 in
set_option maxRecDepth 100000 in
theorem c_Law_checkpoint (l : Launch) (hl0 : l.stackTraces = false) (D : va_G) (ad : Nat → Nat) (ca : Nat → ClassId) (N : Nat) (vL : LT) (vD : DT) (vC : CT) (vO : (Nat → Int64)) (res : Int32 × LT × DT × (Nat → Int64)) (hf : f_Law_checkpoint N vL vD vC vO = some res) (sz : Nat) : Met l yL_checkpoint (cd_Law_checkpoint :: gA) rm_Law_checkpoint (va_Pc [.ref (ad 0), .ref (ad 30)] (gPX D cls (tys ca) (wH ad ++ wL ad ca vL ++ wD ad ca vD ++ wC ad ca vC ++ wO ad ca vO) sz RX4 strsH)) (q_Law_checkpoint D ad ca vC res (va_A (wH ad ++ wL ad ca vL ++ wD ad ca vD ++ wC ad ca vC ++ wO ad ca vO) sz)) 1 6 (va_A (wH ad ++ wL ad ca vL ++ wD ad ca vD ++ wC ad ca vC ++ wO ad ca vO) sz) := by
  refine g_metW (cc := cL_checkpoint) (hh := [(0, 8, 11, 13)]) (Qc := q_Law_checkpoint D ad ca vC res) (lv := [(0, .ref (ad 0)), (1, .ref (ad 30))]) (own := RL) (by decide) rfl rfl (Nat.le_of_ble_eq_true rfl) rfl sz ?_
  intro p e s m args below meth c A Z hr hT htab
  unfold f_Law_checkpoint at hf
  refine g_aload_n (pc := 0) Z 1 dL_checkpoint_0 rfl ?_
  refine g_iconst (pc := 1) (v := 0) Z dL_checkpoint_1 (by decide) ?_
  refine g_aload_n (pc := 2) Z 0 dL_checkpoint_2 rfl ?_
  rcases gH_of hf with ⟨x1, h2, hf⟩ | ⟨E, h2, hf⟩
  · refine g_calli (pc := 3) (ws2 := fun u => (wH ad ++ wL ad ca u.1 ++ wD ad ca u.2 ++ wC ad ca vC ++ wO ad ca vO)) (wr := (wO ad ca vO)) Z [0, 1, 2, 3, 4, 5, 6, 7, 8, 9, 10, 11] [12] [1, 2, 3, 4, 5, 6, 7, 8, 9, 10, 11, 12, 0] (g_runV Z (c_Heap_checkpoint l D ad ca N vL vD vC x1 h2) (cwV 0 Z.2.2.2.2.1 (gg_V wl43 wl44 wl45 wl3 wl46) rfl rfl rfl (yv_of rfl yd_Heap_checkpoint) ⟨Nat.le_of_ble_eq_true rfl, Nat.le_of_ble_eq_true rfl⟩) [0, 1, 2, 3, 4, 5, 6, 7, 8, 9, 10, 11] rfl (by decide) 0 rfl rfl rfl rfl rfl (Nat.le_of_ble_eq_true rfl) dL_checkpoint_3 ⟨(Nat.le_of_ble_eq_true rfl), (Nat.le_of_ble_eq_true rfl)⟩) rfl rfl (by decide) (by decide) (by decide) (fun _ => rfl) (fun r u hu => ?_)
    obtain ⟨rfl, rfl⟩ := hu
    refine g_i2l (pc := 6) Z dL_checkpoint_6 ?_
    obtain ⟨b3, hf⟩ := gGuard hf
    refine g_last (pc := 7) (f := vO) (ws' := (wH ad ++ wL ad ca x1.2.1 ++ wD ad ca x1.2.2 ++ wC ad ca vC ++ wO ad ca (vp_updL vO (0 : Int32).toNatClampNeg x1.1.toInt64))) Z 12 0 dL_checkpoint_7 rfl rfl (gI_in b3) rfl ?_
    refine g_goto (pc := 8) (tgt := 14) Z dL_checkpoint_8 (by decide) ?_
    refine g_iconst (pc := 14) (v := 0) Z dL_checkpoint_14 (by decide) ?_
    refine g_widen (k := 1) (n := 6) (by decide) (by decide) ?_
    obtain rfl := Option.some.inj hf
    exact g_iret Z hr dL_checkpoint_15 (x1.2.1, x1.2.2, (vp_updL vO (0 : Int32).toNatClampNeg x1.1.toInt64)) ⟨rfl, rfl⟩ rfl
  · refine g_callE (pc := 3) (wr := (wO ad ca vO)) Z [0, 1, 2, 3, 4, 5, 6, 7, 8, 9, 10, 11] [12] [1, 2, 3, 4, 5, 6, 7, 8, 9, 10, 11, 12, 0] (g_runXV Z hT (x_Heap_checkpoint l hl0 D ad ca N vL vD vC E h2) (cwV 0 Z.2.2.2.2.1 (gg_V wl43 wl44 wl45 wl3 wl46) rfl rfl rfl (yv_of rfl yd_Heap_checkpoint) ⟨Nat.le_of_ble_eq_true rfl, Nat.le_of_ble_eq_true rfl⟩) [0, 1, 2, 3, 4, 5, 6, 7, 8, 9, 10, 11] rfl (by decide) 0 rfl rfl rfl rfl rfl (Nat.le_of_ble_eq_true rfl) dL_checkpoint_3 ⟨(Nat.le_of_ble_eq_true rfl), (Nat.le_of_ble_eq_true rfl)⟩) rfl rfl (by decide) (by decide) (by decide) rfl ?_
    by_cases hE0 : E = "java/lang/IllegalStateException"
    · replace hf := gIfP hE0 hf
      subst hE0
      refine g_catch1 Z ⟨0, 8, 11, 13⟩ [] htab (by decide) (by decide) (mm wl5) (va_Nw.use rfl Z.2.2.2.2.2.2.2.2.2.2.2.2.1) (fun q => ?_)
      refine g_astore_n (pc := 11) (lv' := [(2, .ref q), (0, .ref (ad 0)), (1, .ref (ad 30))]) Z dL_checkpoint_11 (by decide) rfl ?_
      refine g_iconst (pc := 12) (v := 1) Z dL_checkpoint_12 (by decide) ?_
      refine g_widen (k := 1) (n := 6) (by decide) (by decide) ?_
      obtain rfl := Option.some.inj hf
      exact g_iret Z hr dL_checkpoint_13 (vL, vD, vO) ⟨rfl, rfl⟩ rfl
    · replace hf := gIfN hE0 hf
      exact absurd hf (fun h => by cases h)
theorem wl47 : Cond.methodLink RL 52 yX4_power ∈ gA := wt3 19 rfl rfl
theorem wl48 : Cond.instanceMethod yX4_power ∈ gA := wt3 20 rfl rfl
theorem wl49 : Cond.selects RX4 yX4_power yX4_power ∈ gA := wt3 21 rfl rfl
theorem wl50 : cd_Heap_power ∈ gA := wt3 22 rfl rfl
/-! RedoHeapLaw.power(LRedoHeap;II[J)I -/
def f_Law_power (vD : DT) (vO : (Nat → Int64)) (p2 : Int32) (p3 : Int32) : Option (Int32 × DT × (Nat → Int64)) :=
  gH (f_Heap_power vD p2 p3) (fun x1 => if gI (0 : Int32) 1 = true then some ((0 : Int32), x1.2, (vp_updL vO (0 : Int32).toNatClampNeg x1.1.toInt64)) else none) (fun E => if E = "java/lang/IllegalArgumentException" then some ((1 : Int32), vD, vO) else none)
abbrev cd_Law_power : Cond := .codeWith yL_power cL_power 5 (some .int) [(0, 10, 13, 19)]
theorem yd_Law_power : yL_power.cls ≠ "java/lang/invoke/MethodHandle" ∧ yL_power.cls ≠ "java/lang/invoke/VarHandle" ∧ (parseMethodDescriptor yL_power.desc).map (fun d => d.parameters.length) = some 4 := by decide +kernel
abbrev rm_Law_power : Room := { frames := 7, cells := 1, slots := 6, locals := 104 }
abbrev q_Law_power (D : va_G) (ad : Nat → Nat) (ca : Nat → ClassId) (res : Int32 × DT × (Nat → Int64)) (A : Nat → Prop) : Array Value → State → Outcome → State → Prop := va_Qi (fun (r : Int32) (u : DT × (Nat → Int64)) => r = res.1 ∧ u = res.2) (gB D cls (tys ca) A (fun (u : DT × (Nat → Int64)) => (wH ad ++ wD ad ca u.1 ++ wO ad ca u.2))) A
set_option maxHeartbeats 4000000 in
set_option maxRecDepth 100000 in
theorem c_Law_power (l : Launch) (hl0 : l.stackTraces = false) (D : va_G) (ad : Nat → Nat) (ca : Nat → ClassId) (vD : DT) (vO : (Nat → Int64)) (p2 : Int32) (p3 : Int32) (res : Int32 × DT × (Nat → Int64)) (hf : f_Law_power vD vO p2 p3 = some res) (sz : Nat) : Met l yL_power (cd_Law_power :: gA) rm_Law_power (va_Pc [.ref (ad 0), .int p2, .int p3, .ref (ad 30)] (gPX D cls (tys ca) (wH ad ++ wD ad ca vD ++ wO ad ca vO) sz RX4 strsH)) (q_Law_power D ad ca res (va_A (wH ad ++ wD ad ca vD ++ wO ad ca vO) sz)) 1 6 (va_A (wH ad ++ wD ad ca vD ++ wO ad ca vO) sz) := by
  refine g_metW (cc := cL_power) (hh := [(0, 10, 13, 19)]) (Qc := q_Law_power D ad ca res) (lv := [(0, .ref (ad 0)), (1, .int p2), (2, .int p3), (3, .ref (ad 30))]) (own := RL) (by decide) rfl rfl (Nat.le_of_ble_eq_true rfl) rfl sz ?_
  intro p e s m args below meth c A Z hr hT htab
  unfold f_Law_power at hf
  refine g_aload_n (pc := 0) Z 3 dL_power_0 rfl ?_
  refine g_iconst (pc := 1) (v := 0) Z dL_power_1 (by decide) ?_
  refine g_aload_n (pc := 2) Z 0 dL_power_2 rfl ?_
  refine g_iload_n (pc := 3) Z 1 dL_power_3 rfl ?_
  refine g_iload_n (pc := 4) Z 2 dL_power_4 rfl ?_
  rcases gH_of hf with ⟨x1, h2, hf⟩ | ⟨E, h2, hf⟩
  · refine g_calli (pc := 5) (ws2 := fun u => (wH ad ++ wD ad ca u ++ wO ad ca vO)) (wr := (wO ad ca vO)) Z [0, 1, 2, 3, 4, 5] [6] [1, 2, 3, 4, 5, 6, 0] (g_runV Z (c_Heap_power l D ad ca vD p2 p3 x1 h2) (cwV 2 Z.2.2.2.2.1 (gg_V wl47 wl48 wl49 wl3 wl50) rfl rfl rfl (yv_of rfl yd_Heap_power) ⟨Nat.le_of_ble_eq_true rfl, Nat.le_of_ble_eq_true rfl⟩) [0, 1, 2, 3, 4, 5] rfl (by decide) 0 rfl rfl rfl rfl rfl (Nat.le_of_ble_eq_true rfl) dL_power_5 ⟨(Nat.le_of_ble_eq_true rfl), (Nat.le_of_ble_eq_true rfl)⟩) rfl rfl (by decide) (by decide) (by decide) (fun _ => rfl) (fun r u hu => ?_)
    obtain ⟨rfl, rfl⟩ := hu
    refine g_i2l (pc := 8) Z dL_power_8 ?_
    obtain ⟨b3, hf⟩ := gGuard hf
    refine g_last (pc := 9) (f := vO) (ws' := (wH ad ++ wD ad ca x1.2 ++ wO ad ca (vp_updL vO (0 : Int32).toNatClampNeg x1.1.toInt64))) Z 6 0 dL_power_9 rfl rfl (gI_in b3) rfl ?_
    refine g_goto (pc := 10) (tgt := 17) Z dL_power_10 (by decide) ?_
    refine g_iconst (pc := 17) (v := 0) Z dL_power_17 (by decide) ?_
    refine g_widen (k := 1) (n := 6) (by decide) (by decide) ?_
    obtain rfl := Option.some.inj hf
    exact g_iret Z hr dL_power_18 (x1.2, (vp_updL vO (0 : Int32).toNatClampNeg x1.1.toInt64)) ⟨rfl, rfl⟩ rfl
  · refine g_callE (pc := 5) (wr := (wO ad ca vO)) Z [0, 1, 2, 3, 4, 5] [6] [1, 2, 3, 4, 5, 6, 0] (g_runXV Z hT (x_Heap_power l hl0 D ad ca vD p2 p3 E h2) (cwV 2 Z.2.2.2.2.1 (gg_V wl47 wl48 wl49 wl3 wl50) rfl rfl rfl (yv_of rfl yd_Heap_power) ⟨Nat.le_of_ble_eq_true rfl, Nat.le_of_ble_eq_true rfl⟩) [0, 1, 2, 3, 4, 5] rfl (by decide) 0 rfl rfl rfl rfl rfl (Nat.le_of_ble_eq_true rfl) dL_power_5 ⟨(Nat.le_of_ble_eq_true rfl), (Nat.le_of_ble_eq_true rfl)⟩) rfl rfl (by decide) (by decide) (by decide) rfl ?_
    by_cases hE0 : E = "java/lang/IllegalArgumentException"
    · replace hf := gIfP hE0 hf
      subst hE0
      refine g_catch1 Z ⟨0, 10, 13, 19⟩ [] htab (by decide) (by decide) (mm wl10) (va_Nw.use rfl Z.2.2.2.2.2.2.2.2.2.2.2.2.2.1) (fun q => ?_)
      refine g_astore (pc := 13) (lv' := [(4, .ref q), (0, .ref (ad 0)), (1, .int p2), (2, .int p3), (3, .ref (ad 30))]) Z dL_power_13 (by decide) rfl ?_
      refine g_iconst (pc := 15) (v := 1) Z dL_power_15 (by decide) ?_
      refine g_widen (k := 1) (n := 6) (by decide) (by decide) ?_
      obtain rfl := Option.some.inj hf
      exact g_iret Z hr dL_power_16 (vD, vO) ⟨rfl, rfl⟩ rfl
    · replace hf := gIfN hE0 hf
      exact absurd hf (fun h => by cases h)
theorem wl51 : Cond.methodLink RL 56 yX4_cut ∈ gA := wt3 31 rfl rfl
theorem wl52 : Cond.instanceMethod yX4_cut ∈ gA := wt3 32 rfl rfl
theorem wl53 : Cond.selects RX4 yX4_cut yX4_cut ∈ gA := wt3 33 rfl rfl
theorem wl54 : cd_Heap_cut ∈ gA := wt3 34 rfl rfl
/-! RedoHeapLaw.cut(LRedoHeap;I[J)I -/
def f_Law_cut (N : Nat) (vD : DT) (vC : CT) (vO : (Nat → Int64)) (p2 : Int32) : Option (Int32 × DT × CT × (Nat → Int64)) :=
  gH (f_Heap_cut N vD vC p2) (fun x1 => if gI (0 : Int32) 1 = true then some ((0 : Int32), x1.2.1, x1.2.2, (vp_updL vO (0 : Int32).toNatClampNeg x1.1.toInt64)) else none) (fun E => if E = "java/lang/IllegalStateException" then some ((1 : Int32), vD, vC, vO) else if E = "java/lang/IllegalArgumentException" then some ((2 : Int32), vD, vC, vO) else none)
abbrev cd_Law_cut : Cond := .codeWith yL_cut cL_cut 4 (some .int) [(0, 9, 12, 13), (0, 9, 15, 19)]
theorem yd_Law_cut : yL_cut.cls ≠ "java/lang/invoke/MethodHandle" ∧ yL_cut.cls ≠ "java/lang/invoke/VarHandle" ∧ (parseMethodDescriptor yL_cut.desc).map (fun d => d.parameters.length) = some 3 := by decide +kernel
abbrev rm_Law_cut : Room := { frames := 8, cells := 1, slots := 6, locals := 124 }
abbrev q_Law_cut (D : va_G) (ad : Nat → Nat) (ca : Nat → ClassId) (res : Int32 × DT × CT × (Nat → Int64)) (A : Nat → Prop) : Array Value → State → Outcome → State → Prop := va_Qi (fun (r : Int32) (u : DT × CT × (Nat → Int64)) => r = res.1 ∧ u = res.2) (gB D cls (tys ca) A (fun (u : DT × CT × (Nat → Int64)) => (wH ad ++ wD ad ca u.1 ++ wC ad ca u.2.1 ++ wO ad ca u.2.2))) A
set_option maxHeartbeats 4000000 in
set_option maxRecDepth 100000 in
theorem c_Law_cut (l : Launch) (hl0 : l.stackTraces = false) (D : va_G) (ad : Nat → Nat) (ca : Nat → ClassId) (N : Nat) (vD : DT) (vC : CT) (vO : (Nat → Int64)) (p2 : Int32) (res : Int32 × DT × CT × (Nat → Int64)) (hf : f_Law_cut N vD vC vO p2 = some res) (sz : Nat) : Met l yL_cut (cd_Law_cut :: gA) rm_Law_cut (va_Pc [.ref (ad 0), .int p2, .ref (ad 30)] (gPX D cls (tys ca) (wH ad ++ wD ad ca vD ++ wC ad ca vC ++ wO ad ca vO) sz RX4 strsH)) (q_Law_cut D ad ca res (va_A (wH ad ++ wD ad ca vD ++ wC ad ca vC ++ wO ad ca vO) sz)) 1 6 (va_A (wH ad ++ wD ad ca vD ++ wC ad ca vC ++ wO ad ca vO) sz) := by
  refine g_metW (cc := cL_cut) (hh := [(0, 9, 12, 13), (0, 9, 15, 19)]) (Qc := q_Law_cut D ad ca res) (lv := [(0, .ref (ad 0)), (1, .int p2), (2, .ref (ad 30))]) (own := RL) (by decide) rfl rfl (Nat.le_of_ble_eq_true rfl) rfl sz ?_
  intro p e s m args below meth c A Z hr hT htab
  unfold f_Law_cut at hf
  refine g_aload_n (pc := 0) Z 2 dL_cut_0 rfl ?_
  refine g_iconst (pc := 1) (v := 0) Z dL_cut_1 (by decide) ?_
  refine g_aload_n (pc := 2) Z 0 dL_cut_2 rfl ?_
  refine g_iload_n (pc := 3) Z 1 dL_cut_3 rfl ?_
  rcases gH_of hf with ⟨x1, h2, hf⟩ | ⟨E, h2, hf⟩
  · refine g_calli (pc := 4) (ws2 := fun u => (wH ad ++ wD ad ca u.1 ++ wC ad ca u.2 ++ wO ad ca vO)) (wr := (wO ad ca vO)) Z [0, 1, 2, 3, 4, 5, 6, 7, 8, 9, 10] [11] [1, 2, 3, 4, 5, 6, 7, 8, 9, 10, 11, 0] (g_runV Z (c_Heap_cut l D ad ca N vD vC p2 x1 h2) (cwV 1 Z.2.2.2.2.1 (gg_V wl51 wl52 wl53 wl3 wl54) rfl rfl rfl (yv_of rfl yd_Heap_cut) ⟨Nat.le_of_ble_eq_true rfl, Nat.le_of_ble_eq_true rfl⟩) [0, 1, 2, 3, 4, 5, 6, 7, 8, 9, 10] rfl (by decide) 0 rfl rfl rfl rfl rfl (Nat.le_of_ble_eq_true rfl) dL_cut_4 ⟨(Nat.le_of_ble_eq_true rfl), (Nat.le_of_ble_eq_true rfl)⟩) rfl rfl (by decide) (by decide) (by decide) (fun _ => rfl) (fun r u hu => ?_)
    obtain ⟨rfl, rfl⟩ := hu
    refine g_i2l (pc := 7) Z dL_cut_7 ?_
    obtain ⟨b3, hf⟩ := gGuard hf
    refine g_last (pc := 8) (f := vO) (ws' := (wH ad ++ wD ad ca x1.2.1 ++ wC ad ca x1.2.2 ++ wO ad ca (vp_updL vO (0 : Int32).toNatClampNeg x1.1.toInt64))) Z 11 0 dL_cut_8 rfl rfl (gI_in b3) rfl ?_
    refine g_goto (pc := 9) (tgt := 18) Z dL_cut_9 (by decide) ?_
    refine g_iconst (pc := 18) (v := 0) Z dL_cut_18 (by decide) ?_
    refine g_widen (k := 1) (n := 6) (by decide) (by decide) ?_
    obtain rfl := Option.some.inj hf
    exact g_iret Z hr dL_cut_19 (x1.2.1, x1.2.2, (vp_updL vO (0 : Int32).toNatClampNeg x1.1.toInt64)) ⟨rfl, rfl⟩ rfl
  · refine g_callE (pc := 4) (wr := (wO ad ca vO)) Z [0, 1, 2, 3, 4, 5, 6, 7, 8, 9, 10] [11] [1, 2, 3, 4, 5, 6, 7, 8, 9, 10, 11, 0] (g_runXV Z hT (x_Heap_cut l hl0 D ad ca N vD vC p2 E h2) (cwV 1 Z.2.2.2.2.1 (gg_V wl51 wl52 wl53 wl3 wl54) rfl rfl rfl (yv_of rfl yd_Heap_cut) ⟨Nat.le_of_ble_eq_true rfl, Nat.le_of_ble_eq_true rfl⟩) [0, 1, 2, 3, 4, 5, 6, 7, 8, 9, 10] rfl (by decide) 0 rfl rfl rfl rfl rfl (Nat.le_of_ble_eq_true rfl) dL_cut_4 ⟨(Nat.le_of_ble_eq_true rfl), (Nat.le_of_ble_eq_true rfl)⟩) rfl rfl (by decide) (by decide) (by decide) rfl ?_
    by_cases hE0 : E = "java/lang/IllegalStateException"
    · replace hf := gIfP hE0 hf
      subst hE0
      refine g_catch1 Z ⟨0, 9, 12, 13⟩ [⟨0, 9, 15, 19⟩] htab (by decide) (by decide) (mm wl5) (va_Nw.use rfl Z.2.2.2.2.2.2.2.2.2.2.2.2.1) (fun q => ?_)
      refine g_astore_n (pc := 12) (lv' := [(3, .ref q), (0, .ref (ad 0)), (1, .int p2), (2, .ref (ad 30))]) Z dL_cut_12 (by decide) rfl ?_
      refine g_iconst (pc := 13) (v := 1) Z dL_cut_13 (by decide) ?_
      refine g_widen (k := 1) (n := 6) (by decide) (by decide) ?_
      obtain rfl := Option.some.inj hf
      exact g_iret Z hr dL_cut_14 (vD, vC, vO) ⟨rfl, rfl⟩ rfl
    · replace hf := gIfN hE0 hf
      by_cases hE1 : E = "java/lang/IllegalArgumentException"
      · replace hf := gIfP hE1 hf
        subst hE1
        refine g_catch2 Z ⟨0, 9, 12, 13⟩ ⟨0, 9, 15, 19⟩ [] htab (by decide) (by decide) (mm wl5) Z.2.2.2.2.2.2.2.2.2.2.2.2.2.2.2.2.2.2.1 (by decide) (by decide) (mm wl10) (va_Nw.use rfl Z.2.2.2.2.2.2.2.2.2.2.2.2.2.1) (fun q => ?_)
        refine g_astore_n (pc := 15) (lv' := [(3, .ref q), (0, .ref (ad 0)), (1, .int p2), (2, .ref (ad 30))]) Z dL_cut_15 (by decide) rfl ?_
        refine g_iconst (pc := 16) (v := 2) Z dL_cut_16 (by decide) ?_
        refine g_widen (k := 1) (n := 6) (by decide) (by decide) ?_
        obtain rfl := Option.some.inj hf
        exact g_iret Z hr dL_cut_17 (vD, vC, vO) ⟨rfl, rfl⟩ rfl
      · replace hf := gIfN hE1 hf
        exact absurd hf (fun h => by cases h)
theorem wl55 : Cond.methodLink RL 59 yX4_open ∈ gA := wt3 40 rfl rfl
theorem wl56 : Cond.instanceMethod yX4_open ∈ gA := wt3 41 rfl rfl
theorem wl57 : Cond.selects RX4 yX4_open yX4_open ∈ gA := wt3 42 rfl rfl
theorem wl58 : cd_Heap_open ∈ gA := wt3 43 rfl rfl
/-! RedoHeapLaw.open(LRedoHeap;[J)I -/
def f_Law_open (N : Nat) (vL : LT) (vD : DT) (vC : CT) (vO : (Nat → Int64)) : Option (Int32 × LT × DT × CT × (Nat → Int64)) :=
  gH (f_Heap_open N vL vD vC) (fun x1 => if gI (0 : Int32) 1 = true then some ((0 : Int32), x1.2.1, x1.2.2.1, x1.2.2.2, (vp_updL vO (0 : Int32).toNatClampNeg x1.1.toInt64)) else none) (fun E => if E = "java/lang/IllegalStateException" then some ((1 : Int32), vL, vD, vC, vO) else none)
abbrev cd_Law_open : Cond := .codeWith yL_open cL_open 3 (some .int) [(0, 8, 11, 13)]
theorem yd_Law_open : yL_open.cls ≠ "java/lang/invoke/MethodHandle" ∧ yL_open.cls ≠ "java/lang/invoke/VarHandle" ∧ (parseMethodDescriptor yL_open.desc).map (fun d => d.parameters.length) = some 2 := by decide +kernel
abbrev rm_Law_open : Room := { frames := 7, cells := 1, slots := 6, locals := 172 }
abbrev q_Law_open (D : va_G) (ad : Nat → Nat) (ca : Nat → ClassId) (res : Int32 × LT × DT × CT × (Nat → Int64)) (A : Nat → Prop) : Array Value → State → Outcome → State → Prop := va_Qi (fun (r : Int32) (u : LT × DT × CT × (Nat → Int64)) => r = res.1 ∧ u = res.2) (gB D cls (tys ca) A (fun (u : LT × DT × CT × (Nat → Int64)) => (wH ad ++ wL ad ca u.1 ++ wD ad ca u.2.1 ++ wC ad ca u.2.2.1 ++ wO ad ca u.2.2.2))) A
set_option maxHeartbeats 4000000 in
set_option maxRecDepth 100000 in
theorem c_Law_open (l : Launch) (hl0 : l.stackTraces = false) (D : va_G) (ad : Nat → Nat) (ca : Nat → ClassId) (N : Nat) (vL : LT) (vD : DT) (vC : CT) (vO : (Nat → Int64)) (res : Int32 × LT × DT × CT × (Nat → Int64)) (hf : f_Law_open N vL vD vC vO = some res) (sz : Nat) : Met l yL_open (cd_Law_open :: gA) rm_Law_open (va_Pc [.ref (ad 0), .ref (ad 30)] (gPX D cls (tys ca) (wH ad ++ wL ad ca vL ++ wD ad ca vD ++ wC ad ca vC ++ wO ad ca vO) sz RX4 strsH)) (q_Law_open D ad ca res (va_A (wH ad ++ wL ad ca vL ++ wD ad ca vD ++ wC ad ca vC ++ wO ad ca vO) sz)) 1 6 (va_A (wH ad ++ wL ad ca vL ++ wD ad ca vD ++ wC ad ca vC ++ wO ad ca vO) sz) := by
  refine g_metW (cc := cL_open) (hh := [(0, 8, 11, 13)]) (Qc := q_Law_open D ad ca res) (lv := [(0, .ref (ad 0)), (1, .ref (ad 30))]) (own := RL) (by decide) rfl rfl (Nat.le_of_ble_eq_true rfl) rfl sz ?_
  intro p e s m args below meth c A Z hr hT htab
  unfold f_Law_open at hf
  refine g_aload_n (pc := 0) Z 1 dL_open_0 rfl ?_
  refine g_iconst (pc := 1) (v := 0) Z dL_open_1 (by decide) ?_
  refine g_aload_n (pc := 2) Z 0 dL_open_2 rfl ?_
  rcases gH_of hf with ⟨x1, h2, hf⟩ | ⟨E, h2, hf⟩
  · refine g_calli (pc := 3) (ws2 := fun u => (wH ad ++ wL ad ca u.1 ++ wD ad ca u.2.1 ++ wC ad ca u.2.2 ++ wO ad ca vO)) (wr := (wO ad ca vO)) Z [0, 1, 2, 3, 4, 5, 6, 7, 8, 9, 10, 11] [12] [1, 2, 3, 4, 5, 6, 7, 8, 9, 10, 11, 12, 0] (g_runV Z (c_Heap_open l D ad ca N vL vD vC x1 h2) (cwV 0 Z.2.2.2.2.1 (gg_V wl55 wl56 wl57 wl3 wl58) rfl rfl rfl (yv_of rfl yd_Heap_open) ⟨Nat.le_of_ble_eq_true rfl, Nat.le_of_ble_eq_true rfl⟩) [0, 1, 2, 3, 4, 5, 6, 7, 8, 9, 10, 11] rfl (by decide) 0 rfl rfl rfl rfl rfl (Nat.le_of_ble_eq_true rfl) dL_open_3 ⟨(Nat.le_of_ble_eq_true rfl), (Nat.le_of_ble_eq_true rfl)⟩) rfl rfl (by decide) (by decide) (by decide) (fun _ => rfl) (fun r u hu => ?_)
    obtain ⟨rfl, rfl⟩ := hu
    refine g_i2l (pc := 6) Z dL_open_6 ?_
    obtain ⟨b3, hf⟩ := gGuard hf
    refine g_last (pc := 7) (f := vO) (ws' := (wH ad ++ wL ad ca x1.2.1 ++ wD ad ca x1.2.2.1 ++ wC ad ca x1.2.2.2 ++ wO ad ca (vp_updL vO (0 : Int32).toNatClampNeg x1.1.toInt64))) Z 12 0 dL_open_7 rfl rfl (gI_in b3) rfl ?_
    refine g_goto (pc := 8) (tgt := 14) Z dL_open_8 (by decide) ?_
    refine g_iconst (pc := 14) (v := 0) Z dL_open_14 (by decide) ?_
    refine g_widen (k := 1) (n := 6) (by decide) (by decide) ?_
    obtain rfl := Option.some.inj hf
    exact g_iret Z hr dL_open_15 (x1.2.1, x1.2.2.1, x1.2.2.2, (vp_updL vO (0 : Int32).toNatClampNeg x1.1.toInt64)) ⟨rfl, rfl⟩ rfl
  · refine g_callE (pc := 3) (wr := (wO ad ca vO)) Z [0, 1, 2, 3, 4, 5, 6, 7, 8, 9, 10, 11] [12] [1, 2, 3, 4, 5, 6, 7, 8, 9, 10, 11, 12, 0] (g_runXV Z hT (x_Heap_open l hl0 D ad ca N vL vD vC E h2) (cwV 0 Z.2.2.2.2.1 (gg_V wl55 wl56 wl57 wl3 wl58) rfl rfl rfl (yv_of rfl yd_Heap_open) ⟨Nat.le_of_ble_eq_true rfl, Nat.le_of_ble_eq_true rfl⟩) [0, 1, 2, 3, 4, 5, 6, 7, 8, 9, 10, 11] rfl (by decide) 0 rfl rfl rfl rfl rfl (Nat.le_of_ble_eq_true rfl) dL_open_3 ⟨(Nat.le_of_ble_eq_true rfl), (Nat.le_of_ble_eq_true rfl)⟩) rfl rfl (by decide) (by decide) (by decide) rfl ?_
    by_cases hE0 : E = "java/lang/IllegalStateException"
    · replace hf := gIfP hE0 hf
      subst hE0
      refine g_catch1 Z ⟨0, 8, 11, 13⟩ [] htab (by decide) (by decide) (mm wl5) (va_Nw.use rfl Z.2.2.2.2.2.2.2.2.2.2.2.2.1) (fun q => ?_)
      refine g_astore_n (pc := 11) (lv' := [(2, .ref q), (0, .ref (ad 0)), (1, .ref (ad 30))]) Z dL_open_11 (by decide) rfl ?_
      refine g_iconst (pc := 12) (v := 1) Z dL_open_12 (by decide) ?_
      refine g_widen (k := 1) (n := 6) (by decide) (by decide) ?_
      obtain rfl := Option.some.inj hf
      exact g_iret Z hr dL_open_13 (vL, vD, vC, vO) ⟨rfl, rfl⟩ rfl
    · replace hf := gIfN hE0 hf
      exact absurd hf (fun h => by cases h)
theorem wl59 : Cond.methodLink RL 62 yX4_word ∈ gA := wt3 79 rfl rfl
theorem wl60 : Cond.instanceMethod yX4_word ∈ gA := wt3 80 rfl rfl
theorem wl61 : Cond.selects RX4 yX4_word yX4_word ∈ gA := wt3 81 rfl rfl
theorem wl62 : cd_Heap_word ∈ gA := wt3 82 rfl rfl
theorem wl63 : Cond.classLink RL 66 "java/lang/IndexOutOfBoundsException" ∈ gA := wt3 78 rfl rfl
/-! RedoHeapLaw.word(LRedoHeap;I[J)I -/
def f_Law_word (vD : DT) (vO : (Nat → Int64)) (p2 : Int32) : Option (Int32 × (Nat → Int64)) :=
  gH (f_Heap_word vD p2) (fun x1 => if gI (0 : Int32) 1 = true then some ((0 : Int32), (vp_updL vO (0 : Int32).toNatClampNeg x1)) else none) (fun E => if E = "java/lang/IndexOutOfBoundsException" then some ((1 : Int32), vO) else none)
abbrev cd_Law_word : Cond := .codeWith yL_word cL_word 4 (some .int) [(0, 8, 11, 66)]
theorem yd_Law_word : yL_word.cls ≠ "java/lang/invoke/MethodHandle" ∧ yL_word.cls ≠ "java/lang/invoke/VarHandle" ∧ (parseMethodDescriptor yL_word.desc).map (fun d => d.parameters.length) = some 3 := by decide +kernel
abbrev rm_Law_word : Room := { frames := 7, cells := 1, slots := 6, locals := 103 }
abbrev q_Law_word (D : va_G) (ad : Nat → Nat) (ca : Nat → ClassId) (vD : DT) (res : Int32 × (Nat → Int64)) (A : Nat → Prop) : Array Value → State → Outcome → State → Prop := va_Qi (fun (r : Int32) (u : (Nat → Int64)) => r = res.1 ∧ u = res.2) (gB D cls (tys ca) A (fun (u : (Nat → Int64)) => (wH ad ++ wD ad ca vD ++ wO ad ca u))) A
set_option maxHeartbeats 4000000 in
set_option maxRecDepth 100000 in
theorem c_Law_word (l : Launch) (hl0 : l.stackTraces = false) (D : va_G) (ad : Nat → Nat) (ca : Nat → ClassId) (vD : DT) (vO : (Nat → Int64)) (p2 : Int32) (res : Int32 × (Nat → Int64)) (hf : f_Law_word vD vO p2 = some res) (sz : Nat) : Met l yL_word (cd_Law_word :: gA) rm_Law_word (va_Pc [.ref (ad 0), .int p2, .ref (ad 30)] (gPX D cls (tys ca) (wH ad ++ wD ad ca vD ++ wO ad ca vO) sz RX4 strsH)) (q_Law_word D ad ca vD res (va_A (wH ad ++ wD ad ca vD ++ wO ad ca vO) sz)) 1 6 (va_A (wH ad ++ wD ad ca vD ++ wO ad ca vO) sz) := by
  refine g_metW (cc := cL_word) (hh := [(0, 8, 11, 66)]) (Qc := q_Law_word D ad ca vD res) (lv := [(0, .ref (ad 0)), (1, .int p2), (2, .ref (ad 30))]) (own := RL) (by decide) rfl rfl (Nat.le_of_ble_eq_true rfl) rfl sz ?_
  intro p e s m args below meth c A Z hr hT htab
  unfold f_Law_word at hf
  refine g_aload_n (pc := 0) Z 2 dL_word_0 rfl ?_
  refine g_iconst (pc := 1) (v := 0) Z dL_word_1 (by decide) ?_
  refine g_aload_n (pc := 2) Z 0 dL_word_2 rfl ?_
  refine g_iload_n (pc := 3) Z 1 dL_word_3 rfl ?_
  rcases gH_of hf with ⟨x1, h2, hf⟩ | ⟨E, h2, hf⟩
  · refine g_calll (pc := 4) (ws2 := fun u => (wH ad ++ wD ad ca vD ++ wO ad ca vO)) (wr := (wO ad ca vO)) Z [0, 1, 2, 3, 4, 5] [6] [1, 2, 3, 4, 5, 6, 0] (g_runV Z (c_Heap_word l D ad ca vD p2 x1 h2) (cwV 1 Z.2.2.2.2.1 (gg_V wl59 wl60 wl61 wl3 wl62) rfl rfl rfl (yv_of rfl yd_Heap_word) ⟨Nat.le_of_ble_eq_true rfl, Nat.le_of_ble_eq_true rfl⟩) [0, 1, 2, 3, 4, 5] rfl (by decide) 0 rfl rfl rfl rfl rfl (Nat.le_of_ble_eq_true rfl) dL_word_4 ⟨(Nat.le_of_ble_eq_true rfl), (Nat.le_of_ble_eq_true rfl)⟩) rfl rfl (by decide) (by decide) (by decide) (fun _ => rfl) (fun r u hu => ?_)
    obtain rfl := hu.symm
    obtain ⟨b3, hf⟩ := gGuard hf
    refine g_last (pc := 7) (f := vO) (ws' := (wH ad ++ wD ad ca vD ++ wO ad ca (vp_updL vO (0 : Int32).toNatClampNeg x1))) Z 6 0 dL_word_7 rfl rfl (gI_in b3) rfl ?_
    refine g_goto (pc := 8) (tgt := 14) Z dL_word_8 (by decide) ?_
    refine g_iconst (pc := 14) (v := 0) Z dL_word_14 (by decide) ?_
    refine g_widen (k := 1) (n := 6) (by decide) (by decide) ?_
    obtain rfl := Option.some.inj hf
    exact g_iret Z hr dL_word_15 (vp_updL vO (0 : Int32).toNatClampNeg x1) ⟨rfl, rfl⟩ rfl
  · refine g_callE (pc := 4) (wr := (wO ad ca vO)) Z [0, 1, 2, 3, 4, 5] [6] [1, 2, 3, 4, 5, 6, 0] (g_runXV Z hT (x_Heap_word l hl0 D ad ca vD p2 E h2) (cwV 1 Z.2.2.2.2.1 (gg_V wl59 wl60 wl61 wl3 wl62) rfl rfl rfl (yv_of rfl yd_Heap_word) ⟨Nat.le_of_ble_eq_true rfl, Nat.le_of_ble_eq_true rfl⟩) [0, 1, 2, 3, 4, 5] rfl (by decide) 0 rfl rfl rfl rfl rfl (Nat.le_of_ble_eq_true rfl) dL_word_4 ⟨(Nat.le_of_ble_eq_true rfl), (Nat.le_of_ble_eq_true rfl)⟩) rfl rfl (by decide) (by decide) (by decide) rfl ?_
    by_cases hE0 : E = "java/lang/IndexOutOfBoundsException"
    · replace hf := gIfP hE0 hf
      subst hE0
      refine g_catch1 Z ⟨0, 8, 11, 66⟩ [] htab (by decide) (by decide) (mm wl63) (va_Nw.use rfl Z.2.2.2.2.2.2.2.2.2.2.2.2.2.2.1) (fun q => ?_)
      refine g_astore_n (pc := 11) (lv' := [(3, .ref q), (0, .ref (ad 0)), (1, .int p2), (2, .ref (ad 30))]) Z dL_word_11 (by decide) rfl ?_
      refine g_iconst (pc := 12) (v := 1) Z dL_word_12 (by decide) ?_
      refine g_widen (k := 1) (n := 6) (by decide) (by decide) ?_
      obtain rfl := Option.some.inj hf
      exact g_iret Z hr dL_word_13 vO ⟨rfl, rfl⟩ rfl
    · replace hf := gIfN hE0 hf
      exact absurd hf (fun h => by cases h)
theorem wl64 : Cond.methodLink RL 68 yX4_block ∈ gA := wt3 107 rfl rfl
theorem wl65 : Cond.instanceMethod yX4_block ∈ gA := wt3 108 rfl rfl
theorem wl66 : Cond.selects RX4 yX4_block yX4_block ∈ gA := wt3 109 rfl rfl
theorem wl67 : cd_Heap_block ∈ gA := wt3 110 rfl rfl
/-! RedoHeapLaw.block(LRedoHeap;II[J)I -/
def f_Law_block (N : Nat) (vD : DT) (vC : CT) (vO : (Nat → Int64)) (p2 : Int32) (p3 : Int32) : Option (Int32 × (Nat → Int64)) :=
  gH (f_Heap_block N vD vC p2 p3) (fun x1 => if gI (0 : Int32) 1 = true then some ((0 : Int32), (vp_updL vO (0 : Int32).toNatClampNeg x1.toInt64)) else none) (fun E => if E = "java/lang/IllegalStateException" then some ((1 : Int32), vO) else if E = "java/lang/IndexOutOfBoundsException" then some ((2 : Int32), vO) else none)
abbrev cd_Law_block : Cond := .codeWith yL_block cL_block 5 (some .int) [(0, 10, 13, 13), (0, 10, 17, 66)]
theorem yd_Law_block : yL_block.cls ≠ "java/lang/invoke/MethodHandle" ∧ yL_block.cls ≠ "java/lang/invoke/VarHandle" ∧ (parseMethodDescriptor yL_block.desc).map (fun d => d.parameters.length) = some 4 := by decide +kernel
abbrev rm_Law_block : Room := { frames := 8, cells := 1, slots := 6, locals := 125 }
abbrev q_Law_block (D : va_G) (ad : Nat → Nat) (ca : Nat → ClassId) (vD : DT) (vC : CT) (res : Int32 × (Nat → Int64)) (A : Nat → Prop) : Array Value → State → Outcome → State → Prop := va_Qi (fun (r : Int32) (u : (Nat → Int64)) => r = res.1 ∧ u = res.2) (gB D cls (tys ca) A (fun (u : (Nat → Int64)) => (wH ad ++ wB ad ++ wD ad ca vD ++ wC ad ca vC ++ wO ad ca u))) A
set_option maxHeartbeats 4000000 in
set_option maxRecDepth 100000 in
theorem c_Law_block (l : Launch) (hl0 : l.stackTraces = false) (D : va_G) (ad : Nat → Nat) (ca : Nat → ClassId) (N : Nat) (vD : DT) (vC : CT) (vO : (Nat → Int64)) (p2 : Int32) (p3 : Int32) (res : Int32 × (Nat → Int64)) (hf : f_Law_block N vD vC vO p2 p3 = some res) (sz : Nat) : Met l yL_block (cd_Law_block :: gA) rm_Law_block (va_Pc [.ref (ad 0), .int p2, .int p3, .ref (ad 30)] (gPX D cls (tys ca) (wH ad ++ wB ad ++ wD ad ca vD ++ wC ad ca vC ++ wO ad ca vO) sz RX4 strsH)) (q_Law_block D ad ca vD vC res (va_A (wH ad ++ wB ad ++ wD ad ca vD ++ wC ad ca vC ++ wO ad ca vO) sz)) 1 6 (va_A (wH ad ++ wB ad ++ wD ad ca vD ++ wC ad ca vC ++ wO ad ca vO) sz) := by
  refine g_metW (cc := cL_block) (hh := [(0, 10, 13, 13), (0, 10, 17, 66)]) (Qc := q_Law_block D ad ca vD vC res) (lv := [(0, .ref (ad 0)), (1, .int p2), (2, .int p3), (3, .ref (ad 30))]) (own := RL) (by decide) rfl rfl (Nat.le_of_ble_eq_true rfl) rfl sz ?_
  intro p e s m args below meth c A Z hr hT htab
  unfold f_Law_block at hf
  refine g_aload_n (pc := 0) Z 3 dL_block_0 rfl ?_
  refine g_iconst (pc := 1) (v := 0) Z dL_block_1 (by decide) ?_
  refine g_aload_n (pc := 2) Z 0 dL_block_2 rfl ?_
  refine g_iload_n (pc := 3) Z 1 dL_block_3 rfl ?_
  refine g_iload_n (pc := 4) Z 2 dL_block_4 rfl ?_
  rcases gH_of hf with ⟨x1, h2, hf⟩ | ⟨E, h2, hf⟩
  · refine g_calli (pc := 5) (ws2 := fun u => (wH ad ++ wB ad ++ wD ad ca vD ++ wC ad ca vC ++ wO ad ca vO)) (wr := (wO ad ca vO)) Z [0, 1, 2, 3, 4, 5, 6, 7, 8, 9, 10, 11] [12] [1, 2, 3, 4, 5, 6, 7, 8, 9, 10, 11, 12, 0] (g_runV Z (c_Heap_block l D ad ca N vD vC p2 p3 x1 h2) (cwV 2 Z.2.2.2.2.1 (gg_V wl64 wl65 wl66 wl3 wl67) rfl rfl rfl (yv_of rfl yd_Heap_block) ⟨Nat.le_of_ble_eq_true rfl, Nat.le_of_ble_eq_true rfl⟩) [0, 1, 2, 3, 4, 5, 6, 7, 8, 9, 10, 11] rfl (by decide) 0 rfl rfl rfl rfl rfl (Nat.le_of_ble_eq_true rfl) dL_block_5 ⟨(Nat.le_of_ble_eq_true rfl), (Nat.le_of_ble_eq_true rfl)⟩) rfl rfl (by decide) (by decide) (by decide) (fun _ => rfl) (fun r u hu => ?_)
    obtain rfl := hu.symm
    refine g_i2l (pc := 8) Z dL_block_8 ?_
    obtain ⟨b3, hf⟩ := gGuard hf
    refine g_last (pc := 9) (f := vO) (ws' := (wH ad ++ wB ad ++ wD ad ca vD ++ wC ad ca vC ++ wO ad ca (vp_updL vO (0 : Int32).toNatClampNeg x1.toInt64))) Z 12 0 dL_block_9 rfl rfl (gI_in b3) rfl ?_
    refine g_goto (pc := 10) (tgt := 21) Z dL_block_10 (by decide) ?_
    refine g_iconst (pc := 21) (v := 0) Z dL_block_21 (by decide) ?_
    refine g_widen (k := 1) (n := 6) (by decide) (by decide) ?_
    obtain rfl := Option.some.inj hf
    exact g_iret Z hr dL_block_22 (vp_updL vO (0 : Int32).toNatClampNeg x1.toInt64) ⟨rfl, rfl⟩ rfl
  · refine g_callE (pc := 5) (wr := (wO ad ca vO)) Z [0, 1, 2, 3, 4, 5, 6, 7, 8, 9, 10, 11] [12] [1, 2, 3, 4, 5, 6, 7, 8, 9, 10, 11, 12, 0] (g_runXV Z hT (x_Heap_block l hl0 D ad ca N vD vC p2 p3 E h2) (cwV 2 Z.2.2.2.2.1 (gg_V wl64 wl65 wl66 wl3 wl67) rfl rfl rfl (yv_of rfl yd_Heap_block) ⟨Nat.le_of_ble_eq_true rfl, Nat.le_of_ble_eq_true rfl⟩) [0, 1, 2, 3, 4, 5, 6, 7, 8, 9, 10, 11] rfl (by decide) 0 rfl rfl rfl rfl rfl (Nat.le_of_ble_eq_true rfl) dL_block_5 ⟨(Nat.le_of_ble_eq_true rfl), (Nat.le_of_ble_eq_true rfl)⟩) rfl rfl (by decide) (by decide) (by decide) rfl ?_
    by_cases hE0 : E = "java/lang/IllegalStateException"
    · replace hf := gIfP hE0 hf
      subst hE0
      refine g_catch1 Z ⟨0, 10, 13, 13⟩ [⟨0, 10, 17, 66⟩] htab (by decide) (by decide) (mm wl5) (va_Nw.use rfl Z.2.2.2.2.2.2.2.2.2.2.2.2.1) (fun q => ?_)
      refine g_astore (pc := 13) (lv' := [(4, .ref q), (0, .ref (ad 0)), (1, .int p2), (2, .int p3), (3, .ref (ad 30))]) Z dL_block_13 (by decide) rfl ?_
      refine g_iconst (pc := 15) (v := 1) Z dL_block_15 (by decide) ?_
      refine g_widen (k := 1) (n := 6) (by decide) (by decide) ?_
      obtain rfl := Option.some.inj hf
      exact g_iret Z hr dL_block_16 vO ⟨rfl, rfl⟩ rfl
    · replace hf := gIfN hE0 hf
      by_cases hE1 : E = "java/lang/IndexOutOfBoundsException"
      · replace hf := gIfP hE1 hf
        subst hE1
        refine g_catch2 Z ⟨0, 10, 13, 13⟩ ⟨0, 10, 17, 66⟩ [] htab (by decide) (by decide) (mm wl5) Z.2.2.2.2.2.2.2.2.2.2.2.2.2.2.2.2.2.2.2 (by decide) (by decide) (mm wl63) (va_Nw.use rfl Z.2.2.2.2.2.2.2.2.2.2.2.2.2.2.1) (fun q => ?_)
        refine g_astore (pc := 17) (lv' := [(4, .ref q), (0, .ref (ad 0)), (1, .int p2), (2, .int p3), (3, .ref (ad 30))]) Z dL_block_17 (by decide) rfl ?_
        refine g_iconst (pc := 19) (v := 2) Z dL_block_19 (by decide) ?_
        refine g_widen (k := 1) (n := 6) (by decide) (by decide) ?_
        obtain rfl := Option.some.inj hf
        exact g_iret Z hr dL_block_20 vO ⟨rfl, rfl⟩ rfl
      · replace hf := gIfN hE1 hf
        exact absurd hf (fun h => by cases h)
theorem wl68 : Cond.methodLink RL 71 yX4_told ∈ gA := wt3 120 rfl rfl
theorem wl69 : Cond.instanceMethod yX4_told ∈ gA := wt3 121 rfl rfl
theorem wl70 : Cond.selects RX4 yX4_told yX4_told ∈ gA := wt3 122 rfl rfl
theorem wl71 : cd_Heap_told ∈ gA := wt3 123 rfl rfl
/-! RedoHeapLaw.told(LRedoHeap;I[J)I -/
def f_Law_told (N : Nat) (vL : LT) (vD : DT) (vC : CT) (vO : (Nat → Int64)) (p2 : Int32) : Option (Int32 × (Nat → Int64)) :=
  gH (f_Heap_told N vL vD vC p2) (fun x1 => if gI (0 : Int32) 1 = true then some ((0 : Int32), (vp_updL vO (0 : Int32).toNatClampNeg x1.toInt64)) else none) (fun E => if E = "java/lang/IllegalStateException" then some ((1 : Int32), vO) else if E = "java/lang/IndexOutOfBoundsException" then some ((2 : Int32), vO) else none)
abbrev cd_Law_told : Cond := .codeWith yL_told cL_told 4 (some .int) [(0, 9, 12, 13), (0, 9, 15, 66)]
theorem yd_Law_told : yL_told.cls ≠ "java/lang/invoke/MethodHandle" ∧ yL_told.cls ≠ "java/lang/invoke/VarHandle" ∧ (parseMethodDescriptor yL_told.desc).map (fun d => d.parameters.length) = some 3 := by decide +kernel
abbrev rm_Law_told : Room := { frames := 8, cells := 1, slots := 6, locals := 129 }
abbrev q_Law_told (D : va_G) (ad : Nat → Nat) (ca : Nat → ClassId) (vL : LT) (vD : DT) (vC : CT) (res : Int32 × (Nat → Int64)) (A : Nat → Prop) : Array Value → State → Outcome → State → Prop := va_Qi (fun (r : Int32) (u : (Nat → Int64)) => r = res.1 ∧ u = res.2) (gB D cls (tys ca) A (fun (u : (Nat → Int64)) => (wH ad ++ wB ad ++ wL ad ca vL ++ wD ad ca vD ++ wC ad ca vC ++ wO ad ca u))) A
set_option maxHeartbeats 4000000 in
set_option maxRecDepth 100000 in
theorem c_Law_told (l : Launch) (hl0 : l.stackTraces = false) (D : va_G) (ad : Nat → Nat) (ca : Nat → ClassId) (N : Nat) (vL : LT) (vD : DT) (vC : CT) (vO : (Nat → Int64)) (p2 : Int32) (res : Int32 × (Nat → Int64)) (hf : f_Law_told N vL vD vC vO p2 = some res) (sz : Nat) : Met l yL_told (cd_Law_told :: gA) rm_Law_told (va_Pc [.ref (ad 0), .int p2, .ref (ad 30)] (gPX D cls (tys ca) (wH ad ++ wB ad ++ wL ad ca vL ++ wD ad ca vD ++ wC ad ca vC ++ wO ad ca vO) sz RX4 strsH)) (q_Law_told D ad ca vL vD vC res (va_A (wH ad ++ wB ad ++ wL ad ca vL ++ wD ad ca vD ++ wC ad ca vC ++ wO ad ca vO) sz)) 1 6 (va_A (wH ad ++ wB ad ++ wL ad ca vL ++ wD ad ca vD ++ wC ad ca vC ++ wO ad ca vO) sz) := by
  refine g_metW (cc := cL_told) (hh := [(0, 9, 12, 13), (0, 9, 15, 66)]) (Qc := q_Law_told D ad ca vL vD vC res) (lv := [(0, .ref (ad 0)), (1, .int p2), (2, .ref (ad 30))]) (own := RL) (by decide) rfl rfl (Nat.le_of_ble_eq_true rfl) rfl sz ?_
  intro p e s m args below meth c A Z hr hT htab
  unfold f_Law_told at hf
  refine g_aload_n (pc := 0) Z 2 dL_told_0 rfl ?_
  refine g_iconst (pc := 1) (v := 0) Z dL_told_1 (by decide) ?_
  refine g_aload_n (pc := 2) Z 0 dL_told_2 rfl ?_
  refine g_iload_n (pc := 3) Z 1 dL_told_3 rfl ?_
  rcases gH_of hf with ⟨x1, h2, hf⟩ | ⟨E, h2, hf⟩
  · refine g_calli (pc := 4) (ws2 := fun u => (wH ad ++ wB ad ++ wL ad ca vL ++ wD ad ca vD ++ wC ad ca vC ++ wO ad ca vO)) (wr := (wO ad ca vO)) Z [0, 1, 2, 3, 4, 5, 6, 7, 8, 9, 10, 11, 12] [13] [1, 2, 3, 4, 5, 6, 7, 8, 9, 10, 11, 12, 13, 0] (g_runV Z (c_Heap_told l D ad ca N vL vD vC p2 x1 h2) (cwV 1 Z.2.2.2.2.1 (gg_V wl68 wl69 wl70 wl3 wl71) rfl rfl rfl (yv_of rfl yd_Heap_told) ⟨Nat.le_of_ble_eq_true rfl, Nat.le_of_ble_eq_true rfl⟩) [0, 1, 2, 3, 4, 5, 6, 7, 8, 9, 10, 11, 12] rfl (by decide) 0 rfl rfl rfl rfl rfl (Nat.le_of_ble_eq_true rfl) dL_told_4 ⟨(Nat.le_of_ble_eq_true rfl), (Nat.le_of_ble_eq_true rfl)⟩) rfl rfl (by decide) (by decide) (by decide) (fun _ => rfl) (fun r u hu => ?_)
    obtain rfl := hu.symm
    refine g_i2l (pc := 7) Z dL_told_7 ?_
    obtain ⟨b3, hf⟩ := gGuard hf
    refine g_last (pc := 8) (f := vO) (ws' := (wH ad ++ wB ad ++ wL ad ca vL ++ wD ad ca vD ++ wC ad ca vC ++ wO ad ca (vp_updL vO (0 : Int32).toNatClampNeg x1.toInt64))) Z 13 0 dL_told_8 rfl rfl (gI_in b3) rfl ?_
    refine g_goto (pc := 9) (tgt := 18) Z dL_told_9 (by decide) ?_
    refine g_iconst (pc := 18) (v := 0) Z dL_told_18 (by decide) ?_
    refine g_widen (k := 1) (n := 6) (by decide) (by decide) ?_
    obtain rfl := Option.some.inj hf
    exact g_iret Z hr dL_told_19 (vp_updL vO (0 : Int32).toNatClampNeg x1.toInt64) ⟨rfl, rfl⟩ rfl
  · refine g_callE (pc := 4) (wr := (wO ad ca vO)) Z [0, 1, 2, 3, 4, 5, 6, 7, 8, 9, 10, 11, 12] [13] [1, 2, 3, 4, 5, 6, 7, 8, 9, 10, 11, 12, 13, 0] (g_runXV Z hT (x_Heap_told l hl0 D ad ca N vL vD vC p2 E h2) (cwV 1 Z.2.2.2.2.1 (gg_V wl68 wl69 wl70 wl3 wl71) rfl rfl rfl (yv_of rfl yd_Heap_told) ⟨Nat.le_of_ble_eq_true rfl, Nat.le_of_ble_eq_true rfl⟩) [0, 1, 2, 3, 4, 5, 6, 7, 8, 9, 10, 11, 12] rfl (by decide) 0 rfl rfl rfl rfl rfl (Nat.le_of_ble_eq_true rfl) dL_told_4 ⟨(Nat.le_of_ble_eq_true rfl), (Nat.le_of_ble_eq_true rfl)⟩) rfl rfl (by decide) (by decide) (by decide) rfl ?_
    by_cases hE0 : E = "java/lang/IllegalStateException"
    · replace hf := gIfP hE0 hf
      subst hE0
      refine g_catch1 Z ⟨0, 9, 12, 13⟩ [⟨0, 9, 15, 66⟩] htab (by decide) (by decide) (mm wl5) (va_Nw.use rfl Z.2.2.2.2.2.2.2.2.2.2.2.2.1) (fun q => ?_)
      refine g_astore_n (pc := 12) (lv' := [(3, .ref q), (0, .ref (ad 0)), (1, .int p2), (2, .ref (ad 30))]) Z dL_told_12 (by decide) rfl ?_
      refine g_iconst (pc := 13) (v := 1) Z dL_told_13 (by decide) ?_
      refine g_widen (k := 1) (n := 6) (by decide) (by decide) ?_
      obtain rfl := Option.some.inj hf
      exact g_iret Z hr dL_told_14 vO ⟨rfl, rfl⟩ rfl
    · replace hf := gIfN hE0 hf
      by_cases hE1 : E = "java/lang/IndexOutOfBoundsException"
      · replace hf := gIfP hE1 hf
        subst hE1
        refine g_catch2 Z ⟨0, 9, 12, 13⟩ ⟨0, 9, 15, 66⟩ [] htab (by decide) (by decide) (mm wl5) Z.2.2.2.2.2.2.2.2.2.2.2.2.2.2.2.2.2.2.2 (by decide) (by decide) (mm wl63) (va_Nw.use rfl Z.2.2.2.2.2.2.2.2.2.2.2.2.2.2.1) (fun q => ?_)
        refine g_astore_n (pc := 15) (lv' := [(3, .ref q), (0, .ref (ad 0)), (1, .int p2), (2, .ref (ad 30))]) Z dL_told_15 (by decide) rfl ?_
        refine g_iconst (pc := 16) (v := 2) Z dL_told_16 (by decide) ?_
        refine g_widen (k := 1) (n := 6) (by decide) (by decide) ?_
        obtain rfl := Option.some.inj hf
        exact g_iret Z hr dL_told_17 vO ⟨rfl, rfl⟩ rfl
      · replace hf := gIfN hE1 hf
        exact absurd hf (fun h => by cases h)
theorem wl72 : Cond.methodLink RL 74 yX4_count ∈ gA := wt3 142 rfl rfl
theorem wl73 : Cond.instanceMethod yX4_count ∈ gA := wt3 143 rfl rfl
theorem wl74 : Cond.selects RX4 yX4_count yX4_count ∈ gA := wt3 144 rfl rfl
theorem wl75 : cd_Heap_count ∈ gA := wt3 145 rfl rfl
/-! RedoHeapLaw.count(LRedoHeap;I[J)I -/
def f_Law_count (vD : DT) (vC : CT) (vO : (Nat → Int64)) (p2 : Int32) : Option (Int32 × (Nat → Int64)) :=
  gH (f_Heap_count vD vC p2) (fun x1 => if gI (0 : Int32) 1 = true then some ((0 : Int32), (vp_updL vO (0 : Int32).toNatClampNeg x1.toInt64)) else none) (fun E => if E = "java/lang/IndexOutOfBoundsException" then some ((1 : Int32), vO) else none)
abbrev cd_Law_count : Cond := .codeWith yL_count cL_count 4 (some .int) [(0, 9, 12, 66)]
theorem yd_Law_count : yL_count.cls ≠ "java/lang/invoke/MethodHandle" ∧ yL_count.cls ≠ "java/lang/invoke/VarHandle" ∧ (parseMethodDescriptor yL_count.desc).map (fun d => d.parameters.length) = some 3 := by decide +kernel
abbrev rm_Law_count : Room := { frames := 7, cells := 1, slots := 6, locals := 103 }
abbrev q_Law_count (D : va_G) (ad : Nat → Nat) (ca : Nat → ClassId) (vD : DT) (vC : CT) (res : Int32 × (Nat → Int64)) (A : Nat → Prop) : Array Value → State → Outcome → State → Prop := va_Qi (fun (r : Int32) (u : (Nat → Int64)) => r = res.1 ∧ u = res.2) (gB D cls (tys ca) A (fun (u : (Nat → Int64)) => (wH ad ++ wD ad ca vD ++ wC ad ca vC ++ wO ad ca u))) A
set_option maxHeartbeats 4000000 in
set_option maxRecDepth 100000 in
theorem c_Law_count (l : Launch) (hl0 : l.stackTraces = false) (D : va_G) (ad : Nat → Nat) (ca : Nat → ClassId) (vD : DT) (vC : CT) (vO : (Nat → Int64)) (p2 : Int32) (res : Int32 × (Nat → Int64)) (hf : f_Law_count vD vC vO p2 = some res) (sz : Nat) : Met l yL_count (cd_Law_count :: gA) rm_Law_count (va_Pc [.ref (ad 0), .int p2, .ref (ad 30)] (gPX D cls (tys ca) (wH ad ++ wD ad ca vD ++ wC ad ca vC ++ wO ad ca vO) sz RX4 strsH)) (q_Law_count D ad ca vD vC res (va_A (wH ad ++ wD ad ca vD ++ wC ad ca vC ++ wO ad ca vO) sz)) 1 6 (va_A (wH ad ++ wD ad ca vD ++ wC ad ca vC ++ wO ad ca vO) sz) := by
  refine g_metW (cc := cL_count) (hh := [(0, 9, 12, 66)]) (Qc := q_Law_count D ad ca vD vC res) (lv := [(0, .ref (ad 0)), (1, .int p2), (2, .ref (ad 30))]) (own := RL) (by decide) rfl rfl (Nat.le_of_ble_eq_true rfl) rfl sz ?_
  intro p e s m args below meth c A Z hr hT htab
  unfold f_Law_count at hf
  refine g_aload_n (pc := 0) Z 2 dL_count_0 rfl ?_
  refine g_iconst (pc := 1) (v := 0) Z dL_count_1 (by decide) ?_
  refine g_aload_n (pc := 2) Z 0 dL_count_2 rfl ?_
  refine g_iload_n (pc := 3) Z 1 dL_count_3 rfl ?_
  rcases gH_of hf with ⟨x1, h2, hf⟩ | ⟨E, h2, hf⟩
  · refine g_calli (pc := 4) (ws2 := fun u => (wH ad ++ wD ad ca vD ++ wC ad ca vC ++ wO ad ca vO)) (wr := (wO ad ca vO)) Z [0, 1, 2, 3, 4, 5, 6, 7, 8, 9, 10] [11] [1, 2, 3, 4, 5, 6, 7, 8, 9, 10, 11, 0] (g_runV Z (c_Heap_count l D ad ca vD vC p2 x1 h2) (cwV 1 Z.2.2.2.2.1 (gg_V wl72 wl73 wl74 wl3 wl75) rfl rfl rfl (yv_of rfl yd_Heap_count) ⟨Nat.le_of_ble_eq_true rfl, Nat.le_of_ble_eq_true rfl⟩) [0, 1, 2, 3, 4, 5, 6, 7, 8, 9, 10] rfl (by decide) 0 rfl rfl rfl rfl rfl (Nat.le_of_ble_eq_true rfl) dL_count_4 ⟨(Nat.le_of_ble_eq_true rfl), (Nat.le_of_ble_eq_true rfl)⟩) rfl rfl (by decide) (by decide) (by decide) (fun _ => rfl) (fun r u hu => ?_)
    obtain rfl := hu.symm
    refine g_i2l (pc := 7) Z dL_count_7 ?_
    obtain ⟨b3, hf⟩ := gGuard hf
    refine g_last (pc := 8) (f := vO) (ws' := (wH ad ++ wD ad ca vD ++ wC ad ca vC ++ wO ad ca (vp_updL vO (0 : Int32).toNatClampNeg x1.toInt64))) Z 11 0 dL_count_8 rfl rfl (gI_in b3) rfl ?_
    refine g_goto (pc := 9) (tgt := 15) Z dL_count_9 (by decide) ?_
    refine g_iconst (pc := 15) (v := 0) Z dL_count_15 (by decide) ?_
    refine g_widen (k := 1) (n := 6) (by decide) (by decide) ?_
    obtain rfl := Option.some.inj hf
    exact g_iret Z hr dL_count_16 (vp_updL vO (0 : Int32).toNatClampNeg x1.toInt64) ⟨rfl, rfl⟩ rfl
  · refine g_callE (pc := 4) (wr := (wO ad ca vO)) Z [0, 1, 2, 3, 4, 5, 6, 7, 8, 9, 10] [11] [1, 2, 3, 4, 5, 6, 7, 8, 9, 10, 11, 0] (g_runXV Z hT (x_Heap_count l hl0 D ad ca vD vC p2 E h2) (cwV 1 Z.2.2.2.2.1 (gg_V wl72 wl73 wl74 wl3 wl75) rfl rfl rfl (yv_of rfl yd_Heap_count) ⟨Nat.le_of_ble_eq_true rfl, Nat.le_of_ble_eq_true rfl⟩) [0, 1, 2, 3, 4, 5, 6, 7, 8, 9, 10] rfl (by decide) 0 rfl rfl rfl rfl rfl (Nat.le_of_ble_eq_true rfl) dL_count_4 ⟨(Nat.le_of_ble_eq_true rfl), (Nat.le_of_ble_eq_true rfl)⟩) rfl rfl (by decide) (by decide) (by decide) rfl ?_
    by_cases hE0 : E = "java/lang/IndexOutOfBoundsException"
    · replace hf := gIfP hE0 hf
      subst hE0
      refine g_catch1 Z ⟨0, 9, 12, 66⟩ [] htab (by decide) (by decide) (mm wl63) (va_Nw.use rfl Z.2.2.2.2.2.2.2.2.2.2.2.2.2.2.1) (fun q => ?_)
      refine g_astore_n (pc := 12) (lv' := [(3, .ref q), (0, .ref (ad 0)), (1, .int p2), (2, .ref (ad 30))]) Z dL_count_12 (by decide) rfl ?_
      refine g_iconst (pc := 13) (v := 1) Z dL_count_13 (by decide) ?_
      refine g_widen (k := 1) (n := 6) (by decide) (by decide) ?_
      obtain rfl := Option.some.inj hf
      exact g_iret Z hr dL_count_14 vO ⟨rfl, rfl⟩ rfl
    · replace hf := gIfN hE0 hf
      exact absurd hf (fun h => by cases h)
