def strsH : List (Nat × String) := [(203, "the power is off"), (50, "a transaction is open"), (205, "no transaction is open"), (67, "no block has so many words"), (210, "no used block has this address"), (212, "the block has no such word"), (128, "not 0 .. 5000"), (134, "below 0"), (142, "the power is on"), (165, "no such word"), (171, "no such question")]
def supX : List String := ["java/lang/RuntimeException", "java/lang/Exception"]
theorem supX_fit : ∀ n ∈ supX, Bundle.fit n = true := by decide +kernel
theorem at_52 : ∀ w ∈ (vx_atS RX4 52 "java/lang/IllegalStateException" supX).filter goodWord, w ∈ gA := by decide +kernel
theorem ab_52 : ∀ w ∈ (vx_atS RX4 52 "java/lang/IllegalStateException" supX).filter (fun w => !goodWord w), w ∈ gBad := by decide +kernel
theorem ag_52 : ∀ w ∈ Cond.classLink RX4 48 "java/lang/IllegalStateException" :: Cond.initialized "java/lang/IllegalStateException" :: vx_atS RX4 52 "java/lang/IllegalStateException" supX, vx_ot w = true := by decide +kernel
theorem at_69 : ∀ w ∈ (vx_atS RX4 69 "java/lang/IllegalArgumentException" supX).filter goodWord, w ∈ gA := by decide +kernel
theorem ab_69 : ∀ w ∈ (vx_atS RX4 69 "java/lang/IllegalArgumentException" supX).filter (fun w => !goodWord w), w ∈ gBad := by decide +kernel
theorem ag_69 : ∀ w ∈ Cond.classLink RX4 65 "java/lang/IllegalArgumentException" :: Cond.initialized "java/lang/IllegalArgumentException" :: vx_atS RX4 69 "java/lang/IllegalArgumentException" supX, vx_ot w = true := by decide +kernel
theorem at_167 : ∀ w ∈ (vx_atS RX4 167 "java/lang/IndexOutOfBoundsException" supX).filter goodWord, w ∈ gA := by decide +kernel
theorem ab_167 : ∀ w ∈ (vx_atS RX4 167 "java/lang/IndexOutOfBoundsException" supX).filter (fun w => !goodWord w), w ∈ gBad := by decide +kernel
theorem ag_167 : ∀ w ∈ Cond.classLink RX4 163 "java/lang/IndexOutOfBoundsException" :: Cond.initialized "java/lang/IndexOutOfBoundsException" :: vx_atS RX4 167 "java/lang/IndexOutOfBoundsException" supX, vx_ot w = true := by decide +kernel
theorem ww154 : Cond.methodLink RX4 139 yX2_isOn ∈ gA := wt1 148 rfl rfl
theorem ww155 : Cond.instanceMethod yX2_isOn ∈ gA := wt1 149 rfl rfl
theorem ww156 : Cond.selects RX2 yX2_isOn yX2_isOn ∈ gA := wt1 150 rfl rfl
theorem ww157 : cd_Disk_isOn ∈ gA := wt1 151 rfl rfl
theorem ww158 : Cond.classLink RX4 48 "java/lang/IllegalStateException" ∈ gA := wt1 152 rfl rfl
theorem ww159 : Cond.initialized "java/lang/IllegalStateException" ∈ gA := wt1 10 rfl rfl
/-! RedoHeap.needPower()V -/
def f_Heap_needPower (vD : DT) : Option (Except String (Unit)) :=
  (f_Disk_isOn vD).bind fun x1 => if x1 = true then some (Except.ok ()) else some (Except.error "java/lang/IllegalStateException")
abbrev cd_Heap_needPower : Cond := .code yX4_needPower cX4_needPower 1 none
theorem yd_Heap_needPower : yX4_needPower.cls ≠ "java/lang/invoke/MethodHandle" ∧ yX4_needPower.cls ≠ "java/lang/invoke/VarHandle" ∧ (parseMethodDescriptor yX4_needPower.desc).map (fun d => d.parameters.length) = some 0 := by decide +kernel
abbrev rm_Heap_needPower : Room := { frames := 1, cells := 0, slots := 0, locals := 20 }
abbrev rx_Heap_needPower : Room := { frames := 6, cells := 1, slots := 6, locals := 82 }
abbrev q_Heap_needPower (D : va_G) (ad : Nat → Nat) (ca : Nat → ClassId) (vD : DT) (res : Unit) (A : Nat → Prop) : Array Value → State → Outcome → State → Prop := va_Qv (fun (_ : Unit) => True) (gB D cls (tys ca) A (fun (u : Unit) => (wH ad ++ wD ad ca vD))) A
set_option maxHeartbeats 4000000 in
set_option maxRecDepth 100000 in
theorem c_Heap_needPower (l : Launch) (D : va_G) (ad : Nat → Nat) (ca : Nat → ClassId) (vD : DT) (res : Unit) (hf : f_Heap_needPower vD = some (.ok res)) (sz : Nat) : Met l yX4_needPower (cd_Heap_needPower :: gA) rm_Heap_needPower (va_Pc [.ref (ad 0)] (gP D cls (tys ca) (wH ad ++ wD ad ca vD) sz)) (q_Heap_needPower D ad ca vD res (va_A (wH ad ++ wD ad ca vD) sz)) 0 0 (va_A (wH ad ++ wD ad ca vD) sz) := by
  refine g_met (cc := cX4_needPower) (Qc := q_Heap_needPower D ad ca vD res) (lv := [(0, .ref (ad 0))]) (own := RX4) (by decide) rfl rfl (Nat.le_of_ble_eq_true rfl) rfl sz ?_
  intro p e s m args below meth c A Z hr hnm
  unfold f_Heap_needPower at hf
  refine g_aload_n (pc := 0) Z 0 dX4_needPower_0 rfl ?_
  refine g_get (pc := 1) (v := .ref (ad 1)) (T := TX4) (N := 4) Z 0 0 dX4_needPower_1 (mm ww148) inx_X4 rfl (by decide) rfl rfl rfl ?_
  obtain ⟨x1, h2, hf⟩ := Option.bind_eq_some_iff.mp hf
  refine g_calli (pc := 4) (ws2 := fun u => (wH ad ++ wD ad ca vD)) (wr := (wH ad)) Z [1, 2, 3, 4, 5] [0] [0, 1, 2, 3, 4, 5] (g_runV Z (c_Disk_isOn l D ad ca vD x1 h2) (cwV 0 Z.2.2.2.2.1 (gg_V ww154 ww155 ww156 ww16 ww157) rfl rfl rfl (yv_of rfl yd_Disk_isOn) ⟨Nat.le_of_ble_eq_true rfl, Nat.le_of_ble_eq_true rfl⟩) [1, 2, 3, 4, 5] rfl (by decide) 0 rfl rfl rfl rfl rfl (Nat.le_of_ble_eq_true rfl) dX4_needPower_4 ⟨Nat.le_of_ble_eq_true rfl, Nat.le_of_ble_eq_true rfl⟩) rfl rfl (by decide) (by decide) (by decide) (fun _ => rfl) (fun r u hu => ?_)
  obtain rfl := hu.symm
  refine g_if_ne (pc := 7) (tgt := 20) Z dX4_needPower_7 (by decide) (fun c3 => ?_) (fun c3 => ?_)
  · replace hf := gIfP (bI_nz c3) hf
    obtain rfl := Except.ok.inj (Option.some.inj hf)
    exact g_vret Z hr dX4_needPower_20 () trivial rfl
  · replace hf := gIfN (bI_z c3) hf
    exact absurd (Option.some.inj hf) (fun h => by cases h)
set_option maxHeartbeats 4000000 in
set_option maxRecDepth 100000 in
theorem x_Heap_needPower (l : Launch) (hl0 : l.stackTraces = false) (D : va_G) (ad : Nat → Nat) (ca : Nat → ClassId) (vD : DT) (E : String) (hf : f_Heap_needPower vD = some (.error E)) (sz : Nat) : vx_Met l yX4_needPower (cd_Heap_needPower :: gA) rx_Heap_needPower (va_Pc [.ref (ad 0)] (gPX D cls (tys ca) (wH ad ++ wD ad ca vD) sz RX4 strsH)) (gQE (va_A (wH ad ++ wD ad ca vD) sz)) (gXC D cls (tys ca) (wH ad ++ wD ad ca vD) (fun E9 => E9 = E) (va_A (wH ad ++ wD ad ca vD) sz)) 1 6 (va_A (wH ad ++ wD ad ca vD) sz) := by
  refine g_metX (cc := cX4_needPower) (Qc := gQE) (pe := fun E9 => E9 = E) (lv := [(0, .ref (ad 0))]) (own := RX4) (by decide) rfl rfl (Nat.le_of_ble_eq_true rfl) rfl sz ?_
  intro p e s m args below meth c A Z hr hnm hT htab
  unfold f_Heap_needPower at hf
  refine g_aload_n (pc := 0) Z 0 dX4_needPower_0 rfl ?_
  refine g_get (pc := 1) (v := .ref (ad 1)) (T := TX4) (N := 4) Z 0 0 dX4_needPower_1 (mm ww148) inx_X4 rfl (by decide) rfl rfl rfl ?_
  obtain ⟨x1, h2, hf⟩ := Option.bind_eq_some_iff.mp hf
  refine g_calli (pc := 4) (ws2 := fun u => (wH ad ++ wD ad ca vD)) (wr := (wH ad)) Z [1, 2, 3, 4, 5] [0] [0, 1, 2, 3, 4, 5] (g_runV Z (c_Disk_isOn l D ad ca vD x1 h2) (cwV 0 Z.2.2.2.2.1 (gg_V ww154 ww155 ww156 ww16 ww157) rfl rfl rfl (yv_of rfl yd_Disk_isOn) ⟨Nat.le_of_ble_eq_true rfl, Nat.le_of_ble_eq_true rfl⟩) [1, 2, 3, 4, 5] rfl (by decide) 0 rfl rfl rfl rfl rfl (Nat.le_of_ble_eq_true rfl) dX4_needPower_4 ⟨Nat.le_of_ble_eq_true rfl, Nat.le_of_ble_eq_true rfl⟩) rfl rfl (by decide) (by decide) (by decide) (fun _ => rfl) (fun r u hu => ?_)
  obtain rfl := hu.symm
  refine g_if_ne (pc := 7) (tgt := 20) Z dX4_needPower_7 (by decide) (fun c3 => ?_) (fun c3 => ?_)
  · replace hf := gIfP (bI_nz c3) hf
    exact absurd (Option.some.inj hf) (fun h => by cases h)
  · replace hf := gIfN (bI_z c3) hf
    obtain rfl := Except.error.inj (Option.some.inj hf)
    exact g_throw (pc := 10) (cls := "java/lang/IllegalStateException") (text := "the power is off") (names := supX) (strs := strsH) (pe := fun E9 => E9 = "java/lang/IllegalStateException") Z hl0 hT htab dX4_needPower_10 dX4_needPower_13 dX4_needPower_14 dX4_needPower_16 dX4_needPower_19 rfl supX_fit (by decide) (mm ww158) (mm ww159) (vx_hat (fun w h => Z.2.2.2.2.1 w (mm (at_52 w h))) ab_52 (gN.bad Z.2.2.2.2.2.2.2.2)) ag_52 (Nat.le_of_ble_eq_true rfl) (Nat.le_of_ble_eq_true rfl) (Nat.le_of_ble_eq_true rfl) (Nat.le_of_ble_eq_true rfl) rfl (Nat.le_of_ble_eq_true rfl) (Nat.le_of_ble_eq_true rfl)
theorem ww160 : Cond.methodLink RX4 41 yX4_needPower ∈ gA := wt1 144 rfl rfl
theorem ww161 : Cond.instanceMethod yX4_needPower ∈ gA := wt1 146 rfl rfl
theorem ww162 : Cond.selects RX4 yX4_needPower yX4_needPower ∈ gA := wtS 0 rfl rfl
theorem ww163 : cd_Heap_needPower ∈ gA := wt1 147 rfl rfl
theorem ww164 : Cond.fieldLink RX4 28 "RedoHeap" "changes" "LRedoHeap$Changes;" ∈ gA := wt1 125 rfl rfl
theorem ww165 : Cond.methodLink RX4 44 yX1_areOpen ∈ gA := wt1 220 rfl rfl
theorem ww166 : Cond.instanceMethod yX1_areOpen ∈ gA := wt1 221 rfl rfl
theorem ww167 : Cond.selects RX1 yX1_areOpen yX1_areOpen ∈ gA := wt1 222 rfl rfl
theorem ww168 : cd_Chg_areOpen ∈ gA := wt1 223 rfl rfl
theorem ww169 : Cond.methodLink RX4 55 yX1_start ∈ gA := wt1 225 rfl rfl
theorem ww170 : Cond.instanceMethod yX1_start ∈ gA := wt1 226 rfl rfl
theorem ww171 : Cond.selects RX1 yX1_start yX1_start ∈ gA := wt1 227 rfl rfl
theorem ww172 : cd_Chg_start ∈ gA := wt1 228 rfl rfl
theorem ww173 : Cond.methodLink RX4 58 yX3_lastNumber ∈ gA := wt1 229 rfl rfl
theorem ww174 : Cond.instanceMethod yX3_lastNumber ∈ gA := wt1 230 rfl rfl
theorem ww175 : Cond.selects RX3 yX3_lastNumber yX3_lastNumber ∈ gA := wt1 231 rfl rfl
theorem ww176 : cd_Log_lastNumber ∈ gA := wt1 232 rfl rfl
/-! RedoHeap.begin()I -/
def f_Heap_begin (vL : LT) (vD : DT) (vC : CT) : Option (Except String (Int32 × CT)) :=
  gE (f_Heap_needPower vD) fun x1 => (f_Chg_areOpen vC).bind fun x3 => if x3 = true then some (Except.error "java/lang/IllegalStateException") else (f_Chg_start vC).bind fun x6 => (f_Log_lastNumber vL).bind fun x8 => some (Except.ok (x8 + (1 : Int32), x6))
abbrev cd_Heap_begin : Cond := .code yX4_begin cX4_begin 1 (some .int)
theorem yd_Heap_begin : yX4_begin.cls ≠ "java/lang/invoke/MethodHandle" ∧ yX4_begin.cls ≠ "java/lang/invoke/VarHandle" ∧ (parseMethodDescriptor yX4_begin.desc).map (fun d => d.parameters.length) = some 0 := by decide +kernel
abbrev rm_Heap_begin : Room := { frames := 2, cells := 0, slots := 0, locals := 40 }
abbrev rx_Heap_begin : Room := { frames := 7, cells := 1, slots := 6, locals := 102 }
abbrev q_Heap_begin (D : va_G) (ad : Nat → Nat) (ca : Nat → ClassId) (vL : LT) (vD : DT) (res : Int32 × CT) (A : Nat → Prop) : Array Value → State → Outcome → State → Prop := va_Qi (fun (r : Int32) (u : CT) => r = res.1 ∧ u = res.2) (gB D cls (tys ca) A (fun (u : CT) => (wH ad ++ wL ad ca vL ++ wD ad ca vD ++ wC ad ca u))) A
set_option maxHeartbeats 4000000 in
set_option maxRecDepth 100000 in
theorem c_Heap_begin (l : Launch) (D : va_G) (ad : Nat → Nat) (ca : Nat → ClassId) (vL : LT) (vD : DT) (vC : CT) (res : Int32 × CT) (hf : f_Heap_begin vL vD vC = some (.ok res)) (sz : Nat) : Met l yX4_begin (cd_Heap_begin :: gA) rm_Heap_begin (va_Pc [.ref (ad 0)] (gP D cls (tys ca) (wH ad ++ wL ad ca vL ++ wD ad ca vD ++ wC ad ca vC) sz)) (q_Heap_begin D ad ca vL vD res (va_A (wH ad ++ wL ad ca vL ++ wD ad ca vD ++ wC ad ca vC) sz)) 0 0 (va_A (wH ad ++ wL ad ca vL ++ wD ad ca vD ++ wC ad ca vC) sz) := by
  refine g_met (cc := cX4_begin) (Qc := q_Heap_begin D ad ca vL vD res) (lv := [(0, .ref (ad 0))]) (own := RX4) (by decide) rfl rfl (Nat.le_of_ble_eq_true rfl) rfl sz ?_
  intro p e s m args below meth c A Z hr hnm
  unfold f_Heap_begin at hf
  refine g_aload_n (pc := 0) Z 0 dX4_begin_0 rfl ?_
  obtain ⟨x1, h2, hf⟩ := gE_ok hf
  refine g_callv (pc := 1) (ws2 := fun u => (wH ad ++ wL ad ca vL ++ wD ad ca vD ++ wC ad ca vC)) (wr := (wL ad ca vL ++ wC ad ca vC)) Z [0, 2, 3, 4, 5, 6] [1, 7, 8, 9, 10, 11] [6, 0, 7, 8, 9, 10, 11, 1, 2, 3, 4, 5] (g_runV Z (c_Heap_needPower l D ad ca vD x1 h2) (cwV 0 Z.2.2.2.2.1 (gg_V ww160 ww161 ww162 ww2 ww163) rfl rfl rfl (yv_of rfl yd_Heap_needPower) ⟨Nat.le_of_ble_eq_true rfl, Nat.le_of_ble_eq_true rfl⟩) [0, 2, 3, 4, 5, 6] rfl (by decide) 0 rfl rfl rfl rfl rfl (Nat.le_of_ble_eq_true rfl) dX4_begin_1 ⟨(Nat.le_of_ble_eq_true rfl), (Nat.le_of_ble_eq_true rfl)⟩) rfl rfl (by decide) (by decide) (by decide) (fun _ => rfl) (fun u hu => ?_)
  refine g_aload_n (pc := 4) Z 0 dX4_begin_4 rfl ?_
  refine g_get (pc := 5) (v := .ref (ad 7)) (T := TX4) (N := 4) Z 0 2 dX4_begin_5 (mm ww164) inx_X4 rfl (by decide) rfl rfl rfl ?_
  obtain ⟨x3, h4, hf⟩ := Option.bind_eq_some_iff.mp hf
  refine g_calli (pc := 8) (ws2 := fun u => (wH ad ++ wL ad ca vL ++ wD ad ca vD ++ wC ad ca vC)) (wr := (wH ad ++ wL ad ca vL ++ wD ad ca vD)) Z [7, 8, 9, 10, 11] [0, 1, 2, 3, 4, 5, 6] [0, 1, 2, 3, 4, 5, 6, 7, 8, 9, 10, 11] (g_runV Z (c_Chg_areOpen l D ad ca vC x3 h4) (cwV 0 Z.2.2.2.2.1 (gg_V ww165 ww166 ww167 ww40 ww168) rfl rfl rfl (yv_of rfl yd_Chg_areOpen) ⟨Nat.le_of_ble_eq_true rfl, Nat.le_of_ble_eq_true rfl⟩) [7, 8, 9, 10, 11] rfl (by decide) 0 rfl rfl rfl rfl rfl (Nat.le_of_ble_eq_true rfl) dX4_begin_8 ⟨Nat.le_of_ble_eq_true rfl, Nat.le_of_ble_eq_true rfl⟩) rfl rfl (by decide) (by decide) (by decide) (fun _ => rfl) (fun r u hu => ?_)
  obtain rfl := hu.symm
  refine g_if_eq (pc := 11) (tgt := 24) Z dX4_begin_11 (by decide) (fun c5 => ?_) (fun c5 => ?_)
  · replace hf := gIfN (bI_z c5) hf
    refine g_aload_n (pc := 24) Z 0 dX4_begin_24 rfl ?_
    refine g_get (pc := 25) (v := .ref (ad 7)) (T := TX4) (N := 4) Z 0 2 dX4_begin_25 (mm ww164) inx_X4 rfl (by decide) rfl rfl rfl ?_
    obtain ⟨x6, h7, hf⟩ := Option.bind_eq_some_iff.mp hf
    refine g_callv (pc := 28) (ws2 := fun u => (wH ad ++ wL ad ca vL ++ wD ad ca vD ++ wC ad ca u)) (wr := (wH ad ++ wL ad ca vL ++ wD ad ca vD)) Z [7, 8, 9, 10, 11] [0, 1, 2, 3, 4, 5, 6] [0, 1, 2, 3, 4, 5, 6, 7, 8, 9, 10, 11] (g_runV Z (c_Chg_start l D ad ca vC x6 h7) (cwV 0 Z.2.2.2.2.1 (gg_V ww169 ww170 ww171 ww40 ww172) rfl rfl rfl (yv_of rfl yd_Chg_start) ⟨Nat.le_of_ble_eq_true rfl, Nat.le_of_ble_eq_true rfl⟩) [7, 8, 9, 10, 11] rfl (by decide) 0 rfl rfl rfl rfl rfl (Nat.le_of_ble_eq_true rfl) dX4_begin_28 ⟨Nat.le_of_ble_eq_true rfl, Nat.le_of_ble_eq_true rfl⟩) rfl rfl (by decide) (by decide) (by decide) (fun _ => rfl) (fun u hu => ?_)
    obtain rfl := hu.symm
    refine g_aload_n (pc := 31) Z 0 dX4_begin_31 rfl ?_
    refine g_get (pc := 32) (v := .ref (ad 6)) (T := TX4) (N := 4) Z 0 1 dX4_begin_32 (mm ww152) inx_X4 rfl (by decide) rfl rfl rfl ?_
    obtain ⟨x8, h9, hf⟩ := Option.bind_eq_some_iff.mp hf
    refine g_calli (pc := 35) (ws2 := fun u => (wH ad ++ wL ad ca vL ++ wD ad ca vD ++ wC ad ca x6)) (wr := (wH ad ++ wD ad ca vD ++ wC ad ca x6)) Z [1] [0, 2, 3, 4, 5, 6, 7, 8, 9, 10, 11] [0, 11, 1, 2, 3, 4, 5, 6, 7, 8, 9, 10] (g_runV Z (c_Log_lastNumber l D ad ca vL x8 h9) (cwV 0 Z.2.2.2.2.1 (gg_V ww173 ww174 ww175 ww72 ww176) rfl rfl rfl (yv_of rfl yd_Log_lastNumber) ⟨Nat.le_of_ble_eq_true rfl, Nat.le_of_ble_eq_true rfl⟩) [1] rfl (by decide) 0 rfl rfl rfl rfl rfl (Nat.le_of_ble_eq_true rfl) dX4_begin_35 ⟨Nat.le_of_ble_eq_true rfl, Nat.le_of_ble_eq_true rfl⟩) rfl rfl (by decide) (by decide) (by decide) (fun _ => rfl) (fun r u hu => ?_)
    obtain rfl := hu.symm
    refine g_iconst (pc := 38) (v := 1) Z dX4_begin_38 (by decide) ?_
    refine g_iadd (pc := 39) Z dX4_begin_39 ?_
    obtain rfl := Except.ok.inj (Option.some.inj hf)
    exact g_iret Z hr dX4_begin_40 x6 ⟨rfl, rfl⟩ rfl
  · replace hf := gIfP (bI_nz c5) hf
    exact absurd (Option.some.inj hf) (fun h => by cases h)
set_option maxHeartbeats 4000000 in
set_option maxRecDepth 100000 in
theorem x_Heap_begin (l : Launch) (hl0 : l.stackTraces = false) (D : va_G) (ad : Nat → Nat) (ca : Nat → ClassId) (vL : LT) (vD : DT) (vC : CT) (E : String) (hf : f_Heap_begin vL vD vC = some (.error E)) (sz : Nat) : vx_Met l yX4_begin (cd_Heap_begin :: gA) rx_Heap_begin (va_Pc [.ref (ad 0)] (gPX D cls (tys ca) (wH ad ++ wL ad ca vL ++ wD ad ca vD ++ wC ad ca vC) sz RX4 strsH)) (gQE (va_A (wH ad ++ wL ad ca vL ++ wD ad ca vD ++ wC ad ca vC) sz)) (gXC D cls (tys ca) (wH ad ++ wL ad ca vL ++ wD ad ca vD ++ wC ad ca vC) (fun E9 => E9 = E) (va_A (wH ad ++ wL ad ca vL ++ wD ad ca vD ++ wC ad ca vC) sz)) 1 6 (va_A (wH ad ++ wL ad ca vL ++ wD ad ca vD ++ wC ad ca vC) sz) := by
  refine g_metX (cc := cX4_begin) (Qc := gQE) (pe := fun E9 => E9 = E) (lv := [(0, .ref (ad 0))]) (own := RX4) (by decide) rfl rfl (Nat.le_of_ble_eq_true rfl) rfl sz ?_
  intro p e s m args below meth c A Z hr hnm hT htab
  unfold f_Heap_begin at hf
  refine g_aload_n (pc := 0) Z 0 dX4_begin_0 rfl ?_
  rcases gE_er hf with h2 | ⟨x1, h2, hf⟩
  · refine g_callE (pc := 1) (wr := (wL ad ca vL ++ wC ad ca vC)) Z [0, 2, 3, 4, 5, 6] [1, 7, 8, 9, 10, 11] [6, 0, 7, 8, 9, 10, 11, 1, 2, 3, 4, 5] (g_runXV Z hT (x_Heap_needPower l hl0 D ad ca vD E h2) (cwV 0 Z.2.2.2.2.1 (gg_V ww160 ww161 ww162 ww2 ww163) rfl rfl rfl (yv_of rfl yd_Heap_needPower) ⟨Nat.le_of_ble_eq_true rfl, Nat.le_of_ble_eq_true rfl⟩) [0, 2, 3, 4, 5, 6] rfl (by decide) 0 rfl rfl rfl rfl rfl (Nat.le_of_ble_eq_true rfl) dX4_begin_1 ⟨(Nat.le_of_ble_eq_true rfl), (Nat.le_of_ble_eq_true rfl)⟩) rfl rfl (by decide) (by decide) (by decide) rfl ?_
    exact g_out Z htab rfl (Nat.le_of_ble_eq_true rfl) (Nat.le_of_ble_eq_true rfl)
  · refine g_callv (pc := 1) (ws2 := fun u => (wH ad ++ wL ad ca vL ++ wD ad ca vD ++ wC ad ca vC)) (wr := (wL ad ca vL ++ wC ad ca vC)) Z [0, 2, 3, 4, 5, 6] [1, 7, 8, 9, 10, 11] [6, 0, 7, 8, 9, 10, 11, 1, 2, 3, 4, 5] (g_runV Z (c_Heap_needPower l D ad ca vD x1 h2) (cwV 0 Z.2.2.2.2.1 (gg_V ww160 ww161 ww162 ww2 ww163) rfl rfl rfl (yv_of rfl yd_Heap_needPower) ⟨Nat.le_of_ble_eq_true rfl, Nat.le_of_ble_eq_true rfl⟩) [0, 2, 3, 4, 5, 6] rfl (by decide) 0 rfl rfl rfl rfl rfl (Nat.le_of_ble_eq_true rfl) dX4_begin_1 ⟨(Nat.le_of_ble_eq_true rfl), (Nat.le_of_ble_eq_true rfl)⟩) rfl rfl (by decide) (by decide) (by decide) (fun _ => rfl) (fun u hu => ?_)
    refine g_aload_n (pc := 4) Z 0 dX4_begin_4 rfl ?_
    refine g_get (pc := 5) (v := .ref (ad 7)) (T := TX4) (N := 4) Z 0 2 dX4_begin_5 (mm ww164) inx_X4 rfl (by decide) rfl rfl rfl ?_
    obtain ⟨x3, h4, hf⟩ := Option.bind_eq_some_iff.mp hf
    refine g_calli (pc := 8) (ws2 := fun u => (wH ad ++ wL ad ca vL ++ wD ad ca vD ++ wC ad ca vC)) (wr := (wH ad ++ wL ad ca vL ++ wD ad ca vD)) Z [7, 8, 9, 10, 11] [0, 1, 2, 3, 4, 5, 6] [0, 1, 2, 3, 4, 5, 6, 7, 8, 9, 10, 11] (g_runV Z (c_Chg_areOpen l D ad ca vC x3 h4) (cwV 0 Z.2.2.2.2.1 (gg_V ww165 ww166 ww167 ww40 ww168) rfl rfl rfl (yv_of rfl yd_Chg_areOpen) ⟨Nat.le_of_ble_eq_true rfl, Nat.le_of_ble_eq_true rfl⟩) [7, 8, 9, 10, 11] rfl (by decide) 0 rfl rfl rfl rfl rfl (Nat.le_of_ble_eq_true rfl) dX4_begin_8 ⟨Nat.le_of_ble_eq_true rfl, Nat.le_of_ble_eq_true rfl⟩) rfl rfl (by decide) (by decide) (by decide) (fun _ => rfl) (fun r u hu => ?_)
    obtain rfl := hu.symm
    refine g_if_eq (pc := 11) (tgt := 24) Z dX4_begin_11 (by decide) (fun c5 => ?_) (fun c5 => ?_)
    · replace hf := gIfN (bI_z c5) hf
      refine g_aload_n (pc := 24) Z 0 dX4_begin_24 rfl ?_
      refine g_get (pc := 25) (v := .ref (ad 7)) (T := TX4) (N := 4) Z 0 2 dX4_begin_25 (mm ww164) inx_X4 rfl (by decide) rfl rfl rfl ?_
      obtain ⟨x6, h7, hf⟩ := Option.bind_eq_some_iff.mp hf
      refine g_callv (pc := 28) (ws2 := fun u => (wH ad ++ wL ad ca vL ++ wD ad ca vD ++ wC ad ca u)) (wr := (wH ad ++ wL ad ca vL ++ wD ad ca vD)) Z [7, 8, 9, 10, 11] [0, 1, 2, 3, 4, 5, 6] [0, 1, 2, 3, 4, 5, 6, 7, 8, 9, 10, 11] (g_runV Z (c_Chg_start l D ad ca vC x6 h7) (cwV 0 Z.2.2.2.2.1 (gg_V ww169 ww170 ww171 ww40 ww172) rfl rfl rfl (yv_of rfl yd_Chg_start) ⟨Nat.le_of_ble_eq_true rfl, Nat.le_of_ble_eq_true rfl⟩) [7, 8, 9, 10, 11] rfl (by decide) 0 rfl rfl rfl rfl rfl (Nat.le_of_ble_eq_true rfl) dX4_begin_28 ⟨Nat.le_of_ble_eq_true rfl, Nat.le_of_ble_eq_true rfl⟩) rfl rfl (by decide) (by decide) (by decide) (fun _ => rfl) (fun u hu => ?_)
      obtain rfl := hu.symm
      refine g_aload_n (pc := 31) Z 0 dX4_begin_31 rfl ?_
      refine g_get (pc := 32) (v := .ref (ad 6)) (T := TX4) (N := 4) Z 0 1 dX4_begin_32 (mm ww152) inx_X4 rfl (by decide) rfl rfl rfl ?_
      obtain ⟨x8, h9, hf⟩ := Option.bind_eq_some_iff.mp hf
      refine g_calli (pc := 35) (ws2 := fun u => (wH ad ++ wL ad ca vL ++ wD ad ca vD ++ wC ad ca x6)) (wr := (wH ad ++ wD ad ca vD ++ wC ad ca x6)) Z [1] [0, 2, 3, 4, 5, 6, 7, 8, 9, 10, 11] [0, 11, 1, 2, 3, 4, 5, 6, 7, 8, 9, 10] (g_runV Z (c_Log_lastNumber l D ad ca vL x8 h9) (cwV 0 Z.2.2.2.2.1 (gg_V ww173 ww174 ww175 ww72 ww176) rfl rfl rfl (yv_of rfl yd_Log_lastNumber) ⟨Nat.le_of_ble_eq_true rfl, Nat.le_of_ble_eq_true rfl⟩) [1] rfl (by decide) 0 rfl rfl rfl rfl rfl (Nat.le_of_ble_eq_true rfl) dX4_begin_35 ⟨Nat.le_of_ble_eq_true rfl, Nat.le_of_ble_eq_true rfl⟩) rfl rfl (by decide) (by decide) (by decide) (fun _ => rfl) (fun r u hu => ?_)
      obtain rfl := hu.symm
      refine g_iconst (pc := 38) (v := 1) Z dX4_begin_38 (by decide) ?_
      refine g_iadd (pc := 39) Z dX4_begin_39 ?_
      exact absurd (Option.some.inj hf) (fun h => by cases h)
    · replace hf := gIfP (bI_nz c5) hf
      obtain rfl := Except.error.inj (Option.some.inj hf)
      exact g_throw (pc := 14) (cls := "java/lang/IllegalStateException") (text := "a transaction is open") (names := supX) (strs := strsH) (pe := fun E9 => E9 = "java/lang/IllegalStateException") Z hl0 hT htab dX4_begin_14 dX4_begin_17 dX4_begin_18 dX4_begin_20 dX4_begin_23 rfl supX_fit (by decide) (mm ww158) (mm ww159) (vx_hat (fun w h => Z.2.2.2.2.1 w (mm (at_52 w h))) ab_52 (gN.bad Z.2.2.2.2.2.2.2.2)) ag_52 (Nat.le_of_ble_eq_true rfl) (Nat.le_of_ble_eq_true rfl) (Nat.le_of_ble_eq_true rfl) (Nat.le_of_ble_eq_true rfl) rfl (Nat.le_of_ble_eq_true rfl) (Nat.le_of_ble_eq_true rfl)
/-! RedoHeap.needTransaction()V -/
def f_Heap_needTransaction (vD : DT) (vC : CT) : Option (Except String (Unit)) :=
  gE (f_Heap_needPower vD) fun x1 => (f_Chg_areOpen vC).bind fun x3 => if x3 = true then some (Except.ok ()) else some (Except.error "java/lang/IllegalStateException")
abbrev cd_Heap_needTransaction : Cond := .code yX4_needTransaction cX4_needTransaction 1 none
theorem yd_Heap_needTransaction : yX4_needTransaction.cls ≠ "java/lang/invoke/MethodHandle" ∧ yX4_needTransaction.cls ≠ "java/lang/invoke/VarHandle" ∧ (parseMethodDescriptor yX4_needTransaction.desc).map (fun d => d.parameters.length) = some 0 := by decide +kernel
abbrev rm_Heap_needTransaction : Room := { frames := 2, cells := 0, slots := 0, locals := 40 }
abbrev rx_Heap_needTransaction : Room := { frames := 7, cells := 1, slots := 6, locals := 102 }
abbrev q_Heap_needTransaction (D : va_G) (ad : Nat → Nat) (ca : Nat → ClassId) (vD : DT) (vC : CT) (res : Unit) (A : Nat → Prop) : Array Value → State → Outcome → State → Prop := va_Qv (fun (_ : Unit) => True) (gB D cls (tys ca) A (fun (u : Unit) => (wH ad ++ wD ad ca vD ++ wC ad ca vC))) A
set_option maxHeartbeats 4000000 in
set_option maxRecDepth 100000 in
theorem c_Heap_needTransaction (l : Launch) (D : va_G) (ad : Nat → Nat) (ca : Nat → ClassId) (vD : DT) (vC : CT) (res : Unit) (hf : f_Heap_needTransaction vD vC = some (.ok res)) (sz : Nat) : Met l yX4_needTransaction (cd_Heap_needTransaction :: gA) rm_Heap_needTransaction (va_Pc [.ref (ad 0)] (gP D cls (tys ca) (wH ad ++ wD ad ca vD ++ wC ad ca vC) sz)) (q_Heap_needTransaction D ad ca vD vC res (va_A (wH ad ++ wD ad ca vD ++ wC ad ca vC) sz)) 0 0 (va_A (wH ad ++ wD ad ca vD ++ wC ad ca vC) sz) := by
  refine g_met (cc := cX4_needTransaction) (Qc := q_Heap_needTransaction D ad ca vD vC res) (lv := [(0, .ref (ad 0))]) (own := RX4) (by decide) rfl rfl (Nat.le_of_ble_eq_true rfl) rfl sz ?_
  intro p e s m args below meth c A Z hr hnm
  unfold f_Heap_needTransaction at hf
  refine g_aload_n (pc := 0) Z 0 dX4_needTransaction_0 rfl ?_
  obtain ⟨x1, h2, hf⟩ := gE_ok hf
  refine g_callv (pc := 1) (ws2 := fun u => (wH ad ++ wD ad ca vD ++ wC ad ca vC)) (wr := (wC ad ca vC)) Z [0, 1, 2, 3, 4, 5] [6, 7, 8, 9, 10] [5, 6, 7, 8, 9, 10, 0, 1, 2, 3, 4] (g_runV Z (c_Heap_needPower l D ad ca vD x1 h2) (cwV 0 Z.2.2.2.2.1 (gg_V ww160 ww161 ww162 ww2 ww163) rfl rfl rfl (yv_of rfl yd_Heap_needPower) ⟨Nat.le_of_ble_eq_true rfl, Nat.le_of_ble_eq_true rfl⟩) [0, 1, 2, 3, 4, 5] rfl (by decide) 0 rfl rfl rfl rfl rfl (Nat.le_of_ble_eq_true rfl) dX4_needTransaction_1 ⟨(Nat.le_of_ble_eq_true rfl), (Nat.le_of_ble_eq_true rfl)⟩) rfl rfl (by decide) (by decide) (by decide) (fun _ => rfl) (fun u hu => ?_)
  refine g_aload_n (pc := 4) Z 0 dX4_needTransaction_4 rfl ?_
  refine g_get (pc := 5) (v := .ref (ad 7)) (T := TX4) (N := 4) Z 0 2 dX4_needTransaction_5 (mm ww164) inx_X4 rfl (by decide) rfl rfl rfl ?_
  obtain ⟨x3, h4, hf⟩ := Option.bind_eq_some_iff.mp hf
  refine g_calli (pc := 8) (ws2 := fun u => (wH ad ++ wD ad ca vD ++ wC ad ca vC)) (wr := (wH ad ++ wD ad ca vD)) Z [6, 7, 8, 9, 10] [0, 1, 2, 3, 4, 5] [0, 1, 2, 3, 4, 5, 6, 7, 8, 9, 10] (g_runV Z (c_Chg_areOpen l D ad ca vC x3 h4) (cwV 0 Z.2.2.2.2.1 (gg_V ww165 ww166 ww167 ww40 ww168) rfl rfl rfl (yv_of rfl yd_Chg_areOpen) ⟨Nat.le_of_ble_eq_true rfl, Nat.le_of_ble_eq_true rfl⟩) [6, 7, 8, 9, 10] rfl (by decide) 0 rfl rfl rfl rfl rfl (Nat.le_of_ble_eq_true rfl) dX4_needTransaction_8 ⟨Nat.le_of_ble_eq_true rfl, Nat.le_of_ble_eq_true rfl⟩) rfl rfl (by decide) (by decide) (by decide) (fun _ => rfl) (fun r u hu => ?_)
  obtain rfl := hu.symm
  refine g_if_ne (pc := 11) (tgt := 24) Z dX4_needTransaction_11 (by decide) (fun c5 => ?_) (fun c5 => ?_)
  · replace hf := gIfP (bI_nz c5) hf
    obtain rfl := Except.ok.inj (Option.some.inj hf)
    exact g_vret Z hr dX4_needTransaction_24 () trivial rfl
  · replace hf := gIfN (bI_z c5) hf
    exact absurd (Option.some.inj hf) (fun h => by cases h)
set_option maxHeartbeats 4000000 in
set_option maxRecDepth 100000 in
theorem x_Heap_needTransaction (l : Launch) (hl0 : l.stackTraces = false) (D : va_G) (ad : Nat → Nat) (ca : Nat → ClassId) (vD : DT) (vC : CT) (E : String) (hf : f_Heap_needTransaction vD vC = some (.error E)) (sz : Nat) : vx_Met l yX4_needTransaction (cd_Heap_needTransaction :: gA) rx_Heap_needTransaction (va_Pc [.ref (ad 0)] (gPX D cls (tys ca) (wH ad ++ wD ad ca vD ++ wC ad ca vC) sz RX4 strsH)) (gQE (va_A (wH ad ++ wD ad ca vD ++ wC ad ca vC) sz)) (gXC D cls (tys ca) (wH ad ++ wD ad ca vD ++ wC ad ca vC) (fun E9 => E9 = E) (va_A (wH ad ++ wD ad ca vD ++ wC ad ca vC) sz)) 1 6 (va_A (wH ad ++ wD ad ca vD ++ wC ad ca vC) sz) := by
  refine g_metX (cc := cX4_needTransaction) (Qc := gQE) (pe := fun E9 => E9 = E) (lv := [(0, .ref (ad 0))]) (own := RX4) (by decide) rfl rfl (Nat.le_of_ble_eq_true rfl) rfl sz ?_
  intro p e s m args below meth c A Z hr hnm hT htab
  unfold f_Heap_needTransaction at hf
  refine g_aload_n (pc := 0) Z 0 dX4_needTransaction_0 rfl ?_
  rcases gE_er hf with h2 | ⟨x1, h2, hf⟩
  · refine g_callE (pc := 1) (wr := (wC ad ca vC)) Z [0, 1, 2, 3, 4, 5] [6, 7, 8, 9, 10] [5, 6, 7, 8, 9, 10, 0, 1, 2, 3, 4] (g_runXV Z hT (x_Heap_needPower l hl0 D ad ca vD E h2) (cwV 0 Z.2.2.2.2.1 (gg_V ww160 ww161 ww162 ww2 ww163) rfl rfl rfl (yv_of rfl yd_Heap_needPower) ⟨Nat.le_of_ble_eq_true rfl, Nat.le_of_ble_eq_true rfl⟩) [0, 1, 2, 3, 4, 5] rfl (by decide) 0 rfl rfl rfl rfl rfl (Nat.le_of_ble_eq_true rfl) dX4_needTransaction_1 ⟨(Nat.le_of_ble_eq_true rfl), (Nat.le_of_ble_eq_true rfl)⟩) rfl rfl (by decide) (by decide) (by decide) rfl ?_
    exact g_out Z htab rfl (Nat.le_of_ble_eq_true rfl) (Nat.le_of_ble_eq_true rfl)
  · refine g_callv (pc := 1) (ws2 := fun u => (wH ad ++ wD ad ca vD ++ wC ad ca vC)) (wr := (wC ad ca vC)) Z [0, 1, 2, 3, 4, 5] [6, 7, 8, 9, 10] [5, 6, 7, 8, 9, 10, 0, 1, 2, 3, 4] (g_runV Z (c_Heap_needPower l D ad ca vD x1 h2) (cwV 0 Z.2.2.2.2.1 (gg_V ww160 ww161 ww162 ww2 ww163) rfl rfl rfl (yv_of rfl yd_Heap_needPower) ⟨Nat.le_of_ble_eq_true rfl, Nat.le_of_ble_eq_true rfl⟩) [0, 1, 2, 3, 4, 5] rfl (by decide) 0 rfl rfl rfl rfl rfl (Nat.le_of_ble_eq_true rfl) dX4_needTransaction_1 ⟨(Nat.le_of_ble_eq_true rfl), (Nat.le_of_ble_eq_true rfl)⟩) rfl rfl (by decide) (by decide) (by decide) (fun _ => rfl) (fun u hu => ?_)
    refine g_aload_n (pc := 4) Z 0 dX4_needTransaction_4 rfl ?_
    refine g_get (pc := 5) (v := .ref (ad 7)) (T := TX4) (N := 4) Z 0 2 dX4_needTransaction_5 (mm ww164) inx_X4 rfl (by decide) rfl rfl rfl ?_
    obtain ⟨x3, h4, hf⟩ := Option.bind_eq_some_iff.mp hf
    refine g_calli (pc := 8) (ws2 := fun u => (wH ad ++ wD ad ca vD ++ wC ad ca vC)) (wr := (wH ad ++ wD ad ca vD)) Z [6, 7, 8, 9, 10] [0, 1, 2, 3, 4, 5] [0, 1, 2, 3, 4, 5, 6, 7, 8, 9, 10] (g_runV Z (c_Chg_areOpen l D ad ca vC x3 h4) (cwV 0 Z.2.2.2.2.1 (gg_V ww165 ww166 ww167 ww40 ww168) rfl rfl rfl (yv_of rfl yd_Chg_areOpen) ⟨Nat.le_of_ble_eq_true rfl, Nat.le_of_ble_eq_true rfl⟩) [6, 7, 8, 9, 10] rfl (by decide) 0 rfl rfl rfl rfl rfl (Nat.le_of_ble_eq_true rfl) dX4_needTransaction_8 ⟨Nat.le_of_ble_eq_true rfl, Nat.le_of_ble_eq_true rfl⟩) rfl rfl (by decide) (by decide) (by decide) (fun _ => rfl) (fun r u hu => ?_)
    obtain rfl := hu.symm
    refine g_if_ne (pc := 11) (tgt := 24) Z dX4_needTransaction_11 (by decide) (fun c5 => ?_) (fun c5 => ?_)
    · replace hf := gIfP (bI_nz c5) hf
      exact absurd (Option.some.inj hf) (fun h => by cases h)
    · replace hf := gIfN (bI_z c5) hf
      obtain rfl := Except.error.inj (Option.some.inj hf)
      exact g_throw (pc := 14) (cls := "java/lang/IllegalStateException") (text := "no transaction is open") (names := supX) (strs := strsH) (pe := fun E9 => E9 = "java/lang/IllegalStateException") Z hl0 hT htab dX4_needTransaction_14 dX4_needTransaction_17 dX4_needTransaction_18 dX4_needTransaction_20 dX4_needTransaction_23 rfl supX_fit (by decide) (mm ww158) (mm ww159) (vx_hat (fun w h => Z.2.2.2.2.1 w (mm (at_52 w h))) ab_52 (gN.bad Z.2.2.2.2.2.2.2.2)) ag_52 (Nat.le_of_ble_eq_true rfl) (Nat.le_of_ble_eq_true rfl) (Nat.le_of_ble_eq_true rfl) (Nat.le_of_ble_eq_true rfl) rfl (Nat.le_of_ble_eq_true rfl) (Nat.le_of_ble_eq_true rfl)
theorem ww177 : Cond.methodLink RX4 62 yX4_needTransaction ∈ gA := wt2 1 rfl rfl
theorem ww178 : Cond.instanceMethod yX4_needTransaction ∈ gA := wt2 3 rfl rfl
theorem ww179 : Cond.selects RX4 yX4_needTransaction yX4_needTransaction ∈ gA := wtS 2 rfl rfl
theorem ww180 : cd_Heap_needTransaction ∈ gA := wt2 4 rfl rfl
theorem ww181 : Cond.fieldLink RX4 37 "RedoHeap" "blocks" "LRedoHeap$Blocks;" ∈ gA := wt1 126 rfl rfl
theorem ww182 : Cond.methodLink RX4 70 yX0_takeFirst ∈ gA := wt2 22 rfl rfl
theorem ww183 : Cond.instanceMethod yX0_takeFirst ∈ gA := wt2 23 rfl rfl
theorem ww184 : Cond.selects RX0 yX0_takeFirst yX0_takeFirst ∈ gA := wt2 24 rfl rfl
theorem ww185 : cd_Blk_takeFirst ∈ gA := wt2 25 rfl rfl
theorem ww186 : Cond.classLink RX4 65 "java/lang/IllegalArgumentException" ∈ gA := wt2 6 rfl rfl
theorem ww187 : Cond.initialized "java/lang/IllegalArgumentException" ∈ gA := wt1 11 rfl rfl
/-! RedoHeap.take(I)I -/
def f_Heap_take (N : Nat) (vD : DT) (vC : CT) (p1 : Int32) : Option (Except String (Int32 × CT)) :=
  gE (f_Heap_needTransaction vD vC) fun x1 => if p1 < (1 : Int32) then some (Except.error "java/lang/IllegalArgumentException") else if p1 ≤ (847 : Int32) then (f_Blk_takeFirst N vC p1).bind fun x5 => some (Except.ok (x5.1, x5.2)) else some (Except.error "java/lang/IllegalArgumentException")
abbrev cd_Heap_take : Cond := .code yX4_take cX4_take 2 (some .int)
theorem yd_Heap_take : yX4_take.cls ≠ "java/lang/invoke/MethodHandle" ∧ yX4_take.cls ≠ "java/lang/invoke/VarHandle" ∧ (parseMethodDescriptor yX4_take.desc).map (fun d => d.parameters.length) = some 1 := by decide +kernel
abbrev rm_Heap_take : Room := { frames := 6, cells := 0, slots := 0, locals := 132 }
abbrev rx_Heap_take : Room := { frames := 8, cells := 1, slots := 6, locals := 132 }
abbrev q_Heap_take (D : va_G) (ad : Nat → Nat) (ca : Nat → ClassId) (vD : DT) (res : Int32 × CT) (A : Nat → Prop) : Array Value → State → Outcome → State → Prop := va_Qi (fun (r : Int32) (u : CT) => r = res.1 ∧ u = res.2) (gB D cls (tys ca) A (fun (u : CT) => (wH ad ++ wB ad ++ wD ad ca vD ++ wC ad ca u))) A
set_option maxHeartbeats 4000000 in
set_option maxRecDepth 100000 in
theorem c_Heap_take (l : Launch) (D : va_G) (ad : Nat → Nat) (ca : Nat → ClassId) (N : Nat) (vD : DT) (vC : CT) (p1 : Int32) (res : Int32 × CT) (hf : f_Heap_take N vD vC p1 = some (.ok res)) (sz : Nat) : Met l yX4_take (cd_Heap_take :: gA) rm_Heap_take (va_Pc [.ref (ad 0), .int p1] (gP D cls (tys ca) (wH ad ++ wB ad ++ wD ad ca vD ++ wC ad ca vC) sz)) (q_Heap_take D ad ca vD res (va_A (wH ad ++ wB ad ++ wD ad ca vD ++ wC ad ca vC) sz)) 0 0 (va_A (wH ad ++ wB ad ++ wD ad ca vD ++ wC ad ca vC) sz) := by
  refine g_met (cc := cX4_take) (Qc := q_Heap_take D ad ca vD res) (lv := [(0, .ref (ad 0)), (1, .int p1)]) (own := RX4) (by decide) rfl rfl (Nat.le_of_ble_eq_true rfl) rfl sz ?_
  intro p e s m args below meth c A Z hr hnm
  unfold f_Heap_take at hf
  refine g_aload_n (pc := 0) Z 0 dX4_take_0 rfl ?_
  obtain ⟨x1, h2, hf⟩ := gE_ok hf
  refine g_callv (pc := 1) (ws2 := fun u => (wH ad ++ wB ad ++ wD ad ca vD ++ wC ad ca vC)) (wr := (wB ad)) Z [0, 2, 3, 4, 5, 6, 7, 8, 9, 10, 11] [1] [1, 0, 2, 3, 4, 5, 6, 7, 8, 9, 10, 11] (g_runV Z (c_Heap_needTransaction l D ad ca vD vC x1 h2) (cwV 0 Z.2.2.2.2.1 (gg_V ww177 ww178 ww179 ww2 ww180) rfl rfl rfl (yv_of rfl yd_Heap_needTransaction) ⟨Nat.le_of_ble_eq_true rfl, Nat.le_of_ble_eq_true rfl⟩) [0, 2, 3, 4, 5, 6, 7, 8, 9, 10, 11] rfl (by decide) 0 rfl rfl rfl rfl rfl (Nat.le_of_ble_eq_true rfl) dX4_take_1 ⟨(Nat.le_of_ble_eq_true rfl), (Nat.le_of_ble_eq_true rfl)⟩) rfl rfl (by decide) (by decide) (by decide) (fun _ => rfl) (fun u hu => ?_)
  refine g_iload_n (pc := 4) Z 1 dX4_take_4 rfl ?_
  refine g_iconst (pc := 5) (v := 1) Z dX4_take_5 (by decide) ?_
  refine g_icmp_lt (pc := 6) (tgt := 16) Z dX4_take_6 (by decide) (fun c3 => ?_) (fun c3 => ?_)
  · replace hf := gIfP c3 hf
    exact absurd (Option.some.inj hf) (fun h => by cases h)
  · replace hf := gIfN c3 hf
    refine g_iload_n (pc := 9) Z 1 dX4_take_9 rfl ?_
    refine g_sipush (pc := 10) (v := 847) Z dX4_take_10 (by decide) ?_
    refine g_icmp_le (pc := 13) (tgt := 26) Z dX4_take_13 (by decide) (fun c4 => ?_) (fun c4 => ?_)
    · replace hf := gIfP c4 hf
      refine g_aload_n (pc := 26) Z 0 dX4_take_26 rfl ?_
      refine g_get (pc := 27) (v := .ref (ad 12)) (T := TX4) (N := 4) Z 0 3 dX4_take_27 (mm ww181) inx_X4 rfl (by decide) rfl rfl rfl ?_
      refine g_iload_n (pc := 30) Z 1 dX4_take_30 rfl ?_
      obtain ⟨x5, h6, hf⟩ := Option.bind_eq_some_iff.mp hf
      refine g_calli (pc := 31) (ws2 := fun u => (wH ad ++ wB ad ++ wD ad ca vD ++ wC ad ca u)) (wr := (wH ad ++ wD ad ca vD)) Z [1, 7, 8, 9, 10, 11] [0, 2, 3, 4, 5, 6] [0, 6, 1, 2, 3, 4, 5, 7, 8, 9, 10, 11] (g_runV Z (c_Blk_takeFirst l D ad ca N vC p1 x5 h6) (cwV 1 Z.2.2.2.2.1 (gg_V ww182 ww183 ww184 ww116 ww185) rfl rfl rfl (yv_of rfl yd_Blk_takeFirst) ⟨Nat.le_of_ble_eq_true rfl, Nat.le_of_ble_eq_true rfl⟩) [1, 7, 8, 9, 10, 11] rfl (by decide) 0 rfl rfl rfl rfl rfl (Nat.le_of_ble_eq_true rfl) dX4_take_31 ⟨Nat.le_of_ble_eq_true rfl, Nat.le_of_ble_eq_true rfl⟩) rfl rfl (by decide) (by decide) (by decide) (fun _ => rfl) (fun r u hu => ?_)
      obtain ⟨rfl, rfl⟩ := hu
      obtain rfl := Except.ok.inj (Option.some.inj hf)
      exact g_iret Z hr dX4_take_34 x5.2 ⟨rfl, rfl⟩ rfl
    · replace hf := gIfN c4 hf
      exact absurd (Option.some.inj hf) (fun h => by cases h)
set_option maxHeartbeats 4000000 in
set_option maxRecDepth 100000 in
theorem x_Heap_take (l : Launch) (hl0 : l.stackTraces = false) (D : va_G) (ad : Nat → Nat) (ca : Nat → ClassId) (N : Nat) (vD : DT) (vC : CT) (p1 : Int32) (E : String) (hf : f_Heap_take N vD vC p1 = some (.error E)) (sz : Nat) : vx_Met l yX4_take (cd_Heap_take :: gA) rx_Heap_take (va_Pc [.ref (ad 0), .int p1] (gPX D cls (tys ca) (wH ad ++ wB ad ++ wD ad ca vD ++ wC ad ca vC) sz RX4 strsH)) (gQE (va_A (wH ad ++ wB ad ++ wD ad ca vD ++ wC ad ca vC) sz)) (gXC D cls (tys ca) (wH ad ++ wB ad ++ wD ad ca vD ++ wC ad ca vC) (fun E9 => E9 = E) (va_A (wH ad ++ wB ad ++ wD ad ca vD ++ wC ad ca vC) sz)) 1 6 (va_A (wH ad ++ wB ad ++ wD ad ca vD ++ wC ad ca vC) sz) := by
  refine g_metX (cc := cX4_take) (Qc := gQE) (pe := fun E9 => E9 = E) (lv := [(0, .ref (ad 0)), (1, .int p1)]) (own := RX4) (by decide) rfl rfl (Nat.le_of_ble_eq_true rfl) rfl sz ?_
  intro p e s m args below meth c A Z hr hnm hT htab
  unfold f_Heap_take at hf
  refine g_aload_n (pc := 0) Z 0 dX4_take_0 rfl ?_
  rcases gE_er hf with h2 | ⟨x1, h2, hf⟩
  · refine g_callE (pc := 1) (wr := (wB ad)) Z [0, 2, 3, 4, 5, 6, 7, 8, 9, 10, 11] [1] [1, 0, 2, 3, 4, 5, 6, 7, 8, 9, 10, 11] (g_runXV Z hT (x_Heap_needTransaction l hl0 D ad ca vD vC E h2) (cwV 0 Z.2.2.2.2.1 (gg_V ww177 ww178 ww179 ww2 ww180) rfl rfl rfl (yv_of rfl yd_Heap_needTransaction) ⟨Nat.le_of_ble_eq_true rfl, Nat.le_of_ble_eq_true rfl⟩) [0, 2, 3, 4, 5, 6, 7, 8, 9, 10, 11] rfl (by decide) 0 rfl rfl rfl rfl rfl (Nat.le_of_ble_eq_true rfl) dX4_take_1 ⟨(Nat.le_of_ble_eq_true rfl), (Nat.le_of_ble_eq_true rfl)⟩) rfl rfl (by decide) (by decide) (by decide) rfl ?_
    exact g_out Z htab rfl (Nat.le_of_ble_eq_true rfl) (Nat.le_of_ble_eq_true rfl)
  · refine g_callv (pc := 1) (ws2 := fun u => (wH ad ++ wB ad ++ wD ad ca vD ++ wC ad ca vC)) (wr := (wB ad)) Z [0, 2, 3, 4, 5, 6, 7, 8, 9, 10, 11] [1] [1, 0, 2, 3, 4, 5, 6, 7, 8, 9, 10, 11] (g_runV Z (c_Heap_needTransaction l D ad ca vD vC x1 h2) (cwV 0 Z.2.2.2.2.1 (gg_V ww177 ww178 ww179 ww2 ww180) rfl rfl rfl (yv_of rfl yd_Heap_needTransaction) ⟨Nat.le_of_ble_eq_true rfl, Nat.le_of_ble_eq_true rfl⟩) [0, 2, 3, 4, 5, 6, 7, 8, 9, 10, 11] rfl (by decide) 0 rfl rfl rfl rfl rfl (Nat.le_of_ble_eq_true rfl) dX4_take_1 ⟨(Nat.le_of_ble_eq_true rfl), (Nat.le_of_ble_eq_true rfl)⟩) rfl rfl (by decide) (by decide) (by decide) (fun _ => rfl) (fun u hu => ?_)
    refine g_iload_n (pc := 4) Z 1 dX4_take_4 rfl ?_
    refine g_iconst (pc := 5) (v := 1) Z dX4_take_5 (by decide) ?_
    refine g_icmp_lt (pc := 6) (tgt := 16) Z dX4_take_6 (by decide) (fun c3 => ?_) (fun c3 => ?_)
    · replace hf := gIfP c3 hf
      obtain rfl := Except.error.inj (Option.some.inj hf)
      exact g_throw (pc := 16) (cls := "java/lang/IllegalArgumentException") (text := "no block has so many words") (names := supX) (strs := strsH) (pe := fun E9 => E9 = "java/lang/IllegalArgumentException") Z hl0 hT htab dX4_take_16 dX4_take_19 dX4_take_20 dX4_take_22 dX4_take_25 rfl supX_fit (by decide) (mm ww186) (mm ww187) (vx_hat (fun w h => Z.2.2.2.2.1 w (mm (at_69 w h))) ab_69 (gN.bad Z.2.2.2.2.2.2.2.2)) ag_69 (Nat.le_of_ble_eq_true rfl) (Nat.le_of_ble_eq_true rfl) (Nat.le_of_ble_eq_true rfl) (Nat.le_of_ble_eq_true rfl) rfl (Nat.le_of_ble_eq_true rfl) (Nat.le_of_ble_eq_true rfl)
    · replace hf := gIfN c3 hf
      refine g_iload_n (pc := 9) Z 1 dX4_take_9 rfl ?_
      refine g_sipush (pc := 10) (v := 847) Z dX4_take_10 (by decide) ?_
      refine g_icmp_le (pc := 13) (tgt := 26) Z dX4_take_13 (by decide) (fun c4 => ?_) (fun c4 => ?_)
      · replace hf := gIfP c4 hf
        refine g_aload_n (pc := 26) Z 0 dX4_take_26 rfl ?_
        refine g_get (pc := 27) (v := .ref (ad 12)) (T := TX4) (N := 4) Z 0 3 dX4_take_27 (mm ww181) inx_X4 rfl (by decide) rfl rfl rfl ?_
        refine g_iload_n (pc := 30) Z 1 dX4_take_30 rfl ?_
        obtain ⟨x5, h6, hf⟩ := Option.bind_eq_some_iff.mp hf
        refine g_calli (pc := 31) (ws2 := fun u => (wH ad ++ wB ad ++ wD ad ca vD ++ wC ad ca u)) (wr := (wH ad ++ wD ad ca vD)) Z [1, 7, 8, 9, 10, 11] [0, 2, 3, 4, 5, 6] [0, 6, 1, 2, 3, 4, 5, 7, 8, 9, 10, 11] (g_runV Z (c_Blk_takeFirst l D ad ca N vC p1 x5 h6) (cwV 1 Z.2.2.2.2.1 (gg_V ww182 ww183 ww184 ww116 ww185) rfl rfl rfl (yv_of rfl yd_Blk_takeFirst) ⟨Nat.le_of_ble_eq_true rfl, Nat.le_of_ble_eq_true rfl⟩) [1, 7, 8, 9, 10, 11] rfl (by decide) 0 rfl rfl rfl rfl rfl (Nat.le_of_ble_eq_true rfl) dX4_take_31 ⟨Nat.le_of_ble_eq_true rfl, Nat.le_of_ble_eq_true rfl⟩) rfl rfl (by decide) (by decide) (by decide) (fun _ => rfl) (fun r u hu => ?_)
        obtain ⟨rfl, rfl⟩ := hu
        exact absurd (Option.some.inj hf) (fun h => by cases h)
      · replace hf := gIfN c4 hf
        obtain rfl := Except.error.inj (Option.some.inj hf)
        exact g_throw (pc := 16) (cls := "java/lang/IllegalArgumentException") (text := "no block has so many words") (names := supX) (strs := strsH) (pe := fun E9 => E9 = "java/lang/IllegalArgumentException") Z hl0 hT htab dX4_take_16 dX4_take_19 dX4_take_20 dX4_take_22 dX4_take_25 rfl supX_fit (by decide) (mm ww186) (mm ww187) (vx_hat (fun w h => Z.2.2.2.2.1 w (mm (at_69 w h))) ab_69 (gN.bad Z.2.2.2.2.2.2.2.2)) ag_69 (Nat.le_of_ble_eq_true rfl) (Nat.le_of_ble_eq_true rfl) (Nat.le_of_ble_eq_true rfl) (Nat.le_of_ble_eq_true rfl) rfl (Nat.le_of_ble_eq_true rfl) (Nat.le_of_ble_eq_true rfl)
theorem ww188 : Cond.methodLink RX4 207 yX0_isUsedAddress ∈ gA := wt2 84 rfl rfl
theorem ww189 : Cond.instanceMethod yX0_isUsedAddress ∈ gA := wt2 85 rfl rfl
theorem ww190 : Cond.selects RX0 yX0_isUsedAddress yX0_isUsedAddress ∈ gA := wt2 86 rfl rfl
theorem ww191 : cd_Blk_isUsedAddress ∈ gA := wt2 87 rfl rfl
/-! RedoHeap.needUsedBlock(I)V -/
def f_Heap_needUsedBlock (N : Nat) (vC : CT) (p1 : Int32) : Option (Except String (Unit)) :=
  (f_Blk_isUsedAddress N vC p1).bind fun x1 => if x1 = true then some (Except.ok ()) else some (Except.error "java/lang/IllegalArgumentException")
abbrev cd_Heap_needUsedBlock : Cond := .code yX4_needUsedBlock cX4_needUsedBlock 2 none
theorem yd_Heap_needUsedBlock : yX4_needUsedBlock.cls ≠ "java/lang/invoke/MethodHandle" ∧ yX4_needUsedBlock.cls ≠ "java/lang/invoke/VarHandle" ∧ (parseMethodDescriptor yX4_needUsedBlock.desc).map (fun d => d.parameters.length) = some 1 := by decide +kernel
abbrev rm_Heap_needUsedBlock : Room := { frames := 4, cells := 0, slots := 0, locals := 87 }
abbrev rx_Heap_needUsedBlock : Room := { frames := 6, cells := 1, slots := 6, locals := 87 }
abbrev q_Heap_needUsedBlock (D : va_G) (ad : Nat → Nat) (ca : Nat → ClassId) (vC : CT) (res : Unit) (A : Nat → Prop) : Array Value → State → Outcome → State → Prop := va_Qv (fun (_ : Unit) => True) (gB D cls (tys ca) A (fun (u : Unit) => (wH ad ++ wB ad ++ wC ad ca vC))) A
set_option maxHeartbeats 4000000 in
set_option maxRecDepth 100000 in
theorem c_Heap_needUsedBlock (l : Launch) (D : va_G) (ad : Nat → Nat) (ca : Nat → ClassId) (N : Nat) (vC : CT) (p1 : Int32) (res : Unit) (hf : f_Heap_needUsedBlock N vC p1 = some (.ok res)) (sz : Nat) : Met l yX4_needUsedBlock (cd_Heap_needUsedBlock :: gA) rm_Heap_needUsedBlock (va_Pc [.ref (ad 0), .int p1] (gP D cls (tys ca) (wH ad ++ wB ad ++ wC ad ca vC) sz)) (q_Heap_needUsedBlock D ad ca vC res (va_A (wH ad ++ wB ad ++ wC ad ca vC) sz)) 0 0 (va_A (wH ad ++ wB ad ++ wC ad ca vC) sz) := by
  refine g_met (cc := cX4_needUsedBlock) (Qc := q_Heap_needUsedBlock D ad ca vC res) (lv := [(0, .ref (ad 0)), (1, .int p1)]) (own := RX4) (by decide) rfl rfl (Nat.le_of_ble_eq_true rfl) rfl sz ?_
  intro p e s m args below meth c A Z hr hnm
  unfold f_Heap_needUsedBlock at hf
  refine g_aload_n (pc := 0) Z 0 dX4_needUsedBlock_0 rfl ?_
  refine g_get (pc := 1) (v := .ref (ad 12)) (T := TX4) (N := 4) Z 0 3 dX4_needUsedBlock_1 (mm ww181) inx_X4 rfl (by decide) rfl rfl rfl ?_
  refine g_iload_n (pc := 4) Z 1 dX4_needUsedBlock_4 rfl ?_
  obtain ⟨x1, h2, hf⟩ := Option.bind_eq_some_iff.mp hf
  refine g_calli (pc := 5) (ws2 := fun u => (wH ad ++ wB ad ++ wC ad ca vC)) (wr := (wH ad)) Z [1, 2, 3, 4, 5, 6] [0] [0, 1, 2, 3, 4, 5, 6] (g_runV Z (c_Blk_isUsedAddress l D ad ca N vC p1 x1 h2) (cwV 1 Z.2.2.2.2.1 (gg_V ww188 ww189 ww190 ww116 ww191) rfl rfl rfl (yv_of rfl yd_Blk_isUsedAddress) ⟨Nat.le_of_ble_eq_true rfl, Nat.le_of_ble_eq_true rfl⟩) [1, 2, 3, 4, 5, 6] rfl (by decide) 0 rfl rfl rfl rfl rfl (Nat.le_of_ble_eq_true rfl) dX4_needUsedBlock_5 ⟨Nat.le_of_ble_eq_true rfl, Nat.le_of_ble_eq_true rfl⟩) rfl rfl (by decide) (by decide) (by decide) (fun _ => rfl) (fun r u hu => ?_)
  obtain rfl := hu.symm
  refine g_if_ne (pc := 8) (tgt := 21) Z dX4_needUsedBlock_8 (by decide) (fun c3 => ?_) (fun c3 => ?_)
  · replace hf := gIfP (bI_nz c3) hf
    obtain rfl := Except.ok.inj (Option.some.inj hf)
    exact g_vret Z hr dX4_needUsedBlock_21 () trivial rfl
  · replace hf := gIfN (bI_z c3) hf
    exact absurd (Option.some.inj hf) (fun h => by cases h)
set_option maxHeartbeats 4000000 in
set_option maxRecDepth 100000 in
theorem x_Heap_needUsedBlock (l : Launch) (hl0 : l.stackTraces = false) (D : va_G) (ad : Nat → Nat) (ca : Nat → ClassId) (N : Nat) (vC : CT) (p1 : Int32) (E : String) (hf : f_Heap_needUsedBlock N vC p1 = some (.error E)) (sz : Nat) : vx_Met l yX4_needUsedBlock (cd_Heap_needUsedBlock :: gA) rx_Heap_needUsedBlock (va_Pc [.ref (ad 0), .int p1] (gPX D cls (tys ca) (wH ad ++ wB ad ++ wC ad ca vC) sz RX4 strsH)) (gQE (va_A (wH ad ++ wB ad ++ wC ad ca vC) sz)) (gXC D cls (tys ca) (wH ad ++ wB ad ++ wC ad ca vC) (fun E9 => E9 = E) (va_A (wH ad ++ wB ad ++ wC ad ca vC) sz)) 1 6 (va_A (wH ad ++ wB ad ++ wC ad ca vC) sz) := by
  refine g_metX (cc := cX4_needUsedBlock) (Qc := gQE) (pe := fun E9 => E9 = E) (lv := [(0, .ref (ad 0)), (1, .int p1)]) (own := RX4) (by decide) rfl rfl (Nat.le_of_ble_eq_true rfl) rfl sz ?_
  intro p e s m args below meth c A Z hr hnm hT htab
  unfold f_Heap_needUsedBlock at hf
  refine g_aload_n (pc := 0) Z 0 dX4_needUsedBlock_0 rfl ?_
  refine g_get (pc := 1) (v := .ref (ad 12)) (T := TX4) (N := 4) Z 0 3 dX4_needUsedBlock_1 (mm ww181) inx_X4 rfl (by decide) rfl rfl rfl ?_
  refine g_iload_n (pc := 4) Z 1 dX4_needUsedBlock_4 rfl ?_
  obtain ⟨x1, h2, hf⟩ := Option.bind_eq_some_iff.mp hf
  refine g_calli (pc := 5) (ws2 := fun u => (wH ad ++ wB ad ++ wC ad ca vC)) (wr := (wH ad)) Z [1, 2, 3, 4, 5, 6] [0] [0, 1, 2, 3, 4, 5, 6] (g_runV Z (c_Blk_isUsedAddress l D ad ca N vC p1 x1 h2) (cwV 1 Z.2.2.2.2.1 (gg_V ww188 ww189 ww190 ww116 ww191) rfl rfl rfl (yv_of rfl yd_Blk_isUsedAddress) ⟨Nat.le_of_ble_eq_true rfl, Nat.le_of_ble_eq_true rfl⟩) [1, 2, 3, 4, 5, 6] rfl (by decide) 0 rfl rfl rfl rfl rfl (Nat.le_of_ble_eq_true rfl) dX4_needUsedBlock_5 ⟨Nat.le_of_ble_eq_true rfl, Nat.le_of_ble_eq_true rfl⟩) rfl rfl (by decide) (by decide) (by decide) (fun _ => rfl) (fun r u hu => ?_)
  obtain rfl := hu.symm
  refine g_if_ne (pc := 8) (tgt := 21) Z dX4_needUsedBlock_8 (by decide) (fun c3 => ?_) (fun c3 => ?_)
  · replace hf := gIfP (bI_nz c3) hf
    exact absurd (Option.some.inj hf) (fun h => by cases h)
  · replace hf := gIfN (bI_z c3) hf
    obtain rfl := Except.error.inj (Option.some.inj hf)
    exact g_throw (pc := 11) (cls := "java/lang/IllegalArgumentException") (text := "no used block has this address") (names := supX) (strs := strsH) (pe := fun E9 => E9 = "java/lang/IllegalArgumentException") Z hl0 hT htab dX4_needUsedBlock_11 dX4_needUsedBlock_14 dX4_needUsedBlock_15 dX4_needUsedBlock_17 dX4_needUsedBlock_20 rfl supX_fit (by decide) (mm ww186) (mm ww187) (vx_hat (fun w h => Z.2.2.2.2.1 w (mm (at_69 w h))) ab_69 (gN.bad Z.2.2.2.2.2.2.2.2)) ag_69 (Nat.le_of_ble_eq_true rfl) (Nat.le_of_ble_eq_true rfl) (Nat.le_of_ble_eq_true rfl) (Nat.le_of_ble_eq_true rfl) rfl (Nat.le_of_ble_eq_true rfl) (Nat.le_of_ble_eq_true rfl)
theorem ww192 : Cond.methodLink RX4 74 yX4_needUsedBlock ∈ gA := wt2 80 rfl rfl
theorem ww193 : Cond.instanceMethod yX4_needUsedBlock ∈ gA := wt2 82 rfl rfl
theorem ww194 : Cond.selects RX4 yX4_needUsedBlock yX4_needUsedBlock ∈ gA := wtS 7 rfl rfl
theorem ww195 : cd_Heap_needUsedBlock ∈ gA := wt2 83 rfl rfl
theorem ww196 : Cond.methodLink RX4 78 yX0_giveBack ∈ gA := wt2 89 rfl rfl
theorem ww197 : Cond.instanceMethod yX0_giveBack ∈ gA := wt2 90 rfl rfl
theorem ww198 : Cond.selects RX0 yX0_giveBack yX0_giveBack ∈ gA := wt2 91 rfl rfl
theorem ww199 : cd_Blk_giveBack ∈ gA := wt2 92 rfl rfl
/-! RedoHeap.give(I)I -/
def f_Heap_give (N : Nat) (vD : DT) (vC : CT) (p1 : Int32) : Option (Except String (Int32 × CT)) :=
  gE (f_Heap_needTransaction vD vC) fun x1 => gE (f_Heap_needUsedBlock N vC p1) fun x3 => (f_Blk_giveBack N vC (p1 - (1 : Int32))).bind fun x5 => some (Except.ok (x5.1, x5.2))
abbrev cd_Heap_give : Cond := .code yX4_give cX4_give 2 (some .int)
theorem yd_Heap_give : yX4_give.cls ≠ "java/lang/invoke/MethodHandle" ∧ yX4_give.cls ≠ "java/lang/invoke/VarHandle" ∧ (parseMethodDescriptor yX4_give.desc).map (fun d => d.parameters.length) = some 1 := by decide +kernel
abbrev rm_Heap_give : Room := { frames := 5, cells := 0, slots := 0, locals := 113 }
abbrev rx_Heap_give : Room := { frames := 8, cells := 1, slots := 6, locals := 122 }
abbrev q_Heap_give (D : va_G) (ad : Nat → Nat) (ca : Nat → ClassId) (vD : DT) (res : Int32 × CT) (A : Nat → Prop) : Array Value → State → Outcome → State → Prop := va_Qi (fun (r : Int32) (u : CT) => r = res.1 ∧ u = res.2) (gB D cls (tys ca) A (fun (u : CT) => (wH ad ++ wB ad ++ wD ad ca vD ++ wC ad ca u))) A
set_option maxHeartbeats 4000000 in
set_option maxRecDepth 100000 in
theorem c_Heap_give (l : Launch) (D : va_G) (ad : Nat → Nat) (ca : Nat → ClassId) (N : Nat) (vD : DT) (vC : CT) (p1 : Int32) (res : Int32 × CT) (hf : f_Heap_give N vD vC p1 = some (.ok res)) (sz : Nat) : Met l yX4_give (cd_Heap_give :: gA) rm_Heap_give (va_Pc [.ref (ad 0), .int p1] (gP D cls (tys ca) (wH ad ++ wB ad ++ wD ad ca vD ++ wC ad ca vC) sz)) (q_Heap_give D ad ca vD res (va_A (wH ad ++ wB ad ++ wD ad ca vD ++ wC ad ca vC) sz)) 0 0 (va_A (wH ad ++ wB ad ++ wD ad ca vD ++ wC ad ca vC) sz) := by
  refine g_met (cc := cX4_give) (Qc := q_Heap_give D ad ca vD res) (lv := [(0, .ref (ad 0)), (1, .int p1)]) (own := RX4) (by decide) rfl rfl (Nat.le_of_ble_eq_true rfl) rfl sz ?_
  intro p e s m args below meth c A Z hr hnm
  unfold f_Heap_give at hf
  refine g_aload_n (pc := 0) Z 0 dX4_give_0 rfl ?_
  obtain ⟨x1, h2, hf⟩ := gE_ok hf
  refine g_callv (pc := 1) (ws2 := fun u => (wH ad ++ wB ad ++ wD ad ca vD ++ wC ad ca vC)) (wr := (wB ad)) Z [0, 2, 3, 4, 5, 6, 7, 8, 9, 10, 11] [1] [1, 0, 2, 3, 4, 5, 6, 7, 8, 9, 10, 11] (g_runV Z (c_Heap_needTransaction l D ad ca vD vC x1 h2) (cwV 0 Z.2.2.2.2.1 (gg_V ww177 ww178 ww179 ww2 ww180) rfl rfl rfl (yv_of rfl yd_Heap_needTransaction) ⟨Nat.le_of_ble_eq_true rfl, Nat.le_of_ble_eq_true rfl⟩) [0, 2, 3, 4, 5, 6, 7, 8, 9, 10, 11] rfl (by decide) 0 rfl rfl rfl rfl rfl (Nat.le_of_ble_eq_true rfl) dX4_give_1 ⟨(Nat.le_of_ble_eq_true rfl), (Nat.le_of_ble_eq_true rfl)⟩) rfl rfl (by decide) (by decide) (by decide) (fun _ => rfl) (fun u hu => ?_)
  refine g_aload_n (pc := 4) Z 0 dX4_give_4 rfl ?_
  refine g_iload_n (pc := 5) Z 1 dX4_give_5 rfl ?_
  obtain ⟨x3, h4, hf⟩ := gE_ok hf
  refine g_callv (pc := 6) (ws2 := fun u => (wH ad ++ wB ad ++ wD ad ca vD ++ wC ad ca vC)) (wr := (wD ad ca vD)) Z [0, 1, 7, 8, 9, 10, 11] [2, 3, 4, 5, 6] [5, 6, 0, 1, 2, 3, 4, 7, 8, 9, 10, 11] (g_runV Z (c_Heap_needUsedBlock l D ad ca N vC p1 x3 h4) (cwV 1 Z.2.2.2.2.1 (gg_V ww192 ww193 ww194 ww2 ww195) rfl rfl rfl (yv_of rfl yd_Heap_needUsedBlock) ⟨Nat.le_of_ble_eq_true rfl, Nat.le_of_ble_eq_true rfl⟩) [0, 1, 7, 8, 9, 10, 11] rfl (by decide) 0 rfl rfl rfl rfl rfl (Nat.le_of_ble_eq_true rfl) dX4_give_6 ⟨(Nat.le_of_ble_eq_true rfl), (Nat.le_of_ble_eq_true rfl)⟩) rfl rfl (by decide) (by decide) (by decide) (fun _ => rfl) (fun u hu => ?_)
  refine g_aload_n (pc := 9) Z 0 dX4_give_9 rfl ?_
  refine g_get (pc := 10) (v := .ref (ad 12)) (T := TX4) (N := 4) Z 0 3 dX4_give_10 (mm ww181) inx_X4 rfl (by decide) rfl rfl rfl ?_
  refine g_iload_n (pc := 13) Z 1 dX4_give_13 rfl ?_
  refine g_iconst (pc := 14) (v := 1) Z dX4_give_14 (by decide) ?_
  refine g_isub (pc := 15) Z dX4_give_15 ?_
  obtain ⟨x5, h6, hf⟩ := Option.bind_eq_some_iff.mp hf
  refine g_calli (pc := 16) (ws2 := fun u => (wH ad ++ wB ad ++ wD ad ca vD ++ wC ad ca u)) (wr := (wH ad ++ wD ad ca vD)) Z [1, 7, 8, 9, 10, 11] [0, 2, 3, 4, 5, 6] [0, 6, 1, 2, 3, 4, 5, 7, 8, 9, 10, 11] (g_runV Z (c_Blk_giveBack l D ad ca N vC (p1 - (1 : Int32)) x5 h6) (cwV 1 Z.2.2.2.2.1 (gg_V ww196 ww197 ww198 ww116 ww199) rfl rfl rfl (yv_of rfl yd_Blk_giveBack) ⟨Nat.le_of_ble_eq_true rfl, Nat.le_of_ble_eq_true rfl⟩) [1, 7, 8, 9, 10, 11] rfl (by decide) 0 rfl rfl rfl rfl rfl (Nat.le_of_ble_eq_true rfl) dX4_give_16 ⟨Nat.le_of_ble_eq_true rfl, Nat.le_of_ble_eq_true rfl⟩) rfl rfl (by decide) (by decide) (by decide) (fun _ => rfl) (fun r u hu => ?_)
  obtain ⟨rfl, rfl⟩ := hu
  obtain rfl := Except.ok.inj (Option.some.inj hf)
  exact g_iret Z hr dX4_give_19 x5.2 ⟨rfl, rfl⟩ rfl
set_option maxHeartbeats 4000000 in
set_option maxRecDepth 100000 in
theorem x_Heap_give (l : Launch) (hl0 : l.stackTraces = false) (D : va_G) (ad : Nat → Nat) (ca : Nat → ClassId) (N : Nat) (vD : DT) (vC : CT) (p1 : Int32) (E : String) (hf : f_Heap_give N vD vC p1 = some (.error E)) (sz : Nat) : vx_Met l yX4_give (cd_Heap_give :: gA) rx_Heap_give (va_Pc [.ref (ad 0), .int p1] (gPX D cls (tys ca) (wH ad ++ wB ad ++ wD ad ca vD ++ wC ad ca vC) sz RX4 strsH)) (gQE (va_A (wH ad ++ wB ad ++ wD ad ca vD ++ wC ad ca vC) sz)) (gXC D cls (tys ca) (wH ad ++ wB ad ++ wD ad ca vD ++ wC ad ca vC) (fun E9 => E9 = E) (va_A (wH ad ++ wB ad ++ wD ad ca vD ++ wC ad ca vC) sz)) 1 6 (va_A (wH ad ++ wB ad ++ wD ad ca vD ++ wC ad ca vC) sz) := by
  refine g_metX (cc := cX4_give) (Qc := gQE) (pe := fun E9 => E9 = E) (lv := [(0, .ref (ad 0)), (1, .int p1)]) (own := RX4) (by decide) rfl rfl (Nat.le_of_ble_eq_true rfl) rfl sz ?_
  intro p e s m args below meth c A Z hr hnm hT htab
  unfold f_Heap_give at hf
  refine g_aload_n (pc := 0) Z 0 dX4_give_0 rfl ?_
  rcases gE_er hf with h2 | ⟨x1, h2, hf⟩
  · refine g_callE (pc := 1) (wr := (wB ad)) Z [0, 2, 3, 4, 5, 6, 7, 8, 9, 10, 11] [1] [1, 0, 2, 3, 4, 5, 6, 7, 8, 9, 10, 11] (g_runXV Z hT (x_Heap_needTransaction l hl0 D ad ca vD vC E h2) (cwV 0 Z.2.2.2.2.1 (gg_V ww177 ww178 ww179 ww2 ww180) rfl rfl rfl (yv_of rfl yd_Heap_needTransaction) ⟨Nat.le_of_ble_eq_true rfl, Nat.le_of_ble_eq_true rfl⟩) [0, 2, 3, 4, 5, 6, 7, 8, 9, 10, 11] rfl (by decide) 0 rfl rfl rfl rfl rfl (Nat.le_of_ble_eq_true rfl) dX4_give_1 ⟨(Nat.le_of_ble_eq_true rfl), (Nat.le_of_ble_eq_true rfl)⟩) rfl rfl (by decide) (by decide) (by decide) rfl ?_
    exact g_out Z htab rfl (Nat.le_of_ble_eq_true rfl) (Nat.le_of_ble_eq_true rfl)
  · refine g_callv (pc := 1) (ws2 := fun u => (wH ad ++ wB ad ++ wD ad ca vD ++ wC ad ca vC)) (wr := (wB ad)) Z [0, 2, 3, 4, 5, 6, 7, 8, 9, 10, 11] [1] [1, 0, 2, 3, 4, 5, 6, 7, 8, 9, 10, 11] (g_runV Z (c_Heap_needTransaction l D ad ca vD vC x1 h2) (cwV 0 Z.2.2.2.2.1 (gg_V ww177 ww178 ww179 ww2 ww180) rfl rfl rfl (yv_of rfl yd_Heap_needTransaction) ⟨Nat.le_of_ble_eq_true rfl, Nat.le_of_ble_eq_true rfl⟩) [0, 2, 3, 4, 5, 6, 7, 8, 9, 10, 11] rfl (by decide) 0 rfl rfl rfl rfl rfl (Nat.le_of_ble_eq_true rfl) dX4_give_1 ⟨(Nat.le_of_ble_eq_true rfl), (Nat.le_of_ble_eq_true rfl)⟩) rfl rfl (by decide) (by decide) (by decide) (fun _ => rfl) (fun u hu => ?_)
    refine g_aload_n (pc := 4) Z 0 dX4_give_4 rfl ?_
    refine g_iload_n (pc := 5) Z 1 dX4_give_5 rfl ?_
    rcases gE_er hf with h4 | ⟨x3, h4, hf⟩
    · refine g_callE (pc := 6) (wr := (wD ad ca vD)) Z [0, 1, 7, 8, 9, 10, 11] [2, 3, 4, 5, 6] [5, 6, 0, 1, 2, 3, 4, 7, 8, 9, 10, 11] (g_runXV Z hT (x_Heap_needUsedBlock l hl0 D ad ca N vC p1 E h4) (cwV 1 Z.2.2.2.2.1 (gg_V ww192 ww193 ww194 ww2 ww195) rfl rfl rfl (yv_of rfl yd_Heap_needUsedBlock) ⟨Nat.le_of_ble_eq_true rfl, Nat.le_of_ble_eq_true rfl⟩) [0, 1, 7, 8, 9, 10, 11] rfl (by decide) 0 rfl rfl rfl rfl rfl (Nat.le_of_ble_eq_true rfl) dX4_give_6 ⟨(Nat.le_of_ble_eq_true rfl), (Nat.le_of_ble_eq_true rfl)⟩) rfl rfl (by decide) (by decide) (by decide) rfl ?_
      exact g_out Z htab rfl (Nat.le_of_ble_eq_true rfl) (Nat.le_of_ble_eq_true rfl)
    · refine g_callv (pc := 6) (ws2 := fun u => (wH ad ++ wB ad ++ wD ad ca vD ++ wC ad ca vC)) (wr := (wD ad ca vD)) Z [0, 1, 7, 8, 9, 10, 11] [2, 3, 4, 5, 6] [5, 6, 0, 1, 2, 3, 4, 7, 8, 9, 10, 11] (g_runV Z (c_Heap_needUsedBlock l D ad ca N vC p1 x3 h4) (cwV 1 Z.2.2.2.2.1 (gg_V ww192 ww193 ww194 ww2 ww195) rfl rfl rfl (yv_of rfl yd_Heap_needUsedBlock) ⟨Nat.le_of_ble_eq_true rfl, Nat.le_of_ble_eq_true rfl⟩) [0, 1, 7, 8, 9, 10, 11] rfl (by decide) 0 rfl rfl rfl rfl rfl (Nat.le_of_ble_eq_true rfl) dX4_give_6 ⟨(Nat.le_of_ble_eq_true rfl), (Nat.le_of_ble_eq_true rfl)⟩) rfl rfl (by decide) (by decide) (by decide) (fun _ => rfl) (fun u hu => ?_)
      refine g_aload_n (pc := 9) Z 0 dX4_give_9 rfl ?_
      refine g_get (pc := 10) (v := .ref (ad 12)) (T := TX4) (N := 4) Z 0 3 dX4_give_10 (mm ww181) inx_X4 rfl (by decide) rfl rfl rfl ?_
      refine g_iload_n (pc := 13) Z 1 dX4_give_13 rfl ?_
      refine g_iconst (pc := 14) (v := 1) Z dX4_give_14 (by decide) ?_
      refine g_isub (pc := 15) Z dX4_give_15 ?_
      obtain ⟨x5, h6, hf⟩ := Option.bind_eq_some_iff.mp hf
      refine g_calli (pc := 16) (ws2 := fun u => (wH ad ++ wB ad ++ wD ad ca vD ++ wC ad ca u)) (wr := (wH ad ++ wD ad ca vD)) Z [1, 7, 8, 9, 10, 11] [0, 2, 3, 4, 5, 6] [0, 6, 1, 2, 3, 4, 5, 7, 8, 9, 10, 11] (g_runV Z (c_Blk_giveBack l D ad ca N vC (p1 - (1 : Int32)) x5 h6) (cwV 1 Z.2.2.2.2.1 (gg_V ww196 ww197 ww198 ww116 ww199) rfl rfl rfl (yv_of rfl yd_Blk_giveBack) ⟨Nat.le_of_ble_eq_true rfl, Nat.le_of_ble_eq_true rfl⟩) [1, 7, 8, 9, 10, 11] rfl (by decide) 0 rfl rfl rfl rfl rfl (Nat.le_of_ble_eq_true rfl) dX4_give_16 ⟨Nat.le_of_ble_eq_true rfl, Nat.le_of_ble_eq_true rfl⟩) rfl rfl (by decide) (by decide) (by decide) (fun _ => rfl) (fun r u hu => ?_)
      obtain ⟨rfl, rfl⟩ := hu
      exact absurd (Option.some.inj hf) (fun h => by cases h)
theorem ww200 : Cond.methodLink RX4 176 yX0_sizeAt ∈ gA := wt2 108 rfl rfl
/-! RedoHeap.needBodyWord(II)V -/
def f_Heap_needBodyWord (N : Nat) (vC : CT) (p1 : Int32) (p2 : Int32) : Option (Except String (Unit)) :=
  gE (f_Heap_needUsedBlock N vC p1) fun x1 => if p2 < 0 then some (Except.error "java/lang/IllegalArgumentException") else (f_Blk_sizeAt vC (p1 - (1 : Int32))).bind fun x4 => if p2 < x4 then some (Except.ok ()) else some (Except.error "java/lang/IllegalArgumentException")
abbrev cd_Heap_needBodyWord : Cond := .code yX4_needBodyWord cX4_needBodyWord 3 none
theorem yd_Heap_needBodyWord : yX4_needBodyWord.cls ≠ "java/lang/invoke/MethodHandle" ∧ yX4_needBodyWord.cls ≠ "java/lang/invoke/VarHandle" ∧ (parseMethodDescriptor yX4_needBodyWord.desc).map (fun d => d.parameters.length) = some 2 := by decide +kernel
abbrev rm_Heap_needBodyWord : Room := { frames := 5, cells := 0, slots := 0, locals := 108 }
abbrev rx_Heap_needBodyWord : Room := { frames := 7, cells := 1, slots := 6, locals := 108 }
abbrev q_Heap_needBodyWord (D : va_G) (ad : Nat → Nat) (ca : Nat → ClassId) (vC : CT) (res : Unit) (A : Nat → Prop) : Array Value → State → Outcome → State → Prop := va_Qv (fun (_ : Unit) => True) (gB D cls (tys ca) A (fun (u : Unit) => (wH ad ++ wB ad ++ wC ad ca vC))) A
set_option maxHeartbeats 4000000 in
set_option maxRecDepth 100000 in
theorem c_Heap_needBodyWord (l : Launch) (D : va_G) (ad : Nat → Nat) (ca : Nat → ClassId) (N : Nat) (vC : CT) (p1 : Int32) (p2 : Int32) (res : Unit) (hf : f_Heap_needBodyWord N vC p1 p2 = some (.ok res)) (sz : Nat) : Met l yX4_needBodyWord (cd_Heap_needBodyWord :: gA) rm_Heap_needBodyWord (va_Pc [.ref (ad 0), .int p1, .int p2] (gP D cls (tys ca) (wH ad ++ wB ad ++ wC ad ca vC) sz)) (q_Heap_needBodyWord D ad ca vC res (va_A (wH ad ++ wB ad ++ wC ad ca vC) sz)) 0 0 (va_A (wH ad ++ wB ad ++ wC ad ca vC) sz) := by
  refine g_met (cc := cX4_needBodyWord) (Qc := q_Heap_needBodyWord D ad ca vC res) (lv := [(0, .ref (ad 0)), (1, .int p1), (2, .int p2)]) (own := RX4) (by decide) rfl rfl (Nat.le_of_ble_eq_true rfl) rfl sz ?_
  intro p e s m args below meth c A Z hr hnm
  unfold f_Heap_needBodyWord at hf
  refine g_aload_n (pc := 0) Z 0 dX4_needBodyWord_0 rfl ?_
  refine g_iload_n (pc := 1) Z 1 dX4_needBodyWord_1 rfl ?_
  obtain ⟨x1, h2, hf⟩ := gE_ok hf
  refine g_callv (pc := 2) (ws2 := fun u => (wH ad ++ wB ad ++ wC ad ca vC)) (wr := ([] : va_W)) Z [0, 1, 2, 3, 4, 5, 6] [] [0, 1, 2, 3, 4, 5, 6] (g_runV Z (c_Heap_needUsedBlock l D ad ca N vC p1 x1 h2) (cwV 1 Z.2.2.2.2.1 (gg_V ww192 ww193 ww194 ww2 ww195) rfl rfl rfl (yv_of rfl yd_Heap_needUsedBlock) ⟨Nat.le_of_ble_eq_true rfl, Nat.le_of_ble_eq_true rfl⟩) [0, 1, 2, 3, 4, 5, 6] rfl (by decide) 0 rfl rfl rfl rfl rfl (Nat.le_of_ble_eq_true rfl) dX4_needBodyWord_2 ⟨(Nat.le_of_ble_eq_true rfl), (Nat.le_of_ble_eq_true rfl)⟩) rfl rfl (by decide) (by decide) (by decide) (fun _ => rfl) (fun u hu => ?_)
  refine g_iload_n (pc := 5) Z 2 dX4_needBodyWord_5 rfl ?_
  refine g_if_lt (pc := 6) (tgt := 23) Z dX4_needBodyWord_6 (by decide) (fun c3 => ?_) (fun c3 => ?_)
  · replace hf := gIfP c3 hf
    exact absurd (Option.some.inj hf) (fun h => by cases h)
  · replace hf := gIfN c3 hf
    refine g_iload_n (pc := 9) Z 2 dX4_needBodyWord_9 rfl ?_
    refine g_aload_n (pc := 10) Z 0 dX4_needBodyWord_10 rfl ?_
    refine g_get (pc := 11) (v := .ref (ad 12)) (T := TX4) (N := 4) Z 0 3 dX4_needBodyWord_11 (mm ww181) inx_X4 rfl (by decide) rfl rfl rfl ?_
    refine g_iload_n (pc := 14) Z 1 dX4_needBodyWord_14 rfl ?_
    refine g_iconst (pc := 15) (v := 1) Z dX4_needBodyWord_15 (by decide) ?_
    refine g_isub (pc := 16) Z dX4_needBodyWord_16 ?_
    obtain ⟨x4, h5, hf⟩ := Option.bind_eq_some_iff.mp hf
    refine g_calli (pc := 17) (ws2 := fun u => (wH ad ++ wB ad ++ wC ad ca vC)) (wr := (wH ad)) Z [1, 2, 3, 4, 5, 6] [0] [0, 1, 2, 3, 4, 5, 6] (g_runV Z (c_Blk_sizeAt l D ad ca vC (p1 - (1 : Int32)) x4 h5) (cwV 1 Z.2.2.2.2.1 (gg_V ww200 ww119 ww120 ww116 ww121) rfl rfl rfl (yv_of rfl yd_Blk_sizeAt) ⟨Nat.le_of_ble_eq_true rfl, Nat.le_of_ble_eq_true rfl⟩) [1, 2, 3, 4, 5, 6] rfl (by decide) 0 rfl rfl rfl rfl rfl (Nat.le_of_ble_eq_true rfl) dX4_needBodyWord_17 ⟨Nat.le_of_ble_eq_true rfl, Nat.le_of_ble_eq_true rfl⟩) rfl rfl (by decide) (by decide) (by decide) (fun _ => rfl) (fun r u hu => ?_)
    obtain rfl := hu.symm
    refine g_icmp_lt (pc := 20) (tgt := 33) Z dX4_needBodyWord_20 (by decide) (fun c6 => ?_) (fun c6 => ?_)
    · replace hf := gIfP c6 hf
      obtain rfl := Except.ok.inj (Option.some.inj hf)
      exact g_vret Z hr dX4_needBodyWord_33 () trivial rfl
    · replace hf := gIfN c6 hf
      exact absurd (Option.some.inj hf) (fun h => by cases h)
set_option maxHeartbeats 4000000 in
set_option maxRecDepth 100000 in
theorem x_Heap_needBodyWord (l : Launch) (hl0 : l.stackTraces = false) (D : va_G) (ad : Nat → Nat) (ca : Nat → ClassId) (N : Nat) (vC : CT) (p1 : Int32) (p2 : Int32) (E : String) (hf : f_Heap_needBodyWord N vC p1 p2 = some (.error E)) (sz : Nat) : vx_Met l yX4_needBodyWord (cd_Heap_needBodyWord :: gA) rx_Heap_needBodyWord (va_Pc [.ref (ad 0), .int p1, .int p2] (gPX D cls (tys ca) (wH ad ++ wB ad ++ wC ad ca vC) sz RX4 strsH)) (gQE (va_A (wH ad ++ wB ad ++ wC ad ca vC) sz)) (gXC D cls (tys ca) (wH ad ++ wB ad ++ wC ad ca vC) (fun E9 => E9 = E) (va_A (wH ad ++ wB ad ++ wC ad ca vC) sz)) 1 6 (va_A (wH ad ++ wB ad ++ wC ad ca vC) sz) := by
  refine g_metX (cc := cX4_needBodyWord) (Qc := gQE) (pe := fun E9 => E9 = E) (lv := [(0, .ref (ad 0)), (1, .int p1), (2, .int p2)]) (own := RX4) (by decide) rfl rfl (Nat.le_of_ble_eq_true rfl) rfl sz ?_
  intro p e s m args below meth c A Z hr hnm hT htab
  unfold f_Heap_needBodyWord at hf
  refine g_aload_n (pc := 0) Z 0 dX4_needBodyWord_0 rfl ?_
  refine g_iload_n (pc := 1) Z 1 dX4_needBodyWord_1 rfl ?_
  rcases gE_er hf with h2 | ⟨x1, h2, hf⟩
  · refine g_callE (pc := 2) (wr := ([] : va_W)) Z [0, 1, 2, 3, 4, 5, 6] [] [0, 1, 2, 3, 4, 5, 6] (g_runXV Z hT (x_Heap_needUsedBlock l hl0 D ad ca N vC p1 E h2) (cwV 1 Z.2.2.2.2.1 (gg_V ww192 ww193 ww194 ww2 ww195) rfl rfl rfl (yv_of rfl yd_Heap_needUsedBlock) ⟨Nat.le_of_ble_eq_true rfl, Nat.le_of_ble_eq_true rfl⟩) [0, 1, 2, 3, 4, 5, 6] rfl (by decide) 0 rfl rfl rfl rfl rfl (Nat.le_of_ble_eq_true rfl) dX4_needBodyWord_2 ⟨(Nat.le_of_ble_eq_true rfl), (Nat.le_of_ble_eq_true rfl)⟩) rfl rfl (by decide) (by decide) (by decide) rfl ?_
    exact g_out Z htab rfl (Nat.le_of_ble_eq_true rfl) (Nat.le_of_ble_eq_true rfl)
  · refine g_callv (pc := 2) (ws2 := fun u => (wH ad ++ wB ad ++ wC ad ca vC)) (wr := ([] : va_W)) Z [0, 1, 2, 3, 4, 5, 6] [] [0, 1, 2, 3, 4, 5, 6] (g_runV Z (c_Heap_needUsedBlock l D ad ca N vC p1 x1 h2) (cwV 1 Z.2.2.2.2.1 (gg_V ww192 ww193 ww194 ww2 ww195) rfl rfl rfl (yv_of rfl yd_Heap_needUsedBlock) ⟨Nat.le_of_ble_eq_true rfl, Nat.le_of_ble_eq_true rfl⟩) [0, 1, 2, 3, 4, 5, 6] rfl (by decide) 0 rfl rfl rfl rfl rfl (Nat.le_of_ble_eq_true rfl) dX4_needBodyWord_2 ⟨(Nat.le_of_ble_eq_true rfl), (Nat.le_of_ble_eq_true rfl)⟩) rfl rfl (by decide) (by decide) (by decide) (fun _ => rfl) (fun u hu => ?_)
    refine g_iload_n (pc := 5) Z 2 dX4_needBodyWord_5 rfl ?_
    refine g_if_lt (pc := 6) (tgt := 23) Z dX4_needBodyWord_6 (by decide) (fun c3 => ?_) (fun c3 => ?_)
    · replace hf := gIfP c3 hf
      obtain rfl := Except.error.inj (Option.some.inj hf)
      exact g_throw (pc := 23) (cls := "java/lang/IllegalArgumentException") (text := "the block has no such word") (names := supX) (strs := strsH) (pe := fun E9 => E9 = "java/lang/IllegalArgumentException") Z hl0 hT htab dX4_needBodyWord_23 dX4_needBodyWord_26 dX4_needBodyWord_27 dX4_needBodyWord_29 dX4_needBodyWord_32 rfl supX_fit (by decide) (mm ww186) (mm ww187) (vx_hat (fun w h => Z.2.2.2.2.1 w (mm (at_69 w h))) ab_69 (gN.bad Z.2.2.2.2.2.2.2.2)) ag_69 (Nat.le_of_ble_eq_true rfl) (Nat.le_of_ble_eq_true rfl) (Nat.le_of_ble_eq_true rfl) (Nat.le_of_ble_eq_true rfl) rfl (Nat.le_of_ble_eq_true rfl) (Nat.le_of_ble_eq_true rfl)
    · replace hf := gIfN c3 hf
      refine g_iload_n (pc := 9) Z 2 dX4_needBodyWord_9 rfl ?_
      refine g_aload_n (pc := 10) Z 0 dX4_needBodyWord_10 rfl ?_
      refine g_get (pc := 11) (v := .ref (ad 12)) (T := TX4) (N := 4) Z 0 3 dX4_needBodyWord_11 (mm ww181) inx_X4 rfl (by decide) rfl rfl rfl ?_
      refine g_iload_n (pc := 14) Z 1 dX4_needBodyWord_14 rfl ?_
      refine g_iconst (pc := 15) (v := 1) Z dX4_needBodyWord_15 (by decide) ?_
      refine g_isub (pc := 16) Z dX4_needBodyWord_16 ?_
      obtain ⟨x4, h5, hf⟩ := Option.bind_eq_some_iff.mp hf
      refine g_calli (pc := 17) (ws2 := fun u => (wH ad ++ wB ad ++ wC ad ca vC)) (wr := (wH ad)) Z [1, 2, 3, 4, 5, 6] [0] [0, 1, 2, 3, 4, 5, 6] (g_runV Z (c_Blk_sizeAt l D ad ca vC (p1 - (1 : Int32)) x4 h5) (cwV 1 Z.2.2.2.2.1 (gg_V ww200 ww119 ww120 ww116 ww121) rfl rfl rfl (yv_of rfl yd_Blk_sizeAt) ⟨Nat.le_of_ble_eq_true rfl, Nat.le_of_ble_eq_true rfl⟩) [1, 2, 3, 4, 5, 6] rfl (by decide) 0 rfl rfl rfl rfl rfl (Nat.le_of_ble_eq_true rfl) dX4_needBodyWord_17 ⟨Nat.le_of_ble_eq_true rfl, Nat.le_of_ble_eq_true rfl⟩) rfl rfl (by decide) (by decide) (by decide) (fun _ => rfl) (fun r u hu => ?_)
      obtain rfl := hu.symm
      refine g_icmp_lt (pc := 20) (tgt := 33) Z dX4_needBodyWord_20 (by decide) (fun c6 => ?_) (fun c6 => ?_)
      · replace hf := gIfP c6 hf
        exact absurd (Option.some.inj hf) (fun h => by cases h)
      · replace hf := gIfN c6 hf
        obtain rfl := Except.error.inj (Option.some.inj hf)
        exact g_throw (pc := 23) (cls := "java/lang/IllegalArgumentException") (text := "the block has no such word") (names := supX) (strs := strsH) (pe := fun E9 => E9 = "java/lang/IllegalArgumentException") Z hl0 hT htab dX4_needBodyWord_23 dX4_needBodyWord_26 dX4_needBodyWord_27 dX4_needBodyWord_29 dX4_needBodyWord_32 rfl supX_fit (by decide) (mm ww186) (mm ww187) (vx_hat (fun w h => Z.2.2.2.2.1 w (mm (at_69 w h))) ab_69 (gN.bad Z.2.2.2.2.2.2.2.2)) ag_69 (Nat.le_of_ble_eq_true rfl) (Nat.le_of_ble_eq_true rfl) (Nat.le_of_ble_eq_true rfl) (Nat.le_of_ble_eq_true rfl) rfl (Nat.le_of_ble_eq_true rfl) (Nat.le_of_ble_eq_true rfl)
theorem ww201 : Cond.methodLink RX4 81 yX4_needBodyWord ∈ gA := wt2 104 rfl rfl
theorem ww202 : Cond.instanceMethod yX4_needBodyWord ∈ gA := wt2 106 rfl rfl
theorem ww203 : Cond.selects RX4 yX4_needBodyWord yX4_needBodyWord ∈ gA := wtS 9 rfl rfl
theorem ww204 : cd_Heap_needBodyWord ∈ gA := wt2 107 rfl rfl
theorem ww205 : Cond.methodLink RX4 85 yX1_change ∈ gA := wt2 110 rfl rfl
/-! RedoHeap.set(IIJ)Z -/
def f_Heap_set (N : Nat) (vD : DT) (vC : CT) (p1 : Int32) (p2 : Int32) (p3 : Int64) : Option (Except String (Bool × CT)) :=
  gE (f_Heap_needTransaction vD vC) fun x1 => gE (f_Heap_needBodyWord N vC p1 p2) fun x3 => (f_Chg_change N vC (p1 + p2) p3).bind fun x5 => some (Except.ok (x5.1, x5.2))
abbrev cd_Heap_set : Cond := .code yX4_set cX4_set 5 (some .boolean)
theorem yd_Heap_set : yX4_set.cls ≠ "java/lang/invoke/MethodHandle" ∧ yX4_set.cls ≠ "java/lang/invoke/VarHandle" ∧ (parseMethodDescriptor yX4_set.desc).map (fun d => d.parameters.length) = some 3 := by decide +kernel
abbrev rm_Heap_set : Room := { frames := 6, cells := 0, slots := 0, locals := 130 }
abbrev rx_Heap_set : Room := { frames := 8, cells := 1, slots := 6, locals := 130 }
abbrev q_Heap_set (D : va_G) (ad : Nat → Nat) (ca : Nat → ClassId) (vD : DT) (res : Bool × CT) (A : Nat → Prop) : Array Value → State → Outcome → State → Prop := va_Qi (fun (r : Int32) (u : CT) => r = bI res.1 ∧ u = res.2) (gB D cls (tys ca) A (fun (u : CT) => (wH ad ++ wB ad ++ wD ad ca vD ++ wC ad ca u))) A
set_option maxHeartbeats 4000000 in
set_option maxRecDepth 100000 in
theorem c_Heap_set (l : Launch) (D : va_G) (ad : Nat → Nat) (ca : Nat → ClassId) (N : Nat) (vD : DT) (vC : CT) (p1 : Int32) (p2 : Int32) (p3 : Int64) (res : Bool × CT) (hf : f_Heap_set N vD vC p1 p2 p3 = some (.ok res)) (sz : Nat) : Met l yX4_set (cd_Heap_set :: gA) rm_Heap_set (va_Pc [.ref (ad 0), .int p1, .int p2, .long p3] (gP D cls (tys ca) (wH ad ++ wB ad ++ wD ad ca vD ++ wC ad ca vC) sz)) (q_Heap_set D ad ca vD res (va_A (wH ad ++ wB ad ++ wD ad ca vD ++ wC ad ca vC) sz)) 0 0 (va_A (wH ad ++ wB ad ++ wD ad ca vD ++ wC ad ca vC) sz) := by
  refine g_met (cc := cX4_set) (Qc := q_Heap_set D ad ca vD res) (lv := [(0, .ref (ad 0)), (1, .int p1), (2, .int p2), (3, .long p3)]) (own := RX4) (by decide) rfl rfl (Nat.le_of_ble_eq_true rfl) rfl sz ?_
  intro p e s m args below meth c A Z hr hnm
  unfold f_Heap_set at hf
  refine g_aload_n (pc := 0) Z 0 dX4_set_0 rfl ?_
  obtain ⟨x1, h2, hf⟩ := gE_ok hf
  refine g_callv (pc := 1) (ws2 := fun u => (wH ad ++ wB ad ++ wD ad ca vD ++ wC ad ca vC)) (wr := (wB ad)) Z [0, 2, 3, 4, 5, 6, 7, 8, 9, 10, 11] [1] [1, 0, 2, 3, 4, 5, 6, 7, 8, 9, 10, 11] (g_runV Z (c_Heap_needTransaction l D ad ca vD vC x1 h2) (cwV 0 Z.2.2.2.2.1 (gg_V ww177 ww178 ww179 ww2 ww180) rfl rfl rfl (yv_of rfl yd_Heap_needTransaction) ⟨Nat.le_of_ble_eq_true rfl, Nat.le_of_ble_eq_true rfl⟩) [0, 2, 3, 4, 5, 6, 7, 8, 9, 10, 11] rfl (by decide) 0 rfl rfl rfl rfl rfl (Nat.le_of_ble_eq_true rfl) dX4_set_1 ⟨(Nat.le_of_ble_eq_true rfl), (Nat.le_of_ble_eq_true rfl)⟩) rfl rfl (by decide) (by decide) (by decide) (fun _ => rfl) (fun u hu => ?_)
  refine g_aload_n (pc := 4) Z 0 dX4_set_4 rfl ?_
  refine g_iload_n (pc := 5) Z 1 dX4_set_5 rfl ?_
  refine g_iload_n (pc := 6) Z 2 dX4_set_6 rfl ?_
  obtain ⟨x3, h4, hf⟩ := gE_ok hf
  refine g_callv (pc := 7) (ws2 := fun u => (wH ad ++ wB ad ++ wD ad ca vD ++ wC ad ca vC)) (wr := (wD ad ca vD)) Z [0, 1, 7, 8, 9, 10, 11] [2, 3, 4, 5, 6] [5, 6, 0, 1, 2, 3, 4, 7, 8, 9, 10, 11] (g_runV Z (c_Heap_needBodyWord l D ad ca N vC p1 p2 x3 h4) (cwV 2 Z.2.2.2.2.1 (gg_V ww201 ww202 ww203 ww2 ww204) rfl rfl rfl (yv_of rfl yd_Heap_needBodyWord) ⟨Nat.le_of_ble_eq_true rfl, Nat.le_of_ble_eq_true rfl⟩) [0, 1, 7, 8, 9, 10, 11] rfl (by decide) 0 rfl rfl rfl rfl rfl (Nat.le_of_ble_eq_true rfl) dX4_set_7 ⟨(Nat.le_of_ble_eq_true rfl), (Nat.le_of_ble_eq_true rfl)⟩) rfl rfl (by decide) (by decide) (by decide) (fun _ => rfl) (fun u hu => ?_)
  refine g_aload_n (pc := 10) Z 0 dX4_set_10 rfl ?_
  refine g_get (pc := 11) (v := .ref (ad 7)) (T := TX4) (N := 4) Z 0 2 dX4_set_11 (mm ww164) inx_X4 rfl (by decide) rfl rfl rfl ?_
  refine g_iload_n (pc := 14) Z 1 dX4_set_14 rfl ?_
  refine g_iload_n (pc := 15) Z 2 dX4_set_15 rfl ?_
  refine g_iadd (pc := 16) Z dX4_set_16 ?_
  refine g_lload_n (pc := 17) Z 3 dX4_set_17 rfl ?_
  obtain ⟨x5, h6, hf⟩ := Option.bind_eq_some_iff.mp hf
  refine g_calli (pc := 18) (ws2 := fun u => (wH ad ++ wB ad ++ wD ad ca vD ++ wC ad ca u)) (wr := (wH ad ++ wB ad ++ wD ad ca vD)) Z [7, 8, 9, 10, 11] [0, 1, 2, 3, 4, 5, 6] [0, 1, 2, 3, 4, 5, 6, 7, 8, 9, 10, 11] (g_runV Z (c_Chg_change l D ad ca N vC (p1 + p2) p3 x5 h6) (cwV 2 Z.2.2.2.2.1 (gg_V ww205 ww130 ww131 ww40 ww132) rfl rfl rfl (yv_of rfl yd_Chg_change) ⟨Nat.le_of_ble_eq_true rfl, Nat.le_of_ble_eq_true rfl⟩) [7, 8, 9, 10, 11] rfl (by decide) 0 rfl rfl rfl rfl rfl (Nat.le_of_ble_eq_true rfl) dX4_set_18 ⟨Nat.le_of_ble_eq_true rfl, Nat.le_of_ble_eq_true rfl⟩) rfl rfl (by decide) (by decide) (by decide) (fun _ => rfl) (fun r u hu => ?_)
  obtain ⟨rfl, rfl⟩ := hu
  obtain rfl := Except.ok.inj (Option.some.inj hf)
  exact g_zret Z hr (bI_nar x5.1) dX4_set_21 x5.2 ⟨rfl, rfl⟩ rfl
set_option maxHeartbeats 4000000 in
set_option maxRecDepth 100000 in
theorem x_Heap_set (l : Launch) (hl0 : l.stackTraces = false) (D : va_G) (ad : Nat → Nat) (ca : Nat → ClassId) (N : Nat) (vD : DT) (vC : CT) (p1 : Int32) (p2 : Int32) (p3 : Int64) (E : String) (hf : f_Heap_set N vD vC p1 p2 p3 = some (.error E)) (sz : Nat) : vx_Met l yX4_set (cd_Heap_set :: gA) rx_Heap_set (va_Pc [.ref (ad 0), .int p1, .int p2, .long p3] (gPX D cls (tys ca) (wH ad ++ wB ad ++ wD ad ca vD ++ wC ad ca vC) sz RX4 strsH)) (gQE (va_A (wH ad ++ wB ad ++ wD ad ca vD ++ wC ad ca vC) sz)) (gXC D cls (tys ca) (wH ad ++ wB ad ++ wD ad ca vD ++ wC ad ca vC) (fun E9 => E9 = E) (va_A (wH ad ++ wB ad ++ wD ad ca vD ++ wC ad ca vC) sz)) 1 6 (va_A (wH ad ++ wB ad ++ wD ad ca vD ++ wC ad ca vC) sz) := by
  refine g_metX (cc := cX4_set) (Qc := gQE) (pe := fun E9 => E9 = E) (lv := [(0, .ref (ad 0)), (1, .int p1), (2, .int p2), (3, .long p3)]) (own := RX4) (by decide) rfl rfl (Nat.le_of_ble_eq_true rfl) rfl sz ?_
  intro p e s m args below meth c A Z hr hnm hT htab
  unfold f_Heap_set at hf
  refine g_aload_n (pc := 0) Z 0 dX4_set_0 rfl ?_
  rcases gE_er hf with h2 | ⟨x1, h2, hf⟩
  · refine g_callE (pc := 1) (wr := (wB ad)) Z [0, 2, 3, 4, 5, 6, 7, 8, 9, 10, 11] [1] [1, 0, 2, 3, 4, 5, 6, 7, 8, 9, 10, 11] (g_runXV Z hT (x_Heap_needTransaction l hl0 D ad ca vD vC E h2) (cwV 0 Z.2.2.2.2.1 (gg_V ww177 ww178 ww179 ww2 ww180) rfl rfl rfl (yv_of rfl yd_Heap_needTransaction) ⟨Nat.le_of_ble_eq_true rfl, Nat.le_of_ble_eq_true rfl⟩) [0, 2, 3, 4, 5, 6, 7, 8, 9, 10, 11] rfl (by decide) 0 rfl rfl rfl rfl rfl (Nat.le_of_ble_eq_true rfl) dX4_set_1 ⟨(Nat.le_of_ble_eq_true rfl), (Nat.le_of_ble_eq_true rfl)⟩) rfl rfl (by decide) (by decide) (by decide) rfl ?_
    exact g_out Z htab rfl (Nat.le_of_ble_eq_true rfl) (Nat.le_of_ble_eq_true rfl)
  · refine g_callv (pc := 1) (ws2 := fun u => (wH ad ++ wB ad ++ wD ad ca vD ++ wC ad ca vC)) (wr := (wB ad)) Z [0, 2, 3, 4, 5, 6, 7, 8, 9, 10, 11] [1] [1, 0, 2, 3, 4, 5, 6, 7, 8, 9, 10, 11] (g_runV Z (c_Heap_needTransaction l D ad ca vD vC x1 h2) (cwV 0 Z.2.2.2.2.1 (gg_V ww177 ww178 ww179 ww2 ww180) rfl rfl rfl (yv_of rfl yd_Heap_needTransaction) ⟨Nat.le_of_ble_eq_true rfl, Nat.le_of_ble_eq_true rfl⟩) [0, 2, 3, 4, 5, 6, 7, 8, 9, 10, 11] rfl (by decide) 0 rfl rfl rfl rfl rfl (Nat.le_of_ble_eq_true rfl) dX4_set_1 ⟨(Nat.le_of_ble_eq_true rfl), (Nat.le_of_ble_eq_true rfl)⟩) rfl rfl (by decide) (by decide) (by decide) (fun _ => rfl) (fun u hu => ?_)
    refine g_aload_n (pc := 4) Z 0 dX4_set_4 rfl ?_
    refine g_iload_n (pc := 5) Z 1 dX4_set_5 rfl ?_
    refine g_iload_n (pc := 6) Z 2 dX4_set_6 rfl ?_
    rcases gE_er hf with h4 | ⟨x3, h4, hf⟩
    · refine g_callE (pc := 7) (wr := (wD ad ca vD)) Z [0, 1, 7, 8, 9, 10, 11] [2, 3, 4, 5, 6] [5, 6, 0, 1, 2, 3, 4, 7, 8, 9, 10, 11] (g_runXV Z hT (x_Heap_needBodyWord l hl0 D ad ca N vC p1 p2 E h4) (cwV 2 Z.2.2.2.2.1 (gg_V ww201 ww202 ww203 ww2 ww204) rfl rfl rfl (yv_of rfl yd_Heap_needBodyWord) ⟨Nat.le_of_ble_eq_true rfl, Nat.le_of_ble_eq_true rfl⟩) [0, 1, 7, 8, 9, 10, 11] rfl (by decide) 0 rfl rfl rfl rfl rfl (Nat.le_of_ble_eq_true rfl) dX4_set_7 ⟨(Nat.le_of_ble_eq_true rfl), (Nat.le_of_ble_eq_true rfl)⟩) rfl rfl (by decide) (by decide) (by decide) rfl ?_
      exact g_out Z htab rfl (Nat.le_of_ble_eq_true rfl) (Nat.le_of_ble_eq_true rfl)
    · refine g_callv (pc := 7) (ws2 := fun u => (wH ad ++ wB ad ++ wD ad ca vD ++ wC ad ca vC)) (wr := (wD ad ca vD)) Z [0, 1, 7, 8, 9, 10, 11] [2, 3, 4, 5, 6] [5, 6, 0, 1, 2, 3, 4, 7, 8, 9, 10, 11] (g_runV Z (c_Heap_needBodyWord l D ad ca N vC p1 p2 x3 h4) (cwV 2 Z.2.2.2.2.1 (gg_V ww201 ww202 ww203 ww2 ww204) rfl rfl rfl (yv_of rfl yd_Heap_needBodyWord) ⟨Nat.le_of_ble_eq_true rfl, Nat.le_of_ble_eq_true rfl⟩) [0, 1, 7, 8, 9, 10, 11] rfl (by decide) 0 rfl rfl rfl rfl rfl (Nat.le_of_ble_eq_true rfl) dX4_set_7 ⟨(Nat.le_of_ble_eq_true rfl), (Nat.le_of_ble_eq_true rfl)⟩) rfl rfl (by decide) (by decide) (by decide) (fun _ => rfl) (fun u hu => ?_)
      refine g_aload_n (pc := 10) Z 0 dX4_set_10 rfl ?_
      refine g_get (pc := 11) (v := .ref (ad 7)) (T := TX4) (N := 4) Z 0 2 dX4_set_11 (mm ww164) inx_X4 rfl (by decide) rfl rfl rfl ?_
      refine g_iload_n (pc := 14) Z 1 dX4_set_14 rfl ?_
      refine g_iload_n (pc := 15) Z 2 dX4_set_15 rfl ?_
      refine g_iadd (pc := 16) Z dX4_set_16 ?_
      refine g_lload_n (pc := 17) Z 3 dX4_set_17 rfl ?_
      obtain ⟨x5, h6, hf⟩ := Option.bind_eq_some_iff.mp hf
      refine g_calli (pc := 18) (ws2 := fun u => (wH ad ++ wB ad ++ wD ad ca vD ++ wC ad ca u)) (wr := (wH ad ++ wB ad ++ wD ad ca vD)) Z [7, 8, 9, 10, 11] [0, 1, 2, 3, 4, 5, 6] [0, 1, 2, 3, 4, 5, 6, 7, 8, 9, 10, 11] (g_runV Z (c_Chg_change l D ad ca N vC (p1 + p2) p3 x5 h6) (cwV 2 Z.2.2.2.2.1 (gg_V ww205 ww130 ww131 ww40 ww132) rfl rfl rfl (yv_of rfl yd_Chg_change) ⟨Nat.le_of_ble_eq_true rfl, Nat.le_of_ble_eq_true rfl⟩) [7, 8, 9, 10, 11] rfl (by decide) 0 rfl rfl rfl rfl rfl (Nat.le_of_ble_eq_true rfl) dX4_set_18 ⟨Nat.le_of_ble_eq_true rfl, Nat.le_of_ble_eq_true rfl⟩) rfl rfl (by decide) (by decide) (by decide) (fun _ => rfl) (fun r u hu => ?_)
      obtain ⟨rfl, rfl⟩ := hu
      exact absurd (Option.some.inj hf) (fun h => by cases h)
theorem ww206 : Cond.methodLink RX4 89 yX1_read ∈ gA := wt2 118 rfl rfl
/-! RedoHeap.get(II)J -/
def f_Heap_get (N : Nat) (vD : DT) (vC : CT) (p1 : Int32) (p2 : Int32) : Option (Except String (Int64)) :=
  gE (f_Heap_needPower vD) fun x1 => gE (f_Heap_needBodyWord N vC p1 p2) fun x3 => (f_Chg_read vC (p1 + p2)).bind fun x5 => some (Except.ok x5)
abbrev cd_Heap_get : Cond := .code yX4_get cX4_get 3 (some .long)
theorem yd_Heap_get : yX4_get.cls ≠ "java/lang/invoke/MethodHandle" ∧ yX4_get.cls ≠ "java/lang/invoke/VarHandle" ∧ (parseMethodDescriptor yX4_get.desc).map (fun d => d.parameters.length) = some 2 := by decide +kernel
abbrev rm_Heap_get : Room := { frames := 6, cells := 0, slots := 0, locals := 130 }
abbrev rx_Heap_get : Room := { frames := 8, cells := 1, slots := 6, locals := 130 }
abbrev q_Heap_get (D : va_G) (ad : Nat → Nat) (ca : Nat → ClassId) (vD : DT) (vC : CT) (res : Int64) (A : Nat → Prop) : Array Value → State → Outcome → State → Prop := va_Ql (fun (r : Int64) (_ : Unit) => r = res) (gB D cls (tys ca) A (fun (u : Unit) => (wH ad ++ wB ad ++ wD ad ca vD ++ wC ad ca vC))) A
set_option maxHeartbeats 4000000 in
set_option maxRecDepth 100000 in
theorem c_Heap_get (l : Launch) (D : va_G) (ad : Nat → Nat) (ca : Nat → ClassId) (N : Nat) (vD : DT) (vC : CT) (p1 : Int32) (p2 : Int32) (res : Int64) (hf : f_Heap_get N vD vC p1 p2 = some (.ok res)) (sz : Nat) : Met l yX4_get (cd_Heap_get :: gA) rm_Heap_get (va_Pc [.ref (ad 0), .int p1, .int p2] (gP D cls (tys ca) (wH ad ++ wB ad ++ wD ad ca vD ++ wC ad ca vC) sz)) (q_Heap_get D ad ca vD vC res (va_A (wH ad ++ wB ad ++ wD ad ca vD ++ wC ad ca vC) sz)) 0 0 (va_A (wH ad ++ wB ad ++ wD ad ca vD ++ wC ad ca vC) sz) := by
  refine g_met (cc := cX4_get) (Qc := q_Heap_get D ad ca vD vC res) (lv := [(0, .ref (ad 0)), (1, .int p1), (2, .int p2)]) (own := RX4) (by decide) rfl rfl (Nat.le_of_ble_eq_true rfl) rfl sz ?_
  intro p e s m args below meth c A Z hr hnm
  unfold f_Heap_get at hf
  refine g_aload_n (pc := 0) Z 0 dX4_get_0 rfl ?_
  obtain ⟨x1, h2, hf⟩ := gE_ok hf
  refine g_callv (pc := 1) (ws2 := fun u => (wH ad ++ wB ad ++ wD ad ca vD ++ wC ad ca vC)) (wr := (wB ad ++ wC ad ca vC)) Z [0, 2, 3, 4, 5, 6] [1, 7, 8, 9, 10, 11] [6, 0, 7, 8, 9, 10, 11, 1, 2, 3, 4, 5] (g_runV Z (c_Heap_needPower l D ad ca vD x1 h2) (cwV 0 Z.2.2.2.2.1 (gg_V ww160 ww161 ww162 ww2 ww163) rfl rfl rfl (yv_of rfl yd_Heap_needPower) ⟨Nat.le_of_ble_eq_true rfl, Nat.le_of_ble_eq_true rfl⟩) [0, 2, 3, 4, 5, 6] rfl (by decide) 0 rfl rfl rfl rfl rfl (Nat.le_of_ble_eq_true rfl) dX4_get_1 ⟨(Nat.le_of_ble_eq_true rfl), (Nat.le_of_ble_eq_true rfl)⟩) rfl rfl (by decide) (by decide) (by decide) (fun _ => rfl) (fun u hu => ?_)
  refine g_aload_n (pc := 4) Z 0 dX4_get_4 rfl ?_
  refine g_iload_n (pc := 5) Z 1 dX4_get_5 rfl ?_
  refine g_iload_n (pc := 6) Z 2 dX4_get_6 rfl ?_
  obtain ⟨x3, h4, hf⟩ := gE_ok hf
  refine g_callv (pc := 7) (ws2 := fun u => (wH ad ++ wB ad ++ wD ad ca vD ++ wC ad ca vC)) (wr := (wD ad ca vD)) Z [0, 1, 7, 8, 9, 10, 11] [2, 3, 4, 5, 6] [5, 6, 0, 1, 2, 3, 4, 7, 8, 9, 10, 11] (g_runV Z (c_Heap_needBodyWord l D ad ca N vC p1 p2 x3 h4) (cwV 2 Z.2.2.2.2.1 (gg_V ww201 ww202 ww203 ww2 ww204) rfl rfl rfl (yv_of rfl yd_Heap_needBodyWord) ⟨Nat.le_of_ble_eq_true rfl, Nat.le_of_ble_eq_true rfl⟩) [0, 1, 7, 8, 9, 10, 11] rfl (by decide) 0 rfl rfl rfl rfl rfl (Nat.le_of_ble_eq_true rfl) dX4_get_7 ⟨(Nat.le_of_ble_eq_true rfl), (Nat.le_of_ble_eq_true rfl)⟩) rfl rfl (by decide) (by decide) (by decide) (fun _ => rfl) (fun u hu => ?_)
  refine g_aload_n (pc := 10) Z 0 dX4_get_10 rfl ?_
  refine g_get (pc := 11) (v := .ref (ad 7)) (T := TX4) (N := 4) Z 0 2 dX4_get_11 (mm ww164) inx_X4 rfl (by decide) rfl rfl rfl ?_
  refine g_iload_n (pc := 14) Z 1 dX4_get_14 rfl ?_
  refine g_iload_n (pc := 15) Z 2 dX4_get_15 rfl ?_
  refine g_iadd (pc := 16) Z dX4_get_16 ?_
  obtain ⟨x5, h6, hf⟩ := Option.bind_eq_some_iff.mp hf
  refine g_calll (pc := 17) (ws2 := fun u => (wH ad ++ wB ad ++ wD ad ca vD ++ wC ad ca vC)) (wr := (wH ad ++ wB ad ++ wD ad ca vD)) Z [7, 8, 9, 10, 11] [0, 1, 2, 3, 4, 5, 6] [0, 1, 2, 3, 4, 5, 6, 7, 8, 9, 10, 11] (g_runV Z (c_Chg_read l D ad ca vC (p1 + p2) x5 h6) (cwV 1 Z.2.2.2.2.1 (gg_V ww206 ww98 ww99 ww40 ww100) rfl rfl rfl (yv_of rfl yd_Chg_read) ⟨Nat.le_of_ble_eq_true rfl, Nat.le_of_ble_eq_true rfl⟩) [7, 8, 9, 10, 11] rfl (by decide) 0 rfl rfl rfl rfl rfl (Nat.le_of_ble_eq_true rfl) dX4_get_17 ⟨Nat.le_of_ble_eq_true rfl, Nat.le_of_ble_eq_true rfl⟩) rfl rfl (by decide) (by decide) (by decide) (fun _ => rfl) (fun r u hu => ?_)
  obtain rfl := hu.symm
  obtain rfl := Except.ok.inj (Option.some.inj hf)
  exact g_lret Z hr dX4_get_20 () rfl rfl
set_option maxHeartbeats 4000000 in
set_option maxRecDepth 100000 in
theorem x_Heap_get (l : Launch) (hl0 : l.stackTraces = false) (D : va_G) (ad : Nat → Nat) (ca : Nat → ClassId) (N : Nat) (vD : DT) (vC : CT) (p1 : Int32) (p2 : Int32) (E : String) (hf : f_Heap_get N vD vC p1 p2 = some (.error E)) (sz : Nat) : vx_Met l yX4_get (cd_Heap_get :: gA) rx_Heap_get (va_Pc [.ref (ad 0), .int p1, .int p2] (gPX D cls (tys ca) (wH ad ++ wB ad ++ wD ad ca vD ++ wC ad ca vC) sz RX4 strsH)) (gQE (va_A (wH ad ++ wB ad ++ wD ad ca vD ++ wC ad ca vC) sz)) (gXC D cls (tys ca) (wH ad ++ wB ad ++ wD ad ca vD ++ wC ad ca vC) (fun E9 => E9 = E) (va_A (wH ad ++ wB ad ++ wD ad ca vD ++ wC ad ca vC) sz)) 1 6 (va_A (wH ad ++ wB ad ++ wD ad ca vD ++ wC ad ca vC) sz) := by
  refine g_metX (cc := cX4_get) (Qc := gQE) (pe := fun E9 => E9 = E) (lv := [(0, .ref (ad 0)), (1, .int p1), (2, .int p2)]) (own := RX4) (by decide) rfl rfl (Nat.le_of_ble_eq_true rfl) rfl sz ?_
  intro p e s m args below meth c A Z hr hnm hT htab
  unfold f_Heap_get at hf
  refine g_aload_n (pc := 0) Z 0 dX4_get_0 rfl ?_
  rcases gE_er hf with h2 | ⟨x1, h2, hf⟩
  · refine g_callE (pc := 1) (wr := (wB ad ++ wC ad ca vC)) Z [0, 2, 3, 4, 5, 6] [1, 7, 8, 9, 10, 11] [6, 0, 7, 8, 9, 10, 11, 1, 2, 3, 4, 5] (g_runXV Z hT (x_Heap_needPower l hl0 D ad ca vD E h2) (cwV 0 Z.2.2.2.2.1 (gg_V ww160 ww161 ww162 ww2 ww163) rfl rfl rfl (yv_of rfl yd_Heap_needPower) ⟨Nat.le_of_ble_eq_true rfl, Nat.le_of_ble_eq_true rfl⟩) [0, 2, 3, 4, 5, 6] rfl (by decide) 0 rfl rfl rfl rfl rfl (Nat.le_of_ble_eq_true rfl) dX4_get_1 ⟨(Nat.le_of_ble_eq_true rfl), (Nat.le_of_ble_eq_true rfl)⟩) rfl rfl (by decide) (by decide) (by decide) rfl ?_
    exact g_out Z htab rfl (Nat.le_of_ble_eq_true rfl) (Nat.le_of_ble_eq_true rfl)
  · refine g_callv (pc := 1) (ws2 := fun u => (wH ad ++ wB ad ++ wD ad ca vD ++ wC ad ca vC)) (wr := (wB ad ++ wC ad ca vC)) Z [0, 2, 3, 4, 5, 6] [1, 7, 8, 9, 10, 11] [6, 0, 7, 8, 9, 10, 11, 1, 2, 3, 4, 5] (g_runV Z (c_Heap_needPower l D ad ca vD x1 h2) (cwV 0 Z.2.2.2.2.1 (gg_V ww160 ww161 ww162 ww2 ww163) rfl rfl rfl (yv_of rfl yd_Heap_needPower) ⟨Nat.le_of_ble_eq_true rfl, Nat.le_of_ble_eq_true rfl⟩) [0, 2, 3, 4, 5, 6] rfl (by decide) 0 rfl rfl rfl rfl rfl (Nat.le_of_ble_eq_true rfl) dX4_get_1 ⟨(Nat.le_of_ble_eq_true rfl), (Nat.le_of_ble_eq_true rfl)⟩) rfl rfl (by decide) (by decide) (by decide) (fun _ => rfl) (fun u hu => ?_)
    refine g_aload_n (pc := 4) Z 0 dX4_get_4 rfl ?_
    refine g_iload_n (pc := 5) Z 1 dX4_get_5 rfl ?_
    refine g_iload_n (pc := 6) Z 2 dX4_get_6 rfl ?_
    rcases gE_er hf with h4 | ⟨x3, h4, hf⟩
    · refine g_callE (pc := 7) (wr := (wD ad ca vD)) Z [0, 1, 7, 8, 9, 10, 11] [2, 3, 4, 5, 6] [5, 6, 0, 1, 2, 3, 4, 7, 8, 9, 10, 11] (g_runXV Z hT (x_Heap_needBodyWord l hl0 D ad ca N vC p1 p2 E h4) (cwV 2 Z.2.2.2.2.1 (gg_V ww201 ww202 ww203 ww2 ww204) rfl rfl rfl (yv_of rfl yd_Heap_needBodyWord) ⟨Nat.le_of_ble_eq_true rfl, Nat.le_of_ble_eq_true rfl⟩) [0, 1, 7, 8, 9, 10, 11] rfl (by decide) 0 rfl rfl rfl rfl rfl (Nat.le_of_ble_eq_true rfl) dX4_get_7 ⟨(Nat.le_of_ble_eq_true rfl), (Nat.le_of_ble_eq_true rfl)⟩) rfl rfl (by decide) (by decide) (by decide) rfl ?_
      exact g_out Z htab rfl (Nat.le_of_ble_eq_true rfl) (Nat.le_of_ble_eq_true rfl)
    · refine g_callv (pc := 7) (ws2 := fun u => (wH ad ++ wB ad ++ wD ad ca vD ++ wC ad ca vC)) (wr := (wD ad ca vD)) Z [0, 1, 7, 8, 9, 10, 11] [2, 3, 4, 5, 6] [5, 6, 0, 1, 2, 3, 4, 7, 8, 9, 10, 11] (g_runV Z (c_Heap_needBodyWord l D ad ca N vC p1 p2 x3 h4) (cwV 2 Z.2.2.2.2.1 (gg_V ww201 ww202 ww203 ww2 ww204) rfl rfl rfl (yv_of rfl yd_Heap_needBodyWord) ⟨Nat.le_of_ble_eq_true rfl, Nat.le_of_ble_eq_true rfl⟩) [0, 1, 7, 8, 9, 10, 11] rfl (by decide) 0 rfl rfl rfl rfl rfl (Nat.le_of_ble_eq_true rfl) dX4_get_7 ⟨(Nat.le_of_ble_eq_true rfl), (Nat.le_of_ble_eq_true rfl)⟩) rfl rfl (by decide) (by decide) (by decide) (fun _ => rfl) (fun u hu => ?_)
      refine g_aload_n (pc := 10) Z 0 dX4_get_10 rfl ?_
      refine g_get (pc := 11) (v := .ref (ad 7)) (T := TX4) (N := 4) Z 0 2 dX4_get_11 (mm ww164) inx_X4 rfl (by decide) rfl rfl rfl ?_
      refine g_iload_n (pc := 14) Z 1 dX4_get_14 rfl ?_
      refine g_iload_n (pc := 15) Z 2 dX4_get_15 rfl ?_
      refine g_iadd (pc := 16) Z dX4_get_16 ?_
      obtain ⟨x5, h6, hf⟩ := Option.bind_eq_some_iff.mp hf
      refine g_calll (pc := 17) (ws2 := fun u => (wH ad ++ wB ad ++ wD ad ca vD ++ wC ad ca vC)) (wr := (wH ad ++ wB ad ++ wD ad ca vD)) Z [7, 8, 9, 10, 11] [0, 1, 2, 3, 4, 5, 6] [0, 1, 2, 3, 4, 5, 6, 7, 8, 9, 10, 11] (g_runV Z (c_Chg_read l D ad ca vC (p1 + p2) x5 h6) (cwV 1 Z.2.2.2.2.1 (gg_V ww206 ww98 ww99 ww40 ww100) rfl rfl rfl (yv_of rfl yd_Chg_read) ⟨Nat.le_of_ble_eq_true rfl, Nat.le_of_ble_eq_true rfl⟩) [7, 8, 9, 10, 11] rfl (by decide) 0 rfl rfl rfl rfl rfl (Nat.le_of_ble_eq_true rfl) dX4_get_17 ⟨Nat.le_of_ble_eq_true rfl, Nat.le_of_ble_eq_true rfl⟩) rfl rfl (by decide) (by decide) (by decide) (fun _ => rfl) (fun r u hu => ?_)
      obtain rfl := hu.symm
      exact absurd (Option.some.inj hf) (fun h => by cases h)
/-! RedoHeap.setRoot(I)Z -/
def f_Heap_setRoot (N : Nat) (vD : DT) (vC : CT) (p1 : Int32) : Option (Except String (Bool × CT)) :=
  gE (f_Heap_needTransaction vD vC) fun x1 => if p1 = 0 then (f_Chg_change N vC (1 : Int32) p1.toInt64).bind fun x4 => some (Except.ok (x4.1, x4.2)) else gE (f_Heap_needUsedBlock N vC p1) fun x6 => (f_Chg_change N vC (1 : Int32) p1.toInt64).bind fun x8 => some (Except.ok (x8.1, x8.2))
abbrev cd_Heap_setRoot : Cond := .code yX4_setRoot cX4_setRoot 2 (some .boolean)
theorem yd_Heap_setRoot : yX4_setRoot.cls ≠ "java/lang/invoke/MethodHandle" ∧ yX4_setRoot.cls ≠ "java/lang/invoke/VarHandle" ∧ (parseMethodDescriptor yX4_setRoot.desc).map (fun d => d.parameters.length) = some 1 := by decide +kernel
abbrev rm_Heap_setRoot : Room := { frames := 5, cells := 0, slots := 0, locals := 108 }
abbrev rx_Heap_setRoot : Room := { frames := 8, cells := 1, slots := 6, locals := 122 }
abbrev q_Heap_setRoot (D : va_G) (ad : Nat → Nat) (ca : Nat → ClassId) (vD : DT) (res : Bool × CT) (A : Nat → Prop) : Array Value → State → Outcome → State → Prop := va_Qi (fun (r : Int32) (u : CT) => r = bI res.1 ∧ u = res.2) (gB D cls (tys ca) A (fun (u : CT) => (wH ad ++ wB ad ++ wD ad ca vD ++ wC ad ca u))) A
set_option maxHeartbeats 4000000 in
set_option maxRecDepth 100000 in
theorem c_Heap_setRoot (l : Launch) (D : va_G) (ad : Nat → Nat) (ca : Nat → ClassId) (N : Nat) (vD : DT) (vC : CT) (p1 : Int32) (res : Bool × CT) (hf : f_Heap_setRoot N vD vC p1 = some (.ok res)) (sz : Nat) : Met l yX4_setRoot (cd_Heap_setRoot :: gA) rm_Heap_setRoot (va_Pc [.ref (ad 0), .int p1] (gP D cls (tys ca) (wH ad ++ wB ad ++ wD ad ca vD ++ wC ad ca vC) sz)) (q_Heap_setRoot D ad ca vD res (va_A (wH ad ++ wB ad ++ wD ad ca vD ++ wC ad ca vC) sz)) 0 0 (va_A (wH ad ++ wB ad ++ wD ad ca vD ++ wC ad ca vC) sz) := by
  refine g_met (cc := cX4_setRoot) (Qc := q_Heap_setRoot D ad ca vD res) (lv := [(0, .ref (ad 0)), (1, .int p1)]) (own := RX4) (by decide) rfl rfl (Nat.le_of_ble_eq_true rfl) rfl sz ?_
  intro p e s m args below meth c A Z hr hnm
  unfold f_Heap_setRoot at hf
  refine g_aload_n (pc := 0) Z 0 dX4_setRoot_0 rfl ?_
  obtain ⟨x1, h2, hf⟩ := gE_ok hf
  refine g_callv (pc := 1) (ws2 := fun u => (wH ad ++ wB ad ++ wD ad ca vD ++ wC ad ca vC)) (wr := (wB ad)) Z [0, 2, 3, 4, 5, 6, 7, 8, 9, 10, 11] [1] [1, 0, 2, 3, 4, 5, 6, 7, 8, 9, 10, 11] (g_runV Z (c_Heap_needTransaction l D ad ca vD vC x1 h2) (cwV 0 Z.2.2.2.2.1 (gg_V ww177 ww178 ww179 ww2 ww180) rfl rfl rfl (yv_of rfl yd_Heap_needTransaction) ⟨Nat.le_of_ble_eq_true rfl, Nat.le_of_ble_eq_true rfl⟩) [0, 2, 3, 4, 5, 6, 7, 8, 9, 10, 11] rfl (by decide) 0 rfl rfl rfl rfl rfl (Nat.le_of_ble_eq_true rfl) dX4_setRoot_1 ⟨(Nat.le_of_ble_eq_true rfl), (Nat.le_of_ble_eq_true rfl)⟩) rfl rfl (by decide) (by decide) (by decide) (fun _ => rfl) (fun u hu => ?_)
  refine g_iload_n (pc := 4) Z 1 dX4_setRoot_4 rfl ?_
  refine g_if_eq (pc := 5) (tgt := 13) Z dX4_setRoot_5 (by decide) (fun c3 => ?_) (fun c3 => ?_)
  · replace hf := gIfP c3 hf
    refine g_aload_n (pc := 13) Z 0 dX4_setRoot_13 rfl ?_
    refine g_get (pc := 14) (v := .ref (ad 7)) (T := TX4) (N := 4) Z 0 2 dX4_setRoot_14 (mm ww164) inx_X4 rfl (by decide) rfl rfl rfl ?_
    refine g_iconst (pc := 17) (v := 1) Z dX4_setRoot_17 (by decide) ?_
    refine g_iload_n (pc := 18) Z 1 dX4_setRoot_18 rfl ?_
    refine g_i2l (pc := 19) Z dX4_setRoot_19 ?_
    obtain ⟨x4, h5, hf⟩ := Option.bind_eq_some_iff.mp hf
    refine g_calli (pc := 20) (ws2 := fun u => (wH ad ++ wB ad ++ wD ad ca vD ++ wC ad ca u)) (wr := (wH ad ++ wB ad ++ wD ad ca vD)) Z [7, 8, 9, 10, 11] [0, 1, 2, 3, 4, 5, 6] [0, 1, 2, 3, 4, 5, 6, 7, 8, 9, 10, 11] (g_runV Z (c_Chg_change l D ad ca N vC (1 : Int32) p1.toInt64 x4 h5) (cwV 2 Z.2.2.2.2.1 (gg_V ww205 ww130 ww131 ww40 ww132) rfl rfl rfl (yv_of rfl yd_Chg_change) ⟨Nat.le_of_ble_eq_true rfl, Nat.le_of_ble_eq_true rfl⟩) [7, 8, 9, 10, 11] rfl (by decide) 0 rfl rfl rfl rfl rfl (Nat.le_of_ble_eq_true rfl) dX4_setRoot_20 ⟨Nat.le_of_ble_eq_true rfl, Nat.le_of_ble_eq_true rfl⟩) rfl rfl (by decide) (by decide) (by decide) (fun _ => rfl) (fun r u hu => ?_)
    obtain ⟨rfl, rfl⟩ := hu
    obtain rfl := Except.ok.inj (Option.some.inj hf)
    exact g_zret Z hr (bI_nar x4.1) dX4_setRoot_23 x4.2 ⟨rfl, rfl⟩ rfl
  · replace hf := gIfN c3 hf
    refine g_aload_n (pc := 8) Z 0 dX4_setRoot_8 rfl ?_
    refine g_iload_n (pc := 9) Z 1 dX4_setRoot_9 rfl ?_
    obtain ⟨x6, h7, hf⟩ := gE_ok hf
    refine g_callv (pc := 10) (ws2 := fun u => (wH ad ++ wB ad ++ wD ad ca vD ++ wC ad ca vC)) (wr := (wD ad ca vD)) Z [0, 1, 7, 8, 9, 10, 11] [2, 3, 4, 5, 6] [5, 6, 0, 1, 2, 3, 4, 7, 8, 9, 10, 11] (g_runV Z (c_Heap_needUsedBlock l D ad ca N vC p1 x6 h7) (cwV 1 Z.2.2.2.2.1 (gg_V ww192 ww193 ww194 ww2 ww195) rfl rfl rfl (yv_of rfl yd_Heap_needUsedBlock) ⟨Nat.le_of_ble_eq_true rfl, Nat.le_of_ble_eq_true rfl⟩) [0, 1, 7, 8, 9, 10, 11] rfl (by decide) 0 rfl rfl rfl rfl rfl (Nat.le_of_ble_eq_true rfl) dX4_setRoot_10 ⟨(Nat.le_of_ble_eq_true rfl), (Nat.le_of_ble_eq_true rfl)⟩) rfl rfl (by decide) (by decide) (by decide) (fun _ => rfl) (fun u hu => ?_)
    refine g_aload_n (pc := 13) Z 0 dX4_setRoot_13 rfl ?_
    refine g_get (pc := 14) (v := .ref (ad 7)) (T := TX4) (N := 4) Z 0 2 dX4_setRoot_14 (mm ww164) inx_X4 rfl (by decide) rfl rfl rfl ?_
    refine g_iconst (pc := 17) (v := 1) Z dX4_setRoot_17 (by decide) ?_
    refine g_iload_n (pc := 18) Z 1 dX4_setRoot_18 rfl ?_
    refine g_i2l (pc := 19) Z dX4_setRoot_19 ?_
    obtain ⟨x8, h9, hf⟩ := Option.bind_eq_some_iff.mp hf
    refine g_calli (pc := 20) (ws2 := fun u => (wH ad ++ wB ad ++ wD ad ca vD ++ wC ad ca u)) (wr := (wH ad ++ wB ad ++ wD ad ca vD)) Z [7, 8, 9, 10, 11] [0, 1, 2, 3, 4, 5, 6] [0, 1, 2, 3, 4, 5, 6, 7, 8, 9, 10, 11] (g_runV Z (c_Chg_change l D ad ca N vC (1 : Int32) p1.toInt64 x8 h9) (cwV 2 Z.2.2.2.2.1 (gg_V ww205 ww130 ww131 ww40 ww132) rfl rfl rfl (yv_of rfl yd_Chg_change) ⟨Nat.le_of_ble_eq_true rfl, Nat.le_of_ble_eq_true rfl⟩) [7, 8, 9, 10, 11] rfl (by decide) 0 rfl rfl rfl rfl rfl (Nat.le_of_ble_eq_true rfl) dX4_setRoot_20 ⟨Nat.le_of_ble_eq_true rfl, Nat.le_of_ble_eq_true rfl⟩) rfl rfl (by decide) (by decide) (by decide) (fun _ => rfl) (fun r u hu => ?_)
    obtain ⟨rfl, rfl⟩ := hu
    obtain rfl := Except.ok.inj (Option.some.inj hf)
    exact g_zret Z hr (bI_nar x8.1) dX4_setRoot_23 x8.2 ⟨rfl, rfl⟩ rfl
set_option maxHeartbeats 4000000 in
set_option maxRecDepth 100000 in
theorem x_Heap_setRoot (l : Launch) (hl0 : l.stackTraces = false) (D : va_G) (ad : Nat → Nat) (ca : Nat → ClassId) (N : Nat) (vD : DT) (vC : CT) (p1 : Int32) (E : String) (hf : f_Heap_setRoot N vD vC p1 = some (.error E)) (sz : Nat) : vx_Met l yX4_setRoot (cd_Heap_setRoot :: gA) rx_Heap_setRoot (va_Pc [.ref (ad 0), .int p1] (gPX D cls (tys ca) (wH ad ++ wB ad ++ wD ad ca vD ++ wC ad ca vC) sz RX4 strsH)) (gQE (va_A (wH ad ++ wB ad ++ wD ad ca vD ++ wC ad ca vC) sz)) (gXC D cls (tys ca) (wH ad ++ wB ad ++ wD ad ca vD ++ wC ad ca vC) (fun E9 => E9 = E) (va_A (wH ad ++ wB ad ++ wD ad ca vD ++ wC ad ca vC) sz)) 1 6 (va_A (wH ad ++ wB ad ++ wD ad ca vD ++ wC ad ca vC) sz) := by
  refine g_metX (cc := cX4_setRoot) (Qc := gQE) (pe := fun E9 => E9 = E) (lv := [(0, .ref (ad 0)), (1, .int p1)]) (own := RX4) (by decide) rfl rfl (Nat.le_of_ble_eq_true rfl) rfl sz ?_
  intro p e s m args below meth c A Z hr hnm hT htab
  unfold f_Heap_setRoot at hf
  refine g_aload_n (pc := 0) Z 0 dX4_setRoot_0 rfl ?_
  rcases gE_er hf with h2 | ⟨x1, h2, hf⟩
  · refine g_callE (pc := 1) (wr := (wB ad)) Z [0, 2, 3, 4, 5, 6, 7, 8, 9, 10, 11] [1] [1, 0, 2, 3, 4, 5, 6, 7, 8, 9, 10, 11] (g_runXV Z hT (x_Heap_needTransaction l hl0 D ad ca vD vC E h2) (cwV 0 Z.2.2.2.2.1 (gg_V ww177 ww178 ww179 ww2 ww180) rfl rfl rfl (yv_of rfl yd_Heap_needTransaction) ⟨Nat.le_of_ble_eq_true rfl, Nat.le_of_ble_eq_true rfl⟩) [0, 2, 3, 4, 5, 6, 7, 8, 9, 10, 11] rfl (by decide) 0 rfl rfl rfl rfl rfl (Nat.le_of_ble_eq_true rfl) dX4_setRoot_1 ⟨(Nat.le_of_ble_eq_true rfl), (Nat.le_of_ble_eq_true rfl)⟩) rfl rfl (by decide) (by decide) (by decide) rfl ?_
    exact g_out Z htab rfl (Nat.le_of_ble_eq_true rfl) (Nat.le_of_ble_eq_true rfl)
  · refine g_callv (pc := 1) (ws2 := fun u => (wH ad ++ wB ad ++ wD ad ca vD ++ wC ad ca vC)) (wr := (wB ad)) Z [0, 2, 3, 4, 5, 6, 7, 8, 9, 10, 11] [1] [1, 0, 2, 3, 4, 5, 6, 7, 8, 9, 10, 11] (g_runV Z (c_Heap_needTransaction l D ad ca vD vC x1 h2) (cwV 0 Z.2.2.2.2.1 (gg_V ww177 ww178 ww179 ww2 ww180) rfl rfl rfl (yv_of rfl yd_Heap_needTransaction) ⟨Nat.le_of_ble_eq_true rfl, Nat.le_of_ble_eq_true rfl⟩) [0, 2, 3, 4, 5, 6, 7, 8, 9, 10, 11] rfl (by decide) 0 rfl rfl rfl rfl rfl (Nat.le_of_ble_eq_true rfl) dX4_setRoot_1 ⟨(Nat.le_of_ble_eq_true rfl), (Nat.le_of_ble_eq_true rfl)⟩) rfl rfl (by decide) (by decide) (by decide) (fun _ => rfl) (fun u hu => ?_)
    refine g_iload_n (pc := 4) Z 1 dX4_setRoot_4 rfl ?_
    refine g_if_eq (pc := 5) (tgt := 13) Z dX4_setRoot_5 (by decide) (fun c3 => ?_) (fun c3 => ?_)
    · replace hf := gIfP c3 hf
      refine g_aload_n (pc := 13) Z 0 dX4_setRoot_13 rfl ?_
      refine g_get (pc := 14) (v := .ref (ad 7)) (T := TX4) (N := 4) Z 0 2 dX4_setRoot_14 (mm ww164) inx_X4 rfl (by decide) rfl rfl rfl ?_
      refine g_iconst (pc := 17) (v := 1) Z dX4_setRoot_17 (by decide) ?_
      refine g_iload_n (pc := 18) Z 1 dX4_setRoot_18 rfl ?_
      refine g_i2l (pc := 19) Z dX4_setRoot_19 ?_
      obtain ⟨x4, h5, hf⟩ := Option.bind_eq_some_iff.mp hf
      refine g_calli (pc := 20) (ws2 := fun u => (wH ad ++ wB ad ++ wD ad ca vD ++ wC ad ca u)) (wr := (wH ad ++ wB ad ++ wD ad ca vD)) Z [7, 8, 9, 10, 11] [0, 1, 2, 3, 4, 5, 6] [0, 1, 2, 3, 4, 5, 6, 7, 8, 9, 10, 11] (g_runV Z (c_Chg_change l D ad ca N vC (1 : Int32) p1.toInt64 x4 h5) (cwV 2 Z.2.2.2.2.1 (gg_V ww205 ww130 ww131 ww40 ww132) rfl rfl rfl (yv_of rfl yd_Chg_change) ⟨Nat.le_of_ble_eq_true rfl, Nat.le_of_ble_eq_true rfl⟩) [7, 8, 9, 10, 11] rfl (by decide) 0 rfl rfl rfl rfl rfl (Nat.le_of_ble_eq_true rfl) dX4_setRoot_20 ⟨Nat.le_of_ble_eq_true rfl, Nat.le_of_ble_eq_true rfl⟩) rfl rfl (by decide) (by decide) (by decide) (fun _ => rfl) (fun r u hu => ?_)
      obtain ⟨rfl, rfl⟩ := hu
      exact absurd (Option.some.inj hf) (fun h => by cases h)
    · replace hf := gIfN c3 hf
      refine g_aload_n (pc := 8) Z 0 dX4_setRoot_8 rfl ?_
      refine g_iload_n (pc := 9) Z 1 dX4_setRoot_9 rfl ?_
      rcases gE_er hf with h7 | ⟨x6, h7, hf⟩
      · refine g_callE (pc := 10) (wr := (wD ad ca vD)) Z [0, 1, 7, 8, 9, 10, 11] [2, 3, 4, 5, 6] [5, 6, 0, 1, 2, 3, 4, 7, 8, 9, 10, 11] (g_runXV Z hT (x_Heap_needUsedBlock l hl0 D ad ca N vC p1 E h7) (cwV 1 Z.2.2.2.2.1 (gg_V ww192 ww193 ww194 ww2 ww195) rfl rfl rfl (yv_of rfl yd_Heap_needUsedBlock) ⟨Nat.le_of_ble_eq_true rfl, Nat.le_of_ble_eq_true rfl⟩) [0, 1, 7, 8, 9, 10, 11] rfl (by decide) 0 rfl rfl rfl rfl rfl (Nat.le_of_ble_eq_true rfl) dX4_setRoot_10 ⟨(Nat.le_of_ble_eq_true rfl), (Nat.le_of_ble_eq_true rfl)⟩) rfl rfl (by decide) (by decide) (by decide) rfl ?_
        exact g_out Z htab rfl (Nat.le_of_ble_eq_true rfl) (Nat.le_of_ble_eq_true rfl)
      · refine g_callv (pc := 10) (ws2 := fun u => (wH ad ++ wB ad ++ wD ad ca vD ++ wC ad ca vC)) (wr := (wD ad ca vD)) Z [0, 1, 7, 8, 9, 10, 11] [2, 3, 4, 5, 6] [5, 6, 0, 1, 2, 3, 4, 7, 8, 9, 10, 11] (g_runV Z (c_Heap_needUsedBlock l D ad ca N vC p1 x6 h7) (cwV 1 Z.2.2.2.2.1 (gg_V ww192 ww193 ww194 ww2 ww195) rfl rfl rfl (yv_of rfl yd_Heap_needUsedBlock) ⟨Nat.le_of_ble_eq_true rfl, Nat.le_of_ble_eq_true rfl⟩) [0, 1, 7, 8, 9, 10, 11] rfl (by decide) 0 rfl rfl rfl rfl rfl (Nat.le_of_ble_eq_true rfl) dX4_setRoot_10 ⟨(Nat.le_of_ble_eq_true rfl), (Nat.le_of_ble_eq_true rfl)⟩) rfl rfl (by decide) (by decide) (by decide) (fun _ => rfl) (fun u hu => ?_)
        refine g_aload_n (pc := 13) Z 0 dX4_setRoot_13 rfl ?_
        refine g_get (pc := 14) (v := .ref (ad 7)) (T := TX4) (N := 4) Z 0 2 dX4_setRoot_14 (mm ww164) inx_X4 rfl (by decide) rfl rfl rfl ?_
        refine g_iconst (pc := 17) (v := 1) Z dX4_setRoot_17 (by decide) ?_
        refine g_iload_n (pc := 18) Z 1 dX4_setRoot_18 rfl ?_
        refine g_i2l (pc := 19) Z dX4_setRoot_19 ?_
        obtain ⟨x8, h9, hf⟩ := Option.bind_eq_some_iff.mp hf
        refine g_calli (pc := 20) (ws2 := fun u => (wH ad ++ wB ad ++ wD ad ca vD ++ wC ad ca u)) (wr := (wH ad ++ wB ad ++ wD ad ca vD)) Z [7, 8, 9, 10, 11] [0, 1, 2, 3, 4, 5, 6] [0, 1, 2, 3, 4, 5, 6, 7, 8, 9, 10, 11] (g_runV Z (c_Chg_change l D ad ca N vC (1 : Int32) p1.toInt64 x8 h9) (cwV 2 Z.2.2.2.2.1 (gg_V ww205 ww130 ww131 ww40 ww132) rfl rfl rfl (yv_of rfl yd_Chg_change) ⟨Nat.le_of_ble_eq_true rfl, Nat.le_of_ble_eq_true rfl⟩) [7, 8, 9, 10, 11] rfl (by decide) 0 rfl rfl rfl rfl rfl (Nat.le_of_ble_eq_true rfl) dX4_setRoot_20 ⟨Nat.le_of_ble_eq_true rfl, Nat.le_of_ble_eq_true rfl⟩) rfl rfl (by decide) (by decide) (by decide) (fun _ => rfl) (fun r u hu => ?_)
        obtain ⟨rfl, rfl⟩ := hu
        exact absurd (Option.some.inj hf) (fun h => by cases h)
/-! RedoHeap.root()I -/
def f_Heap_root (vD : DT) (vC : CT) : Option (Except String (Int32)) :=
  gE (f_Heap_needPower vD) fun x1 => (f_Chg_read vC (1 : Int32)).bind fun x3 => some (Except.ok x3.toInt32)
abbrev cd_Heap_root : Cond := .code yX4_root cX4_root 1 (some .int)
theorem yd_Heap_root : yX4_root.cls ≠ "java/lang/invoke/MethodHandle" ∧ yX4_root.cls ≠ "java/lang/invoke/VarHandle" ∧ (parseMethodDescriptor yX4_root.desc).map (fun d => d.parameters.length) = some 0 := by decide +kernel
abbrev rm_Heap_root : Room := { frames := 2, cells := 0, slots := 0, locals := 41 }
abbrev rx_Heap_root : Room := { frames := 7, cells := 1, slots := 6, locals := 102 }
abbrev q_Heap_root (D : va_G) (ad : Nat → Nat) (ca : Nat → ClassId) (vD : DT) (vC : CT) (res : Int32) (A : Nat → Prop) : Array Value → State → Outcome → State → Prop := va_Qi (fun (r : Int32) (_ : Unit) => r = res) (gB D cls (tys ca) A (fun (u : Unit) => (wH ad ++ wD ad ca vD ++ wC ad ca vC))) A
set_option maxHeartbeats 4000000 in
set_option maxRecDepth 100000 in
theorem c_Heap_root (l : Launch) (D : va_G) (ad : Nat → Nat) (ca : Nat → ClassId) (vD : DT) (vC : CT) (res : Int32) (hf : f_Heap_root vD vC = some (.ok res)) (sz : Nat) : Met l yX4_root (cd_Heap_root :: gA) rm_Heap_root (va_Pc [.ref (ad 0)] (gP D cls (tys ca) (wH ad ++ wD ad ca vD ++ wC ad ca vC) sz)) (q_Heap_root D ad ca vD vC res (va_A (wH ad ++ wD ad ca vD ++ wC ad ca vC) sz)) 0 0 (va_A (wH ad ++ wD ad ca vD ++ wC ad ca vC) sz) := by
  refine g_met (cc := cX4_root) (Qc := q_Heap_root D ad ca vD vC res) (lv := [(0, .ref (ad 0))]) (own := RX4) (by decide) rfl rfl (Nat.le_of_ble_eq_true rfl) rfl sz ?_
  intro p e s m args below meth c A Z hr hnm
  unfold f_Heap_root at hf
  refine g_aload_n (pc := 0) Z 0 dX4_root_0 rfl ?_
  obtain ⟨x1, h2, hf⟩ := gE_ok hf
  refine g_callv (pc := 1) (ws2 := fun u => (wH ad ++ wD ad ca vD ++ wC ad ca vC)) (wr := (wC ad ca vC)) Z [0, 1, 2, 3, 4, 5] [6, 7, 8, 9, 10] [5, 6, 7, 8, 9, 10, 0, 1, 2, 3, 4] (g_runV Z (c_Heap_needPower l D ad ca vD x1 h2) (cwV 0 Z.2.2.2.2.1 (gg_V ww160 ww161 ww162 ww2 ww163) rfl rfl rfl (yv_of rfl yd_Heap_needPower) ⟨Nat.le_of_ble_eq_true rfl, Nat.le_of_ble_eq_true rfl⟩) [0, 1, 2, 3, 4, 5] rfl (by decide) 0 rfl rfl rfl rfl rfl (Nat.le_of_ble_eq_true rfl) dX4_root_1 ⟨(Nat.le_of_ble_eq_true rfl), (Nat.le_of_ble_eq_true rfl)⟩) rfl rfl (by decide) (by decide) (by decide) (fun _ => rfl) (fun u hu => ?_)
  refine g_aload_n (pc := 4) Z 0 dX4_root_4 rfl ?_
  refine g_get (pc := 5) (v := .ref (ad 7)) (T := TX4) (N := 4) Z 0 2 dX4_root_5 (mm ww164) inx_X4 rfl (by decide) rfl rfl rfl ?_
  refine g_iconst (pc := 8) (v := 1) Z dX4_root_8 (by decide) ?_
  obtain ⟨x3, h4, hf⟩ := Option.bind_eq_some_iff.mp hf
  refine g_calll (pc := 9) (ws2 := fun u => (wH ad ++ wD ad ca vD ++ wC ad ca vC)) (wr := (wH ad ++ wD ad ca vD)) Z [6, 7, 8, 9, 10] [0, 1, 2, 3, 4, 5] [0, 1, 2, 3, 4, 5, 6, 7, 8, 9, 10] (g_runV Z (c_Chg_read l D ad ca vC (1 : Int32) x3 h4) (cwV 1 Z.2.2.2.2.1 (gg_V ww206 ww98 ww99 ww40 ww100) rfl rfl rfl (yv_of rfl yd_Chg_read) ⟨Nat.le_of_ble_eq_true rfl, Nat.le_of_ble_eq_true rfl⟩) [6, 7, 8, 9, 10] rfl (by decide) 0 rfl rfl rfl rfl rfl (Nat.le_of_ble_eq_true rfl) dX4_root_9 ⟨Nat.le_of_ble_eq_true rfl, Nat.le_of_ble_eq_true rfl⟩) rfl rfl (by decide) (by decide) (by decide) (fun _ => rfl) (fun r u hu => ?_)
  obtain rfl := hu.symm
  refine g_l2i (pc := 12) Z dX4_root_12 ?_
  obtain rfl := Except.ok.inj (Option.some.inj hf)
  exact g_iret Z hr dX4_root_13 () rfl rfl
set_option maxHeartbeats 4000000 in
set_option maxRecDepth 100000 in
theorem x_Heap_root (l : Launch) (hl0 : l.stackTraces = false) (D : va_G) (ad : Nat → Nat) (ca : Nat → ClassId) (vD : DT) (vC : CT) (E : String) (hf : f_Heap_root vD vC = some (.error E)) (sz : Nat) : vx_Met l yX4_root (cd_Heap_root :: gA) rx_Heap_root (va_Pc [.ref (ad 0)] (gPX D cls (tys ca) (wH ad ++ wD ad ca vD ++ wC ad ca vC) sz RX4 strsH)) (gQE (va_A (wH ad ++ wD ad ca vD ++ wC ad ca vC) sz)) (gXC D cls (tys ca) (wH ad ++ wD ad ca vD ++ wC ad ca vC) (fun E9 => E9 = E) (va_A (wH ad ++ wD ad ca vD ++ wC ad ca vC) sz)) 1 6 (va_A (wH ad ++ wD ad ca vD ++ wC ad ca vC) sz) := by
  refine g_metX (cc := cX4_root) (Qc := gQE) (pe := fun E9 => E9 = E) (lv := [(0, .ref (ad 0))]) (own := RX4) (by decide) rfl rfl (Nat.le_of_ble_eq_true rfl) rfl sz ?_
  intro p e s m args below meth c A Z hr hnm hT htab
  unfold f_Heap_root at hf
  refine g_aload_n (pc := 0) Z 0 dX4_root_0 rfl ?_
  rcases gE_er hf with h2 | ⟨x1, h2, hf⟩
  · refine g_callE (pc := 1) (wr := (wC ad ca vC)) Z [0, 1, 2, 3, 4, 5] [6, 7, 8, 9, 10] [5, 6, 7, 8, 9, 10, 0, 1, 2, 3, 4] (g_runXV Z hT (x_Heap_needPower l hl0 D ad ca vD E h2) (cwV 0 Z.2.2.2.2.1 (gg_V ww160 ww161 ww162 ww2 ww163) rfl rfl rfl (yv_of rfl yd_Heap_needPower) ⟨Nat.le_of_ble_eq_true rfl, Nat.le_of_ble_eq_true rfl⟩) [0, 1, 2, 3, 4, 5] rfl (by decide) 0 rfl rfl rfl rfl rfl (Nat.le_of_ble_eq_true rfl) dX4_root_1 ⟨(Nat.le_of_ble_eq_true rfl), (Nat.le_of_ble_eq_true rfl)⟩) rfl rfl (by decide) (by decide) (by decide) rfl ?_
    exact g_out Z htab rfl (Nat.le_of_ble_eq_true rfl) (Nat.le_of_ble_eq_true rfl)
  · refine g_callv (pc := 1) (ws2 := fun u => (wH ad ++ wD ad ca vD ++ wC ad ca vC)) (wr := (wC ad ca vC)) Z [0, 1, 2, 3, 4, 5] [6, 7, 8, 9, 10] [5, 6, 7, 8, 9, 10, 0, 1, 2, 3, 4] (g_runV Z (c_Heap_needPower l D ad ca vD x1 h2) (cwV 0 Z.2.2.2.2.1 (gg_V ww160 ww161 ww162 ww2 ww163) rfl rfl rfl (yv_of rfl yd_Heap_needPower) ⟨Nat.le_of_ble_eq_true rfl, Nat.le_of_ble_eq_true rfl⟩) [0, 1, 2, 3, 4, 5] rfl (by decide) 0 rfl rfl rfl rfl rfl (Nat.le_of_ble_eq_true rfl) dX4_root_1 ⟨(Nat.le_of_ble_eq_true rfl), (Nat.le_of_ble_eq_true rfl)⟩) rfl rfl (by decide) (by decide) (by decide) (fun _ => rfl) (fun u hu => ?_)
    refine g_aload_n (pc := 4) Z 0 dX4_root_4 rfl ?_
    refine g_get (pc := 5) (v := .ref (ad 7)) (T := TX4) (N := 4) Z 0 2 dX4_root_5 (mm ww164) inx_X4 rfl (by decide) rfl rfl rfl ?_
    refine g_iconst (pc := 8) (v := 1) Z dX4_root_8 (by decide) ?_
    obtain ⟨x3, h4, hf⟩ := Option.bind_eq_some_iff.mp hf
    refine g_calll (pc := 9) (ws2 := fun u => (wH ad ++ wD ad ca vD ++ wC ad ca vC)) (wr := (wH ad ++ wD ad ca vD)) Z [6, 7, 8, 9, 10] [0, 1, 2, 3, 4, 5] [0, 1, 2, 3, 4, 5, 6, 7, 8, 9, 10] (g_runV Z (c_Chg_read l D ad ca vC (1 : Int32) x3 h4) (cwV 1 Z.2.2.2.2.1 (gg_V ww206 ww98 ww99 ww40 ww100) rfl rfl rfl (yv_of rfl yd_Chg_read) ⟨Nat.le_of_ble_eq_true rfl, Nat.le_of_ble_eq_true rfl⟩) [6, 7, 8, 9, 10] rfl (by decide) 0 rfl rfl rfl rfl rfl (Nat.le_of_ble_eq_true rfl) dX4_root_9 ⟨Nat.le_of_ble_eq_true rfl, Nat.le_of_ble_eq_true rfl⟩) rfl rfl (by decide) (by decide) (by decide) (fun _ => rfl) (fun r u hu => ?_)
    obtain rfl := hu.symm
    refine g_l2i (pc := 12) Z dX4_root_12 ?_
    exact absurd (Option.some.inj hf) (fun h => by cases h)
theorem ww207 : Cond.methodLink RX4 93 yX1_size ∈ gA := wt2 140 rfl rfl
theorem ww208 : Cond.methodLink RX4 99 yX3_hasRoomFor ∈ gA := wt2 156 rfl rfl
theorem ww209 : Cond.instanceMethod yX3_hasRoomFor ∈ gA := wt2 157 rfl rfl
theorem ww210 : Cond.selects RX3 yX3_hasRoomFor yX3_hasRoomFor ∈ gA := wt2 158 rfl rfl
theorem ww211 : cd_Log_hasRoomFor ∈ gA := wt2 159 rfl rfl
theorem ww212 : Cond.methodLink RX4 109 yX3_append ∈ gA := wt2 209 rfl rfl
theorem ww213 : Cond.instanceMethod yX3_append ∈ gA := wt2 210 rfl rfl
theorem ww214 : Cond.selects RX3 yX3_append yX3_append ∈ gA := wt2 211 rfl rfl
theorem ww215 : cd_Log_append ∈ gA := wt2 212 rfl rfl
theorem ww216 : Cond.methodLink RX4 96 yX1_accept ∈ gA := wt2 144 rfl rfl
theorem ww217 : Cond.instanceMethod yX1_accept ∈ gA := wt2 145 rfl rfl
theorem ww218 : Cond.selects RX1 yX1_accept yX1_accept ∈ gA := wt2 146 rfl rfl
theorem ww219 : cd_Chg_accept ∈ gA := wt2 147 rfl rfl
theorem ww220 : Cond.methodLink RX4 113 yX1_drop ∈ gA := wt2 221 rfl rfl
theorem ww221 : Cond.methodLink RX4 103 yX3_used ∈ gA := wt2 160 rfl rfl
theorem ww222 : Cond.instanceMethod yX3_used ∈ gA := wt2 161 rfl rfl
theorem ww223 : Cond.selects RX3 yX3_used yX3_used ∈ gA := wt2 162 rfl rfl
theorem ww224 : cd_Log_used ∈ gA := wt2 163 rfl rfl
theorem ww225 : Cond.methodLink RX4 106 yX3_carryOut ∈ gA := wt2 164 rfl rfl
theorem ww226 : Cond.instanceMethod yX3_carryOut ∈ gA := wt2 165 rfl rfl
theorem ww227 : Cond.selects RX3 yX3_carryOut yX3_carryOut ∈ gA := wt2 166 rfl rfl
theorem ww228 : cd_Log_carryOut ∈ gA := wt2 167 rfl rfl
/-! RedoHeap.commit(Z)I -/
def f_Heap_commit (N : Nat) (vL : LT) (vD : DT) (vC : CT) (p1 : Bool) : Option (Except String (Int32 × LT × DT × CT)) :=
  gE (f_Heap_needTransaction vD vC) fun x1 => (f_Chg_size vC).bind fun x3 => if x3 = 0 then (f_Chg_accept N vC).bind fun x46 => (f_Log_lastNumber vL).bind fun x48 => some (Except.ok (x48, vL, vD, x46)) else (f_Chg_size vC).bind fun x6 => (f_Log_hasRoomFor vL x6).bind fun x8 => if x8 = true then (f_Chg_size vC).bind fun x11 => (f_Log_hasRoomFor vL x11).bind fun x13 => if x13 = true then (f_Log_append N vL vD vC p1).bind fun x16 => if x16.1 = true then (f_Chg_accept N vC).bind fun x19 => (f_Log_lastNumber x16.2.1).bind fun x21 => some (Except.ok (x21, x16.2.1, x16.2.2, x19)) else (f_Chg_drop N vC).bind fun x23 => some (Except.ok ((-2 : Int32), x16.2.1, x16.2.2, x23)) else some (Except.ok ((-1 : Int32), vL, vD, vC)) else (f_Log_used vL).bind fun x25 => (f_Log_carryOut N vL vD x25).bind fun x27 => if x27.1 = true then (f_Chg_size vC).bind fun x32 => (f_Log_hasRoomFor x27.2.1 x32).bind fun x34 => if x34 = true then (f_Log_append N x27.2.1 x27.2.2 vC p1).bind fun x37 => if x37.1 = true then (f_Chg_accept N vC).bind fun x40 => (f_Log_lastNumber x37.2.1).bind fun x42 => some (Except.ok (x42, x37.2.1, x37.2.2, x40)) else (f_Chg_drop N vC).bind fun x44 => some (Except.ok ((-2 : Int32), x37.2.1, x37.2.2, x44)) else some (Except.ok ((-1 : Int32), x27.2.1, x27.2.2, vC)) else (f_Chg_drop N vC).bind fun x30 => some (Except.ok ((-2 : Int32), x27.2.1, x27.2.2, x30))
abbrev cd_Heap_commit : Cond := .code yX4_commit cX4_commit 3 (some .int)
theorem yd_Heap_commit : yX4_commit.cls ≠ "java/lang/invoke/MethodHandle" ∧ yX4_commit.cls ≠ "java/lang/invoke/VarHandle" ∧ (parseMethodDescriptor yX4_commit.desc).map (fun d => d.parameters.length) = some 1 := by decide +kernel
abbrev rm_Heap_commit : Room := { frames := 6, cells := 0, slots := 0, locals := 154 }
abbrev rx_Heap_commit : Room := { frames := 8, cells := 1, slots := 6, locals := 154 }
abbrev q_Heap_commit (D : va_G) (ad : Nat → Nat) (ca : Nat → ClassId) (res : Int32 × LT × DT × CT) (A : Nat → Prop) : Array Value → State → Outcome → State → Prop := va_Qi (fun (r : Int32) (u : LT × DT × CT) => r = res.1 ∧ u = res.2) (gB D cls (tys ca) A (fun (u : LT × DT × CT) => (wH ad ++ wL ad ca u.1 ++ wD ad ca u.2.1 ++ wC ad ca u.2.2))) A
set_option maxHeartbeats 4000000 in
set_option maxRecDepth 100000 in
theorem c_Heap_commit (l : Launch) (D : va_G) (ad : Nat → Nat) (ca : Nat → ClassId) (N : Nat) (vL : LT) (vD : DT) (vC : CT) (p1 : Bool) (res : Int32 × LT × DT × CT) (hf : f_Heap_commit N vL vD vC p1 = some (.ok res)) (sz : Nat) : Met l yX4_commit (cd_Heap_commit :: gA) rm_Heap_commit (va_Pc [.ref (ad 0), .int (bI p1)] (gP D cls (tys ca) (wH ad ++ wL ad ca vL ++ wD ad ca vD ++ wC ad ca vC) sz)) (q_Heap_commit D ad ca res (va_A (wH ad ++ wL ad ca vL ++ wD ad ca vD ++ wC ad ca vC) sz)) 0 0 (va_A (wH ad ++ wL ad ca vL ++ wD ad ca vD ++ wC ad ca vC) sz) := by
  refine g_met (cc := cX4_commit) (Qc := q_Heap_commit D ad ca res) (lv := [(0, .ref (ad 0)), (1, .int (bI p1))]) (own := RX4) (by decide) rfl rfl (Nat.le_of_ble_eq_true rfl) rfl sz ?_
  intro p e s m args below meth c A Z hr hnm
  unfold f_Heap_commit at hf
  refine g_aload_n (pc := 0) Z 0 dX4_commit_0 rfl ?_
  obtain ⟨x1, h2, hf⟩ := gE_ok hf
  refine g_callv (pc := 1) (ws2 := fun u => (wH ad ++ wL ad ca vL ++ wD ad ca vD ++ wC ad ca vC)) (wr := (wL ad ca vL)) Z [0, 2, 3, 4, 5, 6, 7, 8, 9, 10, 11] [1] [1, 0, 2, 3, 4, 5, 6, 7, 8, 9, 10, 11] (g_runV Z (c_Heap_needTransaction l D ad ca vD vC x1 h2) (cwV 0 Z.2.2.2.2.1 (gg_V ww177 ww178 ww179 ww2 ww180) rfl rfl rfl (yv_of rfl yd_Heap_needTransaction) ⟨Nat.le_of_ble_eq_true rfl, Nat.le_of_ble_eq_true rfl⟩) [0, 2, 3, 4, 5, 6, 7, 8, 9, 10, 11] rfl (by decide) 0 rfl rfl rfl rfl rfl (Nat.le_of_ble_eq_true rfl) dX4_commit_1 ⟨(Nat.le_of_ble_eq_true rfl), (Nat.le_of_ble_eq_true rfl)⟩) rfl rfl (by decide) (by decide) (by decide) (fun _ => rfl) (fun u hu => ?_)
  refine g_aload_n (pc := 4) Z 0 dX4_commit_4 rfl ?_
  refine g_get (pc := 5) (v := .ref (ad 7)) (T := TX4) (N := 4) Z 0 2 dX4_commit_5 (mm ww164) inx_X4 rfl (by decide) rfl rfl rfl ?_
  obtain ⟨x3, h4, hf⟩ := Option.bind_eq_some_iff.mp hf
  refine g_calli (pc := 8) (ws2 := fun u => (wH ad ++ wL ad ca vL ++ wD ad ca vD ++ wC ad ca vC)) (wr := (wH ad ++ wL ad ca vL ++ wD ad ca vD)) Z [7, 8, 9, 10, 11] [0, 1, 2, 3, 4, 5, 6] [0, 1, 2, 3, 4, 5, 6, 7, 8, 9, 10, 11] (g_runV Z (c_Chg_size l D ad ca vC x3 h4) (cwV 0 Z.2.2.2.2.1 (gg_V ww207 ww93 ww94 ww40 ww95) rfl rfl rfl (yv_of rfl yd_Chg_size) ⟨Nat.le_of_ble_eq_true rfl, Nat.le_of_ble_eq_true rfl⟩) [7, 8, 9, 10, 11] rfl (by decide) 0 rfl rfl rfl rfl rfl (Nat.le_of_ble_eq_true rfl) dX4_commit_8 ⟨Nat.le_of_ble_eq_true rfl, Nat.le_of_ble_eq_true rfl⟩) rfl rfl (by decide) (by decide) (by decide) (fun _ => rfl) (fun r u hu => ?_)
  obtain rfl := hu.symm
  refine g_if_ne (pc := 11) (tgt := 29) Z dX4_commit_11 (by decide) (fun c5 => ?_) (fun c5 => ?_)
  · replace hf := gIfN c5 hf
    refine g_aload_n (pc := 29) Z 0 dX4_commit_29 rfl ?_
    refine g_get (pc := 30) (v := .ref (ad 6)) (T := TX4) (N := 4) Z 0 1 dX4_commit_30 (mm ww152) inx_X4 rfl (by decide) rfl rfl rfl ?_
    refine g_aload_n (pc := 33) Z 0 dX4_commit_33 rfl ?_
    refine g_get (pc := 34) (v := .ref (ad 7)) (T := TX4) (N := 4) Z 0 2 dX4_commit_34 (mm ww164) inx_X4 rfl (by decide) rfl rfl rfl ?_
    obtain ⟨x6, h7, hf⟩ := Option.bind_eq_some_iff.mp hf
    refine g_calli (pc := 37) (ws2 := fun u => (wH ad ++ wL ad ca vL ++ wD ad ca vD ++ wC ad ca vC)) (wr := (wH ad ++ wL ad ca vL ++ wD ad ca vD)) Z [7, 8, 9, 10, 11] [0, 1, 2, 3, 4, 5, 6] [0, 1, 2, 3, 4, 5, 6, 7, 8, 9, 10, 11] (g_runV Z (c_Chg_size l D ad ca vC x6 h7) (cwV 0 Z.2.2.2.2.1 (gg_V ww207 ww93 ww94 ww40 ww95) rfl rfl rfl (yv_of rfl yd_Chg_size) ⟨Nat.le_of_ble_eq_true rfl, Nat.le_of_ble_eq_true rfl⟩) [7, 8, 9, 10, 11] rfl (by decide) 0 rfl rfl rfl rfl rfl (Nat.le_of_ble_eq_true rfl) dX4_commit_37 ⟨Nat.le_of_ble_eq_true rfl, Nat.le_of_ble_eq_true rfl⟩) rfl rfl (by decide) (by decide) (by decide) (fun _ => rfl) (fun r u hu => ?_)
    obtain rfl := hu.symm
    obtain ⟨x8, h9, hf⟩ := Option.bind_eq_some_iff.mp hf
    refine g_calli (pc := 40) (ws2 := fun u => (wH ad ++ wL ad ca vL ++ wD ad ca vD ++ wC ad ca vC)) (wr := (wH ad ++ wD ad ca vD ++ wC ad ca vC)) Z [1] [0, 2, 3, 4, 5, 6, 7, 8, 9, 10, 11] [0, 11, 1, 2, 3, 4, 5, 6, 7, 8, 9, 10] (g_runV Z (c_Log_hasRoomFor l D ad ca vL x6 x8 h9) (cwV 1 Z.2.2.2.2.1 (gg_V ww208 ww209 ww210 ww72 ww211) rfl rfl rfl (yv_of rfl yd_Log_hasRoomFor) ⟨Nat.le_of_ble_eq_true rfl, Nat.le_of_ble_eq_true rfl⟩) [1] rfl (by decide) 0 rfl rfl rfl rfl rfl (Nat.le_of_ble_eq_true rfl) dX4_commit_40 ⟨Nat.le_of_ble_eq_true rfl, Nat.le_of_ble_eq_true rfl⟩) rfl rfl (by decide) (by decide) (by decide) (fun _ => rfl) (fun r u hu => ?_)
    obtain rfl := hu.symm
    refine g_if_ne (pc := 43) (tgt := 63) Z dX4_commit_43 (by decide) (fun c10 => ?_) (fun c10 => ?_)
    · replace hf := gIfP (bI_nz c10) hf
      refine g_iconst (pc := 63) (v := 1) Z dX4_commit_63 (by decide) ?_
      refine g_goto (pc := 64) (tgt := 68) Z dX4_commit_64 (by decide) ?_
      refine g_istore_n (pc := 68) (lv' := [(2, .int (1 : Int32)), (0, .ref (ad 0)), (1, .int (bI p1))]) Z dX4_commit_68 (by decide) rfl ?_
      refine g_iload_n (pc := 69) Z 0 dX4_commit_69 rfl ?_
      refine g_if_eq (pc := 70) (tgt := 92) Z dX4_commit_70 (by decide) (fun c0 => absurd c0 (by decide)) (fun _ => ?_)
      refine g_aload_n (pc := 73) Z 1 dX4_commit_73 rfl ?_
      refine g_get (pc := 74) (v := .ref (ad 6)) (T := TX4) (N := 4) Z 0 1 dX4_commit_74 (mm ww152) inx_X4 rfl (by decide) rfl rfl rfl ?_
      refine g_aload_n (pc := 77) Z 1 dX4_commit_77 rfl ?_
      refine g_get (pc := 78) (v := .ref (ad 7)) (T := TX4) (N := 4) Z 0 2 dX4_commit_78 (mm ww164) inx_X4 rfl (by decide) rfl rfl rfl ?_
      obtain ⟨x11, h12, hf⟩ := Option.bind_eq_some_iff.mp hf
      refine g_calli (pc := 81) (ws2 := fun u => (wH ad ++ wL ad ca vL ++ wD ad ca vD ++ wC ad ca vC)) (wr := (wH ad ++ wL ad ca vL ++ wD ad ca vD)) Z [7, 8, 9, 10, 11] [0, 1, 2, 3, 4, 5, 6] [0, 1, 2, 3, 4, 5, 6, 7, 8, 9, 10, 11] (g_runV Z (c_Chg_size l D ad ca vC x11 h12) (cwV 0 Z.2.2.2.2.1 (gg_V ww207 ww93 ww94 ww40 ww95) rfl rfl rfl (yv_of rfl yd_Chg_size) ⟨Nat.le_of_ble_eq_true rfl, Nat.le_of_ble_eq_true rfl⟩) [7, 8, 9, 10, 11] rfl (by decide) 0 rfl rfl rfl rfl rfl (Nat.le_of_ble_eq_true rfl) dX4_commit_81 ⟨Nat.le_of_ble_eq_true rfl, Nat.le_of_ble_eq_true rfl⟩) rfl rfl (by decide) (by decide) (by decide) (fun _ => rfl) (fun r u hu => ?_)
      obtain rfl := hu.symm
      obtain ⟨x13, h14, hf⟩ := Option.bind_eq_some_iff.mp hf
      refine g_calli (pc := 84) (ws2 := fun u => (wH ad ++ wL ad ca vL ++ wD ad ca vD ++ wC ad ca vC)) (wr := (wH ad ++ wD ad ca vD ++ wC ad ca vC)) Z [1] [0, 2, 3, 4, 5, 6, 7, 8, 9, 10, 11] [0, 11, 1, 2, 3, 4, 5, 6, 7, 8, 9, 10] (g_runV Z (c_Log_hasRoomFor l D ad ca vL x11 x13 h14) (cwV 1 Z.2.2.2.2.1 (gg_V ww208 ww209 ww210 ww72 ww211) rfl rfl rfl (yv_of rfl yd_Log_hasRoomFor) ⟨Nat.le_of_ble_eq_true rfl, Nat.le_of_ble_eq_true rfl⟩) [1] rfl (by decide) 0 rfl rfl rfl rfl rfl (Nat.le_of_ble_eq_true rfl) dX4_commit_84 ⟨Nat.le_of_ble_eq_true rfl, Nat.le_of_ble_eq_true rfl⟩) rfl rfl (by decide) (by decide) (by decide) (fun _ => rfl) (fun r u hu => ?_)
      obtain rfl := hu.symm
      refine g_if_ne (pc := 87) (tgt := 92) Z dX4_commit_87 (by decide) (fun c15 => ?_) (fun c15 => ?_)
      · replace hf := gIfP (bI_nz c15) hf
        refine g_iload_n (pc := 92) Z 0 dX4_commit_92 rfl ?_
        refine g_if_eq (pc := 93) (tgt := 111) Z dX4_commit_93 (by decide) (fun c0 => absurd c0 (by decide)) (fun _ => ?_)
        refine g_aload_n (pc := 96) Z 1 dX4_commit_96 rfl ?_
        refine g_get (pc := 97) (v := .ref (ad 6)) (T := TX4) (N := 4) Z 0 1 dX4_commit_97 (mm ww152) inx_X4 rfl (by decide) rfl rfl rfl ?_
        refine g_aload_n (pc := 100) Z 1 dX4_commit_100 rfl ?_
        refine g_get (pc := 101) (v := .ref (ad 7)) (T := TX4) (N := 4) Z 0 2 dX4_commit_101 (mm ww164) inx_X4 rfl (by decide) rfl rfl rfl ?_
        refine g_iload_n (pc := 104) Z 2 dX4_commit_104 rfl ?_
        obtain ⟨x16, h17, hf⟩ := Option.bind_eq_some_iff.mp hf
        refine g_calli (pc := 105) (ws2 := fun u => (wH ad ++ wL ad ca u.1 ++ wD ad ca u.2 ++ wC ad ca vC)) (wr := (wH ad)) Z [1, 2, 3, 4, 5, 6, 7, 8, 9, 10, 11] [0] [0, 1, 2, 3, 4, 5, 6, 7, 8, 9, 10, 11] (g_runV Z (c_Log_append l D ad ca N vL vD vC p1 x16 h17) (cwV 2 Z.2.2.2.2.1 (gg_V ww212 ww213 ww214 ww72 ww215) rfl rfl rfl (yv_of rfl yd_Log_append) ⟨Nat.le_of_ble_eq_true rfl, Nat.le_of_ble_eq_true rfl⟩) [1, 2, 3, 4, 5, 6, 7, 8, 9, 10, 11] rfl (by decide) 0 rfl rfl rfl rfl rfl (Nat.le_of_ble_eq_true rfl) dX4_commit_105 ⟨Nat.le_of_ble_eq_true rfl, Nat.le_of_ble_eq_true rfl⟩) rfl rfl (by decide) (by decide) (by decide) (fun _ => rfl) (fun r u hu => ?_)
        obtain ⟨rfl, rfl⟩ := hu
        refine g_if_ne (pc := 108) (tgt := 121) Z dX4_commit_108 (by decide) (fun c18 => ?_) (fun c18 => ?_)
        · replace hf := gIfP (bI_nz c18) hf
          refine g_aload_n (pc := 121) Z 1 dX4_commit_121 rfl ?_
          refine g_get (pc := 122) (v := .ref (ad 7)) (T := TX4) (N := 4) Z 0 2 dX4_commit_122 (mm ww164) inx_X4 rfl (by decide) rfl rfl rfl ?_
          obtain ⟨x19, h20, hf⟩ := Option.bind_eq_some_iff.mp hf
          refine g_callv (pc := 125) (ws2 := fun u => (wH ad ++ wL ad ca x16.2.1 ++ wD ad ca x16.2.2 ++ wC ad ca u)) (wr := (wH ad ++ wL ad ca x16.2.1 ++ wD ad ca x16.2.2)) Z [7, 8, 9, 10, 11] [0, 1, 2, 3, 4, 5, 6] [0, 1, 2, 3, 4, 5, 6, 7, 8, 9, 10, 11] (g_runV Z (c_Chg_accept l D ad ca N vC x19 h20) (cwV 0 Z.2.2.2.2.1 (gg_V ww216 ww217 ww218 ww40 ww219) rfl rfl rfl (yv_of rfl yd_Chg_accept) ⟨Nat.le_of_ble_eq_true rfl, Nat.le_of_ble_eq_true rfl⟩) [7, 8, 9, 10, 11] rfl (by decide) 0 rfl rfl rfl rfl rfl (Nat.le_of_ble_eq_true rfl) dX4_commit_125 ⟨Nat.le_of_ble_eq_true rfl, Nat.le_of_ble_eq_true rfl⟩) rfl rfl (by decide) (by decide) (by decide) (fun _ => rfl) (fun u hu => ?_)
          obtain rfl := hu.symm
          refine g_aload_n (pc := 128) Z 1 dX4_commit_128 rfl ?_
          refine g_get (pc := 129) (v := .ref (ad 6)) (T := TX4) (N := 4) Z 0 1 dX4_commit_129 (mm ww152) inx_X4 rfl (by decide) rfl rfl rfl ?_
          obtain ⟨x21, h22, hf⟩ := Option.bind_eq_some_iff.mp hf
          refine g_calli (pc := 132) (ws2 := fun u => (wH ad ++ wL ad ca x16.2.1 ++ wD ad ca x16.2.2 ++ wC ad ca x19)) (wr := (wH ad ++ wD ad ca x16.2.2 ++ wC ad ca x19)) Z [1] [0, 2, 3, 4, 5, 6, 7, 8, 9, 10, 11] [0, 11, 1, 2, 3, 4, 5, 6, 7, 8, 9, 10] (g_runV Z (c_Log_lastNumber l D ad ca x16.2.1 x21 h22) (cwV 0 Z.2.2.2.2.1 (gg_V ww173 ww174 ww175 ww72 ww176) rfl rfl rfl (yv_of rfl yd_Log_lastNumber) ⟨Nat.le_of_ble_eq_true rfl, Nat.le_of_ble_eq_true rfl⟩) [1] rfl (by decide) 0 rfl rfl rfl rfl rfl (Nat.le_of_ble_eq_true rfl) dX4_commit_132 ⟨Nat.le_of_ble_eq_true rfl, Nat.le_of_ble_eq_true rfl⟩) rfl rfl (by decide) (by decide) (by decide) (fun _ => rfl) (fun r u hu => ?_)
          obtain rfl := hu.symm
          obtain rfl := Except.ok.inj (Option.some.inj hf)
          exact g_iret Z hr dX4_commit_135 (x16.2.1, x16.2.2, x19) ⟨rfl, rfl⟩ rfl
        · replace hf := gIfN (bI_z c18) hf
          refine g_aload_n (pc := 111) Z 1 dX4_commit_111 rfl ?_
          refine g_get (pc := 112) (v := .ref (ad 7)) (T := TX4) (N := 4) Z 0 2 dX4_commit_112 (mm ww164) inx_X4 rfl (by decide) rfl rfl rfl ?_
          obtain ⟨x23, h24, hf⟩ := Option.bind_eq_some_iff.mp hf
          refine g_callv (pc := 115) (ws2 := fun u => (wH ad ++ wL ad ca x16.2.1 ++ wD ad ca x16.2.2 ++ wC ad ca u)) (wr := (wH ad ++ wL ad ca x16.2.1 ++ wD ad ca x16.2.2)) Z [7, 8, 9, 10, 11] [0, 1, 2, 3, 4, 5, 6] [0, 1, 2, 3, 4, 5, 6, 7, 8, 9, 10, 11] (g_runV Z (c_Chg_drop l D ad ca N vC x23 h24) (cwV 0 Z.2.2.2.2.1 (gg_V ww220 ww55 ww56 ww40 ww57) rfl rfl rfl (yv_of rfl yd_Chg_drop) ⟨Nat.le_of_ble_eq_true rfl, Nat.le_of_ble_eq_true rfl⟩) [7, 8, 9, 10, 11] rfl (by decide) 0 rfl rfl rfl rfl rfl (Nat.le_of_ble_eq_true rfl) dX4_commit_115 ⟨Nat.le_of_ble_eq_true rfl, Nat.le_of_ble_eq_true rfl⟩) rfl rfl (by decide) (by decide) (by decide) (fun _ => rfl) (fun u hu => ?_)
          obtain rfl := hu.symm
          refine g_bipush (pc := 118) (v := -2) Z dX4_commit_118 (by decide) ?_
          obtain rfl := Except.ok.inj (Option.some.inj hf)
          exact g_iret Z hr dX4_commit_120 (x16.2.1, x16.2.2, x23) ⟨rfl, rfl⟩ rfl
      · replace hf := gIfN (bI_z c15) hf
        refine g_iconst (pc := 90) (v := -1) Z dX4_commit_90 (by decide) ?_
        obtain rfl := Except.ok.inj (Option.some.inj hf)
        exact g_iret Z hr dX4_commit_91 (vL, vD, vC) ⟨rfl, rfl⟩ rfl
    · replace hf := gIfN (bI_z c10) hf
      refine g_aload_n (pc := 46) Z 0 dX4_commit_46 rfl ?_
      refine g_get (pc := 47) (v := .ref (ad 6)) (T := TX4) (N := 4) Z 0 1 dX4_commit_47 (mm ww152) inx_X4 rfl (by decide) rfl rfl rfl ?_
      refine g_aload_n (pc := 50) Z 0 dX4_commit_50 rfl ?_
      refine g_get (pc := 51) (v := .ref (ad 6)) (T := TX4) (N := 4) Z 0 1 dX4_commit_51 (mm ww152) inx_X4 rfl (by decide) rfl rfl rfl ?_
      obtain ⟨x25, h26, hf⟩ := Option.bind_eq_some_iff.mp hf
      refine g_calli (pc := 54) (ws2 := fun u => (wH ad ++ wL ad ca vL ++ wD ad ca vD ++ wC ad ca vC)) (wr := (wH ad ++ wD ad ca vD ++ wC ad ca vC)) Z [1] [0, 2, 3, 4, 5, 6, 7, 8, 9, 10, 11] [0, 11, 1, 2, 3, 4, 5, 6, 7, 8, 9, 10] (g_runV Z (c_Log_used l D ad ca vL x25 h26) (cwV 0 Z.2.2.2.2.1 (gg_V ww221 ww222 ww223 ww72 ww224) rfl rfl rfl (yv_of rfl yd_Log_used) ⟨Nat.le_of_ble_eq_true rfl, Nat.le_of_ble_eq_true rfl⟩) [1] rfl (by decide) 0 rfl rfl rfl rfl rfl (Nat.le_of_ble_eq_true rfl) dX4_commit_54 ⟨Nat.le_of_ble_eq_true rfl, Nat.le_of_ble_eq_true rfl⟩) rfl rfl (by decide) (by decide) (by decide) (fun _ => rfl) (fun r u hu => ?_)
      obtain rfl := hu.symm
      obtain ⟨x27, h28, hf⟩ := Option.bind_eq_some_iff.mp hf
      refine g_calli (pc := 57) (ws2 := fun u => (wH ad ++ wL ad ca u.1 ++ wD ad ca u.2 ++ wC ad ca vC)) (wr := (wH ad ++ wC ad ca vC)) Z [1, 2, 3, 4, 5, 6] [0, 7, 8, 9, 10, 11] [0, 6, 7, 8, 9, 10, 11, 1, 2, 3, 4, 5] (g_runV Z (c_Log_carryOut l D ad ca N vL vD x25 x27 h28) (cwV 1 Z.2.2.2.2.1 (gg_V ww225 ww226 ww227 ww72 ww228) rfl rfl rfl (yv_of rfl yd_Log_carryOut) ⟨Nat.le_of_ble_eq_true rfl, Nat.le_of_ble_eq_true rfl⟩) [1, 2, 3, 4, 5, 6] rfl (by decide) 0 rfl rfl rfl rfl rfl (Nat.le_of_ble_eq_true rfl) dX4_commit_57 ⟨Nat.le_of_ble_eq_true rfl, Nat.le_of_ble_eq_true rfl⟩) rfl rfl (by decide) (by decide) (by decide) (fun _ => rfl) (fun r u hu => ?_)
      obtain ⟨rfl, rfl⟩ := hu
      refine g_if_eq (pc := 60) (tgt := 67) Z dX4_commit_60 (by decide) (fun c29 => ?_) (fun c29 => ?_)
      · replace hf := gIfN (bI_z c29) hf
        refine g_iconst (pc := 67) (v := 0) Z dX4_commit_67 (by decide) ?_
        refine g_istore_n (pc := 68) (lv' := [(2, .int (0 : Int32)), (0, .ref (ad 0)), (1, .int (bI p1))]) Z dX4_commit_68 (by decide) rfl ?_
        refine g_iload_n (pc := 69) Z 0 dX4_commit_69 rfl ?_
        refine g_if_eq (pc := 70) (tgt := 92) Z dX4_commit_70 (by decide) (fun _ => ?_) (fun c0 => absurd c0 (by decide))
        refine g_iload_n (pc := 92) Z 0 dX4_commit_92 rfl ?_
        refine g_if_eq (pc := 93) (tgt := 111) Z dX4_commit_93 (by decide) (fun _ => ?_) (fun c0 => absurd c0 (by decide))
        refine g_aload_n (pc := 111) Z 1 dX4_commit_111 rfl ?_
        refine g_get (pc := 112) (v := .ref (ad 7)) (T := TX4) (N := 4) Z 0 2 dX4_commit_112 (mm ww164) inx_X4 rfl (by decide) rfl rfl rfl ?_
        obtain ⟨x30, h31, hf⟩ := Option.bind_eq_some_iff.mp hf
        refine g_callv (pc := 115) (ws2 := fun u => (wH ad ++ wL ad ca x27.2.1 ++ wD ad ca x27.2.2 ++ wC ad ca u)) (wr := (wH ad ++ wL ad ca x27.2.1 ++ wD ad ca x27.2.2)) Z [7, 8, 9, 10, 11] [0, 1, 2, 3, 4, 5, 6] [0, 1, 2, 3, 4, 5, 6, 7, 8, 9, 10, 11] (g_runV Z (c_Chg_drop l D ad ca N vC x30 h31) (cwV 0 Z.2.2.2.2.1 (gg_V ww220 ww55 ww56 ww40 ww57) rfl rfl rfl (yv_of rfl yd_Chg_drop) ⟨Nat.le_of_ble_eq_true rfl, Nat.le_of_ble_eq_true rfl⟩) [7, 8, 9, 10, 11] rfl (by decide) 0 rfl rfl rfl rfl rfl (Nat.le_of_ble_eq_true rfl) dX4_commit_115 ⟨Nat.le_of_ble_eq_true rfl, Nat.le_of_ble_eq_true rfl⟩) rfl rfl (by decide) (by decide) (by decide) (fun _ => rfl) (fun u hu => ?_)
        obtain rfl := hu.symm
        refine g_bipush (pc := 118) (v := -2) Z dX4_commit_118 (by decide) ?_
        obtain rfl := Except.ok.inj (Option.some.inj hf)
        exact g_iret Z hr dX4_commit_120 (x27.2.1, x27.2.2, x30) ⟨rfl, rfl⟩ rfl
      · replace hf := gIfP (bI_nz c29) hf
        refine g_iconst (pc := 63) (v := 1) Z dX4_commit_63 (by decide) ?_
        refine g_goto (pc := 64) (tgt := 68) Z dX4_commit_64 (by decide) ?_
        refine g_istore_n (pc := 68) (lv' := [(2, .int (1 : Int32)), (0, .ref (ad 0)), (1, .int (bI p1))]) Z dX4_commit_68 (by decide) rfl ?_
        refine g_iload_n (pc := 69) Z 0 dX4_commit_69 rfl ?_
        refine g_if_eq (pc := 70) (tgt := 92) Z dX4_commit_70 (by decide) (fun c0 => absurd c0 (by decide)) (fun _ => ?_)
        refine g_aload_n (pc := 73) Z 1 dX4_commit_73 rfl ?_
        refine g_get (pc := 74) (v := .ref (ad 6)) (T := TX4) (N := 4) Z 0 1 dX4_commit_74 (mm ww152) inx_X4 rfl (by decide) rfl rfl rfl ?_
        refine g_aload_n (pc := 77) Z 1 dX4_commit_77 rfl ?_
        refine g_get (pc := 78) (v := .ref (ad 7)) (T := TX4) (N := 4) Z 0 2 dX4_commit_78 (mm ww164) inx_X4 rfl (by decide) rfl rfl rfl ?_
        obtain ⟨x32, h33, hf⟩ := Option.bind_eq_some_iff.mp hf
        refine g_calli (pc := 81) (ws2 := fun u => (wH ad ++ wL ad ca x27.2.1 ++ wD ad ca x27.2.2 ++ wC ad ca vC)) (wr := (wH ad ++ wL ad ca x27.2.1 ++ wD ad ca x27.2.2)) Z [7, 8, 9, 10, 11] [0, 1, 2, 3, 4, 5, 6] [0, 1, 2, 3, 4, 5, 6, 7, 8, 9, 10, 11] (g_runV Z (c_Chg_size l D ad ca vC x32 h33) (cwV 0 Z.2.2.2.2.1 (gg_V ww207 ww93 ww94 ww40 ww95) rfl rfl rfl (yv_of rfl yd_Chg_size) ⟨Nat.le_of_ble_eq_true rfl, Nat.le_of_ble_eq_true rfl⟩) [7, 8, 9, 10, 11] rfl (by decide) 0 rfl rfl rfl rfl rfl (Nat.le_of_ble_eq_true rfl) dX4_commit_81 ⟨Nat.le_of_ble_eq_true rfl, Nat.le_of_ble_eq_true rfl⟩) rfl rfl (by decide) (by decide) (by decide) (fun _ => rfl) (fun r u hu => ?_)
        obtain rfl := hu.symm
        obtain ⟨x34, h35, hf⟩ := Option.bind_eq_some_iff.mp hf
        refine g_calli (pc := 84) (ws2 := fun u => (wH ad ++ wL ad ca x27.2.1 ++ wD ad ca x27.2.2 ++ wC ad ca vC)) (wr := (wH ad ++ wD ad ca x27.2.2 ++ wC ad ca vC)) Z [1] [0, 2, 3, 4, 5, 6, 7, 8, 9, 10, 11] [0, 11, 1, 2, 3, 4, 5, 6, 7, 8, 9, 10] (g_runV Z (c_Log_hasRoomFor l D ad ca x27.2.1 x32 x34 h35) (cwV 1 Z.2.2.2.2.1 (gg_V ww208 ww209 ww210 ww72 ww211) rfl rfl rfl (yv_of rfl yd_Log_hasRoomFor) ⟨Nat.le_of_ble_eq_true rfl, Nat.le_of_ble_eq_true rfl⟩) [1] rfl (by decide) 0 rfl rfl rfl rfl rfl (Nat.le_of_ble_eq_true rfl) dX4_commit_84 ⟨Nat.le_of_ble_eq_true rfl, Nat.le_of_ble_eq_true rfl⟩) rfl rfl (by decide) (by decide) (by decide) (fun _ => rfl) (fun r u hu => ?_)
        obtain rfl := hu.symm
        refine g_if_ne (pc := 87) (tgt := 92) Z dX4_commit_87 (by decide) (fun c36 => ?_) (fun c36 => ?_)
        · replace hf := gIfP (bI_nz c36) hf
          refine g_iload_n (pc := 92) Z 0 dX4_commit_92 rfl ?_
          refine g_if_eq (pc := 93) (tgt := 111) Z dX4_commit_93 (by decide) (fun c0 => absurd c0 (by decide)) (fun _ => ?_)
          refine g_aload_n (pc := 96) Z 1 dX4_commit_96 rfl ?_
          refine g_get (pc := 97) (v := .ref (ad 6)) (T := TX4) (N := 4) Z 0 1 dX4_commit_97 (mm ww152) inx_X4 rfl (by decide) rfl rfl rfl ?_
          refine g_aload_n (pc := 100) Z 1 dX4_commit_100 rfl ?_
          refine g_get (pc := 101) (v := .ref (ad 7)) (T := TX4) (N := 4) Z 0 2 dX4_commit_101 (mm ww164) inx_X4 rfl (by decide) rfl rfl rfl ?_
          refine g_iload_n (pc := 104) Z 2 dX4_commit_104 rfl ?_
          obtain ⟨x37, h38, hf⟩ := Option.bind_eq_some_iff.mp hf
          refine g_calli (pc := 105) (ws2 := fun u => (wH ad ++ wL ad ca u.1 ++ wD ad ca u.2 ++ wC ad ca vC)) (wr := (wH ad)) Z [1, 2, 3, 4, 5, 6, 7, 8, 9, 10, 11] [0] [0, 1, 2, 3, 4, 5, 6, 7, 8, 9, 10, 11] (g_runV Z (c_Log_append l D ad ca N x27.2.1 x27.2.2 vC p1 x37 h38) (cwV 2 Z.2.2.2.2.1 (gg_V ww212 ww213 ww214 ww72 ww215) rfl rfl rfl (yv_of rfl yd_Log_append) ⟨Nat.le_of_ble_eq_true rfl, Nat.le_of_ble_eq_true rfl⟩) [1, 2, 3, 4, 5, 6, 7, 8, 9, 10, 11] rfl (by decide) 0 rfl rfl rfl rfl rfl (Nat.le_of_ble_eq_true rfl) dX4_commit_105 ⟨Nat.le_of_ble_eq_true rfl, Nat.le_of_ble_eq_true rfl⟩) rfl rfl (by decide) (by decide) (by decide) (fun _ => rfl) (fun r u hu => ?_)
          obtain ⟨rfl, rfl⟩ := hu
          refine g_if_ne (pc := 108) (tgt := 121) Z dX4_commit_108 (by decide) (fun c39 => ?_) (fun c39 => ?_)
          · replace hf := gIfP (bI_nz c39) hf
            refine g_aload_n (pc := 121) Z 1 dX4_commit_121 rfl ?_
            refine g_get (pc := 122) (v := .ref (ad 7)) (T := TX4) (N := 4) Z 0 2 dX4_commit_122 (mm ww164) inx_X4 rfl (by decide) rfl rfl rfl ?_
            obtain ⟨x40, h41, hf⟩ := Option.bind_eq_some_iff.mp hf
            refine g_callv (pc := 125) (ws2 := fun u => (wH ad ++ wL ad ca x37.2.1 ++ wD ad ca x37.2.2 ++ wC ad ca u)) (wr := (wH ad ++ wL ad ca x37.2.1 ++ wD ad ca x37.2.2)) Z [7, 8, 9, 10, 11] [0, 1, 2, 3, 4, 5, 6] [0, 1, 2, 3, 4, 5, 6, 7, 8, 9, 10, 11] (g_runV Z (c_Chg_accept l D ad ca N vC x40 h41) (cwV 0 Z.2.2.2.2.1 (gg_V ww216 ww217 ww218 ww40 ww219) rfl rfl rfl (yv_of rfl yd_Chg_accept) ⟨Nat.le_of_ble_eq_true rfl, Nat.le_of_ble_eq_true rfl⟩) [7, 8, 9, 10, 11] rfl (by decide) 0 rfl rfl rfl rfl rfl (Nat.le_of_ble_eq_true rfl) dX4_commit_125 ⟨Nat.le_of_ble_eq_true rfl, Nat.le_of_ble_eq_true rfl⟩) rfl rfl (by decide) (by decide) (by decide) (fun _ => rfl) (fun u hu => ?_)
            obtain rfl := hu.symm
            refine g_aload_n (pc := 128) Z 1 dX4_commit_128 rfl ?_
            refine g_get (pc := 129) (v := .ref (ad 6)) (T := TX4) (N := 4) Z 0 1 dX4_commit_129 (mm ww152) inx_X4 rfl (by decide) rfl rfl rfl ?_
            obtain ⟨x42, h43, hf⟩ := Option.bind_eq_some_iff.mp hf
            refine g_calli (pc := 132) (ws2 := fun u => (wH ad ++ wL ad ca x37.2.1 ++ wD ad ca x37.2.2 ++ wC ad ca x40)) (wr := (wH ad ++ wD ad ca x37.2.2 ++ wC ad ca x40)) Z [1] [0, 2, 3, 4, 5, 6, 7, 8, 9, 10, 11] [0, 11, 1, 2, 3, 4, 5, 6, 7, 8, 9, 10] (g_runV Z (c_Log_lastNumber l D ad ca x37.2.1 x42 h43) (cwV 0 Z.2.2.2.2.1 (gg_V ww173 ww174 ww175 ww72 ww176) rfl rfl rfl (yv_of rfl yd_Log_lastNumber) ⟨Nat.le_of_ble_eq_true rfl, Nat.le_of_ble_eq_true rfl⟩) [1] rfl (by decide) 0 rfl rfl rfl rfl rfl (Nat.le_of_ble_eq_true rfl) dX4_commit_132 ⟨Nat.le_of_ble_eq_true rfl, Nat.le_of_ble_eq_true rfl⟩) rfl rfl (by decide) (by decide) (by decide) (fun _ => rfl) (fun r u hu => ?_)
            obtain rfl := hu.symm
            obtain rfl := Except.ok.inj (Option.some.inj hf)
            exact g_iret Z hr dX4_commit_135 (x37.2.1, x37.2.2, x40) ⟨rfl, rfl⟩ rfl
          · replace hf := gIfN (bI_z c39) hf
            refine g_aload_n (pc := 111) Z 1 dX4_commit_111 rfl ?_
            refine g_get (pc := 112) (v := .ref (ad 7)) (T := TX4) (N := 4) Z 0 2 dX4_commit_112 (mm ww164) inx_X4 rfl (by decide) rfl rfl rfl ?_
            obtain ⟨x44, h45, hf⟩ := Option.bind_eq_some_iff.mp hf
            refine g_callv (pc := 115) (ws2 := fun u => (wH ad ++ wL ad ca x37.2.1 ++ wD ad ca x37.2.2 ++ wC ad ca u)) (wr := (wH ad ++ wL ad ca x37.2.1 ++ wD ad ca x37.2.2)) Z [7, 8, 9, 10, 11] [0, 1, 2, 3, 4, 5, 6] [0, 1, 2, 3, 4, 5, 6, 7, 8, 9, 10, 11] (g_runV Z (c_Chg_drop l D ad ca N vC x44 h45) (cwV 0 Z.2.2.2.2.1 (gg_V ww220 ww55 ww56 ww40 ww57) rfl rfl rfl (yv_of rfl yd_Chg_drop) ⟨Nat.le_of_ble_eq_true rfl, Nat.le_of_ble_eq_true rfl⟩) [7, 8, 9, 10, 11] rfl (by decide) 0 rfl rfl rfl rfl rfl (Nat.le_of_ble_eq_true rfl) dX4_commit_115 ⟨Nat.le_of_ble_eq_true rfl, Nat.le_of_ble_eq_true rfl⟩) rfl rfl (by decide) (by decide) (by decide) (fun _ => rfl) (fun u hu => ?_)
            obtain rfl := hu.symm
            refine g_bipush (pc := 118) (v := -2) Z dX4_commit_118 (by decide) ?_
            obtain rfl := Except.ok.inj (Option.some.inj hf)
            exact g_iret Z hr dX4_commit_120 (x37.2.1, x37.2.2, x44) ⟨rfl, rfl⟩ rfl
        · replace hf := gIfN (bI_z c36) hf
          refine g_iconst (pc := 90) (v := -1) Z dX4_commit_90 (by decide) ?_
          obtain rfl := Except.ok.inj (Option.some.inj hf)
          exact g_iret Z hr dX4_commit_91 (x27.2.1, x27.2.2, vC) ⟨rfl, rfl⟩ rfl
  · replace hf := gIfP c5 hf
    refine g_aload_n (pc := 14) Z 0 dX4_commit_14 rfl ?_
    refine g_get (pc := 15) (v := .ref (ad 7)) (T := TX4) (N := 4) Z 0 2 dX4_commit_15 (mm ww164) inx_X4 rfl (by decide) rfl rfl rfl ?_
    obtain ⟨x46, h47, hf⟩ := Option.bind_eq_some_iff.mp hf
    refine g_callv (pc := 18) (ws2 := fun u => (wH ad ++ wL ad ca vL ++ wD ad ca vD ++ wC ad ca u)) (wr := (wH ad ++ wL ad ca vL ++ wD ad ca vD)) Z [7, 8, 9, 10, 11] [0, 1, 2, 3, 4, 5, 6] [0, 1, 2, 3, 4, 5, 6, 7, 8, 9, 10, 11] (g_runV Z (c_Chg_accept l D ad ca N vC x46 h47) (cwV 0 Z.2.2.2.2.1 (gg_V ww216 ww217 ww218 ww40 ww219) rfl rfl rfl (yv_of rfl yd_Chg_accept) ⟨Nat.le_of_ble_eq_true rfl, Nat.le_of_ble_eq_true rfl⟩) [7, 8, 9, 10, 11] rfl (by decide) 0 rfl rfl rfl rfl rfl (Nat.le_of_ble_eq_true rfl) dX4_commit_18 ⟨Nat.le_of_ble_eq_true rfl, Nat.le_of_ble_eq_true rfl⟩) rfl rfl (by decide) (by decide) (by decide) (fun _ => rfl) (fun u hu => ?_)
    obtain rfl := hu.symm
    refine g_aload_n (pc := 21) Z 0 dX4_commit_21 rfl ?_
    refine g_get (pc := 22) (v := .ref (ad 6)) (T := TX4) (N := 4) Z 0 1 dX4_commit_22 (mm ww152) inx_X4 rfl (by decide) rfl rfl rfl ?_
    obtain ⟨x48, h49, hf⟩ := Option.bind_eq_some_iff.mp hf
    refine g_calli (pc := 25) (ws2 := fun u => (wH ad ++ wL ad ca vL ++ wD ad ca vD ++ wC ad ca x46)) (wr := (wH ad ++ wD ad ca vD ++ wC ad ca x46)) Z [1] [0, 2, 3, 4, 5, 6, 7, 8, 9, 10, 11] [0, 11, 1, 2, 3, 4, 5, 6, 7, 8, 9, 10] (g_runV Z (c_Log_lastNumber l D ad ca vL x48 h49) (cwV 0 Z.2.2.2.2.1 (gg_V ww173 ww174 ww175 ww72 ww176) rfl rfl rfl (yv_of rfl yd_Log_lastNumber) ⟨Nat.le_of_ble_eq_true rfl, Nat.le_of_ble_eq_true rfl⟩) [1] rfl (by decide) 0 rfl rfl rfl rfl rfl (Nat.le_of_ble_eq_true rfl) dX4_commit_25 ⟨Nat.le_of_ble_eq_true rfl, Nat.le_of_ble_eq_true rfl⟩) rfl rfl (by decide) (by decide) (by decide) (fun _ => rfl) (fun r u hu => ?_)
    obtain rfl := hu.symm
    obtain rfl := Except.ok.inj (Option.some.inj hf)
    exact g_iret Z hr dX4_commit_28 (vL, vD, x46) ⟨rfl, rfl⟩ rfl
set_option maxHeartbeats 4000000 in
set_option maxRecDepth 100000 in
theorem x_Heap_commit (l : Launch) (hl0 : l.stackTraces = false) (D : va_G) (ad : Nat → Nat) (ca : Nat → ClassId) (N : Nat) (vL : LT) (vD : DT) (vC : CT) (p1 : Bool) (E : String) (hf : f_Heap_commit N vL vD vC p1 = some (.error E)) (sz : Nat) : vx_Met l yX4_commit (cd_Heap_commit :: gA) rx_Heap_commit (va_Pc [.ref (ad 0), .int (bI p1)] (gPX D cls (tys ca) (wH ad ++ wL ad ca vL ++ wD ad ca vD ++ wC ad ca vC) sz RX4 strsH)) (gQE (va_A (wH ad ++ wL ad ca vL ++ wD ad ca vD ++ wC ad ca vC) sz)) (gXC D cls (tys ca) (wH ad ++ wL ad ca vL ++ wD ad ca vD ++ wC ad ca vC) (fun E9 => E9 = E) (va_A (wH ad ++ wL ad ca vL ++ wD ad ca vD ++ wC ad ca vC) sz)) 1 6 (va_A (wH ad ++ wL ad ca vL ++ wD ad ca vD ++ wC ad ca vC) sz) := by
  refine g_metX (cc := cX4_commit) (Qc := gQE) (pe := fun E9 => E9 = E) (lv := [(0, .ref (ad 0)), (1, .int (bI p1))]) (own := RX4) (by decide) rfl rfl (Nat.le_of_ble_eq_true rfl) rfl sz ?_
  intro p e s m args below meth c A Z hr hnm hT htab
  unfold f_Heap_commit at hf
  refine g_aload_n (pc := 0) Z 0 dX4_commit_0 rfl ?_
  rcases gE_er hf with h2 | ⟨x1, h2, hf⟩
  · refine g_callE (pc := 1) (wr := (wL ad ca vL)) Z [0, 2, 3, 4, 5, 6, 7, 8, 9, 10, 11] [1] [1, 0, 2, 3, 4, 5, 6, 7, 8, 9, 10, 11] (g_runXV Z hT (x_Heap_needTransaction l hl0 D ad ca vD vC E h2) (cwV 0 Z.2.2.2.2.1 (gg_V ww177 ww178 ww179 ww2 ww180) rfl rfl rfl (yv_of rfl yd_Heap_needTransaction) ⟨Nat.le_of_ble_eq_true rfl, Nat.le_of_ble_eq_true rfl⟩) [0, 2, 3, 4, 5, 6, 7, 8, 9, 10, 11] rfl (by decide) 0 rfl rfl rfl rfl rfl (Nat.le_of_ble_eq_true rfl) dX4_commit_1 ⟨(Nat.le_of_ble_eq_true rfl), (Nat.le_of_ble_eq_true rfl)⟩) rfl rfl (by decide) (by decide) (by decide) rfl ?_
    exact g_out Z htab rfl (Nat.le_of_ble_eq_true rfl) (Nat.le_of_ble_eq_true rfl)
  · refine g_callv (pc := 1) (ws2 := fun u => (wH ad ++ wL ad ca vL ++ wD ad ca vD ++ wC ad ca vC)) (wr := (wL ad ca vL)) Z [0, 2, 3, 4, 5, 6, 7, 8, 9, 10, 11] [1] [1, 0, 2, 3, 4, 5, 6, 7, 8, 9, 10, 11] (g_runV Z (c_Heap_needTransaction l D ad ca vD vC x1 h2) (cwV 0 Z.2.2.2.2.1 (gg_V ww177 ww178 ww179 ww2 ww180) rfl rfl rfl (yv_of rfl yd_Heap_needTransaction) ⟨Nat.le_of_ble_eq_true rfl, Nat.le_of_ble_eq_true rfl⟩) [0, 2, 3, 4, 5, 6, 7, 8, 9, 10, 11] rfl (by decide) 0 rfl rfl rfl rfl rfl (Nat.le_of_ble_eq_true rfl) dX4_commit_1 ⟨(Nat.le_of_ble_eq_true rfl), (Nat.le_of_ble_eq_true rfl)⟩) rfl rfl (by decide) (by decide) (by decide) (fun _ => rfl) (fun u hu => ?_)
    refine g_aload_n (pc := 4) Z 0 dX4_commit_4 rfl ?_
    refine g_get (pc := 5) (v := .ref (ad 7)) (T := TX4) (N := 4) Z 0 2 dX4_commit_5 (mm ww164) inx_X4 rfl (by decide) rfl rfl rfl ?_
    obtain ⟨x3, h4, hf⟩ := Option.bind_eq_some_iff.mp hf
    refine g_calli (pc := 8) (ws2 := fun u => (wH ad ++ wL ad ca vL ++ wD ad ca vD ++ wC ad ca vC)) (wr := (wH ad ++ wL ad ca vL ++ wD ad ca vD)) Z [7, 8, 9, 10, 11] [0, 1, 2, 3, 4, 5, 6] [0, 1, 2, 3, 4, 5, 6, 7, 8, 9, 10, 11] (g_runV Z (c_Chg_size l D ad ca vC x3 h4) (cwV 0 Z.2.2.2.2.1 (gg_V ww207 ww93 ww94 ww40 ww95) rfl rfl rfl (yv_of rfl yd_Chg_size) ⟨Nat.le_of_ble_eq_true rfl, Nat.le_of_ble_eq_true rfl⟩) [7, 8, 9, 10, 11] rfl (by decide) 0 rfl rfl rfl rfl rfl (Nat.le_of_ble_eq_true rfl) dX4_commit_8 ⟨Nat.le_of_ble_eq_true rfl, Nat.le_of_ble_eq_true rfl⟩) rfl rfl (by decide) (by decide) (by decide) (fun _ => rfl) (fun r u hu => ?_)
    obtain rfl := hu.symm
    refine g_if_ne (pc := 11) (tgt := 29) Z dX4_commit_11 (by decide) (fun c5 => ?_) (fun c5 => ?_)
    · replace hf := gIfN c5 hf
      refine g_aload_n (pc := 29) Z 0 dX4_commit_29 rfl ?_
      refine g_get (pc := 30) (v := .ref (ad 6)) (T := TX4) (N := 4) Z 0 1 dX4_commit_30 (mm ww152) inx_X4 rfl (by decide) rfl rfl rfl ?_
      refine g_aload_n (pc := 33) Z 0 dX4_commit_33 rfl ?_
      refine g_get (pc := 34) (v := .ref (ad 7)) (T := TX4) (N := 4) Z 0 2 dX4_commit_34 (mm ww164) inx_X4 rfl (by decide) rfl rfl rfl ?_
      obtain ⟨x6, h7, hf⟩ := Option.bind_eq_some_iff.mp hf
      refine g_calli (pc := 37) (ws2 := fun u => (wH ad ++ wL ad ca vL ++ wD ad ca vD ++ wC ad ca vC)) (wr := (wH ad ++ wL ad ca vL ++ wD ad ca vD)) Z [7, 8, 9, 10, 11] [0, 1, 2, 3, 4, 5, 6] [0, 1, 2, 3, 4, 5, 6, 7, 8, 9, 10, 11] (g_runV Z (c_Chg_size l D ad ca vC x6 h7) (cwV 0 Z.2.2.2.2.1 (gg_V ww207 ww93 ww94 ww40 ww95) rfl rfl rfl (yv_of rfl yd_Chg_size) ⟨Nat.le_of_ble_eq_true rfl, Nat.le_of_ble_eq_true rfl⟩) [7, 8, 9, 10, 11] rfl (by decide) 0 rfl rfl rfl rfl rfl (Nat.le_of_ble_eq_true rfl) dX4_commit_37 ⟨Nat.le_of_ble_eq_true rfl, Nat.le_of_ble_eq_true rfl⟩) rfl rfl (by decide) (by decide) (by decide) (fun _ => rfl) (fun r u hu => ?_)
      obtain rfl := hu.symm
      obtain ⟨x8, h9, hf⟩ := Option.bind_eq_some_iff.mp hf
      refine g_calli (pc := 40) (ws2 := fun u => (wH ad ++ wL ad ca vL ++ wD ad ca vD ++ wC ad ca vC)) (wr := (wH ad ++ wD ad ca vD ++ wC ad ca vC)) Z [1] [0, 2, 3, 4, 5, 6, 7, 8, 9, 10, 11] [0, 11, 1, 2, 3, 4, 5, 6, 7, 8, 9, 10] (g_runV Z (c_Log_hasRoomFor l D ad ca vL x6 x8 h9) (cwV 1 Z.2.2.2.2.1 (gg_V ww208 ww209 ww210 ww72 ww211) rfl rfl rfl (yv_of rfl yd_Log_hasRoomFor) ⟨Nat.le_of_ble_eq_true rfl, Nat.le_of_ble_eq_true rfl⟩) [1] rfl (by decide) 0 rfl rfl rfl rfl rfl (Nat.le_of_ble_eq_true rfl) dX4_commit_40 ⟨Nat.le_of_ble_eq_true rfl, Nat.le_of_ble_eq_true rfl⟩) rfl rfl (by decide) (by decide) (by decide) (fun _ => rfl) (fun r u hu => ?_)
      obtain rfl := hu.symm
      refine g_if_ne (pc := 43) (tgt := 63) Z dX4_commit_43 (by decide) (fun c10 => ?_) (fun c10 => ?_)
      · replace hf := gIfP (bI_nz c10) hf
        refine g_iconst (pc := 63) (v := 1) Z dX4_commit_63 (by decide) ?_
        refine g_goto (pc := 64) (tgt := 68) Z dX4_commit_64 (by decide) ?_
        refine g_istore_n (pc := 68) (lv' := [(2, .int (1 : Int32)), (0, .ref (ad 0)), (1, .int (bI p1))]) Z dX4_commit_68 (by decide) rfl ?_
        refine g_iload_n (pc := 69) Z 0 dX4_commit_69 rfl ?_
        refine g_if_eq (pc := 70) (tgt := 92) Z dX4_commit_70 (by decide) (fun c0 => absurd c0 (by decide)) (fun _ => ?_)
        refine g_aload_n (pc := 73) Z 1 dX4_commit_73 rfl ?_
        refine g_get (pc := 74) (v := .ref (ad 6)) (T := TX4) (N := 4) Z 0 1 dX4_commit_74 (mm ww152) inx_X4 rfl (by decide) rfl rfl rfl ?_
        refine g_aload_n (pc := 77) Z 1 dX4_commit_77 rfl ?_
        refine g_get (pc := 78) (v := .ref (ad 7)) (T := TX4) (N := 4) Z 0 2 dX4_commit_78 (mm ww164) inx_X4 rfl (by decide) rfl rfl rfl ?_
        obtain ⟨x11, h12, hf⟩ := Option.bind_eq_some_iff.mp hf
        refine g_calli (pc := 81) (ws2 := fun u => (wH ad ++ wL ad ca vL ++ wD ad ca vD ++ wC ad ca vC)) (wr := (wH ad ++ wL ad ca vL ++ wD ad ca vD)) Z [7, 8, 9, 10, 11] [0, 1, 2, 3, 4, 5, 6] [0, 1, 2, 3, 4, 5, 6, 7, 8, 9, 10, 11] (g_runV Z (c_Chg_size l D ad ca vC x11 h12) (cwV 0 Z.2.2.2.2.1 (gg_V ww207 ww93 ww94 ww40 ww95) rfl rfl rfl (yv_of rfl yd_Chg_size) ⟨Nat.le_of_ble_eq_true rfl, Nat.le_of_ble_eq_true rfl⟩) [7, 8, 9, 10, 11] rfl (by decide) 0 rfl rfl rfl rfl rfl (Nat.le_of_ble_eq_true rfl) dX4_commit_81 ⟨Nat.le_of_ble_eq_true rfl, Nat.le_of_ble_eq_true rfl⟩) rfl rfl (by decide) (by decide) (by decide) (fun _ => rfl) (fun r u hu => ?_)
        obtain rfl := hu.symm
        obtain ⟨x13, h14, hf⟩ := Option.bind_eq_some_iff.mp hf
        refine g_calli (pc := 84) (ws2 := fun u => (wH ad ++ wL ad ca vL ++ wD ad ca vD ++ wC ad ca vC)) (wr := (wH ad ++ wD ad ca vD ++ wC ad ca vC)) Z [1] [0, 2, 3, 4, 5, 6, 7, 8, 9, 10, 11] [0, 11, 1, 2, 3, 4, 5, 6, 7, 8, 9, 10] (g_runV Z (c_Log_hasRoomFor l D ad ca vL x11 x13 h14) (cwV 1 Z.2.2.2.2.1 (gg_V ww208 ww209 ww210 ww72 ww211) rfl rfl rfl (yv_of rfl yd_Log_hasRoomFor) ⟨Nat.le_of_ble_eq_true rfl, Nat.le_of_ble_eq_true rfl⟩) [1] rfl (by decide) 0 rfl rfl rfl rfl rfl (Nat.le_of_ble_eq_true rfl) dX4_commit_84 ⟨Nat.le_of_ble_eq_true rfl, Nat.le_of_ble_eq_true rfl⟩) rfl rfl (by decide) (by decide) (by decide) (fun _ => rfl) (fun r u hu => ?_)
        obtain rfl := hu.symm
        refine g_if_ne (pc := 87) (tgt := 92) Z dX4_commit_87 (by decide) (fun c15 => ?_) (fun c15 => ?_)
        · replace hf := gIfP (bI_nz c15) hf
          refine g_iload_n (pc := 92) Z 0 dX4_commit_92 rfl ?_
          refine g_if_eq (pc := 93) (tgt := 111) Z dX4_commit_93 (by decide) (fun c0 => absurd c0 (by decide)) (fun _ => ?_)
          refine g_aload_n (pc := 96) Z 1 dX4_commit_96 rfl ?_
          refine g_get (pc := 97) (v := .ref (ad 6)) (T := TX4) (N := 4) Z 0 1 dX4_commit_97 (mm ww152) inx_X4 rfl (by decide) rfl rfl rfl ?_
          refine g_aload_n (pc := 100) Z 1 dX4_commit_100 rfl ?_
          refine g_get (pc := 101) (v := .ref (ad 7)) (T := TX4) (N := 4) Z 0 2 dX4_commit_101 (mm ww164) inx_X4 rfl (by decide) rfl rfl rfl ?_
          refine g_iload_n (pc := 104) Z 2 dX4_commit_104 rfl ?_
          obtain ⟨x16, h17, hf⟩ := Option.bind_eq_some_iff.mp hf
          refine g_calli (pc := 105) (ws2 := fun u => (wH ad ++ wL ad ca u.1 ++ wD ad ca u.2 ++ wC ad ca vC)) (wr := (wH ad)) Z [1, 2, 3, 4, 5, 6, 7, 8, 9, 10, 11] [0] [0, 1, 2, 3, 4, 5, 6, 7, 8, 9, 10, 11] (g_runV Z (c_Log_append l D ad ca N vL vD vC p1 x16 h17) (cwV 2 Z.2.2.2.2.1 (gg_V ww212 ww213 ww214 ww72 ww215) rfl rfl rfl (yv_of rfl yd_Log_append) ⟨Nat.le_of_ble_eq_true rfl, Nat.le_of_ble_eq_true rfl⟩) [1, 2, 3, 4, 5, 6, 7, 8, 9, 10, 11] rfl (by decide) 0 rfl rfl rfl rfl rfl (Nat.le_of_ble_eq_true rfl) dX4_commit_105 ⟨Nat.le_of_ble_eq_true rfl, Nat.le_of_ble_eq_true rfl⟩) rfl rfl (by decide) (by decide) (by decide) (fun _ => rfl) (fun r u hu => ?_)
          obtain ⟨rfl, rfl⟩ := hu
          refine g_if_ne (pc := 108) (tgt := 121) Z dX4_commit_108 (by decide) (fun c18 => ?_) (fun c18 => ?_)
          · replace hf := gIfP (bI_nz c18) hf
            refine g_aload_n (pc := 121) Z 1 dX4_commit_121 rfl ?_
            refine g_get (pc := 122) (v := .ref (ad 7)) (T := TX4) (N := 4) Z 0 2 dX4_commit_122 (mm ww164) inx_X4 rfl (by decide) rfl rfl rfl ?_
            obtain ⟨x19, h20, hf⟩ := Option.bind_eq_some_iff.mp hf
            refine g_callv (pc := 125) (ws2 := fun u => (wH ad ++ wL ad ca x16.2.1 ++ wD ad ca x16.2.2 ++ wC ad ca u)) (wr := (wH ad ++ wL ad ca x16.2.1 ++ wD ad ca x16.2.2)) Z [7, 8, 9, 10, 11] [0, 1, 2, 3, 4, 5, 6] [0, 1, 2, 3, 4, 5, 6, 7, 8, 9, 10, 11] (g_runV Z (c_Chg_accept l D ad ca N vC x19 h20) (cwV 0 Z.2.2.2.2.1 (gg_V ww216 ww217 ww218 ww40 ww219) rfl rfl rfl (yv_of rfl yd_Chg_accept) ⟨Nat.le_of_ble_eq_true rfl, Nat.le_of_ble_eq_true rfl⟩) [7, 8, 9, 10, 11] rfl (by decide) 0 rfl rfl rfl rfl rfl (Nat.le_of_ble_eq_true rfl) dX4_commit_125 ⟨Nat.le_of_ble_eq_true rfl, Nat.le_of_ble_eq_true rfl⟩) rfl rfl (by decide) (by decide) (by decide) (fun _ => rfl) (fun u hu => ?_)
            obtain rfl := hu.symm
            refine g_aload_n (pc := 128) Z 1 dX4_commit_128 rfl ?_
            refine g_get (pc := 129) (v := .ref (ad 6)) (T := TX4) (N := 4) Z 0 1 dX4_commit_129 (mm ww152) inx_X4 rfl (by decide) rfl rfl rfl ?_
            obtain ⟨x21, h22, hf⟩ := Option.bind_eq_some_iff.mp hf
            refine g_calli (pc := 132) (ws2 := fun u => (wH ad ++ wL ad ca x16.2.1 ++ wD ad ca x16.2.2 ++ wC ad ca x19)) (wr := (wH ad ++ wD ad ca x16.2.2 ++ wC ad ca x19)) Z [1] [0, 2, 3, 4, 5, 6, 7, 8, 9, 10, 11] [0, 11, 1, 2, 3, 4, 5, 6, 7, 8, 9, 10] (g_runV Z (c_Log_lastNumber l D ad ca x16.2.1 x21 h22) (cwV 0 Z.2.2.2.2.1 (gg_V ww173 ww174 ww175 ww72 ww176) rfl rfl rfl (yv_of rfl yd_Log_lastNumber) ⟨Nat.le_of_ble_eq_true rfl, Nat.le_of_ble_eq_true rfl⟩) [1] rfl (by decide) 0 rfl rfl rfl rfl rfl (Nat.le_of_ble_eq_true rfl) dX4_commit_132 ⟨Nat.le_of_ble_eq_true rfl, Nat.le_of_ble_eq_true rfl⟩) rfl rfl (by decide) (by decide) (by decide) (fun _ => rfl) (fun r u hu => ?_)
            obtain rfl := hu.symm
            exact absurd (Option.some.inj hf) (fun h => by cases h)
          · replace hf := gIfN (bI_z c18) hf
            refine g_aload_n (pc := 111) Z 1 dX4_commit_111 rfl ?_
            refine g_get (pc := 112) (v := .ref (ad 7)) (T := TX4) (N := 4) Z 0 2 dX4_commit_112 (mm ww164) inx_X4 rfl (by decide) rfl rfl rfl ?_
            obtain ⟨x23, h24, hf⟩ := Option.bind_eq_some_iff.mp hf
            refine g_callv (pc := 115) (ws2 := fun u => (wH ad ++ wL ad ca x16.2.1 ++ wD ad ca x16.2.2 ++ wC ad ca u)) (wr := (wH ad ++ wL ad ca x16.2.1 ++ wD ad ca x16.2.2)) Z [7, 8, 9, 10, 11] [0, 1, 2, 3, 4, 5, 6] [0, 1, 2, 3, 4, 5, 6, 7, 8, 9, 10, 11] (g_runV Z (c_Chg_drop l D ad ca N vC x23 h24) (cwV 0 Z.2.2.2.2.1 (gg_V ww220 ww55 ww56 ww40 ww57) rfl rfl rfl (yv_of rfl yd_Chg_drop) ⟨Nat.le_of_ble_eq_true rfl, Nat.le_of_ble_eq_true rfl⟩) [7, 8, 9, 10, 11] rfl (by decide) 0 rfl rfl rfl rfl rfl (Nat.le_of_ble_eq_true rfl) dX4_commit_115 ⟨Nat.le_of_ble_eq_true rfl, Nat.le_of_ble_eq_true rfl⟩) rfl rfl (by decide) (by decide) (by decide) (fun _ => rfl) (fun u hu => ?_)
            obtain rfl := hu.symm
            refine g_bipush (pc := 118) (v := -2) Z dX4_commit_118 (by decide) ?_
            exact absurd (Option.some.inj hf) (fun h => by cases h)
        · replace hf := gIfN (bI_z c15) hf
          refine g_iconst (pc := 90) (v := -1) Z dX4_commit_90 (by decide) ?_
          exact absurd (Option.some.inj hf) (fun h => by cases h)
      · replace hf := gIfN (bI_z c10) hf
        refine g_aload_n (pc := 46) Z 0 dX4_commit_46 rfl ?_
        refine g_get (pc := 47) (v := .ref (ad 6)) (T := TX4) (N := 4) Z 0 1 dX4_commit_47 (mm ww152) inx_X4 rfl (by decide) rfl rfl rfl ?_
        refine g_aload_n (pc := 50) Z 0 dX4_commit_50 rfl ?_
        refine g_get (pc := 51) (v := .ref (ad 6)) (T := TX4) (N := 4) Z 0 1 dX4_commit_51 (mm ww152) inx_X4 rfl (by decide) rfl rfl rfl ?_
        obtain ⟨x25, h26, hf⟩ := Option.bind_eq_some_iff.mp hf
        refine g_calli (pc := 54) (ws2 := fun u => (wH ad ++ wL ad ca vL ++ wD ad ca vD ++ wC ad ca vC)) (wr := (wH ad ++ wD ad ca vD ++ wC ad ca vC)) Z [1] [0, 2, 3, 4, 5, 6, 7, 8, 9, 10, 11] [0, 11, 1, 2, 3, 4, 5, 6, 7, 8, 9, 10] (g_runV Z (c_Log_used l D ad ca vL x25 h26) (cwV 0 Z.2.2.2.2.1 (gg_V ww221 ww222 ww223 ww72 ww224) rfl rfl rfl (yv_of rfl yd_Log_used) ⟨Nat.le_of_ble_eq_true rfl, Nat.le_of_ble_eq_true rfl⟩) [1] rfl (by decide) 0 rfl rfl rfl rfl rfl (Nat.le_of_ble_eq_true rfl) dX4_commit_54 ⟨Nat.le_of_ble_eq_true rfl, Nat.le_of_ble_eq_true rfl⟩) rfl rfl (by decide) (by decide) (by decide) (fun _ => rfl) (fun r u hu => ?_)
        obtain rfl := hu.symm
        obtain ⟨x27, h28, hf⟩ := Option.bind_eq_some_iff.mp hf
        refine g_calli (pc := 57) (ws2 := fun u => (wH ad ++ wL ad ca u.1 ++ wD ad ca u.2 ++ wC ad ca vC)) (wr := (wH ad ++ wC ad ca vC)) Z [1, 2, 3, 4, 5, 6] [0, 7, 8, 9, 10, 11] [0, 6, 7, 8, 9, 10, 11, 1, 2, 3, 4, 5] (g_runV Z (c_Log_carryOut l D ad ca N vL vD x25 x27 h28) (cwV 1 Z.2.2.2.2.1 (gg_V ww225 ww226 ww227 ww72 ww228) rfl rfl rfl (yv_of rfl yd_Log_carryOut) ⟨Nat.le_of_ble_eq_true rfl, Nat.le_of_ble_eq_true rfl⟩) [1, 2, 3, 4, 5, 6] rfl (by decide) 0 rfl rfl rfl rfl rfl (Nat.le_of_ble_eq_true rfl) dX4_commit_57 ⟨Nat.le_of_ble_eq_true rfl, Nat.le_of_ble_eq_true rfl⟩) rfl rfl (by decide) (by decide) (by decide) (fun _ => rfl) (fun r u hu => ?_)
        obtain ⟨rfl, rfl⟩ := hu
        refine g_if_eq (pc := 60) (tgt := 67) Z dX4_commit_60 (by decide) (fun c29 => ?_) (fun c29 => ?_)
        · replace hf := gIfN (bI_z c29) hf
          refine g_iconst (pc := 67) (v := 0) Z dX4_commit_67 (by decide) ?_
          refine g_istore_n (pc := 68) (lv' := [(2, .int (0 : Int32)), (0, .ref (ad 0)), (1, .int (bI p1))]) Z dX4_commit_68 (by decide) rfl ?_
          refine g_iload_n (pc := 69) Z 0 dX4_commit_69 rfl ?_
          refine g_if_eq (pc := 70) (tgt := 92) Z dX4_commit_70 (by decide) (fun _ => ?_) (fun c0 => absurd c0 (by decide))
          refine g_iload_n (pc := 92) Z 0 dX4_commit_92 rfl ?_
          refine g_if_eq (pc := 93) (tgt := 111) Z dX4_commit_93 (by decide) (fun _ => ?_) (fun c0 => absurd c0 (by decide))
          refine g_aload_n (pc := 111) Z 1 dX4_commit_111 rfl ?_
          refine g_get (pc := 112) (v := .ref (ad 7)) (T := TX4) (N := 4) Z 0 2 dX4_commit_112 (mm ww164) inx_X4 rfl (by decide) rfl rfl rfl ?_
          obtain ⟨x30, h31, hf⟩ := Option.bind_eq_some_iff.mp hf
          refine g_callv (pc := 115) (ws2 := fun u => (wH ad ++ wL ad ca x27.2.1 ++ wD ad ca x27.2.2 ++ wC ad ca u)) (wr := (wH ad ++ wL ad ca x27.2.1 ++ wD ad ca x27.2.2)) Z [7, 8, 9, 10, 11] [0, 1, 2, 3, 4, 5, 6] [0, 1, 2, 3, 4, 5, 6, 7, 8, 9, 10, 11] (g_runV Z (c_Chg_drop l D ad ca N vC x30 h31) (cwV 0 Z.2.2.2.2.1 (gg_V ww220 ww55 ww56 ww40 ww57) rfl rfl rfl (yv_of rfl yd_Chg_drop) ⟨Nat.le_of_ble_eq_true rfl, Nat.le_of_ble_eq_true rfl⟩) [7, 8, 9, 10, 11] rfl (by decide) 0 rfl rfl rfl rfl rfl (Nat.le_of_ble_eq_true rfl) dX4_commit_115 ⟨Nat.le_of_ble_eq_true rfl, Nat.le_of_ble_eq_true rfl⟩) rfl rfl (by decide) (by decide) (by decide) (fun _ => rfl) (fun u hu => ?_)
          obtain rfl := hu.symm
          refine g_bipush (pc := 118) (v := -2) Z dX4_commit_118 (by decide) ?_
          exact absurd (Option.some.inj hf) (fun h => by cases h)
        · replace hf := gIfP (bI_nz c29) hf
          refine g_iconst (pc := 63) (v := 1) Z dX4_commit_63 (by decide) ?_
          refine g_goto (pc := 64) (tgt := 68) Z dX4_commit_64 (by decide) ?_
          refine g_istore_n (pc := 68) (lv' := [(2, .int (1 : Int32)), (0, .ref (ad 0)), (1, .int (bI p1))]) Z dX4_commit_68 (by decide) rfl ?_
          refine g_iload_n (pc := 69) Z 0 dX4_commit_69 rfl ?_
          refine g_if_eq (pc := 70) (tgt := 92) Z dX4_commit_70 (by decide) (fun c0 => absurd c0 (by decide)) (fun _ => ?_)
          refine g_aload_n (pc := 73) Z 1 dX4_commit_73 rfl ?_
          refine g_get (pc := 74) (v := .ref (ad 6)) (T := TX4) (N := 4) Z 0 1 dX4_commit_74 (mm ww152) inx_X4 rfl (by decide) rfl rfl rfl ?_
          refine g_aload_n (pc := 77) Z 1 dX4_commit_77 rfl ?_
          refine g_get (pc := 78) (v := .ref (ad 7)) (T := TX4) (N := 4) Z 0 2 dX4_commit_78 (mm ww164) inx_X4 rfl (by decide) rfl rfl rfl ?_
          obtain ⟨x32, h33, hf⟩ := Option.bind_eq_some_iff.mp hf
          refine g_calli (pc := 81) (ws2 := fun u => (wH ad ++ wL ad ca x27.2.1 ++ wD ad ca x27.2.2 ++ wC ad ca vC)) (wr := (wH ad ++ wL ad ca x27.2.1 ++ wD ad ca x27.2.2)) Z [7, 8, 9, 10, 11] [0, 1, 2, 3, 4, 5, 6] [0, 1, 2, 3, 4, 5, 6, 7, 8, 9, 10, 11] (g_runV Z (c_Chg_size l D ad ca vC x32 h33) (cwV 0 Z.2.2.2.2.1 (gg_V ww207 ww93 ww94 ww40 ww95) rfl rfl rfl (yv_of rfl yd_Chg_size) ⟨Nat.le_of_ble_eq_true rfl, Nat.le_of_ble_eq_true rfl⟩) [7, 8, 9, 10, 11] rfl (by decide) 0 rfl rfl rfl rfl rfl (Nat.le_of_ble_eq_true rfl) dX4_commit_81 ⟨Nat.le_of_ble_eq_true rfl, Nat.le_of_ble_eq_true rfl⟩) rfl rfl (by decide) (by decide) (by decide) (fun _ => rfl) (fun r u hu => ?_)
          obtain rfl := hu.symm
          obtain ⟨x34, h35, hf⟩ := Option.bind_eq_some_iff.mp hf
          refine g_calli (pc := 84) (ws2 := fun u => (wH ad ++ wL ad ca x27.2.1 ++ wD ad ca x27.2.2 ++ wC ad ca vC)) (wr := (wH ad ++ wD ad ca x27.2.2 ++ wC ad ca vC)) Z [1] [0, 2, 3, 4, 5, 6, 7, 8, 9, 10, 11] [0, 11, 1, 2, 3, 4, 5, 6, 7, 8, 9, 10] (g_runV Z (c_Log_hasRoomFor l D ad ca x27.2.1 x32 x34 h35) (cwV 1 Z.2.2.2.2.1 (gg_V ww208 ww209 ww210 ww72 ww211) rfl rfl rfl (yv_of rfl yd_Log_hasRoomFor) ⟨Nat.le_of_ble_eq_true rfl, Nat.le_of_ble_eq_true rfl⟩) [1] rfl (by decide) 0 rfl rfl rfl rfl rfl (Nat.le_of_ble_eq_true rfl) dX4_commit_84 ⟨Nat.le_of_ble_eq_true rfl, Nat.le_of_ble_eq_true rfl⟩) rfl rfl (by decide) (by decide) (by decide) (fun _ => rfl) (fun r u hu => ?_)
          obtain rfl := hu.symm
          refine g_if_ne (pc := 87) (tgt := 92) Z dX4_commit_87 (by decide) (fun c36 => ?_) (fun c36 => ?_)
          · replace hf := gIfP (bI_nz c36) hf
            refine g_iload_n (pc := 92) Z 0 dX4_commit_92 rfl ?_
            refine g_if_eq (pc := 93) (tgt := 111) Z dX4_commit_93 (by decide) (fun c0 => absurd c0 (by decide)) (fun _ => ?_)
            refine g_aload_n (pc := 96) Z 1 dX4_commit_96 rfl ?_
            refine g_get (pc := 97) (v := .ref (ad 6)) (T := TX4) (N := 4) Z 0 1 dX4_commit_97 (mm ww152) inx_X4 rfl (by decide) rfl rfl rfl ?_
            refine g_aload_n (pc := 100) Z 1 dX4_commit_100 rfl ?_
            refine g_get (pc := 101) (v := .ref (ad 7)) (T := TX4) (N := 4) Z 0 2 dX4_commit_101 (mm ww164) inx_X4 rfl (by decide) rfl rfl rfl ?_
            refine g_iload_n (pc := 104) Z 2 dX4_commit_104 rfl ?_
            obtain ⟨x37, h38, hf⟩ := Option.bind_eq_some_iff.mp hf
            refine g_calli (pc := 105) (ws2 := fun u => (wH ad ++ wL ad ca u.1 ++ wD ad ca u.2 ++ wC ad ca vC)) (wr := (wH ad)) Z [1, 2, 3, 4, 5, 6, 7, 8, 9, 10, 11] [0] [0, 1, 2, 3, 4, 5, 6, 7, 8, 9, 10, 11] (g_runV Z (c_Log_append l D ad ca N x27.2.1 x27.2.2 vC p1 x37 h38) (cwV 2 Z.2.2.2.2.1 (gg_V ww212 ww213 ww214 ww72 ww215) rfl rfl rfl (yv_of rfl yd_Log_append) ⟨Nat.le_of_ble_eq_true rfl, Nat.le_of_ble_eq_true rfl⟩) [1, 2, 3, 4, 5, 6, 7, 8, 9, 10, 11] rfl (by decide) 0 rfl rfl rfl rfl rfl (Nat.le_of_ble_eq_true rfl) dX4_commit_105 ⟨Nat.le_of_ble_eq_true rfl, Nat.le_of_ble_eq_true rfl⟩) rfl rfl (by decide) (by decide) (by decide) (fun _ => rfl) (fun r u hu => ?_)
            obtain ⟨rfl, rfl⟩ := hu
            refine g_if_ne (pc := 108) (tgt := 121) Z dX4_commit_108 (by decide) (fun c39 => ?_) (fun c39 => ?_)
            · replace hf := gIfP (bI_nz c39) hf
              refine g_aload_n (pc := 121) Z 1 dX4_commit_121 rfl ?_
              refine g_get (pc := 122) (v := .ref (ad 7)) (T := TX4) (N := 4) Z 0 2 dX4_commit_122 (mm ww164) inx_X4 rfl (by decide) rfl rfl rfl ?_
              obtain ⟨x40, h41, hf⟩ := Option.bind_eq_some_iff.mp hf
              refine g_callv (pc := 125) (ws2 := fun u => (wH ad ++ wL ad ca x37.2.1 ++ wD ad ca x37.2.2 ++ wC ad ca u)) (wr := (wH ad ++ wL ad ca x37.2.1 ++ wD ad ca x37.2.2)) Z [7, 8, 9, 10, 11] [0, 1, 2, 3, 4, 5, 6] [0, 1, 2, 3, 4, 5, 6, 7, 8, 9, 10, 11] (g_runV Z (c_Chg_accept l D ad ca N vC x40 h41) (cwV 0 Z.2.2.2.2.1 (gg_V ww216 ww217 ww218 ww40 ww219) rfl rfl rfl (yv_of rfl yd_Chg_accept) ⟨Nat.le_of_ble_eq_true rfl, Nat.le_of_ble_eq_true rfl⟩) [7, 8, 9, 10, 11] rfl (by decide) 0 rfl rfl rfl rfl rfl (Nat.le_of_ble_eq_true rfl) dX4_commit_125 ⟨Nat.le_of_ble_eq_true rfl, Nat.le_of_ble_eq_true rfl⟩) rfl rfl (by decide) (by decide) (by decide) (fun _ => rfl) (fun u hu => ?_)
              obtain rfl := hu.symm
              refine g_aload_n (pc := 128) Z 1 dX4_commit_128 rfl ?_
              refine g_get (pc := 129) (v := .ref (ad 6)) (T := TX4) (N := 4) Z 0 1 dX4_commit_129 (mm ww152) inx_X4 rfl (by decide) rfl rfl rfl ?_
              obtain ⟨x42, h43, hf⟩ := Option.bind_eq_some_iff.mp hf
              refine g_calli (pc := 132) (ws2 := fun u => (wH ad ++ wL ad ca x37.2.1 ++ wD ad ca x37.2.2 ++ wC ad ca x40)) (wr := (wH ad ++ wD ad ca x37.2.2 ++ wC ad ca x40)) Z [1] [0, 2, 3, 4, 5, 6, 7, 8, 9, 10, 11] [0, 11, 1, 2, 3, 4, 5, 6, 7, 8, 9, 10] (g_runV Z (c_Log_lastNumber l D ad ca x37.2.1 x42 h43) (cwV 0 Z.2.2.2.2.1 (gg_V ww173 ww174 ww175 ww72 ww176) rfl rfl rfl (yv_of rfl yd_Log_lastNumber) ⟨Nat.le_of_ble_eq_true rfl, Nat.le_of_ble_eq_true rfl⟩) [1] rfl (by decide) 0 rfl rfl rfl rfl rfl (Nat.le_of_ble_eq_true rfl) dX4_commit_132 ⟨Nat.le_of_ble_eq_true rfl, Nat.le_of_ble_eq_true rfl⟩) rfl rfl (by decide) (by decide) (by decide) (fun _ => rfl) (fun r u hu => ?_)
              obtain rfl := hu.symm
              exact absurd (Option.some.inj hf) (fun h => by cases h)
            · replace hf := gIfN (bI_z c39) hf
              refine g_aload_n (pc := 111) Z 1 dX4_commit_111 rfl ?_
              refine g_get (pc := 112) (v := .ref (ad 7)) (T := TX4) (N := 4) Z 0 2 dX4_commit_112 (mm ww164) inx_X4 rfl (by decide) rfl rfl rfl ?_
              obtain ⟨x44, h45, hf⟩ := Option.bind_eq_some_iff.mp hf
              refine g_callv (pc := 115) (ws2 := fun u => (wH ad ++ wL ad ca x37.2.1 ++ wD ad ca x37.2.2 ++ wC ad ca u)) (wr := (wH ad ++ wL ad ca x37.2.1 ++ wD ad ca x37.2.2)) Z [7, 8, 9, 10, 11] [0, 1, 2, 3, 4, 5, 6] [0, 1, 2, 3, 4, 5, 6, 7, 8, 9, 10, 11] (g_runV Z (c_Chg_drop l D ad ca N vC x44 h45) (cwV 0 Z.2.2.2.2.1 (gg_V ww220 ww55 ww56 ww40 ww57) rfl rfl rfl (yv_of rfl yd_Chg_drop) ⟨Nat.le_of_ble_eq_true rfl, Nat.le_of_ble_eq_true rfl⟩) [7, 8, 9, 10, 11] rfl (by decide) 0 rfl rfl rfl rfl rfl (Nat.le_of_ble_eq_true rfl) dX4_commit_115 ⟨Nat.le_of_ble_eq_true rfl, Nat.le_of_ble_eq_true rfl⟩) rfl rfl (by decide) (by decide) (by decide) (fun _ => rfl) (fun u hu => ?_)
              obtain rfl := hu.symm
              refine g_bipush (pc := 118) (v := -2) Z dX4_commit_118 (by decide) ?_
              exact absurd (Option.some.inj hf) (fun h => by cases h)
          · replace hf := gIfN (bI_z c36) hf
            refine g_iconst (pc := 90) (v := -1) Z dX4_commit_90 (by decide) ?_
            exact absurd (Option.some.inj hf) (fun h => by cases h)
    · replace hf := gIfP c5 hf
      refine g_aload_n (pc := 14) Z 0 dX4_commit_14 rfl ?_
      refine g_get (pc := 15) (v := .ref (ad 7)) (T := TX4) (N := 4) Z 0 2 dX4_commit_15 (mm ww164) inx_X4 rfl (by decide) rfl rfl rfl ?_
      obtain ⟨x46, h47, hf⟩ := Option.bind_eq_some_iff.mp hf
      refine g_callv (pc := 18) (ws2 := fun u => (wH ad ++ wL ad ca vL ++ wD ad ca vD ++ wC ad ca u)) (wr := (wH ad ++ wL ad ca vL ++ wD ad ca vD)) Z [7, 8, 9, 10, 11] [0, 1, 2, 3, 4, 5, 6] [0, 1, 2, 3, 4, 5, 6, 7, 8, 9, 10, 11] (g_runV Z (c_Chg_accept l D ad ca N vC x46 h47) (cwV 0 Z.2.2.2.2.1 (gg_V ww216 ww217 ww218 ww40 ww219) rfl rfl rfl (yv_of rfl yd_Chg_accept) ⟨Nat.le_of_ble_eq_true rfl, Nat.le_of_ble_eq_true rfl⟩) [7, 8, 9, 10, 11] rfl (by decide) 0 rfl rfl rfl rfl rfl (Nat.le_of_ble_eq_true rfl) dX4_commit_18 ⟨Nat.le_of_ble_eq_true rfl, Nat.le_of_ble_eq_true rfl⟩) rfl rfl (by decide) (by decide) (by decide) (fun _ => rfl) (fun u hu => ?_)
      obtain rfl := hu.symm
      refine g_aload_n (pc := 21) Z 0 dX4_commit_21 rfl ?_
      refine g_get (pc := 22) (v := .ref (ad 6)) (T := TX4) (N := 4) Z 0 1 dX4_commit_22 (mm ww152) inx_X4 rfl (by decide) rfl rfl rfl ?_
      obtain ⟨x48, h49, hf⟩ := Option.bind_eq_some_iff.mp hf
      refine g_calli (pc := 25) (ws2 := fun u => (wH ad ++ wL ad ca vL ++ wD ad ca vD ++ wC ad ca x46)) (wr := (wH ad ++ wD ad ca vD ++ wC ad ca x46)) Z [1] [0, 2, 3, 4, 5, 6, 7, 8, 9, 10, 11] [0, 11, 1, 2, 3, 4, 5, 6, 7, 8, 9, 10] (g_runV Z (c_Log_lastNumber l D ad ca vL x48 h49) (cwV 0 Z.2.2.2.2.1 (gg_V ww173 ww174 ww175 ww72 ww176) rfl rfl rfl (yv_of rfl yd_Log_lastNumber) ⟨Nat.le_of_ble_eq_true rfl, Nat.le_of_ble_eq_true rfl⟩) [1] rfl (by decide) 0 rfl rfl rfl rfl rfl (Nat.le_of_ble_eq_true rfl) dX4_commit_25 ⟨Nat.le_of_ble_eq_true rfl, Nat.le_of_ble_eq_true rfl⟩) rfl rfl (by decide) (by decide) (by decide) (fun _ => rfl) (fun r u hu => ?_)
      obtain rfl := hu.symm
      exact absurd (Option.some.inj hf) (fun h => by cases h)
theorem ww229 : Cond.methodLink RX4 116 yX2_waiting ∈ gA := wt2 229 rfl rfl
theorem ww230 : Cond.instanceMethod yX2_waiting ∈ gA := wt2 230 rfl rfl
theorem ww231 : Cond.selects RX2 yX2_waiting yX2_waiting ∈ gA := wt2 231 rfl rfl
theorem ww232 : cd_Disk_waiting ∈ gA := wt2 232 rfl rfl
/-! RedoHeap.sync()I -/
def f_Heap_sync (N : Nat) (vD : DT) : Option (Except String (Int32 × DT)) :=
  gE (f_Heap_needPower vD) fun x1 => (f_Disk_waiting vD).bind fun x3 => (f_Disk_settleAll N vD).bind fun x5 => some (Except.ok (x3, x5))
abbrev cd_Heap_sync : Cond := .code yX4_sync cX4_sync 2 (some .int)
theorem yd_Heap_sync : yX4_sync.cls ≠ "java/lang/invoke/MethodHandle" ∧ yX4_sync.cls ≠ "java/lang/invoke/VarHandle" ∧ (parseMethodDescriptor yX4_sync.desc).map (fun d => d.parameters.length) = some 0 := by decide +kernel
abbrev rm_Heap_sync : Room := { frames := 3, cells := 0, slots := 0, locals := 63 }
abbrev rx_Heap_sync : Room := { frames := 7, cells := 1, slots := 6, locals := 102 }
abbrev q_Heap_sync (D : va_G) (ad : Nat → Nat) (ca : Nat → ClassId) (res : Int32 × DT) (A : Nat → Prop) : Array Value → State → Outcome → State → Prop := va_Qi (fun (r : Int32) (u : DT) => r = res.1 ∧ u = res.2) (gB D cls (tys ca) A (fun (u : DT) => (wH ad ++ wD ad ca u))) A
set_option maxHeartbeats 4000000 in
set_option maxRecDepth 100000 in
theorem c_Heap_sync (l : Launch) (D : va_G) (ad : Nat → Nat) (ca : Nat → ClassId) (N : Nat) (vD : DT) (res : Int32 × DT) (hf : f_Heap_sync N vD = some (.ok res)) (sz : Nat) : Met l yX4_sync (cd_Heap_sync :: gA) rm_Heap_sync (va_Pc [.ref (ad 0)] (gP D cls (tys ca) (wH ad ++ wD ad ca vD) sz)) (q_Heap_sync D ad ca res (va_A (wH ad ++ wD ad ca vD) sz)) 0 0 (va_A (wH ad ++ wD ad ca vD) sz) := by
  refine g_met (cc := cX4_sync) (Qc := q_Heap_sync D ad ca res) (lv := [(0, .ref (ad 0))]) (own := RX4) (by decide) rfl rfl (Nat.le_of_ble_eq_true rfl) rfl sz ?_
  intro p e s m args below meth c A Z hr hnm
  unfold f_Heap_sync at hf
  refine g_aload_n (pc := 0) Z 0 dX4_sync_0 rfl ?_
  obtain ⟨x1, h2, hf⟩ := gE_ok hf
  refine g_callv (pc := 1) (ws2 := fun u => (wH ad ++ wD ad ca vD)) (wr := ([] : va_W)) Z [0, 1, 2, 3, 4, 5] [] [0, 1, 2, 3, 4, 5] (g_runV Z (c_Heap_needPower l D ad ca vD x1 h2) (cwV 0 Z.2.2.2.2.1 (gg_V ww160 ww161 ww162 ww2 ww163) rfl rfl rfl (yv_of rfl yd_Heap_needPower) ⟨Nat.le_of_ble_eq_true rfl, Nat.le_of_ble_eq_true rfl⟩) [0, 1, 2, 3, 4, 5] rfl (by decide) 0 rfl rfl rfl rfl rfl (Nat.le_of_ble_eq_true rfl) dX4_sync_1 ⟨(Nat.le_of_ble_eq_true rfl), (Nat.le_of_ble_eq_true rfl)⟩) rfl rfl (by decide) (by decide) (by decide) (fun _ => rfl) (fun u hu => ?_)
  refine g_aload_n (pc := 4) Z 0 dX4_sync_4 rfl ?_
  refine g_get (pc := 5) (v := .ref (ad 1)) (T := TX4) (N := 4) Z 0 0 dX4_sync_5 (mm ww148) inx_X4 rfl (by decide) rfl rfl rfl ?_
  obtain ⟨x3, h4, hf⟩ := Option.bind_eq_some_iff.mp hf
  refine g_calli (pc := 8) (ws2 := fun u => (wH ad ++ wD ad ca vD)) (wr := (wH ad)) Z [1, 2, 3, 4, 5] [0] [0, 1, 2, 3, 4, 5] (g_runV Z (c_Disk_waiting l D ad ca vD x3 h4) (cwV 0 Z.2.2.2.2.1 (gg_V ww229 ww230 ww231 ww16 ww232) rfl rfl rfl (yv_of rfl yd_Disk_waiting) ⟨Nat.le_of_ble_eq_true rfl, Nat.le_of_ble_eq_true rfl⟩) [1, 2, 3, 4, 5] rfl (by decide) 0 rfl rfl rfl rfl rfl (Nat.le_of_ble_eq_true rfl) dX4_sync_8 ⟨Nat.le_of_ble_eq_true rfl, Nat.le_of_ble_eq_true rfl⟩) rfl rfl (by decide) (by decide) (by decide) (fun _ => rfl) (fun r u hu => ?_)
  obtain rfl := hu.symm
  refine g_istore_n (pc := 11) (lv' := [(1, .int x3), (0, .ref (ad 0))]) Z dX4_sync_11 (by decide) rfl ?_
  refine g_aload_n (pc := 12) Z 1 dX4_sync_12 rfl ?_
  refine g_get (pc := 13) (v := .ref (ad 1)) (T := TX4) (N := 4) Z 0 0 dX4_sync_13 (mm ww148) inx_X4 rfl (by decide) rfl rfl rfl ?_
  obtain ⟨x5, h6, hf⟩ := Option.bind_eq_some_iff.mp hf
  refine g_callv (pc := 16) (ws2 := fun u => (wH ad ++ wD ad ca u)) (wr := (wH ad)) Z [1, 2, 3, 4, 5] [0] [0, 1, 2, 3, 4, 5] (g_runV Z (c_Disk_settleAll l D ad ca N vD x5 h6) (cwV 0 Z.2.2.2.2.1 (gg_V ww151 ww88 ww89 ww16 ww90) rfl rfl rfl (yv_of rfl yd_Disk_settleAll) ⟨Nat.le_of_ble_eq_true rfl, Nat.le_of_ble_eq_true rfl⟩) [1, 2, 3, 4, 5] rfl (by decide) 0 rfl rfl rfl rfl rfl (Nat.le_of_ble_eq_true rfl) dX4_sync_16 ⟨Nat.le_of_ble_eq_true rfl, Nat.le_of_ble_eq_true rfl⟩) rfl rfl (by decide) (by decide) (by decide) (fun _ => rfl) (fun u hu => ?_)
  obtain rfl := hu.symm
  refine g_iload_n (pc := 19) Z 0 dX4_sync_19 rfl ?_
  obtain rfl := Except.ok.inj (Option.some.inj hf)
  exact g_iret Z hr dX4_sync_20 x5 ⟨rfl, rfl⟩ rfl
set_option maxHeartbeats 4000000 in
set_option maxRecDepth 100000 in
theorem x_Heap_sync (l : Launch) (hl0 : l.stackTraces = false) (D : va_G) (ad : Nat → Nat) (ca : Nat → ClassId) (N : Nat) (vD : DT) (E : String) (hf : f_Heap_sync N vD = some (.error E)) (sz : Nat) : vx_Met l yX4_sync (cd_Heap_sync :: gA) rx_Heap_sync (va_Pc [.ref (ad 0)] (gPX D cls (tys ca) (wH ad ++ wD ad ca vD) sz RX4 strsH)) (gQE (va_A (wH ad ++ wD ad ca vD) sz)) (gXC D cls (tys ca) (wH ad ++ wD ad ca vD) (fun E9 => E9 = E) (va_A (wH ad ++ wD ad ca vD) sz)) 1 6 (va_A (wH ad ++ wD ad ca vD) sz) := by
  refine g_metX (cc := cX4_sync) (Qc := gQE) (pe := fun E9 => E9 = E) (lv := [(0, .ref (ad 0))]) (own := RX4) (by decide) rfl rfl (Nat.le_of_ble_eq_true rfl) rfl sz ?_
  intro p e s m args below meth c A Z hr hnm hT htab
  unfold f_Heap_sync at hf
  refine g_aload_n (pc := 0) Z 0 dX4_sync_0 rfl ?_
  rcases gE_er hf with h2 | ⟨x1, h2, hf⟩
  · refine g_callE (pc := 1) (wr := ([] : va_W)) Z [0, 1, 2, 3, 4, 5] [] [0, 1, 2, 3, 4, 5] (g_runXV Z hT (x_Heap_needPower l hl0 D ad ca vD E h2) (cwV 0 Z.2.2.2.2.1 (gg_V ww160 ww161 ww162 ww2 ww163) rfl rfl rfl (yv_of rfl yd_Heap_needPower) ⟨Nat.le_of_ble_eq_true rfl, Nat.le_of_ble_eq_true rfl⟩) [0, 1, 2, 3, 4, 5] rfl (by decide) 0 rfl rfl rfl rfl rfl (Nat.le_of_ble_eq_true rfl) dX4_sync_1 ⟨(Nat.le_of_ble_eq_true rfl), (Nat.le_of_ble_eq_true rfl)⟩) rfl rfl (by decide) (by decide) (by decide) rfl ?_
    exact g_out Z htab rfl (Nat.le_of_ble_eq_true rfl) (Nat.le_of_ble_eq_true rfl)
  · refine g_callv (pc := 1) (ws2 := fun u => (wH ad ++ wD ad ca vD)) (wr := ([] : va_W)) Z [0, 1, 2, 3, 4, 5] [] [0, 1, 2, 3, 4, 5] (g_runV Z (c_Heap_needPower l D ad ca vD x1 h2) (cwV 0 Z.2.2.2.2.1 (gg_V ww160 ww161 ww162 ww2 ww163) rfl rfl rfl (yv_of rfl yd_Heap_needPower) ⟨Nat.le_of_ble_eq_true rfl, Nat.le_of_ble_eq_true rfl⟩) [0, 1, 2, 3, 4, 5] rfl (by decide) 0 rfl rfl rfl rfl rfl (Nat.le_of_ble_eq_true rfl) dX4_sync_1 ⟨(Nat.le_of_ble_eq_true rfl), (Nat.le_of_ble_eq_true rfl)⟩) rfl rfl (by decide) (by decide) (by decide) (fun _ => rfl) (fun u hu => ?_)
    refine g_aload_n (pc := 4) Z 0 dX4_sync_4 rfl ?_
    refine g_get (pc := 5) (v := .ref (ad 1)) (T := TX4) (N := 4) Z 0 0 dX4_sync_5 (mm ww148) inx_X4 rfl (by decide) rfl rfl rfl ?_
    obtain ⟨x3, h4, hf⟩ := Option.bind_eq_some_iff.mp hf
    refine g_calli (pc := 8) (ws2 := fun u => (wH ad ++ wD ad ca vD)) (wr := (wH ad)) Z [1, 2, 3, 4, 5] [0] [0, 1, 2, 3, 4, 5] (g_runV Z (c_Disk_waiting l D ad ca vD x3 h4) (cwV 0 Z.2.2.2.2.1 (gg_V ww229 ww230 ww231 ww16 ww232) rfl rfl rfl (yv_of rfl yd_Disk_waiting) ⟨Nat.le_of_ble_eq_true rfl, Nat.le_of_ble_eq_true rfl⟩) [1, 2, 3, 4, 5] rfl (by decide) 0 rfl rfl rfl rfl rfl (Nat.le_of_ble_eq_true rfl) dX4_sync_8 ⟨Nat.le_of_ble_eq_true rfl, Nat.le_of_ble_eq_true rfl⟩) rfl rfl (by decide) (by decide) (by decide) (fun _ => rfl) (fun r u hu => ?_)
    obtain rfl := hu.symm
    refine g_istore_n (pc := 11) (lv' := [(1, .int x3), (0, .ref (ad 0))]) Z dX4_sync_11 (by decide) rfl ?_
    refine g_aload_n (pc := 12) Z 1 dX4_sync_12 rfl ?_
    refine g_get (pc := 13) (v := .ref (ad 1)) (T := TX4) (N := 4) Z 0 0 dX4_sync_13 (mm ww148) inx_X4 rfl (by decide) rfl rfl rfl ?_
    obtain ⟨x5, h6, hf⟩ := Option.bind_eq_some_iff.mp hf
    refine g_callv (pc := 16) (ws2 := fun u => (wH ad ++ wD ad ca u)) (wr := (wH ad)) Z [1, 2, 3, 4, 5] [0] [0, 1, 2, 3, 4, 5] (g_runV Z (c_Disk_settleAll l D ad ca N vD x5 h6) (cwV 0 Z.2.2.2.2.1 (gg_V ww151 ww88 ww89 ww16 ww90) rfl rfl rfl (yv_of rfl yd_Disk_settleAll) ⟨Nat.le_of_ble_eq_true rfl, Nat.le_of_ble_eq_true rfl⟩) [1, 2, 3, 4, 5] rfl (by decide) 0 rfl rfl rfl rfl rfl (Nat.le_of_ble_eq_true rfl) dX4_sync_16 ⟨Nat.le_of_ble_eq_true rfl, Nat.le_of_ble_eq_true rfl⟩) rfl rfl (by decide) (by decide) (by decide) (fun _ => rfl) (fun u hu => ?_)
    obtain rfl := hu.symm
    refine g_iload_n (pc := 19) Z 0 dX4_sync_19 rfl ?_
    exact absurd (Option.some.inj hf) (fun h => by cases h)
theorem ww233 : Cond.methodLink RX4 122 yX1_takeBack ∈ gA := wt3 1 rfl rfl
theorem ww234 : Cond.instanceMethod yX1_takeBack ∈ gA := wt3 2 rfl rfl
theorem ww235 : Cond.selects RX1 yX1_takeBack yX1_takeBack ∈ gA := wt3 3 rfl rfl
theorem ww236 : cd_Chg_takeBack ∈ gA := wt3 4 rfl rfl
/-! RedoHeap.abort()I -/
def f_Heap_abort (N : Nat) (vD : DT) (vC : CT) : Option (Except String (Int32 × CT)) :=
  gE (f_Heap_needTransaction vD vC) fun x1 => (f_Chg_size vC).bind fun x3 => (f_Chg_takeBack N vC).bind fun x5 => some (Except.ok (x3, x5))
abbrev cd_Heap_abort : Cond := .code yX4_abort cX4_abort 2 (some .int)
theorem yd_Heap_abort : yX4_abort.cls ≠ "java/lang/invoke/MethodHandle" ∧ yX4_abort.cls ≠ "java/lang/invoke/VarHandle" ∧ (parseMethodDescriptor yX4_abort.desc).map (fun d => d.parameters.length) = some 0 := by decide +kernel
abbrev rm_Heap_abort : Room := { frames := 3, cells := 0, slots := 0, locals := 65 }
abbrev rx_Heap_abort : Room := { frames := 8, cells := 1, slots := 6, locals := 122 }
abbrev q_Heap_abort (D : va_G) (ad : Nat → Nat) (ca : Nat → ClassId) (vD : DT) (res : Int32 × CT) (A : Nat → Prop) : Array Value → State → Outcome → State → Prop := va_Qi (fun (r : Int32) (u : CT) => r = res.1 ∧ u = res.2) (gB D cls (tys ca) A (fun (u : CT) => (wH ad ++ wD ad ca vD ++ wC ad ca u))) A
set_option maxHeartbeats 4000000 in
set_option maxRecDepth 100000 in
theorem c_Heap_abort (l : Launch) (D : va_G) (ad : Nat → Nat) (ca : Nat → ClassId) (N : Nat) (vD : DT) (vC : CT) (res : Int32 × CT) (hf : f_Heap_abort N vD vC = some (.ok res)) (sz : Nat) : Met l yX4_abort (cd_Heap_abort :: gA) rm_Heap_abort (va_Pc [.ref (ad 0)] (gP D cls (tys ca) (wH ad ++ wD ad ca vD ++ wC ad ca vC) sz)) (q_Heap_abort D ad ca vD res (va_A (wH ad ++ wD ad ca vD ++ wC ad ca vC) sz)) 0 0 (va_A (wH ad ++ wD ad ca vD ++ wC ad ca vC) sz) := by
  refine g_met (cc := cX4_abort) (Qc := q_Heap_abort D ad ca vD res) (lv := [(0, .ref (ad 0))]) (own := RX4) (by decide) rfl rfl (Nat.le_of_ble_eq_true rfl) rfl sz ?_
  intro p e s m args below meth c A Z hr hnm
  unfold f_Heap_abort at hf
  refine g_aload_n (pc := 0) Z 0 dX4_abort_0 rfl ?_
  obtain ⟨x1, h2, hf⟩ := gE_ok hf
  refine g_callv (pc := 1) (ws2 := fun u => (wH ad ++ wD ad ca vD ++ wC ad ca vC)) (wr := ([] : va_W)) Z [0, 1, 2, 3, 4, 5, 6, 7, 8, 9, 10] [] [0, 1, 2, 3, 4, 5, 6, 7, 8, 9, 10] (g_runV Z (c_Heap_needTransaction l D ad ca vD vC x1 h2) (cwV 0 Z.2.2.2.2.1 (gg_V ww177 ww178 ww179 ww2 ww180) rfl rfl rfl (yv_of rfl yd_Heap_needTransaction) ⟨Nat.le_of_ble_eq_true rfl, Nat.le_of_ble_eq_true rfl⟩) [0, 1, 2, 3, 4, 5, 6, 7, 8, 9, 10] rfl (by decide) 0 rfl rfl rfl rfl rfl (Nat.le_of_ble_eq_true rfl) dX4_abort_1 ⟨(Nat.le_of_ble_eq_true rfl), (Nat.le_of_ble_eq_true rfl)⟩) rfl rfl (by decide) (by decide) (by decide) (fun _ => rfl) (fun u hu => ?_)
  refine g_aload_n (pc := 4) Z 0 dX4_abort_4 rfl ?_
  refine g_get (pc := 5) (v := .ref (ad 7)) (T := TX4) (N := 4) Z 0 2 dX4_abort_5 (mm ww164) inx_X4 rfl (by decide) rfl rfl rfl ?_
  obtain ⟨x3, h4, hf⟩ := Option.bind_eq_some_iff.mp hf
  refine g_calli (pc := 8) (ws2 := fun u => (wH ad ++ wD ad ca vD ++ wC ad ca vC)) (wr := (wH ad ++ wD ad ca vD)) Z [6, 7, 8, 9, 10] [0, 1, 2, 3, 4, 5] [0, 1, 2, 3, 4, 5, 6, 7, 8, 9, 10] (g_runV Z (c_Chg_size l D ad ca vC x3 h4) (cwV 0 Z.2.2.2.2.1 (gg_V ww207 ww93 ww94 ww40 ww95) rfl rfl rfl (yv_of rfl yd_Chg_size) ⟨Nat.le_of_ble_eq_true rfl, Nat.le_of_ble_eq_true rfl⟩) [6, 7, 8, 9, 10] rfl (by decide) 0 rfl rfl rfl rfl rfl (Nat.le_of_ble_eq_true rfl) dX4_abort_8 ⟨Nat.le_of_ble_eq_true rfl, Nat.le_of_ble_eq_true rfl⟩) rfl rfl (by decide) (by decide) (by decide) (fun _ => rfl) (fun r u hu => ?_)
  obtain rfl := hu.symm
  refine g_istore_n (pc := 11) (lv' := [(1, .int x3), (0, .ref (ad 0))]) Z dX4_abort_11 (by decide) rfl ?_
  refine g_aload_n (pc := 12) Z 1 dX4_abort_12 rfl ?_
  refine g_get (pc := 13) (v := .ref (ad 7)) (T := TX4) (N := 4) Z 0 2 dX4_abort_13 (mm ww164) inx_X4 rfl (by decide) rfl rfl rfl ?_
  obtain ⟨x5, h6, hf⟩ := Option.bind_eq_some_iff.mp hf
  refine g_callv (pc := 16) (ws2 := fun u => (wH ad ++ wD ad ca vD ++ wC ad ca u)) (wr := (wH ad ++ wD ad ca vD)) Z [6, 7, 8, 9, 10] [0, 1, 2, 3, 4, 5] [0, 1, 2, 3, 4, 5, 6, 7, 8, 9, 10] (g_runV Z (c_Chg_takeBack l D ad ca N vC x5 h6) (cwV 0 Z.2.2.2.2.1 (gg_V ww233 ww234 ww235 ww40 ww236) rfl rfl rfl (yv_of rfl yd_Chg_takeBack) ⟨Nat.le_of_ble_eq_true rfl, Nat.le_of_ble_eq_true rfl⟩) [6, 7, 8, 9, 10] rfl (by decide) 0 rfl rfl rfl rfl rfl (Nat.le_of_ble_eq_true rfl) dX4_abort_16 ⟨Nat.le_of_ble_eq_true rfl, Nat.le_of_ble_eq_true rfl⟩) rfl rfl (by decide) (by decide) (by decide) (fun _ => rfl) (fun u hu => ?_)
  obtain rfl := hu.symm
  refine g_iload_n (pc := 19) Z 0 dX4_abort_19 rfl ?_
  obtain rfl := Except.ok.inj (Option.some.inj hf)
  exact g_iret Z hr dX4_abort_20 x5 ⟨rfl, rfl⟩ rfl
set_option maxHeartbeats 4000000 in
set_option maxRecDepth 100000 in
theorem x_Heap_abort (l : Launch) (hl0 : l.stackTraces = false) (D : va_G) (ad : Nat → Nat) (ca : Nat → ClassId) (N : Nat) (vD : DT) (vC : CT) (E : String) (hf : f_Heap_abort N vD vC = some (.error E)) (sz : Nat) : vx_Met l yX4_abort (cd_Heap_abort :: gA) rx_Heap_abort (va_Pc [.ref (ad 0)] (gPX D cls (tys ca) (wH ad ++ wD ad ca vD ++ wC ad ca vC) sz RX4 strsH)) (gQE (va_A (wH ad ++ wD ad ca vD ++ wC ad ca vC) sz)) (gXC D cls (tys ca) (wH ad ++ wD ad ca vD ++ wC ad ca vC) (fun E9 => E9 = E) (va_A (wH ad ++ wD ad ca vD ++ wC ad ca vC) sz)) 1 6 (va_A (wH ad ++ wD ad ca vD ++ wC ad ca vC) sz) := by
  refine g_metX (cc := cX4_abort) (Qc := gQE) (pe := fun E9 => E9 = E) (lv := [(0, .ref (ad 0))]) (own := RX4) (by decide) rfl rfl (Nat.le_of_ble_eq_true rfl) rfl sz ?_
  intro p e s m args below meth c A Z hr hnm hT htab
  unfold f_Heap_abort at hf
  refine g_aload_n (pc := 0) Z 0 dX4_abort_0 rfl ?_
  rcases gE_er hf with h2 | ⟨x1, h2, hf⟩
  · refine g_callE (pc := 1) (wr := ([] : va_W)) Z [0, 1, 2, 3, 4, 5, 6, 7, 8, 9, 10] [] [0, 1, 2, 3, 4, 5, 6, 7, 8, 9, 10] (g_runXV Z hT (x_Heap_needTransaction l hl0 D ad ca vD vC E h2) (cwV 0 Z.2.2.2.2.1 (gg_V ww177 ww178 ww179 ww2 ww180) rfl rfl rfl (yv_of rfl yd_Heap_needTransaction) ⟨Nat.le_of_ble_eq_true rfl, Nat.le_of_ble_eq_true rfl⟩) [0, 1, 2, 3, 4, 5, 6, 7, 8, 9, 10] rfl (by decide) 0 rfl rfl rfl rfl rfl (Nat.le_of_ble_eq_true rfl) dX4_abort_1 ⟨(Nat.le_of_ble_eq_true rfl), (Nat.le_of_ble_eq_true rfl)⟩) rfl rfl (by decide) (by decide) (by decide) rfl ?_
    exact g_out Z htab rfl (Nat.le_of_ble_eq_true rfl) (Nat.le_of_ble_eq_true rfl)
  · refine g_callv (pc := 1) (ws2 := fun u => (wH ad ++ wD ad ca vD ++ wC ad ca vC)) (wr := ([] : va_W)) Z [0, 1, 2, 3, 4, 5, 6, 7, 8, 9, 10] [] [0, 1, 2, 3, 4, 5, 6, 7, 8, 9, 10] (g_runV Z (c_Heap_needTransaction l D ad ca vD vC x1 h2) (cwV 0 Z.2.2.2.2.1 (gg_V ww177 ww178 ww179 ww2 ww180) rfl rfl rfl (yv_of rfl yd_Heap_needTransaction) ⟨Nat.le_of_ble_eq_true rfl, Nat.le_of_ble_eq_true rfl⟩) [0, 1, 2, 3, 4, 5, 6, 7, 8, 9, 10] rfl (by decide) 0 rfl rfl rfl rfl rfl (Nat.le_of_ble_eq_true rfl) dX4_abort_1 ⟨(Nat.le_of_ble_eq_true rfl), (Nat.le_of_ble_eq_true rfl)⟩) rfl rfl (by decide) (by decide) (by decide) (fun _ => rfl) (fun u hu => ?_)
    refine g_aload_n (pc := 4) Z 0 dX4_abort_4 rfl ?_
    refine g_get (pc := 5) (v := .ref (ad 7)) (T := TX4) (N := 4) Z 0 2 dX4_abort_5 (mm ww164) inx_X4 rfl (by decide) rfl rfl rfl ?_
    obtain ⟨x3, h4, hf⟩ := Option.bind_eq_some_iff.mp hf
    refine g_calli (pc := 8) (ws2 := fun u => (wH ad ++ wD ad ca vD ++ wC ad ca vC)) (wr := (wH ad ++ wD ad ca vD)) Z [6, 7, 8, 9, 10] [0, 1, 2, 3, 4, 5] [0, 1, 2, 3, 4, 5, 6, 7, 8, 9, 10] (g_runV Z (c_Chg_size l D ad ca vC x3 h4) (cwV 0 Z.2.2.2.2.1 (gg_V ww207 ww93 ww94 ww40 ww95) rfl rfl rfl (yv_of rfl yd_Chg_size) ⟨Nat.le_of_ble_eq_true rfl, Nat.le_of_ble_eq_true rfl⟩) [6, 7, 8, 9, 10] rfl (by decide) 0 rfl rfl rfl rfl rfl (Nat.le_of_ble_eq_true rfl) dX4_abort_8 ⟨Nat.le_of_ble_eq_true rfl, Nat.le_of_ble_eq_true rfl⟩) rfl rfl (by decide) (by decide) (by decide) (fun _ => rfl) (fun r u hu => ?_)
    obtain rfl := hu.symm
    refine g_istore_n (pc := 11) (lv' := [(1, .int x3), (0, .ref (ad 0))]) Z dX4_abort_11 (by decide) rfl ?_
    refine g_aload_n (pc := 12) Z 1 dX4_abort_12 rfl ?_
    refine g_get (pc := 13) (v := .ref (ad 7)) (T := TX4) (N := 4) Z 0 2 dX4_abort_13 (mm ww164) inx_X4 rfl (by decide) rfl rfl rfl ?_
    obtain ⟨x5, h6, hf⟩ := Option.bind_eq_some_iff.mp hf
    refine g_callv (pc := 16) (ws2 := fun u => (wH ad ++ wD ad ca vD ++ wC ad ca u)) (wr := (wH ad ++ wD ad ca vD)) Z [6, 7, 8, 9, 10] [0, 1, 2, 3, 4, 5] [0, 1, 2, 3, 4, 5, 6, 7, 8, 9, 10] (g_runV Z (c_Chg_takeBack l D ad ca N vC x5 h6) (cwV 0 Z.2.2.2.2.1 (gg_V ww233 ww234 ww235 ww40 ww236) rfl rfl rfl (yv_of rfl yd_Chg_takeBack) ⟨Nat.le_of_ble_eq_true rfl, Nat.le_of_ble_eq_true rfl⟩) [6, 7, 8, 9, 10] rfl (by decide) 0 rfl rfl rfl rfl rfl (Nat.le_of_ble_eq_true rfl) dX4_abort_16 ⟨Nat.le_of_ble_eq_true rfl, Nat.le_of_ble_eq_true rfl⟩) rfl rfl (by decide) (by decide) (by decide) (fun _ => rfl) (fun u hu => ?_)
    obtain rfl := hu.symm
    refine g_iload_n (pc := 19) Z 0 dX4_abort_19 rfl ?_
    exact absurd (Option.some.inj hf) (fun h => by cases h)
theorem ww237 : Cond.methodLink RX4 125 yX3_commits ∈ gA := wt3 12 rfl rfl
theorem ww238 : Cond.instanceMethod yX3_commits ∈ gA := wt3 13 rfl rfl
theorem ww239 : Cond.selects RX3 yX3_commits yX3_commits ∈ gA := wt3 14 rfl rfl
theorem ww240 : cd_Log_commits ∈ gA := wt3 15 rfl rfl
/-! RedoHeap.checkpoint()I -/
def f_Heap_checkpoint (N : Nat) (vL : LT) (vD : DT) (vC : CT) : Option (Except String (Int32 × LT × DT)) :=
  gE (f_Heap_needPower vD) fun x1 => (f_Chg_areOpen vC).bind fun x3 => if x3 = true then some (Except.error "java/lang/IllegalStateException") else (f_Log_commits vL).bind fun x6 => (f_Log_used vL).bind fun x8 => (f_Log_carryOut N vL vD x8).bind fun x10 => if x10.1 = true then some (Except.ok (x6, x10.2.1, x10.2.2)) else some (Except.ok ((-2 : Int32), x10.2.1, x10.2.2))
abbrev cd_Heap_checkpoint : Cond := .code yX4_checkpoint cX4_checkpoint 2 (some .int)
theorem yd_Heap_checkpoint : yX4_checkpoint.cls ≠ "java/lang/invoke/MethodHandle" ∧ yX4_checkpoint.cls ≠ "java/lang/invoke/VarHandle" ∧ (parseMethodDescriptor yX4_checkpoint.desc).map (fun d => d.parameters.length) = some 0 := by decide +kernel
abbrev rm_Heap_checkpoint : Room := { frames := 6, cells := 0, slots := 0, locals := 151 }
abbrev rx_Heap_checkpoint : Room := { frames := 7, cells := 1, slots := 6, locals := 151 }
abbrev q_Heap_checkpoint (D : va_G) (ad : Nat → Nat) (ca : Nat → ClassId) (vC : CT) (res : Int32 × LT × DT) (A : Nat → Prop) : Array Value → State → Outcome → State → Prop := va_Qi (fun (r : Int32) (u : LT × DT) => r = res.1 ∧ u = res.2) (gB D cls (tys ca) A (fun (u : LT × DT) => (wH ad ++ wL ad ca u.1 ++ wD ad ca u.2 ++ wC ad ca vC))) A
set_option maxHeartbeats 4000000 in
set_option maxRecDepth 100000 in
theorem c_Heap_checkpoint (l : Launch) (D : va_G) (ad : Nat → Nat) (ca : Nat → ClassId) (N : Nat) (vL : LT) (vD : DT) (vC : CT) (res : Int32 × LT × DT) (hf : f_Heap_checkpoint N vL vD vC = some (.ok res)) (sz : Nat) : Met l yX4_checkpoint (cd_Heap_checkpoint :: gA) rm_Heap_checkpoint (va_Pc [.ref (ad 0)] (gP D cls (tys ca) (wH ad ++ wL ad ca vL ++ wD ad ca vD ++ wC ad ca vC) sz)) (q_Heap_checkpoint D ad ca vC res (va_A (wH ad ++ wL ad ca vL ++ wD ad ca vD ++ wC ad ca vC) sz)) 0 0 (va_A (wH ad ++ wL ad ca vL ++ wD ad ca vD ++ wC ad ca vC) sz) := by
  refine g_met (cc := cX4_checkpoint) (Qc := q_Heap_checkpoint D ad ca vC res) (lv := [(0, .ref (ad 0))]) (own := RX4) (by decide) rfl rfl (Nat.le_of_ble_eq_true rfl) rfl sz ?_
  intro p e s m args below meth c A Z hr hnm
  unfold f_Heap_checkpoint at hf
  refine g_aload_n (pc := 0) Z 0 dX4_checkpoint_0 rfl ?_
  obtain ⟨x1, h2, hf⟩ := gE_ok hf
  refine g_callv (pc := 1) (ws2 := fun u => (wH ad ++ wL ad ca vL ++ wD ad ca vD ++ wC ad ca vC)) (wr := (wL ad ca vL ++ wC ad ca vC)) Z [0, 2, 3, 4, 5, 6] [1, 7, 8, 9, 10, 11] [6, 0, 7, 8, 9, 10, 11, 1, 2, 3, 4, 5] (g_runV Z (c_Heap_needPower l D ad ca vD x1 h2) (cwV 0 Z.2.2.2.2.1 (gg_V ww160 ww161 ww162 ww2 ww163) rfl rfl rfl (yv_of rfl yd_Heap_needPower) ⟨Nat.le_of_ble_eq_true rfl, Nat.le_of_ble_eq_true rfl⟩) [0, 2, 3, 4, 5, 6] rfl (by decide) 0 rfl rfl rfl rfl rfl (Nat.le_of_ble_eq_true rfl) dX4_checkpoint_1 ⟨(Nat.le_of_ble_eq_true rfl), (Nat.le_of_ble_eq_true rfl)⟩) rfl rfl (by decide) (by decide) (by decide) (fun _ => rfl) (fun u hu => ?_)
  refine g_aload_n (pc := 4) Z 0 dX4_checkpoint_4 rfl ?_
  refine g_get (pc := 5) (v := .ref (ad 7)) (T := TX4) (N := 4) Z 0 2 dX4_checkpoint_5 (mm ww164) inx_X4 rfl (by decide) rfl rfl rfl ?_
  obtain ⟨x3, h4, hf⟩ := Option.bind_eq_some_iff.mp hf
  refine g_calli (pc := 8) (ws2 := fun u => (wH ad ++ wL ad ca vL ++ wD ad ca vD ++ wC ad ca vC)) (wr := (wH ad ++ wL ad ca vL ++ wD ad ca vD)) Z [7, 8, 9, 10, 11] [0, 1, 2, 3, 4, 5, 6] [0, 1, 2, 3, 4, 5, 6, 7, 8, 9, 10, 11] (g_runV Z (c_Chg_areOpen l D ad ca vC x3 h4) (cwV 0 Z.2.2.2.2.1 (gg_V ww165 ww166 ww167 ww40 ww168) rfl rfl rfl (yv_of rfl yd_Chg_areOpen) ⟨Nat.le_of_ble_eq_true rfl, Nat.le_of_ble_eq_true rfl⟩) [7, 8, 9, 10, 11] rfl (by decide) 0 rfl rfl rfl rfl rfl (Nat.le_of_ble_eq_true rfl) dX4_checkpoint_8 ⟨Nat.le_of_ble_eq_true rfl, Nat.le_of_ble_eq_true rfl⟩) rfl rfl (by decide) (by decide) (by decide) (fun _ => rfl) (fun r u hu => ?_)
  obtain rfl := hu.symm
  refine g_if_eq (pc := 11) (tgt := 24) Z dX4_checkpoint_11 (by decide) (fun c5 => ?_) (fun c5 => ?_)
  · replace hf := gIfN (bI_z c5) hf
    refine g_aload_n (pc := 24) Z 0 dX4_checkpoint_24 rfl ?_
    refine g_get (pc := 25) (v := .ref (ad 6)) (T := TX4) (N := 4) Z 0 1 dX4_checkpoint_25 (mm ww152) inx_X4 rfl (by decide) rfl rfl rfl ?_
    obtain ⟨x6, h7, hf⟩ := Option.bind_eq_some_iff.mp hf
    refine g_calli (pc := 28) (ws2 := fun u => (wH ad ++ wL ad ca vL ++ wD ad ca vD ++ wC ad ca vC)) (wr := (wH ad ++ wD ad ca vD ++ wC ad ca vC)) Z [1] [0, 2, 3, 4, 5, 6, 7, 8, 9, 10, 11] [0, 11, 1, 2, 3, 4, 5, 6, 7, 8, 9, 10] (g_runV Z (c_Log_commits l D ad ca vL x6 h7) (cwV 0 Z.2.2.2.2.1 (gg_V ww237 ww238 ww239 ww72 ww240) rfl rfl rfl (yv_of rfl yd_Log_commits) ⟨Nat.le_of_ble_eq_true rfl, Nat.le_of_ble_eq_true rfl⟩) [1] rfl (by decide) 0 rfl rfl rfl rfl rfl (Nat.le_of_ble_eq_true rfl) dX4_checkpoint_28 ⟨Nat.le_of_ble_eq_true rfl, Nat.le_of_ble_eq_true rfl⟩) rfl rfl (by decide) (by decide) (by decide) (fun _ => rfl) (fun r u hu => ?_)
    obtain rfl := hu.symm
    refine g_istore_n (pc := 31) (lv' := [(1, .int x6), (0, .ref (ad 0))]) Z dX4_checkpoint_31 (by decide) rfl ?_
    refine g_aload_n (pc := 32) Z 1 dX4_checkpoint_32 rfl ?_
    refine g_get (pc := 33) (v := .ref (ad 6)) (T := TX4) (N := 4) Z 0 1 dX4_checkpoint_33 (mm ww152) inx_X4 rfl (by decide) rfl rfl rfl ?_
    refine g_aload_n (pc := 36) Z 1 dX4_checkpoint_36 rfl ?_
    refine g_get (pc := 37) (v := .ref (ad 6)) (T := TX4) (N := 4) Z 0 1 dX4_checkpoint_37 (mm ww152) inx_X4 rfl (by decide) rfl rfl rfl ?_
    obtain ⟨x8, h9, hf⟩ := Option.bind_eq_some_iff.mp hf
    refine g_calli (pc := 40) (ws2 := fun u => (wH ad ++ wL ad ca vL ++ wD ad ca vD ++ wC ad ca vC)) (wr := (wH ad ++ wD ad ca vD ++ wC ad ca vC)) Z [1] [0, 2, 3, 4, 5, 6, 7, 8, 9, 10, 11] [0, 11, 1, 2, 3, 4, 5, 6, 7, 8, 9, 10] (g_runV Z (c_Log_used l D ad ca vL x8 h9) (cwV 0 Z.2.2.2.2.1 (gg_V ww221 ww222 ww223 ww72 ww224) rfl rfl rfl (yv_of rfl yd_Log_used) ⟨Nat.le_of_ble_eq_true rfl, Nat.le_of_ble_eq_true rfl⟩) [1] rfl (by decide) 0 rfl rfl rfl rfl rfl (Nat.le_of_ble_eq_true rfl) dX4_checkpoint_40 ⟨Nat.le_of_ble_eq_true rfl, Nat.le_of_ble_eq_true rfl⟩) rfl rfl (by decide) (by decide) (by decide) (fun _ => rfl) (fun r u hu => ?_)
    obtain rfl := hu.symm
    obtain ⟨x10, h11, hf⟩ := Option.bind_eq_some_iff.mp hf
    refine g_calli (pc := 43) (ws2 := fun u => (wH ad ++ wL ad ca u.1 ++ wD ad ca u.2 ++ wC ad ca vC)) (wr := (wH ad ++ wC ad ca vC)) Z [1, 2, 3, 4, 5, 6] [0, 7, 8, 9, 10, 11] [0, 6, 7, 8, 9, 10, 11, 1, 2, 3, 4, 5] (g_runV Z (c_Log_carryOut l D ad ca N vL vD x8 x10 h11) (cwV 1 Z.2.2.2.2.1 (gg_V ww225 ww226 ww227 ww72 ww228) rfl rfl rfl (yv_of rfl yd_Log_carryOut) ⟨Nat.le_of_ble_eq_true rfl, Nat.le_of_ble_eq_true rfl⟩) [1, 2, 3, 4, 5, 6] rfl (by decide) 0 rfl rfl rfl rfl rfl (Nat.le_of_ble_eq_true rfl) dX4_checkpoint_43 ⟨Nat.le_of_ble_eq_true rfl, Nat.le_of_ble_eq_true rfl⟩) rfl rfl (by decide) (by decide) (by decide) (fun _ => rfl) (fun r u hu => ?_)
    obtain ⟨rfl, rfl⟩ := hu
    refine g_if_eq (pc := 46) (tgt := 53) Z dX4_checkpoint_46 (by decide) (fun c12 => ?_) (fun c12 => ?_)
    · replace hf := gIfN (bI_z c12) hf
      refine g_bipush (pc := 53) (v := -2) Z dX4_checkpoint_53 (by decide) ?_
      obtain rfl := Except.ok.inj (Option.some.inj hf)
      exact g_iret Z hr dX4_checkpoint_55 (x10.2.1, x10.2.2) ⟨rfl, rfl⟩ rfl
    · replace hf := gIfP (bI_nz c12) hf
      refine g_iload_n (pc := 49) Z 0 dX4_checkpoint_49 rfl ?_
      refine g_goto (pc := 50) (tgt := 55) Z dX4_checkpoint_50 (by decide) ?_
      obtain rfl := Except.ok.inj (Option.some.inj hf)
      exact g_iret Z hr dX4_checkpoint_55 (x10.2.1, x10.2.2) ⟨rfl, rfl⟩ rfl
  · replace hf := gIfP (bI_nz c5) hf
    exact absurd (Option.some.inj hf) (fun h => by cases h)
set_option maxHeartbeats 4000000 in
set_option maxRecDepth 100000 in
theorem x_Heap_checkpoint (l : Launch) (hl0 : l.stackTraces = false) (D : va_G) (ad : Nat → Nat) (ca : Nat → ClassId) (N : Nat) (vL : LT) (vD : DT) (vC : CT) (E : String) (hf : f_Heap_checkpoint N vL vD vC = some (.error E)) (sz : Nat) : vx_Met l yX4_checkpoint (cd_Heap_checkpoint :: gA) rx_Heap_checkpoint (va_Pc [.ref (ad 0)] (gPX D cls (tys ca) (wH ad ++ wL ad ca vL ++ wD ad ca vD ++ wC ad ca vC) sz RX4 strsH)) (gQE (va_A (wH ad ++ wL ad ca vL ++ wD ad ca vD ++ wC ad ca vC) sz)) (gXC D cls (tys ca) (wH ad ++ wL ad ca vL ++ wD ad ca vD ++ wC ad ca vC) (fun E9 => E9 = E) (va_A (wH ad ++ wL ad ca vL ++ wD ad ca vD ++ wC ad ca vC) sz)) 1 6 (va_A (wH ad ++ wL ad ca vL ++ wD ad ca vD ++ wC ad ca vC) sz) := by
  refine g_metX (cc := cX4_checkpoint) (Qc := gQE) (pe := fun E9 => E9 = E) (lv := [(0, .ref (ad 0))]) (own := RX4) (by decide) rfl rfl (Nat.le_of_ble_eq_true rfl) rfl sz ?_
  intro p e s m args below meth c A Z hr hnm hT htab
  unfold f_Heap_checkpoint at hf
  refine g_aload_n (pc := 0) Z 0 dX4_checkpoint_0 rfl ?_
  rcases gE_er hf with h2 | ⟨x1, h2, hf⟩
  · refine g_callE (pc := 1) (wr := (wL ad ca vL ++ wC ad ca vC)) Z [0, 2, 3, 4, 5, 6] [1, 7, 8, 9, 10, 11] [6, 0, 7, 8, 9, 10, 11, 1, 2, 3, 4, 5] (g_runXV Z hT (x_Heap_needPower l hl0 D ad ca vD E h2) (cwV 0 Z.2.2.2.2.1 (gg_V ww160 ww161 ww162 ww2 ww163) rfl rfl rfl (yv_of rfl yd_Heap_needPower) ⟨Nat.le_of_ble_eq_true rfl, Nat.le_of_ble_eq_true rfl⟩) [0, 2, 3, 4, 5, 6] rfl (by decide) 0 rfl rfl rfl rfl rfl (Nat.le_of_ble_eq_true rfl) dX4_checkpoint_1 ⟨(Nat.le_of_ble_eq_true rfl), (Nat.le_of_ble_eq_true rfl)⟩) rfl rfl (by decide) (by decide) (by decide) rfl ?_
    exact g_out Z htab rfl (Nat.le_of_ble_eq_true rfl) (Nat.le_of_ble_eq_true rfl)
  · refine g_callv (pc := 1) (ws2 := fun u => (wH ad ++ wL ad ca vL ++ wD ad ca vD ++ wC ad ca vC)) (wr := (wL ad ca vL ++ wC ad ca vC)) Z [0, 2, 3, 4, 5, 6] [1, 7, 8, 9, 10, 11] [6, 0, 7, 8, 9, 10, 11, 1, 2, 3, 4, 5] (g_runV Z (c_Heap_needPower l D ad ca vD x1 h2) (cwV 0 Z.2.2.2.2.1 (gg_V ww160 ww161 ww162 ww2 ww163) rfl rfl rfl (yv_of rfl yd_Heap_needPower) ⟨Nat.le_of_ble_eq_true rfl, Nat.le_of_ble_eq_true rfl⟩) [0, 2, 3, 4, 5, 6] rfl (by decide) 0 rfl rfl rfl rfl rfl (Nat.le_of_ble_eq_true rfl) dX4_checkpoint_1 ⟨(Nat.le_of_ble_eq_true rfl), (Nat.le_of_ble_eq_true rfl)⟩) rfl rfl (by decide) (by decide) (by decide) (fun _ => rfl) (fun u hu => ?_)
    refine g_aload_n (pc := 4) Z 0 dX4_checkpoint_4 rfl ?_
    refine g_get (pc := 5) (v := .ref (ad 7)) (T := TX4) (N := 4) Z 0 2 dX4_checkpoint_5 (mm ww164) inx_X4 rfl (by decide) rfl rfl rfl ?_
    obtain ⟨x3, h4, hf⟩ := Option.bind_eq_some_iff.mp hf
    refine g_calli (pc := 8) (ws2 := fun u => (wH ad ++ wL ad ca vL ++ wD ad ca vD ++ wC ad ca vC)) (wr := (wH ad ++ wL ad ca vL ++ wD ad ca vD)) Z [7, 8, 9, 10, 11] [0, 1, 2, 3, 4, 5, 6] [0, 1, 2, 3, 4, 5, 6, 7, 8, 9, 10, 11] (g_runV Z (c_Chg_areOpen l D ad ca vC x3 h4) (cwV 0 Z.2.2.2.2.1 (gg_V ww165 ww166 ww167 ww40 ww168) rfl rfl rfl (yv_of rfl yd_Chg_areOpen) ⟨Nat.le_of_ble_eq_true rfl, Nat.le_of_ble_eq_true rfl⟩) [7, 8, 9, 10, 11] rfl (by decide) 0 rfl rfl rfl rfl rfl (Nat.le_of_ble_eq_true rfl) dX4_checkpoint_8 ⟨Nat.le_of_ble_eq_true rfl, Nat.le_of_ble_eq_true rfl⟩) rfl rfl (by decide) (by decide) (by decide) (fun _ => rfl) (fun r u hu => ?_)
    obtain rfl := hu.symm
    refine g_if_eq (pc := 11) (tgt := 24) Z dX4_checkpoint_11 (by decide) (fun c5 => ?_) (fun c5 => ?_)
    · replace hf := gIfN (bI_z c5) hf
      refine g_aload_n (pc := 24) Z 0 dX4_checkpoint_24 rfl ?_
      refine g_get (pc := 25) (v := .ref (ad 6)) (T := TX4) (N := 4) Z 0 1 dX4_checkpoint_25 (mm ww152) inx_X4 rfl (by decide) rfl rfl rfl ?_
      obtain ⟨x6, h7, hf⟩ := Option.bind_eq_some_iff.mp hf
      refine g_calli (pc := 28) (ws2 := fun u => (wH ad ++ wL ad ca vL ++ wD ad ca vD ++ wC ad ca vC)) (wr := (wH ad ++ wD ad ca vD ++ wC ad ca vC)) Z [1] [0, 2, 3, 4, 5, 6, 7, 8, 9, 10, 11] [0, 11, 1, 2, 3, 4, 5, 6, 7, 8, 9, 10] (g_runV Z (c_Log_commits l D ad ca vL x6 h7) (cwV 0 Z.2.2.2.2.1 (gg_V ww237 ww238 ww239 ww72 ww240) rfl rfl rfl (yv_of rfl yd_Log_commits) ⟨Nat.le_of_ble_eq_true rfl, Nat.le_of_ble_eq_true rfl⟩) [1] rfl (by decide) 0 rfl rfl rfl rfl rfl (Nat.le_of_ble_eq_true rfl) dX4_checkpoint_28 ⟨Nat.le_of_ble_eq_true rfl, Nat.le_of_ble_eq_true rfl⟩) rfl rfl (by decide) (by decide) (by decide) (fun _ => rfl) (fun r u hu => ?_)
      obtain rfl := hu.symm
      refine g_istore_n (pc := 31) (lv' := [(1, .int x6), (0, .ref (ad 0))]) Z dX4_checkpoint_31 (by decide) rfl ?_
      refine g_aload_n (pc := 32) Z 1 dX4_checkpoint_32 rfl ?_
      refine g_get (pc := 33) (v := .ref (ad 6)) (T := TX4) (N := 4) Z 0 1 dX4_checkpoint_33 (mm ww152) inx_X4 rfl (by decide) rfl rfl rfl ?_
      refine g_aload_n (pc := 36) Z 1 dX4_checkpoint_36 rfl ?_
      refine g_get (pc := 37) (v := .ref (ad 6)) (T := TX4) (N := 4) Z 0 1 dX4_checkpoint_37 (mm ww152) inx_X4 rfl (by decide) rfl rfl rfl ?_
      obtain ⟨x8, h9, hf⟩ := Option.bind_eq_some_iff.mp hf
      refine g_calli (pc := 40) (ws2 := fun u => (wH ad ++ wL ad ca vL ++ wD ad ca vD ++ wC ad ca vC)) (wr := (wH ad ++ wD ad ca vD ++ wC ad ca vC)) Z [1] [0, 2, 3, 4, 5, 6, 7, 8, 9, 10, 11] [0, 11, 1, 2, 3, 4, 5, 6, 7, 8, 9, 10] (g_runV Z (c_Log_used l D ad ca vL x8 h9) (cwV 0 Z.2.2.2.2.1 (gg_V ww221 ww222 ww223 ww72 ww224) rfl rfl rfl (yv_of rfl yd_Log_used) ⟨Nat.le_of_ble_eq_true rfl, Nat.le_of_ble_eq_true rfl⟩) [1] rfl (by decide) 0 rfl rfl rfl rfl rfl (Nat.le_of_ble_eq_true rfl) dX4_checkpoint_40 ⟨Nat.le_of_ble_eq_true rfl, Nat.le_of_ble_eq_true rfl⟩) rfl rfl (by decide) (by decide) (by decide) (fun _ => rfl) (fun r u hu => ?_)
      obtain rfl := hu.symm
      obtain ⟨x10, h11, hf⟩ := Option.bind_eq_some_iff.mp hf
      refine g_calli (pc := 43) (ws2 := fun u => (wH ad ++ wL ad ca u.1 ++ wD ad ca u.2 ++ wC ad ca vC)) (wr := (wH ad ++ wC ad ca vC)) Z [1, 2, 3, 4, 5, 6] [0, 7, 8, 9, 10, 11] [0, 6, 7, 8, 9, 10, 11, 1, 2, 3, 4, 5] (g_runV Z (c_Log_carryOut l D ad ca N vL vD x8 x10 h11) (cwV 1 Z.2.2.2.2.1 (gg_V ww225 ww226 ww227 ww72 ww228) rfl rfl rfl (yv_of rfl yd_Log_carryOut) ⟨Nat.le_of_ble_eq_true rfl, Nat.le_of_ble_eq_true rfl⟩) [1, 2, 3, 4, 5, 6] rfl (by decide) 0 rfl rfl rfl rfl rfl (Nat.le_of_ble_eq_true rfl) dX4_checkpoint_43 ⟨Nat.le_of_ble_eq_true rfl, Nat.le_of_ble_eq_true rfl⟩) rfl rfl (by decide) (by decide) (by decide) (fun _ => rfl) (fun r u hu => ?_)
      obtain ⟨rfl, rfl⟩ := hu
      refine g_if_eq (pc := 46) (tgt := 53) Z dX4_checkpoint_46 (by decide) (fun c12 => ?_) (fun c12 => ?_)
      · replace hf := gIfN (bI_z c12) hf
        refine g_bipush (pc := 53) (v := -2) Z dX4_checkpoint_53 (by decide) ?_
        exact absurd (Option.some.inj hf) (fun h => by cases h)
      · replace hf := gIfP (bI_nz c12) hf
        refine g_iload_n (pc := 49) Z 0 dX4_checkpoint_49 rfl ?_
        refine g_goto (pc := 50) (tgt := 55) Z dX4_checkpoint_50 (by decide) ?_
        exact absurd (Option.some.inj hf) (fun h => by cases h)
    · replace hf := gIfP (bI_nz c5) hf
      obtain rfl := Except.error.inj (Option.some.inj hf)
      exact g_throw (pc := 14) (cls := "java/lang/IllegalStateException") (text := "a transaction is open") (names := supX) (strs := strsH) (pe := fun E9 => E9 = "java/lang/IllegalStateException") Z hl0 hT htab dX4_checkpoint_14 dX4_checkpoint_17 dX4_checkpoint_18 dX4_checkpoint_20 dX4_checkpoint_23 rfl supX_fit (by decide) (mm ww158) (mm ww159) (vx_hat (fun w h => Z.2.2.2.2.1 w (mm (at_52 w h))) ab_52 (gN.bad Z.2.2.2.2.2.2.2.2)) ag_52 (Nat.le_of_ble_eq_true rfl) (Nat.le_of_ble_eq_true rfl) (Nat.le_of_ble_eq_true rfl) (Nat.le_of_ble_eq_true rfl) rfl (Nat.le_of_ble_eq_true rfl) (Nat.le_of_ble_eq_true rfl)
theorem ww241 : Cond.methodLink RX4 130 yX2_limit ∈ gA := wt3 24 rfl rfl
theorem ww242 : Cond.instanceMethod yX2_limit ∈ gA := wt3 25 rfl rfl
theorem ww243 : Cond.selects RX2 yX2_limit yX2_limit ∈ gA := wt3 26 rfl rfl
theorem ww244 : cd_Disk_limit ∈ gA := wt3 27 rfl rfl
/-! RedoHeap.power(II)I -/
def f_Heap_power (vD : DT) (p1 : Int32) (p2 : Int32) : Option (Except String (Int32 × DT)) :=
  if p1 < 0 then some (Except.error "java/lang/IllegalArgumentException") else if (5000 : Int32) < p1 then some (Except.error "java/lang/IllegalArgumentException") else if p2 < 0 then some (Except.error "java/lang/IllegalArgumentException") else if p2 ≤ (5000 : Int32) then (f_Disk_limit vD p1 p2).bind fun x5 => some (Except.ok (x5.1, x5.2)) else some (Except.error "java/lang/IllegalArgumentException")
abbrev cd_Heap_power : Cond := .code yX4_power cX4_power 3 (some .int)
theorem yd_Heap_power : yX4_power.cls ≠ "java/lang/invoke/MethodHandle" ∧ yX4_power.cls ≠ "java/lang/invoke/VarHandle" ∧ (parseMethodDescriptor yX4_power.desc).map (fun d => d.parameters.length) = some 2 := by decide +kernel
abbrev rm_Heap_power : Room := { frames := 1, cells := 0, slots := 0, locals := 23 }
abbrev rx_Heap_power : Room := { frames := 6, cells := 1, slots := 6, locals := 82 }
abbrev q_Heap_power (D : va_G) (ad : Nat → Nat) (ca : Nat → ClassId) (res : Int32 × DT) (A : Nat → Prop) : Array Value → State → Outcome → State → Prop := va_Qi (fun (r : Int32) (u : DT) => r = res.1 ∧ u = res.2) (gB D cls (tys ca) A (fun (u : DT) => (wH ad ++ wD ad ca u))) A
set_option maxHeartbeats 4000000 in
set_option maxRecDepth 100000 in
theorem c_Heap_power (l : Launch) (D : va_G) (ad : Nat → Nat) (ca : Nat → ClassId) (vD : DT) (p1 : Int32) (p2 : Int32) (res : Int32 × DT) (hf : f_Heap_power vD p1 p2 = some (.ok res)) (sz : Nat) : Met l yX4_power (cd_Heap_power :: gA) rm_Heap_power (va_Pc [.ref (ad 0), .int p1, .int p2] (gP D cls (tys ca) (wH ad ++ wD ad ca vD) sz)) (q_Heap_power D ad ca res (va_A (wH ad ++ wD ad ca vD) sz)) 0 0 (va_A (wH ad ++ wD ad ca vD) sz) := by
  refine g_met (cc := cX4_power) (Qc := q_Heap_power D ad ca res) (lv := [(0, .ref (ad 0)), (1, .int p1), (2, .int p2)]) (own := RX4) (by decide) rfl rfl (Nat.le_of_ble_eq_true rfl) rfl sz ?_
  intro p e s m args below meth c A Z hr hnm
  unfold f_Heap_power at hf
  refine g_iload_n (pc := 0) Z 1 dX4_power_0 rfl ?_
  refine g_if_lt (pc := 1) (tgt := 22) Z dX4_power_1 (by decide) (fun c1 => ?_) (fun c1 => ?_)
  · replace hf := gIfP c1 hf
    exact absurd (Option.some.inj hf) (fun h => by cases h)
  · replace hf := gIfN c1 hf
    refine g_iload_n (pc := 4) Z 1 dX4_power_4 rfl ?_
    refine g_sipush (pc := 5) (v := 5000) Z dX4_power_5 (by decide) ?_
    refine g_icmp_gt (pc := 8) (tgt := 22) Z dX4_power_8 (by decide) (fun c2 => ?_) (fun c2 => ?_)
    · replace hf := gIfP c2 hf
      exact absurd (Option.some.inj hf) (fun h => by cases h)
    · replace hf := gIfN c2 hf
      refine g_iload_n (pc := 11) Z 2 dX4_power_11 rfl ?_
      refine g_if_lt (pc := 12) (tgt := 22) Z dX4_power_12 (by decide) (fun c3 => ?_) (fun c3 => ?_)
      · replace hf := gIfP c3 hf
        exact absurd (Option.some.inj hf) (fun h => by cases h)
      · replace hf := gIfN c3 hf
        refine g_iload_n (pc := 15) Z 2 dX4_power_15 rfl ?_
        refine g_sipush (pc := 16) (v := 5000) Z dX4_power_16 (by decide) ?_
        refine g_icmp_le (pc := 19) (tgt := 32) Z dX4_power_19 (by decide) (fun c4 => ?_) (fun c4 => ?_)
        · replace hf := gIfP c4 hf
          refine g_aload_n (pc := 32) Z 0 dX4_power_32 rfl ?_
          refine g_get (pc := 33) (v := .ref (ad 1)) (T := TX4) (N := 4) Z 0 0 dX4_power_33 (mm ww148) inx_X4 rfl (by decide) rfl rfl rfl ?_
          refine g_iload_n (pc := 36) Z 1 dX4_power_36 rfl ?_
          refine g_iload_n (pc := 37) Z 2 dX4_power_37 rfl ?_
          obtain ⟨x5, h6, hf⟩ := Option.bind_eq_some_iff.mp hf
          refine g_calli (pc := 38) (ws2 := fun u => (wH ad ++ wD ad ca u)) (wr := (wH ad)) Z [1, 2, 3, 4, 5] [0] [0, 1, 2, 3, 4, 5] (g_runV Z (c_Disk_limit l D ad ca vD p1 p2 x5 h6) (cwV 2 Z.2.2.2.2.1 (gg_V ww241 ww242 ww243 ww16 ww244) rfl rfl rfl (yv_of rfl yd_Disk_limit) ⟨Nat.le_of_ble_eq_true rfl, Nat.le_of_ble_eq_true rfl⟩) [1, 2, 3, 4, 5] rfl (by decide) 0 rfl rfl rfl rfl rfl (Nat.le_of_ble_eq_true rfl) dX4_power_38 ⟨Nat.le_of_ble_eq_true rfl, Nat.le_of_ble_eq_true rfl⟩) rfl rfl (by decide) (by decide) (by decide) (fun _ => rfl) (fun r u hu => ?_)
          obtain ⟨rfl, rfl⟩ := hu
          obtain rfl := Except.ok.inj (Option.some.inj hf)
          exact g_iret Z hr dX4_power_41 x5.2 ⟨rfl, rfl⟩ rfl
        · replace hf := gIfN c4 hf
          exact absurd (Option.some.inj hf) (fun h => by cases h)
set_option maxHeartbeats 4000000 in
set_option maxRecDepth 100000 in
theorem x_Heap_power (l : Launch) (hl0 : l.stackTraces = false) (D : va_G) (ad : Nat → Nat) (ca : Nat → ClassId) (vD : DT) (p1 : Int32) (p2 : Int32) (E : String) (hf : f_Heap_power vD p1 p2 = some (.error E)) (sz : Nat) : vx_Met l yX4_power (cd_Heap_power :: gA) rx_Heap_power (va_Pc [.ref (ad 0), .int p1, .int p2] (gPX D cls (tys ca) (wH ad ++ wD ad ca vD) sz RX4 strsH)) (gQE (va_A (wH ad ++ wD ad ca vD) sz)) (gXC D cls (tys ca) (wH ad ++ wD ad ca vD) (fun E9 => E9 = E) (va_A (wH ad ++ wD ad ca vD) sz)) 1 6 (va_A (wH ad ++ wD ad ca vD) sz) := by
  refine g_metX (cc := cX4_power) (Qc := gQE) (pe := fun E9 => E9 = E) (lv := [(0, .ref (ad 0)), (1, .int p1), (2, .int p2)]) (own := RX4) (by decide) rfl rfl (Nat.le_of_ble_eq_true rfl) rfl sz ?_
  intro p e s m args below meth c A Z hr hnm hT htab
  unfold f_Heap_power at hf
  refine g_iload_n (pc := 0) Z 1 dX4_power_0 rfl ?_
  refine g_if_lt (pc := 1) (tgt := 22) Z dX4_power_1 (by decide) (fun c1 => ?_) (fun c1 => ?_)
  · replace hf := gIfP c1 hf
    obtain rfl := Except.error.inj (Option.some.inj hf)
    exact g_throw (pc := 22) (cls := "java/lang/IllegalArgumentException") (text := "not 0 .. 5000") (names := supX) (strs := strsH) (pe := fun E9 => E9 = "java/lang/IllegalArgumentException") Z hl0 hT htab dX4_power_22 dX4_power_25 dX4_power_26 dX4_power_28 dX4_power_31 rfl supX_fit (by decide) (mm ww186) (mm ww187) (vx_hat (fun w h => Z.2.2.2.2.1 w (mm (at_69 w h))) ab_69 (gN.bad Z.2.2.2.2.2.2.2.2)) ag_69 (Nat.le_of_ble_eq_true rfl) (Nat.le_of_ble_eq_true rfl) (Nat.le_of_ble_eq_true rfl) (Nat.le_of_ble_eq_true rfl) rfl (Nat.le_of_ble_eq_true rfl) (Nat.le_of_ble_eq_true rfl)
  · replace hf := gIfN c1 hf
    refine g_iload_n (pc := 4) Z 1 dX4_power_4 rfl ?_
    refine g_sipush (pc := 5) (v := 5000) Z dX4_power_5 (by decide) ?_
    refine g_icmp_gt (pc := 8) (tgt := 22) Z dX4_power_8 (by decide) (fun c2 => ?_) (fun c2 => ?_)
    · replace hf := gIfP c2 hf
      obtain rfl := Except.error.inj (Option.some.inj hf)
      exact g_throw (pc := 22) (cls := "java/lang/IllegalArgumentException") (text := "not 0 .. 5000") (names := supX) (strs := strsH) (pe := fun E9 => E9 = "java/lang/IllegalArgumentException") Z hl0 hT htab dX4_power_22 dX4_power_25 dX4_power_26 dX4_power_28 dX4_power_31 rfl supX_fit (by decide) (mm ww186) (mm ww187) (vx_hat (fun w h => Z.2.2.2.2.1 w (mm (at_69 w h))) ab_69 (gN.bad Z.2.2.2.2.2.2.2.2)) ag_69 (Nat.le_of_ble_eq_true rfl) (Nat.le_of_ble_eq_true rfl) (Nat.le_of_ble_eq_true rfl) (Nat.le_of_ble_eq_true rfl) rfl (Nat.le_of_ble_eq_true rfl) (Nat.le_of_ble_eq_true rfl)
    · replace hf := gIfN c2 hf
      refine g_iload_n (pc := 11) Z 2 dX4_power_11 rfl ?_
      refine g_if_lt (pc := 12) (tgt := 22) Z dX4_power_12 (by decide) (fun c3 => ?_) (fun c3 => ?_)
      · replace hf := gIfP c3 hf
        obtain rfl := Except.error.inj (Option.some.inj hf)
        exact g_throw (pc := 22) (cls := "java/lang/IllegalArgumentException") (text := "not 0 .. 5000") (names := supX) (strs := strsH) (pe := fun E9 => E9 = "java/lang/IllegalArgumentException") Z hl0 hT htab dX4_power_22 dX4_power_25 dX4_power_26 dX4_power_28 dX4_power_31 rfl supX_fit (by decide) (mm ww186) (mm ww187) (vx_hat (fun w h => Z.2.2.2.2.1 w (mm (at_69 w h))) ab_69 (gN.bad Z.2.2.2.2.2.2.2.2)) ag_69 (Nat.le_of_ble_eq_true rfl) (Nat.le_of_ble_eq_true rfl) (Nat.le_of_ble_eq_true rfl) (Nat.le_of_ble_eq_true rfl) rfl (Nat.le_of_ble_eq_true rfl) (Nat.le_of_ble_eq_true rfl)
      · replace hf := gIfN c3 hf
        refine g_iload_n (pc := 15) Z 2 dX4_power_15 rfl ?_
        refine g_sipush (pc := 16) (v := 5000) Z dX4_power_16 (by decide) ?_
        refine g_icmp_le (pc := 19) (tgt := 32) Z dX4_power_19 (by decide) (fun c4 => ?_) (fun c4 => ?_)
        · replace hf := gIfP c4 hf
          refine g_aload_n (pc := 32) Z 0 dX4_power_32 rfl ?_
          refine g_get (pc := 33) (v := .ref (ad 1)) (T := TX4) (N := 4) Z 0 0 dX4_power_33 (mm ww148) inx_X4 rfl (by decide) rfl rfl rfl ?_
          refine g_iload_n (pc := 36) Z 1 dX4_power_36 rfl ?_
          refine g_iload_n (pc := 37) Z 2 dX4_power_37 rfl ?_
          obtain ⟨x5, h6, hf⟩ := Option.bind_eq_some_iff.mp hf
          refine g_calli (pc := 38) (ws2 := fun u => (wH ad ++ wD ad ca u)) (wr := (wH ad)) Z [1, 2, 3, 4, 5] [0] [0, 1, 2, 3, 4, 5] (g_runV Z (c_Disk_limit l D ad ca vD p1 p2 x5 h6) (cwV 2 Z.2.2.2.2.1 (gg_V ww241 ww242 ww243 ww16 ww244) rfl rfl rfl (yv_of rfl yd_Disk_limit) ⟨Nat.le_of_ble_eq_true rfl, Nat.le_of_ble_eq_true rfl⟩) [1, 2, 3, 4, 5] rfl (by decide) 0 rfl rfl rfl rfl rfl (Nat.le_of_ble_eq_true rfl) dX4_power_38 ⟨Nat.le_of_ble_eq_true rfl, Nat.le_of_ble_eq_true rfl⟩) rfl rfl (by decide) (by decide) (by decide) (fun _ => rfl) (fun r u hu => ?_)
          obtain ⟨rfl, rfl⟩ := hu
          exact absurd (Option.some.inj hf) (fun h => by cases h)
        · replace hf := gIfN c4 hf
          obtain rfl := Except.error.inj (Option.some.inj hf)
          exact g_throw (pc := 22) (cls := "java/lang/IllegalArgumentException") (text := "not 0 .. 5000") (names := supX) (strs := strsH) (pe := fun E9 => E9 = "java/lang/IllegalArgumentException") Z hl0 hT htab dX4_power_22 dX4_power_25 dX4_power_26 dX4_power_28 dX4_power_31 rfl supX_fit (by decide) (mm ww186) (mm ww187) (vx_hat (fun w h => Z.2.2.2.2.1 w (mm (at_69 w h))) ab_69 (gN.bad Z.2.2.2.2.2.2.2.2)) ag_69 (Nat.le_of_ble_eq_true rfl) (Nat.le_of_ble_eq_true rfl) (Nat.le_of_ble_eq_true rfl) (Nat.le_of_ble_eq_true rfl) rfl (Nat.le_of_ble_eq_true rfl) (Nat.le_of_ble_eq_true rfl)
theorem ww245 : Cond.methodLink RX4 136 yX2_losePower ∈ gA := wt3 36 rfl rfl
/-! RedoHeap.cut(I)I -/
def f_Heap_cut (N : Nat) (vD : DT) (vC : CT) (p1 : Int32) : Option (Except String (Int32 × DT × CT)) :=
  gE (f_Heap_needPower vD) fun x1 => if 0 ≤ p1 then (f_Disk_waiting vD).bind fun x4 => (f_Disk_losePower N vD p1).bind fun x6 => (f_Chg_drop N vC).bind fun x8 => some (Except.ok (x4, x6, x8)) else some (Except.error "java/lang/IllegalArgumentException")
abbrev cd_Heap_cut : Cond := .code yX4_cut cX4_cut 3 (some .int)
theorem yd_Heap_cut : yX4_cut.cls ≠ "java/lang/invoke/MethodHandle" ∧ yX4_cut.cls ≠ "java/lang/invoke/VarHandle" ∧ (parseMethodDescriptor yX4_cut.desc).map (fun d => d.parameters.length) = some 1 := by decide +kernel
abbrev rm_Heap_cut : Room := { frames := 3, cells := 0, slots := 0, locals := 82 }
abbrev rx_Heap_cut : Room := { frames := 7, cells := 1, slots := 6, locals := 102 }
abbrev q_Heap_cut (D : va_G) (ad : Nat → Nat) (ca : Nat → ClassId) (res : Int32 × DT × CT) (A : Nat → Prop) : Array Value → State → Outcome → State → Prop := va_Qi (fun (r : Int32) (u : DT × CT) => r = res.1 ∧ u = res.2) (gB D cls (tys ca) A (fun (u : DT × CT) => (wH ad ++ wD ad ca u.1 ++ wC ad ca u.2))) A
set_option maxHeartbeats 4000000 in
set_option maxRecDepth 100000 in
theorem c_Heap_cut (l : Launch) (D : va_G) (ad : Nat → Nat) (ca : Nat → ClassId) (N : Nat) (vD : DT) (vC : CT) (p1 : Int32) (res : Int32 × DT × CT) (hf : f_Heap_cut N vD vC p1 = some (.ok res)) (sz : Nat) : Met l yX4_cut (cd_Heap_cut :: gA) rm_Heap_cut (va_Pc [.ref (ad 0), .int p1] (gP D cls (tys ca) (wH ad ++ wD ad ca vD ++ wC ad ca vC) sz)) (q_Heap_cut D ad ca res (va_A (wH ad ++ wD ad ca vD ++ wC ad ca vC) sz)) 0 0 (va_A (wH ad ++ wD ad ca vD ++ wC ad ca vC) sz) := by
  refine g_met (cc := cX4_cut) (Qc := q_Heap_cut D ad ca res) (lv := [(0, .ref (ad 0)), (1, .int p1)]) (own := RX4) (by decide) rfl rfl (Nat.le_of_ble_eq_true rfl) rfl sz ?_
  intro p e s m args below meth c A Z hr hnm
  unfold f_Heap_cut at hf
  refine g_aload_n (pc := 0) Z 0 dX4_cut_0 rfl ?_
  obtain ⟨x1, h2, hf⟩ := gE_ok hf
  refine g_callv (pc := 1) (ws2 := fun u => (wH ad ++ wD ad ca vD ++ wC ad ca vC)) (wr := (wC ad ca vC)) Z [0, 1, 2, 3, 4, 5] [6, 7, 8, 9, 10] [5, 6, 7, 8, 9, 10, 0, 1, 2, 3, 4] (g_runV Z (c_Heap_needPower l D ad ca vD x1 h2) (cwV 0 Z.2.2.2.2.1 (gg_V ww160 ww161 ww162 ww2 ww163) rfl rfl rfl (yv_of rfl yd_Heap_needPower) ⟨Nat.le_of_ble_eq_true rfl, Nat.le_of_ble_eq_true rfl⟩) [0, 1, 2, 3, 4, 5] rfl (by decide) 0 rfl rfl rfl rfl rfl (Nat.le_of_ble_eq_true rfl) dX4_cut_1 ⟨(Nat.le_of_ble_eq_true rfl), (Nat.le_of_ble_eq_true rfl)⟩) rfl rfl (by decide) (by decide) (by decide) (fun _ => rfl) (fun u hu => ?_)
  refine g_iload_n (pc := 4) Z 1 dX4_cut_4 rfl ?_
  refine g_if_ge (pc := 5) (tgt := 18) Z dX4_cut_5 (by decide) (fun c3 => ?_) (fun c3 => ?_)
  · replace hf := gIfP c3 hf
    refine g_aload_n (pc := 18) Z 0 dX4_cut_18 rfl ?_
    refine g_get (pc := 19) (v := .ref (ad 1)) (T := TX4) (N := 4) Z 0 0 dX4_cut_19 (mm ww148) inx_X4 rfl (by decide) rfl rfl rfl ?_
    obtain ⟨x4, h5, hf⟩ := Option.bind_eq_some_iff.mp hf
    refine g_calli (pc := 22) (ws2 := fun u => (wH ad ++ wD ad ca vD ++ wC ad ca vC)) (wr := (wH ad ++ wC ad ca vC)) Z [1, 2, 3, 4, 5] [0, 6, 7, 8, 9, 10] [0, 6, 7, 8, 9, 10, 1, 2, 3, 4, 5] (g_runV Z (c_Disk_waiting l D ad ca vD x4 h5) (cwV 0 Z.2.2.2.2.1 (gg_V ww229 ww230 ww231 ww16 ww232) rfl rfl rfl (yv_of rfl yd_Disk_waiting) ⟨Nat.le_of_ble_eq_true rfl, Nat.le_of_ble_eq_true rfl⟩) [1, 2, 3, 4, 5] rfl (by decide) 0 rfl rfl rfl rfl rfl (Nat.le_of_ble_eq_true rfl) dX4_cut_22 ⟨Nat.le_of_ble_eq_true rfl, Nat.le_of_ble_eq_true rfl⟩) rfl rfl (by decide) (by decide) (by decide) (fun _ => rfl) (fun r u hu => ?_)
    obtain rfl := hu.symm
    refine g_istore_n (pc := 25) (lv' := [(2, .int x4), (0, .ref (ad 0)), (1, .int p1)]) Z dX4_cut_25 (by decide) rfl ?_
    refine g_aload_n (pc := 26) Z 1 dX4_cut_26 rfl ?_
    refine g_get (pc := 27) (v := .ref (ad 1)) (T := TX4) (N := 4) Z 0 0 dX4_cut_27 (mm ww148) inx_X4 rfl (by decide) rfl rfl rfl ?_
    refine g_iload_n (pc := 30) Z 2 dX4_cut_30 rfl ?_
    obtain ⟨x6, h7, hf⟩ := Option.bind_eq_some_iff.mp hf
    refine g_callv (pc := 31) (ws2 := fun u => (wH ad ++ wD ad ca u ++ wC ad ca vC)) (wr := (wH ad ++ wC ad ca vC)) Z [1, 2, 3, 4, 5] [0, 6, 7, 8, 9, 10] [0, 6, 7, 8, 9, 10, 1, 2, 3, 4, 5] (g_runV Z (c_Disk_losePower l D ad ca N vD p1 x6 h7) (cwV 1 Z.2.2.2.2.1 (gg_V ww245 ww28 ww29 ww16 ww30) rfl rfl rfl (yv_of rfl yd_Disk_losePower) ⟨Nat.le_of_ble_eq_true rfl, Nat.le_of_ble_eq_true rfl⟩) [1, 2, 3, 4, 5] rfl (by decide) 0 rfl rfl rfl rfl rfl (Nat.le_of_ble_eq_true rfl) dX4_cut_31 ⟨Nat.le_of_ble_eq_true rfl, Nat.le_of_ble_eq_true rfl⟩) rfl rfl (by decide) (by decide) (by decide) (fun _ => rfl) (fun u hu => ?_)
    obtain rfl := hu.symm
    refine g_aload_n (pc := 34) Z 1 dX4_cut_34 rfl ?_
    refine g_get (pc := 35) (v := .ref (ad 7)) (T := TX4) (N := 4) Z 0 2 dX4_cut_35 (mm ww164) inx_X4 rfl (by decide) rfl rfl rfl ?_
    obtain ⟨x8, h9, hf⟩ := Option.bind_eq_some_iff.mp hf
    refine g_callv (pc := 38) (ws2 := fun u => (wH ad ++ wD ad ca x6 ++ wC ad ca u)) (wr := (wH ad ++ wD ad ca x6)) Z [6, 7, 8, 9, 10] [0, 1, 2, 3, 4, 5] [0, 1, 2, 3, 4, 5, 6, 7, 8, 9, 10] (g_runV Z (c_Chg_drop l D ad ca N vC x8 h9) (cwV 0 Z.2.2.2.2.1 (gg_V ww220 ww55 ww56 ww40 ww57) rfl rfl rfl (yv_of rfl yd_Chg_drop) ⟨Nat.le_of_ble_eq_true rfl, Nat.le_of_ble_eq_true rfl⟩) [6, 7, 8, 9, 10] rfl (by decide) 0 rfl rfl rfl rfl rfl (Nat.le_of_ble_eq_true rfl) dX4_cut_38 ⟨Nat.le_of_ble_eq_true rfl, Nat.le_of_ble_eq_true rfl⟩) rfl rfl (by decide) (by decide) (by decide) (fun _ => rfl) (fun u hu => ?_)
    obtain rfl := hu.symm
    refine g_iload_n (pc := 41) Z 0 dX4_cut_41 rfl ?_
    obtain rfl := Except.ok.inj (Option.some.inj hf)
    exact g_iret Z hr dX4_cut_42 (x6, x8) ⟨rfl, rfl⟩ rfl
  · replace hf := gIfN c3 hf
    exact absurd (Option.some.inj hf) (fun h => by cases h)
set_option maxHeartbeats 4000000 in
set_option maxRecDepth 100000 in
theorem x_Heap_cut (l : Launch) (hl0 : l.stackTraces = false) (D : va_G) (ad : Nat → Nat) (ca : Nat → ClassId) (N : Nat) (vD : DT) (vC : CT) (p1 : Int32) (E : String) (hf : f_Heap_cut N vD vC p1 = some (.error E)) (sz : Nat) : vx_Met l yX4_cut (cd_Heap_cut :: gA) rx_Heap_cut (va_Pc [.ref (ad 0), .int p1] (gPX D cls (tys ca) (wH ad ++ wD ad ca vD ++ wC ad ca vC) sz RX4 strsH)) (gQE (va_A (wH ad ++ wD ad ca vD ++ wC ad ca vC) sz)) (gXC D cls (tys ca) (wH ad ++ wD ad ca vD ++ wC ad ca vC) (fun E9 => E9 = E) (va_A (wH ad ++ wD ad ca vD ++ wC ad ca vC) sz)) 1 6 (va_A (wH ad ++ wD ad ca vD ++ wC ad ca vC) sz) := by
  refine g_metX (cc := cX4_cut) (Qc := gQE) (pe := fun E9 => E9 = E) (lv := [(0, .ref (ad 0)), (1, .int p1)]) (own := RX4) (by decide) rfl rfl (Nat.le_of_ble_eq_true rfl) rfl sz ?_
  intro p e s m args below meth c A Z hr hnm hT htab
  unfold f_Heap_cut at hf
  refine g_aload_n (pc := 0) Z 0 dX4_cut_0 rfl ?_
  rcases gE_er hf with h2 | ⟨x1, h2, hf⟩
  · refine g_callE (pc := 1) (wr := (wC ad ca vC)) Z [0, 1, 2, 3, 4, 5] [6, 7, 8, 9, 10] [5, 6, 7, 8, 9, 10, 0, 1, 2, 3, 4] (g_runXV Z hT (x_Heap_needPower l hl0 D ad ca vD E h2) (cwV 0 Z.2.2.2.2.1 (gg_V ww160 ww161 ww162 ww2 ww163) rfl rfl rfl (yv_of rfl yd_Heap_needPower) ⟨Nat.le_of_ble_eq_true rfl, Nat.le_of_ble_eq_true rfl⟩) [0, 1, 2, 3, 4, 5] rfl (by decide) 0 rfl rfl rfl rfl rfl (Nat.le_of_ble_eq_true rfl) dX4_cut_1 ⟨(Nat.le_of_ble_eq_true rfl), (Nat.le_of_ble_eq_true rfl)⟩) rfl rfl (by decide) (by decide) (by decide) rfl ?_
    exact g_out Z htab rfl (Nat.le_of_ble_eq_true rfl) (Nat.le_of_ble_eq_true rfl)
  · refine g_callv (pc := 1) (ws2 := fun u => (wH ad ++ wD ad ca vD ++ wC ad ca vC)) (wr := (wC ad ca vC)) Z [0, 1, 2, 3, 4, 5] [6, 7, 8, 9, 10] [5, 6, 7, 8, 9, 10, 0, 1, 2, 3, 4] (g_runV Z (c_Heap_needPower l D ad ca vD x1 h2) (cwV 0 Z.2.2.2.2.1 (gg_V ww160 ww161 ww162 ww2 ww163) rfl rfl rfl (yv_of rfl yd_Heap_needPower) ⟨Nat.le_of_ble_eq_true rfl, Nat.le_of_ble_eq_true rfl⟩) [0, 1, 2, 3, 4, 5] rfl (by decide) 0 rfl rfl rfl rfl rfl (Nat.le_of_ble_eq_true rfl) dX4_cut_1 ⟨(Nat.le_of_ble_eq_true rfl), (Nat.le_of_ble_eq_true rfl)⟩) rfl rfl (by decide) (by decide) (by decide) (fun _ => rfl) (fun u hu => ?_)
    refine g_iload_n (pc := 4) Z 1 dX4_cut_4 rfl ?_
    refine g_if_ge (pc := 5) (tgt := 18) Z dX4_cut_5 (by decide) (fun c3 => ?_) (fun c3 => ?_)
    · replace hf := gIfP c3 hf
      refine g_aload_n (pc := 18) Z 0 dX4_cut_18 rfl ?_
      refine g_get (pc := 19) (v := .ref (ad 1)) (T := TX4) (N := 4) Z 0 0 dX4_cut_19 (mm ww148) inx_X4 rfl (by decide) rfl rfl rfl ?_
      obtain ⟨x4, h5, hf⟩ := Option.bind_eq_some_iff.mp hf
      refine g_calli (pc := 22) (ws2 := fun u => (wH ad ++ wD ad ca vD ++ wC ad ca vC)) (wr := (wH ad ++ wC ad ca vC)) Z [1, 2, 3, 4, 5] [0, 6, 7, 8, 9, 10] [0, 6, 7, 8, 9, 10, 1, 2, 3, 4, 5] (g_runV Z (c_Disk_waiting l D ad ca vD x4 h5) (cwV 0 Z.2.2.2.2.1 (gg_V ww229 ww230 ww231 ww16 ww232) rfl rfl rfl (yv_of rfl yd_Disk_waiting) ⟨Nat.le_of_ble_eq_true rfl, Nat.le_of_ble_eq_true rfl⟩) [1, 2, 3, 4, 5] rfl (by decide) 0 rfl rfl rfl rfl rfl (Nat.le_of_ble_eq_true rfl) dX4_cut_22 ⟨Nat.le_of_ble_eq_true rfl, Nat.le_of_ble_eq_true rfl⟩) rfl rfl (by decide) (by decide) (by decide) (fun _ => rfl) (fun r u hu => ?_)
      obtain rfl := hu.symm
      refine g_istore_n (pc := 25) (lv' := [(2, .int x4), (0, .ref (ad 0)), (1, .int p1)]) Z dX4_cut_25 (by decide) rfl ?_
      refine g_aload_n (pc := 26) Z 1 dX4_cut_26 rfl ?_
      refine g_get (pc := 27) (v := .ref (ad 1)) (T := TX4) (N := 4) Z 0 0 dX4_cut_27 (mm ww148) inx_X4 rfl (by decide) rfl rfl rfl ?_
      refine g_iload_n (pc := 30) Z 2 dX4_cut_30 rfl ?_
      obtain ⟨x6, h7, hf⟩ := Option.bind_eq_some_iff.mp hf
      refine g_callv (pc := 31) (ws2 := fun u => (wH ad ++ wD ad ca u ++ wC ad ca vC)) (wr := (wH ad ++ wC ad ca vC)) Z [1, 2, 3, 4, 5] [0, 6, 7, 8, 9, 10] [0, 6, 7, 8, 9, 10, 1, 2, 3, 4, 5] (g_runV Z (c_Disk_losePower l D ad ca N vD p1 x6 h7) (cwV 1 Z.2.2.2.2.1 (gg_V ww245 ww28 ww29 ww16 ww30) rfl rfl rfl (yv_of rfl yd_Disk_losePower) ⟨Nat.le_of_ble_eq_true rfl, Nat.le_of_ble_eq_true rfl⟩) [1, 2, 3, 4, 5] rfl (by decide) 0 rfl rfl rfl rfl rfl (Nat.le_of_ble_eq_true rfl) dX4_cut_31 ⟨Nat.le_of_ble_eq_true rfl, Nat.le_of_ble_eq_true rfl⟩) rfl rfl (by decide) (by decide) (by decide) (fun _ => rfl) (fun u hu => ?_)
      obtain rfl := hu.symm
      refine g_aload_n (pc := 34) Z 1 dX4_cut_34 rfl ?_
      refine g_get (pc := 35) (v := .ref (ad 7)) (T := TX4) (N := 4) Z 0 2 dX4_cut_35 (mm ww164) inx_X4 rfl (by decide) rfl rfl rfl ?_
      obtain ⟨x8, h9, hf⟩ := Option.bind_eq_some_iff.mp hf
      refine g_callv (pc := 38) (ws2 := fun u => (wH ad ++ wD ad ca x6 ++ wC ad ca u)) (wr := (wH ad ++ wD ad ca x6)) Z [6, 7, 8, 9, 10] [0, 1, 2, 3, 4, 5] [0, 1, 2, 3, 4, 5, 6, 7, 8, 9, 10] (g_runV Z (c_Chg_drop l D ad ca N vC x8 h9) (cwV 0 Z.2.2.2.2.1 (gg_V ww220 ww55 ww56 ww40 ww57) rfl rfl rfl (yv_of rfl yd_Chg_drop) ⟨Nat.le_of_ble_eq_true rfl, Nat.le_of_ble_eq_true rfl⟩) [6, 7, 8, 9, 10] rfl (by decide) 0 rfl rfl rfl rfl rfl (Nat.le_of_ble_eq_true rfl) dX4_cut_38 ⟨Nat.le_of_ble_eq_true rfl, Nat.le_of_ble_eq_true rfl⟩) rfl rfl (by decide) (by decide) (by decide) (fun _ => rfl) (fun u hu => ?_)
      obtain rfl := hu.symm
      refine g_iload_n (pc := 41) Z 0 dX4_cut_41 rfl ?_
      exact absurd (Option.some.inj hf) (fun h => by cases h)
    · replace hf := gIfN c3 hf
      obtain rfl := Except.error.inj (Option.some.inj hf)
      exact g_throw (pc := 8) (cls := "java/lang/IllegalArgumentException") (text := "below 0") (names := supX) (strs := strsH) (pe := fun E9 => E9 = "java/lang/IllegalArgumentException") Z hl0 hT htab dX4_cut_8 dX4_cut_11 dX4_cut_12 dX4_cut_14 dX4_cut_17 rfl supX_fit (by decide) (mm ww186) (mm ww187) (vx_hat (fun w h => Z.2.2.2.2.1 w (mm (at_69 w h))) ab_69 (gN.bad Z.2.2.2.2.2.2.2.2)) ag_69 (Nat.le_of_ble_eq_true rfl) (Nat.le_of_ble_eq_true rfl) (Nat.le_of_ble_eq_true rfl) (Nat.le_of_ble_eq_true rfl) rfl (Nat.le_of_ble_eq_true rfl) (Nat.le_of_ble_eq_true rfl)
theorem ww246 : Cond.methodLink RX4 144 yX2_powerUp ∈ gA := wt3 45 rfl rfl
theorem ww247 : Cond.instanceMethod yX2_powerUp ∈ gA := wt3 46 rfl rfl
theorem ww248 : Cond.selects RX2 yX2_powerUp yX2_powerUp ∈ gA := wt3 47 rfl rfl
theorem ww249 : cd_Disk_powerUp ∈ gA := wt3 48 rfl rfl
theorem ww250 : Cond.methodLink RX4 147 yX2_read ∈ gA := wt3 49 rfl rfl
theorem ww251 : Cond.methodLink RX4 151 yX3_findCommits ∈ gA := wt3 60 rfl rfl
theorem ww252 : Cond.instanceMethod yX3_findCommits ∈ gA := wt3 61 rfl rfl
theorem ww253 : Cond.selects RX3 yX3_findCommits yX3_findCommits ∈ gA := wt3 62 rfl rfl
theorem ww254 : cd_Log_findCommits ∈ gA := wt3 63 rfl rfl
theorem ww255 : Cond.methodLink RX4 154 yX3_dirtyWords ∈ gA := wt3 65 rfl rfl
theorem ww256 : Cond.instanceMethod yX3_dirtyWords ∈ gA := wt3 66 rfl rfl
theorem ww257 : Cond.selects RX3 yX3_dirtyWords yX3_dirtyWords ∈ gA := wt3 67 rfl rfl
theorem ww258 : cd_Log_dirtyWords ∈ gA := wt3 68 rfl rfl
theorem ww259 : Cond.methodLink RX4 157 yX1_load ∈ gA := wt3 69 rfl rfl
theorem ww260 : Cond.instanceMethod yX1_load ∈ gA := wt3 70 rfl rfl
theorem ww261 : Cond.selects RX1 yX1_load yX1_load ∈ gA := wt3 71 rfl rfl
theorem ww262 : cd_Chg_load ∈ gA := wt3 72 rfl rfl
theorem ww263 : Cond.methodLink RX4 148 yX4_format ∈ gA := wt3 50 rfl rfl
theorem ww264 : Cond.instanceMethod yX4_format ∈ gA := wt3 52 rfl rfl
theorem ww265 : Cond.selects RX4 yX4_format yX4_format ∈ gA := wtS 15 rfl rfl
theorem ww266 : cd_Heap_format ∈ gA := wt3 53 rfl rfl
/-! RedoHeap.open()I -/
def f_Heap_open (N : Nat) (vL : LT) (vD : DT) (vC : CT) : Option (Except String (Int32 × LT × DT × CT)) :=
  (f_Disk_isOn vD).bind fun x1 => if x1 = true then some (Except.error "java/lang/IllegalStateException") else (f_Disk_powerUp vD).bind fun x4 => (f_Disk_read x4 (0 : Int32)).bind fun x6 => if (lg_cmp x6 (0 : Int64)) = 0 then (f_Heap_format N vL x4).bind fun x20 => (f_Disk_isOn x20.2).bind fun x22 => if x22 = true then (f_Chg_load N x20.2 vC).bind fun x25 => some (Except.ok ((0 : Int32), x20.1, x20.2, x25)) else some (Except.ok ((-2 : Int32), x20.1, x20.2, vC)) else (f_Log_findCommits N vL x4).bind fun x9 => (f_Log_dirtyWords N x9.2 x4).bind fun x11 => (f_Log_carryOut N x9.2 x4 x11).bind fun x13 => (f_Disk_isOn x13.2.2).bind fun x15 => if x15 = true then (f_Chg_load N x13.2.2 vC).bind fun x18 => some (Except.ok (x9.1, x13.2.1, x13.2.2, x18)) else some (Except.ok ((-2 : Int32), x13.2.1, x13.2.2, vC))
abbrev cd_Heap_open : Cond := .code yX4_open cX4_open 2 (some .int)
theorem yd_Heap_open : yX4_open.cls ≠ "java/lang/invoke/MethodHandle" ∧ yX4_open.cls ≠ "java/lang/invoke/VarHandle" ∧ (parseMethodDescriptor yX4_open.desc).map (fun d => d.parameters.length) = some 0 := by decide +kernel
abbrev rm_Heap_open : Room := { frames := 6, cells := 0, slots := 0, locals := 151 }
abbrev rx_Heap_open : Room := { frames := 6, cells := 1, slots := 6, locals := 151 }
abbrev q_Heap_open (D : va_G) (ad : Nat → Nat) (ca : Nat → ClassId) (res : Int32 × LT × DT × CT) (A : Nat → Prop) : Array Value → State → Outcome → State → Prop := va_Qi (fun (r : Int32) (u : LT × DT × CT) => r = res.1 ∧ u = res.2) (gB D cls (tys ca) A (fun (u : LT × DT × CT) => (wH ad ++ wL ad ca u.1 ++ wD ad ca u.2.1 ++ wC ad ca u.2.2))) A
set_option maxHeartbeats 4000000 in
set_option maxRecDepth 100000 in
theorem c_Heap_open (l : Launch) (D : va_G) (ad : Nat → Nat) (ca : Nat → ClassId) (N : Nat) (vL : LT) (vD : DT) (vC : CT) (res : Int32 × LT × DT × CT) (hf : f_Heap_open N vL vD vC = some (.ok res)) (sz : Nat) : Met l yX4_open (cd_Heap_open :: gA) rm_Heap_open (va_Pc [.ref (ad 0)] (gP D cls (tys ca) (wH ad ++ wL ad ca vL ++ wD ad ca vD ++ wC ad ca vC) sz)) (q_Heap_open D ad ca res (va_A (wH ad ++ wL ad ca vL ++ wD ad ca vD ++ wC ad ca vC) sz)) 0 0 (va_A (wH ad ++ wL ad ca vL ++ wD ad ca vD ++ wC ad ca vC) sz) := by
  refine g_met (cc := cX4_open) (Qc := q_Heap_open D ad ca res) (lv := [(0, .ref (ad 0))]) (own := RX4) (by decide) rfl rfl (Nat.le_of_ble_eq_true rfl) rfl sz ?_
  intro p e s m args below meth c A Z hr hnm
  unfold f_Heap_open at hf
  refine g_aload_n (pc := 0) Z 0 dX4_open_0 rfl ?_
  refine g_get (pc := 1) (v := .ref (ad 1)) (T := TX4) (N := 4) Z 0 0 dX4_open_1 (mm ww148) inx_X4 rfl (by decide) rfl rfl rfl ?_
  obtain ⟨x1, h2, hf⟩ := Option.bind_eq_some_iff.mp hf
  refine g_calli (pc := 4) (ws2 := fun u => (wH ad ++ wL ad ca vL ++ wD ad ca vD ++ wC ad ca vC)) (wr := (wH ad ++ wL ad ca vL ++ wC ad ca vC)) Z [2, 3, 4, 5, 6] [0, 1, 7, 8, 9, 10, 11] [0, 1, 7, 8, 9, 10, 11, 2, 3, 4, 5, 6] (g_runV Z (c_Disk_isOn l D ad ca vD x1 h2) (cwV 0 Z.2.2.2.2.1 (gg_V ww154 ww155 ww156 ww16 ww157) rfl rfl rfl (yv_of rfl yd_Disk_isOn) ⟨Nat.le_of_ble_eq_true rfl, Nat.le_of_ble_eq_true rfl⟩) [2, 3, 4, 5, 6] rfl (by decide) 0 rfl rfl rfl rfl rfl (Nat.le_of_ble_eq_true rfl) dX4_open_4 ⟨Nat.le_of_ble_eq_true rfl, Nat.le_of_ble_eq_true rfl⟩) rfl rfl (by decide) (by decide) (by decide) (fun _ => rfl) (fun r u hu => ?_)
  obtain rfl := hu.symm
  refine g_if_eq (pc := 7) (tgt := 20) Z dX4_open_7 (by decide) (fun c3 => ?_) (fun c3 => ?_)
  · replace hf := gIfN (bI_z c3) hf
    refine g_aload_n (pc := 20) Z 0 dX4_open_20 rfl ?_
    refine g_get (pc := 21) (v := .ref (ad 1)) (T := TX4) (N := 4) Z 0 0 dX4_open_21 (mm ww148) inx_X4 rfl (by decide) rfl rfl rfl ?_
    obtain ⟨x4, h5, hf⟩ := Option.bind_eq_some_iff.mp hf
    refine g_callv (pc := 24) (ws2 := fun u => (wH ad ++ wL ad ca vL ++ wD ad ca u ++ wC ad ca vC)) (wr := (wH ad ++ wL ad ca vL ++ wC ad ca vC)) Z [2, 3, 4, 5, 6] [0, 1, 7, 8, 9, 10, 11] [0, 1, 7, 8, 9, 10, 11, 2, 3, 4, 5, 6] (g_runV Z (c_Disk_powerUp l D ad ca vD x4 h5) (cwV 0 Z.2.2.2.2.1 (gg_V ww246 ww247 ww248 ww16 ww249) rfl rfl rfl (yv_of rfl yd_Disk_powerUp) ⟨Nat.le_of_ble_eq_true rfl, Nat.le_of_ble_eq_true rfl⟩) [2, 3, 4, 5, 6] rfl (by decide) 0 rfl rfl rfl rfl rfl (Nat.le_of_ble_eq_true rfl) dX4_open_24 ⟨Nat.le_of_ble_eq_true rfl, Nat.le_of_ble_eq_true rfl⟩) rfl rfl (by decide) (by decide) (by decide) (fun _ => rfl) (fun u hu => ?_)
    obtain rfl := hu.symm
    refine g_iconst (pc := 27) (v := 0) Z dX4_open_27 (by decide) ?_
    refine g_istore_n (pc := 28) (lv' := [(1, .int (0 : Int32)), (0, .ref (ad 0))]) Z dX4_open_28 (by decide) rfl ?_
    refine g_aload_n (pc := 29) Z 1 dX4_open_29 rfl ?_
    refine g_get (pc := 30) (v := .ref (ad 1)) (T := TX4) (N := 4) Z 0 0 dX4_open_30 (mm ww148) inx_X4 rfl (by decide) rfl rfl rfl ?_
    refine g_iconst (pc := 33) (v := 0) Z dX4_open_33 (by decide) ?_
    obtain ⟨x6, h7, hf⟩ := Option.bind_eq_some_iff.mp hf
    refine g_calll (pc := 34) (ws2 := fun u => (wH ad ++ wL ad ca vL ++ wD ad ca x4 ++ wC ad ca vC)) (wr := (wH ad ++ wL ad ca vL ++ wC ad ca vC)) Z [2, 3, 4, 5, 6] [0, 1, 7, 8, 9, 10, 11] [0, 1, 7, 8, 9, 10, 11, 2, 3, 4, 5, 6] (g_runV Z (c_Disk_read l D ad ca x4 (0 : Int32) x6 h7) (cwV 1 Z.2.2.2.2.1 (gg_V ww250 ww61 ww62 ww16 ww63) rfl rfl rfl (yv_of rfl yd_Disk_read) ⟨Nat.le_of_ble_eq_true rfl, Nat.le_of_ble_eq_true rfl⟩) [2, 3, 4, 5, 6] rfl (by decide) 0 rfl rfl rfl rfl rfl (Nat.le_of_ble_eq_true rfl) dX4_open_34 ⟨Nat.le_of_ble_eq_true rfl, Nat.le_of_ble_eq_true rfl⟩) rfl rfl (by decide) (by decide) (by decide) (fun _ => rfl) (fun r u hu => ?_)
    obtain rfl := hu.symm
    refine g_lconst (pc := 37) (v := 0) Z dX4_open_37 (by decide) ?_
    refine g_lcmp (pc := 38) Z dX4_open_38 ?_
    refine g_if_ne (pc := 39) (tgt := 49) Z dX4_open_39 (by decide) (fun c8 => ?_) (fun c8 => ?_)
    · replace hf := gIfN c8 hf
      refine g_aload_n (pc := 49) Z 1 dX4_open_49 rfl ?_
      refine g_get (pc := 50) (v := .ref (ad 6)) (T := TX4) (N := 4) Z 0 1 dX4_open_50 (mm ww152) inx_X4 rfl (by decide) rfl rfl rfl ?_
      obtain ⟨x9, h10, hf⟩ := Option.bind_eq_some_iff.mp hf
      refine g_calli (pc := 53) (ws2 := fun u => (wH ad ++ wL ad ca u ++ wD ad ca x4 ++ wC ad ca vC)) (wr := (wH ad ++ wC ad ca vC)) Z [1, 2, 3, 4, 5, 6] [0, 7, 8, 9, 10, 11] [0, 6, 7, 8, 9, 10, 11, 1, 2, 3, 4, 5] (g_runV Z (c_Log_findCommits l D ad ca N vL x4 x9 h10) (cwV 0 Z.2.2.2.2.1 (gg_V ww251 ww252 ww253 ww72 ww254) rfl rfl rfl (yv_of rfl yd_Log_findCommits) ⟨Nat.le_of_ble_eq_true rfl, Nat.le_of_ble_eq_true rfl⟩) [1, 2, 3, 4, 5, 6] rfl (by decide) 0 rfl rfl rfl rfl rfl (Nat.le_of_ble_eq_true rfl) dX4_open_53 ⟨Nat.le_of_ble_eq_true rfl, Nat.le_of_ble_eq_true rfl⟩) rfl rfl (by decide) (by decide) (by decide) (fun _ => rfl) (fun r u hu => ?_)
      obtain ⟨rfl, rfl⟩ := hu
      refine g_istore_n (pc := 56) (lv' := [(1, .int x9.1), (0, .ref (ad 0))]) Z dX4_open_56 (by decide) rfl ?_
      refine g_aload_n (pc := 57) Z 1 dX4_open_57 rfl ?_
      refine g_get (pc := 58) (v := .ref (ad 6)) (T := TX4) (N := 4) Z 0 1 dX4_open_58 (mm ww152) inx_X4 rfl (by decide) rfl rfl rfl ?_
      refine g_aload_n (pc := 61) Z 1 dX4_open_61 rfl ?_
      refine g_get (pc := 62) (v := .ref (ad 6)) (T := TX4) (N := 4) Z 0 1 dX4_open_62 (mm ww152) inx_X4 rfl (by decide) rfl rfl rfl ?_
      obtain ⟨x11, h12, hf⟩ := Option.bind_eq_some_iff.mp hf
      refine g_calli (pc := 65) (ws2 := fun u => (wH ad ++ wL ad ca x9.2 ++ wD ad ca x4 ++ wC ad ca vC)) (wr := (wH ad ++ wC ad ca vC)) Z [1, 2, 3, 4, 5, 6] [0, 7, 8, 9, 10, 11] [0, 6, 7, 8, 9, 10, 11, 1, 2, 3, 4, 5] (g_runV Z (c_Log_dirtyWords l D ad ca N x9.2 x4 x11 h12) (cwV 0 Z.2.2.2.2.1 (gg_V ww255 ww256 ww257 ww72 ww258) rfl rfl rfl (yv_of rfl yd_Log_dirtyWords) ⟨Nat.le_of_ble_eq_true rfl, Nat.le_of_ble_eq_true rfl⟩) [1, 2, 3, 4, 5, 6] rfl (by decide) 0 rfl rfl rfl rfl rfl (Nat.le_of_ble_eq_true rfl) dX4_open_65 ⟨Nat.le_of_ble_eq_true rfl, Nat.le_of_ble_eq_true rfl⟩) rfl rfl (by decide) (by decide) (by decide) (fun _ => rfl) (fun r u hu => ?_)
      obtain rfl := hu.symm
      obtain ⟨x13, h14, hf⟩ := Option.bind_eq_some_iff.mp hf
      refine g_calli (pc := 68) (ws2 := fun u => (wH ad ++ wL ad ca u.1 ++ wD ad ca u.2 ++ wC ad ca vC)) (wr := (wH ad ++ wC ad ca vC)) Z [1, 2, 3, 4, 5, 6] [0, 7, 8, 9, 10, 11] [0, 6, 7, 8, 9, 10, 11, 1, 2, 3, 4, 5] (g_runV Z (c_Log_carryOut l D ad ca N x9.2 x4 x11 x13 h14) (cwV 1 Z.2.2.2.2.1 (gg_V ww225 ww226 ww227 ww72 ww228) rfl rfl rfl (yv_of rfl yd_Log_carryOut) ⟨Nat.le_of_ble_eq_true rfl, Nat.le_of_ble_eq_true rfl⟩) [1, 2, 3, 4, 5, 6] rfl (by decide) 0 rfl rfl rfl rfl rfl (Nat.le_of_ble_eq_true rfl) dX4_open_68 ⟨Nat.le_of_ble_eq_true rfl, Nat.le_of_ble_eq_true rfl⟩) rfl rfl (by decide) (by decide) (by decide) (fun _ => rfl) (fun r u hu => ?_)
      obtain ⟨rfl, rfl⟩ := hu
      refine g_pop (pc := 71) Z dX4_open_71 rfl ?_
      refine g_aload_n (pc := 72) Z 1 dX4_open_72 rfl ?_
      refine g_get (pc := 73) (v := .ref (ad 1)) (T := TX4) (N := 4) Z 0 0 dX4_open_73 (mm ww148) inx_X4 rfl (by decide) rfl rfl rfl ?_
      obtain ⟨x15, h16, hf⟩ := Option.bind_eq_some_iff.mp hf
      refine g_calli (pc := 76) (ws2 := fun u => (wH ad ++ wL ad ca x13.2.1 ++ wD ad ca x13.2.2 ++ wC ad ca vC)) (wr := (wH ad ++ wL ad ca x13.2.1 ++ wC ad ca vC)) Z [2, 3, 4, 5, 6] [0, 1, 7, 8, 9, 10, 11] [0, 1, 7, 8, 9, 10, 11, 2, 3, 4, 5, 6] (g_runV Z (c_Disk_isOn l D ad ca x13.2.2 x15 h16) (cwV 0 Z.2.2.2.2.1 (gg_V ww154 ww155 ww156 ww16 ww157) rfl rfl rfl (yv_of rfl yd_Disk_isOn) ⟨Nat.le_of_ble_eq_true rfl, Nat.le_of_ble_eq_true rfl⟩) [2, 3, 4, 5, 6] rfl (by decide) 0 rfl rfl rfl rfl rfl (Nat.le_of_ble_eq_true rfl) dX4_open_76 ⟨Nat.le_of_ble_eq_true rfl, Nat.le_of_ble_eq_true rfl⟩) rfl rfl (by decide) (by decide) (by decide) (fun _ => rfl) (fun r u hu => ?_)
      obtain rfl := hu.symm
      refine g_if_ne (pc := 79) (tgt := 85) Z dX4_open_79 (by decide) (fun c17 => ?_) (fun c17 => ?_)
      · replace hf := gIfP (bI_nz c17) hf
        refine g_aload_n (pc := 85) Z 1 dX4_open_85 rfl ?_
        refine g_get (pc := 86) (v := .ref (ad 7)) (T := TX4) (N := 4) Z 0 2 dX4_open_86 (mm ww164) inx_X4 rfl (by decide) rfl rfl rfl ?_
        refine g_aload_n (pc := 89) Z 1 dX4_open_89 rfl ?_
        refine g_get (pc := 90) (v := .ref (ad 1)) (T := TX4) (N := 4) Z 0 0 dX4_open_90 (mm ww148) inx_X4 rfl (by decide) rfl rfl rfl ?_
        obtain ⟨x18, h19, hf⟩ := Option.bind_eq_some_iff.mp hf
        refine g_callv (pc := 93) (ws2 := fun u => (wH ad ++ wL ad ca x13.2.1 ++ wD ad ca x13.2.2 ++ wC ad ca u)) (wr := (wH ad ++ wL ad ca x13.2.1)) Z [2, 3, 4, 5, 6, 7, 8, 9, 10, 11] [0, 1] [0, 1, 2, 3, 4, 5, 6, 7, 8, 9, 10, 11] (g_runV Z (c_Chg_load l D ad ca N x13.2.2 vC x18 h19) (cwV 1 Z.2.2.2.2.1 (gg_V ww259 ww260 ww261 ww40 ww262) rfl rfl rfl (yv_of rfl yd_Chg_load) ⟨Nat.le_of_ble_eq_true rfl, Nat.le_of_ble_eq_true rfl⟩) [2, 3, 4, 5, 6, 7, 8, 9, 10, 11] rfl (by decide) 5 rfl rfl rfl rfl rfl (Nat.le_of_ble_eq_true rfl) dX4_open_93 ⟨Nat.le_of_ble_eq_true rfl, Nat.le_of_ble_eq_true rfl⟩) rfl rfl (by decide) (by decide) (by decide) (fun _ => rfl) (fun u hu => ?_)
        obtain rfl := hu.symm
        refine g_iload_n (pc := 96) Z 0 dX4_open_96 rfl ?_
        obtain rfl := Except.ok.inj (Option.some.inj hf)
        exact g_iret Z hr dX4_open_97 (x13.2.1, x13.2.2, x18) ⟨rfl, rfl⟩ rfl
      · replace hf := gIfN (bI_z c17) hf
        refine g_bipush (pc := 82) (v := -2) Z dX4_open_82 (by decide) ?_
        obtain rfl := Except.ok.inj (Option.some.inj hf)
        exact g_iret Z hr dX4_open_84 (x13.2.1, x13.2.2, vC) ⟨rfl, rfl⟩ rfl
    · replace hf := gIfP c8 hf
      refine g_aload_n (pc := 42) Z 1 dX4_open_42 rfl ?_
      obtain ⟨x20, h21, hf⟩ := Option.bind_eq_some_iff.mp hf
      refine g_callv (pc := 43) (ws2 := fun u => (wH ad ++ wL ad ca u.1 ++ wD ad ca u.2 ++ wC ad ca vC)) (wr := (wC ad ca vC)) Z [0, 1, 2, 3, 4, 5, 6] [7, 8, 9, 10, 11] [5, 6, 7, 8, 9, 10, 11, 0, 1, 2, 3, 4] (g_runV Z (c_Heap_format l D ad ca N vL x4 x20 h21) (cwV 0 Z.2.2.2.2.1 (gg_V ww263 ww264 ww265 ww2 ww266) rfl rfl rfl (yv_of rfl yd_Heap_format) ⟨Nat.le_of_ble_eq_true rfl, Nat.le_of_ble_eq_true rfl⟩) [0, 1, 2, 3, 4, 5, 6] rfl (by decide) 0 rfl rfl rfl rfl rfl (Nat.le_of_ble_eq_true rfl) dX4_open_43 ⟨Nat.le_of_ble_eq_true rfl, Nat.le_of_ble_eq_true rfl⟩) rfl rfl (by decide) (by decide) (by decide) (fun _ => rfl) (fun u hu => ?_)
      obtain rfl := hu.symm
      refine g_goto (pc := 46) (tgt := 72) Z dX4_open_46 (by decide) ?_
      refine g_aload_n (pc := 72) Z 1 dX4_open_72 rfl ?_
      refine g_get (pc := 73) (v := .ref (ad 1)) (T := TX4) (N := 4) Z 0 0 dX4_open_73 (mm ww148) inx_X4 rfl (by decide) rfl rfl rfl ?_
      obtain ⟨x22, h23, hf⟩ := Option.bind_eq_some_iff.mp hf
      refine g_calli (pc := 76) (ws2 := fun u => (wH ad ++ wL ad ca x20.1 ++ wD ad ca x20.2 ++ wC ad ca vC)) (wr := (wH ad ++ wL ad ca x20.1 ++ wC ad ca vC)) Z [2, 3, 4, 5, 6] [0, 1, 7, 8, 9, 10, 11] [0, 1, 7, 8, 9, 10, 11, 2, 3, 4, 5, 6] (g_runV Z (c_Disk_isOn l D ad ca x20.2 x22 h23) (cwV 0 Z.2.2.2.2.1 (gg_V ww154 ww155 ww156 ww16 ww157) rfl rfl rfl (yv_of rfl yd_Disk_isOn) ⟨Nat.le_of_ble_eq_true rfl, Nat.le_of_ble_eq_true rfl⟩) [2, 3, 4, 5, 6] rfl (by decide) 0 rfl rfl rfl rfl rfl (Nat.le_of_ble_eq_true rfl) dX4_open_76 ⟨Nat.le_of_ble_eq_true rfl, Nat.le_of_ble_eq_true rfl⟩) rfl rfl (by decide) (by decide) (by decide) (fun _ => rfl) (fun r u hu => ?_)
      obtain rfl := hu.symm
      refine g_if_ne (pc := 79) (tgt := 85) Z dX4_open_79 (by decide) (fun c24 => ?_) (fun c24 => ?_)
      · replace hf := gIfP (bI_nz c24) hf
        refine g_aload_n (pc := 85) Z 1 dX4_open_85 rfl ?_
        refine g_get (pc := 86) (v := .ref (ad 7)) (T := TX4) (N := 4) Z 0 2 dX4_open_86 (mm ww164) inx_X4 rfl (by decide) rfl rfl rfl ?_
        refine g_aload_n (pc := 89) Z 1 dX4_open_89 rfl ?_
        refine g_get (pc := 90) (v := .ref (ad 1)) (T := TX4) (N := 4) Z 0 0 dX4_open_90 (mm ww148) inx_X4 rfl (by decide) rfl rfl rfl ?_
        obtain ⟨x25, h26, hf⟩ := Option.bind_eq_some_iff.mp hf
        refine g_callv (pc := 93) (ws2 := fun u => (wH ad ++ wL ad ca x20.1 ++ wD ad ca x20.2 ++ wC ad ca u)) (wr := (wH ad ++ wL ad ca x20.1)) Z [2, 3, 4, 5, 6, 7, 8, 9, 10, 11] [0, 1] [0, 1, 2, 3, 4, 5, 6, 7, 8, 9, 10, 11] (g_runV Z (c_Chg_load l D ad ca N x20.2 vC x25 h26) (cwV 1 Z.2.2.2.2.1 (gg_V ww259 ww260 ww261 ww40 ww262) rfl rfl rfl (yv_of rfl yd_Chg_load) ⟨Nat.le_of_ble_eq_true rfl, Nat.le_of_ble_eq_true rfl⟩) [2, 3, 4, 5, 6, 7, 8, 9, 10, 11] rfl (by decide) 5 rfl rfl rfl rfl rfl (Nat.le_of_ble_eq_true rfl) dX4_open_93 ⟨Nat.le_of_ble_eq_true rfl, Nat.le_of_ble_eq_true rfl⟩) rfl rfl (by decide) (by decide) (by decide) (fun _ => rfl) (fun u hu => ?_)
        obtain rfl := hu.symm
        refine g_iload_n (pc := 96) Z 0 dX4_open_96 rfl ?_
        obtain rfl := Except.ok.inj (Option.some.inj hf)
        exact g_iret Z hr dX4_open_97 (x20.1, x20.2, x25) ⟨rfl, rfl⟩ rfl
      · replace hf := gIfN (bI_z c24) hf
        refine g_bipush (pc := 82) (v := -2) Z dX4_open_82 (by decide) ?_
        obtain rfl := Except.ok.inj (Option.some.inj hf)
        exact g_iret Z hr dX4_open_84 (x20.1, x20.2, vC) ⟨rfl, rfl⟩ rfl
  · replace hf := gIfP (bI_nz c3) hf
    exact absurd (Option.some.inj hf) (fun h => by cases h)
set_option maxHeartbeats 4000000 in
set_option maxRecDepth 100000 in
theorem x_Heap_open (l : Launch) (hl0 : l.stackTraces = false) (D : va_G) (ad : Nat → Nat) (ca : Nat → ClassId) (N : Nat) (vL : LT) (vD : DT) (vC : CT) (E : String) (hf : f_Heap_open N vL vD vC = some (.error E)) (sz : Nat) : vx_Met l yX4_open (cd_Heap_open :: gA) rx_Heap_open (va_Pc [.ref (ad 0)] (gPX D cls (tys ca) (wH ad ++ wL ad ca vL ++ wD ad ca vD ++ wC ad ca vC) sz RX4 strsH)) (gQE (va_A (wH ad ++ wL ad ca vL ++ wD ad ca vD ++ wC ad ca vC) sz)) (gXC D cls (tys ca) (wH ad ++ wL ad ca vL ++ wD ad ca vD ++ wC ad ca vC) (fun E9 => E9 = E) (va_A (wH ad ++ wL ad ca vL ++ wD ad ca vD ++ wC ad ca vC) sz)) 1 6 (va_A (wH ad ++ wL ad ca vL ++ wD ad ca vD ++ wC ad ca vC) sz) := by
  refine g_metX (cc := cX4_open) (Qc := gQE) (pe := fun E9 => E9 = E) (lv := [(0, .ref (ad 0))]) (own := RX4) (by decide) rfl rfl (Nat.le_of_ble_eq_true rfl) rfl sz ?_
  intro p e s m args below meth c A Z hr hnm hT htab
  unfold f_Heap_open at hf
  refine g_aload_n (pc := 0) Z 0 dX4_open_0 rfl ?_
  refine g_get (pc := 1) (v := .ref (ad 1)) (T := TX4) (N := 4) Z 0 0 dX4_open_1 (mm ww148) inx_X4 rfl (by decide) rfl rfl rfl ?_
  obtain ⟨x1, h2, hf⟩ := Option.bind_eq_some_iff.mp hf
  refine g_calli (pc := 4) (ws2 := fun u => (wH ad ++ wL ad ca vL ++ wD ad ca vD ++ wC ad ca vC)) (wr := (wH ad ++ wL ad ca vL ++ wC ad ca vC)) Z [2, 3, 4, 5, 6] [0, 1, 7, 8, 9, 10, 11] [0, 1, 7, 8, 9, 10, 11, 2, 3, 4, 5, 6] (g_runV Z (c_Disk_isOn l D ad ca vD x1 h2) (cwV 0 Z.2.2.2.2.1 (gg_V ww154 ww155 ww156 ww16 ww157) rfl rfl rfl (yv_of rfl yd_Disk_isOn) ⟨Nat.le_of_ble_eq_true rfl, Nat.le_of_ble_eq_true rfl⟩) [2, 3, 4, 5, 6] rfl (by decide) 0 rfl rfl rfl rfl rfl (Nat.le_of_ble_eq_true rfl) dX4_open_4 ⟨Nat.le_of_ble_eq_true rfl, Nat.le_of_ble_eq_true rfl⟩) rfl rfl (by decide) (by decide) (by decide) (fun _ => rfl) (fun r u hu => ?_)
  obtain rfl := hu.symm
  refine g_if_eq (pc := 7) (tgt := 20) Z dX4_open_7 (by decide) (fun c3 => ?_) (fun c3 => ?_)
  · replace hf := gIfN (bI_z c3) hf
    refine g_aload_n (pc := 20) Z 0 dX4_open_20 rfl ?_
    refine g_get (pc := 21) (v := .ref (ad 1)) (T := TX4) (N := 4) Z 0 0 dX4_open_21 (mm ww148) inx_X4 rfl (by decide) rfl rfl rfl ?_
    obtain ⟨x4, h5, hf⟩ := Option.bind_eq_some_iff.mp hf
    refine g_callv (pc := 24) (ws2 := fun u => (wH ad ++ wL ad ca vL ++ wD ad ca u ++ wC ad ca vC)) (wr := (wH ad ++ wL ad ca vL ++ wC ad ca vC)) Z [2, 3, 4, 5, 6] [0, 1, 7, 8, 9, 10, 11] [0, 1, 7, 8, 9, 10, 11, 2, 3, 4, 5, 6] (g_runV Z (c_Disk_powerUp l D ad ca vD x4 h5) (cwV 0 Z.2.2.2.2.1 (gg_V ww246 ww247 ww248 ww16 ww249) rfl rfl rfl (yv_of rfl yd_Disk_powerUp) ⟨Nat.le_of_ble_eq_true rfl, Nat.le_of_ble_eq_true rfl⟩) [2, 3, 4, 5, 6] rfl (by decide) 0 rfl rfl rfl rfl rfl (Nat.le_of_ble_eq_true rfl) dX4_open_24 ⟨Nat.le_of_ble_eq_true rfl, Nat.le_of_ble_eq_true rfl⟩) rfl rfl (by decide) (by decide) (by decide) (fun _ => rfl) (fun u hu => ?_)
    obtain rfl := hu.symm
    refine g_iconst (pc := 27) (v := 0) Z dX4_open_27 (by decide) ?_
    refine g_istore_n (pc := 28) (lv' := [(1, .int (0 : Int32)), (0, .ref (ad 0))]) Z dX4_open_28 (by decide) rfl ?_
    refine g_aload_n (pc := 29) Z 1 dX4_open_29 rfl ?_
    refine g_get (pc := 30) (v := .ref (ad 1)) (T := TX4) (N := 4) Z 0 0 dX4_open_30 (mm ww148) inx_X4 rfl (by decide) rfl rfl rfl ?_
    refine g_iconst (pc := 33) (v := 0) Z dX4_open_33 (by decide) ?_
    obtain ⟨x6, h7, hf⟩ := Option.bind_eq_some_iff.mp hf
    refine g_calll (pc := 34) (ws2 := fun u => (wH ad ++ wL ad ca vL ++ wD ad ca x4 ++ wC ad ca vC)) (wr := (wH ad ++ wL ad ca vL ++ wC ad ca vC)) Z [2, 3, 4, 5, 6] [0, 1, 7, 8, 9, 10, 11] [0, 1, 7, 8, 9, 10, 11, 2, 3, 4, 5, 6] (g_runV Z (c_Disk_read l D ad ca x4 (0 : Int32) x6 h7) (cwV 1 Z.2.2.2.2.1 (gg_V ww250 ww61 ww62 ww16 ww63) rfl rfl rfl (yv_of rfl yd_Disk_read) ⟨Nat.le_of_ble_eq_true rfl, Nat.le_of_ble_eq_true rfl⟩) [2, 3, 4, 5, 6] rfl (by decide) 0 rfl rfl rfl rfl rfl (Nat.le_of_ble_eq_true rfl) dX4_open_34 ⟨Nat.le_of_ble_eq_true rfl, Nat.le_of_ble_eq_true rfl⟩) rfl rfl (by decide) (by decide) (by decide) (fun _ => rfl) (fun r u hu => ?_)
    obtain rfl := hu.symm
    refine g_lconst (pc := 37) (v := 0) Z dX4_open_37 (by decide) ?_
    refine g_lcmp (pc := 38) Z dX4_open_38 ?_
    refine g_if_ne (pc := 39) (tgt := 49) Z dX4_open_39 (by decide) (fun c8 => ?_) (fun c8 => ?_)
    · replace hf := gIfN c8 hf
      refine g_aload_n (pc := 49) Z 1 dX4_open_49 rfl ?_
      refine g_get (pc := 50) (v := .ref (ad 6)) (T := TX4) (N := 4) Z 0 1 dX4_open_50 (mm ww152) inx_X4 rfl (by decide) rfl rfl rfl ?_
      obtain ⟨x9, h10, hf⟩ := Option.bind_eq_some_iff.mp hf
      refine g_calli (pc := 53) (ws2 := fun u => (wH ad ++ wL ad ca u ++ wD ad ca x4 ++ wC ad ca vC)) (wr := (wH ad ++ wC ad ca vC)) Z [1, 2, 3, 4, 5, 6] [0, 7, 8, 9, 10, 11] [0, 6, 7, 8, 9, 10, 11, 1, 2, 3, 4, 5] (g_runV Z (c_Log_findCommits l D ad ca N vL x4 x9 h10) (cwV 0 Z.2.2.2.2.1 (gg_V ww251 ww252 ww253 ww72 ww254) rfl rfl rfl (yv_of rfl yd_Log_findCommits) ⟨Nat.le_of_ble_eq_true rfl, Nat.le_of_ble_eq_true rfl⟩) [1, 2, 3, 4, 5, 6] rfl (by decide) 0 rfl rfl rfl rfl rfl (Nat.le_of_ble_eq_true rfl) dX4_open_53 ⟨Nat.le_of_ble_eq_true rfl, Nat.le_of_ble_eq_true rfl⟩) rfl rfl (by decide) (by decide) (by decide) (fun _ => rfl) (fun r u hu => ?_)
      obtain ⟨rfl, rfl⟩ := hu
      refine g_istore_n (pc := 56) (lv' := [(1, .int x9.1), (0, .ref (ad 0))]) Z dX4_open_56 (by decide) rfl ?_
      refine g_aload_n (pc := 57) Z 1 dX4_open_57 rfl ?_
      refine g_get (pc := 58) (v := .ref (ad 6)) (T := TX4) (N := 4) Z 0 1 dX4_open_58 (mm ww152) inx_X4 rfl (by decide) rfl rfl rfl ?_
      refine g_aload_n (pc := 61) Z 1 dX4_open_61 rfl ?_
      refine g_get (pc := 62) (v := .ref (ad 6)) (T := TX4) (N := 4) Z 0 1 dX4_open_62 (mm ww152) inx_X4 rfl (by decide) rfl rfl rfl ?_
      obtain ⟨x11, h12, hf⟩ := Option.bind_eq_some_iff.mp hf
      refine g_calli (pc := 65) (ws2 := fun u => (wH ad ++ wL ad ca x9.2 ++ wD ad ca x4 ++ wC ad ca vC)) (wr := (wH ad ++ wC ad ca vC)) Z [1, 2, 3, 4, 5, 6] [0, 7, 8, 9, 10, 11] [0, 6, 7, 8, 9, 10, 11, 1, 2, 3, 4, 5] (g_runV Z (c_Log_dirtyWords l D ad ca N x9.2 x4 x11 h12) (cwV 0 Z.2.2.2.2.1 (gg_V ww255 ww256 ww257 ww72 ww258) rfl rfl rfl (yv_of rfl yd_Log_dirtyWords) ⟨Nat.le_of_ble_eq_true rfl, Nat.le_of_ble_eq_true rfl⟩) [1, 2, 3, 4, 5, 6] rfl (by decide) 0 rfl rfl rfl rfl rfl (Nat.le_of_ble_eq_true rfl) dX4_open_65 ⟨Nat.le_of_ble_eq_true rfl, Nat.le_of_ble_eq_true rfl⟩) rfl rfl (by decide) (by decide) (by decide) (fun _ => rfl) (fun r u hu => ?_)
      obtain rfl := hu.symm
      obtain ⟨x13, h14, hf⟩ := Option.bind_eq_some_iff.mp hf
      refine g_calli (pc := 68) (ws2 := fun u => (wH ad ++ wL ad ca u.1 ++ wD ad ca u.2 ++ wC ad ca vC)) (wr := (wH ad ++ wC ad ca vC)) Z [1, 2, 3, 4, 5, 6] [0, 7, 8, 9, 10, 11] [0, 6, 7, 8, 9, 10, 11, 1, 2, 3, 4, 5] (g_runV Z (c_Log_carryOut l D ad ca N x9.2 x4 x11 x13 h14) (cwV 1 Z.2.2.2.2.1 (gg_V ww225 ww226 ww227 ww72 ww228) rfl rfl rfl (yv_of rfl yd_Log_carryOut) ⟨Nat.le_of_ble_eq_true rfl, Nat.le_of_ble_eq_true rfl⟩) [1, 2, 3, 4, 5, 6] rfl (by decide) 0 rfl rfl rfl rfl rfl (Nat.le_of_ble_eq_true rfl) dX4_open_68 ⟨Nat.le_of_ble_eq_true rfl, Nat.le_of_ble_eq_true rfl⟩) rfl rfl (by decide) (by decide) (by decide) (fun _ => rfl) (fun r u hu => ?_)
      obtain ⟨rfl, rfl⟩ := hu
      refine g_pop (pc := 71) Z dX4_open_71 rfl ?_
      refine g_aload_n (pc := 72) Z 1 dX4_open_72 rfl ?_
      refine g_get (pc := 73) (v := .ref (ad 1)) (T := TX4) (N := 4) Z 0 0 dX4_open_73 (mm ww148) inx_X4 rfl (by decide) rfl rfl rfl ?_
      obtain ⟨x15, h16, hf⟩ := Option.bind_eq_some_iff.mp hf
      refine g_calli (pc := 76) (ws2 := fun u => (wH ad ++ wL ad ca x13.2.1 ++ wD ad ca x13.2.2 ++ wC ad ca vC)) (wr := (wH ad ++ wL ad ca x13.2.1 ++ wC ad ca vC)) Z [2, 3, 4, 5, 6] [0, 1, 7, 8, 9, 10, 11] [0, 1, 7, 8, 9, 10, 11, 2, 3, 4, 5, 6] (g_runV Z (c_Disk_isOn l D ad ca x13.2.2 x15 h16) (cwV 0 Z.2.2.2.2.1 (gg_V ww154 ww155 ww156 ww16 ww157) rfl rfl rfl (yv_of rfl yd_Disk_isOn) ⟨Nat.le_of_ble_eq_true rfl, Nat.le_of_ble_eq_true rfl⟩) [2, 3, 4, 5, 6] rfl (by decide) 0 rfl rfl rfl rfl rfl (Nat.le_of_ble_eq_true rfl) dX4_open_76 ⟨Nat.le_of_ble_eq_true rfl, Nat.le_of_ble_eq_true rfl⟩) rfl rfl (by decide) (by decide) (by decide) (fun _ => rfl) (fun r u hu => ?_)
      obtain rfl := hu.symm
      refine g_if_ne (pc := 79) (tgt := 85) Z dX4_open_79 (by decide) (fun c17 => ?_) (fun c17 => ?_)
      · replace hf := gIfP (bI_nz c17) hf
        refine g_aload_n (pc := 85) Z 1 dX4_open_85 rfl ?_
        refine g_get (pc := 86) (v := .ref (ad 7)) (T := TX4) (N := 4) Z 0 2 dX4_open_86 (mm ww164) inx_X4 rfl (by decide) rfl rfl rfl ?_
        refine g_aload_n (pc := 89) Z 1 dX4_open_89 rfl ?_
        refine g_get (pc := 90) (v := .ref (ad 1)) (T := TX4) (N := 4) Z 0 0 dX4_open_90 (mm ww148) inx_X4 rfl (by decide) rfl rfl rfl ?_
        obtain ⟨x18, h19, hf⟩ := Option.bind_eq_some_iff.mp hf
        refine g_callv (pc := 93) (ws2 := fun u => (wH ad ++ wL ad ca x13.2.1 ++ wD ad ca x13.2.2 ++ wC ad ca u)) (wr := (wH ad ++ wL ad ca x13.2.1)) Z [2, 3, 4, 5, 6, 7, 8, 9, 10, 11] [0, 1] [0, 1, 2, 3, 4, 5, 6, 7, 8, 9, 10, 11] (g_runV Z (c_Chg_load l D ad ca N x13.2.2 vC x18 h19) (cwV 1 Z.2.2.2.2.1 (gg_V ww259 ww260 ww261 ww40 ww262) rfl rfl rfl (yv_of rfl yd_Chg_load) ⟨Nat.le_of_ble_eq_true rfl, Nat.le_of_ble_eq_true rfl⟩) [2, 3, 4, 5, 6, 7, 8, 9, 10, 11] rfl (by decide) 5 rfl rfl rfl rfl rfl (Nat.le_of_ble_eq_true rfl) dX4_open_93 ⟨Nat.le_of_ble_eq_true rfl, Nat.le_of_ble_eq_true rfl⟩) rfl rfl (by decide) (by decide) (by decide) (fun _ => rfl) (fun u hu => ?_)
        obtain rfl := hu.symm
        refine g_iload_n (pc := 96) Z 0 dX4_open_96 rfl ?_
        exact absurd (Option.some.inj hf) (fun h => by cases h)
      · replace hf := gIfN (bI_z c17) hf
        refine g_bipush (pc := 82) (v := -2) Z dX4_open_82 (by decide) ?_
        exact absurd (Option.some.inj hf) (fun h => by cases h)
    · replace hf := gIfP c8 hf
      refine g_aload_n (pc := 42) Z 1 dX4_open_42 rfl ?_
      obtain ⟨x20, h21, hf⟩ := Option.bind_eq_some_iff.mp hf
      refine g_callv (pc := 43) (ws2 := fun u => (wH ad ++ wL ad ca u.1 ++ wD ad ca u.2 ++ wC ad ca vC)) (wr := (wC ad ca vC)) Z [0, 1, 2, 3, 4, 5, 6] [7, 8, 9, 10, 11] [5, 6, 7, 8, 9, 10, 11, 0, 1, 2, 3, 4] (g_runV Z (c_Heap_format l D ad ca N vL x4 x20 h21) (cwV 0 Z.2.2.2.2.1 (gg_V ww263 ww264 ww265 ww2 ww266) rfl rfl rfl (yv_of rfl yd_Heap_format) ⟨Nat.le_of_ble_eq_true rfl, Nat.le_of_ble_eq_true rfl⟩) [0, 1, 2, 3, 4, 5, 6] rfl (by decide) 0 rfl rfl rfl rfl rfl (Nat.le_of_ble_eq_true rfl) dX4_open_43 ⟨Nat.le_of_ble_eq_true rfl, Nat.le_of_ble_eq_true rfl⟩) rfl rfl (by decide) (by decide) (by decide) (fun _ => rfl) (fun u hu => ?_)
      obtain rfl := hu.symm
      refine g_goto (pc := 46) (tgt := 72) Z dX4_open_46 (by decide) ?_
      refine g_aload_n (pc := 72) Z 1 dX4_open_72 rfl ?_
      refine g_get (pc := 73) (v := .ref (ad 1)) (T := TX4) (N := 4) Z 0 0 dX4_open_73 (mm ww148) inx_X4 rfl (by decide) rfl rfl rfl ?_
      obtain ⟨x22, h23, hf⟩ := Option.bind_eq_some_iff.mp hf
      refine g_calli (pc := 76) (ws2 := fun u => (wH ad ++ wL ad ca x20.1 ++ wD ad ca x20.2 ++ wC ad ca vC)) (wr := (wH ad ++ wL ad ca x20.1 ++ wC ad ca vC)) Z [2, 3, 4, 5, 6] [0, 1, 7, 8, 9, 10, 11] [0, 1, 7, 8, 9, 10, 11, 2, 3, 4, 5, 6] (g_runV Z (c_Disk_isOn l D ad ca x20.2 x22 h23) (cwV 0 Z.2.2.2.2.1 (gg_V ww154 ww155 ww156 ww16 ww157) rfl rfl rfl (yv_of rfl yd_Disk_isOn) ⟨Nat.le_of_ble_eq_true rfl, Nat.le_of_ble_eq_true rfl⟩) [2, 3, 4, 5, 6] rfl (by decide) 0 rfl rfl rfl rfl rfl (Nat.le_of_ble_eq_true rfl) dX4_open_76 ⟨Nat.le_of_ble_eq_true rfl, Nat.le_of_ble_eq_true rfl⟩) rfl rfl (by decide) (by decide) (by decide) (fun _ => rfl) (fun r u hu => ?_)
      obtain rfl := hu.symm
      refine g_if_ne (pc := 79) (tgt := 85) Z dX4_open_79 (by decide) (fun c24 => ?_) (fun c24 => ?_)
      · replace hf := gIfP (bI_nz c24) hf
        refine g_aload_n (pc := 85) Z 1 dX4_open_85 rfl ?_
        refine g_get (pc := 86) (v := .ref (ad 7)) (T := TX4) (N := 4) Z 0 2 dX4_open_86 (mm ww164) inx_X4 rfl (by decide) rfl rfl rfl ?_
        refine g_aload_n (pc := 89) Z 1 dX4_open_89 rfl ?_
        refine g_get (pc := 90) (v := .ref (ad 1)) (T := TX4) (N := 4) Z 0 0 dX4_open_90 (mm ww148) inx_X4 rfl (by decide) rfl rfl rfl ?_
        obtain ⟨x25, h26, hf⟩ := Option.bind_eq_some_iff.mp hf
        refine g_callv (pc := 93) (ws2 := fun u => (wH ad ++ wL ad ca x20.1 ++ wD ad ca x20.2 ++ wC ad ca u)) (wr := (wH ad ++ wL ad ca x20.1)) Z [2, 3, 4, 5, 6, 7, 8, 9, 10, 11] [0, 1] [0, 1, 2, 3, 4, 5, 6, 7, 8, 9, 10, 11] (g_runV Z (c_Chg_load l D ad ca N x20.2 vC x25 h26) (cwV 1 Z.2.2.2.2.1 (gg_V ww259 ww260 ww261 ww40 ww262) rfl rfl rfl (yv_of rfl yd_Chg_load) ⟨Nat.le_of_ble_eq_true rfl, Nat.le_of_ble_eq_true rfl⟩) [2, 3, 4, 5, 6, 7, 8, 9, 10, 11] rfl (by decide) 5 rfl rfl rfl rfl rfl (Nat.le_of_ble_eq_true rfl) dX4_open_93 ⟨Nat.le_of_ble_eq_true rfl, Nat.le_of_ble_eq_true rfl⟩) rfl rfl (by decide) (by decide) (by decide) (fun _ => rfl) (fun u hu => ?_)
        obtain rfl := hu.symm
        refine g_iload_n (pc := 96) Z 0 dX4_open_96 rfl ?_
        exact absurd (Option.some.inj hf) (fun h => by cases h)
      · replace hf := gIfN (bI_z c24) hf
        refine g_bipush (pc := 82) (v := -2) Z dX4_open_82 (by decide) ?_
        exact absurd (Option.some.inj hf) (fun h => by cases h)
  · replace hf := gIfP (bI_nz c3) hf
    obtain rfl := Except.error.inj (Option.some.inj hf)
    exact g_throw (pc := 10) (cls := "java/lang/IllegalStateException") (text := "the power is on") (names := supX) (strs := strsH) (pe := fun E9 => E9 = "java/lang/IllegalStateException") Z hl0 hT htab dX4_open_10 dX4_open_13 dX4_open_14 dX4_open_16 dX4_open_19 rfl supX_fit (by decide) (mm ww158) (mm ww159) (vx_hat (fun w h => Z.2.2.2.2.1 w (mm (at_52 w h))) ab_52 (gN.bad Z.2.2.2.2.2.2.2.2)) ag_52 (Nat.le_of_ble_eq_true rfl) (Nat.le_of_ble_eq_true rfl) (Nat.le_of_ble_eq_true rfl) (Nat.le_of_ble_eq_true rfl) rfl (Nat.le_of_ble_eq_true rfl) (Nat.le_of_ble_eq_true rfl)
theorem ww267 : Cond.methodLink RX4 160 yX4_isWord ∈ gA := wt3 83 rfl rfl
theorem ww268 : Cond.methodLink RX4 168 yX2_settled ∈ gA := wt3 100 rfl rfl
theorem ww269 : Cond.instanceMethod yX2_settled ∈ gA := wt3 101 rfl rfl
theorem ww270 : Cond.selects RX2 yX2_settled yX2_settled ∈ gA := wt3 102 rfl rfl
theorem ww271 : cd_Disk_settled ∈ gA := wt3 103 rfl rfl
theorem ww272 : Cond.classLink RX4 163 "java/lang/IndexOutOfBoundsException" ∈ gA := wt3 84 rfl rfl
theorem ww273 : Cond.initialized "java/lang/IndexOutOfBoundsException" ∈ gA := wt1 14 rfl rfl
/-! RedoHeap.word(I)J -/
def f_Heap_word (vD : DT) (p1 : Int32) : Option (Except String (Int64)) :=
  (f_Heap_isWord p1).bind fun x1 => if x1 = true then (f_Disk_settled vD p1).bind fun x4 => some (Except.ok x4) else some (Except.error "java/lang/IndexOutOfBoundsException")
abbrev cd_Heap_word : Cond := .code yX4_word cX4_word 2 (some .long)
theorem yd_Heap_word : yX4_word.cls ≠ "java/lang/invoke/MethodHandle" ∧ yX4_word.cls ≠ "java/lang/invoke/VarHandle" ∧ (parseMethodDescriptor yX4_word.desc).map (fun d => d.parameters.length) = some 1 := by decide +kernel
abbrev rm_Heap_word : Room := { frames := 2, cells := 0, slots := 0, locals := 41 }
abbrev rx_Heap_word : Room := { frames := 6, cells := 1, slots := 6, locals := 82 }
abbrev q_Heap_word (D : va_G) (ad : Nat → Nat) (ca : Nat → ClassId) (vD : DT) (res : Int64) (A : Nat → Prop) : Array Value → State → Outcome → State → Prop := va_Ql (fun (r : Int64) (_ : Unit) => r = res) (gB D cls (tys ca) A (fun (u : Unit) => (wH ad ++ wD ad ca vD))) A
set_option maxHeartbeats 4000000 in
set_option maxRecDepth 100000 in
theorem c_Heap_word (l : Launch) (D : va_G) (ad : Nat → Nat) (ca : Nat → ClassId) (vD : DT) (p1 : Int32) (res : Int64) (hf : f_Heap_word vD p1 = some (.ok res)) (sz : Nat) : Met l yX4_word (cd_Heap_word :: gA) rm_Heap_word (va_Pc [.ref (ad 0), .int p1] (gP D cls (tys ca) (wH ad ++ wD ad ca vD) sz)) (q_Heap_word D ad ca vD res (va_A (wH ad ++ wD ad ca vD) sz)) 0 0 (va_A (wH ad ++ wD ad ca vD) sz) := by
  refine g_met (cc := cX4_word) (Qc := q_Heap_word D ad ca vD res) (lv := [(0, .ref (ad 0)), (1, .int p1)]) (own := RX4) (by decide) rfl rfl (Nat.le_of_ble_eq_true rfl) rfl sz ?_
  intro p e s m args below meth c A Z hr hnm
  unfold f_Heap_word at hf
  refine g_iload_n (pc := 0) Z 1 dX4_word_0 rfl ?_
  obtain ⟨x1, h2, hf⟩ := Option.bind_eq_some_iff.mp hf
  refine g_calli (pc := 1) (ws2 := fun u => (wH ad ++ wD ad ca vD)) (wr := (wH ad ++ wD ad ca vD)) Z [] [0, 1, 2, 3, 4, 5] [0, 1, 2, 3, 4, 5] (g_runS Z (c_Heap_isWord l D ad ca p1 x1 h2) (va_cwS 1 Z.2.2.2.2.1 (gg_S ww267 ww3 ww2 ww1) rfl rfl rfl yd_Heap_isWord ⟨Nat.le_of_ble_eq_true rfl, Nat.le_of_ble_eq_true rfl⟩) [] rfl (by decide) rfl rfl (Nat.le_of_ble_eq_true rfl) dX4_word_1 ⟨Nat.le_of_ble_eq_true rfl, Nat.le_of_ble_eq_true rfl⟩) rfl rfl (by decide) (by decide) (by decide) (fun _ => rfl) (fun r u hu => ?_)
  obtain rfl := hu.symm
  refine g_if_ne (pc := 4) (tgt := 17) Z dX4_word_4 (by decide) (fun c3 => ?_) (fun c3 => ?_)
  · replace hf := gIfP (bI_nz c3) hf
    refine g_aload_n (pc := 17) Z 0 dX4_word_17 rfl ?_
    refine g_get (pc := 18) (v := .ref (ad 1)) (T := TX4) (N := 4) Z 0 0 dX4_word_18 (mm ww148) inx_X4 rfl (by decide) rfl rfl rfl ?_
    refine g_iload_n (pc := 21) Z 1 dX4_word_21 rfl ?_
    obtain ⟨x4, h5, hf⟩ := Option.bind_eq_some_iff.mp hf
    refine g_calll (pc := 22) (ws2 := fun u => (wH ad ++ wD ad ca vD)) (wr := (wH ad)) Z [1, 2, 3, 4, 5] [0] [0, 1, 2, 3, 4, 5] (g_runV Z (c_Disk_settled l D ad ca vD p1 x4 h5) (cwV 1 Z.2.2.2.2.1 (gg_V ww268 ww269 ww270 ww16 ww271) rfl rfl rfl (yv_of rfl yd_Disk_settled) ⟨Nat.le_of_ble_eq_true rfl, Nat.le_of_ble_eq_true rfl⟩) [1, 2, 3, 4, 5] rfl (by decide) 0 rfl rfl rfl rfl rfl (Nat.le_of_ble_eq_true rfl) dX4_word_22 ⟨Nat.le_of_ble_eq_true rfl, Nat.le_of_ble_eq_true rfl⟩) rfl rfl (by decide) (by decide) (by decide) (fun _ => rfl) (fun r u hu => ?_)
    obtain rfl := hu.symm
    obtain rfl := Except.ok.inj (Option.some.inj hf)
    exact g_lret Z hr dX4_word_25 () rfl rfl
  · replace hf := gIfN (bI_z c3) hf
    exact absurd (Option.some.inj hf) (fun h => by cases h)
set_option maxHeartbeats 4000000 in
set_option maxRecDepth 100000 in
theorem x_Heap_word (l : Launch) (hl0 : l.stackTraces = false) (D : va_G) (ad : Nat → Nat) (ca : Nat → ClassId) (vD : DT) (p1 : Int32) (E : String) (hf : f_Heap_word vD p1 = some (.error E)) (sz : Nat) : vx_Met l yX4_word (cd_Heap_word :: gA) rx_Heap_word (va_Pc [.ref (ad 0), .int p1] (gPX D cls (tys ca) (wH ad ++ wD ad ca vD) sz RX4 strsH)) (gQE (va_A (wH ad ++ wD ad ca vD) sz)) (gXC D cls (tys ca) (wH ad ++ wD ad ca vD) (fun E9 => E9 = E) (va_A (wH ad ++ wD ad ca vD) sz)) 1 6 (va_A (wH ad ++ wD ad ca vD) sz) := by
  refine g_metX (cc := cX4_word) (Qc := gQE) (pe := fun E9 => E9 = E) (lv := [(0, .ref (ad 0)), (1, .int p1)]) (own := RX4) (by decide) rfl rfl (Nat.le_of_ble_eq_true rfl) rfl sz ?_
  intro p e s m args below meth c A Z hr hnm hT htab
  unfold f_Heap_word at hf
  refine g_iload_n (pc := 0) Z 1 dX4_word_0 rfl ?_
  obtain ⟨x1, h2, hf⟩ := Option.bind_eq_some_iff.mp hf
  refine g_calli (pc := 1) (ws2 := fun u => (wH ad ++ wD ad ca vD)) (wr := (wH ad ++ wD ad ca vD)) Z [] [0, 1, 2, 3, 4, 5] [0, 1, 2, 3, 4, 5] (g_runS Z (c_Heap_isWord l D ad ca p1 x1 h2) (va_cwS 1 Z.2.2.2.2.1 (gg_S ww267 ww3 ww2 ww1) rfl rfl rfl yd_Heap_isWord ⟨Nat.le_of_ble_eq_true rfl, Nat.le_of_ble_eq_true rfl⟩) [] rfl (by decide) rfl rfl (Nat.le_of_ble_eq_true rfl) dX4_word_1 ⟨Nat.le_of_ble_eq_true rfl, Nat.le_of_ble_eq_true rfl⟩) rfl rfl (by decide) (by decide) (by decide) (fun _ => rfl) (fun r u hu => ?_)
  obtain rfl := hu.symm
  refine g_if_ne (pc := 4) (tgt := 17) Z dX4_word_4 (by decide) (fun c3 => ?_) (fun c3 => ?_)
  · replace hf := gIfP (bI_nz c3) hf
    refine g_aload_n (pc := 17) Z 0 dX4_word_17 rfl ?_
    refine g_get (pc := 18) (v := .ref (ad 1)) (T := TX4) (N := 4) Z 0 0 dX4_word_18 (mm ww148) inx_X4 rfl (by decide) rfl rfl rfl ?_
    refine g_iload_n (pc := 21) Z 1 dX4_word_21 rfl ?_
    obtain ⟨x4, h5, hf⟩ := Option.bind_eq_some_iff.mp hf
    refine g_calll (pc := 22) (ws2 := fun u => (wH ad ++ wD ad ca vD)) (wr := (wH ad)) Z [1, 2, 3, 4, 5] [0] [0, 1, 2, 3, 4, 5] (g_runV Z (c_Disk_settled l D ad ca vD p1 x4 h5) (cwV 1 Z.2.2.2.2.1 (gg_V ww268 ww269 ww270 ww16 ww271) rfl rfl rfl (yv_of rfl yd_Disk_settled) ⟨Nat.le_of_ble_eq_true rfl, Nat.le_of_ble_eq_true rfl⟩) [1, 2, 3, 4, 5] rfl (by decide) 0 rfl rfl rfl rfl rfl (Nat.le_of_ble_eq_true rfl) dX4_word_22 ⟨Nat.le_of_ble_eq_true rfl, Nat.le_of_ble_eq_true rfl⟩) rfl rfl (by decide) (by decide) (by decide) (fun _ => rfl) (fun r u hu => ?_)
    obtain rfl := hu.symm
    exact absurd (Option.some.inj hf) (fun h => by cases h)
  · replace hf := gIfN (bI_z c3) hf
    obtain rfl := Except.error.inj (Option.some.inj hf)
    exact g_throw (pc := 7) (cls := "java/lang/IndexOutOfBoundsException") (text := "no such word") (names := supX) (strs := strsH) (pe := fun E9 => E9 = "java/lang/IndexOutOfBoundsException") Z hl0 hT htab dX4_word_7 dX4_word_10 dX4_word_11 dX4_word_13 dX4_word_16 rfl supX_fit (by decide) (mm ww272) (mm ww273) (vx_hat (fun w h => Z.2.2.2.2.1 w (mm (at_167 w h))) ab_167 (gN.bad Z.2.2.2.2.2.2.2.2)) ag_167 (Nat.le_of_ble_eq_true rfl) (Nat.le_of_ble_eq_true rfl) (Nat.le_of_ble_eq_true rfl) (Nat.le_of_ble_eq_true rfl) rfl (Nat.le_of_ble_eq_true rfl) (Nat.le_of_ble_eq_true rfl)
theorem ww274 : Cond.methodLink RX4 173 yX0_headOf ∈ gA := wt3 112 rfl rfl
theorem ww275 : Cond.instanceMethod yX0_headOf ∈ gA := wt3 113 rfl rfl
theorem ww276 : Cond.selects RX0 yX0_headOf yX0_headOf ∈ gA := wt3 114 rfl rfl
theorem ww277 : cd_Blk_headOf ∈ gA := wt3 115 rfl rfl
theorem ww278 : Cond.methodLink RX4 179 yX0_isUsed ∈ gA := wt3 116 rfl rfl
/-! RedoHeap.block(II)I -/
def f_Heap_block (N : Nat) (vD : DT) (vC : CT) (p1 : Int32) (p2 : Int32) : Option (Except String (Int32)) :=
  gE (f_Heap_needPower vD) fun x1 => if p2 < 0 then some (Except.error "java/lang/IndexOutOfBoundsException") else if p2 ≤ (2 : Int32) then (f_Blk_headOf N vC p1).bind fun x5 => if x5 = (-1 : Int32) then some (Except.ok (-1 : Int32)) else if p2 = (0 : Int32) then some (Except.ok (x5 + (1 : Int32))) else if p2 = (1 : Int32) then (f_Blk_sizeAt vC x5).bind fun x10 => some (Except.ok x10) else (f_Blk_isUsed vC x5).bind fun x12 => if x12 = true then some (Except.ok (1 : Int32)) else some (Except.ok (0 : Int32)) else some (Except.error "java/lang/IndexOutOfBoundsException")
abbrev cd_Heap_block : Cond := .code yX4_block cX4_block 4 (some .int)
theorem yd_Heap_block : yX4_block.cls ≠ "java/lang/invoke/MethodHandle" ∧ yX4_block.cls ≠ "java/lang/invoke/VarHandle" ∧ (parseMethodDescriptor yX4_block.desc).map (fun d => d.parameters.length) = some 2 := by decide +kernel
abbrev rm_Heap_block : Room := { frames := 4, cells := 0, slots := 0, locals := 88 }
abbrev rx_Heap_block : Room := { frames := 7, cells := 1, slots := 6, locals := 102 }
abbrev q_Heap_block (D : va_G) (ad : Nat → Nat) (ca : Nat → ClassId) (vD : DT) (vC : CT) (res : Int32) (A : Nat → Prop) : Array Value → State → Outcome → State → Prop := va_Qi (fun (r : Int32) (_ : Unit) => r = res) (gB D cls (tys ca) A (fun (u : Unit) => (wH ad ++ wB ad ++ wD ad ca vD ++ wC ad ca vC))) A
set_option maxHeartbeats 4000000 in
set_option maxRecDepth 100000 in
theorem c_Heap_block (l : Launch) (D : va_G) (ad : Nat → Nat) (ca : Nat → ClassId) (N : Nat) (vD : DT) (vC : CT) (p1 : Int32) (p2 : Int32) (res : Int32) (hf : f_Heap_block N vD vC p1 p2 = some (.ok res)) (sz : Nat) : Met l yX4_block (cd_Heap_block :: gA) rm_Heap_block (va_Pc [.ref (ad 0), .int p1, .int p2] (gP D cls (tys ca) (wH ad ++ wB ad ++ wD ad ca vD ++ wC ad ca vC) sz)) (q_Heap_block D ad ca vD vC res (va_A (wH ad ++ wB ad ++ wD ad ca vD ++ wC ad ca vC) sz)) 0 0 (va_A (wH ad ++ wB ad ++ wD ad ca vD ++ wC ad ca vC) sz) := by
  refine g_met (cc := cX4_block) (Qc := q_Heap_block D ad ca vD vC res) (lv := [(0, .ref (ad 0)), (1, .int p1), (2, .int p2)]) (own := RX4) (by decide) rfl rfl (Nat.le_of_ble_eq_true rfl) rfl sz ?_
  intro p e s m args below meth c A Z hr hnm
  unfold f_Heap_block at hf
  refine g_aload_n (pc := 0) Z 0 dX4_block_0 rfl ?_
  obtain ⟨x1, h2, hf⟩ := gE_ok hf
  refine g_callv (pc := 1) (ws2 := fun u => (wH ad ++ wB ad ++ wD ad ca vD ++ wC ad ca vC)) (wr := (wB ad ++ wC ad ca vC)) Z [0, 2, 3, 4, 5, 6] [1, 7, 8, 9, 10, 11] [6, 0, 7, 8, 9, 10, 11, 1, 2, 3, 4, 5] (g_runV Z (c_Heap_needPower l D ad ca vD x1 h2) (cwV 0 Z.2.2.2.2.1 (gg_V ww160 ww161 ww162 ww2 ww163) rfl rfl rfl (yv_of rfl yd_Heap_needPower) ⟨Nat.le_of_ble_eq_true rfl, Nat.le_of_ble_eq_true rfl⟩) [0, 2, 3, 4, 5, 6] rfl (by decide) 0 rfl rfl rfl rfl rfl (Nat.le_of_ble_eq_true rfl) dX4_block_1 ⟨(Nat.le_of_ble_eq_true rfl), (Nat.le_of_ble_eq_true rfl)⟩) rfl rfl (by decide) (by decide) (by decide) (fun _ => rfl) (fun u hu => ?_)
  refine g_iload_n (pc := 4) Z 2 dX4_block_4 rfl ?_
  refine g_if_lt (pc := 5) (tgt := 13) Z dX4_block_5 (by decide) (fun c3 => ?_) (fun c3 => ?_)
  · replace hf := gIfP c3 hf
    exact absurd (Option.some.inj hf) (fun h => by cases h)
  · replace hf := gIfN c3 hf
    refine g_iload_n (pc := 8) Z 2 dX4_block_8 rfl ?_
    refine g_iconst (pc := 9) (v := 2) Z dX4_block_9 (by decide) ?_
    refine g_icmp_le (pc := 10) (tgt := 23) Z dX4_block_10 (by decide) (fun c4 => ?_) (fun c4 => ?_)
    · replace hf := gIfP c4 hf
      refine g_aload_n (pc := 23) Z 0 dX4_block_23 rfl ?_
      refine g_get (pc := 24) (v := .ref (ad 12)) (T := TX4) (N := 4) Z 0 3 dX4_block_24 (mm ww181) inx_X4 rfl (by decide) rfl rfl rfl ?_
      refine g_iload_n (pc := 27) Z 1 dX4_block_27 rfl ?_
      obtain ⟨x5, h6, hf⟩ := Option.bind_eq_some_iff.mp hf
      refine g_calli (pc := 28) (ws2 := fun u => (wH ad ++ wB ad ++ wD ad ca vD ++ wC ad ca vC)) (wr := (wH ad ++ wD ad ca vD)) Z [1, 7, 8, 9, 10, 11] [0, 2, 3, 4, 5, 6] [0, 6, 1, 2, 3, 4, 5, 7, 8, 9, 10, 11] (g_runV Z (c_Blk_headOf l D ad ca N vC p1 x5 h6) (cwV 1 Z.2.2.2.2.1 (gg_V ww274 ww275 ww276 ww116 ww277) rfl rfl rfl (yv_of rfl yd_Blk_headOf) ⟨Nat.le_of_ble_eq_true rfl, Nat.le_of_ble_eq_true rfl⟩) [1, 7, 8, 9, 10, 11] rfl (by decide) 0 rfl rfl rfl rfl rfl (Nat.le_of_ble_eq_true rfl) dX4_block_28 ⟨Nat.le_of_ble_eq_true rfl, Nat.le_of_ble_eq_true rfl⟩) rfl rfl (by decide) (by decide) (by decide) (fun _ => rfl) (fun r u hu => ?_)
      obtain rfl := hu.symm
      refine g_istore_n (pc := 31) (lv' := [(3, .int x5), (0, .ref (ad 0)), (1, .int p1), (2, .int p2)]) Z dX4_block_31 (by decide) rfl ?_
      refine g_iload_n (pc := 32) Z 0 dX4_block_32 rfl ?_
      refine g_iconst (pc := 33) (v := -1) Z dX4_block_33 (by decide) ?_
      refine g_icmp_ne (pc := 34) (tgt := 39) Z dX4_block_34 (by decide) (fun c7 => ?_) (fun c7 => ?_)
      · replace hf := gIfN c7 hf
        refine g_iload_n (pc := 39) Z 3 dX4_block_39 rfl ?_
        by_cases c8 : p2 = (0 : Int32)
        · replace hf := gIfP c8 hf
          refine g_lookIn (pc := 40) (tgt := 68) Z dX4_block_40 c8 rfl rfl (by decide) ?_
          refine g_iload_n (pc := 68) Z 0 dX4_block_68 rfl ?_
          refine g_iconst (pc := 69) (v := 1) Z dX4_block_69 (by decide) ?_
          refine g_iadd (pc := 70) Z dX4_block_70 ?_
          obtain rfl := Except.ok.inj (Option.some.inj hf)
          exact g_iret Z hr dX4_block_71 () rfl rfl
        · replace hf := gIfN c8 hf
          by_cases c9 : p2 = (1 : Int32)
          · replace hf := gIfP c9 hf
            refine g_lookIn (pc := 40) (tgt := 72) Z dX4_block_40 c9 rfl rfl (by decide) ?_
            refine g_aload_n (pc := 72) Z 1 dX4_block_72 rfl ?_
            refine g_get (pc := 73) (v := .ref (ad 12)) (T := TX4) (N := 4) Z 0 3 dX4_block_73 (mm ww181) inx_X4 rfl (by decide) rfl rfl rfl ?_
            refine g_iload_n (pc := 76) Z 0 dX4_block_76 rfl ?_
            obtain ⟨x10, h11, hf⟩ := Option.bind_eq_some_iff.mp hf
            refine g_calli (pc := 77) (ws2 := fun u => (wH ad ++ wB ad ++ wD ad ca vD ++ wC ad ca vC)) (wr := (wH ad ++ wD ad ca vD)) Z [1, 7, 8, 9, 10, 11] [0, 2, 3, 4, 5, 6] [0, 6, 1, 2, 3, 4, 5, 7, 8, 9, 10, 11] (g_runV Z (c_Blk_sizeAt l D ad ca vC x5 x10 h11) (cwV 1 Z.2.2.2.2.1 (gg_V ww200 ww119 ww120 ww116 ww121) rfl rfl rfl (yv_of rfl yd_Blk_sizeAt) ⟨Nat.le_of_ble_eq_true rfl, Nat.le_of_ble_eq_true rfl⟩) [1, 7, 8, 9, 10, 11] rfl (by decide) 0 rfl rfl rfl rfl rfl (Nat.le_of_ble_eq_true rfl) dX4_block_77 ⟨Nat.le_of_ble_eq_true rfl, Nat.le_of_ble_eq_true rfl⟩) rfl rfl (by decide) (by decide) (by decide) (fun _ => rfl) (fun r u hu => ?_)
            obtain rfl := hu.symm
            obtain rfl := Except.ok.inj (Option.some.inj hf)
            exact g_iret Z hr dX4_block_80 () rfl rfl
          · replace hf := gIfN c9 hf
            refine g_lookOut (pc := 40) (off := 41) (tgt := 81) Z dX4_block_40 rfl (by rw [lv_osw c8 (by decide)]; rw [lv_osw c9 (by decide)]; rfl) (by decide) ?_
            refine g_aload_n (pc := 81) Z 1 dX4_block_81 rfl ?_
            refine g_get (pc := 82) (v := .ref (ad 12)) (T := TX4) (N := 4) Z 0 3 dX4_block_82 (mm ww181) inx_X4 rfl (by decide) rfl rfl rfl ?_
            refine g_iload_n (pc := 85) Z 0 dX4_block_85 rfl ?_
            obtain ⟨x12, h13, hf⟩ := Option.bind_eq_some_iff.mp hf
            refine g_calli (pc := 86) (ws2 := fun u => (wH ad ++ wB ad ++ wD ad ca vD ++ wC ad ca vC)) (wr := (wH ad ++ wD ad ca vD)) Z [1, 7, 8, 9, 10, 11] [0, 2, 3, 4, 5, 6] [0, 6, 1, 2, 3, 4, 5, 7, 8, 9, 10, 11] (g_runV Z (c_Blk_isUsed l D ad ca vC x5 x12 h13) (cwV 1 Z.2.2.2.2.1 (gg_V ww278 ww114 ww115 ww116 ww117) rfl rfl rfl (yv_of rfl yd_Blk_isUsed) ⟨Nat.le_of_ble_eq_true rfl, Nat.le_of_ble_eq_true rfl⟩) [1, 7, 8, 9, 10, 11] rfl (by decide) 0 rfl rfl rfl rfl rfl (Nat.le_of_ble_eq_true rfl) dX4_block_86 ⟨Nat.le_of_ble_eq_true rfl, Nat.le_of_ble_eq_true rfl⟩) rfl rfl (by decide) (by decide) (by decide) (fun _ => rfl) (fun r u hu => ?_)
            obtain rfl := hu.symm
            refine g_if_eq (pc := 89) (tgt := 96) Z dX4_block_89 (by decide) (fun c14 => ?_) (fun c14 => ?_)
            · replace hf := gIfN (bI_z c14) hf
              refine g_iconst (pc := 96) (v := 0) Z dX4_block_96 (by decide) ?_
              obtain rfl := Except.ok.inj (Option.some.inj hf)
              exact g_iret Z hr dX4_block_97 () rfl rfl
            · replace hf := gIfP (bI_nz c14) hf
              refine g_iconst (pc := 92) (v := 1) Z dX4_block_92 (by decide) ?_
              refine g_goto (pc := 93) (tgt := 97) Z dX4_block_93 (by decide) ?_
              obtain rfl := Except.ok.inj (Option.some.inj hf)
              exact g_iret Z hr dX4_block_97 () rfl rfl
      · replace hf := gIfP c7 hf
        refine g_iconst (pc := 37) (v := -1) Z dX4_block_37 (by decide) ?_
        obtain rfl := Except.ok.inj (Option.some.inj hf)
        exact g_iret Z hr dX4_block_38 () rfl rfl
    · replace hf := gIfN c4 hf
      exact absurd (Option.some.inj hf) (fun h => by cases h)
set_option maxHeartbeats 4000000 in
set_option maxRecDepth 100000 in
theorem x_Heap_block (l : Launch) (hl0 : l.stackTraces = false) (D : va_G) (ad : Nat → Nat) (ca : Nat → ClassId) (N : Nat) (vD : DT) (vC : CT) (p1 : Int32) (p2 : Int32) (E : String) (hf : f_Heap_block N vD vC p1 p2 = some (.error E)) (sz : Nat) : vx_Met l yX4_block (cd_Heap_block :: gA) rx_Heap_block (va_Pc [.ref (ad 0), .int p1, .int p2] (gPX D cls (tys ca) (wH ad ++ wB ad ++ wD ad ca vD ++ wC ad ca vC) sz RX4 strsH)) (gQE (va_A (wH ad ++ wB ad ++ wD ad ca vD ++ wC ad ca vC) sz)) (gXC D cls (tys ca) (wH ad ++ wB ad ++ wD ad ca vD ++ wC ad ca vC) (fun E9 => E9 = E) (va_A (wH ad ++ wB ad ++ wD ad ca vD ++ wC ad ca vC) sz)) 1 6 (va_A (wH ad ++ wB ad ++ wD ad ca vD ++ wC ad ca vC) sz) := by
  refine g_metX (cc := cX4_block) (Qc := gQE) (pe := fun E9 => E9 = E) (lv := [(0, .ref (ad 0)), (1, .int p1), (2, .int p2)]) (own := RX4) (by decide) rfl rfl (Nat.le_of_ble_eq_true rfl) rfl sz ?_
  intro p e s m args below meth c A Z hr hnm hT htab
  unfold f_Heap_block at hf
  refine g_aload_n (pc := 0) Z 0 dX4_block_0 rfl ?_
  rcases gE_er hf with h2 | ⟨x1, h2, hf⟩
  · refine g_callE (pc := 1) (wr := (wB ad ++ wC ad ca vC)) Z [0, 2, 3, 4, 5, 6] [1, 7, 8, 9, 10, 11] [6, 0, 7, 8, 9, 10, 11, 1, 2, 3, 4, 5] (g_runXV Z hT (x_Heap_needPower l hl0 D ad ca vD E h2) (cwV 0 Z.2.2.2.2.1 (gg_V ww160 ww161 ww162 ww2 ww163) rfl rfl rfl (yv_of rfl yd_Heap_needPower) ⟨Nat.le_of_ble_eq_true rfl, Nat.le_of_ble_eq_true rfl⟩) [0, 2, 3, 4, 5, 6] rfl (by decide) 0 rfl rfl rfl rfl rfl (Nat.le_of_ble_eq_true rfl) dX4_block_1 ⟨(Nat.le_of_ble_eq_true rfl), (Nat.le_of_ble_eq_true rfl)⟩) rfl rfl (by decide) (by decide) (by decide) rfl ?_
    exact g_out Z htab rfl (Nat.le_of_ble_eq_true rfl) (Nat.le_of_ble_eq_true rfl)
  · refine g_callv (pc := 1) (ws2 := fun u => (wH ad ++ wB ad ++ wD ad ca vD ++ wC ad ca vC)) (wr := (wB ad ++ wC ad ca vC)) Z [0, 2, 3, 4, 5, 6] [1, 7, 8, 9, 10, 11] [6, 0, 7, 8, 9, 10, 11, 1, 2, 3, 4, 5] (g_runV Z (c_Heap_needPower l D ad ca vD x1 h2) (cwV 0 Z.2.2.2.2.1 (gg_V ww160 ww161 ww162 ww2 ww163) rfl rfl rfl (yv_of rfl yd_Heap_needPower) ⟨Nat.le_of_ble_eq_true rfl, Nat.le_of_ble_eq_true rfl⟩) [0, 2, 3, 4, 5, 6] rfl (by decide) 0 rfl rfl rfl rfl rfl (Nat.le_of_ble_eq_true rfl) dX4_block_1 ⟨(Nat.le_of_ble_eq_true rfl), (Nat.le_of_ble_eq_true rfl)⟩) rfl rfl (by decide) (by decide) (by decide) (fun _ => rfl) (fun u hu => ?_)
    refine g_iload_n (pc := 4) Z 2 dX4_block_4 rfl ?_
    refine g_if_lt (pc := 5) (tgt := 13) Z dX4_block_5 (by decide) (fun c3 => ?_) (fun c3 => ?_)
    · replace hf := gIfP c3 hf
      obtain rfl := Except.error.inj (Option.some.inj hf)
      exact g_throw (pc := 13) (cls := "java/lang/IndexOutOfBoundsException") (text := "no such question") (names := supX) (strs := strsH) (pe := fun E9 => E9 = "java/lang/IndexOutOfBoundsException") Z hl0 hT htab dX4_block_13 dX4_block_16 dX4_block_17 dX4_block_19 dX4_block_22 rfl supX_fit (by decide) (mm ww272) (mm ww273) (vx_hat (fun w h => Z.2.2.2.2.1 w (mm (at_167 w h))) ab_167 (gN.bad Z.2.2.2.2.2.2.2.2)) ag_167 (Nat.le_of_ble_eq_true rfl) (Nat.le_of_ble_eq_true rfl) (Nat.le_of_ble_eq_true rfl) (Nat.le_of_ble_eq_true rfl) rfl (Nat.le_of_ble_eq_true rfl) (Nat.le_of_ble_eq_true rfl)
    · replace hf := gIfN c3 hf
      refine g_iload_n (pc := 8) Z 2 dX4_block_8 rfl ?_
      refine g_iconst (pc := 9) (v := 2) Z dX4_block_9 (by decide) ?_
      refine g_icmp_le (pc := 10) (tgt := 23) Z dX4_block_10 (by decide) (fun c4 => ?_) (fun c4 => ?_)
      · replace hf := gIfP c4 hf
        refine g_aload_n (pc := 23) Z 0 dX4_block_23 rfl ?_
        refine g_get (pc := 24) (v := .ref (ad 12)) (T := TX4) (N := 4) Z 0 3 dX4_block_24 (mm ww181) inx_X4 rfl (by decide) rfl rfl rfl ?_
        refine g_iload_n (pc := 27) Z 1 dX4_block_27 rfl ?_
        obtain ⟨x5, h6, hf⟩ := Option.bind_eq_some_iff.mp hf
        refine g_calli (pc := 28) (ws2 := fun u => (wH ad ++ wB ad ++ wD ad ca vD ++ wC ad ca vC)) (wr := (wH ad ++ wD ad ca vD)) Z [1, 7, 8, 9, 10, 11] [0, 2, 3, 4, 5, 6] [0, 6, 1, 2, 3, 4, 5, 7, 8, 9, 10, 11] (g_runV Z (c_Blk_headOf l D ad ca N vC p1 x5 h6) (cwV 1 Z.2.2.2.2.1 (gg_V ww274 ww275 ww276 ww116 ww277) rfl rfl rfl (yv_of rfl yd_Blk_headOf) ⟨Nat.le_of_ble_eq_true rfl, Nat.le_of_ble_eq_true rfl⟩) [1, 7, 8, 9, 10, 11] rfl (by decide) 0 rfl rfl rfl rfl rfl (Nat.le_of_ble_eq_true rfl) dX4_block_28 ⟨Nat.le_of_ble_eq_true rfl, Nat.le_of_ble_eq_true rfl⟩) rfl rfl (by decide) (by decide) (by decide) (fun _ => rfl) (fun r u hu => ?_)
        obtain rfl := hu.symm
        refine g_istore_n (pc := 31) (lv' := [(3, .int x5), (0, .ref (ad 0)), (1, .int p1), (2, .int p2)]) Z dX4_block_31 (by decide) rfl ?_
        refine g_iload_n (pc := 32) Z 0 dX4_block_32 rfl ?_
        refine g_iconst (pc := 33) (v := -1) Z dX4_block_33 (by decide) ?_
        refine g_icmp_ne (pc := 34) (tgt := 39) Z dX4_block_34 (by decide) (fun c7 => ?_) (fun c7 => ?_)
        · replace hf := gIfN c7 hf
          refine g_iload_n (pc := 39) Z 3 dX4_block_39 rfl ?_
          by_cases c8 : p2 = (0 : Int32)
          · replace hf := gIfP c8 hf
            refine g_lookIn (pc := 40) (tgt := 68) Z dX4_block_40 c8 rfl rfl (by decide) ?_
            refine g_iload_n (pc := 68) Z 0 dX4_block_68 rfl ?_
            refine g_iconst (pc := 69) (v := 1) Z dX4_block_69 (by decide) ?_
            refine g_iadd (pc := 70) Z dX4_block_70 ?_
            exact absurd (Option.some.inj hf) (fun h => by cases h)
          · replace hf := gIfN c8 hf
            by_cases c9 : p2 = (1 : Int32)
            · replace hf := gIfP c9 hf
              refine g_lookIn (pc := 40) (tgt := 72) Z dX4_block_40 c9 rfl rfl (by decide) ?_
              refine g_aload_n (pc := 72) Z 1 dX4_block_72 rfl ?_
              refine g_get (pc := 73) (v := .ref (ad 12)) (T := TX4) (N := 4) Z 0 3 dX4_block_73 (mm ww181) inx_X4 rfl (by decide) rfl rfl rfl ?_
              refine g_iload_n (pc := 76) Z 0 dX4_block_76 rfl ?_
              obtain ⟨x10, h11, hf⟩ := Option.bind_eq_some_iff.mp hf
              refine g_calli (pc := 77) (ws2 := fun u => (wH ad ++ wB ad ++ wD ad ca vD ++ wC ad ca vC)) (wr := (wH ad ++ wD ad ca vD)) Z [1, 7, 8, 9, 10, 11] [0, 2, 3, 4, 5, 6] [0, 6, 1, 2, 3, 4, 5, 7, 8, 9, 10, 11] (g_runV Z (c_Blk_sizeAt l D ad ca vC x5 x10 h11) (cwV 1 Z.2.2.2.2.1 (gg_V ww200 ww119 ww120 ww116 ww121) rfl rfl rfl (yv_of rfl yd_Blk_sizeAt) ⟨Nat.le_of_ble_eq_true rfl, Nat.le_of_ble_eq_true rfl⟩) [1, 7, 8, 9, 10, 11] rfl (by decide) 0 rfl rfl rfl rfl rfl (Nat.le_of_ble_eq_true rfl) dX4_block_77 ⟨Nat.le_of_ble_eq_true rfl, Nat.le_of_ble_eq_true rfl⟩) rfl rfl (by decide) (by decide) (by decide) (fun _ => rfl) (fun r u hu => ?_)
              obtain rfl := hu.symm
              exact absurd (Option.some.inj hf) (fun h => by cases h)
            · replace hf := gIfN c9 hf
              refine g_lookOut (pc := 40) (off := 41) (tgt := 81) Z dX4_block_40 rfl (by rw [lv_osw c8 (by decide)]; rw [lv_osw c9 (by decide)]; rfl) (by decide) ?_
              refine g_aload_n (pc := 81) Z 1 dX4_block_81 rfl ?_
              refine g_get (pc := 82) (v := .ref (ad 12)) (T := TX4) (N := 4) Z 0 3 dX4_block_82 (mm ww181) inx_X4 rfl (by decide) rfl rfl rfl ?_
              refine g_iload_n (pc := 85) Z 0 dX4_block_85 rfl ?_
              obtain ⟨x12, h13, hf⟩ := Option.bind_eq_some_iff.mp hf
              refine g_calli (pc := 86) (ws2 := fun u => (wH ad ++ wB ad ++ wD ad ca vD ++ wC ad ca vC)) (wr := (wH ad ++ wD ad ca vD)) Z [1, 7, 8, 9, 10, 11] [0, 2, 3, 4, 5, 6] [0, 6, 1, 2, 3, 4, 5, 7, 8, 9, 10, 11] (g_runV Z (c_Blk_isUsed l D ad ca vC x5 x12 h13) (cwV 1 Z.2.2.2.2.1 (gg_V ww278 ww114 ww115 ww116 ww117) rfl rfl rfl (yv_of rfl yd_Blk_isUsed) ⟨Nat.le_of_ble_eq_true rfl, Nat.le_of_ble_eq_true rfl⟩) [1, 7, 8, 9, 10, 11] rfl (by decide) 0 rfl rfl rfl rfl rfl (Nat.le_of_ble_eq_true rfl) dX4_block_86 ⟨Nat.le_of_ble_eq_true rfl, Nat.le_of_ble_eq_true rfl⟩) rfl rfl (by decide) (by decide) (by decide) (fun _ => rfl) (fun r u hu => ?_)
              obtain rfl := hu.symm
              refine g_if_eq (pc := 89) (tgt := 96) Z dX4_block_89 (by decide) (fun c14 => ?_) (fun c14 => ?_)
              · replace hf := gIfN (bI_z c14) hf
                refine g_iconst (pc := 96) (v := 0) Z dX4_block_96 (by decide) ?_
                exact absurd (Option.some.inj hf) (fun h => by cases h)
              · replace hf := gIfP (bI_nz c14) hf
                refine g_iconst (pc := 92) (v := 1) Z dX4_block_92 (by decide) ?_
                refine g_goto (pc := 93) (tgt := 97) Z dX4_block_93 (by decide) ?_
                exact absurd (Option.some.inj hf) (fun h => by cases h)
        · replace hf := gIfP c7 hf
          refine g_iconst (pc := 37) (v := -1) Z dX4_block_37 (by decide) ?_
          exact absurd (Option.some.inj hf) (fun h => by cases h)
      · replace hf := gIfN c4 hf
        obtain rfl := Except.error.inj (Option.some.inj hf)
        exact g_throw (pc := 13) (cls := "java/lang/IndexOutOfBoundsException") (text := "no such question") (names := supX) (strs := strsH) (pe := fun E9 => E9 = "java/lang/IndexOutOfBoundsException") Z hl0 hT htab dX4_block_13 dX4_block_16 dX4_block_17 dX4_block_19 dX4_block_22 rfl supX_fit (by decide) (mm ww272) (mm ww273) (vx_hat (fun w h => Z.2.2.2.2.1 w (mm (at_167 w h))) ab_167 (gN.bad Z.2.2.2.2.2.2.2.2)) ag_167 (Nat.le_of_ble_eq_true rfl) (Nat.le_of_ble_eq_true rfl) (Nat.le_of_ble_eq_true rfl) (Nat.le_of_ble_eq_true rfl) rfl (Nat.le_of_ble_eq_true rfl) (Nat.le_of_ble_eq_true rfl)
theorem ww279 : Cond.methodLink RX4 182 yX0_freeWords ∈ gA := wt3 124 rfl rfl
theorem ww280 : Cond.instanceMethod yX0_freeWords ∈ gA := wt3 125 rfl rfl
theorem ww281 : Cond.selects RX0 yX0_freeWords yX0_freeWords ∈ gA := wt3 126 rfl rfl
theorem ww282 : cd_Blk_freeWords ∈ gA := wt3 127 rfl rfl
theorem ww283 : Cond.methodLink RX4 185 yX0_greatestFree ∈ gA := wt3 128 rfl rfl
theorem ww284 : Cond.instanceMethod yX0_greatestFree ∈ gA := wt3 129 rfl rfl
theorem ww285 : Cond.selects RX0 yX0_greatestFree yX0_greatestFree ∈ gA := wt3 130 rfl rfl
theorem ww286 : cd_Blk_greatestFree ∈ gA := wt3 131 rfl rfl
theorem ww287 : Cond.methodLink RX4 188 yX0_howMany ∈ gA := wt3 135 rfl rfl
theorem ww288 : Cond.instanceMethod yX0_howMany ∈ gA := wt3 136 rfl rfl
theorem ww289 : Cond.selects RX0 yX0_howMany yX0_howMany ∈ gA := wt3 137 rfl rfl
theorem ww290 : cd_Blk_howMany ∈ gA := wt3 138 rfl rfl
/-! RedoHeap.told(I)I -/
def f_Heap_told (N : Nat) (vL : LT) (vD : DT) (vC : CT) (p1 : Int32) : Option (Except String (Int32)) :=
  gE (f_Heap_needPower vD) fun x1 => if p1 = (0 : Int32) then (f_Blk_freeWords N vC).bind fun x4 => some (Except.ok x4) else if p1 = (1 : Int32) then (f_Blk_greatestFree N vC).bind fun x7 => some (Except.ok x7) else if p1 = (2 : Int32) then (f_Blk_howMany N vC).bind fun x10 => some (Except.ok x10) else if p1 = (3 : Int32) then (f_Log_used vL).bind fun x13 => some (Except.ok x13) else if p1 = (4 : Int32) then (f_Log_commits vL).bind fun x16 => some (Except.ok x16) else if p1 = (5 : Int32) then (f_Disk_read vD (0 : Int32)).bind fun x19 => some (Except.ok x19.toInt32) else if p1 = (6 : Int32) then (f_Log_lastNumber vL).bind fun x22 => some (Except.ok x22) else if p1 = (7 : Int32) then (f_Chg_size vC).bind fun x25 => some (Except.ok x25) else some (Except.error "java/lang/IndexOutOfBoundsException")
abbrev cd_Heap_told : Cond := .code yX4_told cX4_told 2 (some .int)
theorem yd_Heap_told : yX4_told.cls ≠ "java/lang/invoke/MethodHandle" ∧ yX4_told.cls ≠ "java/lang/invoke/VarHandle" ∧ (parseMethodDescriptor yX4_told.desc).map (fun d => d.parameters.length) = some 1 := by decide +kernel
abbrev rm_Heap_told : Room := { frames := 5, cells := 0, slots := 0, locals := 108 }
abbrev rx_Heap_told : Room := { frames := 7, cells := 1, slots := 6, locals := 108 }
abbrev q_Heap_told (D : va_G) (ad : Nat → Nat) (ca : Nat → ClassId) (vL : LT) (vD : DT) (vC : CT) (res : Int32) (A : Nat → Prop) : Array Value → State → Outcome → State → Prop := va_Qi (fun (r : Int32) (_ : Unit) => r = res) (gB D cls (tys ca) A (fun (u : Unit) => (wH ad ++ wB ad ++ wL ad ca vL ++ wD ad ca vD ++ wC ad ca vC))) A
set_option maxHeartbeats 4000000 in
set_option maxRecDepth 100000 in
theorem c_Heap_told (l : Launch) (D : va_G) (ad : Nat → Nat) (ca : Nat → ClassId) (N : Nat) (vL : LT) (vD : DT) (vC : CT) (p1 : Int32) (res : Int32) (hf : f_Heap_told N vL vD vC p1 = some (.ok res)) (sz : Nat) : Met l yX4_told (cd_Heap_told :: gA) rm_Heap_told (va_Pc [.ref (ad 0), .int p1] (gP D cls (tys ca) (wH ad ++ wB ad ++ wL ad ca vL ++ wD ad ca vD ++ wC ad ca vC) sz)) (q_Heap_told D ad ca vL vD vC res (va_A (wH ad ++ wB ad ++ wL ad ca vL ++ wD ad ca vD ++ wC ad ca vC) sz)) 0 0 (va_A (wH ad ++ wB ad ++ wL ad ca vL ++ wD ad ca vD ++ wC ad ca vC) sz) := by
  refine g_met (cc := cX4_told) (Qc := q_Heap_told D ad ca vL vD vC res) (lv := [(0, .ref (ad 0)), (1, .int p1)]) (own := RX4) (by decide) rfl rfl (Nat.le_of_ble_eq_true rfl) rfl sz ?_
  intro p e s m args below meth c A Z hr hnm
  unfold f_Heap_told at hf
  refine g_aload_n (pc := 0) Z 0 dX4_told_0 rfl ?_
  obtain ⟨x1, h2, hf⟩ := gE_ok hf
  refine g_callv (pc := 1) (ws2 := fun u => (wH ad ++ wB ad ++ wL ad ca vL ++ wD ad ca vD ++ wC ad ca vC)) (wr := (wB ad ++ wL ad ca vL ++ wC ad ca vC)) Z [0, 3, 4, 5, 6, 7] [1, 2, 8, 9, 10, 11, 12] [7, 0, 1, 8, 9, 10, 11, 12, 2, 3, 4, 5, 6] (g_runV Z (c_Heap_needPower l D ad ca vD x1 h2) (cwV 0 Z.2.2.2.2.1 (gg_V ww160 ww161 ww162 ww2 ww163) rfl rfl rfl (yv_of rfl yd_Heap_needPower) ⟨Nat.le_of_ble_eq_true rfl, Nat.le_of_ble_eq_true rfl⟩) [0, 3, 4, 5, 6, 7] rfl (by decide) 0 rfl rfl rfl rfl rfl (Nat.le_of_ble_eq_true rfl) dX4_told_1 ⟨(Nat.le_of_ble_eq_true rfl), (Nat.le_of_ble_eq_true rfl)⟩) rfl rfl (by decide) (by decide) (by decide) (fun _ => rfl) (fun u hu => ?_)
  refine g_iload_n (pc := 4) Z 1 dX4_told_4 rfl ?_
  by_cases c3 : p1 = (0 : Int32)
  · replace hf := gIfP c3 hf
    refine g_tabIn (pc := 5) (tgt := 52) Z dX4_told_5 c3 (by decide) (by decide) rfl (by decide) ?_
    refine g_aload_n (pc := 52) Z 0 dX4_told_52 rfl ?_
    refine g_get (pc := 53) (v := .ref (ad 12)) (T := TX4) (N := 4) Z 0 3 dX4_told_53 (mm ww181) inx_X4 rfl (by decide) rfl rfl rfl ?_
    obtain ⟨x4, h5, hf⟩ := Option.bind_eq_some_iff.mp hf
    refine g_calli (pc := 56) (ws2 := fun u => (wH ad ++ wB ad ++ wL ad ca vL ++ wD ad ca vD ++ wC ad ca vC)) (wr := (wH ad ++ wL ad ca vL ++ wD ad ca vD)) Z [1, 8, 9, 10, 11, 12] [0, 2, 3, 4, 5, 6, 7] [0, 7, 1, 2, 3, 4, 5, 6, 8, 9, 10, 11, 12] (g_runV Z (c_Blk_freeWords l D ad ca N vC x4 h5) (cwV 0 Z.2.2.2.2.1 (gg_V ww279 ww280 ww281 ww116 ww282) rfl rfl rfl (yv_of rfl yd_Blk_freeWords) ⟨Nat.le_of_ble_eq_true rfl, Nat.le_of_ble_eq_true rfl⟩) [1, 8, 9, 10, 11, 12] rfl (by decide) 0 rfl rfl rfl rfl rfl (Nat.le_of_ble_eq_true rfl) dX4_told_56 ⟨Nat.le_of_ble_eq_true rfl, Nat.le_of_ble_eq_true rfl⟩) rfl rfl (by decide) (by decide) (by decide) (fun _ => rfl) (fun r u hu => ?_)
    obtain rfl := hu.symm
    obtain rfl := Except.ok.inj (Option.some.inj hf)
    exact g_iret Z hr dX4_told_59 () rfl rfl
  · replace hf := gIfN c3 hf
    by_cases c6 : p1 = (1 : Int32)
    · replace hf := gIfP c6 hf
      refine g_tabIn (pc := 5) (tgt := 60) Z dX4_told_5 c6 (by decide) (by decide) rfl (by decide) ?_
      refine g_aload_n (pc := 60) Z 0 dX4_told_60 rfl ?_
      refine g_get (pc := 61) (v := .ref (ad 12)) (T := TX4) (N := 4) Z 0 3 dX4_told_61 (mm ww181) inx_X4 rfl (by decide) rfl rfl rfl ?_
      obtain ⟨x7, h8, hf⟩ := Option.bind_eq_some_iff.mp hf
      refine g_calli (pc := 64) (ws2 := fun u => (wH ad ++ wB ad ++ wL ad ca vL ++ wD ad ca vD ++ wC ad ca vC)) (wr := (wH ad ++ wL ad ca vL ++ wD ad ca vD)) Z [1, 8, 9, 10, 11, 12] [0, 2, 3, 4, 5, 6, 7] [0, 7, 1, 2, 3, 4, 5, 6, 8, 9, 10, 11, 12] (g_runV Z (c_Blk_greatestFree l D ad ca N vC x7 h8) (cwV 0 Z.2.2.2.2.1 (gg_V ww283 ww284 ww285 ww116 ww286) rfl rfl rfl (yv_of rfl yd_Blk_greatestFree) ⟨Nat.le_of_ble_eq_true rfl, Nat.le_of_ble_eq_true rfl⟩) [1, 8, 9, 10, 11, 12] rfl (by decide) 0 rfl rfl rfl rfl rfl (Nat.le_of_ble_eq_true rfl) dX4_told_64 ⟨Nat.le_of_ble_eq_true rfl, Nat.le_of_ble_eq_true rfl⟩) rfl rfl (by decide) (by decide) (by decide) (fun _ => rfl) (fun r u hu => ?_)
      obtain rfl := hu.symm
      obtain rfl := Except.ok.inj (Option.some.inj hf)
      exact g_iret Z hr dX4_told_67 () rfl rfl
    · replace hf := gIfN c6 hf
      by_cases c9 : p1 = (2 : Int32)
      · replace hf := gIfP c9 hf
        refine g_tabIn (pc := 5) (tgt := 68) Z dX4_told_5 c9 (by decide) (by decide) rfl (by decide) ?_
        refine g_aload_n (pc := 68) Z 0 dX4_told_68 rfl ?_
        refine g_get (pc := 69) (v := .ref (ad 12)) (T := TX4) (N := 4) Z 0 3 dX4_told_69 (mm ww181) inx_X4 rfl (by decide) rfl rfl rfl ?_
        obtain ⟨x10, h11, hf⟩ := Option.bind_eq_some_iff.mp hf
        refine g_calli (pc := 72) (ws2 := fun u => (wH ad ++ wB ad ++ wL ad ca vL ++ wD ad ca vD ++ wC ad ca vC)) (wr := (wH ad ++ wL ad ca vL ++ wD ad ca vD)) Z [1, 8, 9, 10, 11, 12] [0, 2, 3, 4, 5, 6, 7] [0, 7, 1, 2, 3, 4, 5, 6, 8, 9, 10, 11, 12] (g_runV Z (c_Blk_howMany l D ad ca N vC x10 h11) (cwV 0 Z.2.2.2.2.1 (gg_V ww287 ww288 ww289 ww116 ww290) rfl rfl rfl (yv_of rfl yd_Blk_howMany) ⟨Nat.le_of_ble_eq_true rfl, Nat.le_of_ble_eq_true rfl⟩) [1, 8, 9, 10, 11, 12] rfl (by decide) 0 rfl rfl rfl rfl rfl (Nat.le_of_ble_eq_true rfl) dX4_told_72 ⟨Nat.le_of_ble_eq_true rfl, Nat.le_of_ble_eq_true rfl⟩) rfl rfl (by decide) (by decide) (by decide) (fun _ => rfl) (fun r u hu => ?_)
        obtain rfl := hu.symm
        obtain rfl := Except.ok.inj (Option.some.inj hf)
        exact g_iret Z hr dX4_told_75 () rfl rfl
      · replace hf := gIfN c9 hf
        by_cases c12 : p1 = (3 : Int32)
        · replace hf := gIfP c12 hf
          refine g_tabIn (pc := 5) (tgt := 76) Z dX4_told_5 c12 (by decide) (by decide) rfl (by decide) ?_
          refine g_aload_n (pc := 76) Z 0 dX4_told_76 rfl ?_
          refine g_get (pc := 77) (v := .ref (ad 6)) (T := TX4) (N := 4) Z 0 1 dX4_told_77 (mm ww152) inx_X4 rfl (by decide) rfl rfl rfl ?_
          obtain ⟨x13, h14, hf⟩ := Option.bind_eq_some_iff.mp hf
          refine g_calli (pc := 80) (ws2 := fun u => (wH ad ++ wB ad ++ wL ad ca vL ++ wD ad ca vD ++ wC ad ca vC)) (wr := (wH ad ++ wB ad ++ wD ad ca vD ++ wC ad ca vC)) Z [2] [0, 1, 3, 4, 5, 6, 7, 8, 9, 10, 11, 12] [0, 1, 12, 2, 3, 4, 5, 6, 7, 8, 9, 10, 11] (g_runV Z (c_Log_used l D ad ca vL x13 h14) (cwV 0 Z.2.2.2.2.1 (gg_V ww221 ww222 ww223 ww72 ww224) rfl rfl rfl (yv_of rfl yd_Log_used) ⟨Nat.le_of_ble_eq_true rfl, Nat.le_of_ble_eq_true rfl⟩) [2] rfl (by decide) 0 rfl rfl rfl rfl rfl (Nat.le_of_ble_eq_true rfl) dX4_told_80 ⟨Nat.le_of_ble_eq_true rfl, Nat.le_of_ble_eq_true rfl⟩) rfl rfl (by decide) (by decide) (by decide) (fun _ => rfl) (fun r u hu => ?_)
          obtain rfl := hu.symm
          obtain rfl := Except.ok.inj (Option.some.inj hf)
          exact g_iret Z hr dX4_told_83 () rfl rfl
        · replace hf := gIfN c12 hf
          by_cases c15 : p1 = (4 : Int32)
          · replace hf := gIfP c15 hf
            refine g_tabIn (pc := 5) (tgt := 84) Z dX4_told_5 c15 (by decide) (by decide) rfl (by decide) ?_
            refine g_aload_n (pc := 84) Z 0 dX4_told_84 rfl ?_
            refine g_get (pc := 85) (v := .ref (ad 6)) (T := TX4) (N := 4) Z 0 1 dX4_told_85 (mm ww152) inx_X4 rfl (by decide) rfl rfl rfl ?_
            obtain ⟨x16, h17, hf⟩ := Option.bind_eq_some_iff.mp hf
            refine g_calli (pc := 88) (ws2 := fun u => (wH ad ++ wB ad ++ wL ad ca vL ++ wD ad ca vD ++ wC ad ca vC)) (wr := (wH ad ++ wB ad ++ wD ad ca vD ++ wC ad ca vC)) Z [2] [0, 1, 3, 4, 5, 6, 7, 8, 9, 10, 11, 12] [0, 1, 12, 2, 3, 4, 5, 6, 7, 8, 9, 10, 11] (g_runV Z (c_Log_commits l D ad ca vL x16 h17) (cwV 0 Z.2.2.2.2.1 (gg_V ww237 ww238 ww239 ww72 ww240) rfl rfl rfl (yv_of rfl yd_Log_commits) ⟨Nat.le_of_ble_eq_true rfl, Nat.le_of_ble_eq_true rfl⟩) [2] rfl (by decide) 0 rfl rfl rfl rfl rfl (Nat.le_of_ble_eq_true rfl) dX4_told_88 ⟨Nat.le_of_ble_eq_true rfl, Nat.le_of_ble_eq_true rfl⟩) rfl rfl (by decide) (by decide) (by decide) (fun _ => rfl) (fun r u hu => ?_)
            obtain rfl := hu.symm
            obtain rfl := Except.ok.inj (Option.some.inj hf)
            exact g_iret Z hr dX4_told_91 () rfl rfl
          · replace hf := gIfN c15 hf
            by_cases c18 : p1 = (5 : Int32)
            · replace hf := gIfP c18 hf
              refine g_tabIn (pc := 5) (tgt := 92) Z dX4_told_5 c18 (by decide) (by decide) rfl (by decide) ?_
              refine g_aload_n (pc := 92) Z 0 dX4_told_92 rfl ?_
              refine g_get (pc := 93) (v := .ref (ad 1)) (T := TX4) (N := 4) Z 0 0 dX4_told_93 (mm ww148) inx_X4 rfl (by decide) rfl rfl rfl ?_
              refine g_iconst (pc := 96) (v := 0) Z dX4_told_96 (by decide) ?_
              obtain ⟨x19, h20, hf⟩ := Option.bind_eq_some_iff.mp hf
              refine g_calll (pc := 97) (ws2 := fun u => (wH ad ++ wB ad ++ wL ad ca vL ++ wD ad ca vD ++ wC ad ca vC)) (wr := (wH ad ++ wB ad ++ wL ad ca vL ++ wC ad ca vC)) Z [3, 4, 5, 6, 7] [0, 1, 2, 8, 9, 10, 11, 12] [0, 1, 2, 8, 9, 10, 11, 12, 3, 4, 5, 6, 7] (g_runV Z (c_Disk_read l D ad ca vD (0 : Int32) x19 h20) (cwV 1 Z.2.2.2.2.1 (gg_V ww250 ww61 ww62 ww16 ww63) rfl rfl rfl (yv_of rfl yd_Disk_read) ⟨Nat.le_of_ble_eq_true rfl, Nat.le_of_ble_eq_true rfl⟩) [3, 4, 5, 6, 7] rfl (by decide) 0 rfl rfl rfl rfl rfl (Nat.le_of_ble_eq_true rfl) dX4_told_97 ⟨Nat.le_of_ble_eq_true rfl, Nat.le_of_ble_eq_true rfl⟩) rfl rfl (by decide) (by decide) (by decide) (fun _ => rfl) (fun r u hu => ?_)
              obtain rfl := hu.symm
              refine g_l2i (pc := 100) Z dX4_told_100 ?_
              obtain rfl := Except.ok.inj (Option.some.inj hf)
              exact g_iret Z hr dX4_told_101 () rfl rfl
            · replace hf := gIfN c18 hf
              by_cases c21 : p1 = (6 : Int32)
              · replace hf := gIfP c21 hf
                refine g_tabIn (pc := 5) (tgt := 102) Z dX4_told_5 c21 (by decide) (by decide) rfl (by decide) ?_
                refine g_aload_n (pc := 102) Z 0 dX4_told_102 rfl ?_
                refine g_get (pc := 103) (v := .ref (ad 6)) (T := TX4) (N := 4) Z 0 1 dX4_told_103 (mm ww152) inx_X4 rfl (by decide) rfl rfl rfl ?_
                obtain ⟨x22, h23, hf⟩ := Option.bind_eq_some_iff.mp hf
                refine g_calli (pc := 106) (ws2 := fun u => (wH ad ++ wB ad ++ wL ad ca vL ++ wD ad ca vD ++ wC ad ca vC)) (wr := (wH ad ++ wB ad ++ wD ad ca vD ++ wC ad ca vC)) Z [2] [0, 1, 3, 4, 5, 6, 7, 8, 9, 10, 11, 12] [0, 1, 12, 2, 3, 4, 5, 6, 7, 8, 9, 10, 11] (g_runV Z (c_Log_lastNumber l D ad ca vL x22 h23) (cwV 0 Z.2.2.2.2.1 (gg_V ww173 ww174 ww175 ww72 ww176) rfl rfl rfl (yv_of rfl yd_Log_lastNumber) ⟨Nat.le_of_ble_eq_true rfl, Nat.le_of_ble_eq_true rfl⟩) [2] rfl (by decide) 0 rfl rfl rfl rfl rfl (Nat.le_of_ble_eq_true rfl) dX4_told_106 ⟨Nat.le_of_ble_eq_true rfl, Nat.le_of_ble_eq_true rfl⟩) rfl rfl (by decide) (by decide) (by decide) (fun _ => rfl) (fun r u hu => ?_)
                obtain rfl := hu.symm
                obtain rfl := Except.ok.inj (Option.some.inj hf)
                exact g_iret Z hr dX4_told_109 () rfl rfl
              · replace hf := gIfN c21 hf
                by_cases c24 : p1 = (7 : Int32)
                · replace hf := gIfP c24 hf
                  refine g_tabIn (pc := 5) (tgt := 110) Z dX4_told_5 c24 (by decide) (by decide) rfl (by decide) ?_
                  refine g_aload_n (pc := 110) Z 0 dX4_told_110 rfl ?_
                  refine g_get (pc := 111) (v := .ref (ad 7)) (T := TX4) (N := 4) Z 0 2 dX4_told_111 (mm ww164) inx_X4 rfl (by decide) rfl rfl rfl ?_
                  obtain ⟨x25, h26, hf⟩ := Option.bind_eq_some_iff.mp hf
                  refine g_calli (pc := 114) (ws2 := fun u => (wH ad ++ wB ad ++ wL ad ca vL ++ wD ad ca vD ++ wC ad ca vC)) (wr := (wH ad ++ wB ad ++ wL ad ca vL ++ wD ad ca vD)) Z [8, 9, 10, 11, 12] [0, 1, 2, 3, 4, 5, 6, 7] [0, 1, 2, 3, 4, 5, 6, 7, 8, 9, 10, 11, 12] (g_runV Z (c_Chg_size l D ad ca vC x25 h26) (cwV 0 Z.2.2.2.2.1 (gg_V ww207 ww93 ww94 ww40 ww95) rfl rfl rfl (yv_of rfl yd_Chg_size) ⟨Nat.le_of_ble_eq_true rfl, Nat.le_of_ble_eq_true rfl⟩) [8, 9, 10, 11, 12] rfl (by decide) 0 rfl rfl rfl rfl rfl (Nat.le_of_ble_eq_true rfl) dX4_told_114 ⟨Nat.le_of_ble_eq_true rfl, Nat.le_of_ble_eq_true rfl⟩) rfl rfl (by decide) (by decide) (by decide) (fun _ => rfl) (fun r u hu => ?_)
                  obtain rfl := hu.symm
                  obtain rfl := Except.ok.inj (Option.some.inj hf)
                  exact g_iret Z hr dX4_told_117 () rfl rfl
                · replace hf := gIfN c24 hf
                  refine g_tabOut (pc := 5) (tgt := 118) Z dX4_told_5 (by have q0 := lv_neT (a := 0) c3 (by decide); have q1 := lv_neT (a := 1) c6 (by decide); have q2 := lv_neT (a := 2) c9 (by decide); have q3 := lv_neT (a := 3) c12 (by decide); have q4 := lv_neT (a := 4) c15 (by decide); have q5 := lv_neT (a := 5) c18 (by decide); have q6 := lv_neT (a := 6) c21 (by decide); have q7 := lv_neT (a := 7) c24 (by decide); omega) (by decide) ?_
                  exact absurd (Option.some.inj hf) (fun h => by cases h)
set_option maxHeartbeats 4000000 in
set_option maxRecDepth 100000 in
theorem x_Heap_told (l : Launch) (hl0 : l.stackTraces = false) (D : va_G) (ad : Nat → Nat) (ca : Nat → ClassId) (N : Nat) (vL : LT) (vD : DT) (vC : CT) (p1 : Int32) (E : String) (hf : f_Heap_told N vL vD vC p1 = some (.error E)) (sz : Nat) : vx_Met l yX4_told (cd_Heap_told :: gA) rx_Heap_told (va_Pc [.ref (ad 0), .int p1] (gPX D cls (tys ca) (wH ad ++ wB ad ++ wL ad ca vL ++ wD ad ca vD ++ wC ad ca vC) sz RX4 strsH)) (gQE (va_A (wH ad ++ wB ad ++ wL ad ca vL ++ wD ad ca vD ++ wC ad ca vC) sz)) (gXC D cls (tys ca) (wH ad ++ wB ad ++ wL ad ca vL ++ wD ad ca vD ++ wC ad ca vC) (fun E9 => E9 = E) (va_A (wH ad ++ wB ad ++ wL ad ca vL ++ wD ad ca vD ++ wC ad ca vC) sz)) 1 6 (va_A (wH ad ++ wB ad ++ wL ad ca vL ++ wD ad ca vD ++ wC ad ca vC) sz) := by
  refine g_metX (cc := cX4_told) (Qc := gQE) (pe := fun E9 => E9 = E) (lv := [(0, .ref (ad 0)), (1, .int p1)]) (own := RX4) (by decide) rfl rfl (Nat.le_of_ble_eq_true rfl) rfl sz ?_
  intro p e s m args below meth c A Z hr hnm hT htab
  unfold f_Heap_told at hf
  refine g_aload_n (pc := 0) Z 0 dX4_told_0 rfl ?_
  rcases gE_er hf with h2 | ⟨x1, h2, hf⟩
  · refine g_callE (pc := 1) (wr := (wB ad ++ wL ad ca vL ++ wC ad ca vC)) Z [0, 3, 4, 5, 6, 7] [1, 2, 8, 9, 10, 11, 12] [7, 0, 1, 8, 9, 10, 11, 12, 2, 3, 4, 5, 6] (g_runXV Z hT (x_Heap_needPower l hl0 D ad ca vD E h2) (cwV 0 Z.2.2.2.2.1 (gg_V ww160 ww161 ww162 ww2 ww163) rfl rfl rfl (yv_of rfl yd_Heap_needPower) ⟨Nat.le_of_ble_eq_true rfl, Nat.le_of_ble_eq_true rfl⟩) [0, 3, 4, 5, 6, 7] rfl (by decide) 0 rfl rfl rfl rfl rfl (Nat.le_of_ble_eq_true rfl) dX4_told_1 ⟨(Nat.le_of_ble_eq_true rfl), (Nat.le_of_ble_eq_true rfl)⟩) rfl rfl (by decide) (by decide) (by decide) rfl ?_
    exact g_out Z htab rfl (Nat.le_of_ble_eq_true rfl) (Nat.le_of_ble_eq_true rfl)
  · refine g_callv (pc := 1) (ws2 := fun u => (wH ad ++ wB ad ++ wL ad ca vL ++ wD ad ca vD ++ wC ad ca vC)) (wr := (wB ad ++ wL ad ca vL ++ wC ad ca vC)) Z [0, 3, 4, 5, 6, 7] [1, 2, 8, 9, 10, 11, 12] [7, 0, 1, 8, 9, 10, 11, 12, 2, 3, 4, 5, 6] (g_runV Z (c_Heap_needPower l D ad ca vD x1 h2) (cwV 0 Z.2.2.2.2.1 (gg_V ww160 ww161 ww162 ww2 ww163) rfl rfl rfl (yv_of rfl yd_Heap_needPower) ⟨Nat.le_of_ble_eq_true rfl, Nat.le_of_ble_eq_true rfl⟩) [0, 3, 4, 5, 6, 7] rfl (by decide) 0 rfl rfl rfl rfl rfl (Nat.le_of_ble_eq_true rfl) dX4_told_1 ⟨(Nat.le_of_ble_eq_true rfl), (Nat.le_of_ble_eq_true rfl)⟩) rfl rfl (by decide) (by decide) (by decide) (fun _ => rfl) (fun u hu => ?_)
    refine g_iload_n (pc := 4) Z 1 dX4_told_4 rfl ?_
    by_cases c3 : p1 = (0 : Int32)
    · replace hf := gIfP c3 hf
      refine g_tabIn (pc := 5) (tgt := 52) Z dX4_told_5 c3 (by decide) (by decide) rfl (by decide) ?_
      refine g_aload_n (pc := 52) Z 0 dX4_told_52 rfl ?_
      refine g_get (pc := 53) (v := .ref (ad 12)) (T := TX4) (N := 4) Z 0 3 dX4_told_53 (mm ww181) inx_X4 rfl (by decide) rfl rfl rfl ?_
      obtain ⟨x4, h5, hf⟩ := Option.bind_eq_some_iff.mp hf
      refine g_calli (pc := 56) (ws2 := fun u => (wH ad ++ wB ad ++ wL ad ca vL ++ wD ad ca vD ++ wC ad ca vC)) (wr := (wH ad ++ wL ad ca vL ++ wD ad ca vD)) Z [1, 8, 9, 10, 11, 12] [0, 2, 3, 4, 5, 6, 7] [0, 7, 1, 2, 3, 4, 5, 6, 8, 9, 10, 11, 12] (g_runV Z (c_Blk_freeWords l D ad ca N vC x4 h5) (cwV 0 Z.2.2.2.2.1 (gg_V ww279 ww280 ww281 ww116 ww282) rfl rfl rfl (yv_of rfl yd_Blk_freeWords) ⟨Nat.le_of_ble_eq_true rfl, Nat.le_of_ble_eq_true rfl⟩) [1, 8, 9, 10, 11, 12] rfl (by decide) 0 rfl rfl rfl rfl rfl (Nat.le_of_ble_eq_true rfl) dX4_told_56 ⟨Nat.le_of_ble_eq_true rfl, Nat.le_of_ble_eq_true rfl⟩) rfl rfl (by decide) (by decide) (by decide) (fun _ => rfl) (fun r u hu => ?_)
      obtain rfl := hu.symm
      exact absurd (Option.some.inj hf) (fun h => by cases h)
    · replace hf := gIfN c3 hf
      by_cases c6 : p1 = (1 : Int32)
      · replace hf := gIfP c6 hf
        refine g_tabIn (pc := 5) (tgt := 60) Z dX4_told_5 c6 (by decide) (by decide) rfl (by decide) ?_
        refine g_aload_n (pc := 60) Z 0 dX4_told_60 rfl ?_
        refine g_get (pc := 61) (v := .ref (ad 12)) (T := TX4) (N := 4) Z 0 3 dX4_told_61 (mm ww181) inx_X4 rfl (by decide) rfl rfl rfl ?_
        obtain ⟨x7, h8, hf⟩ := Option.bind_eq_some_iff.mp hf
        refine g_calli (pc := 64) (ws2 := fun u => (wH ad ++ wB ad ++ wL ad ca vL ++ wD ad ca vD ++ wC ad ca vC)) (wr := (wH ad ++ wL ad ca vL ++ wD ad ca vD)) Z [1, 8, 9, 10, 11, 12] [0, 2, 3, 4, 5, 6, 7] [0, 7, 1, 2, 3, 4, 5, 6, 8, 9, 10, 11, 12] (g_runV Z (c_Blk_greatestFree l D ad ca N vC x7 h8) (cwV 0 Z.2.2.2.2.1 (gg_V ww283 ww284 ww285 ww116 ww286) rfl rfl rfl (yv_of rfl yd_Blk_greatestFree) ⟨Nat.le_of_ble_eq_true rfl, Nat.le_of_ble_eq_true rfl⟩) [1, 8, 9, 10, 11, 12] rfl (by decide) 0 rfl rfl rfl rfl rfl (Nat.le_of_ble_eq_true rfl) dX4_told_64 ⟨Nat.le_of_ble_eq_true rfl, Nat.le_of_ble_eq_true rfl⟩) rfl rfl (by decide) (by decide) (by decide) (fun _ => rfl) (fun r u hu => ?_)
        obtain rfl := hu.symm
        exact absurd (Option.some.inj hf) (fun h => by cases h)
      · replace hf := gIfN c6 hf
        by_cases c9 : p1 = (2 : Int32)
        · replace hf := gIfP c9 hf
          refine g_tabIn (pc := 5) (tgt := 68) Z dX4_told_5 c9 (by decide) (by decide) rfl (by decide) ?_
          refine g_aload_n (pc := 68) Z 0 dX4_told_68 rfl ?_
          refine g_get (pc := 69) (v := .ref (ad 12)) (T := TX4) (N := 4) Z 0 3 dX4_told_69 (mm ww181) inx_X4 rfl (by decide) rfl rfl rfl ?_
          obtain ⟨x10, h11, hf⟩ := Option.bind_eq_some_iff.mp hf
          refine g_calli (pc := 72) (ws2 := fun u => (wH ad ++ wB ad ++ wL ad ca vL ++ wD ad ca vD ++ wC ad ca vC)) (wr := (wH ad ++ wL ad ca vL ++ wD ad ca vD)) Z [1, 8, 9, 10, 11, 12] [0, 2, 3, 4, 5, 6, 7] [0, 7, 1, 2, 3, 4, 5, 6, 8, 9, 10, 11, 12] (g_runV Z (c_Blk_howMany l D ad ca N vC x10 h11) (cwV 0 Z.2.2.2.2.1 (gg_V ww287 ww288 ww289 ww116 ww290) rfl rfl rfl (yv_of rfl yd_Blk_howMany) ⟨Nat.le_of_ble_eq_true rfl, Nat.le_of_ble_eq_true rfl⟩) [1, 8, 9, 10, 11, 12] rfl (by decide) 0 rfl rfl rfl rfl rfl (Nat.le_of_ble_eq_true rfl) dX4_told_72 ⟨Nat.le_of_ble_eq_true rfl, Nat.le_of_ble_eq_true rfl⟩) rfl rfl (by decide) (by decide) (by decide) (fun _ => rfl) (fun r u hu => ?_)
          obtain rfl := hu.symm
          exact absurd (Option.some.inj hf) (fun h => by cases h)
        · replace hf := gIfN c9 hf
          by_cases c12 : p1 = (3 : Int32)
          · replace hf := gIfP c12 hf
            refine g_tabIn (pc := 5) (tgt := 76) Z dX4_told_5 c12 (by decide) (by decide) rfl (by decide) ?_
            refine g_aload_n (pc := 76) Z 0 dX4_told_76 rfl ?_
            refine g_get (pc := 77) (v := .ref (ad 6)) (T := TX4) (N := 4) Z 0 1 dX4_told_77 (mm ww152) inx_X4 rfl (by decide) rfl rfl rfl ?_
            obtain ⟨x13, h14, hf⟩ := Option.bind_eq_some_iff.mp hf
            refine g_calli (pc := 80) (ws2 := fun u => (wH ad ++ wB ad ++ wL ad ca vL ++ wD ad ca vD ++ wC ad ca vC)) (wr := (wH ad ++ wB ad ++ wD ad ca vD ++ wC ad ca vC)) Z [2] [0, 1, 3, 4, 5, 6, 7, 8, 9, 10, 11, 12] [0, 1, 12, 2, 3, 4, 5, 6, 7, 8, 9, 10, 11] (g_runV Z (c_Log_used l D ad ca vL x13 h14) (cwV 0 Z.2.2.2.2.1 (gg_V ww221 ww222 ww223 ww72 ww224) rfl rfl rfl (yv_of rfl yd_Log_used) ⟨Nat.le_of_ble_eq_true rfl, Nat.le_of_ble_eq_true rfl⟩) [2] rfl (by decide) 0 rfl rfl rfl rfl rfl (Nat.le_of_ble_eq_true rfl) dX4_told_80 ⟨Nat.le_of_ble_eq_true rfl, Nat.le_of_ble_eq_true rfl⟩) rfl rfl (by decide) (by decide) (by decide) (fun _ => rfl) (fun r u hu => ?_)
            obtain rfl := hu.symm
            exact absurd (Option.some.inj hf) (fun h => by cases h)
          · replace hf := gIfN c12 hf
            by_cases c15 : p1 = (4 : Int32)
            · replace hf := gIfP c15 hf
              refine g_tabIn (pc := 5) (tgt := 84) Z dX4_told_5 c15 (by decide) (by decide) rfl (by decide) ?_
              refine g_aload_n (pc := 84) Z 0 dX4_told_84 rfl ?_
              refine g_get (pc := 85) (v := .ref (ad 6)) (T := TX4) (N := 4) Z 0 1 dX4_told_85 (mm ww152) inx_X4 rfl (by decide) rfl rfl rfl ?_
              obtain ⟨x16, h17, hf⟩ := Option.bind_eq_some_iff.mp hf
              refine g_calli (pc := 88) (ws2 := fun u => (wH ad ++ wB ad ++ wL ad ca vL ++ wD ad ca vD ++ wC ad ca vC)) (wr := (wH ad ++ wB ad ++ wD ad ca vD ++ wC ad ca vC)) Z [2] [0, 1, 3, 4, 5, 6, 7, 8, 9, 10, 11, 12] [0, 1, 12, 2, 3, 4, 5, 6, 7, 8, 9, 10, 11] (g_runV Z (c_Log_commits l D ad ca vL x16 h17) (cwV 0 Z.2.2.2.2.1 (gg_V ww237 ww238 ww239 ww72 ww240) rfl rfl rfl (yv_of rfl yd_Log_commits) ⟨Nat.le_of_ble_eq_true rfl, Nat.le_of_ble_eq_true rfl⟩) [2] rfl (by decide) 0 rfl rfl rfl rfl rfl (Nat.le_of_ble_eq_true rfl) dX4_told_88 ⟨Nat.le_of_ble_eq_true rfl, Nat.le_of_ble_eq_true rfl⟩) rfl rfl (by decide) (by decide) (by decide) (fun _ => rfl) (fun r u hu => ?_)
              obtain rfl := hu.symm
              exact absurd (Option.some.inj hf) (fun h => by cases h)
            · replace hf := gIfN c15 hf
              by_cases c18 : p1 = (5 : Int32)
              · replace hf := gIfP c18 hf
                refine g_tabIn (pc := 5) (tgt := 92) Z dX4_told_5 c18 (by decide) (by decide) rfl (by decide) ?_
                refine g_aload_n (pc := 92) Z 0 dX4_told_92 rfl ?_
                refine g_get (pc := 93) (v := .ref (ad 1)) (T := TX4) (N := 4) Z 0 0 dX4_told_93 (mm ww148) inx_X4 rfl (by decide) rfl rfl rfl ?_
                refine g_iconst (pc := 96) (v := 0) Z dX4_told_96 (by decide) ?_
                obtain ⟨x19, h20, hf⟩ := Option.bind_eq_some_iff.mp hf
                refine g_calll (pc := 97) (ws2 := fun u => (wH ad ++ wB ad ++ wL ad ca vL ++ wD ad ca vD ++ wC ad ca vC)) (wr := (wH ad ++ wB ad ++ wL ad ca vL ++ wC ad ca vC)) Z [3, 4, 5, 6, 7] [0, 1, 2, 8, 9, 10, 11, 12] [0, 1, 2, 8, 9, 10, 11, 12, 3, 4, 5, 6, 7] (g_runV Z (c_Disk_read l D ad ca vD (0 : Int32) x19 h20) (cwV 1 Z.2.2.2.2.1 (gg_V ww250 ww61 ww62 ww16 ww63) rfl rfl rfl (yv_of rfl yd_Disk_read) ⟨Nat.le_of_ble_eq_true rfl, Nat.le_of_ble_eq_true rfl⟩) [3, 4, 5, 6, 7] rfl (by decide) 0 rfl rfl rfl rfl rfl (Nat.le_of_ble_eq_true rfl) dX4_told_97 ⟨Nat.le_of_ble_eq_true rfl, Nat.le_of_ble_eq_true rfl⟩) rfl rfl (by decide) (by decide) (by decide) (fun _ => rfl) (fun r u hu => ?_)
                obtain rfl := hu.symm
                refine g_l2i (pc := 100) Z dX4_told_100 ?_
                exact absurd (Option.some.inj hf) (fun h => by cases h)
              · replace hf := gIfN c18 hf
                by_cases c21 : p1 = (6 : Int32)
                · replace hf := gIfP c21 hf
                  refine g_tabIn (pc := 5) (tgt := 102) Z dX4_told_5 c21 (by decide) (by decide) rfl (by decide) ?_
                  refine g_aload_n (pc := 102) Z 0 dX4_told_102 rfl ?_
                  refine g_get (pc := 103) (v := .ref (ad 6)) (T := TX4) (N := 4) Z 0 1 dX4_told_103 (mm ww152) inx_X4 rfl (by decide) rfl rfl rfl ?_
                  obtain ⟨x22, h23, hf⟩ := Option.bind_eq_some_iff.mp hf
                  refine g_calli (pc := 106) (ws2 := fun u => (wH ad ++ wB ad ++ wL ad ca vL ++ wD ad ca vD ++ wC ad ca vC)) (wr := (wH ad ++ wB ad ++ wD ad ca vD ++ wC ad ca vC)) Z [2] [0, 1, 3, 4, 5, 6, 7, 8, 9, 10, 11, 12] [0, 1, 12, 2, 3, 4, 5, 6, 7, 8, 9, 10, 11] (g_runV Z (c_Log_lastNumber l D ad ca vL x22 h23) (cwV 0 Z.2.2.2.2.1 (gg_V ww173 ww174 ww175 ww72 ww176) rfl rfl rfl (yv_of rfl yd_Log_lastNumber) ⟨Nat.le_of_ble_eq_true rfl, Nat.le_of_ble_eq_true rfl⟩) [2] rfl (by decide) 0 rfl rfl rfl rfl rfl (Nat.le_of_ble_eq_true rfl) dX4_told_106 ⟨Nat.le_of_ble_eq_true rfl, Nat.le_of_ble_eq_true rfl⟩) rfl rfl (by decide) (by decide) (by decide) (fun _ => rfl) (fun r u hu => ?_)
                  obtain rfl := hu.symm
                  exact absurd (Option.some.inj hf) (fun h => by cases h)
                · replace hf := gIfN c21 hf
                  by_cases c24 : p1 = (7 : Int32)
                  · replace hf := gIfP c24 hf
                    refine g_tabIn (pc := 5) (tgt := 110) Z dX4_told_5 c24 (by decide) (by decide) rfl (by decide) ?_
                    refine g_aload_n (pc := 110) Z 0 dX4_told_110 rfl ?_
                    refine g_get (pc := 111) (v := .ref (ad 7)) (T := TX4) (N := 4) Z 0 2 dX4_told_111 (mm ww164) inx_X4 rfl (by decide) rfl rfl rfl ?_
                    obtain ⟨x25, h26, hf⟩ := Option.bind_eq_some_iff.mp hf
                    refine g_calli (pc := 114) (ws2 := fun u => (wH ad ++ wB ad ++ wL ad ca vL ++ wD ad ca vD ++ wC ad ca vC)) (wr := (wH ad ++ wB ad ++ wL ad ca vL ++ wD ad ca vD)) Z [8, 9, 10, 11, 12] [0, 1, 2, 3, 4, 5, 6, 7] [0, 1, 2, 3, 4, 5, 6, 7, 8, 9, 10, 11, 12] (g_runV Z (c_Chg_size l D ad ca vC x25 h26) (cwV 0 Z.2.2.2.2.1 (gg_V ww207 ww93 ww94 ww40 ww95) rfl rfl rfl (yv_of rfl yd_Chg_size) ⟨Nat.le_of_ble_eq_true rfl, Nat.le_of_ble_eq_true rfl⟩) [8, 9, 10, 11, 12] rfl (by decide) 0 rfl rfl rfl rfl rfl (Nat.le_of_ble_eq_true rfl) dX4_told_114 ⟨Nat.le_of_ble_eq_true rfl, Nat.le_of_ble_eq_true rfl⟩) rfl rfl (by decide) (by decide) (by decide) (fun _ => rfl) (fun r u hu => ?_)
                    obtain rfl := hu.symm
                    exact absurd (Option.some.inj hf) (fun h => by cases h)
                  · replace hf := gIfN c24 hf
                    refine g_tabOut (pc := 5) (tgt := 118) Z dX4_told_5 (by have q0 := lv_neT (a := 0) c3 (by decide); have q1 := lv_neT (a := 1) c6 (by decide); have q2 := lv_neT (a := 2) c9 (by decide); have q3 := lv_neT (a := 3) c12 (by decide); have q4 := lv_neT (a := 4) c15 (by decide); have q5 := lv_neT (a := 5) c18 (by decide); have q6 := lv_neT (a := 6) c21 (by decide); have q7 := lv_neT (a := 7) c24 (by decide); omega) (by decide) ?_
                    obtain rfl := Except.error.inj (Option.some.inj hf)
                    exact g_throw (pc := 118) (cls := "java/lang/IndexOutOfBoundsException") (text := "no such question") (names := supX) (strs := strsH) (pe := fun E9 => E9 = "java/lang/IndexOutOfBoundsException") Z hl0 hT htab dX4_told_118 dX4_told_121 dX4_told_122 dX4_told_124 dX4_told_127 rfl supX_fit (by decide) (mm ww272) (mm ww273) (vx_hat (fun w h => Z.2.2.2.2.1 w (mm (at_167 w h))) ab_167 (gN.bad Z.2.2.2.2.2.2.2.2)) ag_167 (Nat.le_of_ble_eq_true rfl) (Nat.le_of_ble_eq_true rfl) (Nat.le_of_ble_eq_true rfl) (Nat.le_of_ble_eq_true rfl) rfl (Nat.le_of_ble_eq_true rfl) (Nat.le_of_ble_eq_true rfl)
theorem ww291 : Cond.methodLink RX4 191 yX2_writes ∈ gA := wt3 146 rfl rfl
theorem ww292 : Cond.instanceMethod yX2_writes ∈ gA := wt3 147 rfl rfl
theorem ww293 : Cond.selects RX2 yX2_writes yX2_writes ∈ gA := wt3 148 rfl rfl
theorem ww294 : cd_Disk_writes ∈ gA := wt3 149 rfl rfl
theorem ww295 : Cond.methodLink RX4 194 yX2_syncs ∈ gA := wt3 150 rfl rfl
theorem ww296 : Cond.instanceMethod yX2_syncs ∈ gA := wt3 151 rfl rfl
theorem ww297 : Cond.selects RX2 yX2_syncs yX2_syncs ∈ gA := wt3 152 rfl rfl
theorem ww298 : cd_Disk_syncs ∈ gA := wt3 153 rfl rfl
theorem ww299 : Cond.methodLink RX4 197 yX2_failures ∈ gA := wt3 154 rfl rfl
theorem ww300 : Cond.instanceMethod yX2_failures ∈ gA := wt3 155 rfl rfl
theorem ww301 : Cond.selects RX2 yX2_failures yX2_failures ∈ gA := wt3 156 rfl rfl
theorem ww302 : cd_Disk_failures ∈ gA := wt3 157 rfl rfl
theorem ww303 : Cond.methodLink RX4 200 yX2_lost ∈ gA := wt3 158 rfl rfl
theorem ww304 : Cond.instanceMethod yX2_lost ∈ gA := wt3 159 rfl rfl
theorem ww305 : Cond.selects RX2 yX2_lost yX2_lost ∈ gA := wt3 160 rfl rfl
theorem ww306 : cd_Disk_lost ∈ gA := wt3 161 rfl rfl
/-! RedoHeap.count(I)I -/
def f_Heap_count (vD : DT) (vC : CT) (p1 : Int32) : Option (Except String (Int32)) :=
  if p1 = (0 : Int32) then (f_Disk_isOn vD).bind fun x2 => if x2 = true then some (Except.ok (1 : Int32)) else some (Except.ok (0 : Int32)) else if p1 = (1 : Int32) then (f_Chg_areOpen vC).bind fun x6 => if x6 = true then some (Except.ok (1 : Int32)) else some (Except.ok (0 : Int32)) else if p1 = (2 : Int32) then (f_Disk_writes vD).bind fun x10 => some (Except.ok x10) else if p1 = (3 : Int32) then (f_Disk_syncs vD).bind fun x13 => some (Except.ok x13) else if p1 = (4 : Int32) then (f_Disk_failures vD).bind fun x16 => some (Except.ok x16) else if p1 = (5 : Int32) then (f_Disk_lost vD).bind fun x19 => some (Except.ok x19) else if p1 = (6 : Int32) then (f_Disk_waiting vD).bind fun x22 => some (Except.ok x22) else some (Except.error "java/lang/IndexOutOfBoundsException")
abbrev cd_Heap_count : Cond := .code yX4_count cX4_count 2 (some .int)
theorem yd_Heap_count : yX4_count.cls ≠ "java/lang/invoke/MethodHandle" ∧ yX4_count.cls ≠ "java/lang/invoke/VarHandle" ∧ (parseMethodDescriptor yX4_count.desc).map (fun d => d.parameters.length) = some 1 := by decide +kernel
abbrev rm_Heap_count : Room := { frames := 1, cells := 0, slots := 0, locals := 20 }
abbrev rx_Heap_count : Room := { frames := 6, cells := 1, slots := 6, locals := 82 }
abbrev q_Heap_count (D : va_G) (ad : Nat → Nat) (ca : Nat → ClassId) (vD : DT) (vC : CT) (res : Int32) (A : Nat → Prop) : Array Value → State → Outcome → State → Prop := va_Qi (fun (r : Int32) (_ : Unit) => r = res) (gB D cls (tys ca) A (fun (u : Unit) => (wH ad ++ wD ad ca vD ++ wC ad ca vC))) A
set_option maxHeartbeats 4000000 in
set_option maxRecDepth 100000 in
theorem c_Heap_count (l : Launch) (D : va_G) (ad : Nat → Nat) (ca : Nat → ClassId) (vD : DT) (vC : CT) (p1 : Int32) (res : Int32) (hf : f_Heap_count vD vC p1 = some (.ok res)) (sz : Nat) : Met l yX4_count (cd_Heap_count :: gA) rm_Heap_count (va_Pc [.ref (ad 0), .int p1] (gP D cls (tys ca) (wH ad ++ wD ad ca vD ++ wC ad ca vC) sz)) (q_Heap_count D ad ca vD vC res (va_A (wH ad ++ wD ad ca vD ++ wC ad ca vC) sz)) 0 0 (va_A (wH ad ++ wD ad ca vD ++ wC ad ca vC) sz) := by
  refine g_met (cc := cX4_count) (Qc := q_Heap_count D ad ca vD vC res) (lv := [(0, .ref (ad 0)), (1, .int p1)]) (own := RX4) (by decide) rfl rfl (Nat.le_of_ble_eq_true rfl) rfl sz ?_
  intro p e s m args below meth c A Z hr hnm
  unfold f_Heap_count at hf
  refine g_iload_n (pc := 0) Z 1 dX4_count_0 rfl ?_
  by_cases c1 : p1 = (0 : Int32)
  · replace hf := gIfP c1 hf
    refine g_tabIn (pc := 1) (tgt := 44) Z dX4_count_1 c1 (by decide) (by decide) rfl (by decide) ?_
    refine g_aload_n (pc := 44) Z 0 dX4_count_44 rfl ?_
    refine g_get (pc := 45) (v := .ref (ad 1)) (T := TX4) (N := 4) Z 0 0 dX4_count_45 (mm ww148) inx_X4 rfl (by decide) rfl rfl rfl ?_
    obtain ⟨x2, h3, hf⟩ := Option.bind_eq_some_iff.mp hf
    refine g_calli (pc := 48) (ws2 := fun u => (wH ad ++ wD ad ca vD ++ wC ad ca vC)) (wr := (wH ad ++ wC ad ca vC)) Z [1, 2, 3, 4, 5] [0, 6, 7, 8, 9, 10] [0, 6, 7, 8, 9, 10, 1, 2, 3, 4, 5] (g_runV Z (c_Disk_isOn l D ad ca vD x2 h3) (cwV 0 Z.2.2.2.2.1 (gg_V ww154 ww155 ww156 ww16 ww157) rfl rfl rfl (yv_of rfl yd_Disk_isOn) ⟨Nat.le_of_ble_eq_true rfl, Nat.le_of_ble_eq_true rfl⟩) [1, 2, 3, 4, 5] rfl (by decide) 0 rfl rfl rfl rfl rfl (Nat.le_of_ble_eq_true rfl) dX4_count_48 ⟨Nat.le_of_ble_eq_true rfl, Nat.le_of_ble_eq_true rfl⟩) rfl rfl (by decide) (by decide) (by decide) (fun _ => rfl) (fun r u hu => ?_)
    obtain rfl := hu.symm
    refine g_if_eq (pc := 51) (tgt := 58) Z dX4_count_51 (by decide) (fun c4 => ?_) (fun c4 => ?_)
    · replace hf := gIfN (bI_z c4) hf
      refine g_iconst (pc := 58) (v := 0) Z dX4_count_58 (by decide) ?_
      obtain rfl := Except.ok.inj (Option.some.inj hf)
      exact g_iret Z hr dX4_count_59 () rfl rfl
    · replace hf := gIfP (bI_nz c4) hf
      refine g_iconst (pc := 54) (v := 1) Z dX4_count_54 (by decide) ?_
      refine g_goto (pc := 55) (tgt := 59) Z dX4_count_55 (by decide) ?_
      obtain rfl := Except.ok.inj (Option.some.inj hf)
      exact g_iret Z hr dX4_count_59 () rfl rfl
  · replace hf := gIfN c1 hf
    by_cases c5 : p1 = (1 : Int32)
    · replace hf := gIfP c5 hf
      refine g_tabIn (pc := 1) (tgt := 60) Z dX4_count_1 c5 (by decide) (by decide) rfl (by decide) ?_
      refine g_aload_n (pc := 60) Z 0 dX4_count_60 rfl ?_
      refine g_get (pc := 61) (v := .ref (ad 7)) (T := TX4) (N := 4) Z 0 2 dX4_count_61 (mm ww164) inx_X4 rfl (by decide) rfl rfl rfl ?_
      obtain ⟨x6, h7, hf⟩ := Option.bind_eq_some_iff.mp hf
      refine g_calli (pc := 64) (ws2 := fun u => (wH ad ++ wD ad ca vD ++ wC ad ca vC)) (wr := (wH ad ++ wD ad ca vD)) Z [6, 7, 8, 9, 10] [0, 1, 2, 3, 4, 5] [0, 1, 2, 3, 4, 5, 6, 7, 8, 9, 10] (g_runV Z (c_Chg_areOpen l D ad ca vC x6 h7) (cwV 0 Z.2.2.2.2.1 (gg_V ww165 ww166 ww167 ww40 ww168) rfl rfl rfl (yv_of rfl yd_Chg_areOpen) ⟨Nat.le_of_ble_eq_true rfl, Nat.le_of_ble_eq_true rfl⟩) [6, 7, 8, 9, 10] rfl (by decide) 0 rfl rfl rfl rfl rfl (Nat.le_of_ble_eq_true rfl) dX4_count_64 ⟨Nat.le_of_ble_eq_true rfl, Nat.le_of_ble_eq_true rfl⟩) rfl rfl (by decide) (by decide) (by decide) (fun _ => rfl) (fun r u hu => ?_)
      obtain rfl := hu.symm
      refine g_if_eq (pc := 67) (tgt := 74) Z dX4_count_67 (by decide) (fun c8 => ?_) (fun c8 => ?_)
      · replace hf := gIfN (bI_z c8) hf
        refine g_iconst (pc := 74) (v := 0) Z dX4_count_74 (by decide) ?_
        obtain rfl := Except.ok.inj (Option.some.inj hf)
        exact g_iret Z hr dX4_count_75 () rfl rfl
      · replace hf := gIfP (bI_nz c8) hf
        refine g_iconst (pc := 70) (v := 1) Z dX4_count_70 (by decide) ?_
        refine g_goto (pc := 71) (tgt := 75) Z dX4_count_71 (by decide) ?_
        obtain rfl := Except.ok.inj (Option.some.inj hf)
        exact g_iret Z hr dX4_count_75 () rfl rfl
    · replace hf := gIfN c5 hf
      by_cases c9 : p1 = (2 : Int32)
      · replace hf := gIfP c9 hf
        refine g_tabIn (pc := 1) (tgt := 76) Z dX4_count_1 c9 (by decide) (by decide) rfl (by decide) ?_
        refine g_aload_n (pc := 76) Z 0 dX4_count_76 rfl ?_
        refine g_get (pc := 77) (v := .ref (ad 1)) (T := TX4) (N := 4) Z 0 0 dX4_count_77 (mm ww148) inx_X4 rfl (by decide) rfl rfl rfl ?_
        obtain ⟨x10, h11, hf⟩ := Option.bind_eq_some_iff.mp hf
        refine g_calli (pc := 80) (ws2 := fun u => (wH ad ++ wD ad ca vD ++ wC ad ca vC)) (wr := (wH ad ++ wC ad ca vC)) Z [1, 2, 3, 4, 5] [0, 6, 7, 8, 9, 10] [0, 6, 7, 8, 9, 10, 1, 2, 3, 4, 5] (g_runV Z (c_Disk_writes l D ad ca vD x10 h11) (cwV 0 Z.2.2.2.2.1 (gg_V ww291 ww292 ww293 ww16 ww294) rfl rfl rfl (yv_of rfl yd_Disk_writes) ⟨Nat.le_of_ble_eq_true rfl, Nat.le_of_ble_eq_true rfl⟩) [1, 2, 3, 4, 5] rfl (by decide) 0 rfl rfl rfl rfl rfl (Nat.le_of_ble_eq_true rfl) dX4_count_80 ⟨Nat.le_of_ble_eq_true rfl, Nat.le_of_ble_eq_true rfl⟩) rfl rfl (by decide) (by decide) (by decide) (fun _ => rfl) (fun r u hu => ?_)
        obtain rfl := hu.symm
        obtain rfl := Except.ok.inj (Option.some.inj hf)
        exact g_iret Z hr dX4_count_83 () rfl rfl
      · replace hf := gIfN c9 hf
        by_cases c12 : p1 = (3 : Int32)
        · replace hf := gIfP c12 hf
          refine g_tabIn (pc := 1) (tgt := 84) Z dX4_count_1 c12 (by decide) (by decide) rfl (by decide) ?_
          refine g_aload_n (pc := 84) Z 0 dX4_count_84 rfl ?_
          refine g_get (pc := 85) (v := .ref (ad 1)) (T := TX4) (N := 4) Z 0 0 dX4_count_85 (mm ww148) inx_X4 rfl (by decide) rfl rfl rfl ?_
          obtain ⟨x13, h14, hf⟩ := Option.bind_eq_some_iff.mp hf
          refine g_calli (pc := 88) (ws2 := fun u => (wH ad ++ wD ad ca vD ++ wC ad ca vC)) (wr := (wH ad ++ wC ad ca vC)) Z [1, 2, 3, 4, 5] [0, 6, 7, 8, 9, 10] [0, 6, 7, 8, 9, 10, 1, 2, 3, 4, 5] (g_runV Z (c_Disk_syncs l D ad ca vD x13 h14) (cwV 0 Z.2.2.2.2.1 (gg_V ww295 ww296 ww297 ww16 ww298) rfl rfl rfl (yv_of rfl yd_Disk_syncs) ⟨Nat.le_of_ble_eq_true rfl, Nat.le_of_ble_eq_true rfl⟩) [1, 2, 3, 4, 5] rfl (by decide) 0 rfl rfl rfl rfl rfl (Nat.le_of_ble_eq_true rfl) dX4_count_88 ⟨Nat.le_of_ble_eq_true rfl, Nat.le_of_ble_eq_true rfl⟩) rfl rfl (by decide) (by decide) (by decide) (fun _ => rfl) (fun r u hu => ?_)
          obtain rfl := hu.symm
          obtain rfl := Except.ok.inj (Option.some.inj hf)
          exact g_iret Z hr dX4_count_91 () rfl rfl
        · replace hf := gIfN c12 hf
          by_cases c15 : p1 = (4 : Int32)
          · replace hf := gIfP c15 hf
            refine g_tabIn (pc := 1) (tgt := 92) Z dX4_count_1 c15 (by decide) (by decide) rfl (by decide) ?_
            refine g_aload_n (pc := 92) Z 0 dX4_count_92 rfl ?_
            refine g_get (pc := 93) (v := .ref (ad 1)) (T := TX4) (N := 4) Z 0 0 dX4_count_93 (mm ww148) inx_X4 rfl (by decide) rfl rfl rfl ?_
            obtain ⟨x16, h17, hf⟩ := Option.bind_eq_some_iff.mp hf
            refine g_calli (pc := 96) (ws2 := fun u => (wH ad ++ wD ad ca vD ++ wC ad ca vC)) (wr := (wH ad ++ wC ad ca vC)) Z [1, 2, 3, 4, 5] [0, 6, 7, 8, 9, 10] [0, 6, 7, 8, 9, 10, 1, 2, 3, 4, 5] (g_runV Z (c_Disk_failures l D ad ca vD x16 h17) (cwV 0 Z.2.2.2.2.1 (gg_V ww299 ww300 ww301 ww16 ww302) rfl rfl rfl (yv_of rfl yd_Disk_failures) ⟨Nat.le_of_ble_eq_true rfl, Nat.le_of_ble_eq_true rfl⟩) [1, 2, 3, 4, 5] rfl (by decide) 0 rfl rfl rfl rfl rfl (Nat.le_of_ble_eq_true rfl) dX4_count_96 ⟨Nat.le_of_ble_eq_true rfl, Nat.le_of_ble_eq_true rfl⟩) rfl rfl (by decide) (by decide) (by decide) (fun _ => rfl) (fun r u hu => ?_)
            obtain rfl := hu.symm
            obtain rfl := Except.ok.inj (Option.some.inj hf)
            exact g_iret Z hr dX4_count_99 () rfl rfl
          · replace hf := gIfN c15 hf
            by_cases c18 : p1 = (5 : Int32)
            · replace hf := gIfP c18 hf
              refine g_tabIn (pc := 1) (tgt := 100) Z dX4_count_1 c18 (by decide) (by decide) rfl (by decide) ?_
              refine g_aload_n (pc := 100) Z 0 dX4_count_100 rfl ?_
              refine g_get (pc := 101) (v := .ref (ad 1)) (T := TX4) (N := 4) Z 0 0 dX4_count_101 (mm ww148) inx_X4 rfl (by decide) rfl rfl rfl ?_
              obtain ⟨x19, h20, hf⟩ := Option.bind_eq_some_iff.mp hf
              refine g_calli (pc := 104) (ws2 := fun u => (wH ad ++ wD ad ca vD ++ wC ad ca vC)) (wr := (wH ad ++ wC ad ca vC)) Z [1, 2, 3, 4, 5] [0, 6, 7, 8, 9, 10] [0, 6, 7, 8, 9, 10, 1, 2, 3, 4, 5] (g_runV Z (c_Disk_lost l D ad ca vD x19 h20) (cwV 0 Z.2.2.2.2.1 (gg_V ww303 ww304 ww305 ww16 ww306) rfl rfl rfl (yv_of rfl yd_Disk_lost) ⟨Nat.le_of_ble_eq_true rfl, Nat.le_of_ble_eq_true rfl⟩) [1, 2, 3, 4, 5] rfl (by decide) 0 rfl rfl rfl rfl rfl (Nat.le_of_ble_eq_true rfl) dX4_count_104 ⟨Nat.le_of_ble_eq_true rfl, Nat.le_of_ble_eq_true rfl⟩) rfl rfl (by decide) (by decide) (by decide) (fun _ => rfl) (fun r u hu => ?_)
              obtain rfl := hu.symm
              obtain rfl := Except.ok.inj (Option.some.inj hf)
              exact g_iret Z hr dX4_count_107 () rfl rfl
            · replace hf := gIfN c18 hf
              by_cases c21 : p1 = (6 : Int32)
              · replace hf := gIfP c21 hf
                refine g_tabIn (pc := 1) (tgt := 108) Z dX4_count_1 c21 (by decide) (by decide) rfl (by decide) ?_
                refine g_aload_n (pc := 108) Z 0 dX4_count_108 rfl ?_
                refine g_get (pc := 109) (v := .ref (ad 1)) (T := TX4) (N := 4) Z 0 0 dX4_count_109 (mm ww148) inx_X4 rfl (by decide) rfl rfl rfl ?_
                obtain ⟨x22, h23, hf⟩ := Option.bind_eq_some_iff.mp hf
                refine g_calli (pc := 112) (ws2 := fun u => (wH ad ++ wD ad ca vD ++ wC ad ca vC)) (wr := (wH ad ++ wC ad ca vC)) Z [1, 2, 3, 4, 5] [0, 6, 7, 8, 9, 10] [0, 6, 7, 8, 9, 10, 1, 2, 3, 4, 5] (g_runV Z (c_Disk_waiting l D ad ca vD x22 h23) (cwV 0 Z.2.2.2.2.1 (gg_V ww229 ww230 ww231 ww16 ww232) rfl rfl rfl (yv_of rfl yd_Disk_waiting) ⟨Nat.le_of_ble_eq_true rfl, Nat.le_of_ble_eq_true rfl⟩) [1, 2, 3, 4, 5] rfl (by decide) 0 rfl rfl rfl rfl rfl (Nat.le_of_ble_eq_true rfl) dX4_count_112 ⟨Nat.le_of_ble_eq_true rfl, Nat.le_of_ble_eq_true rfl⟩) rfl rfl (by decide) (by decide) (by decide) (fun _ => rfl) (fun r u hu => ?_)
                obtain rfl := hu.symm
                obtain rfl := Except.ok.inj (Option.some.inj hf)
                exact g_iret Z hr dX4_count_115 () rfl rfl
              · replace hf := gIfN c21 hf
                refine g_tabOut (pc := 1) (tgt := 116) Z dX4_count_1 (by have q0 := lv_neT (a := 0) c1 (by decide); have q1 := lv_neT (a := 1) c5 (by decide); have q2 := lv_neT (a := 2) c9 (by decide); have q3 := lv_neT (a := 3) c12 (by decide); have q4 := lv_neT (a := 4) c15 (by decide); have q5 := lv_neT (a := 5) c18 (by decide); have q6 := lv_neT (a := 6) c21 (by decide); omega) (by decide) ?_
                exact absurd (Option.some.inj hf) (fun h => by cases h)
set_option maxHeartbeats 4000000 in
set_option maxRecDepth 100000 in
theorem x_Heap_count (l : Launch) (hl0 : l.stackTraces = false) (D : va_G) (ad : Nat → Nat) (ca : Nat → ClassId) (vD : DT) (vC : CT) (p1 : Int32) (E : String) (hf : f_Heap_count vD vC p1 = some (.error E)) (sz : Nat) : vx_Met l yX4_count (cd_Heap_count :: gA) rx_Heap_count (va_Pc [.ref (ad 0), .int p1] (gPX D cls (tys ca) (wH ad ++ wD ad ca vD ++ wC ad ca vC) sz RX4 strsH)) (gQE (va_A (wH ad ++ wD ad ca vD ++ wC ad ca vC) sz)) (gXC D cls (tys ca) (wH ad ++ wD ad ca vD ++ wC ad ca vC) (fun E9 => E9 = E) (va_A (wH ad ++ wD ad ca vD ++ wC ad ca vC) sz)) 1 6 (va_A (wH ad ++ wD ad ca vD ++ wC ad ca vC) sz) := by
  refine g_metX (cc := cX4_count) (Qc := gQE) (pe := fun E9 => E9 = E) (lv := [(0, .ref (ad 0)), (1, .int p1)]) (own := RX4) (by decide) rfl rfl (Nat.le_of_ble_eq_true rfl) rfl sz ?_
  intro p e s m args below meth c A Z hr hnm hT htab
  unfold f_Heap_count at hf
  refine g_iload_n (pc := 0) Z 1 dX4_count_0 rfl ?_
  by_cases c1 : p1 = (0 : Int32)
  · replace hf := gIfP c1 hf
    refine g_tabIn (pc := 1) (tgt := 44) Z dX4_count_1 c1 (by decide) (by decide) rfl (by decide) ?_
    refine g_aload_n (pc := 44) Z 0 dX4_count_44 rfl ?_
    refine g_get (pc := 45) (v := .ref (ad 1)) (T := TX4) (N := 4) Z 0 0 dX4_count_45 (mm ww148) inx_X4 rfl (by decide) rfl rfl rfl ?_
    obtain ⟨x2, h3, hf⟩ := Option.bind_eq_some_iff.mp hf
    refine g_calli (pc := 48) (ws2 := fun u => (wH ad ++ wD ad ca vD ++ wC ad ca vC)) (wr := (wH ad ++ wC ad ca vC)) Z [1, 2, 3, 4, 5] [0, 6, 7, 8, 9, 10] [0, 6, 7, 8, 9, 10, 1, 2, 3, 4, 5] (g_runV Z (c_Disk_isOn l D ad ca vD x2 h3) (cwV 0 Z.2.2.2.2.1 (gg_V ww154 ww155 ww156 ww16 ww157) rfl rfl rfl (yv_of rfl yd_Disk_isOn) ⟨Nat.le_of_ble_eq_true rfl, Nat.le_of_ble_eq_true rfl⟩) [1, 2, 3, 4, 5] rfl (by decide) 0 rfl rfl rfl rfl rfl (Nat.le_of_ble_eq_true rfl) dX4_count_48 ⟨Nat.le_of_ble_eq_true rfl, Nat.le_of_ble_eq_true rfl⟩) rfl rfl (by decide) (by decide) (by decide) (fun _ => rfl) (fun r u hu => ?_)
    obtain rfl := hu.symm
    refine g_if_eq (pc := 51) (tgt := 58) Z dX4_count_51 (by decide) (fun c4 => ?_) (fun c4 => ?_)
    · replace hf := gIfN (bI_z c4) hf
      refine g_iconst (pc := 58) (v := 0) Z dX4_count_58 (by decide) ?_
      exact absurd (Option.some.inj hf) (fun h => by cases h)
    · replace hf := gIfP (bI_nz c4) hf
      refine g_iconst (pc := 54) (v := 1) Z dX4_count_54 (by decide) ?_
      refine g_goto (pc := 55) (tgt := 59) Z dX4_count_55 (by decide) ?_
      exact absurd (Option.some.inj hf) (fun h => by cases h)
  · replace hf := gIfN c1 hf
    by_cases c5 : p1 = (1 : Int32)
    · replace hf := gIfP c5 hf
      refine g_tabIn (pc := 1) (tgt := 60) Z dX4_count_1 c5 (by decide) (by decide) rfl (by decide) ?_
      refine g_aload_n (pc := 60) Z 0 dX4_count_60 rfl ?_
      refine g_get (pc := 61) (v := .ref (ad 7)) (T := TX4) (N := 4) Z 0 2 dX4_count_61 (mm ww164) inx_X4 rfl (by decide) rfl rfl rfl ?_
      obtain ⟨x6, h7, hf⟩ := Option.bind_eq_some_iff.mp hf
      refine g_calli (pc := 64) (ws2 := fun u => (wH ad ++ wD ad ca vD ++ wC ad ca vC)) (wr := (wH ad ++ wD ad ca vD)) Z [6, 7, 8, 9, 10] [0, 1, 2, 3, 4, 5] [0, 1, 2, 3, 4, 5, 6, 7, 8, 9, 10] (g_runV Z (c_Chg_areOpen l D ad ca vC x6 h7) (cwV 0 Z.2.2.2.2.1 (gg_V ww165 ww166 ww167 ww40 ww168) rfl rfl rfl (yv_of rfl yd_Chg_areOpen) ⟨Nat.le_of_ble_eq_true rfl, Nat.le_of_ble_eq_true rfl⟩) [6, 7, 8, 9, 10] rfl (by decide) 0 rfl rfl rfl rfl rfl (Nat.le_of_ble_eq_true rfl) dX4_count_64 ⟨Nat.le_of_ble_eq_true rfl, Nat.le_of_ble_eq_true rfl⟩) rfl rfl (by decide) (by decide) (by decide) (fun _ => rfl) (fun r u hu => ?_)
      obtain rfl := hu.symm
      refine g_if_eq (pc := 67) (tgt := 74) Z dX4_count_67 (by decide) (fun c8 => ?_) (fun c8 => ?_)
      · replace hf := gIfN (bI_z c8) hf
        refine g_iconst (pc := 74) (v := 0) Z dX4_count_74 (by decide) ?_
        exact absurd (Option.some.inj hf) (fun h => by cases h)
      · replace hf := gIfP (bI_nz c8) hf
        refine g_iconst (pc := 70) (v := 1) Z dX4_count_70 (by decide) ?_
        refine g_goto (pc := 71) (tgt := 75) Z dX4_count_71 (by decide) ?_
        exact absurd (Option.some.inj hf) (fun h => by cases h)
    · replace hf := gIfN c5 hf
      by_cases c9 : p1 = (2 : Int32)
      · replace hf := gIfP c9 hf
        refine g_tabIn (pc := 1) (tgt := 76) Z dX4_count_1 c9 (by decide) (by decide) rfl (by decide) ?_
        refine g_aload_n (pc := 76) Z 0 dX4_count_76 rfl ?_
        refine g_get (pc := 77) (v := .ref (ad 1)) (T := TX4) (N := 4) Z 0 0 dX4_count_77 (mm ww148) inx_X4 rfl (by decide) rfl rfl rfl ?_
        obtain ⟨x10, h11, hf⟩ := Option.bind_eq_some_iff.mp hf
        refine g_calli (pc := 80) (ws2 := fun u => (wH ad ++ wD ad ca vD ++ wC ad ca vC)) (wr := (wH ad ++ wC ad ca vC)) Z [1, 2, 3, 4, 5] [0, 6, 7, 8, 9, 10] [0, 6, 7, 8, 9, 10, 1, 2, 3, 4, 5] (g_runV Z (c_Disk_writes l D ad ca vD x10 h11) (cwV 0 Z.2.2.2.2.1 (gg_V ww291 ww292 ww293 ww16 ww294) rfl rfl rfl (yv_of rfl yd_Disk_writes) ⟨Nat.le_of_ble_eq_true rfl, Nat.le_of_ble_eq_true rfl⟩) [1, 2, 3, 4, 5] rfl (by decide) 0 rfl rfl rfl rfl rfl (Nat.le_of_ble_eq_true rfl) dX4_count_80 ⟨Nat.le_of_ble_eq_true rfl, Nat.le_of_ble_eq_true rfl⟩) rfl rfl (by decide) (by decide) (by decide) (fun _ => rfl) (fun r u hu => ?_)
        obtain rfl := hu.symm
        exact absurd (Option.some.inj hf) (fun h => by cases h)
      · replace hf := gIfN c9 hf
        by_cases c12 : p1 = (3 : Int32)
        · replace hf := gIfP c12 hf
          refine g_tabIn (pc := 1) (tgt := 84) Z dX4_count_1 c12 (by decide) (by decide) rfl (by decide) ?_
          refine g_aload_n (pc := 84) Z 0 dX4_count_84 rfl ?_
          refine g_get (pc := 85) (v := .ref (ad 1)) (T := TX4) (N := 4) Z 0 0 dX4_count_85 (mm ww148) inx_X4 rfl (by decide) rfl rfl rfl ?_
          obtain ⟨x13, h14, hf⟩ := Option.bind_eq_some_iff.mp hf
          refine g_calli (pc := 88) (ws2 := fun u => (wH ad ++ wD ad ca vD ++ wC ad ca vC)) (wr := (wH ad ++ wC ad ca vC)) Z [1, 2, 3, 4, 5] [0, 6, 7, 8, 9, 10] [0, 6, 7, 8, 9, 10, 1, 2, 3, 4, 5] (g_runV Z (c_Disk_syncs l D ad ca vD x13 h14) (cwV 0 Z.2.2.2.2.1 (gg_V ww295 ww296 ww297 ww16 ww298) rfl rfl rfl (yv_of rfl yd_Disk_syncs) ⟨Nat.le_of_ble_eq_true rfl, Nat.le_of_ble_eq_true rfl⟩) [1, 2, 3, 4, 5] rfl (by decide) 0 rfl rfl rfl rfl rfl (Nat.le_of_ble_eq_true rfl) dX4_count_88 ⟨Nat.le_of_ble_eq_true rfl, Nat.le_of_ble_eq_true rfl⟩) rfl rfl (by decide) (by decide) (by decide) (fun _ => rfl) (fun r u hu => ?_)
          obtain rfl := hu.symm
          exact absurd (Option.some.inj hf) (fun h => by cases h)
        · replace hf := gIfN c12 hf
          by_cases c15 : p1 = (4 : Int32)
          · replace hf := gIfP c15 hf
            refine g_tabIn (pc := 1) (tgt := 92) Z dX4_count_1 c15 (by decide) (by decide) rfl (by decide) ?_
            refine g_aload_n (pc := 92) Z 0 dX4_count_92 rfl ?_
            refine g_get (pc := 93) (v := .ref (ad 1)) (T := TX4) (N := 4) Z 0 0 dX4_count_93 (mm ww148) inx_X4 rfl (by decide) rfl rfl rfl ?_
            obtain ⟨x16, h17, hf⟩ := Option.bind_eq_some_iff.mp hf
            refine g_calli (pc := 96) (ws2 := fun u => (wH ad ++ wD ad ca vD ++ wC ad ca vC)) (wr := (wH ad ++ wC ad ca vC)) Z [1, 2, 3, 4, 5] [0, 6, 7, 8, 9, 10] [0, 6, 7, 8, 9, 10, 1, 2, 3, 4, 5] (g_runV Z (c_Disk_failures l D ad ca vD x16 h17) (cwV 0 Z.2.2.2.2.1 (gg_V ww299 ww300 ww301 ww16 ww302) rfl rfl rfl (yv_of rfl yd_Disk_failures) ⟨Nat.le_of_ble_eq_true rfl, Nat.le_of_ble_eq_true rfl⟩) [1, 2, 3, 4, 5] rfl (by decide) 0 rfl rfl rfl rfl rfl (Nat.le_of_ble_eq_true rfl) dX4_count_96 ⟨Nat.le_of_ble_eq_true rfl, Nat.le_of_ble_eq_true rfl⟩) rfl rfl (by decide) (by decide) (by decide) (fun _ => rfl) (fun r u hu => ?_)
            obtain rfl := hu.symm
            exact absurd (Option.some.inj hf) (fun h => by cases h)
          · replace hf := gIfN c15 hf
            by_cases c18 : p1 = (5 : Int32)
            · replace hf := gIfP c18 hf
              refine g_tabIn (pc := 1) (tgt := 100) Z dX4_count_1 c18 (by decide) (by decide) rfl (by decide) ?_
              refine g_aload_n (pc := 100) Z 0 dX4_count_100 rfl ?_
              refine g_get (pc := 101) (v := .ref (ad 1)) (T := TX4) (N := 4) Z 0 0 dX4_count_101 (mm ww148) inx_X4 rfl (by decide) rfl rfl rfl ?_
              obtain ⟨x19, h20, hf⟩ := Option.bind_eq_some_iff.mp hf
              refine g_calli (pc := 104) (ws2 := fun u => (wH ad ++ wD ad ca vD ++ wC ad ca vC)) (wr := (wH ad ++ wC ad ca vC)) Z [1, 2, 3, 4, 5] [0, 6, 7, 8, 9, 10] [0, 6, 7, 8, 9, 10, 1, 2, 3, 4, 5] (g_runV Z (c_Disk_lost l D ad ca vD x19 h20) (cwV 0 Z.2.2.2.2.1 (gg_V ww303 ww304 ww305 ww16 ww306) rfl rfl rfl (yv_of rfl yd_Disk_lost) ⟨Nat.le_of_ble_eq_true rfl, Nat.le_of_ble_eq_true rfl⟩) [1, 2, 3, 4, 5] rfl (by decide) 0 rfl rfl rfl rfl rfl (Nat.le_of_ble_eq_true rfl) dX4_count_104 ⟨Nat.le_of_ble_eq_true rfl, Nat.le_of_ble_eq_true rfl⟩) rfl rfl (by decide) (by decide) (by decide) (fun _ => rfl) (fun r u hu => ?_)
              obtain rfl := hu.symm
              exact absurd (Option.some.inj hf) (fun h => by cases h)
            · replace hf := gIfN c18 hf
              by_cases c21 : p1 = (6 : Int32)
              · replace hf := gIfP c21 hf
                refine g_tabIn (pc := 1) (tgt := 108) Z dX4_count_1 c21 (by decide) (by decide) rfl (by decide) ?_
                refine g_aload_n (pc := 108) Z 0 dX4_count_108 rfl ?_
                refine g_get (pc := 109) (v := .ref (ad 1)) (T := TX4) (N := 4) Z 0 0 dX4_count_109 (mm ww148) inx_X4 rfl (by decide) rfl rfl rfl ?_
                obtain ⟨x22, h23, hf⟩ := Option.bind_eq_some_iff.mp hf
                refine g_calli (pc := 112) (ws2 := fun u => (wH ad ++ wD ad ca vD ++ wC ad ca vC)) (wr := (wH ad ++ wC ad ca vC)) Z [1, 2, 3, 4, 5] [0, 6, 7, 8, 9, 10] [0, 6, 7, 8, 9, 10, 1, 2, 3, 4, 5] (g_runV Z (c_Disk_waiting l D ad ca vD x22 h23) (cwV 0 Z.2.2.2.2.1 (gg_V ww229 ww230 ww231 ww16 ww232) rfl rfl rfl (yv_of rfl yd_Disk_waiting) ⟨Nat.le_of_ble_eq_true rfl, Nat.le_of_ble_eq_true rfl⟩) [1, 2, 3, 4, 5] rfl (by decide) 0 rfl rfl rfl rfl rfl (Nat.le_of_ble_eq_true rfl) dX4_count_112 ⟨Nat.le_of_ble_eq_true rfl, Nat.le_of_ble_eq_true rfl⟩) rfl rfl (by decide) (by decide) (by decide) (fun _ => rfl) (fun r u hu => ?_)
                obtain rfl := hu.symm
                exact absurd (Option.some.inj hf) (fun h => by cases h)
              · replace hf := gIfN c21 hf
                refine g_tabOut (pc := 1) (tgt := 116) Z dX4_count_1 (by have q0 := lv_neT (a := 0) c1 (by decide); have q1 := lv_neT (a := 1) c5 (by decide); have q2 := lv_neT (a := 2) c9 (by decide); have q3 := lv_neT (a := 3) c12 (by decide); have q4 := lv_neT (a := 4) c15 (by decide); have q5 := lv_neT (a := 5) c18 (by decide); have q6 := lv_neT (a := 6) c21 (by decide); omega) (by decide) ?_
                obtain rfl := Except.error.inj (Option.some.inj hf)
                exact g_throw (pc := 116) (cls := "java/lang/IndexOutOfBoundsException") (text := "no such question") (names := supX) (strs := strsH) (pe := fun E9 => E9 = "java/lang/IndexOutOfBoundsException") Z hl0 hT htab dX4_count_116 dX4_count_119 dX4_count_120 dX4_count_122 dX4_count_125 rfl supX_fit (by decide) (mm ww272) (mm ww273) (vx_hat (fun w h => Z.2.2.2.2.1 w (mm (at_167 w h))) ab_167 (gN.bad Z.2.2.2.2.2.2.2.2)) ag_167 (Nat.le_of_ble_eq_true rfl) (Nat.le_of_ble_eq_true rfl) (Nat.le_of_ble_eq_true rfl) (Nat.le_of_ble_eq_true rfl) rfl (Nat.le_of_ble_eq_true rfl) (Nat.le_of_ble_eq_true rfl)
