theorem wl188 : Cond.methodLink RL 138 yL_block ∈ gA := wt3 104 rfl rfl
theorem wl189 : Cond.static yL_block ∈ gA := wt3 105 rfl rfl
theorem wl190 : cd_Law_block ∈ gA := wt3 106 rfl rfl
theorem wl191 : Cond.methodLink RL 140 yX5_block ∈ gA := wt4 124 rfl rfl
theorem wl192 : Cond.instanceMethod yX5_block ∈ gA := wt4 125 rfl rfl
theorem wl193 : Cond.selects RX5 yX5_block yX5_block ∈ gA := wt4 126 rfl rfl
theorem wl194 : cd_Mod_block ∈ gA := wt4 127 rfl rfl
def fc_block (N L : Nat) (xs : Nat → Int32) (vL : LT) (vD : DT) (vC : CT) (vM : MT) (vO : (Nat → Int64)) (y4 : Int32) : Option (LT × DT × CT × MT × (Nat → Int64)) :=
  if gI (y4 + (1 : Int32)) L = true then if gI (y4 + (2 : Int32)) L = true then (f_Law_block N vD vC vO (xs (y4 + (1 : Int32)).toNatClampNeg) (xs (y4 + (2 : Int32)).toNatClampNeg)).bind fun x3 => if gI (y4 + (1 : Int32)) L = true then if gI (y4 + (2 : Int32)) L = true then (f_Mod_block N vM (xs (y4 + (1 : Int32)).toNatClampNeg) (xs (y4 + (2 : Int32)).toNatClampNeg)).bind fun x7 => (f_Mod_thrown x7.2).bind fun x9 => if x9 = x3.1 then if x3.1 = 0 then if gI (0 : Int32) 1 = true then if (lg_cmp (x3.2 (0 : Int32).toNatClampNeg) x7.1.toInt64) = 0 then some (vL, vD, vC, x7.2, x3.2) else none else none else some (vL, vD, vC, x7.2, x3.2) else none else none else none else none else none
set_option maxHeartbeats 40000000 in
set_option maxRecDepth 100000 in
theorem w_case_block {p : Program} {l : Launch} {e : Env} {s : State} {m : MethodId} {below : List Frame} {meth : Method} {c : Code} {Q : State → Prop} {D : va_G} {ad : Nat → Nat} {ca : Nat → ClassId} {b L N : Nat} {xs : Nat → Int32} (hl0 : l.stackTraces = false) (Z : gZ p s m #[Value.ref b] meth c code 8 RL (Cond.initialized RL :: gA) (fun q : Nat => s.heap.size ≤ q) D cls (tys ca)) (hT : gT RX4 strsH (fun q : Nat => s.heap.size ≤ q) s) (hX : va_X b L xs s s.heap) (hbl : b < s.heap.size) {vL : LT} {vD : DT} {vC : CT} {vM : MT} {vO : (Nat → Int64)} {y4 : Int32} {k : Nat} {u : LT × DT × CT × MT × (Nat → Int64)} (hk : k ≤ 599) (hf : fc_block N L xs vL vD vC vM vO y4 = some u) (hK : gW p l e room_1 s m #[Value.ref b] below meth c 8 (fun q : Nat => s.heap.size ≤ q) D cls (22 + (k + 1)) (23025 + 6 * (k + 1)) Q (wH ad ++ wB ad ++ wL ad ca u.1 ++ wD ad ca u.2.1 ++ wC ad ca u.2.2.1 ++ wM ad ca u.2.2.2.1 ++ wO ad ca u.2.2.2.2) [(0, .ref b), (1, .ref (ad 0)), (2, .ref (ad 20)), (3, .ref (ad 30)), (4, .int y4)] 1180 []) : gW p l e room_1 s m #[Value.ref b] below meth c 8 (fun q : Nat => s.heap.size ≤ q) D cls (22 + k) (23025 + 6 * k) Q (wH ad ++ wB ad ++ wL ad ca vL ++ wD ad ca vD ++ wC ad ca vC ++ wM ad ca vM ++ wO ad ca vO) [(0, .ref b), (1, .ref (ad 0)), (2, .ref (ad 20)), (3, .ref (ad 30)), (4, .int y4)] 1000 [] := by
  have hbA : ¬ (fun q : Nat => s.heap.size ≤ q) b := Nat.not_le.mpr hbl
  unfold fc_block at hf
  refine g_aload_n (pc := 1000) Z 1 dL_law_1000 rfl ?_
  refine g_aload_n (pc := 1001) Z 0 dL_law_1001 rfl ?_
  refine g_iload (pc := 1002) Z 4 dL_law_1002 rfl ?_
  refine g_iconst (pc := 1004) (v := 1) Z dL_law_1004 (by decide) ?_
  refine g_iadd (pc := 1005) Z dL_law_1005 ?_
  obtain ⟨b1, hf⟩ := gGuard hf
  refine g_sld (pc := 1006) Z hX hbl hbA dL_law_1006 (gI_in b1) ?_
  refine g_aload_n (pc := 1007) Z 0 dL_law_1007 rfl ?_
  refine g_iload (pc := 1008) Z 4 dL_law_1008 rfl ?_
  refine g_iconst (pc := 1010) (v := 2) Z dL_law_1010 (by decide) ?_
  refine g_iadd (pc := 1011) Z dL_law_1011 ?_
  obtain ⟨b2, hf⟩ := gGuard hf
  refine g_sld (pc := 1012) Z hX hbl hbA dL_law_1012 (gI_in b2) ?_
  refine g_aload_n (pc := 1013) Z 3 dL_law_1013 rfl ?_
  obtain ⟨x3, h4, hf⟩ := Option.bind_eq_some_iff.mp hf
  refine g_calli (pc := 1014) (ws2 := fun u => (wH ad ++ wB ad ++ wL ad ca vL ++ wD ad ca vD ++ wC ad ca vC ++ wM ad ca vM ++ wO ad ca u)) (wr := (wL ad ca vL ++ wM ad ca vM)) Z [0, 1, 3, 4, 5, 6, 7, 8, 9, 10, 11, 12, 21] [2, 13, 14, 15, 16, 17, 18, 19, 20] [9, 10, 0, 11, 12, 13, 14, 15, 16, 17, 18, 19, 20, 1, 2, 3, 4, 5, 6, 7, 8, 21] (g_runSW Z hT (c_Law_block l hl0 D ad ca N vD vC vO (xs (y4 + (1 : Int32)).toNatClampNeg) (xs (y4 + (2 : Int32)).toNatClampNeg) x3 h4) (vx_cwSW 4 Z.2.2.2.2.1 (gg_W wl188 wl189 wl78 wl190) rfl rfl rfl yd_Law_block ⟨(Nat.le_of_ble_eq_true rfl), (Nat.le_of_ble_eq_true rfl)⟩) [0, 1, 3, 4, 5, 6, 7, 8, 9, 10, 11, 12, 21] rfl (by decide) rfl rfl (Nat.le_of_ble_eq_true rfl) dL_law_1014 ⟨by show _ ≤ 1060; omega, by show _ ≤ 31301; omega⟩) rfl rfl (by decide) (by decide) (by decide) (fun _ => rfl) (fun r u hu => ?_)
  obtain ⟨rfl, rfl⟩ := hu
  refine g_istore (pc := 1017) (lv' := [(5, .int x3.1), (0, .ref b), (1, .ref (ad 0)), (2, .ref (ad 20)), (3, .ref (ad 30)), (4, .int y4)]) Z dL_law_1017 (by decide) rfl ?_
  refine g_aload_n (pc := 1019) Z 3 dL_law_1019 rfl ?_
  refine g_aload_n (pc := 1020) Z 1 dL_law_1020 rfl ?_
  refine g_iload (pc := 1021) Z 5 dL_law_1021 rfl ?_
  refine g_iconst (pc := 1023) (v := 1) Z dL_law_1023 (by decide) ?_
  refine g_iadd (pc := 1024) Z dL_law_1024 ?_
  obtain ⟨b5, hf⟩ := gGuard hf
  refine g_sld (pc := 1025) Z hX hbl hbA dL_law_1025 (gI_in b5) ?_
  refine g_aload_n (pc := 1026) Z 1 dL_law_1026 rfl ?_
  refine g_iload (pc := 1027) Z 5 dL_law_1027 rfl ?_
  refine g_iconst (pc := 1029) (v := 2) Z dL_law_1029 (by decide) ?_
  refine g_iadd (pc := 1030) Z dL_law_1030 ?_
  obtain ⟨b6, hf⟩ := gGuard hf
  refine g_sld (pc := 1031) Z hX hbl hbA dL_law_1031 (gI_in b6) ?_
  obtain ⟨x7, h8, hf⟩ := Option.bind_eq_some_iff.mp hf
  refine g_calli (pc := 1032) (ws2 := fun u => (wH ad ++ wB ad ++ wL ad ca vL ++ wD ad ca vD ++ wC ad ca vC ++ wM ad ca u ++ wO ad ca x3.2)) (wr := (wH ad ++ wB ad ++ wL ad ca vL ++ wD ad ca vD ++ wC ad ca vC ++ wO ad ca x3.2)) Z [13, 14, 15, 16, 17, 18, 19, 20] [0, 1, 2, 3, 4, 5, 6, 7, 8, 9, 10, 11, 12, 21] [0, 1, 2, 3, 4, 5, 6, 7, 8, 9, 10, 11, 12, 14, 15, 16, 17, 18, 19, 20, 21, 13] (g_runV Z (c_Mod_block l D ad ca N vM (xs (y4 + (1 : Int32)).toNatClampNeg) (xs (y4 + (2 : Int32)).toNatClampNeg) x7 h8) (cwV 2 Z.2.2.2.2.1 (gg_V wl191 wl192 wl193 wl83 wl194) rfl rfl rfl (yv_of rfl yd_Mod_block) ⟨Nat.le_of_ble_eq_true rfl, Nat.le_of_ble_eq_true rfl⟩) [13, 14, 15, 16, 17, 18, 19, 20] rfl (by decide) 0 rfl rfl rfl rfl rfl (Nat.le_of_ble_eq_true rfl) dL_law_1032 ⟨by show _ ≤ 1060; omega, by show _ ≤ 31301; omega⟩) rfl rfl (by decide) (by decide) (by decide) (fun _ => rfl) (fun r u hu => ?_)
  obtain ⟨rfl, rfl⟩ := hu
  refine g_istore (pc := 1035) (lv' := [(6, .int x7.1), (5, .int x3.1), (0, .ref b), (1, .ref (ad 0)), (2, .ref (ad 20)), (3, .ref (ad 30)), (4, .int y4)]) Z dL_law_1035 (by decide) rfl ?_
  refine g_aload_n (pc := 1037) Z 4 dL_law_1037 rfl ?_
  obtain ⟨x9, h10, hf⟩ := Option.bind_eq_some_iff.mp hf
  refine g_calli (pc := 1038) (ws2 := fun u => (wH ad ++ wB ad ++ wL ad ca vL ++ wD ad ca vD ++ wC ad ca vC ++ wM ad ca x7.2 ++ wO ad ca x3.2)) (wr := (wH ad ++ wB ad ++ wL ad ca vL ++ wD ad ca vD ++ wC ad ca vC ++ wO ad ca x3.2)) Z [13, 14, 15, 16, 17, 18, 19, 20] [0, 1, 2, 3, 4, 5, 6, 7, 8, 9, 10, 11, 12, 21] [0, 1, 2, 3, 4, 5, 6, 7, 8, 9, 10, 11, 12, 14, 15, 16, 17, 18, 19, 20, 21, 13] (g_runV Z (c_Mod_thrown l D ad ca x7.2 x9 h10) (cwV 0 Z.2.2.2.2.1 (gg_V wl85 wl86 wl87 wl83 wl88) rfl rfl rfl (yv_of rfl yd_Mod_thrown) ⟨Nat.le_of_ble_eq_true rfl, Nat.le_of_ble_eq_true rfl⟩) [13, 14, 15, 16, 17, 18, 19, 20] rfl (by decide) 0 rfl rfl rfl rfl rfl (Nat.le_of_ble_eq_true rfl) dL_law_1038 ⟨by show _ ≤ 1060; omega, by show _ ≤ 31301; omega⟩) rfl rfl (by decide) (by decide) (by decide) (fun _ => rfl) (fun r u hu => ?_)
  obtain rfl := hu.symm
  refine g_iload (pc := 1041) Z 1 dL_law_1041 rfl ?_
  refine g_icmp_eq (pc := 1043) (tgt := 1048) Z dL_law_1043 (by decide) (fun c11 => ?_) (fun c11 => ?_)
  · replace hf := gIfP c11 hf
    refine g_iload (pc := 1048) Z 1 dL_law_1048 rfl ?_
    refine g_if_ne (pc := 1050) (tgt := 1065) Z dL_law_1050 (by decide) (fun c12 => ?_) (fun c12 => ?_)
    · replace hf := gIfN c12 hf
      refine g_goto (pc := 1065) (tgt := 1180) Z dL_law_1065 (by decide) ?_
      refine g_locals (lv2 := [(0, .ref b), (1, .ref (ad 0)), (2, .ref (ad 20)), (3, .ref (ad 30)), (4, .int y4)]) [2, 3, 4, 5, 6] rfl ?_
      refine g_widen (k := 22 + (k + 1)) (n := 23025 + 6 * (k + 1)) (by omega) (by omega) ?_
      obtain rfl := Option.some.inj hf
      exact hK
    · replace hf := gIfP c12 hf
      refine g_aload_n (pc := 1053) Z 5 dL_law_1053 rfl ?_
      refine g_iconst (pc := 1054) (v := 0) Z dL_law_1054 (by decide) ?_
      obtain ⟨b13, hf⟩ := gGuard hf
      refine g_lald (pc := 1055) (f := x3.2) Z 21 0 dL_law_1055 rfl rfl (gI_in b13) ?_
      refine g_iload (pc := 1056) Z 0 dL_law_1056 rfl ?_
      refine g_i2l (pc := 1058) Z dL_law_1058 ?_
      refine g_lcmp (pc := 1059) Z dL_law_1059 ?_
      refine g_if_eq (pc := 1060) (tgt := 1065) Z dL_law_1060 (by decide) (fun c14 => ?_) (fun c14 => ?_)
      · replace hf := gIfP c14 hf
        refine g_goto (pc := 1065) (tgt := 1180) Z dL_law_1065 (by decide) ?_
        refine g_locals (lv2 := [(0, .ref b), (1, .ref (ad 0)), (2, .ref (ad 20)), (3, .ref (ad 30)), (4, .int y4)]) [2, 3, 4, 5, 6] rfl ?_
        refine g_widen (k := 22 + (k + 1)) (n := 23025 + 6 * (k + 1)) (by omega) (by omega) ?_
        obtain rfl := Option.some.inj hf
        exact hK
      · replace hf := gIfN c14 hf
        refine g_iconst (pc := 1063) (v := 0) Z dL_law_1063 (by decide) ?_
        exact absurd hf (fun h => by cases h)
  · replace hf := gIfN c11 hf
    refine g_iconst (pc := 1046) (v := 0) Z dL_law_1046 (by decide) ?_
    exact absurd hf (fun h => by cases h)
theorem wl195 : Cond.methodLink RL 141 yL_told ∈ gA := wt3 117 rfl rfl
theorem wl196 : Cond.static yL_told ∈ gA := wt3 118 rfl rfl
theorem wl197 : cd_Law_told ∈ gA := wt3 119 rfl rfl
theorem wl198 : Cond.methodLink RL 143 yX5_told ∈ gA := wt4 128 rfl rfl
theorem wl199 : Cond.instanceMethod yX5_told ∈ gA := wt4 129 rfl rfl
theorem wl200 : Cond.selects RX5 yX5_told yX5_told ∈ gA := wt4 130 rfl rfl
theorem wl201 : cd_Mod_told ∈ gA := wt4 131 rfl rfl
def fc_told (N L : Nat) (xs : Nat → Int32) (vL : LT) (vD : DT) (vC : CT) (vM : MT) (vO : (Nat → Int64)) (y4 : Int32) : Option (LT × DT × CT × MT × (Nat → Int64)) :=
  if gI (y4 + (1 : Int32)) L = true then (f_Law_told N vL vD vC vO (xs (y4 + (1 : Int32)).toNatClampNeg)).bind fun x2 => if gI (y4 + (1 : Int32)) L = true then (f_Mod_told N vM (xs (y4 + (1 : Int32)).toNatClampNeg)).bind fun x5 => (f_Mod_thrown x5.2).bind fun x7 => if x7 = x2.1 then if x2.1 = 0 then if gI (0 : Int32) 1 = true then if (lg_cmp (x2.2 (0 : Int32).toNatClampNeg) x5.1.toInt64) = 0 then some (vL, vD, vC, x5.2, x2.2) else none else none else some (vL, vD, vC, x5.2, x2.2) else none else none else none
set_option maxHeartbeats 40000000 in
set_option maxRecDepth 100000 in
theorem w_case_told {p : Program} {l : Launch} {e : Env} {s : State} {m : MethodId} {below : List Frame} {meth : Method} {c : Code} {Q : State → Prop} {D : va_G} {ad : Nat → Nat} {ca : Nat → ClassId} {b L N : Nat} {xs : Nat → Int32} (hl0 : l.stackTraces = false) (Z : gZ p s m #[Value.ref b] meth c code 8 RL (Cond.initialized RL :: gA) (fun q : Nat => s.heap.size ≤ q) D cls (tys ca)) (hT : gT RX4 strsH (fun q : Nat => s.heap.size ≤ q) s) (hX : va_X b L xs s s.heap) (hbl : b < s.heap.size) {vL : LT} {vD : DT} {vC : CT} {vM : MT} {vO : (Nat → Int64)} {y4 : Int32} {k : Nat} {u : LT × DT × CT × MT × (Nat → Int64)} (hk : k ≤ 599) (hf : fc_told N L xs vL vD vC vM vO y4 = some u) (hK : gW p l e room_1 s m #[Value.ref b] below meth c 8 (fun q : Nat => s.heap.size ≤ q) D cls (22 + (k + 1)) (23025 + 6 * (k + 1)) Q (wH ad ++ wB ad ++ wL ad ca u.1 ++ wD ad ca u.2.1 ++ wC ad ca u.2.2.1 ++ wM ad ca u.2.2.2.1 ++ wO ad ca u.2.2.2.2) [(0, .ref b), (1, .ref (ad 0)), (2, .ref (ad 20)), (3, .ref (ad 30)), (4, .int y4)] 1180 []) : gW p l e room_1 s m #[Value.ref b] below meth c 8 (fun q : Nat => s.heap.size ≤ q) D cls (22 + k) (23025 + 6 * k) Q (wH ad ++ wB ad ++ wL ad ca vL ++ wD ad ca vD ++ wC ad ca vC ++ wM ad ca vM ++ wO ad ca vO) [(0, .ref b), (1, .ref (ad 0)), (2, .ref (ad 20)), (3, .ref (ad 30)), (4, .int y4)] 1068 [] := by
  have hbA : ¬ (fun q : Nat => s.heap.size ≤ q) b := Nat.not_le.mpr hbl
  unfold fc_told at hf
  refine g_aload_n (pc := 1068) Z 1 dL_law_1068 rfl ?_
  refine g_aload_n (pc := 1069) Z 0 dL_law_1069 rfl ?_
  refine g_iload (pc := 1070) Z 4 dL_law_1070 rfl ?_
  refine g_iconst (pc := 1072) (v := 1) Z dL_law_1072 (by decide) ?_
  refine g_iadd (pc := 1073) Z dL_law_1073 ?_
  obtain ⟨b1, hf⟩ := gGuard hf
  refine g_sld (pc := 1074) Z hX hbl hbA dL_law_1074 (gI_in b1) ?_
  refine g_aload_n (pc := 1075) Z 3 dL_law_1075 rfl ?_
  obtain ⟨x2, h3, hf⟩ := Option.bind_eq_some_iff.mp hf
  refine g_calli (pc := 1076) (ws2 := fun u => (wH ad ++ wB ad ++ wL ad ca vL ++ wD ad ca vD ++ wC ad ca vC ++ wM ad ca vM ++ wO ad ca u)) (wr := (wM ad ca vM)) Z [0, 1, 2, 3, 4, 5, 6, 7, 8, 9, 10, 11, 12, 21] [13, 14, 15, 16, 17, 18, 19, 20] [8, 9, 10, 11, 12, 13, 14, 15, 16, 17, 18, 19, 20, 0, 1, 2, 3, 4, 5, 6, 7, 21] (g_runSW Z hT (c_Law_told l hl0 D ad ca N vL vD vC vO (xs (y4 + (1 : Int32)).toNatClampNeg) x2 h3) (vx_cwSW 3 Z.2.2.2.2.1 (gg_W wl195 wl196 wl78 wl197) rfl rfl rfl yd_Law_told ⟨(Nat.le_of_ble_eq_true rfl), (Nat.le_of_ble_eq_true rfl)⟩) [0, 1, 2, 3, 4, 5, 6, 7, 8, 9, 10, 11, 12, 21] rfl (by decide) rfl rfl (Nat.le_of_ble_eq_true rfl) dL_law_1076 ⟨by show _ ≤ 1060; omega, by show _ ≤ 31301; omega⟩) rfl rfl (by decide) (by decide) (by decide) (fun _ => rfl) (fun r u hu => ?_)
  obtain ⟨rfl, rfl⟩ := hu
  refine g_istore (pc := 1079) (lv' := [(5, .int x2.1), (0, .ref b), (1, .ref (ad 0)), (2, .ref (ad 20)), (3, .ref (ad 30)), (4, .int y4)]) Z dL_law_1079 (by decide) rfl ?_
  refine g_aload_n (pc := 1081) Z 3 dL_law_1081 rfl ?_
  refine g_aload_n (pc := 1082) Z 1 dL_law_1082 rfl ?_
  refine g_iload (pc := 1083) Z 5 dL_law_1083 rfl ?_
  refine g_iconst (pc := 1085) (v := 1) Z dL_law_1085 (by decide) ?_
  refine g_iadd (pc := 1086) Z dL_law_1086 ?_
  obtain ⟨b4, hf⟩ := gGuard hf
  refine g_sld (pc := 1087) Z hX hbl hbA dL_law_1087 (gI_in b4) ?_
  obtain ⟨x5, h6, hf⟩ := Option.bind_eq_some_iff.mp hf
  refine g_calli (pc := 1088) (ws2 := fun u => (wH ad ++ wB ad ++ wL ad ca vL ++ wD ad ca vD ++ wC ad ca vC ++ wM ad ca u ++ wO ad ca x2.2)) (wr := (wH ad ++ wB ad ++ wL ad ca vL ++ wD ad ca vD ++ wC ad ca vC ++ wO ad ca x2.2)) Z [13, 14, 15, 16, 17, 18, 19, 20] [0, 1, 2, 3, 4, 5, 6, 7, 8, 9, 10, 11, 12, 21] [0, 1, 2, 3, 4, 5, 6, 7, 8, 9, 10, 11, 12, 14, 15, 16, 17, 18, 19, 20, 21, 13] (g_runV Z (c_Mod_told l D ad ca N vM (xs (y4 + (1 : Int32)).toNatClampNeg) x5 h6) (cwV 1 Z.2.2.2.2.1 (gg_V wl198 wl199 wl200 wl83 wl201) rfl rfl rfl (yv_of rfl yd_Mod_told) ⟨Nat.le_of_ble_eq_true rfl, Nat.le_of_ble_eq_true rfl⟩) [13, 14, 15, 16, 17, 18, 19, 20] rfl (by decide) 0 rfl rfl rfl rfl rfl (Nat.le_of_ble_eq_true rfl) dL_law_1088 ⟨by show _ ≤ 1060; omega, by show _ ≤ 31301; omega⟩) rfl rfl (by decide) (by decide) (by decide) (fun _ => rfl) (fun r u hu => ?_)
  obtain ⟨rfl, rfl⟩ := hu
  refine g_istore (pc := 1091) (lv' := [(6, .int x5.1), (5, .int x2.1), (0, .ref b), (1, .ref (ad 0)), (2, .ref (ad 20)), (3, .ref (ad 30)), (4, .int y4)]) Z dL_law_1091 (by decide) rfl ?_
  refine g_aload_n (pc := 1093) Z 4 dL_law_1093 rfl ?_
  obtain ⟨x7, h8, hf⟩ := Option.bind_eq_some_iff.mp hf
  refine g_calli (pc := 1094) (ws2 := fun u => (wH ad ++ wB ad ++ wL ad ca vL ++ wD ad ca vD ++ wC ad ca vC ++ wM ad ca x5.2 ++ wO ad ca x2.2)) (wr := (wH ad ++ wB ad ++ wL ad ca vL ++ wD ad ca vD ++ wC ad ca vC ++ wO ad ca x2.2)) Z [13, 14, 15, 16, 17, 18, 19, 20] [0, 1, 2, 3, 4, 5, 6, 7, 8, 9, 10, 11, 12, 21] [0, 1, 2, 3, 4, 5, 6, 7, 8, 9, 10, 11, 12, 14, 15, 16, 17, 18, 19, 20, 21, 13] (g_runV Z (c_Mod_thrown l D ad ca x5.2 x7 h8) (cwV 0 Z.2.2.2.2.1 (gg_V wl85 wl86 wl87 wl83 wl88) rfl rfl rfl (yv_of rfl yd_Mod_thrown) ⟨Nat.le_of_ble_eq_true rfl, Nat.le_of_ble_eq_true rfl⟩) [13, 14, 15, 16, 17, 18, 19, 20] rfl (by decide) 0 rfl rfl rfl rfl rfl (Nat.le_of_ble_eq_true rfl) dL_law_1094 ⟨by show _ ≤ 1060; omega, by show _ ≤ 31301; omega⟩) rfl rfl (by decide) (by decide) (by decide) (fun _ => rfl) (fun r u hu => ?_)
  obtain rfl := hu.symm
  refine g_iload (pc := 1097) Z 1 dL_law_1097 rfl ?_
  refine g_icmp_eq (pc := 1099) (tgt := 1104) Z dL_law_1099 (by decide) (fun c9 => ?_) (fun c9 => ?_)
  · replace hf := gIfP c9 hf
    refine g_iload (pc := 1104) Z 1 dL_law_1104 rfl ?_
    refine g_if_ne (pc := 1106) (tgt := 1121) Z dL_law_1106 (by decide) (fun c10 => ?_) (fun c10 => ?_)
    · replace hf := gIfN c10 hf
      refine g_goto (pc := 1121) (tgt := 1180) Z dL_law_1121 (by decide) ?_
      refine g_locals (lv2 := [(0, .ref b), (1, .ref (ad 0)), (2, .ref (ad 20)), (3, .ref (ad 30)), (4, .int y4)]) [2, 3, 4, 5, 6] rfl ?_
      refine g_widen (k := 22 + (k + 1)) (n := 23025 + 6 * (k + 1)) (by omega) (by omega) ?_
      obtain rfl := Option.some.inj hf
      exact hK
    · replace hf := gIfP c10 hf
      refine g_aload_n (pc := 1109) Z 5 dL_law_1109 rfl ?_
      refine g_iconst (pc := 1110) (v := 0) Z dL_law_1110 (by decide) ?_
      obtain ⟨b11, hf⟩ := gGuard hf
      refine g_lald (pc := 1111) (f := x2.2) Z 21 0 dL_law_1111 rfl rfl (gI_in b11) ?_
      refine g_iload (pc := 1112) Z 0 dL_law_1112 rfl ?_
      refine g_i2l (pc := 1114) Z dL_law_1114 ?_
      refine g_lcmp (pc := 1115) Z dL_law_1115 ?_
      refine g_if_eq (pc := 1116) (tgt := 1121) Z dL_law_1116 (by decide) (fun c12 => ?_) (fun c12 => ?_)
      · replace hf := gIfP c12 hf
        refine g_goto (pc := 1121) (tgt := 1180) Z dL_law_1121 (by decide) ?_
        refine g_locals (lv2 := [(0, .ref b), (1, .ref (ad 0)), (2, .ref (ad 20)), (3, .ref (ad 30)), (4, .int y4)]) [2, 3, 4, 5, 6] rfl ?_
        refine g_widen (k := 22 + (k + 1)) (n := 23025 + 6 * (k + 1)) (by omega) (by omega) ?_
        obtain rfl := Option.some.inj hf
        exact hK
      · replace hf := gIfN c12 hf
        refine g_iconst (pc := 1119) (v := 0) Z dL_law_1119 (by decide) ?_
        exact absurd hf (fun h => by cases h)
  · replace hf := gIfN c9 hf
    refine g_iconst (pc := 1102) (v := 0) Z dL_law_1102 (by decide) ?_
    exact absurd hf (fun h => by cases h)
theorem wl202 : Cond.methodLink RL 144 yL_count ∈ gA := wt3 139 rfl rfl
theorem wl203 : Cond.static yL_count ∈ gA := wt3 140 rfl rfl
theorem wl204 : cd_Law_count ∈ gA := wt3 141 rfl rfl
theorem wl205 : Cond.methodLink RL 146 yX5_count ∈ gA := wt4 132 rfl rfl
theorem wl206 : Cond.instanceMethod yX5_count ∈ gA := wt4 133 rfl rfl
theorem wl207 : Cond.selects RX5 yX5_count yX5_count ∈ gA := wt4 134 rfl rfl
theorem wl208 : cd_Mod_count ∈ gA := wt4 135 rfl rfl
def fc_count (N L : Nat) (xs : Nat → Int32) (vL : LT) (vD : DT) (vC : CT) (vM : MT) (vO : (Nat → Int64)) (y4 : Int32) : Option (LT × DT × CT × MT × (Nat → Int64)) :=
  if gI (y4 + (1 : Int32)) L = true then (f_Law_count vD vC vO (xs (y4 + (1 : Int32)).toNatClampNeg)).bind fun x2 => if gI (y4 + (1 : Int32)) L = true then (f_Mod_count vM (xs (y4 + (1 : Int32)).toNatClampNeg)).bind fun x5 => (f_Mod_thrown x5.2).bind fun x7 => if x7 = x2.1 then if x2.1 = 0 then if gI (0 : Int32) 1 = true then if (lg_cmp (x2.2 (0 : Int32).toNatClampNeg) x5.1.toInt64) = 0 then some (vL, vD, vC, x5.2, x2.2) else none else none else some (vL, vD, vC, x5.2, x2.2) else none else none else none
set_option maxHeartbeats 40000000 in
set_option maxRecDepth 100000 in
theorem w_case_count {p : Program} {l : Launch} {e : Env} {s : State} {m : MethodId} {below : List Frame} {meth : Method} {c : Code} {Q : State → Prop} {D : va_G} {ad : Nat → Nat} {ca : Nat → ClassId} {b L N : Nat} {xs : Nat → Int32} (hl0 : l.stackTraces = false) (Z : gZ p s m #[Value.ref b] meth c code 8 RL (Cond.initialized RL :: gA) (fun q : Nat => s.heap.size ≤ q) D cls (tys ca)) (hT : gT RX4 strsH (fun q : Nat => s.heap.size ≤ q) s) (hX : va_X b L xs s s.heap) (hbl : b < s.heap.size) {vL : LT} {vD : DT} {vC : CT} {vM : MT} {vO : (Nat → Int64)} {y4 : Int32} {k : Nat} {u : LT × DT × CT × MT × (Nat → Int64)} (hk : k ≤ 599) (hf : fc_count N L xs vL vD vC vM vO y4 = some u) (hK : gW p l e room_1 s m #[Value.ref b] below meth c 8 (fun q : Nat => s.heap.size ≤ q) D cls (22 + (k + 1)) (23025 + 6 * (k + 1)) Q (wH ad ++ wB ad ++ wL ad ca u.1 ++ wD ad ca u.2.1 ++ wC ad ca u.2.2.1 ++ wM ad ca u.2.2.2.1 ++ wO ad ca u.2.2.2.2) [(0, .ref b), (1, .ref (ad 0)), (2, .ref (ad 20)), (3, .ref (ad 30)), (4, .int y4)] 1180 []) : gW p l e room_1 s m #[Value.ref b] below meth c 8 (fun q : Nat => s.heap.size ≤ q) D cls (22 + k) (23025 + 6 * k) Q (wH ad ++ wB ad ++ wL ad ca vL ++ wD ad ca vD ++ wC ad ca vC ++ wM ad ca vM ++ wO ad ca vO) [(0, .ref b), (1, .ref (ad 0)), (2, .ref (ad 20)), (3, .ref (ad 30)), (4, .int y4)] 1124 [] := by
  have hbA : ¬ (fun q : Nat => s.heap.size ≤ q) b := Nat.not_le.mpr hbl
  unfold fc_count at hf
  refine g_aload_n (pc := 1124) Z 1 dL_law_1124 rfl ?_
  refine g_aload_n (pc := 1125) Z 0 dL_law_1125 rfl ?_
  refine g_iload (pc := 1126) Z 4 dL_law_1126 rfl ?_
  refine g_iconst (pc := 1128) (v := 1) Z dL_law_1128 (by decide) ?_
  refine g_iadd (pc := 1129) Z dL_law_1129 ?_
  obtain ⟨b1, hf⟩ := gGuard hf
  refine g_sld (pc := 1130) Z hX hbl hbA dL_law_1130 (gI_in b1) ?_
  refine g_aload_n (pc := 1131) Z 3 dL_law_1131 rfl ?_
  obtain ⟨x2, h3, hf⟩ := Option.bind_eq_some_iff.mp hf
  refine g_calli (pc := 1132) (ws2 := fun u => (wH ad ++ wB ad ++ wL ad ca vL ++ wD ad ca vD ++ wC ad ca vC ++ wM ad ca vM ++ wO ad ca u)) (wr := (wB ad ++ wL ad ca vL ++ wM ad ca vM)) Z [0, 3, 4, 5, 6, 7, 8, 9, 10, 11, 12, 21] [1, 2, 13, 14, 15, 16, 17, 18, 19, 20] [10, 0, 1, 11, 12, 13, 14, 15, 16, 17, 18, 19, 20, 2, 3, 4, 5, 6, 7, 8, 9, 21] (g_runSW Z hT (c_Law_count l hl0 D ad ca vD vC vO (xs (y4 + (1 : Int32)).toNatClampNeg) x2 h3) (vx_cwSW 3 Z.2.2.2.2.1 (gg_W wl202 wl203 wl78 wl204) rfl rfl rfl yd_Law_count ⟨(Nat.le_of_ble_eq_true rfl), (Nat.le_of_ble_eq_true rfl)⟩) [0, 3, 4, 5, 6, 7, 8, 9, 10, 11, 12, 21] rfl (by decide) rfl rfl (Nat.le_of_ble_eq_true rfl) dL_law_1132 ⟨by show _ ≤ 1060; omega, by show _ ≤ 31301; omega⟩) rfl rfl (by decide) (by decide) (by decide) (fun _ => rfl) (fun r u hu => ?_)
  obtain ⟨rfl, rfl⟩ := hu
  refine g_istore (pc := 1135) (lv' := [(5, .int x2.1), (0, .ref b), (1, .ref (ad 0)), (2, .ref (ad 20)), (3, .ref (ad 30)), (4, .int y4)]) Z dL_law_1135 (by decide) rfl ?_
  refine g_aload_n (pc := 1137) Z 3 dL_law_1137 rfl ?_
  refine g_aload_n (pc := 1138) Z 1 dL_law_1138 rfl ?_
  refine g_iload (pc := 1139) Z 5 dL_law_1139 rfl ?_
  refine g_iconst (pc := 1141) (v := 1) Z dL_law_1141 (by decide) ?_
  refine g_iadd (pc := 1142) Z dL_law_1142 ?_
  obtain ⟨b4, hf⟩ := gGuard hf
  refine g_sld (pc := 1143) Z hX hbl hbA dL_law_1143 (gI_in b4) ?_
  obtain ⟨x5, h6, hf⟩ := Option.bind_eq_some_iff.mp hf
  refine g_calli (pc := 1144) (ws2 := fun u => (wH ad ++ wB ad ++ wL ad ca vL ++ wD ad ca vD ++ wC ad ca vC ++ wM ad ca u ++ wO ad ca x2.2)) (wr := (wH ad ++ wB ad ++ wL ad ca vL ++ wD ad ca vD ++ wC ad ca vC ++ wO ad ca x2.2)) Z [13, 14, 15, 16, 17, 18, 19, 20] [0, 1, 2, 3, 4, 5, 6, 7, 8, 9, 10, 11, 12, 21] [0, 1, 2, 3, 4, 5, 6, 7, 8, 9, 10, 11, 12, 14, 15, 16, 17, 18, 19, 20, 21, 13] (g_runV Z (c_Mod_count l D ad ca vM (xs (y4 + (1 : Int32)).toNatClampNeg) x5 h6) (cwV 1 Z.2.2.2.2.1 (gg_V wl205 wl206 wl207 wl83 wl208) rfl rfl rfl (yv_of rfl yd_Mod_count) ⟨Nat.le_of_ble_eq_true rfl, Nat.le_of_ble_eq_true rfl⟩) [13, 14, 15, 16, 17, 18, 19, 20] rfl (by decide) 0 rfl rfl rfl rfl rfl (Nat.le_of_ble_eq_true rfl) dL_law_1144 ⟨by show _ ≤ 1060; omega, by show _ ≤ 31301; omega⟩) rfl rfl (by decide) (by decide) (by decide) (fun _ => rfl) (fun r u hu => ?_)
  obtain ⟨rfl, rfl⟩ := hu
  refine g_istore (pc := 1147) (lv' := [(6, .int x5.1), (5, .int x2.1), (0, .ref b), (1, .ref (ad 0)), (2, .ref (ad 20)), (3, .ref (ad 30)), (4, .int y4)]) Z dL_law_1147 (by decide) rfl ?_
  refine g_aload_n (pc := 1149) Z 4 dL_law_1149 rfl ?_
  obtain ⟨x7, h8, hf⟩ := Option.bind_eq_some_iff.mp hf
  refine g_calli (pc := 1150) (ws2 := fun u => (wH ad ++ wB ad ++ wL ad ca vL ++ wD ad ca vD ++ wC ad ca vC ++ wM ad ca x5.2 ++ wO ad ca x2.2)) (wr := (wH ad ++ wB ad ++ wL ad ca vL ++ wD ad ca vD ++ wC ad ca vC ++ wO ad ca x2.2)) Z [13, 14, 15, 16, 17, 18, 19, 20] [0, 1, 2, 3, 4, 5, 6, 7, 8, 9, 10, 11, 12, 21] [0, 1, 2, 3, 4, 5, 6, 7, 8, 9, 10, 11, 12, 14, 15, 16, 17, 18, 19, 20, 21, 13] (g_runV Z (c_Mod_thrown l D ad ca x5.2 x7 h8) (cwV 0 Z.2.2.2.2.1 (gg_V wl85 wl86 wl87 wl83 wl88) rfl rfl rfl (yv_of rfl yd_Mod_thrown) ⟨Nat.le_of_ble_eq_true rfl, Nat.le_of_ble_eq_true rfl⟩) [13, 14, 15, 16, 17, 18, 19, 20] rfl (by decide) 0 rfl rfl rfl rfl rfl (Nat.le_of_ble_eq_true rfl) dL_law_1150 ⟨by show _ ≤ 1060; omega, by show _ ≤ 31301; omega⟩) rfl rfl (by decide) (by decide) (by decide) (fun _ => rfl) (fun r u hu => ?_)
  obtain rfl := hu.symm
  refine g_iload (pc := 1153) Z 1 dL_law_1153 rfl ?_
  refine g_icmp_eq (pc := 1155) (tgt := 1160) Z dL_law_1155 (by decide) (fun c9 => ?_) (fun c9 => ?_)
  · replace hf := gIfP c9 hf
    refine g_iload (pc := 1160) Z 1 dL_law_1160 rfl ?_
    refine g_if_ne (pc := 1162) (tgt := 1177) Z dL_law_1162 (by decide) (fun c10 => ?_) (fun c10 => ?_)
    · replace hf := gIfN c10 hf
      refine g_goto (pc := 1177) (tgt := 1180) Z dL_law_1177 (by decide) ?_
      refine g_locals (lv2 := [(0, .ref b), (1, .ref (ad 0)), (2, .ref (ad 20)), (3, .ref (ad 30)), (4, .int y4)]) [2, 3, 4, 5, 6] rfl ?_
      refine g_widen (k := 22 + (k + 1)) (n := 23025 + 6 * (k + 1)) (by omega) (by omega) ?_
      obtain rfl := Option.some.inj hf
      exact hK
    · replace hf := gIfP c10 hf
      refine g_aload_n (pc := 1165) Z 5 dL_law_1165 rfl ?_
      refine g_iconst (pc := 1166) (v := 0) Z dL_law_1166 (by decide) ?_
      obtain ⟨b11, hf⟩ := gGuard hf
      refine g_lald (pc := 1167) (f := x2.2) Z 21 0 dL_law_1167 rfl rfl (gI_in b11) ?_
      refine g_iload (pc := 1168) Z 0 dL_law_1168 rfl ?_
      refine g_i2l (pc := 1170) Z dL_law_1170 ?_
      refine g_lcmp (pc := 1171) Z dL_law_1171 ?_
      refine g_if_eq (pc := 1172) (tgt := 1177) Z dL_law_1172 (by decide) (fun c12 => ?_) (fun c12 => ?_)
      · replace hf := gIfP c12 hf
        refine g_goto (pc := 1177) (tgt := 1180) Z dL_law_1177 (by decide) ?_
        refine g_locals (lv2 := [(0, .ref b), (1, .ref (ad 0)), (2, .ref (ad 20)), (3, .ref (ad 30)), (4, .int y4)]) [2, 3, 4, 5, 6] rfl ?_
        refine g_widen (k := 22 + (k + 1)) (n := 23025 + 6 * (k + 1)) (by omega) (by omega) ?_
        obtain rfl := Option.some.inj hf
        exact hK
      · replace hf := gIfN c12 hf
        refine g_iconst (pc := 1175) (v := 0) Z dL_law_1175 (by decide) ?_
        exact absurd hf (fun h => by cases h)
  · replace hf := gIfN c9 hf
    refine g_iconst (pc := 1158) (v := 0) Z dL_law_1158 (by decide) ?_
    exact absurd hf (fun h => by cases h)
