theorem wl76 : Cond.methodLink RL 81 yL_begin ∈ gA := wt1 136 rfl rfl
theorem wl77 : Cond.static yL_begin ∈ gA := wt1 137 rfl rfl
theorem wl78 : Cond.initialized RL ∈ gA := wt1 0 rfl rfl
theorem wl79 : cd_Law_begin ∈ gA := wt1 138 rfl rfl
theorem wl80 : Cond.methodLink RL 86 yX5_begin ∈ gA := wt3 236 rfl rfl
theorem wl81 : Cond.instanceMethod yX5_begin ∈ gA := wt3 237 rfl rfl
theorem wl82 : Cond.selects RX5 yX5_begin yX5_begin ∈ gA := wt3 238 rfl rfl
theorem wl83 : Cond.initialized RX5 ∈ gA := wt1 6 rfl rfl
theorem wl84 : cd_Mod_begin ∈ gA := wt3 239 rfl rfl
theorem wl85 : Cond.methodLink RL 87 yX5_thrown ∈ gA := wt3 232 rfl rfl
theorem wl86 : Cond.instanceMethod yX5_thrown ∈ gA := wt3 233 rfl rfl
theorem wl87 : Cond.selects RX5 yX5_thrown yX5_thrown ∈ gA := wt3 234 rfl rfl
theorem wl88 : cd_Mod_thrown ∈ gA := wt3 235 rfl rfl
def fc_begin (N L : Nat) (xs : Nat → Int32) (vL : LT) (vD : DT) (vC : CT) (vM : MT) (vO : (Nat → Int64)) (y4 : Int32) : Option (LT × DT × CT × MT × (Nat → Int64)) :=
  (f_Law_begin vL vD vC vO).bind fun x1 => (f_Mod_begin N vM).bind fun x3 => (f_Mod_thrown x3.2).bind fun x5 => if x5 = x1.1 then if x1.1 = 0 then if gI (0 : Int32) 1 = true then if (lg_cmp (x1.2.2 (0 : Int32).toNatClampNeg) x3.1.toInt64) = 0 then some (vL, vD, x1.2.1, x3.2, x1.2.2) else none else none else some (vL, vD, x1.2.1, x3.2, x1.2.2) else none
set_option maxHeartbeats 40000000 in
set_option maxRecDepth 100000 in
theorem w_case_begin {p : Program} {l : Launch} {e : Env} {s : State} {m : MethodId} {below : List Frame} {meth : Method} {c : Code} {Q : State → Prop} {D : va_G} {ad : Nat → Nat} {ca : Nat → ClassId} {b L N : Nat} {xs : Nat → Int32} (hl0 : l.stackTraces = false) (Z : gZ p s m #[Value.ref b] meth c code 8 RL (Cond.initialized RL :: gA) (fun q : Nat => s.heap.size ≤ q) D cls (tys ca)) (hT : gT RX4 strsH (fun q : Nat => s.heap.size ≤ q) s) (hX : va_X b L xs s s.heap) (hbl : b < s.heap.size) {vL : LT} {vD : DT} {vC : CT} {vM : MT} {vO : (Nat → Int64)} {y4 : Int32} {k : Nat} {u : LT × DT × CT × MT × (Nat → Int64)} (hk : k ≤ 599) (hf : fc_begin N L xs vL vD vC vM vO y4 = some u) (hK : gW p l e room_1 s m #[Value.ref b] below meth c 8 (fun q : Nat => s.heap.size ≤ q) D cls (22 + (k + 1)) (23025 + 6 * (k + 1)) Q (wH ad ++ wB ad ++ wL ad ca u.1 ++ wD ad ca u.2.1 ++ wC ad ca u.2.2.1 ++ wM ad ca u.2.2.2.1 ++ wO ad ca u.2.2.2.2) [(0, .ref b), (1, .ref (ad 0)), (2, .ref (ad 20)), (3, .ref (ad 30)), (4, .int y4)] 1180 []) : gW p l e room_1 s m #[Value.ref b] below meth c 8 (fun q : Nat => s.heap.size ≤ q) D cls (22 + k) (23025 + 6 * k) Q (wH ad ++ wB ad ++ wL ad ca vL ++ wD ad ca vD ++ wC ad ca vC ++ wM ad ca vM ++ wO ad ca vO) [(0, .ref b), (1, .ref (ad 0)), (2, .ref (ad 20)), (3, .ref (ad 30)), (4, .int y4)] 124 [] := by
  have hbA : ¬ (fun q : Nat => s.heap.size ≤ q) b := Nat.not_le.mpr hbl
  unfold fc_begin at hf
  refine g_aload_n (pc := 124) Z 1 dL_law_124 rfl ?_
  refine g_aload_n (pc := 125) Z 3 dL_law_125 rfl ?_
  obtain ⟨x1, h2, hf⟩ := Option.bind_eq_some_iff.mp hf
  refine g_calli (pc := 126) (ws2 := fun u => (wH ad ++ wB ad ++ wL ad ca vL ++ wD ad ca vD ++ wC ad ca u.1 ++ wM ad ca vM ++ wO ad ca u.2)) (wr := (wB ad ++ wM ad ca vM)) Z [0, 2, 3, 4, 5, 6, 7, 8, 9, 10, 11, 12, 21] [1, 13, 14, 15, 16, 17, 18, 19, 20] [9, 0, 10, 11, 12, 13, 14, 15, 16, 17, 18, 19, 20, 1, 2, 3, 4, 5, 6, 7, 8, 21] (g_runSW Z hT (c_Law_begin l hl0 D ad ca vL vD vC vO x1 h2) (vx_cwSW 2 Z.2.2.2.2.1 (gg_W wl76 wl77 wl78 wl79) rfl rfl rfl yd_Law_begin ⟨(Nat.le_of_ble_eq_true rfl), (Nat.le_of_ble_eq_true rfl)⟩) [0, 2, 3, 4, 5, 6, 7, 8, 9, 10, 11, 12, 21] rfl (by decide) rfl rfl (Nat.le_of_ble_eq_true rfl) dL_law_126 ⟨by show _ ≤ 1060; omega, by show _ ≤ 31301; omega⟩) rfl rfl (by decide) (by decide) (by decide) (fun _ => rfl) (fun r u hu => ?_)
  obtain ⟨rfl, rfl⟩ := hu
  refine g_istore (pc := 129) (lv' := [(5, .int x1.1), (0, .ref b), (1, .ref (ad 0)), (2, .ref (ad 20)), (3, .ref (ad 30)), (4, .int y4)]) Z dL_law_129 (by decide) rfl ?_
  refine g_aload_n (pc := 131) Z 3 dL_law_131 rfl ?_
  obtain ⟨x3, h4, hf⟩ := Option.bind_eq_some_iff.mp hf
  refine g_calli (pc := 132) (ws2 := fun u => (wH ad ++ wB ad ++ wL ad ca vL ++ wD ad ca vD ++ wC ad ca x1.2.1 ++ wM ad ca u ++ wO ad ca x1.2.2)) (wr := (wH ad ++ wB ad ++ wL ad ca vL ++ wD ad ca vD ++ wC ad ca x1.2.1 ++ wO ad ca x1.2.2)) Z [13, 14, 15, 16, 17, 18, 19, 20] [0, 1, 2, 3, 4, 5, 6, 7, 8, 9, 10, 11, 12, 21] [0, 1, 2, 3, 4, 5, 6, 7, 8, 9, 10, 11, 12, 14, 15, 16, 17, 18, 19, 20, 21, 13] (g_runV Z (c_Mod_begin l D ad ca N vM x3 h4) (cwV 0 Z.2.2.2.2.1 (gg_V wl80 wl81 wl82 wl83 wl84) rfl rfl rfl (yv_of rfl yd_Mod_begin) ⟨Nat.le_of_ble_eq_true rfl, Nat.le_of_ble_eq_true rfl⟩) [13, 14, 15, 16, 17, 18, 19, 20] rfl (by decide) 0 rfl rfl rfl rfl rfl (Nat.le_of_ble_eq_true rfl) dL_law_132 ⟨by show _ ≤ 1060; omega, by show _ ≤ 31301; omega⟩) rfl rfl (by decide) (by decide) (by decide) (fun _ => rfl) (fun r u hu => ?_)
  obtain ⟨rfl, rfl⟩ := hu
  refine g_istore (pc := 135) (lv' := [(6, .int x3.1), (5, .int x1.1), (0, .ref b), (1, .ref (ad 0)), (2, .ref (ad 20)), (3, .ref (ad 30)), (4, .int y4)]) Z dL_law_135 (by decide) rfl ?_
  refine g_aload_n (pc := 137) Z 4 dL_law_137 rfl ?_
  obtain ⟨x5, h6, hf⟩ := Option.bind_eq_some_iff.mp hf
  refine g_calli (pc := 138) (ws2 := fun u => (wH ad ++ wB ad ++ wL ad ca vL ++ wD ad ca vD ++ wC ad ca x1.2.1 ++ wM ad ca x3.2 ++ wO ad ca x1.2.2)) (wr := (wH ad ++ wB ad ++ wL ad ca vL ++ wD ad ca vD ++ wC ad ca x1.2.1 ++ wO ad ca x1.2.2)) Z [13, 14, 15, 16, 17, 18, 19, 20] [0, 1, 2, 3, 4, 5, 6, 7, 8, 9, 10, 11, 12, 21] [0, 1, 2, 3, 4, 5, 6, 7, 8, 9, 10, 11, 12, 14, 15, 16, 17, 18, 19, 20, 21, 13] (g_runV Z (c_Mod_thrown l D ad ca x3.2 x5 h6) (cwV 0 Z.2.2.2.2.1 (gg_V wl85 wl86 wl87 wl83 wl88) rfl rfl rfl (yv_of rfl yd_Mod_thrown) ⟨Nat.le_of_ble_eq_true rfl, Nat.le_of_ble_eq_true rfl⟩) [13, 14, 15, 16, 17, 18, 19, 20] rfl (by decide) 0 rfl rfl rfl rfl rfl (Nat.le_of_ble_eq_true rfl) dL_law_138 ⟨by show _ ≤ 1060; omega, by show _ ≤ 31301; omega⟩) rfl rfl (by decide) (by decide) (by decide) (fun _ => rfl) (fun r u hu => ?_)
  obtain rfl := hu.symm
  refine g_iload (pc := 141) Z 1 dL_law_141 rfl ?_
  refine g_icmp_eq (pc := 143) (tgt := 148) Z dL_law_143 (by decide) (fun c7 => ?_) (fun c7 => ?_)
  · replace hf := gIfP c7 hf
    refine g_iload (pc := 148) Z 1 dL_law_148 rfl ?_
    refine g_if_ne (pc := 150) (tgt := 165) Z dL_law_150 (by decide) (fun c8 => ?_) (fun c8 => ?_)
    · replace hf := gIfN c8 hf
      refine g_goto (pc := 165) (tgt := 1180) Z dL_law_165 (by decide) ?_
      refine g_locals (lv2 := [(0, .ref b), (1, .ref (ad 0)), (2, .ref (ad 20)), (3, .ref (ad 30)), (4, .int y4)]) [2, 3, 4, 5, 6] rfl ?_
      refine g_widen (k := 22 + (k + 1)) (n := 23025 + 6 * (k + 1)) (by omega) (by omega) ?_
      obtain rfl := Option.some.inj hf
      exact hK
    · replace hf := gIfP c8 hf
      refine g_aload_n (pc := 153) Z 5 dL_law_153 rfl ?_
      refine g_iconst (pc := 154) (v := 0) Z dL_law_154 (by decide) ?_
      obtain ⟨b9, hf⟩ := gGuard hf
      refine g_lald (pc := 155) (f := x1.2.2) Z 21 0 dL_law_155 rfl rfl (gI_in b9) ?_
      refine g_iload (pc := 156) Z 0 dL_law_156 rfl ?_
      refine g_i2l (pc := 158) Z dL_law_158 ?_
      refine g_lcmp (pc := 159) Z dL_law_159 ?_
      refine g_if_eq (pc := 160) (tgt := 165) Z dL_law_160 (by decide) (fun c10 => ?_) (fun c10 => ?_)
      · replace hf := gIfP c10 hf
        refine g_goto (pc := 165) (tgt := 1180) Z dL_law_165 (by decide) ?_
        refine g_locals (lv2 := [(0, .ref b), (1, .ref (ad 0)), (2, .ref (ad 20)), (3, .ref (ad 30)), (4, .int y4)]) [2, 3, 4, 5, 6] rfl ?_
        refine g_widen (k := 22 + (k + 1)) (n := 23025 + 6 * (k + 1)) (by omega) (by omega) ?_
        obtain rfl := Option.some.inj hf
        exact hK
      · replace hf := gIfN c10 hf
        refine g_iconst (pc := 163) (v := 0) Z dL_law_163 (by decide) ?_
        exact absurd hf (fun h => by cases h)
  · replace hf := gIfN c7 hf
    refine g_iconst (pc := 146) (v := 0) Z dL_law_146 (by decide) ?_
    exact absurd hf (fun h => by cases h)
theorem wl89 : Cond.methodLink RL 90 yL_take ∈ gA := wt1 233 rfl rfl
theorem wl90 : Cond.static yL_take ∈ gA := wt1 234 rfl rfl
theorem wl91 : cd_Law_take ∈ gA := wt1 235 rfl rfl
theorem wl92 : Cond.methodLink RL 93 yX5_take ∈ gA := wt4 4 rfl rfl
theorem wl93 : Cond.instanceMethod yX5_take ∈ gA := wt4 5 rfl rfl
theorem wl94 : Cond.selects RX5 yX5_take yX5_take ∈ gA := wt4 6 rfl rfl
theorem wl95 : cd_Mod_take ∈ gA := wt4 7 rfl rfl
def fc_take (N L : Nat) (xs : Nat → Int32) (vL : LT) (vD : DT) (vC : CT) (vM : MT) (vO : (Nat → Int64)) (y4 : Int32) : Option (LT × DT × CT × MT × (Nat → Int64)) :=
  if gI (y4 + (1 : Int32)) L = true then (f_Law_take N vD vC vO (xs (y4 + (1 : Int32)).toNatClampNeg)).bind fun x2 => if gI (y4 + (1 : Int32)) L = true then (f_Mod_take N vM (xs (y4 + (1 : Int32)).toNatClampNeg)).bind fun x5 => (f_Mod_thrown x5.2).bind fun x7 => if x7 = x2.1 then if x2.1 = 0 then if gI (0 : Int32) 1 = true then if (lg_cmp (x2.2.2 (0 : Int32).toNatClampNeg) x5.1.toInt64) = 0 then some (vL, vD, x2.2.1, x5.2, x2.2.2) else none else none else some (vL, vD, x2.2.1, x5.2, x2.2.2) else none else none else none
set_option maxHeartbeats 40000000 in
set_option maxRecDepth 100000 in
theorem w_case_take {p : Program} {l : Launch} {e : Env} {s : State} {m : MethodId} {below : List Frame} {meth : Method} {c : Code} {Q : State → Prop} {D : va_G} {ad : Nat → Nat} {ca : Nat → ClassId} {b L N : Nat} {xs : Nat → Int32} (hl0 : l.stackTraces = false) (Z : gZ p s m #[Value.ref b] meth c code 8 RL (Cond.initialized RL :: gA) (fun q : Nat => s.heap.size ≤ q) D cls (tys ca)) (hT : gT RX4 strsH (fun q : Nat => s.heap.size ≤ q) s) (hX : va_X b L xs s s.heap) (hbl : b < s.heap.size) {vL : LT} {vD : DT} {vC : CT} {vM : MT} {vO : (Nat → Int64)} {y4 : Int32} {k : Nat} {u : LT × DT × CT × MT × (Nat → Int64)} (hk : k ≤ 599) (hf : fc_take N L xs vL vD vC vM vO y4 = some u) (hK : gW p l e room_1 s m #[Value.ref b] below meth c 8 (fun q : Nat => s.heap.size ≤ q) D cls (22 + (k + 1)) (23025 + 6 * (k + 1)) Q (wH ad ++ wB ad ++ wL ad ca u.1 ++ wD ad ca u.2.1 ++ wC ad ca u.2.2.1 ++ wM ad ca u.2.2.2.1 ++ wO ad ca u.2.2.2.2) [(0, .ref b), (1, .ref (ad 0)), (2, .ref (ad 20)), (3, .ref (ad 30)), (4, .int y4)] 1180 []) : gW p l e room_1 s m #[Value.ref b] below meth c 8 (fun q : Nat => s.heap.size ≤ q) D cls (22 + k) (23025 + 6 * k) Q (wH ad ++ wB ad ++ wL ad ca vL ++ wD ad ca vD ++ wC ad ca vC ++ wM ad ca vM ++ wO ad ca vO) [(0, .ref b), (1, .ref (ad 0)), (2, .ref (ad 20)), (3, .ref (ad 30)), (4, .int y4)] 168 [] := by
  have hbA : ¬ (fun q : Nat => s.heap.size ≤ q) b := Nat.not_le.mpr hbl
  unfold fc_take at hf
  refine g_aload_n (pc := 168) Z 1 dL_law_168 rfl ?_
  refine g_aload_n (pc := 169) Z 0 dL_law_169 rfl ?_
  refine g_iload (pc := 170) Z 4 dL_law_170 rfl ?_
  refine g_iconst (pc := 172) (v := 1) Z dL_law_172 (by decide) ?_
  refine g_iadd (pc := 173) Z dL_law_173 ?_
  obtain ⟨b1, hf⟩ := gGuard hf
  refine g_sld (pc := 174) Z hX hbl hbA dL_law_174 (gI_in b1) ?_
  refine g_aload_n (pc := 175) Z 3 dL_law_175 rfl ?_
  obtain ⟨x2, h3, hf⟩ := Option.bind_eq_some_iff.mp hf
  refine g_calli (pc := 176) (ws2 := fun u => (wH ad ++ wB ad ++ wL ad ca vL ++ wD ad ca vD ++ wC ad ca u.1 ++ wM ad ca vM ++ wO ad ca u.2)) (wr := (wL ad ca vL ++ wM ad ca vM)) Z [0, 1, 3, 4, 5, 6, 7, 8, 9, 10, 11, 12, 21] [2, 13, 14, 15, 16, 17, 18, 19, 20] [9, 10, 0, 11, 12, 13, 14, 15, 16, 17, 18, 19, 20, 1, 2, 3, 4, 5, 6, 7, 8, 21] (g_runSW Z hT (c_Law_take l hl0 D ad ca N vD vC vO (xs (y4 + (1 : Int32)).toNatClampNeg) x2 h3) (vx_cwSW 3 Z.2.2.2.2.1 (gg_W wl89 wl90 wl78 wl91) rfl rfl rfl yd_Law_take ⟨(Nat.le_of_ble_eq_true rfl), (Nat.le_of_ble_eq_true rfl)⟩) [0, 1, 3, 4, 5, 6, 7, 8, 9, 10, 11, 12, 21] rfl (by decide) rfl rfl (Nat.le_of_ble_eq_true rfl) dL_law_176 ⟨by show _ ≤ 1060; omega, by show _ ≤ 31301; omega⟩) rfl rfl (by decide) (by decide) (by decide) (fun _ => rfl) (fun r u hu => ?_)
  obtain ⟨rfl, rfl⟩ := hu
  refine g_istore (pc := 179) (lv' := [(5, .int x2.1), (0, .ref b), (1, .ref (ad 0)), (2, .ref (ad 20)), (3, .ref (ad 30)), (4, .int y4)]) Z dL_law_179 (by decide) rfl ?_
  refine g_aload_n (pc := 181) Z 3 dL_law_181 rfl ?_
  refine g_aload_n (pc := 182) Z 1 dL_law_182 rfl ?_
  refine g_iload (pc := 183) Z 5 dL_law_183 rfl ?_
  refine g_iconst (pc := 185) (v := 1) Z dL_law_185 (by decide) ?_
  refine g_iadd (pc := 186) Z dL_law_186 ?_
  obtain ⟨b4, hf⟩ := gGuard hf
  refine g_sld (pc := 187) Z hX hbl hbA dL_law_187 (gI_in b4) ?_
  obtain ⟨x5, h6, hf⟩ := Option.bind_eq_some_iff.mp hf
  refine g_calli (pc := 188) (ws2 := fun u => (wH ad ++ wB ad ++ wL ad ca vL ++ wD ad ca vD ++ wC ad ca x2.2.1 ++ wM ad ca u ++ wO ad ca x2.2.2)) (wr := (wH ad ++ wB ad ++ wL ad ca vL ++ wD ad ca vD ++ wC ad ca x2.2.1 ++ wO ad ca x2.2.2)) Z [13, 14, 15, 16, 17, 18, 19, 20] [0, 1, 2, 3, 4, 5, 6, 7, 8, 9, 10, 11, 12, 21] [0, 1, 2, 3, 4, 5, 6, 7, 8, 9, 10, 11, 12, 14, 15, 16, 17, 18, 19, 20, 21, 13] (g_runV Z (c_Mod_take l D ad ca N vM (xs (y4 + (1 : Int32)).toNatClampNeg) x5 h6) (cwV 1 Z.2.2.2.2.1 (gg_V wl92 wl93 wl94 wl83 wl95) rfl rfl rfl (yv_of rfl yd_Mod_take) ⟨Nat.le_of_ble_eq_true rfl, Nat.le_of_ble_eq_true rfl⟩) [13, 14, 15, 16, 17, 18, 19, 20] rfl (by decide) 0 rfl rfl rfl rfl rfl (Nat.le_of_ble_eq_true rfl) dL_law_188 ⟨by show _ ≤ 1060; omega, by show _ ≤ 31301; omega⟩) rfl rfl (by decide) (by decide) (by decide) (fun _ => rfl) (fun r u hu => ?_)
  obtain ⟨rfl, rfl⟩ := hu
  refine g_istore (pc := 191) (lv' := [(6, .int x5.1), (5, .int x2.1), (0, .ref b), (1, .ref (ad 0)), (2, .ref (ad 20)), (3, .ref (ad 30)), (4, .int y4)]) Z dL_law_191 (by decide) rfl ?_
  refine g_aload_n (pc := 193) Z 4 dL_law_193 rfl ?_
  obtain ⟨x7, h8, hf⟩ := Option.bind_eq_some_iff.mp hf
  refine g_calli (pc := 194) (ws2 := fun u => (wH ad ++ wB ad ++ wL ad ca vL ++ wD ad ca vD ++ wC ad ca x2.2.1 ++ wM ad ca x5.2 ++ wO ad ca x2.2.2)) (wr := (wH ad ++ wB ad ++ wL ad ca vL ++ wD ad ca vD ++ wC ad ca x2.2.1 ++ wO ad ca x2.2.2)) Z [13, 14, 15, 16, 17, 18, 19, 20] [0, 1, 2, 3, 4, 5, 6, 7, 8, 9, 10, 11, 12, 21] [0, 1, 2, 3, 4, 5, 6, 7, 8, 9, 10, 11, 12, 14, 15, 16, 17, 18, 19, 20, 21, 13] (g_runV Z (c_Mod_thrown l D ad ca x5.2 x7 h8) (cwV 0 Z.2.2.2.2.1 (gg_V wl85 wl86 wl87 wl83 wl88) rfl rfl rfl (yv_of rfl yd_Mod_thrown) ⟨Nat.le_of_ble_eq_true rfl, Nat.le_of_ble_eq_true rfl⟩) [13, 14, 15, 16, 17, 18, 19, 20] rfl (by decide) 0 rfl rfl rfl rfl rfl (Nat.le_of_ble_eq_true rfl) dL_law_194 ⟨by show _ ≤ 1060; omega, by show _ ≤ 31301; omega⟩) rfl rfl (by decide) (by decide) (by decide) (fun _ => rfl) (fun r u hu => ?_)
  obtain rfl := hu.symm
  refine g_iload (pc := 197) Z 1 dL_law_197 rfl ?_
  refine g_icmp_eq (pc := 199) (tgt := 204) Z dL_law_199 (by decide) (fun c9 => ?_) (fun c9 => ?_)
  · replace hf := gIfP c9 hf
    refine g_iload (pc := 204) Z 1 dL_law_204 rfl ?_
    refine g_if_ne (pc := 206) (tgt := 221) Z dL_law_206 (by decide) (fun c10 => ?_) (fun c10 => ?_)
    · replace hf := gIfN c10 hf
      refine g_goto (pc := 221) (tgt := 1180) Z dL_law_221 (by decide) ?_
      refine g_locals (lv2 := [(0, .ref b), (1, .ref (ad 0)), (2, .ref (ad 20)), (3, .ref (ad 30)), (4, .int y4)]) [2, 3, 4, 5, 6] rfl ?_
      refine g_widen (k := 22 + (k + 1)) (n := 23025 + 6 * (k + 1)) (by omega) (by omega) ?_
      obtain rfl := Option.some.inj hf
      exact hK
    · replace hf := gIfP c10 hf
      refine g_aload_n (pc := 209) Z 5 dL_law_209 rfl ?_
      refine g_iconst (pc := 210) (v := 0) Z dL_law_210 (by decide) ?_
      obtain ⟨b11, hf⟩ := gGuard hf
      refine g_lald (pc := 211) (f := x2.2.2) Z 21 0 dL_law_211 rfl rfl (gI_in b11) ?_
      refine g_iload (pc := 212) Z 0 dL_law_212 rfl ?_
      refine g_i2l (pc := 214) Z dL_law_214 ?_
      refine g_lcmp (pc := 215) Z dL_law_215 ?_
      refine g_if_eq (pc := 216) (tgt := 221) Z dL_law_216 (by decide) (fun c12 => ?_) (fun c12 => ?_)
      · replace hf := gIfP c12 hf
        refine g_goto (pc := 221) (tgt := 1180) Z dL_law_221 (by decide) ?_
        refine g_locals (lv2 := [(0, .ref b), (1, .ref (ad 0)), (2, .ref (ad 20)), (3, .ref (ad 30)), (4, .int y4)]) [2, 3, 4, 5, 6] rfl ?_
        refine g_widen (k := 22 + (k + 1)) (n := 23025 + 6 * (k + 1)) (by omega) (by omega) ?_
        obtain rfl := Option.some.inj hf
        exact hK
      · replace hf := gIfN c12 hf
        refine g_iconst (pc := 219) (v := 0) Z dL_law_219 (by decide) ?_
        exact absurd hf (fun h => by cases h)
  · replace hf := gIfN c9 hf
    refine g_iconst (pc := 202) (v := 0) Z dL_law_202 (by decide) ?_
    exact absurd hf (fun h => by cases h)
theorem wl96 : Cond.methodLink RL 94 yL_give ∈ gA := wt2 73 rfl rfl
theorem wl97 : Cond.static yL_give ∈ gA := wt2 74 rfl rfl
theorem wl98 : cd_Law_give ∈ gA := wt2 75 rfl rfl
theorem wl99 : Cond.methodLink RL 96 yX5_give ∈ gA := wt4 33 rfl rfl
theorem wl100 : Cond.instanceMethod yX5_give ∈ gA := wt4 34 rfl rfl
theorem wl101 : Cond.selects RX5 yX5_give yX5_give ∈ gA := wt4 35 rfl rfl
theorem wl102 : cd_Mod_give ∈ gA := wt4 36 rfl rfl
def fc_give (N L : Nat) (xs : Nat → Int32) (vL : LT) (vD : DT) (vC : CT) (vM : MT) (vO : (Nat → Int64)) (y4 : Int32) : Option (LT × DT × CT × MT × (Nat → Int64)) :=
  if gI (y4 + (1 : Int32)) L = true then (f_Law_give N vD vC vO (xs (y4 + (1 : Int32)).toNatClampNeg)).bind fun x2 => if gI (y4 + (1 : Int32)) L = true then (f_Mod_give N vM (xs (y4 + (1 : Int32)).toNatClampNeg)).bind fun x5 => (f_Mod_thrown x5.2).bind fun x7 => if x7 = x2.1 then if x2.1 = 0 then if gI (0 : Int32) 1 = true then if (lg_cmp (x2.2.2 (0 : Int32).toNatClampNeg) x5.1.toInt64) = 0 then some (vL, vD, x2.2.1, x5.2, x2.2.2) else none else none else some (vL, vD, x2.2.1, x5.2, x2.2.2) else none else none else none
set_option maxHeartbeats 40000000 in
set_option maxRecDepth 100000 in
theorem w_case_give {p : Program} {l : Launch} {e : Env} {s : State} {m : MethodId} {below : List Frame} {meth : Method} {c : Code} {Q : State → Prop} {D : va_G} {ad : Nat → Nat} {ca : Nat → ClassId} {b L N : Nat} {xs : Nat → Int32} (hl0 : l.stackTraces = false) (Z : gZ p s m #[Value.ref b] meth c code 8 RL (Cond.initialized RL :: gA) (fun q : Nat => s.heap.size ≤ q) D cls (tys ca)) (hT : gT RX4 strsH (fun q : Nat => s.heap.size ≤ q) s) (hX : va_X b L xs s s.heap) (hbl : b < s.heap.size) {vL : LT} {vD : DT} {vC : CT} {vM : MT} {vO : (Nat → Int64)} {y4 : Int32} {k : Nat} {u : LT × DT × CT × MT × (Nat → Int64)} (hk : k ≤ 599) (hf : fc_give N L xs vL vD vC vM vO y4 = some u) (hK : gW p l e room_1 s m #[Value.ref b] below meth c 8 (fun q : Nat => s.heap.size ≤ q) D cls (22 + (k + 1)) (23025 + 6 * (k + 1)) Q (wH ad ++ wB ad ++ wL ad ca u.1 ++ wD ad ca u.2.1 ++ wC ad ca u.2.2.1 ++ wM ad ca u.2.2.2.1 ++ wO ad ca u.2.2.2.2) [(0, .ref b), (1, .ref (ad 0)), (2, .ref (ad 20)), (3, .ref (ad 30)), (4, .int y4)] 1180 []) : gW p l e room_1 s m #[Value.ref b] below meth c 8 (fun q : Nat => s.heap.size ≤ q) D cls (22 + k) (23025 + 6 * k) Q (wH ad ++ wB ad ++ wL ad ca vL ++ wD ad ca vD ++ wC ad ca vC ++ wM ad ca vM ++ wO ad ca vO) [(0, .ref b), (1, .ref (ad 0)), (2, .ref (ad 20)), (3, .ref (ad 30)), (4, .int y4)] 224 [] := by
  have hbA : ¬ (fun q : Nat => s.heap.size ≤ q) b := Nat.not_le.mpr hbl
  unfold fc_give at hf
  refine g_aload_n (pc := 224) Z 1 dL_law_224 rfl ?_
  refine g_aload_n (pc := 225) Z 0 dL_law_225 rfl ?_
  refine g_iload (pc := 226) Z 4 dL_law_226 rfl ?_
  refine g_iconst (pc := 228) (v := 1) Z dL_law_228 (by decide) ?_
  refine g_iadd (pc := 229) Z dL_law_229 ?_
  obtain ⟨b1, hf⟩ := gGuard hf
  refine g_sld (pc := 230) Z hX hbl hbA dL_law_230 (gI_in b1) ?_
  refine g_aload_n (pc := 231) Z 3 dL_law_231 rfl ?_
  obtain ⟨x2, h3, hf⟩ := Option.bind_eq_some_iff.mp hf
  refine g_calli (pc := 232) (ws2 := fun u => (wH ad ++ wB ad ++ wL ad ca vL ++ wD ad ca vD ++ wC ad ca u.1 ++ wM ad ca vM ++ wO ad ca u.2)) (wr := (wL ad ca vL ++ wM ad ca vM)) Z [0, 1, 3, 4, 5, 6, 7, 8, 9, 10, 11, 12, 21] [2, 13, 14, 15, 16, 17, 18, 19, 20] [9, 10, 0, 11, 12, 13, 14, 15, 16, 17, 18, 19, 20, 1, 2, 3, 4, 5, 6, 7, 8, 21] (g_runSW Z hT (c_Law_give l hl0 D ad ca N vD vC vO (xs (y4 + (1 : Int32)).toNatClampNeg) x2 h3) (vx_cwSW 3 Z.2.2.2.2.1 (gg_W wl96 wl97 wl78 wl98) rfl rfl rfl yd_Law_give ⟨(Nat.le_of_ble_eq_true rfl), (Nat.le_of_ble_eq_true rfl)⟩) [0, 1, 3, 4, 5, 6, 7, 8, 9, 10, 11, 12, 21] rfl (by decide) rfl rfl (Nat.le_of_ble_eq_true rfl) dL_law_232 ⟨by show _ ≤ 1060; omega, by show _ ≤ 31301; omega⟩) rfl rfl (by decide) (by decide) (by decide) (fun _ => rfl) (fun r u hu => ?_)
  obtain ⟨rfl, rfl⟩ := hu
  refine g_istore (pc := 235) (lv' := [(5, .int x2.1), (0, .ref b), (1, .ref (ad 0)), (2, .ref (ad 20)), (3, .ref (ad 30)), (4, .int y4)]) Z dL_law_235 (by decide) rfl ?_
  refine g_aload_n (pc := 237) Z 3 dL_law_237 rfl ?_
  refine g_aload_n (pc := 238) Z 1 dL_law_238 rfl ?_
  refine g_iload (pc := 239) Z 5 dL_law_239 rfl ?_
  refine g_iconst (pc := 241) (v := 1) Z dL_law_241 (by decide) ?_
  refine g_iadd (pc := 242) Z dL_law_242 ?_
  obtain ⟨b4, hf⟩ := gGuard hf
  refine g_sld (pc := 243) Z hX hbl hbA dL_law_243 (gI_in b4) ?_
  obtain ⟨x5, h6, hf⟩ := Option.bind_eq_some_iff.mp hf
  refine g_calli (pc := 244) (ws2 := fun u => (wH ad ++ wB ad ++ wL ad ca vL ++ wD ad ca vD ++ wC ad ca x2.2.1 ++ wM ad ca u ++ wO ad ca x2.2.2)) (wr := (wH ad ++ wB ad ++ wL ad ca vL ++ wD ad ca vD ++ wC ad ca x2.2.1 ++ wO ad ca x2.2.2)) Z [13, 14, 15, 16, 17, 18, 19, 20] [0, 1, 2, 3, 4, 5, 6, 7, 8, 9, 10, 11, 12, 21] [0, 1, 2, 3, 4, 5, 6, 7, 8, 9, 10, 11, 12, 14, 15, 16, 17, 18, 19, 20, 21, 13] (g_runV Z (c_Mod_give l D ad ca N vM (xs (y4 + (1 : Int32)).toNatClampNeg) x5 h6) (cwV 1 Z.2.2.2.2.1 (gg_V wl99 wl100 wl101 wl83 wl102) rfl rfl rfl (yv_of rfl yd_Mod_give) ⟨Nat.le_of_ble_eq_true rfl, Nat.le_of_ble_eq_true rfl⟩) [13, 14, 15, 16, 17, 18, 19, 20] rfl (by decide) 0 rfl rfl rfl rfl rfl (Nat.le_of_ble_eq_true rfl) dL_law_244 ⟨by show _ ≤ 1060; omega, by show _ ≤ 31301; omega⟩) rfl rfl (by decide) (by decide) (by decide) (fun _ => rfl) (fun r u hu => ?_)
  obtain ⟨rfl, rfl⟩ := hu
  refine g_istore (pc := 247) (lv' := [(6, .int x5.1), (5, .int x2.1), (0, .ref b), (1, .ref (ad 0)), (2, .ref (ad 20)), (3, .ref (ad 30)), (4, .int y4)]) Z dL_law_247 (by decide) rfl ?_
  refine g_aload_n (pc := 249) Z 4 dL_law_249 rfl ?_
  obtain ⟨x7, h8, hf⟩ := Option.bind_eq_some_iff.mp hf
  refine g_calli (pc := 250) (ws2 := fun u => (wH ad ++ wB ad ++ wL ad ca vL ++ wD ad ca vD ++ wC ad ca x2.2.1 ++ wM ad ca x5.2 ++ wO ad ca x2.2.2)) (wr := (wH ad ++ wB ad ++ wL ad ca vL ++ wD ad ca vD ++ wC ad ca x2.2.1 ++ wO ad ca x2.2.2)) Z [13, 14, 15, 16, 17, 18, 19, 20] [0, 1, 2, 3, 4, 5, 6, 7, 8, 9, 10, 11, 12, 21] [0, 1, 2, 3, 4, 5, 6, 7, 8, 9, 10, 11, 12, 14, 15, 16, 17, 18, 19, 20, 21, 13] (g_runV Z (c_Mod_thrown l D ad ca x5.2 x7 h8) (cwV 0 Z.2.2.2.2.1 (gg_V wl85 wl86 wl87 wl83 wl88) rfl rfl rfl (yv_of rfl yd_Mod_thrown) ⟨Nat.le_of_ble_eq_true rfl, Nat.le_of_ble_eq_true rfl⟩) [13, 14, 15, 16, 17, 18, 19, 20] rfl (by decide) 0 rfl rfl rfl rfl rfl (Nat.le_of_ble_eq_true rfl) dL_law_250 ⟨by show _ ≤ 1060; omega, by show _ ≤ 31301; omega⟩) rfl rfl (by decide) (by decide) (by decide) (fun _ => rfl) (fun r u hu => ?_)
  obtain rfl := hu.symm
  refine g_iload (pc := 253) Z 1 dL_law_253 rfl ?_
  refine g_icmp_eq (pc := 255) (tgt := 260) Z dL_law_255 (by decide) (fun c9 => ?_) (fun c9 => ?_)
  · replace hf := gIfP c9 hf
    refine g_iload (pc := 260) Z 1 dL_law_260 rfl ?_
    refine g_if_ne (pc := 262) (tgt := 277) Z dL_law_262 (by decide) (fun c10 => ?_) (fun c10 => ?_)
    · replace hf := gIfN c10 hf
      refine g_goto (pc := 277) (tgt := 1180) Z dL_law_277 (by decide) ?_
      refine g_locals (lv2 := [(0, .ref b), (1, .ref (ad 0)), (2, .ref (ad 20)), (3, .ref (ad 30)), (4, .int y4)]) [2, 3, 4, 5, 6] rfl ?_
      refine g_widen (k := 22 + (k + 1)) (n := 23025 + 6 * (k + 1)) (by omega) (by omega) ?_
      obtain rfl := Option.some.inj hf
      exact hK
    · replace hf := gIfP c10 hf
      refine g_aload_n (pc := 265) Z 5 dL_law_265 rfl ?_
      refine g_iconst (pc := 266) (v := 0) Z dL_law_266 (by decide) ?_
      obtain ⟨b11, hf⟩ := gGuard hf
      refine g_lald (pc := 267) (f := x2.2.2) Z 21 0 dL_law_267 rfl rfl (gI_in b11) ?_
      refine g_iload (pc := 268) Z 0 dL_law_268 rfl ?_
      refine g_i2l (pc := 270) Z dL_law_270 ?_
      refine g_lcmp (pc := 271) Z dL_law_271 ?_
      refine g_if_eq (pc := 272) (tgt := 277) Z dL_law_272 (by decide) (fun c12 => ?_) (fun c12 => ?_)
      · replace hf := gIfP c12 hf
        refine g_goto (pc := 277) (tgt := 1180) Z dL_law_277 (by decide) ?_
        refine g_locals (lv2 := [(0, .ref b), (1, .ref (ad 0)), (2, .ref (ad 20)), (3, .ref (ad 30)), (4, .int y4)]) [2, 3, 4, 5, 6] rfl ?_
        refine g_widen (k := 22 + (k + 1)) (n := 23025 + 6 * (k + 1)) (by omega) (by omega) ?_
        obtain rfl := Option.some.inj hf
        exact hK
      · replace hf := gIfN c12 hf
        refine g_iconst (pc := 275) (v := 0) Z dL_law_275 (by decide) ?_
        exact absurd hf (fun h => by cases h)
  · replace hf := gIfN c9 hf
    refine g_iconst (pc := 258) (v := 0) Z dL_law_258 (by decide) ?_
    exact absurd hf (fun h => by cases h)
theorem wl103 : Jvm.Cond.constantLong RL 97 (4294967295) ∈ gA := wt4 136 rfl rfl
theorem wl104 : Cond.methodLink RL 99 yL_set ∈ gA := wt2 97 rfl rfl
theorem wl105 : Cond.static yL_set ∈ gA := wt2 98 rfl rfl
theorem wl106 : cd_Law_set ∈ gA := wt2 99 rfl rfl
theorem wl107 : Cond.methodLink RL 102 yX5_set ∈ gA := wt4 45 rfl rfl
theorem wl108 : Cond.instanceMethod yX5_set ∈ gA := wt4 46 rfl rfl
theorem wl109 : Cond.selects RX5 yX5_set yX5_set ∈ gA := wt4 47 rfl rfl
theorem wl110 : cd_Mod_set ∈ gA := wt4 48 rfl rfl
def fc_set (N L : Nat) (xs : Nat → Int32) (vL : LT) (vD : DT) (vC : CT) (vM : MT) (vO : (Nat → Int64)) (y4 : Int32) : Option (LT × DT × CT × MT × (Nat → Int64)) :=
  if gI (y4 + (1 : Int32)) L = true then if gI (y4 + (2 : Int32)) L = true then if gI (y4 + (3 : Int32)) L = true then if gI (y4 + (4 : Int32)) L = true then (f_Law_set N vD vC vO (xs (y4 + (1 : Int32)).toNatClampNeg) (xs (y4 + (2 : Int32)).toNatClampNeg) ((((xs (y4 + (3 : Int32)).toNatClampNeg).toInt64) <<< ((32 : Int32).toInt64 &&& 63)) ||| (((xs (y4 + (4 : Int32)).toNatClampNeg).toInt64) &&& (4294967295 : Int64)))).bind fun x5 => if gI (y4 + (1 : Int32)) L = true then if gI (y4 + (2 : Int32)) L = true then if gI (y4 + (3 : Int32)) L = true then if gI (y4 + (4 : Int32)) L = true then (f_Mod_set N vM (xs (y4 + (1 : Int32)).toNatClampNeg) (xs (y4 + (2 : Int32)).toNatClampNeg) ((((xs (y4 + (3 : Int32)).toNatClampNeg).toInt64) <<< ((32 : Int32).toInt64 &&& 63)) ||| (((xs (y4 + (4 : Int32)).toNatClampNeg).toInt64) &&& (4294967295 : Int64)))).bind fun x11 => (f_Mod_thrown x11.2).bind fun x13 => if x13 = x5.1 then if x5.1 = 0 then if gI (0 : Int32) 1 = true then if x11.1 = true then if (lg_cmp (x5.2.2 (0 : Int32).toNatClampNeg) (1 : Int64)) = 0 then some (vL, vD, x5.2.1, x11.2, x5.2.2) else none else if (lg_cmp (x5.2.2 (0 : Int32).toNatClampNeg) (0 : Int64)) = 0 then some (vL, vD, x5.2.1, x11.2, x5.2.2) else none else none else some (vL, vD, x5.2.1, x11.2, x5.2.2) else none else none else none else none else none else none else none else none else none
set_option maxHeartbeats 40000000 in
set_option maxRecDepth 100000 in
theorem w_case_set {p : Program} {l : Launch} {e : Env} {s : State} {m : MethodId} {below : List Frame} {meth : Method} {c : Code} {Q : State → Prop} {D : va_G} {ad : Nat → Nat} {ca : Nat → ClassId} {b L N : Nat} {xs : Nat → Int32} (hl0 : l.stackTraces = false) (Z : gZ p s m #[Value.ref b] meth c code 8 RL (Cond.initialized RL :: gA) (fun q : Nat => s.heap.size ≤ q) D cls (tys ca)) (hT : gT RX4 strsH (fun q : Nat => s.heap.size ≤ q) s) (hX : va_X b L xs s s.heap) (hbl : b < s.heap.size) {vL : LT} {vD : DT} {vC : CT} {vM : MT} {vO : (Nat → Int64)} {y4 : Int32} {k : Nat} {u : LT × DT × CT × MT × (Nat → Int64)} (hk : k ≤ 599) (hf : fc_set N L xs vL vD vC vM vO y4 = some u) (hK : gW p l e room_1 s m #[Value.ref b] below meth c 8 (fun q : Nat => s.heap.size ≤ q) D cls (22 + (k + 1)) (23025 + 6 * (k + 1)) Q (wH ad ++ wB ad ++ wL ad ca u.1 ++ wD ad ca u.2.1 ++ wC ad ca u.2.2.1 ++ wM ad ca u.2.2.2.1 ++ wO ad ca u.2.2.2.2) [(0, .ref b), (1, .ref (ad 0)), (2, .ref (ad 20)), (3, .ref (ad 30)), (4, .int y4)] 1180 []) : gW p l e room_1 s m #[Value.ref b] below meth c 8 (fun q : Nat => s.heap.size ≤ q) D cls (22 + k) (23025 + 6 * k) Q (wH ad ++ wB ad ++ wL ad ca vL ++ wD ad ca vD ++ wC ad ca vC ++ wM ad ca vM ++ wO ad ca vO) [(0, .ref b), (1, .ref (ad 0)), (2, .ref (ad 20)), (3, .ref (ad 30)), (4, .int y4)] 280 [] := by
  have hbA : ¬ (fun q : Nat => s.heap.size ≤ q) b := Nat.not_le.mpr hbl
  unfold fc_set at hf
  refine g_aload_n (pc := 280) Z 1 dL_law_280 rfl ?_
  refine g_aload_n (pc := 281) Z 0 dL_law_281 rfl ?_
  refine g_iload (pc := 282) Z 4 dL_law_282 rfl ?_
  refine g_iconst (pc := 284) (v := 1) Z dL_law_284 (by decide) ?_
  refine g_iadd (pc := 285) Z dL_law_285 ?_
  obtain ⟨b1, hf⟩ := gGuard hf
  refine g_sld (pc := 286) Z hX hbl hbA dL_law_286 (gI_in b1) ?_
  refine g_aload_n (pc := 287) Z 0 dL_law_287 rfl ?_
  refine g_iload (pc := 288) Z 4 dL_law_288 rfl ?_
  refine g_iconst (pc := 290) (v := 2) Z dL_law_290 (by decide) ?_
  refine g_iadd (pc := 291) Z dL_law_291 ?_
  obtain ⟨b2, hf⟩ := gGuard hf
  refine g_sld (pc := 292) Z hX hbl hbA dL_law_292 (gI_in b2) ?_
  refine g_aload_n (pc := 293) Z 0 dL_law_293 rfl ?_
  refine g_iload (pc := 294) Z 4 dL_law_294 rfl ?_
  refine g_iconst (pc := 296) (v := 3) Z dL_law_296 (by decide) ?_
  refine g_iadd (pc := 297) Z dL_law_297 ?_
  obtain ⟨b3, hf⟩ := gGuard hf
  refine g_sld (pc := 298) Z hX hbl hbA dL_law_298 (gI_in b3) ?_
  refine g_i2l (pc := 299) Z dL_law_299 ?_
  refine g_bipush (pc := 300) (v := 32) Z dL_law_300 (by decide) ?_
  refine g_lshl (pc := 302) Z dL_law_302 ?_
  refine g_aload_n (pc := 303) Z 0 dL_law_303 rfl ?_
  refine g_iload (pc := 304) Z 4 dL_law_304 rfl ?_
  refine g_iconst (pc := 306) (v := 4) Z dL_law_306 (by decide) ?_
  refine g_iadd (pc := 307) Z dL_law_307 ?_
  obtain ⟨b4, hf⟩ := gGuard hf
  refine g_sld (pc := 308) Z hX hbl hbA dL_law_308 (gI_in b4) ?_
  refine g_i2l (pc := 309) Z dL_law_309 ?_
  refine g_ldc2 (pc := 310) (v := 4294967295) Z dL_law_310 (mm wl103) ?_
  refine g_land (pc := 313) Z dL_law_313 ?_
  refine g_lor (pc := 314) Z dL_law_314 ?_
  refine g_aload_n (pc := 315) Z 3 dL_law_315 rfl ?_
  obtain ⟨x5, h6, hf⟩ := Option.bind_eq_some_iff.mp hf
  refine g_calli (pc := 316) (ws2 := fun u => (wH ad ++ wB ad ++ wL ad ca vL ++ wD ad ca vD ++ wC ad ca u.1 ++ wM ad ca vM ++ wO ad ca u.2)) (wr := (wL ad ca vL ++ wM ad ca vM)) Z [0, 1, 3, 4, 5, 6, 7, 8, 9, 10, 11, 12, 21] [2, 13, 14, 15, 16, 17, 18, 19, 20] [9, 10, 0, 11, 12, 13, 14, 15, 16, 17, 18, 19, 20, 1, 2, 3, 4, 5, 6, 7, 8, 21] (g_runSW Z hT (c_Law_set l hl0 D ad ca N vD vC vO (xs (y4 + (1 : Int32)).toNatClampNeg) (xs (y4 + (2 : Int32)).toNatClampNeg) ((((xs (y4 + (3 : Int32)).toNatClampNeg).toInt64) <<< ((32 : Int32).toInt64 &&& 63)) ||| (((xs (y4 + (4 : Int32)).toNatClampNeg).toInt64) &&& (4294967295 : Int64))) x5 h6) (vx_cwSW 5 Z.2.2.2.2.1 (gg_W wl104 wl105 wl78 wl106) rfl rfl rfl yd_Law_set ⟨(Nat.le_of_ble_eq_true rfl), (Nat.le_of_ble_eq_true rfl)⟩) [0, 1, 3, 4, 5, 6, 7, 8, 9, 10, 11, 12, 21] rfl (by decide) rfl rfl (Nat.le_of_ble_eq_true rfl) dL_law_316 ⟨by show _ ≤ 1060; omega, by show _ ≤ 31301; omega⟩) rfl rfl (by decide) (by decide) (by decide) (fun _ => rfl) (fun r u hu => ?_)
  obtain ⟨rfl, rfl⟩ := hu
  refine g_istore (pc := 319) (lv' := [(5, .int x5.1), (0, .ref b), (1, .ref (ad 0)), (2, .ref (ad 20)), (3, .ref (ad 30)), (4, .int y4)]) Z dL_law_319 (by decide) rfl ?_
  refine g_aload_n (pc := 321) Z 3 dL_law_321 rfl ?_
  refine g_aload_n (pc := 322) Z 1 dL_law_322 rfl ?_
  refine g_iload (pc := 323) Z 5 dL_law_323 rfl ?_
  refine g_iconst (pc := 325) (v := 1) Z dL_law_325 (by decide) ?_
  refine g_iadd (pc := 326) Z dL_law_326 ?_
  obtain ⟨b7, hf⟩ := gGuard hf
  refine g_sld (pc := 327) Z hX hbl hbA dL_law_327 (gI_in b7) ?_
  refine g_aload_n (pc := 328) Z 1 dL_law_328 rfl ?_
  refine g_iload (pc := 329) Z 5 dL_law_329 rfl ?_
  refine g_iconst (pc := 331) (v := 2) Z dL_law_331 (by decide) ?_
  refine g_iadd (pc := 332) Z dL_law_332 ?_
  obtain ⟨b8, hf⟩ := gGuard hf
  refine g_sld (pc := 333) Z hX hbl hbA dL_law_333 (gI_in b8) ?_
  refine g_aload_n (pc := 334) Z 1 dL_law_334 rfl ?_
  refine g_iload (pc := 335) Z 5 dL_law_335 rfl ?_
  refine g_iconst (pc := 337) (v := 3) Z dL_law_337 (by decide) ?_
  refine g_iadd (pc := 338) Z dL_law_338 ?_
  obtain ⟨b9, hf⟩ := gGuard hf
  refine g_sld (pc := 339) Z hX hbl hbA dL_law_339 (gI_in b9) ?_
  refine g_i2l (pc := 340) Z dL_law_340 ?_
  refine g_bipush (pc := 341) (v := 32) Z dL_law_341 (by decide) ?_
  refine g_lshl (pc := 343) Z dL_law_343 ?_
  refine g_aload_n (pc := 344) Z 1 dL_law_344 rfl ?_
  refine g_iload (pc := 345) Z 5 dL_law_345 rfl ?_
  refine g_iconst (pc := 347) (v := 4) Z dL_law_347 (by decide) ?_
  refine g_iadd (pc := 348) Z dL_law_348 ?_
  obtain ⟨b10, hf⟩ := gGuard hf
  refine g_sld (pc := 349) Z hX hbl hbA dL_law_349 (gI_in b10) ?_
  refine g_i2l (pc := 350) Z dL_law_350 ?_
  refine g_ldc2 (pc := 351) (v := 4294967295) Z dL_law_351 (mm wl103) ?_
  refine g_land (pc := 354) Z dL_law_354 ?_
  refine g_lor (pc := 355) Z dL_law_355 ?_
  obtain ⟨x11, h12, hf⟩ := Option.bind_eq_some_iff.mp hf
  refine g_calli (pc := 356) (ws2 := fun u => (wH ad ++ wB ad ++ wL ad ca vL ++ wD ad ca vD ++ wC ad ca x5.2.1 ++ wM ad ca u ++ wO ad ca x5.2.2)) (wr := (wH ad ++ wB ad ++ wL ad ca vL ++ wD ad ca vD ++ wC ad ca x5.2.1 ++ wO ad ca x5.2.2)) Z [13, 14, 15, 16, 17, 18, 19, 20] [0, 1, 2, 3, 4, 5, 6, 7, 8, 9, 10, 11, 12, 21] [0, 1, 2, 3, 4, 5, 6, 7, 8, 9, 10, 11, 12, 14, 15, 16, 17, 18, 19, 20, 21, 13] (g_runV Z (c_Mod_set l D ad ca N vM (xs (y4 + (1 : Int32)).toNatClampNeg) (xs (y4 + (2 : Int32)).toNatClampNeg) ((((xs (y4 + (3 : Int32)).toNatClampNeg).toInt64) <<< ((32 : Int32).toInt64 &&& 63)) ||| (((xs (y4 + (4 : Int32)).toNatClampNeg).toInt64) &&& (4294967295 : Int64))) x11 h12) (cwV 3 Z.2.2.2.2.1 (gg_V wl107 wl108 wl109 wl83 wl110) rfl rfl rfl (yv_of rfl yd_Mod_set) ⟨Nat.le_of_ble_eq_true rfl, Nat.le_of_ble_eq_true rfl⟩) [13, 14, 15, 16, 17, 18, 19, 20] rfl (by decide) 0 rfl rfl rfl rfl rfl (Nat.le_of_ble_eq_true rfl) dL_law_356 ⟨by show _ ≤ 1060; omega, by show _ ≤ 31301; omega⟩) rfl rfl (by decide) (by decide) (by decide) (fun _ => rfl) (fun r u hu => ?_)
  obtain ⟨rfl, rfl⟩ := hu
  refine g_istore (pc := 359) (lv' := [(6, .int (bI x11.1)), (5, .int x5.1), (0, .ref b), (1, .ref (ad 0)), (2, .ref (ad 20)), (3, .ref (ad 30)), (4, .int y4)]) Z dL_law_359 (by decide) rfl ?_
  refine g_aload_n (pc := 361) Z 4 dL_law_361 rfl ?_
  obtain ⟨x13, h14, hf⟩ := Option.bind_eq_some_iff.mp hf
  refine g_calli (pc := 362) (ws2 := fun u => (wH ad ++ wB ad ++ wL ad ca vL ++ wD ad ca vD ++ wC ad ca x5.2.1 ++ wM ad ca x11.2 ++ wO ad ca x5.2.2)) (wr := (wH ad ++ wB ad ++ wL ad ca vL ++ wD ad ca vD ++ wC ad ca x5.2.1 ++ wO ad ca x5.2.2)) Z [13, 14, 15, 16, 17, 18, 19, 20] [0, 1, 2, 3, 4, 5, 6, 7, 8, 9, 10, 11, 12, 21] [0, 1, 2, 3, 4, 5, 6, 7, 8, 9, 10, 11, 12, 14, 15, 16, 17, 18, 19, 20, 21, 13] (g_runV Z (c_Mod_thrown l D ad ca x11.2 x13 h14) (cwV 0 Z.2.2.2.2.1 (gg_V wl85 wl86 wl87 wl83 wl88) rfl rfl rfl (yv_of rfl yd_Mod_thrown) ⟨Nat.le_of_ble_eq_true rfl, Nat.le_of_ble_eq_true rfl⟩) [13, 14, 15, 16, 17, 18, 19, 20] rfl (by decide) 0 rfl rfl rfl rfl rfl (Nat.le_of_ble_eq_true rfl) dL_law_362 ⟨by show _ ≤ 1060; omega, by show _ ≤ 31301; omega⟩) rfl rfl (by decide) (by decide) (by decide) (fun _ => rfl) (fun r u hu => ?_)
  obtain rfl := hu.symm
  refine g_iload (pc := 365) Z 1 dL_law_365 rfl ?_
  refine g_icmp_eq (pc := 367) (tgt := 372) Z dL_law_367 (by decide) (fun c15 => ?_) (fun c15 => ?_)
  · replace hf := gIfP c15 hf
    refine g_iload (pc := 372) Z 1 dL_law_372 rfl ?_
    refine g_if_ne (pc := 374) (tgt := 396) Z dL_law_374 (by decide) (fun c16 => ?_) (fun c16 => ?_)
    · replace hf := gIfN c16 hf
      refine g_goto (pc := 396) (tgt := 1180) Z dL_law_396 (by decide) ?_
      refine g_locals (lv2 := [(0, .ref b), (1, .ref (ad 0)), (2, .ref (ad 20)), (3, .ref (ad 30)), (4, .int y4)]) [2, 3, 4, 5, 6] rfl ?_
      refine g_widen (k := 22 + (k + 1)) (n := 23025 + 6 * (k + 1)) (by omega) (by omega) ?_
      obtain rfl := Option.some.inj hf
      exact hK
    · replace hf := gIfP c16 hf
      refine g_aload_n (pc := 377) Z 5 dL_law_377 rfl ?_
      refine g_iconst (pc := 378) (v := 0) Z dL_law_378 (by decide) ?_
      obtain ⟨b17, hf⟩ := gGuard hf
      refine g_lald (pc := 379) (f := x5.2.2) Z 21 0 dL_law_379 rfl rfl (gI_in b17) ?_
      refine g_iload (pc := 380) Z 0 dL_law_380 rfl ?_
      refine g_if_eq (pc := 382) (tgt := 389) Z dL_law_382 (by decide) (fun c18 => ?_) (fun c18 => ?_)
      · replace hf := gIfN (bI_z c18) hf
        refine g_lconst (pc := 389) (v := 0) Z dL_law_389 (by decide) ?_
        refine g_lcmp (pc := 390) Z dL_law_390 ?_
        refine g_if_eq (pc := 391) (tgt := 396) Z dL_law_391 (by decide) (fun c19 => ?_) (fun c19 => ?_)
        · replace hf := gIfP c19 hf
          refine g_goto (pc := 396) (tgt := 1180) Z dL_law_396 (by decide) ?_
          refine g_locals (lv2 := [(0, .ref b), (1, .ref (ad 0)), (2, .ref (ad 20)), (3, .ref (ad 30)), (4, .int y4)]) [2, 3, 4, 5, 6] rfl ?_
          refine g_widen (k := 22 + (k + 1)) (n := 23025 + 6 * (k + 1)) (by omega) (by omega) ?_
          obtain rfl := Option.some.inj hf
          exact hK
        · replace hf := gIfN c19 hf
          refine g_iconst (pc := 394) (v := 0) Z dL_law_394 (by decide) ?_
          exact absurd hf (fun h => by cases h)
      · replace hf := gIfP (bI_nz c18) hf
        refine g_lconst (pc := 385) (v := 1) Z dL_law_385 (by decide) ?_
        refine g_goto (pc := 386) (tgt := 390) Z dL_law_386 (by decide) ?_
        refine g_lcmp (pc := 390) Z dL_law_390 ?_
        refine g_if_eq (pc := 391) (tgt := 396) Z dL_law_391 (by decide) (fun c20 => ?_) (fun c20 => ?_)
        · replace hf := gIfP c20 hf
          refine g_goto (pc := 396) (tgt := 1180) Z dL_law_396 (by decide) ?_
          refine g_locals (lv2 := [(0, .ref b), (1, .ref (ad 0)), (2, .ref (ad 20)), (3, .ref (ad 30)), (4, .int y4)]) [2, 3, 4, 5, 6] rfl ?_
          refine g_widen (k := 22 + (k + 1)) (n := 23025 + 6 * (k + 1)) (by omega) (by omega) ?_
          obtain rfl := Option.some.inj hf
          exact hK
        · replace hf := gIfN c20 hf
          refine g_iconst (pc := 394) (v := 0) Z dL_law_394 (by decide) ?_
          exact absurd hf (fun h => by cases h)
  · replace hf := gIfN c15 hf
    refine g_iconst (pc := 370) (v := 0) Z dL_law_370 (by decide) ?_
    exact absurd hf (fun h => by cases h)
theorem wl111 : Cond.methodLink RL 103 yL_get ∈ gA := wt2 111 rfl rfl
theorem wl112 : Cond.static yL_get ∈ gA := wt2 112 rfl rfl
theorem wl113 : cd_Law_get ∈ gA := wt2 113 rfl rfl
theorem wl114 : Cond.methodLink RL 106 yX5_get ∈ gA := wt4 49 rfl rfl
theorem wl115 : Cond.instanceMethod yX5_get ∈ gA := wt4 50 rfl rfl
theorem wl116 : Cond.selects RX5 yX5_get yX5_get ∈ gA := wt4 51 rfl rfl
theorem wl117 : cd_Mod_get ∈ gA := wt4 52 rfl rfl
def fc_get (N L : Nat) (xs : Nat → Int32) (vL : LT) (vD : DT) (vC : CT) (vM : MT) (vO : (Nat → Int64)) (y4 : Int32) : Option (LT × DT × CT × MT × (Nat → Int64)) :=
  if gI (y4 + (1 : Int32)) L = true then if gI (y4 + (2 : Int32)) L = true then (f_Law_get N vD vC vO (xs (y4 + (1 : Int32)).toNatClampNeg) (xs (y4 + (2 : Int32)).toNatClampNeg)).bind fun x3 => if gI (y4 + (1 : Int32)) L = true then if gI (y4 + (2 : Int32)) L = true then (f_Mod_get N vM (xs (y4 + (1 : Int32)).toNatClampNeg) (xs (y4 + (2 : Int32)).toNatClampNeg)).bind fun x7 => (f_Mod_thrown x7.2).bind fun x9 => if x9 = x3.1 then if x3.1 = 0 then if gI (0 : Int32) 1 = true then if (lg_cmp (x3.2 (0 : Int32).toNatClampNeg) x7.1) = 0 then some (vL, vD, vC, x7.2, x3.2) else none else none else some (vL, vD, vC, x7.2, x3.2) else none else none else none else none else none
set_option maxHeartbeats 40000000 in
set_option maxRecDepth 100000 in
theorem w_case_get {p : Program} {l : Launch} {e : Env} {s : State} {m : MethodId} {below : List Frame} {meth : Method} {c : Code} {Q : State → Prop} {D : va_G} {ad : Nat → Nat} {ca : Nat → ClassId} {b L N : Nat} {xs : Nat → Int32} (hl0 : l.stackTraces = false) (Z : gZ p s m #[Value.ref b] meth c code 8 RL (Cond.initialized RL :: gA) (fun q : Nat => s.heap.size ≤ q) D cls (tys ca)) (hT : gT RX4 strsH (fun q : Nat => s.heap.size ≤ q) s) (hX : va_X b L xs s s.heap) (hbl : b < s.heap.size) {vL : LT} {vD : DT} {vC : CT} {vM : MT} {vO : (Nat → Int64)} {y4 : Int32} {k : Nat} {u : LT × DT × CT × MT × (Nat → Int64)} (hk : k ≤ 599) (hf : fc_get N L xs vL vD vC vM vO y4 = some u) (hK : gW p l e room_1 s m #[Value.ref b] below meth c 8 (fun q : Nat => s.heap.size ≤ q) D cls (22 + (k + 1)) (23025 + 6 * (k + 1)) Q (wH ad ++ wB ad ++ wL ad ca u.1 ++ wD ad ca u.2.1 ++ wC ad ca u.2.2.1 ++ wM ad ca u.2.2.2.1 ++ wO ad ca u.2.2.2.2) [(0, .ref b), (1, .ref (ad 0)), (2, .ref (ad 20)), (3, .ref (ad 30)), (4, .int y4)] 1180 []) : gW p l e room_1 s m #[Value.ref b] below meth c 8 (fun q : Nat => s.heap.size ≤ q) D cls (22 + k) (23025 + 6 * k) Q (wH ad ++ wB ad ++ wL ad ca vL ++ wD ad ca vD ++ wC ad ca vC ++ wM ad ca vM ++ wO ad ca vO) [(0, .ref b), (1, .ref (ad 0)), (2, .ref (ad 20)), (3, .ref (ad 30)), (4, .int y4)] 399 [] := by
  have hbA : ¬ (fun q : Nat => s.heap.size ≤ q) b := Nat.not_le.mpr hbl
  unfold fc_get at hf
  refine g_aload_n (pc := 399) Z 1 dL_law_399 rfl ?_
  refine g_aload_n (pc := 400) Z 0 dL_law_400 rfl ?_
  refine g_iload (pc := 401) Z 4 dL_law_401 rfl ?_
  refine g_iconst (pc := 403) (v := 1) Z dL_law_403 (by decide) ?_
  refine g_iadd (pc := 404) Z dL_law_404 ?_
  obtain ⟨b1, hf⟩ := gGuard hf
  refine g_sld (pc := 405) Z hX hbl hbA dL_law_405 (gI_in b1) ?_
  refine g_aload_n (pc := 406) Z 0 dL_law_406 rfl ?_
  refine g_iload (pc := 407) Z 4 dL_law_407 rfl ?_
  refine g_iconst (pc := 409) (v := 2) Z dL_law_409 (by decide) ?_
  refine g_iadd (pc := 410) Z dL_law_410 ?_
  obtain ⟨b2, hf⟩ := gGuard hf
  refine g_sld (pc := 411) Z hX hbl hbA dL_law_411 (gI_in b2) ?_
  refine g_aload_n (pc := 412) Z 3 dL_law_412 rfl ?_
  obtain ⟨x3, h4, hf⟩ := Option.bind_eq_some_iff.mp hf
  refine g_calli (pc := 413) (ws2 := fun u => (wH ad ++ wB ad ++ wL ad ca vL ++ wD ad ca vD ++ wC ad ca vC ++ wM ad ca vM ++ wO ad ca u)) (wr := (wL ad ca vL ++ wM ad ca vM)) Z [0, 1, 3, 4, 5, 6, 7, 8, 9, 10, 11, 12, 21] [2, 13, 14, 15, 16, 17, 18, 19, 20] [9, 10, 0, 11, 12, 13, 14, 15, 16, 17, 18, 19, 20, 1, 2, 3, 4, 5, 6, 7, 8, 21] (g_runSW Z hT (c_Law_get l hl0 D ad ca N vD vC vO (xs (y4 + (1 : Int32)).toNatClampNeg) (xs (y4 + (2 : Int32)).toNatClampNeg) x3 h4) (vx_cwSW 4 Z.2.2.2.2.1 (gg_W wl111 wl112 wl78 wl113) rfl rfl rfl yd_Law_get ⟨(Nat.le_of_ble_eq_true rfl), (Nat.le_of_ble_eq_true rfl)⟩) [0, 1, 3, 4, 5, 6, 7, 8, 9, 10, 11, 12, 21] rfl (by decide) rfl rfl (Nat.le_of_ble_eq_true rfl) dL_law_413 ⟨by show _ ≤ 1060; omega, by show _ ≤ 31301; omega⟩) rfl rfl (by decide) (by decide) (by decide) (fun _ => rfl) (fun r u hu => ?_)
  obtain ⟨rfl, rfl⟩ := hu
  refine g_istore (pc := 416) (lv' := [(5, .int x3.1), (0, .ref b), (1, .ref (ad 0)), (2, .ref (ad 20)), (3, .ref (ad 30)), (4, .int y4)]) Z dL_law_416 (by decide) rfl ?_
  refine g_aload_n (pc := 418) Z 3 dL_law_418 rfl ?_
  refine g_aload_n (pc := 419) Z 1 dL_law_419 rfl ?_
  refine g_iload (pc := 420) Z 5 dL_law_420 rfl ?_
  refine g_iconst (pc := 422) (v := 1) Z dL_law_422 (by decide) ?_
  refine g_iadd (pc := 423) Z dL_law_423 ?_
  obtain ⟨b5, hf⟩ := gGuard hf
  refine g_sld (pc := 424) Z hX hbl hbA dL_law_424 (gI_in b5) ?_
  refine g_aload_n (pc := 425) Z 1 dL_law_425 rfl ?_
  refine g_iload (pc := 426) Z 5 dL_law_426 rfl ?_
  refine g_iconst (pc := 428) (v := 2) Z dL_law_428 (by decide) ?_
  refine g_iadd (pc := 429) Z dL_law_429 ?_
  obtain ⟨b6, hf⟩ := gGuard hf
  refine g_sld (pc := 430) Z hX hbl hbA dL_law_430 (gI_in b6) ?_
  obtain ⟨x7, h8, hf⟩ := Option.bind_eq_some_iff.mp hf
  refine g_calll (pc := 431) (ws2 := fun u => (wH ad ++ wB ad ++ wL ad ca vL ++ wD ad ca vD ++ wC ad ca vC ++ wM ad ca u ++ wO ad ca x3.2)) (wr := (wH ad ++ wB ad ++ wL ad ca vL ++ wD ad ca vD ++ wC ad ca vC ++ wO ad ca x3.2)) Z [13, 14, 15, 16, 17, 18, 19, 20] [0, 1, 2, 3, 4, 5, 6, 7, 8, 9, 10, 11, 12, 21] [0, 1, 2, 3, 4, 5, 6, 7, 8, 9, 10, 11, 12, 14, 15, 16, 17, 18, 19, 20, 21, 13] (g_runV Z (c_Mod_get l D ad ca N vM (xs (y4 + (1 : Int32)).toNatClampNeg) (xs (y4 + (2 : Int32)).toNatClampNeg) x7 h8) (cwV 2 Z.2.2.2.2.1 (gg_V wl114 wl115 wl116 wl83 wl117) rfl rfl rfl (yv_of rfl yd_Mod_get) ⟨Nat.le_of_ble_eq_true rfl, Nat.le_of_ble_eq_true rfl⟩) [13, 14, 15, 16, 17, 18, 19, 20] rfl (by decide) 0 rfl rfl rfl rfl rfl (Nat.le_of_ble_eq_true rfl) dL_law_431 ⟨by show _ ≤ 1060; omega, by show _ ≤ 31301; omega⟩) rfl rfl (by decide) (by decide) (by decide) (fun _ => rfl) (fun r u hu => ?_)
  obtain ⟨rfl, rfl⟩ := hu
  refine g_lstore (pc := 434) (lv' := [(6, .long x7.1), (5, .int x3.1), (0, .ref b), (1, .ref (ad 0)), (2, .ref (ad 20)), (3, .ref (ad 30)), (4, .int y4)]) Z dL_law_434 (by decide) rfl ?_
  refine g_aload_n (pc := 436) Z 4 dL_law_436 rfl ?_
  obtain ⟨x9, h10, hf⟩ := Option.bind_eq_some_iff.mp hf
  refine g_calli (pc := 437) (ws2 := fun u => (wH ad ++ wB ad ++ wL ad ca vL ++ wD ad ca vD ++ wC ad ca vC ++ wM ad ca x7.2 ++ wO ad ca x3.2)) (wr := (wH ad ++ wB ad ++ wL ad ca vL ++ wD ad ca vD ++ wC ad ca vC ++ wO ad ca x3.2)) Z [13, 14, 15, 16, 17, 18, 19, 20] [0, 1, 2, 3, 4, 5, 6, 7, 8, 9, 10, 11, 12, 21] [0, 1, 2, 3, 4, 5, 6, 7, 8, 9, 10, 11, 12, 14, 15, 16, 17, 18, 19, 20, 21, 13] (g_runV Z (c_Mod_thrown l D ad ca x7.2 x9 h10) (cwV 0 Z.2.2.2.2.1 (gg_V wl85 wl86 wl87 wl83 wl88) rfl rfl rfl (yv_of rfl yd_Mod_thrown) ⟨Nat.le_of_ble_eq_true rfl, Nat.le_of_ble_eq_true rfl⟩) [13, 14, 15, 16, 17, 18, 19, 20] rfl (by decide) 0 rfl rfl rfl rfl rfl (Nat.le_of_ble_eq_true rfl) dL_law_437 ⟨by show _ ≤ 1060; omega, by show _ ≤ 31301; omega⟩) rfl rfl (by decide) (by decide) (by decide) (fun _ => rfl) (fun r u hu => ?_)
  obtain rfl := hu.symm
  refine g_iload (pc := 440) Z 1 dL_law_440 rfl ?_
  refine g_icmp_eq (pc := 442) (tgt := 447) Z dL_law_442 (by decide) (fun c11 => ?_) (fun c11 => ?_)
  · replace hf := gIfP c11 hf
    refine g_iload (pc := 447) Z 1 dL_law_447 rfl ?_
    refine g_if_ne (pc := 449) (tgt := 463) Z dL_law_449 (by decide) (fun c12 => ?_) (fun c12 => ?_)
    · replace hf := gIfN c12 hf
      refine g_goto (pc := 463) (tgt := 1180) Z dL_law_463 (by decide) ?_
      refine g_locals (lv2 := [(0, .ref b), (1, .ref (ad 0)), (2, .ref (ad 20)), (3, .ref (ad 30)), (4, .int y4)]) [2, 3, 4, 5, 6] rfl ?_
      refine g_widen (k := 22 + (k + 1)) (n := 23025 + 6 * (k + 1)) (by omega) (by omega) ?_
      obtain rfl := Option.some.inj hf
      exact hK
    · replace hf := gIfP c12 hf
      refine g_aload_n (pc := 452) Z 5 dL_law_452 rfl ?_
      refine g_iconst (pc := 453) (v := 0) Z dL_law_453 (by decide) ?_
      obtain ⟨b13, hf⟩ := gGuard hf
      refine g_lald (pc := 454) (f := x3.2) Z 21 0 dL_law_454 rfl rfl (gI_in b13) ?_
      refine g_lload (pc := 455) Z 0 dL_law_455 rfl ?_
      refine g_lcmp (pc := 457) Z dL_law_457 ?_
      refine g_if_eq (pc := 458) (tgt := 463) Z dL_law_458 (by decide) (fun c14 => ?_) (fun c14 => ?_)
      · replace hf := gIfP c14 hf
        refine g_goto (pc := 463) (tgt := 1180) Z dL_law_463 (by decide) ?_
        refine g_locals (lv2 := [(0, .ref b), (1, .ref (ad 0)), (2, .ref (ad 20)), (3, .ref (ad 30)), (4, .int y4)]) [2, 3, 4, 5, 6] rfl ?_
        refine g_widen (k := 22 + (k + 1)) (n := 23025 + 6 * (k + 1)) (by omega) (by omega) ?_
        obtain rfl := Option.some.inj hf
        exact hK
      · replace hf := gIfN c14 hf
        refine g_iconst (pc := 461) (v := 0) Z dL_law_461 (by decide) ?_
        exact absurd hf (fun h => by cases h)
  · replace hf := gIfN c11 hf
    refine g_iconst (pc := 445) (v := 0) Z dL_law_445 (by decide) ?_
    exact absurd hf (fun h => by cases h)
