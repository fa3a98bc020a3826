theorem wl118 : Cond.methodLink RL 107 yL_setRoot ∈ gA := wt2 119 rfl rfl
theorem wl119 : Cond.static yL_setRoot ∈ gA := wt2 120 rfl rfl
theorem wl120 : cd_Law_setRoot ∈ gA := wt2 121 rfl rfl
theorem wl121 : Cond.methodLink RL 109 yX5_setRoot ∈ gA := wt4 53 rfl rfl
theorem wl122 : Cond.instanceMethod yX5_setRoot ∈ gA := wt4 54 rfl rfl
theorem wl123 : Cond.selects RX5 yX5_setRoot yX5_setRoot ∈ gA := wt4 55 rfl rfl
theorem wl124 : cd_Mod_setRoot ∈ gA := wt4 56 rfl rfl
def fc_setRoot (N L : Nat) (xs : Nat → Int32) (vL : LT) (vD : DT) (vC : CT) (vM : MT) (vO : (Nat → Int64)) (y4 : Int32) : Option (LT × DT × CT × MT × (Nat → Int64)) :=
  if gI (y4 + (1 : Int32)) L = true then (f_Law_setRoot N vD vC vO (xs (y4 + (1 : Int32)).toNatClampNeg)).bind fun x2 => if gI (y4 + (1 : Int32)) L = true then (f_Mod_setRoot N vM (xs (y4 + (1 : Int32)).toNatClampNeg)).bind fun x5 => (f_Mod_thrown x5.2).bind fun x7 => if x7 = x2.1 then if x2.1 = 0 then if gI (0 : Int32) 1 = true then if x5.1 = true then if (lg_cmp (x2.2.2 (0 : Int32).toNatClampNeg) (1 : Int64)) = 0 then some (vL, vD, x2.2.1, x5.2, x2.2.2) else none else if (lg_cmp (x2.2.2 (0 : Int32).toNatClampNeg) (0 : Int64)) = 0 then some (vL, vD, x2.2.1, x5.2, x2.2.2) else none else none else some (vL, vD, x2.2.1, x5.2, x2.2.2) else none else none else none
set_option maxHeartbeats 40000000 in
set_option maxRecDepth 100000 in
theorem w_case_setRoot {p : Program} {l : Launch} {e : Env} {s : State} {m : MethodId} {below : List Frame} {meth : Method} {c : Code} {Q : State → Prop} {D : va_G} {ad : Nat → Nat} {ca : Nat → ClassId} {b L N : Nat} {xs : Nat → Int32} (hl0 : l.stackTraces = false) (Z : gZ p s m #[Value.ref b] meth c code 8 RL (Cond.initialized RL :: gA) (fun q : Nat => s.heap.size ≤ q) D cls (tys ca)) (hT : gT RX4 strsH (fun q : Nat => s.heap.size ≤ q) s) (hX : va_X b L xs s s.heap) (hbl : b < s.heap.size) {vL : LT} {vD : DT} {vC : CT} {vM : MT} {vO : (Nat → Int64)} {y4 : Int32} {k : Nat} {u : LT × DT × CT × MT × (Nat → Int64)} (hk : k ≤ 599) (hf : fc_setRoot N L xs vL vD vC vM vO y4 = some u) (hK : gW p l e room_1 s m #[Value.ref b] below meth c 8 (fun q : Nat => s.heap.size ≤ q) D cls (22 + (k + 1)) (23025 + 6 * (k + 1)) Q (wH ad ++ wB ad ++ wL ad ca u.1 ++ wD ad ca u.2.1 ++ wC ad ca u.2.2.1 ++ wM ad ca u.2.2.2.1 ++ wO ad ca u.2.2.2.2) [(0, .ref b), (1, .ref (ad 0)), (2, .ref (ad 20)), (3, .ref (ad 30)), (4, .int y4)] 1180 []) : gW p l e room_1 s m #[Value.ref b] below meth c 8 (fun q : Nat => s.heap.size ≤ q) D cls (22 + k) (23025 + 6 * k) Q (wH ad ++ wB ad ++ wL ad ca vL ++ wD ad ca vD ++ wC ad ca vC ++ wM ad ca vM ++ wO ad ca vO) [(0, .ref b), (1, .ref (ad 0)), (2, .ref (ad 20)), (3, .ref (ad 30)), (4, .int y4)] 466 [] := by
  have hbA : ¬ (fun q : Nat => s.heap.size ≤ q) b := Nat.not_le.mpr hbl
  unfold fc_setRoot at hf
  refine g_aload_n (pc := 466) Z 1 dL_law_466 rfl ?_
  refine g_aload_n (pc := 467) Z 0 dL_law_467 rfl ?_
  refine g_iload (pc := 468) Z 4 dL_law_468 rfl ?_
  refine g_iconst (pc := 470) (v := 1) Z dL_law_470 (by decide) ?_
  refine g_iadd (pc := 471) Z dL_law_471 ?_
  obtain ⟨b1, hf⟩ := gGuard hf
  refine g_sld (pc := 472) Z hX hbl hbA dL_law_472 (gI_in b1) ?_
  refine g_aload_n (pc := 473) Z 3 dL_law_473 rfl ?_
  obtain ⟨x2, h3, hf⟩ := Option.bind_eq_some_iff.mp hf
  refine g_calli (pc := 474) (ws2 := fun u => (wH ad ++ wB ad ++ wL ad ca vL ++ wD ad ca vD ++ wC ad ca u.1 ++ wM ad ca vM ++ wO ad ca u.2)) (wr := (wL ad ca vL ++ wM ad ca vM)) Z [0, 1, 3, 4, 5, 6, 7, 8, 9, 10, 11, 12, 21] [2, 13, 14, 15, 16, 17, 18, 19, 20] [9, 10, 0, 11, 12, 13, 14, 15, 16, 17, 18, 19, 20, 1, 2, 3, 4, 5, 6, 7, 8, 21] (g_runSW Z hT (c_Law_setRoot l hl0 D ad ca N vD vC vO (xs (y4 + (1 : Int32)).toNatClampNeg) x2 h3) (vx_cwSW 3 Z.2.2.2.2.1 (gg_W wl118 wl119 wl78 wl120) rfl rfl rfl yd_Law_setRoot ⟨(Nat.le_of_ble_eq_true rfl), (Nat.le_of_ble_eq_true rfl)⟩) [0, 1, 3, 4, 5, 6, 7, 8, 9, 10, 11, 12, 21] rfl (by decide) rfl rfl (Nat.le_of_ble_eq_true rfl) dL_law_474 ⟨by show _ ≤ 1060; omega, by show _ ≤ 31301; omega⟩) rfl rfl (by decide) (by decide) (by decide) (fun _ => rfl) (fun r u hu => ?_)
  obtain ⟨rfl, rfl⟩ := hu
  refine g_istore (pc := 477) (lv' := [(5, .int x2.1), (0, .ref b), (1, .ref (ad 0)), (2, .ref (ad 20)), (3, .ref (ad 30)), (4, .int y4)]) Z dL_law_477 (by decide) rfl ?_
  refine g_aload_n (pc := 479) Z 3 dL_law_479 rfl ?_
  refine g_aload_n (pc := 480) Z 1 dL_law_480 rfl ?_
  refine g_iload (pc := 481) Z 5 dL_law_481 rfl ?_
  refine g_iconst (pc := 483) (v := 1) Z dL_law_483 (by decide) ?_
  refine g_iadd (pc := 484) Z dL_law_484 ?_
  obtain ⟨b4, hf⟩ := gGuard hf
  refine g_sld (pc := 485) Z hX hbl hbA dL_law_485 (gI_in b4) ?_
  obtain ⟨x5, h6, hf⟩ := Option.bind_eq_some_iff.mp hf
  refine g_calli (pc := 486) (ws2 := fun u => (wH ad ++ wB ad ++ wL ad ca vL ++ wD ad ca vD ++ wC ad ca x2.2.1 ++ wM ad ca u ++ wO ad ca x2.2.2)) (wr := (wH ad ++ wB ad ++ wL ad ca vL ++ wD ad ca vD ++ wC ad ca x2.2.1 ++ wO ad ca x2.2.2)) Z [13, 14, 15, 16, 17, 18, 19, 20] [0, 1, 2, 3, 4, 5, 6, 7, 8, 9, 10, 11, 12, 21] [0, 1, 2, 3, 4, 5, 6, 7, 8, 9, 10, 11, 12, 14, 15, 16, 17, 18, 19, 20, 21, 13] (g_runV Z (c_Mod_setRoot l D ad ca N vM (xs (y4 + (1 : Int32)).toNatClampNeg) x5 h6) (cwV 1 Z.2.2.2.2.1 (gg_V wl121 wl122 wl123 wl83 wl124) rfl rfl rfl (yv_of rfl yd_Mod_setRoot) ⟨Nat.le_of_ble_eq_true rfl, Nat.le_of_ble_eq_true rfl⟩) [13, 14, 15, 16, 17, 18, 19, 20] rfl (by decide) 0 rfl rfl rfl rfl rfl (Nat.le_of_ble_eq_true rfl) dL_law_486 ⟨by show _ ≤ 1060; omega, by show _ ≤ 31301; omega⟩) rfl rfl (by decide) (by decide) (by decide) (fun _ => rfl) (fun r u hu => ?_)
  obtain ⟨rfl, rfl⟩ := hu
  refine g_istore (pc := 489) (lv' := [(6, .int (bI x5.1)), (5, .int x2.1), (0, .ref b), (1, .ref (ad 0)), (2, .ref (ad 20)), (3, .ref (ad 30)), (4, .int y4)]) Z dL_law_489 (by decide) rfl ?_
  refine g_aload_n (pc := 491) Z 4 dL_law_491 rfl ?_
  obtain ⟨x7, h8, hf⟩ := Option.bind_eq_some_iff.mp hf
  refine g_calli (pc := 492) (ws2 := fun u => (wH ad ++ wB ad ++ wL ad ca vL ++ wD ad ca vD ++ wC ad ca x2.2.1 ++ wM ad ca x5.2 ++ wO ad ca x2.2.2)) (wr := (wH ad ++ wB ad ++ wL ad ca vL ++ wD ad ca vD ++ wC ad ca x2.2.1 ++ wO ad ca x2.2.2)) Z [13, 14, 15, 16, 17, 18, 19, 20] [0, 1, 2, 3, 4, 5, 6, 7, 8, 9, 10, 11, 12, 21] [0, 1, 2, 3, 4, 5, 6, 7, 8, 9, 10, 11, 12, 14, 15, 16, 17, 18, 19, 20, 21, 13] (g_runV Z (c_Mod_thrown l D ad ca x5.2 x7 h8) (cwV 0 Z.2.2.2.2.1 (gg_V wl85 wl86 wl87 wl83 wl88) rfl rfl rfl (yv_of rfl yd_Mod_thrown) ⟨Nat.le_of_ble_eq_true rfl, Nat.le_of_ble_eq_true rfl⟩) [13, 14, 15, 16, 17, 18, 19, 20] rfl (by decide) 0 rfl rfl rfl rfl rfl (Nat.le_of_ble_eq_true rfl) dL_law_492 ⟨by show _ ≤ 1060; omega, by show _ ≤ 31301; omega⟩) rfl rfl (by decide) (by decide) (by decide) (fun _ => rfl) (fun r u hu => ?_)
  obtain rfl := hu.symm
  refine g_iload (pc := 495) Z 1 dL_law_495 rfl ?_
  refine g_icmp_eq (pc := 497) (tgt := 502) Z dL_law_497 (by decide) (fun c9 => ?_) (fun c9 => ?_)
  · replace hf := gIfP c9 hf
    refine g_iload (pc := 502) Z 1 dL_law_502 rfl ?_
    refine g_if_ne (pc := 504) (tgt := 526) Z dL_law_504 (by decide) (fun c10 => ?_) (fun c10 => ?_)
    · replace hf := gIfN c10 hf
      refine g_goto (pc := 526) (tgt := 1180) Z dL_law_526 (by decide) ?_
      refine g_locals (lv2 := [(0, .ref b), (1, .ref (ad 0)), (2, .ref (ad 20)), (3, .ref (ad 30)), (4, .int y4)]) [2, 3, 4, 5, 6] rfl ?_
      refine g_widen (k := 22 + (k + 1)) (n := 23025 + 6 * (k + 1)) (by omega) (by omega) ?_
      obtain rfl := Option.some.inj hf
      exact hK
    · replace hf := gIfP c10 hf
      refine g_aload_n (pc := 507) Z 5 dL_law_507 rfl ?_
      refine g_iconst (pc := 508) (v := 0) Z dL_law_508 (by decide) ?_
      obtain ⟨b11, hf⟩ := gGuard hf
      refine g_lald (pc := 509) (f := x2.2.2) Z 21 0 dL_law_509 rfl rfl (gI_in b11) ?_
      refine g_iload (pc := 510) Z 0 dL_law_510 rfl ?_
      refine g_if_eq (pc := 512) (tgt := 519) Z dL_law_512 (by decide) (fun c12 => ?_) (fun c12 => ?_)
      · replace hf := gIfN (bI_z c12) hf
        refine g_lconst (pc := 519) (v := 0) Z dL_law_519 (by decide) ?_
        refine g_lcmp (pc := 520) Z dL_law_520 ?_
        refine g_if_eq (pc := 521) (tgt := 526) Z dL_law_521 (by decide) (fun c13 => ?_) (fun c13 => ?_)
        · replace hf := gIfP c13 hf
          refine g_goto (pc := 526) (tgt := 1180) Z dL_law_526 (by decide) ?_
          refine g_locals (lv2 := [(0, .ref b), (1, .ref (ad 0)), (2, .ref (ad 20)), (3, .ref (ad 30)), (4, .int y4)]) [2, 3, 4, 5, 6] rfl ?_
          refine g_widen (k := 22 + (k + 1)) (n := 23025 + 6 * (k + 1)) (by omega) (by omega) ?_
          obtain rfl := Option.some.inj hf
          exact hK
        · replace hf := gIfN c13 hf
          refine g_iconst (pc := 524) (v := 0) Z dL_law_524 (by decide) ?_
          exact absurd hf (fun h => by cases h)
      · replace hf := gIfP (bI_nz c12) hf
        refine g_lconst (pc := 515) (v := 1) Z dL_law_515 (by decide) ?_
        refine g_goto (pc := 516) (tgt := 520) Z dL_law_516 (by decide) ?_
        refine g_lcmp (pc := 520) Z dL_law_520 ?_
        refine g_if_eq (pc := 521) (tgt := 526) Z dL_law_521 (by decide) (fun c14 => ?_) (fun c14 => ?_)
        · replace hf := gIfP c14 hf
          refine g_goto (pc := 526) (tgt := 1180) Z dL_law_526 (by decide) ?_
          refine g_locals (lv2 := [(0, .ref b), (1, .ref (ad 0)), (2, .ref (ad 20)), (3, .ref (ad 30)), (4, .int y4)]) [2, 3, 4, 5, 6] rfl ?_
          refine g_widen (k := 22 + (k + 1)) (n := 23025 + 6 * (k + 1)) (by omega) (by omega) ?_
          obtain rfl := Option.some.inj hf
          exact hK
        · replace hf := gIfN c14 hf
          refine g_iconst (pc := 524) (v := 0) Z dL_law_524 (by decide) ?_
          exact absurd hf (fun h => by cases h)
  · replace hf := gIfN c9 hf
    refine g_iconst (pc := 500) (v := 0) Z dL_law_500 (by decide) ?_
    exact absurd hf (fun h => by cases h)
theorem wl125 : Cond.methodLink RL 110 yL_root ∈ gA := wt2 126 rfl rfl
theorem wl126 : Cond.static yL_root ∈ gA := wt2 127 rfl rfl
theorem wl127 : cd_Law_root ∈ gA := wt2 128 rfl rfl
theorem wl128 : Cond.methodLink RL 112 yX5_root ∈ gA := wt4 57 rfl rfl
theorem wl129 : Cond.instanceMethod yX5_root ∈ gA := wt4 58 rfl rfl
theorem wl130 : Cond.selects RX5 yX5_root yX5_root ∈ gA := wt4 59 rfl rfl
theorem wl131 : cd_Mod_root ∈ gA := wt4 60 rfl rfl
def fc_root (N L : Nat) (xs : Nat → Int32) (vL : LT) (vD : DT) (vC : CT) (vM : MT) (vO : (Nat → Int64)) (y4 : Int32) : Option (LT × DT × CT × MT × (Nat → Int64)) :=
  (f_Law_root vD vC vO).bind fun x1 => (f_Mod_root vM).bind fun x3 => (f_Mod_thrown x3.2).bind fun x5 => if x5 = x1.1 then if x1.1 = 0 then if gI (0 : Int32) 1 = true then if (lg_cmp (x1.2 (0 : Int32).toNatClampNeg) x3.1.toInt64) = 0 then some (vL, vD, vC, x3.2, x1.2) else none else none else some (vL, vD, vC, x3.2, x1.2) else none
set_option maxHeartbeats 40000000 in
set_option maxRecDepth 100000 in
theorem w_case_root {p : Program} {l : Launch} {e : Env} {s : State} {m : MethodId} {below : List Frame} {meth : Method} {c : Code} {Q : State → Prop} {D : va_G} {ad : Nat → Nat} {ca : Nat → ClassId} {b L N : Nat} {xs : Nat → Int32} (hl0 : l.stackTraces = false) (Z : gZ p s m #[Value.ref b] meth c code 8 RL (Cond.initialized RL :: gA) (fun q : Nat => s.heap.size ≤ q) D cls (tys ca)) (hT : gT RX4 strsH (fun q : Nat => s.heap.size ≤ q) s) (hX : va_X b L xs s s.heap) (hbl : b < s.heap.size) {vL : LT} {vD : DT} {vC : CT} {vM : MT} {vO : (Nat → Int64)} {y4 : Int32} {k : Nat} {u : LT × DT × CT × MT × (Nat → Int64)} (hk : k ≤ 599) (hf : fc_root N L xs vL vD vC vM vO y4 = some u) (hK : gW p l e room_1 s m #[Value.ref b] below meth c 8 (fun q : Nat => s.heap.size ≤ q) D cls (22 + (k + 1)) (23025 + 6 * (k + 1)) Q (wH ad ++ wB ad ++ wL ad ca u.1 ++ wD ad ca u.2.1 ++ wC ad ca u.2.2.1 ++ wM ad ca u.2.2.2.1 ++ wO ad ca u.2.2.2.2) [(0, .ref b), (1, .ref (ad 0)), (2, .ref (ad 20)), (3, .ref (ad 30)), (4, .int y4)] 1180 []) : gW p l e room_1 s m #[Value.ref b] below meth c 8 (fun q : Nat => s.heap.size ≤ q) D cls (22 + k) (23025 + 6 * k) Q (wH ad ++ wB ad ++ wL ad ca vL ++ wD ad ca vD ++ wC ad ca vC ++ wM ad ca vM ++ wO ad ca vO) [(0, .ref b), (1, .ref (ad 0)), (2, .ref (ad 20)), (3, .ref (ad 30)), (4, .int y4)] 529 [] := by
  have hbA : ¬ (fun q : Nat => s.heap.size ≤ q) b := Nat.not_le.mpr hbl
  unfold fc_root at hf
  refine g_aload_n (pc := 529) Z 1 dL_law_529 rfl ?_
  refine g_aload_n (pc := 530) Z 3 dL_law_530 rfl ?_
  obtain ⟨x1, h2, hf⟩ := Option.bind_eq_some_iff.mp hf
  refine g_calli (pc := 531) (ws2 := fun u => (wH ad ++ wB ad ++ wL ad ca vL ++ wD ad ca vD ++ wC ad ca vC ++ wM ad ca vM ++ wO ad ca u)) (wr := (wB ad ++ wL ad ca vL ++ wM ad ca vM)) Z [0, 3, 4, 5, 6, 7, 8, 9, 10, 11, 12, 21] [1, 2, 13, 14, 15, 16, 17, 18, 19, 20] [10, 0, 1, 11, 12, 13, 14, 15, 16, 17, 18, 19, 20, 2, 3, 4, 5, 6, 7, 8, 9, 21] (g_runSW Z hT (c_Law_root l hl0 D ad ca vD vC vO x1 h2) (vx_cwSW 2 Z.2.2.2.2.1 (gg_W wl125 wl126 wl78 wl127) rfl rfl rfl yd_Law_root ⟨(Nat.le_of_ble_eq_true rfl), (Nat.le_of_ble_eq_true rfl)⟩) [0, 3, 4, 5, 6, 7, 8, 9, 10, 11, 12, 21] rfl (by decide) rfl rfl (Nat.le_of_ble_eq_true rfl) dL_law_531 ⟨by show _ ≤ 1060; omega, by show _ ≤ 31301; omega⟩) rfl rfl (by decide) (by decide) (by decide) (fun _ => rfl) (fun r u hu => ?_)
  obtain ⟨rfl, rfl⟩ := hu
  refine g_istore (pc := 534) (lv' := [(5, .int x1.1), (0, .ref b), (1, .ref (ad 0)), (2, .ref (ad 20)), (3, .ref (ad 30)), (4, .int y4)]) Z dL_law_534 (by decide) rfl ?_
  refine g_aload_n (pc := 536) Z 3 dL_law_536 rfl ?_
  obtain ⟨x3, h4, hf⟩ := Option.bind_eq_some_iff.mp hf
  refine g_calli (pc := 537) (ws2 := fun u => (wH ad ++ wB ad ++ wL ad ca vL ++ wD ad ca vD ++ wC ad ca vC ++ wM ad ca u ++ wO ad ca x1.2)) (wr := (wH ad ++ wB ad ++ wL ad ca vL ++ wD ad ca vD ++ wC ad ca vC ++ wO ad ca x1.2)) Z [13, 14, 15, 16, 17, 18, 19, 20] [0, 1, 2, 3, 4, 5, 6, 7, 8, 9, 10, 11, 12, 21] [0, 1, 2, 3, 4, 5, 6, 7, 8, 9, 10, 11, 12, 14, 15, 16, 17, 18, 19, 20, 21, 13] (g_runV Z (c_Mod_root l D ad ca vM x3 h4) (cwV 0 Z.2.2.2.2.1 (gg_V wl128 wl129 wl130 wl83 wl131) rfl rfl rfl (yv_of rfl yd_Mod_root) ⟨Nat.le_of_ble_eq_true rfl, Nat.le_of_ble_eq_true rfl⟩) [13, 14, 15, 16, 17, 18, 19, 20] rfl (by decide) 0 rfl rfl rfl rfl rfl (Nat.le_of_ble_eq_true rfl) dL_law_537 ⟨by show _ ≤ 1060; omega, by show _ ≤ 31301; omega⟩) rfl rfl (by decide) (by decide) (by decide) (fun _ => rfl) (fun r u hu => ?_)
  obtain ⟨rfl, rfl⟩ := hu
  refine g_istore (pc := 540) (lv' := [(6, .int x3.1), (5, .int x1.1), (0, .ref b), (1, .ref (ad 0)), (2, .ref (ad 20)), (3, .ref (ad 30)), (4, .int y4)]) Z dL_law_540 (by decide) rfl ?_
  refine g_aload_n (pc := 542) Z 4 dL_law_542 rfl ?_
  obtain ⟨x5, h6, hf⟩ := Option.bind_eq_some_iff.mp hf
  refine g_calli (pc := 543) (ws2 := fun u => (wH ad ++ wB ad ++ wL ad ca vL ++ wD ad ca vD ++ wC ad ca vC ++ wM ad ca x3.2 ++ wO ad ca x1.2)) (wr := (wH ad ++ wB ad ++ wL ad ca vL ++ wD ad ca vD ++ wC ad ca vC ++ wO ad ca x1.2)) Z [13, 14, 15, 16, 17, 18, 19, 20] [0, 1, 2, 3, 4, 5, 6, 7, 8, 9, 10, 11, 12, 21] [0, 1, 2, 3, 4, 5, 6, 7, 8, 9, 10, 11, 12, 14, 15, 16, 17, 18, 19, 20, 21, 13] (g_runV Z (c_Mod_thrown l D ad ca x3.2 x5 h6) (cwV 0 Z.2.2.2.2.1 (gg_V wl85 wl86 wl87 wl83 wl88) rfl rfl rfl (yv_of rfl yd_Mod_thrown) ⟨Nat.le_of_ble_eq_true rfl, Nat.le_of_ble_eq_true rfl⟩) [13, 14, 15, 16, 17, 18, 19, 20] rfl (by decide) 0 rfl rfl rfl rfl rfl (Nat.le_of_ble_eq_true rfl) dL_law_543 ⟨by show _ ≤ 1060; omega, by show _ ≤ 31301; omega⟩) rfl rfl (by decide) (by decide) (by decide) (fun _ => rfl) (fun r u hu => ?_)
  obtain rfl := hu.symm
  refine g_iload (pc := 546) Z 1 dL_law_546 rfl ?_
  refine g_icmp_eq (pc := 548) (tgt := 553) Z dL_law_548 (by decide) (fun c7 => ?_) (fun c7 => ?_)
  · replace hf := gIfP c7 hf
    refine g_iload (pc := 553) Z 1 dL_law_553 rfl ?_
    refine g_if_ne (pc := 555) (tgt := 570) Z dL_law_555 (by decide) (fun c8 => ?_) (fun c8 => ?_)
    · replace hf := gIfN c8 hf
      refine g_goto (pc := 570) (tgt := 1180) Z dL_law_570 (by decide) ?_
      refine g_locals (lv2 := [(0, .ref b), (1, .ref (ad 0)), (2, .ref (ad 20)), (3, .ref (ad 30)), (4, .int y4)]) [2, 3, 4, 5, 6] rfl ?_
      refine g_widen (k := 22 + (k + 1)) (n := 23025 + 6 * (k + 1)) (by omega) (by omega) ?_
      obtain rfl := Option.some.inj hf
      exact hK
    · replace hf := gIfP c8 hf
      refine g_aload_n (pc := 558) Z 5 dL_law_558 rfl ?_
      refine g_iconst (pc := 559) (v := 0) Z dL_law_559 (by decide) ?_
      obtain ⟨b9, hf⟩ := gGuard hf
      refine g_lald (pc := 560) (f := x1.2) Z 21 0 dL_law_560 rfl rfl (gI_in b9) ?_
      refine g_iload (pc := 561) Z 0 dL_law_561 rfl ?_
      refine g_i2l (pc := 563) Z dL_law_563 ?_
      refine g_lcmp (pc := 564) Z dL_law_564 ?_
      refine g_if_eq (pc := 565) (tgt := 570) Z dL_law_565 (by decide) (fun c10 => ?_) (fun c10 => ?_)
      · replace hf := gIfP c10 hf
        refine g_goto (pc := 570) (tgt := 1180) Z dL_law_570 (by decide) ?_
        refine g_locals (lv2 := [(0, .ref b), (1, .ref (ad 0)), (2, .ref (ad 20)), (3, .ref (ad 30)), (4, .int y4)]) [2, 3, 4, 5, 6] rfl ?_
        refine g_widen (k := 22 + (k + 1)) (n := 23025 + 6 * (k + 1)) (by omega) (by omega) ?_
        obtain rfl := Option.some.inj hf
        exact hK
      · replace hf := gIfN c10 hf
        refine g_iconst (pc := 568) (v := 0) Z dL_law_568 (by decide) ?_
        exact absurd hf (fun h => by cases h)
  · replace hf := gIfN c7 hf
    refine g_iconst (pc := 551) (v := 0) Z dL_law_551 (by decide) ?_
    exact absurd hf (fun h => by cases h)
theorem wl132 : Cond.methodLink RL 113 yL_commit ∈ gA := wt2 133 rfl rfl
theorem wl133 : Cond.static yL_commit ∈ gA := wt2 134 rfl rfl
theorem wl134 : cd_Law_commit ∈ gA := wt2 135 rfl rfl
theorem wl135 : Cond.methodLink RL 116 yX5_commit ∈ gA := wt4 61 rfl rfl
theorem wl136 : Cond.instanceMethod yX5_commit ∈ gA := wt4 62 rfl rfl
theorem wl137 : Cond.selects RX5 yX5_commit yX5_commit ∈ gA := wt4 63 rfl rfl
theorem wl138 : cd_Mod_commit ∈ gA := wt4 64 rfl rfl
def fc_commit (N L : Nat) (xs : Nat → Int32) (vL : LT) (vD : DT) (vC : CT) (vM : MT) (vO : (Nat → Int64)) (y4 : Int32) : Option (LT × DT × CT × MT × (Nat → Int64)) :=
  if gI (y4 + (1 : Int32)) L = true then if (xs (y4 + (1 : Int32)).toNatClampNeg) = 0 then (f_Law_commit N vL vD vC vO false).bind fun x3 => if gI (y4 + (1 : Int32)) L = true then if (xs (y4 + (1 : Int32)).toNatClampNeg) = 0 then (f_Mod_commit N vM false).bind fun x7 => (f_Mod_thrown x7.2).bind fun x9 => if x9 = x3.1 then if x3.1 = 0 then if gI (0 : Int32) 1 = true then if (lg_cmp (x3.2.2.2.2 (0 : Int32).toNatClampNeg) x7.1.toInt64) = 0 then some (x3.2.1, x3.2.2.1, x3.2.2.2.1, x7.2, x3.2.2.2.2) else none else none else some (x3.2.1, x3.2.2.1, x3.2.2.2.1, x7.2, x3.2.2.2.2) else none else (f_Mod_commit N vM true).bind fun x15 => (f_Mod_thrown x15.2).bind fun x17 => if x17 = x3.1 then if x3.1 = 0 then if gI (0 : Int32) 1 = true then if (lg_cmp (x3.2.2.2.2 (0 : Int32).toNatClampNeg) x15.1.toInt64) = 0 then some (x3.2.1, x3.2.2.1, x3.2.2.2.1, x15.2, x3.2.2.2.2) else none else none else some (x3.2.1, x3.2.2.1, x3.2.2.2.1, x15.2, x3.2.2.2.2) else none else none else (f_Law_commit N vL vD vC vO true).bind fun x23 => if gI (y4 + (1 : Int32)) L = true then if (xs (y4 + (1 : Int32)).toNatClampNeg) = 0 then (f_Mod_commit N vM false).bind fun x27 => (f_Mod_thrown x27.2).bind fun x29 => if x29 = x23.1 then if x23.1 = 0 then if gI (0 : Int32) 1 = true then if (lg_cmp (x23.2.2.2.2 (0 : Int32).toNatClampNeg) x27.1.toInt64) = 0 then some (x23.2.1, x23.2.2.1, x23.2.2.2.1, x27.2, x23.2.2.2.2) else none else none else some (x23.2.1, x23.2.2.1, x23.2.2.2.1, x27.2, x23.2.2.2.2) else none else (f_Mod_commit N vM true).bind fun x35 => (f_Mod_thrown x35.2).bind fun x37 => if x37 = x23.1 then if x23.1 = 0 then if gI (0 : Int32) 1 = true then if (lg_cmp (x23.2.2.2.2 (0 : Int32).toNatClampNeg) x35.1.toInt64) = 0 then some (x23.2.1, x23.2.2.1, x23.2.2.2.1, x35.2, x23.2.2.2.2) else none else none else some (x23.2.1, x23.2.2.1, x23.2.2.2.1, x35.2, x23.2.2.2.2) else none else none else none
set_option maxHeartbeats 40000000 in
set_option maxRecDepth 100000 in
theorem w_case_commit {p : Program} {l : Launch} {e : Env} {s : State} {m : MethodId} {below : List Frame} {meth : Method} {c : Code} {Q : State → Prop} {D : va_G} {ad : Nat → Nat} {ca : Nat → ClassId} {b L N : Nat} {xs : Nat → Int32} (hl0 : l.stackTraces = false) (Z : gZ p s m #[Value.ref b] meth c code 8 RL (Cond.initialized RL :: gA) (fun q : Nat => s.heap.size ≤ q) D cls (tys ca)) (hT : gT RX4 strsH (fun q : Nat => s.heap.size ≤ q) s) (hX : va_X b L xs s s.heap) (hbl : b < s.heap.size) {vL : LT} {vD : DT} {vC : CT} {vM : MT} {vO : (Nat → Int64)} {y4 : Int32} {k : Nat} {u : LT × DT × CT × MT × (Nat → Int64)} (hk : k ≤ 599) (hf : fc_commit N L xs vL vD vC vM vO y4 = some u) (hK : gW p l e room_1 s m #[Value.ref b] below meth c 8 (fun q : Nat => s.heap.size ≤ q) D cls (22 + (k + 1)) (23025 + 6 * (k + 1)) Q (wH ad ++ wB ad ++ wL ad ca u.1 ++ wD ad ca u.2.1 ++ wC ad ca u.2.2.1 ++ wM ad ca u.2.2.2.1 ++ wO ad ca u.2.2.2.2) [(0, .ref b), (1, .ref (ad 0)), (2, .ref (ad 20)), (3, .ref (ad 30)), (4, .int y4)] 1180 []) : gW p l e room_1 s m #[Value.ref b] below meth c 8 (fun q : Nat => s.heap.size ≤ q) D cls (22 + k) (23025 + 6 * k) Q (wH ad ++ wB ad ++ wL ad ca vL ++ wD ad ca vD ++ wC ad ca vC ++ wM ad ca vM ++ wO ad ca vO) [(0, .ref b), (1, .ref (ad 0)), (2, .ref (ad 20)), (3, .ref (ad 30)), (4, .int y4)] 573 [] := by
  have hbA : ¬ (fun q : Nat => s.heap.size ≤ q) b := Nat.not_le.mpr hbl
  unfold fc_commit at hf
  refine g_aload_n (pc := 573) Z 1 dL_law_573 rfl ?_
  refine g_aload_n (pc := 574) Z 0 dL_law_574 rfl ?_
  refine g_iload (pc := 575) Z 4 dL_law_575 rfl ?_
  refine g_iconst (pc := 577) (v := 1) Z dL_law_577 (by decide) ?_
  refine g_iadd (pc := 578) Z dL_law_578 ?_
  obtain ⟨b1, hf⟩ := gGuard hf
  refine g_sld (pc := 579) Z hX hbl hbA dL_law_579 (gI_in b1) ?_
  refine g_if_eq (pc := 580) (tgt := 587) Z dL_law_580 (by decide) (fun c2 => ?_) (fun c2 => ?_)
  · replace hf := gIfP c2 hf
    refine g_iconst (pc := 587) (v := 0) Z dL_law_587 (by decide) ?_
    refine g_aload_n (pc := 588) Z 3 dL_law_588 rfl ?_
    obtain ⟨x3, h4, hf⟩ := Option.bind_eq_some_iff.mp hf
    refine g_calli (pc := 589) (ws2 := fun u => (wH ad ++ wB ad ++ wL ad ca u.1 ++ wD ad ca u.2.1 ++ wC ad ca u.2.2.1 ++ wM ad ca vM ++ wO ad ca u.2.2.2)) (wr := (wB ad ++ wM ad ca vM)) Z [0, 2, 3, 4, 5, 6, 7, 8, 9, 10, 11, 12, 21] [1, 13, 14, 15, 16, 17, 18, 19, 20] [9, 0, 10, 11, 12, 13, 14, 15, 16, 17, 18, 19, 20, 1, 2, 3, 4, 5, 6, 7, 8, 21] (g_runSW Z hT (c_Law_commit l hl0 D ad ca N vL vD vC vO false x3 h4) (vx_cwSW 3 Z.2.2.2.2.1 (gg_W wl132 wl133 wl78 wl134) rfl rfl rfl yd_Law_commit ⟨(Nat.le_of_ble_eq_true rfl), (Nat.le_of_ble_eq_true rfl)⟩) [0, 2, 3, 4, 5, 6, 7, 8, 9, 10, 11, 12, 21] rfl (by decide) rfl rfl (Nat.le_of_ble_eq_true rfl) dL_law_589 ⟨by show _ ≤ 1060; omega, by show _ ≤ 31301; omega⟩) rfl rfl (by decide) (by decide) (by decide) (fun _ => rfl) (fun r u hu => ?_)
    obtain ⟨rfl, rfl⟩ := hu
    refine g_istore (pc := 592) (lv' := [(5, .int x3.1), (0, .ref b), (1, .ref (ad 0)), (2, .ref (ad 20)), (3, .ref (ad 30)), (4, .int y4)]) Z dL_law_592 (by decide) rfl ?_
    refine g_aload_n (pc := 594) Z 3 dL_law_594 rfl ?_
    refine g_aload_n (pc := 595) Z 1 dL_law_595 rfl ?_
    refine g_iload (pc := 596) Z 5 dL_law_596 rfl ?_
    refine g_iconst (pc := 598) (v := 1) Z dL_law_598 (by decide) ?_
    refine g_iadd (pc := 599) Z dL_law_599 ?_
    obtain ⟨b5, hf⟩ := gGuard hf
    refine g_sld (pc := 600) Z hX hbl hbA dL_law_600 (gI_in b5) ?_
    refine g_if_eq (pc := 601) (tgt := 608) Z dL_law_601 (by decide) (fun c6 => ?_) (fun c6 => ?_)
    · replace hf := gIfP c6 hf
      refine g_iconst (pc := 608) (v := 0) Z dL_law_608 (by decide) ?_
      obtain ⟨x7, h8, hf⟩ := Option.bind_eq_some_iff.mp hf
      refine g_calli (pc := 609) (ws2 := fun u => (wH ad ++ wB ad ++ wL ad ca x3.2.1 ++ wD ad ca x3.2.2.1 ++ wC ad ca x3.2.2.2.1 ++ wM ad ca u ++ wO ad ca x3.2.2.2.2)) (wr := (wH ad ++ wB ad ++ wL ad ca x3.2.1 ++ wD ad ca x3.2.2.1 ++ wC ad ca x3.2.2.2.1 ++ wO ad ca x3.2.2.2.2)) Z [13, 14, 15, 16, 17, 18, 19, 20] [0, 1, 2, 3, 4, 5, 6, 7, 8, 9, 10, 11, 12, 21] [0, 1, 2, 3, 4, 5, 6, 7, 8, 9, 10, 11, 12, 14, 15, 16, 17, 18, 19, 20, 21, 13] (g_runV Z (c_Mod_commit l D ad ca N vM false x7 h8) (cwV 1 Z.2.2.2.2.1 (gg_V wl135 wl136 wl137 wl83 wl138) rfl rfl rfl (yv_of rfl yd_Mod_commit) ⟨Nat.le_of_ble_eq_true rfl, Nat.le_of_ble_eq_true rfl⟩) [13, 14, 15, 16, 17, 18, 19, 20] rfl (by decide) 0 rfl rfl rfl rfl rfl (Nat.le_of_ble_eq_true rfl) dL_law_609 ⟨by show _ ≤ 1060; omega, by show _ ≤ 31301; omega⟩) rfl rfl (by decide) (by decide) (by decide) (fun _ => rfl) (fun r u hu => ?_)
      obtain ⟨rfl, rfl⟩ := hu
      refine g_istore (pc := 612) (lv' := [(6, .int x7.1), (5, .int x3.1), (0, .ref b), (1, .ref (ad 0)), (2, .ref (ad 20)), (3, .ref (ad 30)), (4, .int y4)]) Z dL_law_612 (by decide) rfl ?_
      refine g_aload_n (pc := 614) Z 4 dL_law_614 rfl ?_
      obtain ⟨x9, h10, hf⟩ := Option.bind_eq_some_iff.mp hf
      refine g_calli (pc := 615) (ws2 := fun u => (wH ad ++ wB ad ++ wL ad ca x3.2.1 ++ wD ad ca x3.2.2.1 ++ wC ad ca x3.2.2.2.1 ++ wM ad ca x7.2 ++ wO ad ca x3.2.2.2.2)) (wr := (wH ad ++ wB ad ++ wL ad ca x3.2.1 ++ wD ad ca x3.2.2.1 ++ wC ad ca x3.2.2.2.1 ++ wO ad ca x3.2.2.2.2)) Z [13, 14, 15, 16, 17, 18, 19, 20] [0, 1, 2, 3, 4, 5, 6, 7, 8, 9, 10, 11, 12, 21] [0, 1, 2, 3, 4, 5, 6, 7, 8, 9, 10, 11, 12, 14, 15, 16, 17, 18, 19, 20, 21, 13] (g_runV Z (c_Mod_thrown l D ad ca x7.2 x9 h10) (cwV 0 Z.2.2.2.2.1 (gg_V wl85 wl86 wl87 wl83 wl88) rfl rfl rfl (yv_of rfl yd_Mod_thrown) ⟨Nat.le_of_ble_eq_true rfl, Nat.le_of_ble_eq_true rfl⟩) [13, 14, 15, 16, 17, 18, 19, 20] rfl (by decide) 0 rfl rfl rfl rfl rfl (Nat.le_of_ble_eq_true rfl) dL_law_615 ⟨by show _ ≤ 1060; omega, by show _ ≤ 31301; omega⟩) rfl rfl (by decide) (by decide) (by decide) (fun _ => rfl) (fun r u hu => ?_)
      obtain rfl := hu.symm
      refine g_iload (pc := 618) Z 1 dL_law_618 rfl ?_
      refine g_icmp_eq (pc := 620) (tgt := 625) Z dL_law_620 (by decide) (fun c11 => ?_) (fun c11 => ?_)
      · replace hf := gIfP c11 hf
        refine g_iload (pc := 625) Z 1 dL_law_625 rfl ?_
        refine g_if_ne (pc := 627) (tgt := 642) Z dL_law_627 (by decide) (fun c12 => ?_) (fun c12 => ?_)
        · replace hf := gIfN c12 hf
          refine g_goto (pc := 642) (tgt := 1180) Z dL_law_642 (by decide) ?_
          refine g_locals (lv2 := [(0, .ref b), (1, .ref (ad 0)), (2, .ref (ad 20)), (3, .ref (ad 30)), (4, .int y4)]) [2, 3, 4, 5, 6] rfl ?_
          refine g_widen (k := 22 + (k + 1)) (n := 23025 + 6 * (k + 1)) (by omega) (by omega) ?_
          obtain rfl := Option.some.inj hf
          exact hK
        · replace hf := gIfP c12 hf
          refine g_aload_n (pc := 630) Z 5 dL_law_630 rfl ?_
          refine g_iconst (pc := 631) (v := 0) Z dL_law_631 (by decide) ?_
          obtain ⟨b13, hf⟩ := gGuard hf
          refine g_lald (pc := 632) (f := x3.2.2.2.2) Z 21 0 dL_law_632 rfl rfl (gI_in b13) ?_
          refine g_iload (pc := 633) Z 0 dL_law_633 rfl ?_
          refine g_i2l (pc := 635) Z dL_law_635 ?_
          refine g_lcmp (pc := 636) Z dL_law_636 ?_
          refine g_if_eq (pc := 637) (tgt := 642) Z dL_law_637 (by decide) (fun c14 => ?_) (fun c14 => ?_)
          · replace hf := gIfP c14 hf
            refine g_goto (pc := 642) (tgt := 1180) Z dL_law_642 (by decide) ?_
            refine g_locals (lv2 := [(0, .ref b), (1, .ref (ad 0)), (2, .ref (ad 20)), (3, .ref (ad 30)), (4, .int y4)]) [2, 3, 4, 5, 6] rfl ?_
            refine g_widen (k := 22 + (k + 1)) (n := 23025 + 6 * (k + 1)) (by omega) (by omega) ?_
            obtain rfl := Option.some.inj hf
            exact hK
          · replace hf := gIfN c14 hf
            refine g_iconst (pc := 640) (v := 0) Z dL_law_640 (by decide) ?_
            exact absurd hf (fun h => by cases h)
      · replace hf := gIfN c11 hf
        refine g_iconst (pc := 623) (v := 0) Z dL_law_623 (by decide) ?_
        exact absurd hf (fun h => by cases h)
    · replace hf := gIfN c6 hf
      refine g_iconst (pc := 604) (v := 1) Z dL_law_604 (by decide) ?_
      refine g_goto (pc := 605) (tgt := 609) Z dL_law_605 (by decide) ?_
      obtain ⟨x15, h16, hf⟩ := Option.bind_eq_some_iff.mp hf
      refine g_calli (pc := 609) (ws2 := fun u => (wH ad ++ wB ad ++ wL ad ca x3.2.1 ++ wD ad ca x3.2.2.1 ++ wC ad ca x3.2.2.2.1 ++ wM ad ca u ++ wO ad ca x3.2.2.2.2)) (wr := (wH ad ++ wB ad ++ wL ad ca x3.2.1 ++ wD ad ca x3.2.2.1 ++ wC ad ca x3.2.2.2.1 ++ wO ad ca x3.2.2.2.2)) Z [13, 14, 15, 16, 17, 18, 19, 20] [0, 1, 2, 3, 4, 5, 6, 7, 8, 9, 10, 11, 12, 21] [0, 1, 2, 3, 4, 5, 6, 7, 8, 9, 10, 11, 12, 14, 15, 16, 17, 18, 19, 20, 21, 13] (g_runV Z (c_Mod_commit l D ad ca N vM true x15 h16) (cwV 1 Z.2.2.2.2.1 (gg_V wl135 wl136 wl137 wl83 wl138) rfl rfl rfl (yv_of rfl yd_Mod_commit) ⟨Nat.le_of_ble_eq_true rfl, Nat.le_of_ble_eq_true rfl⟩) [13, 14, 15, 16, 17, 18, 19, 20] rfl (by decide) 0 rfl rfl rfl rfl rfl (Nat.le_of_ble_eq_true rfl) dL_law_609 ⟨by show _ ≤ 1060; omega, by show _ ≤ 31301; omega⟩) rfl rfl (by decide) (by decide) (by decide) (fun _ => rfl) (fun r u hu => ?_)
      obtain ⟨rfl, rfl⟩ := hu
      refine g_istore (pc := 612) (lv' := [(6, .int x15.1), (5, .int x3.1), (0, .ref b), (1, .ref (ad 0)), (2, .ref (ad 20)), (3, .ref (ad 30)), (4, .int y4)]) Z dL_law_612 (by decide) rfl ?_
      refine g_aload_n (pc := 614) Z 4 dL_law_614 rfl ?_
      obtain ⟨x17, h18, hf⟩ := Option.bind_eq_some_iff.mp hf
      refine g_calli (pc := 615) (ws2 := fun u => (wH ad ++ wB ad ++ wL ad ca x3.2.1 ++ wD ad ca x3.2.2.1 ++ wC ad ca x3.2.2.2.1 ++ wM ad ca x15.2 ++ wO ad ca x3.2.2.2.2)) (wr := (wH ad ++ wB ad ++ wL ad ca x3.2.1 ++ wD ad ca x3.2.2.1 ++ wC ad ca x3.2.2.2.1 ++ wO ad ca x3.2.2.2.2)) Z [13, 14, 15, 16, 17, 18, 19, 20] [0, 1, 2, 3, 4, 5, 6, 7, 8, 9, 10, 11, 12, 21] [0, 1, 2, 3, 4, 5, 6, 7, 8, 9, 10, 11, 12, 14, 15, 16, 17, 18, 19, 20, 21, 13] (g_runV Z (c_Mod_thrown l D ad ca x15.2 x17 h18) (cwV 0 Z.2.2.2.2.1 (gg_V wl85 wl86 wl87 wl83 wl88) rfl rfl rfl (yv_of rfl yd_Mod_thrown) ⟨Nat.le_of_ble_eq_true rfl, Nat.le_of_ble_eq_true rfl⟩) [13, 14, 15, 16, 17, 18, 19, 20] rfl (by decide) 0 rfl rfl rfl rfl rfl (Nat.le_of_ble_eq_true rfl) dL_law_615 ⟨by show _ ≤ 1060; omega, by show _ ≤ 31301; omega⟩) rfl rfl (by decide) (by decide) (by decide) (fun _ => rfl) (fun r u hu => ?_)
      obtain rfl := hu.symm
      refine g_iload (pc := 618) Z 1 dL_law_618 rfl ?_
      refine g_icmp_eq (pc := 620) (tgt := 625) Z dL_law_620 (by decide) (fun c19 => ?_) (fun c19 => ?_)
      · replace hf := gIfP c19 hf
        refine g_iload (pc := 625) Z 1 dL_law_625 rfl ?_
        refine g_if_ne (pc := 627) (tgt := 642) Z dL_law_627 (by decide) (fun c20 => ?_) (fun c20 => ?_)
        · replace hf := gIfN c20 hf
          refine g_goto (pc := 642) (tgt := 1180) Z dL_law_642 (by decide) ?_
          refine g_locals (lv2 := [(0, .ref b), (1, .ref (ad 0)), (2, .ref (ad 20)), (3, .ref (ad 30)), (4, .int y4)]) [2, 3, 4, 5, 6] rfl ?_
          refine g_widen (k := 22 + (k + 1)) (n := 23025 + 6 * (k + 1)) (by omega) (by omega) ?_
          obtain rfl := Option.some.inj hf
          exact hK
        · replace hf := gIfP c20 hf
          refine g_aload_n (pc := 630) Z 5 dL_law_630 rfl ?_
          refine g_iconst (pc := 631) (v := 0) Z dL_law_631 (by decide) ?_
          obtain ⟨b21, hf⟩ := gGuard hf
          refine g_lald (pc := 632) (f := x3.2.2.2.2) Z 21 0 dL_law_632 rfl rfl (gI_in b21) ?_
          refine g_iload (pc := 633) Z 0 dL_law_633 rfl ?_
          refine g_i2l (pc := 635) Z dL_law_635 ?_
          refine g_lcmp (pc := 636) Z dL_law_636 ?_
          refine g_if_eq (pc := 637) (tgt := 642) Z dL_law_637 (by decide) (fun c22 => ?_) (fun c22 => ?_)
          · replace hf := gIfP c22 hf
            refine g_goto (pc := 642) (tgt := 1180) Z dL_law_642 (by decide) ?_
            refine g_locals (lv2 := [(0, .ref b), (1, .ref (ad 0)), (2, .ref (ad 20)), (3, .ref (ad 30)), (4, .int y4)]) [2, 3, 4, 5, 6] rfl ?_
            refine g_widen (k := 22 + (k + 1)) (n := 23025 + 6 * (k + 1)) (by omega) (by omega) ?_
            obtain rfl := Option.some.inj hf
            exact hK
          · replace hf := gIfN c22 hf
            refine g_iconst (pc := 640) (v := 0) Z dL_law_640 (by decide) ?_
            exact absurd hf (fun h => by cases h)
      · replace hf := gIfN c19 hf
        refine g_iconst (pc := 623) (v := 0) Z dL_law_623 (by decide) ?_
        exact absurd hf (fun h => by cases h)
  · replace hf := gIfN c2 hf
    refine g_iconst (pc := 583) (v := 1) Z dL_law_583 (by decide) ?_
    refine g_goto (pc := 584) (tgt := 588) Z dL_law_584 (by decide) ?_
    refine g_aload_n (pc := 588) Z 3 dL_law_588 rfl ?_
    obtain ⟨x23, h24, hf⟩ := Option.bind_eq_some_iff.mp hf
    refine g_calli (pc := 589) (ws2 := fun u => (wH ad ++ wB ad ++ wL ad ca u.1 ++ wD ad ca u.2.1 ++ wC ad ca u.2.2.1 ++ wM ad ca vM ++ wO ad ca u.2.2.2)) (wr := (wB ad ++ wM ad ca vM)) Z [0, 2, 3, 4, 5, 6, 7, 8, 9, 10, 11, 12, 21] [1, 13, 14, 15, 16, 17, 18, 19, 20] [9, 0, 10, 11, 12, 13, 14, 15, 16, 17, 18, 19, 20, 1, 2, 3, 4, 5, 6, 7, 8, 21] (g_runSW Z hT (c_Law_commit l hl0 D ad ca N vL vD vC vO true x23 h24) (vx_cwSW 3 Z.2.2.2.2.1 (gg_W wl132 wl133 wl78 wl134) rfl rfl rfl yd_Law_commit ⟨(Nat.le_of_ble_eq_true rfl), (Nat.le_of_ble_eq_true rfl)⟩) [0, 2, 3, 4, 5, 6, 7, 8, 9, 10, 11, 12, 21] rfl (by decide) rfl rfl (Nat.le_of_ble_eq_true rfl) dL_law_589 ⟨by show _ ≤ 1060; omega, by show _ ≤ 31301; omega⟩) rfl rfl (by decide) (by decide) (by decide) (fun _ => rfl) (fun r u hu => ?_)
    obtain ⟨rfl, rfl⟩ := hu
    refine g_istore (pc := 592) (lv' := [(5, .int x23.1), (0, .ref b), (1, .ref (ad 0)), (2, .ref (ad 20)), (3, .ref (ad 30)), (4, .int y4)]) Z dL_law_592 (by decide) rfl ?_
    refine g_aload_n (pc := 594) Z 3 dL_law_594 rfl ?_
    refine g_aload_n (pc := 595) Z 1 dL_law_595 rfl ?_
    refine g_iload (pc := 596) Z 5 dL_law_596 rfl ?_
    refine g_iconst (pc := 598) (v := 1) Z dL_law_598 (by decide) ?_
    refine g_iadd (pc := 599) Z dL_law_599 ?_
    obtain ⟨b25, hf⟩ := gGuard hf
    refine g_sld (pc := 600) Z hX hbl hbA dL_law_600 (gI_in b25) ?_
    refine g_if_eq (pc := 601) (tgt := 608) Z dL_law_601 (by decide) (fun c26 => ?_) (fun c26 => ?_)
    · replace hf := gIfP c26 hf
      refine g_iconst (pc := 608) (v := 0) Z dL_law_608 (by decide) ?_
      obtain ⟨x27, h28, hf⟩ := Option.bind_eq_some_iff.mp hf
      refine g_calli (pc := 609) (ws2 := fun u => (wH ad ++ wB ad ++ wL ad ca x23.2.1 ++ wD ad ca x23.2.2.1 ++ wC ad ca x23.2.2.2.1 ++ wM ad ca u ++ wO ad ca x23.2.2.2.2)) (wr := (wH ad ++ wB ad ++ wL ad ca x23.2.1 ++ wD ad ca x23.2.2.1 ++ wC ad ca x23.2.2.2.1 ++ wO ad ca x23.2.2.2.2)) Z [13, 14, 15, 16, 17, 18, 19, 20] [0, 1, 2, 3, 4, 5, 6, 7, 8, 9, 10, 11, 12, 21] [0, 1, 2, 3, 4, 5, 6, 7, 8, 9, 10, 11, 12, 14, 15, 16, 17, 18, 19, 20, 21, 13] (g_runV Z (c_Mod_commit l D ad ca N vM false x27 h28) (cwV 1 Z.2.2.2.2.1 (gg_V wl135 wl136 wl137 wl83 wl138) rfl rfl rfl (yv_of rfl yd_Mod_commit) ⟨Nat.le_of_ble_eq_true rfl, Nat.le_of_ble_eq_true rfl⟩) [13, 14, 15, 16, 17, 18, 19, 20] rfl (by decide) 0 rfl rfl rfl rfl rfl (Nat.le_of_ble_eq_true rfl) dL_law_609 ⟨by show _ ≤ 1060; omega, by show _ ≤ 31301; omega⟩) rfl rfl (by decide) (by decide) (by decide) (fun _ => rfl) (fun r u hu => ?_)
      obtain ⟨rfl, rfl⟩ := hu
      refine g_istore (pc := 612) (lv' := [(6, .int x27.1), (5, .int x23.1), (0, .ref b), (1, .ref (ad 0)), (2, .ref (ad 20)), (3, .ref (ad 30)), (4, .int y4)]) Z dL_law_612 (by decide) rfl ?_
      refine g_aload_n (pc := 614) Z 4 dL_law_614 rfl ?_
      obtain ⟨x29, h30, hf⟩ := Option.bind_eq_some_iff.mp hf
      refine g_calli (pc := 615) (ws2 := fun u => (wH ad ++ wB ad ++ wL ad ca x23.2.1 ++ wD ad ca x23.2.2.1 ++ wC ad ca x23.2.2.2.1 ++ wM ad ca x27.2 ++ wO ad ca x23.2.2.2.2)) (wr := (wH ad ++ wB ad ++ wL ad ca x23.2.1 ++ wD ad ca x23.2.2.1 ++ wC ad ca x23.2.2.2.1 ++ wO ad ca x23.2.2.2.2)) Z [13, 14, 15, 16, 17, 18, 19, 20] [0, 1, 2, 3, 4, 5, 6, 7, 8, 9, 10, 11, 12, 21] [0, 1, 2, 3, 4, 5, 6, 7, 8, 9, 10, 11, 12, 14, 15, 16, 17, 18, 19, 20, 21, 13] (g_runV Z (c_Mod_thrown l D ad ca x27.2 x29 h30) (cwV 0 Z.2.2.2.2.1 (gg_V wl85 wl86 wl87 wl83 wl88) rfl rfl rfl (yv_of rfl yd_Mod_thrown) ⟨Nat.le_of_ble_eq_true rfl, Nat.le_of_ble_eq_true rfl⟩) [13, 14, 15, 16, 17, 18, 19, 20] rfl (by decide) 0 rfl rfl rfl rfl rfl (Nat.le_of_ble_eq_true rfl) dL_law_615 ⟨by show _ ≤ 1060; omega, by show _ ≤ 31301; omega⟩) rfl rfl (by decide) (by decide) (by decide) (fun _ => rfl) (fun r u hu => ?_)
      obtain rfl := hu.symm
      refine g_iload (pc := 618) Z 1 dL_law_618 rfl ?_
      refine g_icmp_eq (pc := 620) (tgt := 625) Z dL_law_620 (by decide) (fun c31 => ?_) (fun c31 => ?_)
      · replace hf := gIfP c31 hf
        refine g_iload (pc := 625) Z 1 dL_law_625 rfl ?_
        refine g_if_ne (pc := 627) (tgt := 642) Z dL_law_627 (by decide) (fun c32 => ?_) (fun c32 => ?_)
        · replace hf := gIfN c32 hf
          refine g_goto (pc := 642) (tgt := 1180) Z dL_law_642 (by decide) ?_
          refine g_locals (lv2 := [(0, .ref b), (1, .ref (ad 0)), (2, .ref (ad 20)), (3, .ref (ad 30)), (4, .int y4)]) [2, 3, 4, 5, 6] rfl ?_
          refine g_widen (k := 22 + (k + 1)) (n := 23025 + 6 * (k + 1)) (by omega) (by omega) ?_
          obtain rfl := Option.some.inj hf
          exact hK
        · replace hf := gIfP c32 hf
          refine g_aload_n (pc := 630) Z 5 dL_law_630 rfl ?_
          refine g_iconst (pc := 631) (v := 0) Z dL_law_631 (by decide) ?_
          obtain ⟨b33, hf⟩ := gGuard hf
          refine g_lald (pc := 632) (f := x23.2.2.2.2) Z 21 0 dL_law_632 rfl rfl (gI_in b33) ?_
          refine g_iload (pc := 633) Z 0 dL_law_633 rfl ?_
          refine g_i2l (pc := 635) Z dL_law_635 ?_
          refine g_lcmp (pc := 636) Z dL_law_636 ?_
          refine g_if_eq (pc := 637) (tgt := 642) Z dL_law_637 (by decide) (fun c34 => ?_) (fun c34 => ?_)
          · replace hf := gIfP c34 hf
            refine g_goto (pc := 642) (tgt := 1180) Z dL_law_642 (by decide) ?_
            refine g_locals (lv2 := [(0, .ref b), (1, .ref (ad 0)), (2, .ref (ad 20)), (3, .ref (ad 30)), (4, .int y4)]) [2, 3, 4, 5, 6] rfl ?_
            refine g_widen (k := 22 + (k + 1)) (n := 23025 + 6 * (k + 1)) (by omega) (by omega) ?_
            obtain rfl := Option.some.inj hf
            exact hK
          · replace hf := gIfN c34 hf
            refine g_iconst (pc := 640) (v := 0) Z dL_law_640 (by decide) ?_
            exact absurd hf (fun h => by cases h)
      · replace hf := gIfN c31 hf
        refine g_iconst (pc := 623) (v := 0) Z dL_law_623 (by decide) ?_
        exact absurd hf (fun h => by cases h)
    · replace hf := gIfN c26 hf
      refine g_iconst (pc := 604) (v := 1) Z dL_law_604 (by decide) ?_
      refine g_goto (pc := 605) (tgt := 609) Z dL_law_605 (by decide) ?_
      obtain ⟨x35, h36, hf⟩ := Option.bind_eq_some_iff.mp hf
      refine g_calli (pc := 609) (ws2 := fun u => (wH ad ++ wB ad ++ wL ad ca x23.2.1 ++ wD ad ca x23.2.2.1 ++ wC ad ca x23.2.2.2.1 ++ wM ad ca u ++ wO ad ca x23.2.2.2.2)) (wr := (wH ad ++ wB ad ++ wL ad ca x23.2.1 ++ wD ad ca x23.2.2.1 ++ wC ad ca x23.2.2.2.1 ++ wO ad ca x23.2.2.2.2)) Z [13, 14, 15, 16, 17, 18, 19, 20] [0, 1, 2, 3, 4, 5, 6, 7, 8, 9, 10, 11, 12, 21] [0, 1, 2, 3, 4, 5, 6, 7, 8, 9, 10, 11, 12, 14, 15, 16, 17, 18, 19, 20, 21, 13] (g_runV Z (c_Mod_commit l D ad ca N vM true x35 h36) (cwV 1 Z.2.2.2.2.1 (gg_V wl135 wl136 wl137 wl83 wl138) rfl rfl rfl (yv_of rfl yd_Mod_commit) ⟨Nat.le_of_ble_eq_true rfl, Nat.le_of_ble_eq_true rfl⟩) [13, 14, 15, 16, 17, 18, 19, 20] rfl (by decide) 0 rfl rfl rfl rfl rfl (Nat.le_of_ble_eq_true rfl) dL_law_609 ⟨by show _ ≤ 1060; omega, by show _ ≤ 31301; omega⟩) rfl rfl (by decide) (by decide) (by decide) (fun _ => rfl) (fun r u hu => ?_)
      obtain ⟨rfl, rfl⟩ := hu
      refine g_istore (pc := 612) (lv' := [(6, .int x35.1), (5, .int x23.1), (0, .ref b), (1, .ref (ad 0)), (2, .ref (ad 20)), (3, .ref (ad 30)), (4, .int y4)]) Z dL_law_612 (by decide) rfl ?_
      refine g_aload_n (pc := 614) Z 4 dL_law_614 rfl ?_
      obtain ⟨x37, h38, hf⟩ := Option.bind_eq_some_iff.mp hf
      refine g_calli (pc := 615) (ws2 := fun u => (wH ad ++ wB ad ++ wL ad ca x23.2.1 ++ wD ad ca x23.2.2.1 ++ wC ad ca x23.2.2.2.1 ++ wM ad ca x35.2 ++ wO ad ca x23.2.2.2.2)) (wr := (wH ad ++ wB ad ++ wL ad ca x23.2.1 ++ wD ad ca x23.2.2.1 ++ wC ad ca x23.2.2.2.1 ++ wO ad ca x23.2.2.2.2)) Z [13, 14, 15, 16, 17, 18, 19, 20] [0, 1, 2, 3, 4, 5, 6, 7, 8, 9, 10, 11, 12, 21] [0, 1, 2, 3, 4, 5, 6, 7, 8, 9, 10, 11, 12, 14, 15, 16, 17, 18, 19, 20, 21, 13] (g_runV Z (c_Mod_thrown l D ad ca x35.2 x37 h38) (cwV 0 Z.2.2.2.2.1 (gg_V wl85 wl86 wl87 wl83 wl88) rfl rfl rfl (yv_of rfl yd_Mod_thrown) ⟨Nat.le_of_ble_eq_true rfl, Nat.le_of_ble_eq_true rfl⟩) [13, 14, 15, 16, 17, 18, 19, 20] rfl (by decide) 0 rfl rfl rfl rfl rfl (Nat.le_of_ble_eq_true rfl) dL_law_615 ⟨by show _ ≤ 1060; omega, by show _ ≤ 31301; omega⟩) rfl rfl (by decide) (by decide) (by decide) (fun _ => rfl) (fun r u hu => ?_)
      obtain rfl := hu.symm
      refine g_iload (pc := 618) Z 1 dL_law_618 rfl ?_
      refine g_icmp_eq (pc := 620) (tgt := 625) Z dL_law_620 (by decide) (fun c39 => ?_) (fun c39 => ?_)
      · replace hf := gIfP c39 hf
        refine g_iload (pc := 625) Z 1 dL_law_625 rfl ?_
        refine g_if_ne (pc := 627) (tgt := 642) Z dL_law_627 (by decide) (fun c40 => ?_) (fun c40 => ?_)
        · replace hf := gIfN c40 hf
          refine g_goto (pc := 642) (tgt := 1180) Z dL_law_642 (by decide) ?_
          refine g_locals (lv2 := [(0, .ref b), (1, .ref (ad 0)), (2, .ref (ad 20)), (3, .ref (ad 30)), (4, .int y4)]) [2, 3, 4, 5, 6] rfl ?_
          refine g_widen (k := 22 + (k + 1)) (n := 23025 + 6 * (k + 1)) (by omega) (by omega) ?_
          obtain rfl := Option.some.inj hf
          exact hK
        · replace hf := gIfP c40 hf
          refine g_aload_n (pc := 630) Z 5 dL_law_630 rfl ?_
          refine g_iconst (pc := 631) (v := 0) Z dL_law_631 (by decide) ?_
          obtain ⟨b41, hf⟩ := gGuard hf
          refine g_lald (pc := 632) (f := x23.2.2.2.2) Z 21 0 dL_law_632 rfl rfl (gI_in b41) ?_
          refine g_iload (pc := 633) Z 0 dL_law_633 rfl ?_
          refine g_i2l (pc := 635) Z dL_law_635 ?_
          refine g_lcmp (pc := 636) Z dL_law_636 ?_
          refine g_if_eq (pc := 637) (tgt := 642) Z dL_law_637 (by decide) (fun c42 => ?_) (fun c42 => ?_)
          · replace hf := gIfP c42 hf
            refine g_goto (pc := 642) (tgt := 1180) Z dL_law_642 (by decide) ?_
            refine g_locals (lv2 := [(0, .ref b), (1, .ref (ad 0)), (2, .ref (ad 20)), (3, .ref (ad 30)), (4, .int y4)]) [2, 3, 4, 5, 6] rfl ?_
            refine g_widen (k := 22 + (k + 1)) (n := 23025 + 6 * (k + 1)) (by omega) (by omega) ?_
            obtain rfl := Option.some.inj hf
            exact hK
          · replace hf := gIfN c42 hf
            refine g_iconst (pc := 640) (v := 0) Z dL_law_640 (by decide) ?_
            exact absurd hf (fun h => by cases h)
      · replace hf := gIfN c39 hf
        refine g_iconst (pc := 623) (v := 0) Z dL_law_623 (by decide) ?_
        exact absurd hf (fun h => by cases h)
theorem wl139 : Cond.methodLink RL 117 yL_sync ∈ gA := wt2 222 rfl rfl
theorem wl140 : Cond.static yL_sync ∈ gA := wt2 223 rfl rfl
theorem wl141 : cd_Law_sync ∈ gA := wt2 224 rfl rfl
theorem wl142 : Cond.methodLink RL 119 yX5_sync ∈ gA := wt4 89 rfl rfl
theorem wl143 : Cond.instanceMethod yX5_sync ∈ gA := wt4 90 rfl rfl
theorem wl144 : Cond.selects RX5 yX5_sync yX5_sync ∈ gA := wt4 91 rfl rfl
theorem wl145 : cd_Mod_sync ∈ gA := wt4 92 rfl rfl
def fc_sync (N L : Nat) (xs : Nat → Int32) (vL : LT) (vD : DT) (vC : CT) (vM : MT) (vO : (Nat → Int64)) (y4 : Int32) : Option (LT × DT × CT × MT × (Nat → Int64)) :=
  (f_Law_sync N vD vO).bind fun x1 => (f_Mod_sync N vM).bind fun x3 => (f_Mod_thrown x3.2).bind fun x5 => if x5 = x1.1 then if x1.1 = 0 then if gI (0 : Int32) 1 = true then if (lg_cmp (x1.2.2 (0 : Int32).toNatClampNeg) x3.1.toInt64) = 0 then some (vL, x1.2.1, vC, x3.2, x1.2.2) else none else none else some (vL, x1.2.1, vC, x3.2, x1.2.2) else none
set_option maxHeartbeats 40000000 in
set_option maxRecDepth 100000 in
theorem w_case_sync {p : Program} {l : Launch} {e : Env} {s : State} {m : MethodId} {below : List Frame} {meth : Method} {c : Code} {Q : State → Prop} {D : va_G} {ad : Nat → Nat} {ca : Nat → ClassId} {b L N : Nat} {xs : Nat → Int32} (hl0 : l.stackTraces = false) (Z : gZ p s m #[Value.ref b] meth c code 8 RL (Cond.initialized RL :: gA) (fun q : Nat => s.heap.size ≤ q) D cls (tys ca)) (hT : gT RX4 strsH (fun q : Nat => s.heap.size ≤ q) s) (hX : va_X b L xs s s.heap) (hbl : b < s.heap.size) {vL : LT} {vD : DT} {vC : CT} {vM : MT} {vO : (Nat → Int64)} {y4 : Int32} {k : Nat} {u : LT × DT × CT × MT × (Nat → Int64)} (hk : k ≤ 599) (hf : fc_sync N L xs vL vD vC vM vO y4 = some u) (hK : gW p l e room_1 s m #[Value.ref b] below meth c 8 (fun q : Nat => s.heap.size ≤ q) D cls (22 + (k + 1)) (23025 + 6 * (k + 1)) Q (wH ad ++ wB ad ++ wL ad ca u.1 ++ wD ad ca u.2.1 ++ wC ad ca u.2.2.1 ++ wM ad ca u.2.2.2.1 ++ wO ad ca u.2.2.2.2) [(0, .ref b), (1, .ref (ad 0)), (2, .ref (ad 20)), (3, .ref (ad 30)), (4, .int y4)] 1180 []) : gW p l e room_1 s m #[Value.ref b] below meth c 8 (fun q : Nat => s.heap.size ≤ q) D cls (22 + k) (23025 + 6 * k) Q (wH ad ++ wB ad ++ wL ad ca vL ++ wD ad ca vD ++ wC ad ca vC ++ wM ad ca vM ++ wO ad ca vO) [(0, .ref b), (1, .ref (ad 0)), (2, .ref (ad 20)), (3, .ref (ad 30)), (4, .int y4)] 645 [] := by
  have hbA : ¬ (fun q : Nat => s.heap.size ≤ q) b := Nat.not_le.mpr hbl
  unfold fc_sync at hf
  refine g_aload_n (pc := 645) Z 1 dL_law_645 rfl ?_
  refine g_aload_n (pc := 646) Z 3 dL_law_646 rfl ?_
  obtain ⟨x1, h2, hf⟩ := Option.bind_eq_some_iff.mp hf
  refine g_calli (pc := 647) (ws2 := fun u => (wH ad ++ wB ad ++ wL ad ca vL ++ wD ad ca u.1 ++ wC ad ca vC ++ wM ad ca vM ++ wO ad ca u.2)) (wr := (wB ad ++ wL ad ca vL ++ wC ad ca vC ++ wM ad ca vM)) Z [0, 3, 4, 5, 6, 7, 21] [1, 2, 8, 9, 10, 11, 12, 13, 14, 15, 16, 17, 18, 19, 20] [15, 0, 1, 16, 17, 18, 19, 20, 2, 3, 4, 5, 6, 7, 8, 9, 10, 11, 12, 13, 14, 21] (g_runSW Z hT (c_Law_sync l hl0 D ad ca N vD vO x1 h2) (vx_cwSW 2 Z.2.2.2.2.1 (gg_W wl139 wl140 wl78 wl141) rfl rfl rfl yd_Law_sync ⟨(Nat.le_of_ble_eq_true rfl), (Nat.le_of_ble_eq_true rfl)⟩) [0, 3, 4, 5, 6, 7, 21] rfl (by decide) rfl rfl (Nat.le_of_ble_eq_true rfl) dL_law_647 ⟨by show _ ≤ 1060; omega, by show _ ≤ 31301; omega⟩) rfl rfl (by decide) (by decide) (by decide) (fun _ => rfl) (fun r u hu => ?_)
  obtain ⟨rfl, rfl⟩ := hu
  refine g_istore (pc := 650) (lv' := [(5, .int x1.1), (0, .ref b), (1, .ref (ad 0)), (2, .ref (ad 20)), (3, .ref (ad 30)), (4, .int y4)]) Z dL_law_650 (by decide) rfl ?_
  refine g_aload_n (pc := 652) Z 3 dL_law_652 rfl ?_
  obtain ⟨x3, h4, hf⟩ := Option.bind_eq_some_iff.mp hf
  refine g_calli (pc := 653) (ws2 := fun u => (wH ad ++ wB ad ++ wL ad ca vL ++ wD ad ca x1.2.1 ++ wC ad ca vC ++ wM ad ca u ++ wO ad ca x1.2.2)) (wr := (wH ad ++ wB ad ++ wL ad ca vL ++ wD ad ca x1.2.1 ++ wC ad ca vC ++ wO ad ca x1.2.2)) Z [13, 14, 15, 16, 17, 18, 19, 20] [0, 1, 2, 3, 4, 5, 6, 7, 8, 9, 10, 11, 12, 21] [0, 1, 2, 3, 4, 5, 6, 7, 8, 9, 10, 11, 12, 14, 15, 16, 17, 18, 19, 20, 21, 13] (g_runV Z (c_Mod_sync l D ad ca N vM x3 h4) (cwV 0 Z.2.2.2.2.1 (gg_V wl142 wl143 wl144 wl83 wl145) rfl rfl rfl (yv_of rfl yd_Mod_sync) ⟨Nat.le_of_ble_eq_true rfl, Nat.le_of_ble_eq_true rfl⟩) [13, 14, 15, 16, 17, 18, 19, 20] rfl (by decide) 0 rfl rfl rfl rfl rfl (Nat.le_of_ble_eq_true rfl) dL_law_653 ⟨by show _ ≤ 1060; omega, by show _ ≤ 31301; omega⟩) rfl rfl (by decide) (by decide) (by decide) (fun _ => rfl) (fun r u hu => ?_)
  obtain ⟨rfl, rfl⟩ := hu
  refine g_istore (pc := 656) (lv' := [(6, .int x3.1), (5, .int x1.1), (0, .ref b), (1, .ref (ad 0)), (2, .ref (ad 20)), (3, .ref (ad 30)), (4, .int y4)]) Z dL_law_656 (by decide) rfl ?_
  refine g_aload_n (pc := 658) Z 4 dL_law_658 rfl ?_
  obtain ⟨x5, h6, hf⟩ := Option.bind_eq_some_iff.mp hf
  refine g_calli (pc := 659) (ws2 := fun u => (wH ad ++ wB ad ++ wL ad ca vL ++ wD ad ca x1.2.1 ++ wC ad ca vC ++ wM ad ca x3.2 ++ wO ad ca x1.2.2)) (wr := (wH ad ++ wB ad ++ wL ad ca vL ++ wD ad ca x1.2.1 ++ wC ad ca vC ++ wO ad ca x1.2.2)) Z [13, 14, 15, 16, 17, 18, 19, 20] [0, 1, 2, 3, 4, 5, 6, 7, 8, 9, 10, 11, 12, 21] [0, 1, 2, 3, 4, 5, 6, 7, 8, 9, 10, 11, 12, 14, 15, 16, 17, 18, 19, 20, 21, 13] (g_runV Z (c_Mod_thrown l D ad ca x3.2 x5 h6) (cwV 0 Z.2.2.2.2.1 (gg_V wl85 wl86 wl87 wl83 wl88) rfl rfl rfl (yv_of rfl yd_Mod_thrown) ⟨Nat.le_of_ble_eq_true rfl, Nat.le_of_ble_eq_true rfl⟩) [13, 14, 15, 16, 17, 18, 19, 20] rfl (by decide) 0 rfl rfl rfl rfl rfl (Nat.le_of_ble_eq_true rfl) dL_law_659 ⟨by show _ ≤ 1060; omega, by show _ ≤ 31301; omega⟩) rfl rfl (by decide) (by decide) (by decide) (fun _ => rfl) (fun r u hu => ?_)
  obtain rfl := hu.symm
  refine g_iload (pc := 662) Z 1 dL_law_662 rfl ?_
  refine g_icmp_eq (pc := 664) (tgt := 669) Z dL_law_664 (by decide) (fun c7 => ?_) (fun c7 => ?_)
  · replace hf := gIfP c7 hf
    refine g_iload (pc := 669) Z 1 dL_law_669 rfl ?_
    refine g_if_ne (pc := 671) (tgt := 686) Z dL_law_671 (by decide) (fun c8 => ?_) (fun c8 => ?_)
    · replace hf := gIfN c8 hf
      refine g_goto (pc := 686) (tgt := 1180) Z dL_law_686 (by decide) ?_
      refine g_locals (lv2 := [(0, .ref b), (1, .ref (ad 0)), (2, .ref (ad 20)), (3, .ref (ad 30)), (4, .int y4)]) [2, 3, 4, 5, 6] rfl ?_
      refine g_widen (k := 22 + (k + 1)) (n := 23025 + 6 * (k + 1)) (by omega) (by omega) ?_
      obtain rfl := Option.some.inj hf
      exact hK
    · replace hf := gIfP c8 hf
      refine g_aload_n (pc := 674) Z 5 dL_law_674 rfl ?_
      refine g_iconst (pc := 675) (v := 0) Z dL_law_675 (by decide) ?_
      obtain ⟨b9, hf⟩ := gGuard hf
      refine g_lald (pc := 676) (f := x1.2.2) Z 21 0 dL_law_676 rfl rfl (gI_in b9) ?_
      refine g_iload (pc := 677) Z 0 dL_law_677 rfl ?_
      refine g_i2l (pc := 679) Z dL_law_679 ?_
      refine g_lcmp (pc := 680) Z dL_law_680 ?_
      refine g_if_eq (pc := 681) (tgt := 686) Z dL_law_681 (by decide) (fun c10 => ?_) (fun c10 => ?_)
      · replace hf := gIfP c10 hf
        refine g_goto (pc := 686) (tgt := 1180) Z dL_law_686 (by decide) ?_
        refine g_locals (lv2 := [(0, .ref b), (1, .ref (ad 0)), (2, .ref (ad 20)), (3, .ref (ad 30)), (4, .int y4)]) [2, 3, 4, 5, 6] rfl ?_
        refine g_widen (k := 22 + (k + 1)) (n := 23025 + 6 * (k + 1)) (by omega) (by omega) ?_
        obtain rfl := Option.some.inj hf
        exact hK
      · replace hf := gIfN c10 hf
        refine g_iconst (pc := 684) (v := 0) Z dL_law_684 (by decide) ?_
        exact absurd hf (fun h => by cases h)
  · replace hf := gIfN c7 hf
    refine g_iconst (pc := 667) (v := 0) Z dL_law_667 (by decide) ?_
    exact absurd hf (fun h => by cases h)
theorem wl146 : Cond.methodLink RL 120 yL_abort ∈ gA := wt2 234 rfl rfl
theorem wl147 : Cond.static yL_abort ∈ gA := wt2 235 rfl rfl
theorem wl148 : cd_Law_abort ∈ gA := wt2 236 rfl rfl
theorem wl149 : Cond.methodLink RL 122 yX5_abort ∈ gA := wt4 93 rfl rfl
theorem wl150 : Cond.instanceMethod yX5_abort ∈ gA := wt4 94 rfl rfl
theorem wl151 : Cond.selects RX5 yX5_abort yX5_abort ∈ gA := wt4 95 rfl rfl
theorem wl152 : cd_Mod_abort ∈ gA := wt4 96 rfl rfl
def fc_abort (N L : Nat) (xs : Nat → Int32) (vL : LT) (vD : DT) (vC : CT) (vM : MT) (vO : (Nat → Int64)) (y4 : Int32) : Option (LT × DT × CT × MT × (Nat → Int64)) :=
  (f_Law_abort N vD vC vO).bind fun x1 => (f_Mod_abort N vM).bind fun x3 => (f_Mod_thrown x3.2).bind fun x5 => if x5 = x1.1 then if x1.1 = 0 then if gI (0 : Int32) 1 = true then if (lg_cmp (x1.2.2 (0 : Int32).toNatClampNeg) x3.1.toInt64) = 0 then some (vL, vD, x1.2.1, x3.2, x1.2.2) else none else none else some (vL, vD, x1.2.1, x3.2, x1.2.2) else none
set_option maxHeartbeats 40000000 in
set_option maxRecDepth 100000 in
theorem w_case_abort {p : Program} {l : Launch} {e : Env} {s : State} {m : MethodId} {below : List Frame} {meth : Method} {c : Code} {Q : State → Prop} {D : va_G} {ad : Nat → Nat} {ca : Nat → ClassId} {b L N : Nat} {xs : Nat → Int32} (hl0 : l.stackTraces = false) (Z : gZ p s m #[Value.ref b] meth c code 8 RL (Cond.initialized RL :: gA) (fun q : Nat => s.heap.size ≤ q) D cls (tys ca)) (hT : gT RX4 strsH (fun q : Nat => s.heap.size ≤ q) s) (hX : va_X b L xs s s.heap) (hbl : b < s.heap.size) {vL : LT} {vD : DT} {vC : CT} {vM : MT} {vO : (Nat → Int64)} {y4 : Int32} {k : Nat} {u : LT × DT × CT × MT × (Nat → Int64)} (hk : k ≤ 599) (hf : fc_abort N L xs vL vD vC vM vO y4 = some u) (hK : gW p l e room_1 s m #[Value.ref b] below meth c 8 (fun q : Nat => s.heap.size ≤ q) D cls (22 + (k + 1)) (23025 + 6 * (k + 1)) Q (wH ad ++ wB ad ++ wL ad ca u.1 ++ wD ad ca u.2.1 ++ wC ad ca u.2.2.1 ++ wM ad ca u.2.2.2.1 ++ wO ad ca u.2.2.2.2) [(0, .ref b), (1, .ref (ad 0)), (2, .ref (ad 20)), (3, .ref (ad 30)), (4, .int y4)] 1180 []) : gW p l e room_1 s m #[Value.ref b] below meth c 8 (fun q : Nat => s.heap.size ≤ q) D cls (22 + k) (23025 + 6 * k) Q (wH ad ++ wB ad ++ wL ad ca vL ++ wD ad ca vD ++ wC ad ca vC ++ wM ad ca vM ++ wO ad ca vO) [(0, .ref b), (1, .ref (ad 0)), (2, .ref (ad 20)), (3, .ref (ad 30)), (4, .int y4)] 689 [] := by
  have hbA : ¬ (fun q : Nat => s.heap.size ≤ q) b := Nat.not_le.mpr hbl
  unfold fc_abort at hf
  refine g_aload_n (pc := 689) Z 1 dL_law_689 rfl ?_
  refine g_aload_n (pc := 690) Z 3 dL_law_690 rfl ?_
  obtain ⟨x1, h2, hf⟩ := Option.bind_eq_some_iff.mp hf
  refine g_calli (pc := 691) (ws2 := fun u => (wH ad ++ wB ad ++ wL ad ca vL ++ wD ad ca vD ++ wC ad ca u.1 ++ wM ad ca vM ++ wO ad ca u.2)) (wr := (wB ad ++ wL ad ca vL ++ wM ad ca vM)) Z [0, 3, 4, 5, 6, 7, 8, 9, 10, 11, 12, 21] [1, 2, 13, 14, 15, 16, 17, 18, 19, 20] [10, 0, 1, 11, 12, 13, 14, 15, 16, 17, 18, 19, 20, 2, 3, 4, 5, 6, 7, 8, 9, 21] (g_runSW Z hT (c_Law_abort l hl0 D ad ca N vD vC vO x1 h2) (vx_cwSW 2 Z.2.2.2.2.1 (gg_W wl146 wl147 wl78 wl148) rfl rfl rfl yd_Law_abort ⟨(Nat.le_of_ble_eq_true rfl), (Nat.le_of_ble_eq_true rfl)⟩) [0, 3, 4, 5, 6, 7, 8, 9, 10, 11, 12, 21] rfl (by decide) rfl rfl (Nat.le_of_ble_eq_true rfl) dL_law_691 ⟨by show _ ≤ 1060; omega, by show _ ≤ 31301; omega⟩) rfl rfl (by decide) (by decide) (by decide) (fun _ => rfl) (fun r u hu => ?_)
  obtain ⟨rfl, rfl⟩ := hu
  refine g_istore (pc := 694) (lv' := [(5, .int x1.1), (0, .ref b), (1, .ref (ad 0)), (2, .ref (ad 20)), (3, .ref (ad 30)), (4, .int y4)]) Z dL_law_694 (by decide) rfl ?_
  refine g_aload_n (pc := 696) Z 3 dL_law_696 rfl ?_
  obtain ⟨x3, h4, hf⟩ := Option.bind_eq_some_iff.mp hf
  refine g_calli (pc := 697) (ws2 := fun u => (wH ad ++ wB ad ++ wL ad ca vL ++ wD ad ca vD ++ wC ad ca x1.2.1 ++ wM ad ca u ++ wO ad ca x1.2.2)) (wr := (wH ad ++ wB ad ++ wL ad ca vL ++ wD ad ca vD ++ wC ad ca x1.2.1 ++ wO ad ca x1.2.2)) Z [13, 14, 15, 16, 17, 18, 19, 20] [0, 1, 2, 3, 4, 5, 6, 7, 8, 9, 10, 11, 12, 21] [0, 1, 2, 3, 4, 5, 6, 7, 8, 9, 10, 11, 12, 14, 15, 16, 17, 18, 19, 20, 21, 13] (g_runV Z (c_Mod_abort l D ad ca N vM x3 h4) (cwV 0 Z.2.2.2.2.1 (gg_V wl149 wl150 wl151 wl83 wl152) rfl rfl rfl (yv_of rfl yd_Mod_abort) ⟨Nat.le_of_ble_eq_true rfl, Nat.le_of_ble_eq_true rfl⟩) [13, 14, 15, 16, 17, 18, 19, 20] rfl (by decide) 0 rfl rfl rfl rfl rfl (Nat.le_of_ble_eq_true rfl) dL_law_697 ⟨by show _ ≤ 1060; omega, by show _ ≤ 31301; omega⟩) rfl rfl (by decide) (by decide) (by decide) (fun _ => rfl) (fun r u hu => ?_)
  obtain ⟨rfl, rfl⟩ := hu
  refine g_istore (pc := 700) (lv' := [(6, .int x3.1), (5, .int x1.1), (0, .ref b), (1, .ref (ad 0)), (2, .ref (ad 20)), (3, .ref (ad 30)), (4, .int y4)]) Z dL_law_700 (by decide) rfl ?_
  refine g_aload_n (pc := 702) Z 4 dL_law_702 rfl ?_
  obtain ⟨x5, h6, hf⟩ := Option.bind_eq_some_iff.mp hf
  refine g_calli (pc := 703) (ws2 := fun u => (wH ad ++ wB ad ++ wL ad ca vL ++ wD ad ca vD ++ wC ad ca x1.2.1 ++ wM ad ca x3.2 ++ wO ad ca x1.2.2)) (wr := (wH ad ++ wB ad ++ wL ad ca vL ++ wD ad ca vD ++ wC ad ca x1.2.1 ++ wO ad ca x1.2.2)) Z [13, 14, 15, 16, 17, 18, 19, 20] [0, 1, 2, 3, 4, 5, 6, 7, 8, 9, 10, 11, 12, 21] [0, 1, 2, 3, 4, 5, 6, 7, 8, 9, 10, 11, 12, 14, 15, 16, 17, 18, 19, 20, 21, 13] (g_runV Z (c_Mod_thrown l D ad ca x3.2 x5 h6) (cwV 0 Z.2.2.2.2.1 (gg_V wl85 wl86 wl87 wl83 wl88) rfl rfl rfl (yv_of rfl yd_Mod_thrown) ⟨Nat.le_of_ble_eq_true rfl, Nat.le_of_ble_eq_true rfl⟩) [13, 14, 15, 16, 17, 18, 19, 20] rfl (by decide) 0 rfl rfl rfl rfl rfl (Nat.le_of_ble_eq_true rfl) dL_law_703 ⟨by show _ ≤ 1060; omega, by show _ ≤ 31301; omega⟩) rfl rfl (by decide) (by decide) (by decide) (fun _ => rfl) (fun r u hu => ?_)
  obtain rfl := hu.symm
  refine g_iload (pc := 706) Z 1 dL_law_706 rfl ?_
  refine g_icmp_eq (pc := 708) (tgt := 713) Z dL_law_708 (by decide) (fun c7 => ?_) (fun c7 => ?_)
  · replace hf := gIfP c7 hf
    refine g_iload (pc := 713) Z 1 dL_law_713 rfl ?_
    refine g_if_ne (pc := 715) (tgt := 730) Z dL_law_715 (by decide) (fun c8 => ?_) (fun c8 => ?_)
    · replace hf := gIfN c8 hf
      refine g_goto (pc := 730) (tgt := 1180) Z dL_law_730 (by decide) ?_
      refine g_locals (lv2 := [(0, .ref b), (1, .ref (ad 0)), (2, .ref (ad 20)), (3, .ref (ad 30)), (4, .int y4)]) [2, 3, 4, 5, 6] rfl ?_
      refine g_widen (k := 22 + (k + 1)) (n := 23025 + 6 * (k + 1)) (by omega) (by omega) ?_
      obtain rfl := Option.some.inj hf
      exact hK
    · replace hf := gIfP c8 hf
      refine g_aload_n (pc := 718) Z 5 dL_law_718 rfl ?_
      refine g_iconst (pc := 719) (v := 0) Z dL_law_719 (by decide) ?_
      obtain ⟨b9, hf⟩ := gGuard hf
      refine g_lald (pc := 720) (f := x1.2.2) Z 21 0 dL_law_720 rfl rfl (gI_in b9) ?_
      refine g_iload (pc := 721) Z 0 dL_law_721 rfl ?_
      refine g_i2l (pc := 723) Z dL_law_723 ?_
      refine g_lcmp (pc := 724) Z dL_law_724 ?_
      refine g_if_eq (pc := 725) (tgt := 730) Z dL_law_725 (by decide) (fun c10 => ?_) (fun c10 => ?_)
      · replace hf := gIfP c10 hf
        refine g_goto (pc := 730) (tgt := 1180) Z dL_law_730 (by decide) ?_
        refine g_locals (lv2 := [(0, .ref b), (1, .ref (ad 0)), (2, .ref (ad 20)), (3, .ref (ad 30)), (4, .int y4)]) [2, 3, 4, 5, 6] rfl ?_
        refine g_widen (k := 22 + (k + 1)) (n := 23025 + 6 * (k + 1)) (by omega) (by omega) ?_
        obtain rfl := Option.some.inj hf
        exact hK
      · replace hf := gIfN c10 hf
        refine g_iconst (pc := 728) (v := 0) Z dL_law_728 (by decide) ?_
        exact absurd hf (fun h => by cases h)
  · replace hf := gIfN c7 hf
    refine g_iconst (pc := 711) (v := 0) Z dL_law_711 (by decide) ?_
    exact absurd hf (fun h => by cases h)
