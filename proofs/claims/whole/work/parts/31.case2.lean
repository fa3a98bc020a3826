theorem wl153 : Cond.methodLink RL 123 yL_checkpoint ∈ gA := wt3 5 rfl rfl
theorem wl154 : Cond.static yL_checkpoint ∈ gA := wt3 6 rfl rfl
theorem wl155 : cd_Law_checkpoint ∈ gA := wt3 7 rfl rfl
theorem wl156 : Cond.methodLink RL 125 yX5_checkpoint ∈ gA := wt4 97 rfl rfl
theorem wl157 : Cond.instanceMethod yX5_checkpoint ∈ gA := wt4 98 rfl rfl
theorem wl158 : Cond.selects RX5 yX5_checkpoint yX5_checkpoint ∈ gA := wt4 99 rfl rfl
theorem wl159 : cd_Mod_checkpoint ∈ gA := wt4 100 rfl rfl
def fc_checkpoint (N L : Nat) (xs : Nat → Int32) (vL : LT) (vD : DT) (vC : CT) (vM : MT) (vO : (Nat → Int64)) (y4 : Int32) : Option (LT × DT × CT × MT × (Nat → Int64)) :=
  (f_Law_checkpoint N vL vD vC vO).bind fun x1 => (f_Mod_checkpoint N vM).bind fun x3 => (f_Mod_thrown x3.2).bind fun x5 => if x5 = x1.1 then if x1.1 = 0 then if gI (0 : Int32) 1 = true then if (lg_cmp (x1.2.2.2 (0 : Int32).toNatClampNeg) x3.1.toInt64) = 0 then some (x1.2.1, x1.2.2.1, vC, x3.2, x1.2.2.2) else none else none else some (x1.2.1, x1.2.2.1, vC, x3.2, x1.2.2.2) else none
set_option maxHeartbeats 40000000 in
set_option maxRecDepth 100000 in
theorem w_case_checkpoint {p : Program} {l : Launch} {e : Env} {s : State} {m : MethodId} {below : List Frame} {meth : Method} {c : Code} {Q : State → Prop} {D : va_G} {ad : Nat → Nat} {ca : Nat → ClassId} {b L N : Nat} {xs : Nat → Int32} (hl0 : l.stackTraces = false) (Z : gZ p s m #[Value.ref b] meth c code 8 RL (Cond.initialized RL :: gA) (fun q : Nat => s.heap.size ≤ q) D cls (tys ca)) (hT : gT RX4 strsH (fun q : Nat => s.heap.size ≤ q) s) (hX : va_X b L xs s s.heap) (hbl : b < s.heap.size) {vL : LT} {vD : DT} {vC : CT} {vM : MT} {vO : (Nat → Int64)} {y4 : Int32} {k : Nat} {u : LT × DT × CT × MT × (Nat → Int64)} (hk : k ≤ 599) (hf : fc_checkpoint N L xs vL vD vC vM vO y4 = some u) (hK : gW p l e room_1 s m #[Value.ref b] below meth c 8 (fun q : Nat => s.heap.size ≤ q) D cls (22 + (k + 1)) (23025 + 6 * (k + 1)) Q (wH ad ++ wB ad ++ wL ad ca u.1 ++ wD ad ca u.2.1 ++ wC ad ca u.2.2.1 ++ wM ad ca u.2.2.2.1 ++ wO ad ca u.2.2.2.2) [(0, .ref b), (1, .ref (ad 0)), (2, .ref (ad 20)), (3, .ref (ad 30)), (4, .int y4)] 1180 []) : gW p l e room_1 s m #[Value.ref b] below meth c 8 (fun q : Nat => s.heap.size ≤ q) D cls (22 + k) (23025 + 6 * k) Q (wH ad ++ wB ad ++ wL ad ca vL ++ wD ad ca vD ++ wC ad ca vC ++ wM ad ca vM ++ wO ad ca vO) [(0, .ref b), (1, .ref (ad 0)), (2, .ref (ad 20)), (3, .ref (ad 30)), (4, .int y4)] 733 [] := by
  have hbA : ¬ (fun q : Nat => s.heap.size ≤ q) b := Nat.not_le.mpr hbl
  unfold fc_checkpoint at hf
  refine g_aload_n (pc := 733) Z 1 dL_law_733 rfl ?_
  refine g_aload_n (pc := 734) Z 3 dL_law_734 rfl ?_
  obtain ⟨x1, h2, hf⟩ := Option.bind_eq_some_iff.mp hf
  refine g_calli (pc := 735) (ws2 := fun u => (wH ad ++ wB ad ++ wL ad ca u.1 ++ wD ad ca u.2.1 ++ wC ad ca vC ++ wM ad ca vM ++ wO ad ca u.2.2)) (wr := (wB ad ++ wM ad ca vM)) Z [0, 2, 3, 4, 5, 6, 7, 8, 9, 10, 11, 12, 21] [1, 13, 14, 15, 16, 17, 18, 19, 20] [9, 0, 10, 11, 12, 13, 14, 15, 16, 17, 18, 19, 20, 1, 2, 3, 4, 5, 6, 7, 8, 21] (g_runSW Z hT (c_Law_checkpoint l hl0 D ad ca N vL vD vC vO x1 h2) (vx_cwSW 2 Z.2.2.2.2.1 (gg_W wl153 wl154 wl78 wl155) rfl rfl rfl yd_Law_checkpoint ⟨(Nat.le_of_ble_eq_true rfl), (Nat.le_of_ble_eq_true rfl)⟩) [0, 2, 3, 4, 5, 6, 7, 8, 9, 10, 11, 12, 21] rfl (by decide) rfl rfl (Nat.le_of_ble_eq_true rfl) dL_law_735 ⟨by show _ ≤ 1060; omega, by show _ ≤ 31301; omega⟩) rfl rfl (by decide) (by decide) (by decide) (fun _ => rfl) (fun r u hu => ?_)
  obtain ⟨rfl, rfl⟩ := hu
  refine g_istore (pc := 738) (lv' := [(5, .int x1.1), (0, .ref b), (1, .ref (ad 0)), (2, .ref (ad 20)), (3, .ref (ad 30)), (4, .int y4)]) Z dL_law_738 (by decide) rfl ?_
  refine g_aload_n (pc := 740) Z 3 dL_law_740 rfl ?_
  obtain ⟨x3, h4, hf⟩ := Option.bind_eq_some_iff.mp hf
  refine g_calli (pc := 741) (ws2 := fun u => (wH ad ++ wB ad ++ wL ad ca x1.2.1 ++ wD ad ca x1.2.2.1 ++ wC ad ca vC ++ wM ad ca u ++ wO ad ca x1.2.2.2)) (wr := (wH ad ++ wB ad ++ wL ad ca x1.2.1 ++ wD ad ca x1.2.2.1 ++ wC ad ca vC ++ wO ad ca x1.2.2.2)) Z [13, 14, 15, 16, 17, 18, 19, 20] [0, 1, 2, 3, 4, 5, 6, 7, 8, 9, 10, 11, 12, 21] [0, 1, 2, 3, 4, 5, 6, 7, 8, 9, 10, 11, 12, 14, 15, 16, 17, 18, 19, 20, 21, 13] (g_runV Z (c_Mod_checkpoint l D ad ca N vM x3 h4) (cwV 0 Z.2.2.2.2.1 (gg_V wl156 wl157 wl158 wl83 wl159) rfl rfl rfl (yv_of rfl yd_Mod_checkpoint) ⟨Nat.le_of_ble_eq_true rfl, Nat.le_of_ble_eq_true rfl⟩) [13, 14, 15, 16, 17, 18, 19, 20] rfl (by decide) 0 rfl rfl rfl rfl rfl (Nat.le_of_ble_eq_true rfl) dL_law_741 ⟨by show _ ≤ 1060; omega, by show _ ≤ 31301; omega⟩) rfl rfl (by decide) (by decide) (by decide) (fun _ => rfl) (fun r u hu => ?_)
  obtain ⟨rfl, rfl⟩ := hu
  refine g_istore (pc := 744) (lv' := [(6, .int x3.1), (5, .int x1.1), (0, .ref b), (1, .ref (ad 0)), (2, .ref (ad 20)), (3, .ref (ad 30)), (4, .int y4)]) Z dL_law_744 (by decide) rfl ?_
  refine g_aload_n (pc := 746) Z 4 dL_law_746 rfl ?_
  obtain ⟨x5, h6, hf⟩ := Option.bind_eq_some_iff.mp hf
  refine g_calli (pc := 747) (ws2 := fun u => (wH ad ++ wB ad ++ wL ad ca x1.2.1 ++ wD ad ca x1.2.2.1 ++ wC ad ca vC ++ wM ad ca x3.2 ++ wO ad ca x1.2.2.2)) (wr := (wH ad ++ wB ad ++ wL ad ca x1.2.1 ++ wD ad ca x1.2.2.1 ++ wC ad ca vC ++ wO ad ca x1.2.2.2)) Z [13, 14, 15, 16, 17, 18, 19, 20] [0, 1, 2, 3, 4, 5, 6, 7, 8, 9, 10, 11, 12, 21] [0, 1, 2, 3, 4, 5, 6, 7, 8, 9, 10, 11, 12, 14, 15, 16, 17, 18, 19, 20, 21, 13] (g_runV Z (c_Mod_thrown l D ad ca x3.2 x5 h6) (cwV 0 Z.2.2.2.2.1 (gg_V wl85 wl86 wl87 wl83 wl88) rfl rfl rfl (yv_of rfl yd_Mod_thrown) ⟨Nat.le_of_ble_eq_true rfl, Nat.le_of_ble_eq_true rfl⟩) [13, 14, 15, 16, 17, 18, 19, 20] rfl (by decide) 0 rfl rfl rfl rfl rfl (Nat.le_of_ble_eq_true rfl) dL_law_747 ⟨by show _ ≤ 1060; omega, by show _ ≤ 31301; omega⟩) rfl rfl (by decide) (by decide) (by decide) (fun _ => rfl) (fun r u hu => ?_)
  obtain rfl := hu.symm
  refine g_iload (pc := 750) Z 1 dL_law_750 rfl ?_
  refine g_icmp_eq (pc := 752) (tgt := 757) Z dL_law_752 (by decide) (fun c7 => ?_) (fun c7 => ?_)
  · replace hf := gIfP c7 hf
    refine g_iload (pc := 757) Z 1 dL_law_757 rfl ?_
    refine g_if_ne (pc := 759) (tgt := 774) Z dL_law_759 (by decide) (fun c8 => ?_) (fun c8 => ?_)
    · replace hf := gIfN c8 hf
      refine g_goto (pc := 774) (tgt := 1180) Z dL_law_774 (by decide) ?_
      refine g_locals (lv2 := [(0, .ref b), (1, .ref (ad 0)), (2, .ref (ad 20)), (3, .ref (ad 30)), (4, .int y4)]) [2, 3, 4, 5, 6] rfl ?_
      refine g_widen (k := 22 + (k + 1)) (n := 23025 + 6 * (k + 1)) (by omega) (by omega) ?_
      obtain rfl := Option.some.inj hf
      exact hK
    · replace hf := gIfP c8 hf
      refine g_aload_n (pc := 762) Z 5 dL_law_762 rfl ?_
      refine g_iconst (pc := 763) (v := 0) Z dL_law_763 (by decide) ?_
      obtain ⟨b9, hf⟩ := gGuard hf
      refine g_lald (pc := 764) (f := x1.2.2.2) Z 21 0 dL_law_764 rfl rfl (gI_in b9) ?_
      refine g_iload (pc := 765) Z 0 dL_law_765 rfl ?_
      refine g_i2l (pc := 767) Z dL_law_767 ?_
      refine g_lcmp (pc := 768) Z dL_law_768 ?_
      refine g_if_eq (pc := 769) (tgt := 774) Z dL_law_769 (by decide) (fun c10 => ?_) (fun c10 => ?_)
      · replace hf := gIfP c10 hf
        refine g_goto (pc := 774) (tgt := 1180) Z dL_law_774 (by decide) ?_
        refine g_locals (lv2 := [(0, .ref b), (1, .ref (ad 0)), (2, .ref (ad 20)), (3, .ref (ad 30)), (4, .int y4)]) [2, 3, 4, 5, 6] rfl ?_
        refine g_widen (k := 22 + (k + 1)) (n := 23025 + 6 * (k + 1)) (by omega) (by omega) ?_
        obtain rfl := Option.some.inj hf
        exact hK
      · replace hf := gIfN c10 hf
        refine g_iconst (pc := 772) (v := 0) Z dL_law_772 (by decide) ?_
        exact absurd hf (fun h => by cases h)
  · replace hf := gIfN c7 hf
    refine g_iconst (pc := 755) (v := 0) Z dL_law_755 (by decide) ?_
    exact absurd hf (fun h => by cases h)
theorem wl160 : Cond.methodLink RL 126 yL_power ∈ gA := wt3 16 rfl rfl
theorem wl161 : Cond.static yL_power ∈ gA := wt3 17 rfl rfl
theorem wl162 : cd_Law_power ∈ gA := wt3 18 rfl rfl
theorem wl163 : Cond.methodLink RL 128 yX5_power ∈ gA := wt4 101 rfl rfl
theorem wl164 : Cond.instanceMethod yX5_power ∈ gA := wt4 102 rfl rfl
theorem wl165 : Cond.selects RX5 yX5_power yX5_power ∈ gA := wt4 103 rfl rfl
theorem wl166 : cd_Mod_power ∈ gA := wt4 104 rfl rfl
def fc_power (N L : Nat) (xs : Nat → Int32) (vL : LT) (vD : DT) (vC : CT) (vM : MT) (vO : (Nat → Int64)) (y4 : Int32) : Option (LT × DT × CT × MT × (Nat → Int64)) :=
  if gI (y4 + (1 : Int32)) L = true then if gI (y4 + (2 : Int32)) L = true then (f_Law_power vD vO (xs (y4 + (1 : Int32)).toNatClampNeg) (xs (y4 + (2 : Int32)).toNatClampNeg)).bind fun x3 => if gI (y4 + (1 : Int32)) L = true then if gI (y4 + (2 : Int32)) L = true then (f_Mod_power vM (xs (y4 + (1 : Int32)).toNatClampNeg) (xs (y4 + (2 : Int32)).toNatClampNeg)).bind fun x7 => (f_Mod_thrown x7.2).bind fun x9 => if x9 = x3.1 then if x3.1 = 0 then if gI (0 : Int32) 1 = true then if (lg_cmp (x3.2.2 (0 : Int32).toNatClampNeg) x7.1.toInt64) = 0 then some (vL, x3.2.1, vC, x7.2, x3.2.2) else none else none else some (vL, x3.2.1, vC, x7.2, x3.2.2) else none else none else none else none else none
set_option maxHeartbeats 40000000 in
set_option maxRecDepth 100000 in
theorem w_case_power {p : Program} {l : Launch} {e : Env} {s : State} {m : MethodId} {below : List Frame} {meth : Method} {c : Code} {Q : State → Prop} {D : va_G} {ad : Nat → Nat} {ca : Nat → ClassId} {b L N : Nat} {xs : Nat → Int32} (hl0 : l.stackTraces = false) (Z : gZ p s m #[Value.ref b] meth c code 8 RL (Cond.initialized RL :: gA) (fun q : Nat => s.heap.size ≤ q) D cls (tys ca)) (hT : gT RX4 strsH (fun q : Nat => s.heap.size ≤ q) s) (hX : va_X b L xs s s.heap) (hbl : b < s.heap.size) {vL : LT} {vD : DT} {vC : CT} {vM : MT} {vO : (Nat → Int64)} {y4 : Int32} {k : Nat} {u : LT × DT × CT × MT × (Nat → Int64)} (hk : k ≤ 599) (hf : fc_power N L xs vL vD vC vM vO y4 = some u) (hK : gW p l e room_1 s m #[Value.ref b] below meth c 8 (fun q : Nat => s.heap.size ≤ q) D cls (22 + (k + 1)) (23025 + 6 * (k + 1)) Q (wH ad ++ wB ad ++ wL ad ca u.1 ++ wD ad ca u.2.1 ++ wC ad ca u.2.2.1 ++ wM ad ca u.2.2.2.1 ++ wO ad ca u.2.2.2.2) [(0, .ref b), (1, .ref (ad 0)), (2, .ref (ad 20)), (3, .ref (ad 30)), (4, .int y4)] 1180 []) : gW p l e room_1 s m #[Value.ref b] below meth c 8 (fun q : Nat => s.heap.size ≤ q) D cls (22 + k) (23025 + 6 * k) Q (wH ad ++ wB ad ++ wL ad ca vL ++ wD ad ca vD ++ wC ad ca vC ++ wM ad ca vM ++ wO ad ca vO) [(0, .ref b), (1, .ref (ad 0)), (2, .ref (ad 20)), (3, .ref (ad 30)), (4, .int y4)] 777 [] := by
  have hbA : ¬ (fun q : Nat => s.heap.size ≤ q) b := Nat.not_le.mpr hbl
  unfold fc_power at hf
  refine g_aload_n (pc := 777) Z 1 dL_law_777 rfl ?_
  refine g_aload_n (pc := 778) Z 0 dL_law_778 rfl ?_
  refine g_iload (pc := 779) Z 4 dL_law_779 rfl ?_
  refine g_iconst (pc := 781) (v := 1) Z dL_law_781 (by decide) ?_
  refine g_iadd (pc := 782) Z dL_law_782 ?_
  obtain ⟨b1, hf⟩ := gGuard hf
  refine g_sld (pc := 783) Z hX hbl hbA dL_law_783 (gI_in b1) ?_
  refine g_aload_n (pc := 784) Z 0 dL_law_784 rfl ?_
  refine g_iload (pc := 785) Z 4 dL_law_785 rfl ?_
  refine g_iconst (pc := 787) (v := 2) Z dL_law_787 (by decide) ?_
  refine g_iadd (pc := 788) Z dL_law_788 ?_
  obtain ⟨b2, hf⟩ := gGuard hf
  refine g_sld (pc := 789) Z hX hbl hbA dL_law_789 (gI_in b2) ?_
  refine g_aload_n (pc := 790) Z 3 dL_law_790 rfl ?_
  obtain ⟨x3, h4, hf⟩ := Option.bind_eq_some_iff.mp hf
  refine g_calli (pc := 791) (ws2 := fun u => (wH ad ++ wB ad ++ wL ad ca vL ++ wD ad ca u.1 ++ wC ad ca vC ++ wM ad ca vM ++ wO ad ca u.2)) (wr := (wB ad ++ wL ad ca vL ++ wC ad ca vC ++ wM ad ca vM)) Z [0, 3, 4, 5, 6, 7, 21] [1, 2, 8, 9, 10, 11, 12, 13, 14, 15, 16, 17, 18, 19, 20] [15, 0, 1, 16, 17, 18, 19, 20, 2, 3, 4, 5, 6, 7, 8, 9, 10, 11, 12, 13, 14, 21] (g_runSW Z hT (c_Law_power l hl0 D ad ca vD vO (xs (y4 + (1 : Int32)).toNatClampNeg) (xs (y4 + (2 : Int32)).toNatClampNeg) x3 h4) (vx_cwSW 4 Z.2.2.2.2.1 (gg_W wl160 wl161 wl78 wl162) rfl rfl rfl yd_Law_power ⟨(Nat.le_of_ble_eq_true rfl), (Nat.le_of_ble_eq_true rfl)⟩) [0, 3, 4, 5, 6, 7, 21] rfl (by decide) rfl rfl (Nat.le_of_ble_eq_true rfl) dL_law_791 ⟨by show _ ≤ 1060; omega, by show _ ≤ 31301; omega⟩) rfl rfl (by decide) (by decide) (by decide) (fun _ => rfl) (fun r u hu => ?_)
  obtain ⟨rfl, rfl⟩ := hu
  refine g_istore (pc := 794) (lv' := [(5, .int x3.1), (0, .ref b), (1, .ref (ad 0)), (2, .ref (ad 20)), (3, .ref (ad 30)), (4, .int y4)]) Z dL_law_794 (by decide) rfl ?_
  refine g_aload_n (pc := 796) Z 3 dL_law_796 rfl ?_
  refine g_aload_n (pc := 797) Z 1 dL_law_797 rfl ?_
  refine g_iload (pc := 798) Z 5 dL_law_798 rfl ?_
  refine g_iconst (pc := 800) (v := 1) Z dL_law_800 (by decide) ?_
  refine g_iadd (pc := 801) Z dL_law_801 ?_
  obtain ⟨b5, hf⟩ := gGuard hf
  refine g_sld (pc := 802) Z hX hbl hbA dL_law_802 (gI_in b5) ?_
  refine g_aload_n (pc := 803) Z 1 dL_law_803 rfl ?_
  refine g_iload (pc := 804) Z 5 dL_law_804 rfl ?_
  refine g_iconst (pc := 806) (v := 2) Z dL_law_806 (by decide) ?_
  refine g_iadd (pc := 807) Z dL_law_807 ?_
  obtain ⟨b6, hf⟩ := gGuard hf
  refine g_sld (pc := 808) Z hX hbl hbA dL_law_808 (gI_in b6) ?_
  obtain ⟨x7, h8, hf⟩ := Option.bind_eq_some_iff.mp hf
  refine g_calli (pc := 809) (ws2 := fun u => (wH ad ++ wB ad ++ wL ad ca vL ++ wD ad ca x3.2.1 ++ wC ad ca vC ++ wM ad ca u ++ wO ad ca x3.2.2)) (wr := (wH ad ++ wB ad ++ wL ad ca vL ++ wD ad ca x3.2.1 ++ wC ad ca vC ++ wO ad ca x3.2.2)) Z [13, 14, 15, 16, 17, 18, 19, 20] [0, 1, 2, 3, 4, 5, 6, 7, 8, 9, 10, 11, 12, 21] [0, 1, 2, 3, 4, 5, 6, 7, 8, 9, 10, 11, 12, 14, 15, 16, 17, 18, 19, 20, 21, 13] (g_runV Z (c_Mod_power l D ad ca vM (xs (y4 + (1 : Int32)).toNatClampNeg) (xs (y4 + (2 : Int32)).toNatClampNeg) x7 h8) (cwV 2 Z.2.2.2.2.1 (gg_V wl163 wl164 wl165 wl83 wl166) rfl rfl rfl (yv_of rfl yd_Mod_power) ⟨Nat.le_of_ble_eq_true rfl, Nat.le_of_ble_eq_true rfl⟩) [13, 14, 15, 16, 17, 18, 19, 20] rfl (by decide) 0 rfl rfl rfl rfl rfl (Nat.le_of_ble_eq_true rfl) dL_law_809 ⟨by show _ ≤ 1060; omega, by show _ ≤ 31301; omega⟩) rfl rfl (by decide) (by decide) (by decide) (fun _ => rfl) (fun r u hu => ?_)
  obtain ⟨rfl, rfl⟩ := hu
  refine g_istore (pc := 812) (lv' := [(6, .int x7.1), (5, .int x3.1), (0, .ref b), (1, .ref (ad 0)), (2, .ref (ad 20)), (3, .ref (ad 30)), (4, .int y4)]) Z dL_law_812 (by decide) rfl ?_
  refine g_aload_n (pc := 814) Z 4 dL_law_814 rfl ?_
  obtain ⟨x9, h10, hf⟩ := Option.bind_eq_some_iff.mp hf
  refine g_calli (pc := 815) (ws2 := fun u => (wH ad ++ wB ad ++ wL ad ca vL ++ wD ad ca x3.2.1 ++ wC ad ca vC ++ wM ad ca x7.2 ++ wO ad ca x3.2.2)) (wr := (wH ad ++ wB ad ++ wL ad ca vL ++ wD ad ca x3.2.1 ++ wC ad ca vC ++ wO ad ca x3.2.2)) Z [13, 14, 15, 16, 17, 18, 19, 20] [0, 1, 2, 3, 4, 5, 6, 7, 8, 9, 10, 11, 12, 21] [0, 1, 2, 3, 4, 5, 6, 7, 8, 9, 10, 11, 12, 14, 15, 16, 17, 18, 19, 20, 21, 13] (g_runV Z (c_Mod_thrown l D ad ca x7.2 x9 h10) (cwV 0 Z.2.2.2.2.1 (gg_V wl85 wl86 wl87 wl83 wl88) rfl rfl rfl (yv_of rfl yd_Mod_thrown) ⟨Nat.le_of_ble_eq_true rfl, Nat.le_of_ble_eq_true rfl⟩) [13, 14, 15, 16, 17, 18, 19, 20] rfl (by decide) 0 rfl rfl rfl rfl rfl (Nat.le_of_ble_eq_true rfl) dL_law_815 ⟨by show _ ≤ 1060; omega, by show _ ≤ 31301; omega⟩) rfl rfl (by decide) (by decide) (by decide) (fun _ => rfl) (fun r u hu => ?_)
  obtain rfl := hu.symm
  refine g_iload (pc := 818) Z 1 dL_law_818 rfl ?_
  refine g_icmp_eq (pc := 820) (tgt := 825) Z dL_law_820 (by decide) (fun c11 => ?_) (fun c11 => ?_)
  · replace hf := gIfP c11 hf
    refine g_iload (pc := 825) Z 1 dL_law_825 rfl ?_
    refine g_if_ne (pc := 827) (tgt := 842) Z dL_law_827 (by decide) (fun c12 => ?_) (fun c12 => ?_)
    · replace hf := gIfN c12 hf
      refine g_goto (pc := 842) (tgt := 1180) Z dL_law_842 (by decide) ?_
      refine g_locals (lv2 := [(0, .ref b), (1, .ref (ad 0)), (2, .ref (ad 20)), (3, .ref (ad 30)), (4, .int y4)]) [2, 3, 4, 5, 6] rfl ?_
      refine g_widen (k := 22 + (k + 1)) (n := 23025 + 6 * (k + 1)) (by omega) (by omega) ?_
      obtain rfl := Option.some.inj hf
      exact hK
    · replace hf := gIfP c12 hf
      refine g_aload_n (pc := 830) Z 5 dL_law_830 rfl ?_
      refine g_iconst (pc := 831) (v := 0) Z dL_law_831 (by decide) ?_
      obtain ⟨b13, hf⟩ := gGuard hf
      refine g_lald (pc := 832) (f := x3.2.2) Z 21 0 dL_law_832 rfl rfl (gI_in b13) ?_
      refine g_iload (pc := 833) Z 0 dL_law_833 rfl ?_
      refine g_i2l (pc := 835) Z dL_law_835 ?_
      refine g_lcmp (pc := 836) Z dL_law_836 ?_
      refine g_if_eq (pc := 837) (tgt := 842) Z dL_law_837 (by decide) (fun c14 => ?_) (fun c14 => ?_)
      · replace hf := gIfP c14 hf
        refine g_goto (pc := 842) (tgt := 1180) Z dL_law_842 (by decide) ?_
        refine g_locals (lv2 := [(0, .ref b), (1, .ref (ad 0)), (2, .ref (ad 20)), (3, .ref (ad 30)), (4, .int y4)]) [2, 3, 4, 5, 6] rfl ?_
        refine g_widen (k := 22 + (k + 1)) (n := 23025 + 6 * (k + 1)) (by omega) (by omega) ?_
        obtain rfl := Option.some.inj hf
        exact hK
      · replace hf := gIfN c14 hf
        refine g_iconst (pc := 840) (v := 0) Z dL_law_840 (by decide) ?_
        exact absurd hf (fun h => by cases h)
  · replace hf := gIfN c11 hf
    refine g_iconst (pc := 823) (v := 0) Z dL_law_823 (by decide) ?_
    exact absurd hf (fun h => by cases h)
theorem wl167 : Cond.methodLink RL 129 yL_cut ∈ gA := wt3 28 rfl rfl
theorem wl168 : Cond.static yL_cut ∈ gA := wt3 29 rfl rfl
theorem wl169 : cd_Law_cut ∈ gA := wt3 30 rfl rfl
theorem wl170 : Cond.methodLink RL 131 yX5_cut ∈ gA := wt4 105 rfl rfl
theorem wl171 : Cond.instanceMethod yX5_cut ∈ gA := wt4 106 rfl rfl
theorem wl172 : Cond.selects RX5 yX5_cut yX5_cut ∈ gA := wt4 107 rfl rfl
theorem wl173 : cd_Mod_cut ∈ gA := wt4 108 rfl rfl
def fc_cut (N L : Nat) (xs : Nat → Int32) (vL : LT) (vD : DT) (vC : CT) (vM : MT) (vO : (Nat → Int64)) (y4 : Int32) : Option (LT × DT × CT × MT × (Nat → Int64)) :=
  if gI (y4 + (1 : Int32)) L = true then (f_Law_cut N vD vC vO (xs (y4 + (1 : Int32)).toNatClampNeg)).bind fun x2 => if gI (y4 + (1 : Int32)) L = true then (f_Mod_cut N vM (xs (y4 + (1 : Int32)).toNatClampNeg)).bind fun x5 => (f_Mod_thrown x5.2).bind fun x7 => if x7 = x2.1 then if x2.1 = 0 then if gI (0 : Int32) 1 = true then if (lg_cmp (x2.2.2.2 (0 : Int32).toNatClampNeg) x5.1.toInt64) = 0 then some (vL, x2.2.1, x2.2.2.1, x5.2, x2.2.2.2) else none else none else some (vL, x2.2.1, x2.2.2.1, x5.2, x2.2.2.2) else none else none else none
set_option maxHeartbeats 40000000 in
set_option maxRecDepth 100000 in
theorem w_case_cut {p : Program} {l : Launch} {e : Env} {s : State} {m : MethodId} {below : List Frame} {meth : Method} {c : Code} {Q : State → Prop} {D : va_G} {ad : Nat → Nat} {ca : Nat → ClassId} {b L N : Nat} {xs : Nat → Int32} (hl0 : l.stackTraces = false) (Z : gZ p s m #[Value.ref b] meth c code 8 RL (Cond.initialized RL :: gA) (fun q : Nat => s.heap.size ≤ q) D cls (tys ca)) (hT : gT RX4 strsH (fun q : Nat => s.heap.size ≤ q) s) (hX : va_X b L xs s s.heap) (hbl : b < s.heap.size) {vL : LT} {vD : DT} {vC : CT} {vM : MT} {vO : (Nat → Int64)} {y4 : Int32} {k : Nat} {u : LT × DT × CT × MT × (Nat → Int64)} (hk : k ≤ 599) (hf : fc_cut N L xs vL vD vC vM vO y4 = some u) (hK : gW p l e room_1 s m #[Value.ref b] below meth c 8 (fun q : Nat => s.heap.size ≤ q) D cls (22 + (k + 1)) (23025 + 6 * (k + 1)) Q (wH ad ++ wB ad ++ wL ad ca u.1 ++ wD ad ca u.2.1 ++ wC ad ca u.2.2.1 ++ wM ad ca u.2.2.2.1 ++ wO ad ca u.2.2.2.2) [(0, .ref b), (1, .ref (ad 0)), (2, .ref (ad 20)), (3, .ref (ad 30)), (4, .int y4)] 1180 []) : gW p l e room_1 s m #[Value.ref b] below meth c 8 (fun q : Nat => s.heap.size ≤ q) D cls (22 + k) (23025 + 6 * k) Q (wH ad ++ wB ad ++ wL ad ca vL ++ wD ad ca vD ++ wC ad ca vC ++ wM ad ca vM ++ wO ad ca vO) [(0, .ref b), (1, .ref (ad 0)), (2, .ref (ad 20)), (3, .ref (ad 30)), (4, .int y4)] 845 [] := by
  have hbA : ¬ (fun q : Nat => s.heap.size ≤ q) b := Nat.not_le.mpr hbl
  unfold fc_cut at hf
  refine g_aload_n (pc := 845) Z 1 dL_law_845 rfl ?_
  refine g_aload_n (pc := 846) Z 0 dL_law_846 rfl ?_
  refine g_iload (pc := 847) Z 4 dL_law_847 rfl ?_
  refine g_iconst (pc := 849) (v := 1) Z dL_law_849 (by decide) ?_
  refine g_iadd (pc := 850) Z dL_law_850 ?_
  obtain ⟨b1, hf⟩ := gGuard hf
  refine g_sld (pc := 851) Z hX hbl hbA dL_law_851 (gI_in b1) ?_
  refine g_aload_n (pc := 852) Z 3 dL_law_852 rfl ?_
  obtain ⟨x2, h3, hf⟩ := Option.bind_eq_some_iff.mp hf
  refine g_calli (pc := 853) (ws2 := fun u => (wH ad ++ wB ad ++ wL ad ca vL ++ wD ad ca u.1 ++ wC ad ca u.2.1 ++ wM ad ca vM ++ wO ad ca u.2.2)) (wr := (wB ad ++ wL ad ca vL ++ wM ad ca vM)) Z [0, 3, 4, 5, 6, 7, 8, 9, 10, 11, 12, 21] [1, 2, 13, 14, 15, 16, 17, 18, 19, 20] [10, 0, 1, 11, 12, 13, 14, 15, 16, 17, 18, 19, 20, 2, 3, 4, 5, 6, 7, 8, 9, 21] (g_runSW Z hT (c_Law_cut l hl0 D ad ca N vD vC vO (xs (y4 + (1 : Int32)).toNatClampNeg) x2 h3) (vx_cwSW 3 Z.2.2.2.2.1 (gg_W wl167 wl168 wl78 wl169) rfl rfl rfl yd_Law_cut ⟨(Nat.le_of_ble_eq_true rfl), (Nat.le_of_ble_eq_true rfl)⟩) [0, 3, 4, 5, 6, 7, 8, 9, 10, 11, 12, 21] rfl (by decide) rfl rfl (Nat.le_of_ble_eq_true rfl) dL_law_853 ⟨by show _ ≤ 1060; omega, by show _ ≤ 31301; omega⟩) rfl rfl (by decide) (by decide) (by decide) (fun _ => rfl) (fun r u hu => ?_)
  obtain ⟨rfl, rfl⟩ := hu
  refine g_istore (pc := 856) (lv' := [(5, .int x2.1), (0, .ref b), (1, .ref (ad 0)), (2, .ref (ad 20)), (3, .ref (ad 30)), (4, .int y4)]) Z dL_law_856 (by decide) rfl ?_
  refine g_aload_n (pc := 858) Z 3 dL_law_858 rfl ?_
  refine g_aload_n (pc := 859) Z 1 dL_law_859 rfl ?_
  refine g_iload (pc := 860) Z 5 dL_law_860 rfl ?_
  refine g_iconst (pc := 862) (v := 1) Z dL_law_862 (by decide) ?_
  refine g_iadd (pc := 863) Z dL_law_863 ?_
  obtain ⟨b4, hf⟩ := gGuard hf
  refine g_sld (pc := 864) Z hX hbl hbA dL_law_864 (gI_in b4) ?_
  obtain ⟨x5, h6, hf⟩ := Option.bind_eq_some_iff.mp hf
  refine g_calli (pc := 865) (ws2 := fun u => (wH ad ++ wB ad ++ wL ad ca vL ++ wD ad ca x2.2.1 ++ wC ad ca x2.2.2.1 ++ wM ad ca u ++ wO ad ca x2.2.2.2)) (wr := (wH ad ++ wB ad ++ wL ad ca vL ++ wD ad ca x2.2.1 ++ wC ad ca x2.2.2.1 ++ wO ad ca x2.2.2.2)) Z [13, 14, 15, 16, 17, 18, 19, 20] [0, 1, 2, 3, 4, 5, 6, 7, 8, 9, 10, 11, 12, 21] [0, 1, 2, 3, 4, 5, 6, 7, 8, 9, 10, 11, 12, 14, 15, 16, 17, 18, 19, 20, 21, 13] (g_runV Z (c_Mod_cut l D ad ca N vM (xs (y4 + (1 : Int32)).toNatClampNeg) x5 h6) (cwV 1 Z.2.2.2.2.1 (gg_V wl170 wl171 wl172 wl83 wl173) rfl rfl rfl (yv_of rfl yd_Mod_cut) ⟨Nat.le_of_ble_eq_true rfl, Nat.le_of_ble_eq_true rfl⟩) [13, 14, 15, 16, 17, 18, 19, 20] rfl (by decide) 0 rfl rfl rfl rfl rfl (Nat.le_of_ble_eq_true rfl) dL_law_865 ⟨by show _ ≤ 1060; omega, by show _ ≤ 31301; omega⟩) rfl rfl (by decide) (by decide) (by decide) (fun _ => rfl) (fun r u hu => ?_)
  obtain ⟨rfl, rfl⟩ := hu
  refine g_istore (pc := 868) (lv' := [(6, .int x5.1), (5, .int x2.1), (0, .ref b), (1, .ref (ad 0)), (2, .ref (ad 20)), (3, .ref (ad 30)), (4, .int y4)]) Z dL_law_868 (by decide) rfl ?_
  refine g_aload_n (pc := 870) Z 4 dL_law_870 rfl ?_
  obtain ⟨x7, h8, hf⟩ := Option.bind_eq_some_iff.mp hf
  refine g_calli (pc := 871) (ws2 := fun u => (wH ad ++ wB ad ++ wL ad ca vL ++ wD ad ca x2.2.1 ++ wC ad ca x2.2.2.1 ++ wM ad ca x5.2 ++ wO ad ca x2.2.2.2)) (wr := (wH ad ++ wB ad ++ wL ad ca vL ++ wD ad ca x2.2.1 ++ wC ad ca x2.2.2.1 ++ wO ad ca x2.2.2.2)) Z [13, 14, 15, 16, 17, 18, 19, 20] [0, 1, 2, 3, 4, 5, 6, 7, 8, 9, 10, 11, 12, 21] [0, 1, 2, 3, 4, 5, 6, 7, 8, 9, 10, 11, 12, 14, 15, 16, 17, 18, 19, 20, 21, 13] (g_runV Z (c_Mod_thrown l D ad ca x5.2 x7 h8) (cwV 0 Z.2.2.2.2.1 (gg_V wl85 wl86 wl87 wl83 wl88) rfl rfl rfl (yv_of rfl yd_Mod_thrown) ⟨Nat.le_of_ble_eq_true rfl, Nat.le_of_ble_eq_true rfl⟩) [13, 14, 15, 16, 17, 18, 19, 20] rfl (by decide) 0 rfl rfl rfl rfl rfl (Nat.le_of_ble_eq_true rfl) dL_law_871 ⟨by show _ ≤ 1060; omega, by show _ ≤ 31301; omega⟩) rfl rfl (by decide) (by decide) (by decide) (fun _ => rfl) (fun r u hu => ?_)
  obtain rfl := hu.symm
  refine g_iload (pc := 874) Z 1 dL_law_874 rfl ?_
  refine g_icmp_eq (pc := 876) (tgt := 881) Z dL_law_876 (by decide) (fun c9 => ?_) (fun c9 => ?_)
  · replace hf := gIfP c9 hf
    refine g_iload (pc := 881) Z 1 dL_law_881 rfl ?_
    refine g_if_ne (pc := 883) (tgt := 898) Z dL_law_883 (by decide) (fun c10 => ?_) (fun c10 => ?_)
    · replace hf := gIfN c10 hf
      refine g_goto (pc := 898) (tgt := 1180) Z dL_law_898 (by decide) ?_
      refine g_locals (lv2 := [(0, .ref b), (1, .ref (ad 0)), (2, .ref (ad 20)), (3, .ref (ad 30)), (4, .int y4)]) [2, 3, 4, 5, 6] rfl ?_
      refine g_widen (k := 22 + (k + 1)) (n := 23025 + 6 * (k + 1)) (by omega) (by omega) ?_
      obtain rfl := Option.some.inj hf
      exact hK
    · replace hf := gIfP c10 hf
      refine g_aload_n (pc := 886) Z 5 dL_law_886 rfl ?_
      refine g_iconst (pc := 887) (v := 0) Z dL_law_887 (by decide) ?_
      obtain ⟨b11, hf⟩ := gGuard hf
      refine g_lald (pc := 888) (f := x2.2.2.2) Z 21 0 dL_law_888 rfl rfl (gI_in b11) ?_
      refine g_iload (pc := 889) Z 0 dL_law_889 rfl ?_
      refine g_i2l (pc := 891) Z dL_law_891 ?_
      refine g_lcmp (pc := 892) Z dL_law_892 ?_
      refine g_if_eq (pc := 893) (tgt := 898) Z dL_law_893 (by decide) (fun c12 => ?_) (fun c12 => ?_)
      · replace hf := gIfP c12 hf
        refine g_goto (pc := 898) (tgt := 1180) Z dL_law_898 (by decide) ?_
        refine g_locals (lv2 := [(0, .ref b), (1, .ref (ad 0)), (2, .ref (ad 20)), (3, .ref (ad 30)), (4, .int y4)]) [2, 3, 4, 5, 6] rfl ?_
        refine g_widen (k := 22 + (k + 1)) (n := 23025 + 6 * (k + 1)) (by omega) (by omega) ?_
        obtain rfl := Option.some.inj hf
        exact hK
      · replace hf := gIfN c12 hf
        refine g_iconst (pc := 896) (v := 0) Z dL_law_896 (by decide) ?_
        exact absurd hf (fun h => by cases h)
  · replace hf := gIfN c9 hf
    refine g_iconst (pc := 879) (v := 0) Z dL_law_879 (by decide) ?_
    exact absurd hf (fun h => by cases h)
theorem wl174 : Cond.methodLink RL 132 yL_open ∈ gA := wt3 37 rfl rfl
theorem wl175 : Cond.static yL_open ∈ gA := wt3 38 rfl rfl
theorem wl176 : cd_Law_open ∈ gA := wt3 39 rfl rfl
theorem wl177 : Cond.methodLink RL 134 yX5_open ∈ gA := wt4 109 rfl rfl
theorem wl178 : Cond.instanceMethod yX5_open ∈ gA := wt4 110 rfl rfl
theorem wl179 : Cond.selects RX5 yX5_open yX5_open ∈ gA := wt4 111 rfl rfl
theorem wl180 : cd_Mod_open ∈ gA := wt4 112 rfl rfl
def fc_open (N L : Nat) (xs : Nat → Int32) (vL : LT) (vD : DT) (vC : CT) (vM : MT) (vO : (Nat → Int64)) (y4 : Int32) : Option (LT × DT × CT × MT × (Nat → Int64)) :=
  (f_Law_open N vL vD vC vO).bind fun x1 => (f_Mod_open N vM).bind fun x3 => (f_Mod_thrown x3.2).bind fun x5 => if x5 = x1.1 then if x1.1 = 0 then if gI (0 : Int32) 1 = true then if (lg_cmp (x1.2.2.2.2 (0 : Int32).toNatClampNeg) x3.1.toInt64) = 0 then some (x1.2.1, x1.2.2.1, x1.2.2.2.1, x3.2, x1.2.2.2.2) else none else none else some (x1.2.1, x1.2.2.1, x1.2.2.2.1, x3.2, x1.2.2.2.2) else none
set_option maxHeartbeats 40000000 in
set_option maxRecDepth 100000 in
theorem w_case_open {p : Program} {l : Launch} {e : Env} {s : State} {m : MethodId} {below : List Frame} {meth : Method} {c : Code} {Q : State → Prop} {D : va_G} {ad : Nat → Nat} {ca : Nat → ClassId} {b L N : Nat} {xs : Nat → Int32} (hl0 : l.stackTraces = false) (Z : gZ p s m #[Value.ref b] meth c code 8 RL (Cond.initialized RL :: gA) (fun q : Nat => s.heap.size ≤ q) D cls (tys ca)) (hT : gT RX4 strsH (fun q : Nat => s.heap.size ≤ q) s) (hX : va_X b L xs s s.heap) (hbl : b < s.heap.size) {vL : LT} {vD : DT} {vC : CT} {vM : MT} {vO : (Nat → Int64)} {y4 : Int32} {k : Nat} {u : LT × DT × CT × MT × (Nat → Int64)} (hk : k ≤ 599) (hf : fc_open N L xs vL vD vC vM vO y4 = some u) (hK : gW p l e room_1 s m #[Value.ref b] below meth c 8 (fun q : Nat => s.heap.size ≤ q) D cls (22 + (k + 1)) (23025 + 6 * (k + 1)) Q (wH ad ++ wB ad ++ wL ad ca u.1 ++ wD ad ca u.2.1 ++ wC ad ca u.2.2.1 ++ wM ad ca u.2.2.2.1 ++ wO ad ca u.2.2.2.2) [(0, .ref b), (1, .ref (ad 0)), (2, .ref (ad 20)), (3, .ref (ad 30)), (4, .int y4)] 1180 []) : gW p l e room_1 s m #[Value.ref b] below meth c 8 (fun q : Nat => s.heap.size ≤ q) D cls (22 + k) (23025 + 6 * k) Q (wH ad ++ wB ad ++ wL ad ca vL ++ wD ad ca vD ++ wC ad ca vC ++ wM ad ca vM ++ wO ad ca vO) [(0, .ref b), (1, .ref (ad 0)), (2, .ref (ad 20)), (3, .ref (ad 30)), (4, .int y4)] 901 [] := by
  have hbA : ¬ (fun q : Nat => s.heap.size ≤ q) b := Nat.not_le.mpr hbl
  unfold fc_open at hf
  refine g_aload_n (pc := 901) Z 1 dL_law_901 rfl ?_
  refine g_aload_n (pc := 902) Z 3 dL_law_902 rfl ?_
  obtain ⟨x1, h2, hf⟩ := Option.bind_eq_some_iff.mp hf
  refine g_calli (pc := 903) (ws2 := fun u => (wH ad ++ wB ad ++ wL ad ca u.1 ++ wD ad ca u.2.1 ++ wC ad ca u.2.2.1 ++ wM ad ca vM ++ wO ad ca u.2.2.2)) (wr := (wB ad ++ wM ad ca vM)) Z [0, 2, 3, 4, 5, 6, 7, 8, 9, 10, 11, 12, 21] [1, 13, 14, 15, 16, 17, 18, 19, 20] [9, 0, 10, 11, 12, 13, 14, 15, 16, 17, 18, 19, 20, 1, 2, 3, 4, 5, 6, 7, 8, 21] (g_runSW Z hT (c_Law_open l hl0 D ad ca N vL vD vC vO x1 h2) (vx_cwSW 2 Z.2.2.2.2.1 (gg_W wl174 wl175 wl78 wl176) rfl rfl rfl yd_Law_open ⟨(Nat.le_of_ble_eq_true rfl), (Nat.le_of_ble_eq_true rfl)⟩) [0, 2, 3, 4, 5, 6, 7, 8, 9, 10, 11, 12, 21] rfl (by decide) rfl rfl (Nat.le_of_ble_eq_true rfl) dL_law_903 ⟨by show _ ≤ 1060; omega, by show _ ≤ 31301; omega⟩) rfl rfl (by decide) (by decide) (by decide) (fun _ => rfl) (fun r u hu => ?_)
  obtain ⟨rfl, rfl⟩ := hu
  refine g_istore (pc := 906) (lv' := [(5, .int x1.1), (0, .ref b), (1, .ref (ad 0)), (2, .ref (ad 20)), (3, .ref (ad 30)), (4, .int y4)]) Z dL_law_906 (by decide) rfl ?_
  refine g_aload_n (pc := 908) Z 3 dL_law_908 rfl ?_
  obtain ⟨x3, h4, hf⟩ := Option.bind_eq_some_iff.mp hf
  refine g_calli (pc := 909) (ws2 := fun u => (wH ad ++ wB ad ++ wL ad ca x1.2.1 ++ wD ad ca x1.2.2.1 ++ wC ad ca x1.2.2.2.1 ++ wM ad ca u ++ wO ad ca x1.2.2.2.2)) (wr := (wH ad ++ wB ad ++ wL ad ca x1.2.1 ++ wD ad ca x1.2.2.1 ++ wC ad ca x1.2.2.2.1 ++ wO ad ca x1.2.2.2.2)) Z [13, 14, 15, 16, 17, 18, 19, 20] [0, 1, 2, 3, 4, 5, 6, 7, 8, 9, 10, 11, 12, 21] [0, 1, 2, 3, 4, 5, 6, 7, 8, 9, 10, 11, 12, 14, 15, 16, 17, 18, 19, 20, 21, 13] (g_runV Z (c_Mod_open l D ad ca N vM x3 h4) (cwV 0 Z.2.2.2.2.1 (gg_V wl177 wl178 wl179 wl83 wl180) rfl rfl rfl (yv_of rfl yd_Mod_open) ⟨Nat.le_of_ble_eq_true rfl, Nat.le_of_ble_eq_true rfl⟩) [13, 14, 15, 16, 17, 18, 19, 20] rfl (by decide) 0 rfl rfl rfl rfl rfl (Nat.le_of_ble_eq_true rfl) dL_law_909 ⟨by show _ ≤ 1060; omega, by show _ ≤ 31301; omega⟩) rfl rfl (by decide) (by decide) (by decide) (fun _ => rfl) (fun r u hu => ?_)
  obtain ⟨rfl, rfl⟩ := hu
  refine g_istore (pc := 912) (lv' := [(6, .int x3.1), (5, .int x1.1), (0, .ref b), (1, .ref (ad 0)), (2, .ref (ad 20)), (3, .ref (ad 30)), (4, .int y4)]) Z dL_law_912 (by decide) rfl ?_
  refine g_aload_n (pc := 914) Z 4 dL_law_914 rfl ?_
  obtain ⟨x5, h6, hf⟩ := Option.bind_eq_some_iff.mp hf
  refine g_calli (pc := 915) (ws2 := fun u => (wH ad ++ wB ad ++ wL ad ca x1.2.1 ++ wD ad ca x1.2.2.1 ++ wC ad ca x1.2.2.2.1 ++ wM ad ca x3.2 ++ wO ad ca x1.2.2.2.2)) (wr := (wH ad ++ wB ad ++ wL ad ca x1.2.1 ++ wD ad ca x1.2.2.1 ++ wC ad ca x1.2.2.2.1 ++ wO ad ca x1.2.2.2.2)) Z [13, 14, 15, 16, 17, 18, 19, 20] [0, 1, 2, 3, 4, 5, 6, 7, 8, 9, 10, 11, 12, 21] [0, 1, 2, 3, 4, 5, 6, 7, 8, 9, 10, 11, 12, 14, 15, 16, 17, 18, 19, 20, 21, 13] (g_runV Z (c_Mod_thrown l D ad ca x3.2 x5 h6) (cwV 0 Z.2.2.2.2.1 (gg_V wl85 wl86 wl87 wl83 wl88) rfl rfl rfl (yv_of rfl yd_Mod_thrown) ⟨Nat.le_of_ble_eq_true rfl, Nat.le_of_ble_eq_true rfl⟩) [13, 14, 15, 16, 17, 18, 19, 20] rfl (by decide) 0 rfl rfl rfl rfl rfl (Nat.le_of_ble_eq_true rfl) dL_law_915 ⟨by show _ ≤ 1060; omega, by show _ ≤ 31301; omega⟩) rfl rfl (by decide) (by decide) (by decide) (fun _ => rfl) (fun r u hu => ?_)
  obtain rfl := hu.symm
  refine g_iload (pc := 918) Z 1 dL_law_918 rfl ?_
  refine g_icmp_eq (pc := 920) (tgt := 925) Z dL_law_920 (by decide) (fun c7 => ?_) (fun c7 => ?_)
  · replace hf := gIfP c7 hf
    refine g_iload (pc := 925) Z 1 dL_law_925 rfl ?_
    refine g_if_ne (pc := 927) (tgt := 942) Z dL_law_927 (by decide) (fun c8 => ?_) (fun c8 => ?_)
    · replace hf := gIfN c8 hf
      refine g_goto (pc := 942) (tgt := 1180) Z dL_law_942 (by decide) ?_
      refine g_locals (lv2 := [(0, .ref b), (1, .ref (ad 0)), (2, .ref (ad 20)), (3, .ref (ad 30)), (4, .int y4)]) [2, 3, 4, 5, 6] rfl ?_
      refine g_widen (k := 22 + (k + 1)) (n := 23025 + 6 * (k + 1)) (by omega) (by omega) ?_
      obtain rfl := Option.some.inj hf
      exact hK
    · replace hf := gIfP c8 hf
      refine g_aload_n (pc := 930) Z 5 dL_law_930 rfl ?_
      refine g_iconst (pc := 931) (v := 0) Z dL_law_931 (by decide) ?_
      obtain ⟨b9, hf⟩ := gGuard hf
      refine g_lald (pc := 932) (f := x1.2.2.2.2) Z 21 0 dL_law_932 rfl rfl (gI_in b9) ?_
      refine g_iload (pc := 933) Z 0 dL_law_933 rfl ?_
      refine g_i2l (pc := 935) Z dL_law_935 ?_
      refine g_lcmp (pc := 936) Z dL_law_936 ?_
      refine g_if_eq (pc := 937) (tgt := 942) Z dL_law_937 (by decide) (fun c10 => ?_) (fun c10 => ?_)
      · replace hf := gIfP c10 hf
        refine g_goto (pc := 942) (tgt := 1180) Z dL_law_942 (by decide) ?_
        refine g_locals (lv2 := [(0, .ref b), (1, .ref (ad 0)), (2, .ref (ad 20)), (3, .ref (ad 30)), (4, .int y4)]) [2, 3, 4, 5, 6] rfl ?_
        refine g_widen (k := 22 + (k + 1)) (n := 23025 + 6 * (k + 1)) (by omega) (by omega) ?_
        obtain rfl := Option.some.inj hf
        exact hK
      · replace hf := gIfN c10 hf
        refine g_iconst (pc := 940) (v := 0) Z dL_law_940 (by decide) ?_
        exact absurd hf (fun h => by cases h)
  · replace hf := gIfN c7 hf
    refine g_iconst (pc := 923) (v := 0) Z dL_law_923 (by decide) ?_
    exact absurd hf (fun h => by cases h)
theorem wl181 : Cond.methodLink RL 135 yL_word ∈ gA := wt3 75 rfl rfl
theorem wl182 : Cond.static yL_word ∈ gA := wt3 76 rfl rfl
theorem wl183 : cd_Law_word ∈ gA := wt3 77 rfl rfl
theorem wl184 : Cond.methodLink RL 137 yX5_word ∈ gA := wt4 120 rfl rfl
theorem wl185 : Cond.instanceMethod yX5_word ∈ gA := wt4 121 rfl rfl
theorem wl186 : Cond.selects RX5 yX5_word yX5_word ∈ gA := wt4 122 rfl rfl
theorem wl187 : cd_Mod_word ∈ gA := wt4 123 rfl rfl
def fc_word (N L : Nat) (xs : Nat → Int32) (vL : LT) (vD : DT) (vC : CT) (vM : MT) (vO : (Nat → Int64)) (y4 : Int32) : Option (LT × DT × CT × MT × (Nat → Int64)) :=
  if gI (y4 + (1 : Int32)) L = true then (f_Law_word vD vO (xs (y4 + (1 : Int32)).toNatClampNeg)).bind fun x2 => if gI (y4 + (1 : Int32)) L = true then (f_Mod_word vM (xs (y4 + (1 : Int32)).toNatClampNeg)).bind fun x5 => (f_Mod_thrown x5.2).bind fun x7 => if x7 = x2.1 then if x2.1 = 0 then if gI (0 : Int32) 1 = true then if (lg_cmp (x2.2 (0 : Int32).toNatClampNeg) x5.1) = 0 then some (vL, vD, vC, x5.2, x2.2) else none else none else some (vL, vD, vC, x5.2, x2.2) else none else none else none
set_option maxHeartbeats 40000000 in
set_option maxRecDepth 100000 in
theorem w_case_word {p : Program} {l : Launch} {e : Env} {s : State} {m : MethodId} {below : List Frame} {meth : Method} {c : Code} {Q : State → Prop} {D : va_G} {ad : Nat → Nat} {ca : Nat → ClassId} {b L N : Nat} {xs : Nat → Int32} (hl0 : l.stackTraces = false) (Z : gZ p s m #[Value.ref b] meth c code 8 RL (Cond.initialized RL :: gA) (fun q : Nat => s.heap.size ≤ q) D cls (tys ca)) (hT : gT RX4 strsH (fun q : Nat => s.heap.size ≤ q) s) (hX : va_X b L xs s s.heap) (hbl : b < s.heap.size) {vL : LT} {vD : DT} {vC : CT} {vM : MT} {vO : (Nat → Int64)} {y4 : Int32} {k : Nat} {u : LT × DT × CT × MT × (Nat → Int64)} (hk : k ≤ 599) (hf : fc_word N L xs vL vD vC vM vO y4 = some u) (hK : gW p l e room_1 s m #[Value.ref b] below meth c 8 (fun q : Nat => s.heap.size ≤ q) D cls (22 + (k + 1)) (23025 + 6 * (k + 1)) Q (wH ad ++ wB ad ++ wL ad ca u.1 ++ wD ad ca u.2.1 ++ wC ad ca u.2.2.1 ++ wM ad ca u.2.2.2.1 ++ wO ad ca u.2.2.2.2) [(0, .ref b), (1, .ref (ad 0)), (2, .ref (ad 20)), (3, .ref (ad 30)), (4, .int y4)] 1180 []) : gW p l e room_1 s m #[Value.ref b] below meth c 8 (fun q : Nat => s.heap.size ≤ q) D cls (22 + k) (23025 + 6 * k) Q (wH ad ++ wB ad ++ wL ad ca vL ++ wD ad ca vD ++ wC ad ca vC ++ wM ad ca vM ++ wO ad ca vO) [(0, .ref b), (1, .ref (ad 0)), (2, .ref (ad 20)), (3, .ref (ad 30)), (4, .int y4)] 945 [] := by
  have hbA : ¬ (fun q : Nat => s.heap.size ≤ q) b := Nat.not_le.mpr hbl
  unfold fc_word at hf
  refine g_aload_n (pc := 945) Z 1 dL_law_945 rfl ?_
  refine g_aload_n (pc := 946) Z 0 dL_law_946 rfl ?_
  refine g_iload (pc := 947) Z 4 dL_law_947 rfl ?_
  refine g_iconst (pc := 949) (v := 1) Z dL_law_949 (by decide) ?_
  refine g_iadd (pc := 950) Z dL_law_950 ?_
  obtain ⟨b1, hf⟩ := gGuard hf
  refine g_sld (pc := 951) Z hX hbl hbA dL_law_951 (gI_in b1) ?_
  refine g_aload_n (pc := 952) Z 3 dL_law_952 rfl ?_
  obtain ⟨x2, h3, hf⟩ := Option.bind_eq_some_iff.mp hf
  refine g_calli (pc := 953) (ws2 := fun u => (wH ad ++ wB ad ++ wL ad ca vL ++ wD ad ca vD ++ wC ad ca vC ++ wM ad ca vM ++ wO ad ca u)) (wr := (wB ad ++ wL ad ca vL ++ wC ad ca vC ++ wM ad ca vM)) Z [0, 3, 4, 5, 6, 7, 21] [1, 2, 8, 9, 10, 11, 12, 13, 14, 15, 16, 17, 18, 19, 20] [15, 0, 1, 16, 17, 18, 19, 20, 2, 3, 4, 5, 6, 7, 8, 9, 10, 11, 12, 13, 14, 21] (g_runSW Z hT (c_Law_word l hl0 D ad ca vD vO (xs (y4 + (1 : Int32)).toNatClampNeg) x2 h3) (vx_cwSW 3 Z.2.2.2.2.1 (gg_W wl181 wl182 wl78 wl183) rfl rfl rfl yd_Law_word ⟨(Nat.le_of_ble_eq_true rfl), (Nat.le_of_ble_eq_true rfl)⟩) [0, 3, 4, 5, 6, 7, 21] rfl (by decide) rfl rfl (Nat.le_of_ble_eq_true rfl) dL_law_953 ⟨by show _ ≤ 1060; omega, by show _ ≤ 31301; omega⟩) rfl rfl (by decide) (by decide) (by decide) (fun _ => rfl) (fun r u hu => ?_)
  obtain ⟨rfl, rfl⟩ := hu
  refine g_istore (pc := 956) (lv' := [(5, .int x2.1), (0, .ref b), (1, .ref (ad 0)), (2, .ref (ad 20)), (3, .ref (ad 30)), (4, .int y4)]) Z dL_law_956 (by decide) rfl ?_
  refine g_aload_n (pc := 958) Z 3 dL_law_958 rfl ?_
  refine g_aload_n (pc := 959) Z 1 dL_law_959 rfl ?_
  refine g_iload (pc := 960) Z 5 dL_law_960 rfl ?_
  refine g_iconst (pc := 962) (v := 1) Z dL_law_962 (by decide) ?_
  refine g_iadd (pc := 963) Z dL_law_963 ?_
  obtain ⟨b4, hf⟩ := gGuard hf
  refine g_sld (pc := 964) Z hX hbl hbA dL_law_964 (gI_in b4) ?_
  obtain ⟨x5, h6, hf⟩ := Option.bind_eq_some_iff.mp hf
  refine g_calll (pc := 965) (ws2 := fun u => (wH ad ++ wB ad ++ wL ad ca vL ++ wD ad ca vD ++ wC ad ca vC ++ wM ad ca u ++ wO ad ca x2.2)) (wr := (wH ad ++ wB ad ++ wL ad ca vL ++ wD ad ca vD ++ wC ad ca vC ++ wO ad ca x2.2)) Z [13, 14, 15, 16, 17, 18, 19, 20] [0, 1, 2, 3, 4, 5, 6, 7, 8, 9, 10, 11, 12, 21] [0, 1, 2, 3, 4, 5, 6, 7, 8, 9, 10, 11, 12, 14, 15, 16, 17, 18, 19, 20, 21, 13] (g_runV Z (c_Mod_word l D ad ca vM (xs (y4 + (1 : Int32)).toNatClampNeg) x5 h6) (cwV 1 Z.2.2.2.2.1 (gg_V wl184 wl185 wl186 wl83 wl187) rfl rfl rfl (yv_of rfl yd_Mod_word) ⟨Nat.le_of_ble_eq_true rfl, Nat.le_of_ble_eq_true rfl⟩) [13, 14, 15, 16, 17, 18, 19, 20] rfl (by decide) 0 rfl rfl rfl rfl rfl (Nat.le_of_ble_eq_true rfl) dL_law_965 ⟨by show _ ≤ 1060; omega, by show _ ≤ 31301; omega⟩) rfl rfl (by decide) (by decide) (by decide) (fun _ => rfl) (fun r u hu => ?_)
  obtain ⟨rfl, rfl⟩ := hu
  refine g_lstore (pc := 968) (lv' := [(6, .long x5.1), (5, .int x2.1), (0, .ref b), (1, .ref (ad 0)), (2, .ref (ad 20)), (3, .ref (ad 30)), (4, .int y4)]) Z dL_law_968 (by decide) rfl ?_
  refine g_aload_n (pc := 970) Z 4 dL_law_970 rfl ?_
  obtain ⟨x7, h8, hf⟩ := Option.bind_eq_some_iff.mp hf
  refine g_calli (pc := 971) (ws2 := fun u => (wH ad ++ wB ad ++ wL ad ca vL ++ wD ad ca vD ++ wC ad ca vC ++ wM ad ca x5.2 ++ wO ad ca x2.2)) (wr := (wH ad ++ wB ad ++ wL ad ca vL ++ wD ad ca vD ++ wC ad ca vC ++ wO ad ca x2.2)) Z [13, 14, 15, 16, 17, 18, 19, 20] [0, 1, 2, 3, 4, 5, 6, 7, 8, 9, 10, 11, 12, 21] [0, 1, 2, 3, 4, 5, 6, 7, 8, 9, 10, 11, 12, 14, 15, 16, 17, 18, 19, 20, 21, 13] (g_runV Z (c_Mod_thrown l D ad ca x5.2 x7 h8) (cwV 0 Z.2.2.2.2.1 (gg_V wl85 wl86 wl87 wl83 wl88) rfl rfl rfl (yv_of rfl yd_Mod_thrown) ⟨Nat.le_of_ble_eq_true rfl, Nat.le_of_ble_eq_true rfl⟩) [13, 14, 15, 16, 17, 18, 19, 20] rfl (by decide) 0 rfl rfl rfl rfl rfl (Nat.le_of_ble_eq_true rfl) dL_law_971 ⟨by show _ ≤ 1060; omega, by show _ ≤ 31301; omega⟩) rfl rfl (by decide) (by decide) (by decide) (fun _ => rfl) (fun r u hu => ?_)
  obtain rfl := hu.symm
  refine g_iload (pc := 974) Z 1 dL_law_974 rfl ?_
  refine g_icmp_eq (pc := 976) (tgt := 981) Z dL_law_976 (by decide) (fun c9 => ?_) (fun c9 => ?_)
  · replace hf := gIfP c9 hf
    refine g_iload (pc := 981) Z 1 dL_law_981 rfl ?_
    refine g_if_ne (pc := 983) (tgt := 997) Z dL_law_983 (by decide) (fun c10 => ?_) (fun c10 => ?_)
    · replace hf := gIfN c10 hf
      refine g_goto (pc := 997) (tgt := 1180) Z dL_law_997 (by decide) ?_
      refine g_locals (lv2 := [(0, .ref b), (1, .ref (ad 0)), (2, .ref (ad 20)), (3, .ref (ad 30)), (4, .int y4)]) [2, 3, 4, 5, 6] rfl ?_
      refine g_widen (k := 22 + (k + 1)) (n := 23025 + 6 * (k + 1)) (by omega) (by omega) ?_
      obtain rfl := Option.some.inj hf
      exact hK
    · replace hf := gIfP c10 hf
      refine g_aload_n (pc := 986) Z 5 dL_law_986 rfl ?_
      refine g_iconst (pc := 987) (v := 0) Z dL_law_987 (by decide) ?_
      obtain ⟨b11, hf⟩ := gGuard hf
      refine g_lald (pc := 988) (f := x2.2) Z 21 0 dL_law_988 rfl rfl (gI_in b11) ?_
      refine g_lload (pc := 989) Z 0 dL_law_989 rfl ?_
      refine g_lcmp (pc := 991) Z dL_law_991 ?_
      refine g_if_eq (pc := 992) (tgt := 997) Z dL_law_992 (by decide) (fun c12 => ?_) (fun c12 => ?_)
      · replace hf := gIfP c12 hf
        refine g_goto (pc := 997) (tgt := 1180) Z dL_law_997 (by decide) ?_
        refine g_locals (lv2 := [(0, .ref b), (1, .ref (ad 0)), (2, .ref (ad 20)), (3, .ref (ad 30)), (4, .int y4)]) [2, 3, 4, 5, 6] rfl ?_
        refine g_widen (k := 22 + (k + 1)) (n := 23025 + 6 * (k + 1)) (by omega) (by omega) ?_
        obtain rfl := Option.some.inj hf
        exact hK
      · replace hf := gIfN c12 hf
        refine g_iconst (pc := 995) (v := 0) Z dL_law_995 (by decide) ?_
        exact absurd hf (fun h => by cases h)
  · replace hf := gIfN c9 hf
    refine g_iconst (pc := 979) (v := 0) Z dL_law_979 (by decide) ?_
    exact absurd hf (fun h => by cases h)
