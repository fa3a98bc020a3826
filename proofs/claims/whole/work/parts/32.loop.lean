def fc_all (N L : Nat) (xs : Nat → Int32) (vL : LT) (vD : DT) (vC : CT) (vM : MT) (vO : (Nat → Int64)) (y4 : Int32) (y9 : Int32) : Option (LT × DT × CT × MT × (Nat → Int64)) :=
  if y9 = (0 : Int32) then fc_begin N L xs vL vD vC vM vO y4 else if y9 = (1 : Int32) then fc_take N L xs vL vD vC vM vO y4 else if y9 = (2 : Int32) then fc_give N L xs vL vD vC vM vO y4 else if y9 = (3 : Int32) then fc_set N L xs vL vD vC vM vO y4 else if y9 = (4 : Int32) then fc_get N L xs vL vD vC vM vO y4 else if y9 = (5 : Int32) then fc_setRoot N L xs vL vD vC vM vO y4 else if y9 = (6 : Int32) then fc_root N L xs vL vD vC vM vO y4 else if y9 = (7 : Int32) then fc_commit N L xs vL vD vC vM vO y4 else if y9 = (8 : Int32) then fc_sync N L xs vL vD vC vM vO y4 else if y9 = (9 : Int32) then fc_abort N L xs vL vD vC vM vO y4 else if y9 = (10 : Int32) then fc_checkpoint N L xs vL vD vC vM vO y4 else if y9 = (11 : Int32) then fc_power N L xs vL vD vC vM vO y4 else if y9 = (12 : Int32) then fc_cut N L xs vL vD vC vM vO y4 else if y9 = (13 : Int32) then fc_open N L xs vL vD vC vM vO y4 else if y9 = (14 : Int32) then fc_word N L xs vL vD vC vM vO y4 else if y9 = (15 : Int32) then fc_block N L xs vL vD vC vM vO y4 else if y9 = (16 : Int32) then fc_told N L xs vL vD vC vM vO y4 else if y9 = (17 : Int32) then fc_count N L xs vL vD vC vM vO y4 else some (vL, vD, vC, vM, vO)
set_option maxHeartbeats 40000000 in
set_option maxRecDepth 100000 in
theorem w_all {p : Program} {l : Launch} {e : Env} {s : State} {m : MethodId} {below : List Frame} {meth : Method} {c : Code} {Q : State → Prop} {D : va_G} {ad : Nat → Nat} {ca : Nat → ClassId} {b L N : Nat} {xs : Nat → Int32} (hl0 : l.stackTraces = false) (Z : gZ p s m #[Value.ref b] meth c code 8 RL (Cond.initialized RL :: gA) (fun q : Nat => s.heap.size ≤ q) D cls (tys ca)) (hT : gT RX4 strsH (fun q : Nat => s.heap.size ≤ q) s) (hX : va_X b L xs s s.heap) (hbl : b < s.heap.size) {vL : LT} {vD : DT} {vC : CT} {vM : MT} {vO : (Nat → Int64)} {y4 : Int32} {y9 : Int32} {k : Nat} {u : LT × DT × CT × MT × (Nat → Int64)} (hk : k ≤ 599) (hf : fc_all N L xs vL vD vC vM vO y4 y9 = some u) (hK : gW p l e room_1 s m #[Value.ref b] below meth c 8 (fun q : Nat => s.heap.size ≤ q) D cls (22 + (k + 1)) (23025 + 6 * (k + 1)) Q (wH ad ++ wB ad ++ wL ad ca u.1 ++ wD ad ca u.2.1 ++ wC ad ca u.2.2.1 ++ wM ad ca u.2.2.2.1 ++ wO ad ca u.2.2.2.2) [(0, .ref b), (1, .ref (ad 0)), (2, .ref (ad 20)), (3, .ref (ad 30)), (4, .int y4)] 1180 []) : gW p l e room_1 s m #[Value.ref b] below meth c 8 (fun q : Nat => s.heap.size ≤ q) D cls (22 + k) (23025 + 6 * k) Q (wH ad ++ wB ad ++ wL ad ca vL ++ wD ad ca vD ++ wC ad ca vC ++ wM ad ca vM ++ wO ad ca vO) [(0, .ref b), (1, .ref (ad 0)), (2, .ref (ad 20)), (3, .ref (ad 30)), (4, .int y4)] 39 [.int y9] := by
  unfold fc_all at hf
  by_cases c0 : y9 = (0 : Int32)
  · replace hf := gIfP c0 hf
    refine g_tabIn (pc := 39) (tgt := 124) Z dL_law_39 c0 (by decide) (by decide) rfl (by decide) ?_
    exact w_case_begin hl0 Z hT hX hbl hk hf hK
  · replace hf := gIfN c0 hf
    by_cases c1 : y9 = (1 : Int32)
    · replace hf := gIfP c1 hf
      refine g_tabIn (pc := 39) (tgt := 168) Z dL_law_39 c1 (by decide) (by decide) rfl (by decide) ?_
      exact w_case_take hl0 Z hT hX hbl hk hf hK
    · replace hf := gIfN c1 hf
      by_cases c2 : y9 = (2 : Int32)
      · replace hf := gIfP c2 hf
        refine g_tabIn (pc := 39) (tgt := 224) Z dL_law_39 c2 (by decide) (by decide) rfl (by decide) ?_
        exact w_case_give hl0 Z hT hX hbl hk hf hK
      · replace hf := gIfN c2 hf
        by_cases c3 : y9 = (3 : Int32)
        · replace hf := gIfP c3 hf
          refine g_tabIn (pc := 39) (tgt := 280) Z dL_law_39 c3 (by decide) (by decide) rfl (by decide) ?_
          exact w_case_set hl0 Z hT hX hbl hk hf hK
        · replace hf := gIfN c3 hf
          by_cases c4 : y9 = (4 : Int32)
          · replace hf := gIfP c4 hf
            refine g_tabIn (pc := 39) (tgt := 399) Z dL_law_39 c4 (by decide) (by decide) rfl (by decide) ?_
            exact w_case_get hl0 Z hT hX hbl hk hf hK
          · replace hf := gIfN c4 hf
            by_cases c5 : y9 = (5 : Int32)
            · replace hf := gIfP c5 hf
              refine g_tabIn (pc := 39) (tgt := 466) Z dL_law_39 c5 (by decide) (by decide) rfl (by decide) ?_
              exact w_case_setRoot hl0 Z hT hX hbl hk hf hK
            · replace hf := gIfN c5 hf
              by_cases c6 : y9 = (6 : Int32)
              · replace hf := gIfP c6 hf
                refine g_tabIn (pc := 39) (tgt := 529) Z dL_law_39 c6 (by decide) (by decide) rfl (by decide) ?_
                exact w_case_root hl0 Z hT hX hbl hk hf hK
              · replace hf := gIfN c6 hf
                by_cases c7 : y9 = (7 : Int32)
                · replace hf := gIfP c7 hf
                  refine g_tabIn (pc := 39) (tgt := 573) Z dL_law_39 c7 (by decide) (by decide) rfl (by decide) ?_
                  exact w_case_commit hl0 Z hT hX hbl hk hf hK
                · replace hf := gIfN c7 hf
                  by_cases c8 : y9 = (8 : Int32)
                  · replace hf := gIfP c8 hf
                    refine g_tabIn (pc := 39) (tgt := 645) Z dL_law_39 c8 (by decide) (by decide) rfl (by decide) ?_
                    exact w_case_sync hl0 Z hT hX hbl hk hf hK
                  · replace hf := gIfN c8 hf
                    by_cases c9 : y9 = (9 : Int32)
                    · replace hf := gIfP c9 hf
                      refine g_tabIn (pc := 39) (tgt := 689) Z dL_law_39 c9 (by decide) (by decide) rfl (by decide) ?_
                      exact w_case_abort hl0 Z hT hX hbl hk hf hK
                    · replace hf := gIfN c9 hf
                      by_cases c10 : y9 = (10 : Int32)
                      · replace hf := gIfP c10 hf
                        refine g_tabIn (pc := 39) (tgt := 733) Z dL_law_39 c10 (by decide) (by decide) rfl (by decide) ?_
                        exact w_case_checkpoint hl0 Z hT hX hbl hk hf hK
                      · replace hf := gIfN c10 hf
                        by_cases c11 : y9 = (11 : Int32)
                        · replace hf := gIfP c11 hf
                          refine g_tabIn (pc := 39) (tgt := 777) Z dL_law_39 c11 (by decide) (by decide) rfl (by decide) ?_
                          exact w_case_power hl0 Z hT hX hbl hk hf hK
                        · replace hf := gIfN c11 hf
                          by_cases c12 : y9 = (12 : Int32)
                          · replace hf := gIfP c12 hf
                            refine g_tabIn (pc := 39) (tgt := 845) Z dL_law_39 c12 (by decide) (by decide) rfl (by decide) ?_
                            exact w_case_cut hl0 Z hT hX hbl hk hf hK
                          · replace hf := gIfN c12 hf
                            by_cases c13 : y9 = (13 : Int32)
                            · replace hf := gIfP c13 hf
                              refine g_tabIn (pc := 39) (tgt := 901) Z dL_law_39 c13 (by decide) (by decide) rfl (by decide) ?_
                              exact w_case_open hl0 Z hT hX hbl hk hf hK
                            · replace hf := gIfN c13 hf
                              by_cases c14 : y9 = (14 : Int32)
                              · replace hf := gIfP c14 hf
                                refine g_tabIn (pc := 39) (tgt := 945) Z dL_law_39 c14 (by decide) (by decide) rfl (by decide) ?_
                                exact w_case_word hl0 Z hT hX hbl hk hf hK
                              · replace hf := gIfN c14 hf
                                by_cases c15 : y9 = (15 : Int32)
                                · replace hf := gIfP c15 hf
                                  refine g_tabIn (pc := 39) (tgt := 1000) Z dL_law_39 c15 (by decide) (by decide) rfl (by decide) ?_
                                  exact w_case_block hl0 Z hT hX hbl hk hf hK
                                · replace hf := gIfN c15 hf
                                  by_cases c16 : y9 = (16 : Int32)
                                  · replace hf := gIfP c16 hf
                                    refine g_tabIn (pc := 39) (tgt := 1068) Z dL_law_39 c16 (by decide) (by decide) rfl (by decide) ?_
                                    exact w_case_told hl0 Z hT hX hbl hk hf hK
                                  · replace hf := gIfN c16 hf
                                    by_cases c17 : y9 = (17 : Int32)
                                    · replace hf := gIfP c17 hf
                                      refine g_tabIn (pc := 39) (tgt := 1124) Z dL_law_39 c17 (by decide) (by decide) rfl (by decide) ?_
                                      exact w_case_count hl0 Z hT hX hbl hk hf hK
                                    · replace hf := gIfN c17 hf
                                      refine g_tabOut (pc := 39) (tgt := 1180) Z dL_law_39 (by have q0 := lv_neT (a := 0) c0 (by decide); have q1 := lv_neT (a := 1) c1 (by decide); have q2 := lv_neT (a := 2) c2 (by decide); have q3 := lv_neT (a := 3) c3 (by decide); have q4 := lv_neT (a := 4) c4 (by decide); have q5 := lv_neT (a := 5) c5 (by decide); have q6 := lv_neT (a := 6) c6 (by decide); have q7 := lv_neT (a := 7) c7 (by decide); have q8 := lv_neT (a := 8) c8 (by decide); have q9 := lv_neT (a := 9) c9 (by decide); have q10 := lv_neT (a := 10) c10 (by decide); have q11 := lv_neT (a := 11) c11 (by decide); have q12 := lv_neT (a := 12) c12 (by decide); have q13 := lv_neT (a := 13) c13 (by decide); have q14 := lv_neT (a := 14) c14 (by decide); have q15 := lv_neT (a := 15) c15 (by decide); have q16 := lv_neT (a := 16) c16 (by decide); have q17 := lv_neT (a := 17) c17 (by decide); omega) (by decide) ?_
                                      refine g_widen (k := 22 + (k + 1)) (n := 23025 + 6 * (k + 1)) (by omega) (by omega) ?_
                                      obtain rfl := Option.some.inj hf
                                      exact hK
def f_law_loop (N L : Nat) (xs : Nat → Int32) : Nat → LT → DT → CT → MT → (Nat → Int64) → Int32 → Option Unit
  | 0, _, _, _, _, _, _ => none
  | n + 1, vL, vD, vC, vM, vO, y4 => if ((Int32.ofNat L) - (5 : Int32)) < y4 then some () else if gI y4 L = true then (fc_all N L xs vL vD vC vM vO y4 ((xs y4.toNatClampNeg) &&& (31 : Int32))).bind fun u => f_law_loop N L xs n u.1 u.2.1 u.2.2.1 u.2.2.2.1 u.2.2.2.2 (y4 + (5 : Int32)) else none
set_option maxHeartbeats 40000000 in
set_option maxRecDepth 100000 in
/-- THE LAW'S LOOP: where its pure function says so, the machine comes to its end with 1 -/
theorem w_law_loop {p : Program} {l : Launch} {e : Env} {s : State} {m : MethodId} {below : List Frame} {meth : Method} {c : Code} {D : va_G} {ad : Nat → Nat} {ca : Nat → ClassId} {b L N : Nat} {xs : Nat → Int32} (hl0 : l.stackTraces = false) (Z : gZ p s m #[Value.ref b] meth c code 8 RL (Cond.initialized RL :: gA) (fun q : Nat => s.heap.size ≤ q) D cls (tys ca)) (hT : gT RX4 strsH (fun q : Nat => s.heap.size ≤ q) s) (hX : va_X b L xs s s.heap) (hbl : b < s.heap.size) (hr : meth.sig.returnType = ret) : ∀ (n : Nat) (vL : LT) (vD : DT) (vC : CT) (vM : MT) (vO : (Nat → Int64)) (y4 : Int32) (k : Nat), k + n ≤ 600 → f_law_loop N L xs n vL vD vC vM vO y4 = some () → gW p l e room_1 s m #[Value.ref b] below meth c 8 (fun q : Nat => s.heap.size ≤ q) D cls (22 + k) (23025 + 6 * k) (lw_Z below #[Value.ref b] s) (wH ad ++ wB ad ++ wL ad ca vL ++ wD ad ca vD ++ wC ad ca vC ++ wM ad ca vM ++ wO ad ca vO) [(0, .ref b), (1, .ref (ad 0)), (2, .ref (ad 20)), (3, .ref (ad 30)), (4, .int y4)] 23 [] := by
  have hbA : ¬ (fun q : Nat => s.heap.size ≤ q) b := Nat.not_le.mpr hbl
  intro n
  induction n with
  | zero =>
    intro vL vD vC vM vO y4 k hk hf
    exact absurd hf (by rw [f_law_loop]; exact fun h => by cases h)
  | succ n ih =>
    intro vL vD vC vM vO y4 k hk hf
    rw [f_law_loop] at hf
    refine g_iload (pc := 23) Z 4 dL_law_23 rfl ?_
    refine g_aload_n (pc := 25) Z 0 dL_law_25 rfl ?_
    refine g_slen (pc := 26) Z hX hbl hbA dL_law_26 ?_
    refine g_iconst (pc := 27) (v := 5) Z dL_law_27 (by decide) ?_
    refine g_isub (pc := 28) Z dL_law_28 ?_
    refine g_icmp_gt (pc := 29) (tgt := 1186) Z dL_law_29 (by decide) (fun c1 => ?_) (fun c1 => ?_)
    · refine g_iconst (pc := 1186) (v := 1) Z dL_law_1186 (by decide) ?_
      exact g_lawret Z hr (by omega) (by omega) dL_law_1187
    · replace hf := gIfN c1 hf
      refine g_aload_n (pc := 32) Z 0 dL_law_32 rfl ?_
      refine g_iload (pc := 33) Z 4 dL_law_33 rfl ?_
      obtain ⟨b2, hf⟩ := gGuard hf
      refine g_sld (pc := 35) Z hX hbl hbA dL_law_35 (gI_in b2) ?_
      refine g_bipush (pc := 36) (v := 31) Z dL_law_36 (by decide) ?_
      refine g_iand (pc := 38) Z dL_law_38 ?_
      obtain ⟨u, h3, hf⟩ := Option.bind_eq_some_iff.mp hf
      refine w_all (u := u) hl0 Z hT hX hbl (by omega) h3 ?_
      refine g_iinc (pc := 1180) (v := y4 + (5 : Int32)) (lv' := [(4, .int (y4 + (5 : Int32))), (0, .ref b), (1, .ref (ad 0)), (2, .ref (ad 20)), (3, .ref (ad 30))]) Z 4 dL_law_1180 rfl rfl (by decide) rfl ?_
      refine g_goto (pc := 1183) (tgt := 23) Z dL_law_1183 (by decide) ?_
      refine g_locals (lv2 := [(0, .ref b), (1, .ref (ad 0)), (2, .ref (ad 20)), (3, .ref (ad 30)), (4, .int (y4 + (5 : Int32)))]) [1, 2, 3, 4, 0] rfl ?_
      exact ih _ _ _ _ _ _ (k + 1) (by omega) hf
