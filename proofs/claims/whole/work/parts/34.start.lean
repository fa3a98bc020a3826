theorem wq0 : Cond.classLink RL 8 RX4 ∈ gA := wt1 15 rfl rfl
theorem wq1 : Cond.instantiable RX4 4 ∈ gA := wt1 16 rfl rfl
theorem wq2 : Cond.initialized RX4 ∈ gA := wt1 1 rfl rfl
theorem wq3 : cd_Heap_init ∈ gA := wt1 19 rfl rfl
theorem wq4 : Cond.methodLink RL 77 yX4_init ∈ gA := wt1 17 rfl rfl
theorem wq5 : Cond.instanceMethod yX4_init ∈ gA := wt1 18 rfl rfl
theorem wq6 : Cond.classLink RL 78 RX5 ∈ gA := wt3 162 rfl rfl
theorem wq7 : Cond.instantiable RX5 21 ∈ gA := wt3 163 rfl rfl
theorem wq8 : Cond.initialized RX5 ∈ gA := wt1 6 rfl rfl
theorem wq9 : cd_Mod_init ∈ gA := wt3 166 rfl rfl
theorem wq10 : Cond.methodLink RL 80 yX5_init ∈ gA := wt3 164 rfl rfl
theorem wq11 : Cond.instanceMethod yX5_init ∈ gA := wt3 165 rfl rfl
theorem wq12 : Cond.arrayClass .long ∈ gA := wt1 66 rfl rfl
theorem wq13 : Cond.initialized RL ∈ gA := wt1 0 rfl rfl
def mz : MT := ((fun _ => 0), (fun _ => 0), (fun _ => 0), (fun _ => 0), 0, (fun _ => 0), (fun _ => 0), (fun _ => 0), 0, false, false, 0, 0, 0, 0, 0, 0, 0, 0, 0, 0)
theorem arr_known {args : Array Value} {s : State} {ty : FieldType} (h : (Cond.arrayClass ty).before args s = true) : ∃ cA : ClassId, ArrOfT s cA ty ∧ s.vm.findClass ("[" ++ ty.toString) = some cA := by
  obtain ⟨c, k, comp, h1, h2, h3⟩ := Cond.arrayClass_spec (args := args) (first := s) (o := none) (s := s) (idx := []) h
  exact ⟨c, fun n z => ⟨fun k h => (by cases h), k, h2, comp, h3⟩, h1⟩
/-- the words for the walk, out of the start -/
theorem start_gN {args : Array Value} {s : State} (hts : ∀ w ∈ lw_tbl, w.before args s = true) (hgv : ∀ w ∈ flatC (Jvm.Cond.and given_1 narrow_1), w.before args s = true) : gN s := by
  refine ⟨?_, ?_, ?_, ?_, ?_, ?_, ?_, ?_, ?_, ?_, ?_, ?_⟩
  all_goals first | exact va_Nw.of rfl (hts _ (by decide +kernel)) | exact va_Nc.of (hgv _ (by decide +kernel))
theorem start_gT {args : Array Value} {s : State} (hts : ∀ w ∈ lw_tbl, w.before args s = true) (hgv : ∀ w ∈ flatC (Jvm.Cond.and given_1 narrow_1), w.before args s = true) : gT RX4 strsH (fun q : Nat => s.heap.size ≤ q) s := by
  have hA : ∀ a : Nat, a < s.heap.size → ¬ (fun q : Nat => s.heap.size ≤ q) a := fun a h => Nat.not_le.mpr h
  refine ⟨vx_Zqof (hts _ (by decide +kernel)) (hts _ (by decide +kernel)) (hgv _ (by decide +kernel)) hA, vx_Zqof (hts _ (by decide +kernel)) (hts _ (by decide +kernel)) (hgv _ (by decide +kernel)) hA, ?_⟩
  have key : ∀ (k : Nat) (tx : String), (Cond.stringRef RX4 k tx).before args s = true → (Cond.exactly (Term.string RX4 k) "java/lang/String").before args s = true → ∃ sa : Nat, vk_R RX4 k tx sa s := by
    intro k tx h1 h2
    obtain ⟨a, c, cA, kA, q1, -⟩ := Cond.exactly_spec (args := args) (first := s) (o := none) (s := s) (idx := []) h2
    refine ⟨a, by simpa only [Cond.before, Cond.holds, Cond.value] using h1, ?_⟩
    rw [← q1]
    exact Term.string_eval_of_vm (args := #[]) rfl
  intro q hq
  have hall : ∀ q ∈ strsH, Cond.stringRef RX4 q.1 q.2 ∈ lw_tbl ∧ Cond.exactly (Term.string RX4 q.1) "java/lang/String" ∈ flatC (Jvm.Cond.and given_1 narrow_1) := by decide +kernel
  exact key q.1 q.2 (hts _ (hall q hq).1) (hgv _ (hall q hq).2)
set_option maxHeartbeats 4000000 in
set_option maxRecDepth 100000 in
/-- THE LAW, from its entry, over its pure function -/
theorem whole_open (hpure : ∀ (L : Nat) (xs : Nat → Int32), L ≤ 2560 → f_law_loop 6000 L xs 513 lz dz cz mz (fun _ => 0) 0 = some ()) {p : Program} {e : Env} {s : State} {m : MethodId} {below : List Frame} {meth : Method} {c : Code} (l : Launch) (hl0 : l.stackTraces = false) {b L : Nat} {xs : Nat → Int32} (hL : L ≤ 2560) (C0 : lw_At p s m meth c b L xs) : W p l e room_1 s m #[Value.ref b] below meth c s.heap [] 0 0 (lw_Z below #[Value.ref b] s) (entryFrame m ([Value.ref b] : List Value).toArray 8) := by
  obtain ⟨hx, hb, hr, hml, hown, hts, hX, hbl, hlocks, hgv0⟩ := id C0
  have hgv := flat_of_before _ hgv0
  have hN := start_gN hts hgv
  have hT := start_gT hts hgv
  obtain ⟨c0, iS0, hKn0⟩ := u_known (C := RX0) (T := TX0) (N := 1) (n := 1) hts (fun w h => (List.mem_filter.mp (in_X0 w h)).1) (hts (.instantiable RX0 1) (by decide +kernel))
  obtain ⟨c1, iS1, hKn1⟩ := u_known (C := RX1) (T := TX1) (N := 6) (n := 6) hts (fun w h => (List.mem_filter.mp (in_X1 w h)).1) (hts (.instantiable RX1 6) (by decide +kernel))
  obtain ⟨c2, iS2, hKn2⟩ := u_known (C := RX2) (T := TX2) (N := 12) (n := 12) hts (fun w h => (List.mem_filter.mp (in_X2 w h)).1) (hts (.instantiable RX2 12) (by decide +kernel))
  obtain ⟨c3, iS3, hKn3⟩ := u_known (C := RX3) (T := TX3) (N := 4) (n := 4) hts (fun w h => (List.mem_filter.mp (in_X3 w h)).1) (hts (.instantiable RX3 4) (by decide +kernel))
  obtain ⟨c4, iS4, hKn4⟩ := u_known (C := RX4) (T := TX4) (N := 4) (n := 4) hts (fun w h => (List.mem_filter.mp (in_X4 w h)).1) (hts (.instantiable RX4 4) (by decide +kernel))
  obtain ⟨c5, iS5, hKn5⟩ := u_known (C := RX5) (T := TX5) (N := 21) (n := 21) hts (fun w h => (List.mem_filter.mp (in_X5 w h)).1) (hts (.instantiable RX5 21) (by decide +kernel))
  obtain ⟨a0, hA0, hB0⟩ := arr_known (ty := .long) (hts (.arrayClass .long) (by decide +kernel))
  obtain ⟨a1, hA1, hB1⟩ := arr_known (ty := .int) (hts (.arrayClass .int) (by decide +kernel))
  obtain ⟨a2, hA2, hB2⟩ := arr_known (ty := .boolean) (hts (.arrayClass .boolean) (by decide +kernel))
  obtain ⟨D, hKc⟩ : ∃ D : va_G, ∀ (k : Nat) (q : vw_C), cls[k]? = some q → u_Kn s q.1 q.2.1 q.2.2 (D.1 k) (D.2 k) := by
    refine ⟨(fun k => match k with | 0 => c0 | 1 => c1 | 2 => c2 | 3 => c3 | 4 => c4 | _ => c5, fun k => match k with | 0 => iS0 | 1 => iS1 | 2 => iS2 | 3 => iS3 | 4 => iS4 | _ => iS5), ?_⟩
    intro k q hq
    match k, hq with
    | 0, hq => cases hq; exact hKn0
    | 1, hq => cases hq; exact hKn1
    | 2, hq => cases hq; exact hKn2
    | 3, hq => cases hq; exact hKn3
    | 4, hq => cases hq; exact hKn4
    | 5, hq => cases hq; exact hKn5
    | k + 6, hq => simp [cls, vwCl] at hq
  obtain ⟨ca, hca⟩ : ∃ ca : Nat → ClassId, ca = fun k => match k with | 0 => a0 | 1 => a1 | _ => a2 := ⟨_, rfl⟩
  have hK : va_K D cls (tys ca) s := by
    refine ⟨hKc, fun k q hk => ?_⟩
    subst hca
    match k, hk with
    | 0, hk => cases hk; exact ⟨hA0, hB0⟩
    | 1, hk => cases hk; exact ⟨hA1, hB1⟩
    | 2, hk => cases hk; exact ⟨hA2, hB2⟩
    | k + 3, hk => simp [tys] at hk
  have hiL : Cond.initialized RL ∈ gA := wq13
  have Z : gZ p s m #[Value.ref b] meth c code 8 RL (Cond.initialized RL :: gA) (fun q : Nat => s.heap.size ≤ q) D cls (tys ca) := ⟨hx, hb, hml, hown, fun w hw => (List.mem_cons.mp hw).elim (fun h => by rw [h]; exact hts _ (List.mem_filter.mp hiL).1) (fun h => hts w (List.mem_filter.mp h).1), hK, fun _ h => h, hlocks, hN⟩
  have hl := lv_entry ([.ref b]) (n := 8) (Nat.le_of_ble_eq_true rfl)
  rw [lg_entry_eq]
  have start : gW p l e room_1 s m #[Value.ref b] below meth c 8 (fun q : Nat => s.heap.size ≤ q) D cls 0 0 (lw_Z below #[Value.ref b] s) [] [(0, .ref b)] 0 [] := by
    refine g_new (pc := 0) (T := TX4) (N := 4) (ci := 4) (fs := [.null, .null, .null, .null]) (ty0 := tyX4) Z dL_law_0 (mm wq0) (mm wq1) (mm wq2) inx_X4 tyX4_ok rfl (fun j hj => by rcases (show j = 0 ∨ j = 1 ∨ j = 2 ∨ j = 3 by omega) with rfl | rfl | rfl | rfl <;> rfl) (Nat.le_of_ble_eq_true rfl) (Nat.le_of_ble_eq_true rfl) (fun n1 => ?_)
    refine g_perm (ws2 := [(n1, .inr (4, [.null, .null, .null, .null]))]) [0] (by decide) rfl ?_
    refine g_dup (pc := 3) Z dL_law_3 rfl ?_
    refine g_callv (pc := 4) (ws2 := fun u => wH u ++ wB u ++ wL u ca lz ++ wD u ca dz ++ wC u ca cz) (wr := ([] : va_W)) Z [0] [] [0, 1, 2, 3, 4, 5, 6, 7, 8, 9, 10, 11, 12] (g_runI (ret := none) Z (c_Heap_init l D ca n1) (cwI 0 Z.2.2.2.2.1 (gg_C wq3) rfl rfl rfl (Z.2.2.2.2.1 _ (mm wq2)) (Z.2.2.2.2.1 _ (mm wq4)) (Z.2.2.2.2.1 _ (mm wq5)) rfl yd_Heap_init ⟨(Nat.le_of_ble_eq_true rfl), (Nat.le_of_ble_eq_true rfl)⟩) [0] rfl (by decide) rfl rfl (Nat.le_of_ble_eq_true rfl) dL_law_4 ⟨(Nat.le_of_ble_eq_true rfl), (Nat.le_of_ble_eq_true rfl)⟩) rfl rfl (by decide) (by decide) (by decide) (fun _ => rfl) (fun u1 hu1 => ?_)
    obtain rfl := hu1
    refine g_astore_n (pc := 7) (lv' := [(1, .ref (u1 0)), (0, .ref b)]) Z dL_law_7 (by decide) rfl ?_
    refine g_new (pc := 8) (T := TX5) (N := 21) (ci := 5) (fs := [.null, .null, .null, .null, .int 0, .null, .null, .null, .int 0, .int 0, .int 0, .int 0, .int 0, .long 0, .int 0, .int 0, .int 0, .int 0, .int 0, .int 0, .int 0]) (ty0 := tyX5) Z dL_law_8 (mm wq6) (mm wq7) (mm wq8) inx_X5 tyX5_ok rfl (fun j hj => by rcases (show j = 0 ∨ j = 1 ∨ j = 2 ∨ j = 3 ∨ j = 4 ∨ j = 5 ∨ j = 6 ∨ j = 7 ∨ j = 8 ∨ j = 9 ∨ j = 10 ∨ j = 11 ∨ j = 12 ∨ j = 13 ∨ j = 14 ∨ j = 15 ∨ j = 16 ∨ j = 17 ∨ j = 18 ∨ j = 19 ∨ j = 20 by omega) with rfl | rfl | rfl | rfl | rfl | rfl | rfl | rfl | rfl | rfl | rfl | rfl | rfl | rfl | rfl | rfl | rfl | rfl | rfl | rfl | rfl <;> rfl) (Nat.le_of_ble_eq_true rfl) (Nat.le_of_ble_eq_true rfl) (fun n2 => ?_)
    refine g_perm (ws2 := wH u1 ++ wB u1 ++ wL u1 ca lz ++ wD u1 ca dz ++ wC u1 ca cz ++ [(n2, .inr (5, [.null, .null, .null, .null, .int 0, .null, .null, .null, .int 0, .int 0, .int 0, .int 0, .int 0, .long 0, .int 0, .int 0, .int 0, .int 0, .int 0, .int 0, .int 0]))]) [0, 1, 2, 3, 4, 5, 6, 7, 8, 9, 10, 11, 12, 13] (by decide) rfl ?_
    refine g_dup (pc := 11) Z dL_law_11 rfl ?_
    refine g_callv (pc := 12) (ws2 := fun u => wH u1 ++ wB u1 ++ wL u1 ca lz ++ wD u1 ca dz ++ wC u1 ca cz ++ [(n2, .inr (5, [.ref u.1, .ref u.2.1, .ref u.2.2.1, .ref u.2.2.2.1, .int 0, .ref u.2.2.2.2.1, .ref u.2.2.2.2.2.1, .ref u.2.2.2.2.2.2, .int 0, .int 0, .int 0, .int 0, .int 0, .long 0, .int 0, .int 0, .int 0, .int 0, .int 0, .int 0, .int 0])), (u.1, .inl (ca 0, 1024, .inr (.inl (fun _ => 0)))), (u.2.1, .inl (ca 0, 1024, .inr (.inl (fun _ => 0)))), (u.2.2.1, .inl (ca 1, 6000, .inl (fun _ => 0))), (u.2.2.2.1, .inl (ca 0, 6000, .inr (.inl (fun _ => 0)))), (u.2.2.2.2.1, .inl (ca 0, 1024, .inr (.inl (fun _ => 0)))), (u.2.2.2.2.2.1, .inl (ca 2, 1024, .inl (fun _ => 0))), (u.2.2.2.2.2.2, .inl (ca 0, 1024, .inr (.inl (fun _ => 0))))]) (wr := (wH u1 ++ wB u1 ++ wL u1 ca lz ++ wD u1 ca dz ++ wC u1 ca cz)) Z [13] [0, 1, 2, 3, 4, 5, 6, 7, 8, 9, 10, 11, 12] [0, 1, 2, 3, 4, 5, 6, 7, 8, 9, 10, 11, 12, 13, 14, 15, 16, 17, 18, 19, 20] (g_runI (ret := none) Z (c_Mod_init l D ca n2) (cwI 0 Z.2.2.2.2.1 (gg_C wq9) rfl rfl rfl (Z.2.2.2.2.1 _ (mm wq8)) (Z.2.2.2.2.1 _ (mm wq10)) (Z.2.2.2.2.1 _ (mm wq11)) rfl yd_Mod_init ⟨(Nat.le_of_ble_eq_true rfl), (Nat.le_of_ble_eq_true rfl)⟩) [13] rfl (by decide) rfl rfl (Nat.le_of_ble_eq_true rfl) dL_law_12 ⟨(Nat.le_of_ble_eq_true rfl), (Nat.le_of_ble_eq_true rfl)⟩) rfl rfl (by decide) (by decide) (by decide) (fun _ => rfl) (fun u2 hu2 => ?_)
    refine g_astore_n (pc := 15) (lv' := [(2, .ref n2), (1, .ref (u1 0)), (0, .ref b)]) Z dL_law_15 (by decide) rfl ?_
    refine g_iconst (pc := 16) (v := 1) Z dL_law_16 (by decide) ?_
    refine g_newa (pc := 17) (ty := .long) (N' := 1) (a0 := (1, .inr (.inl (fun _ => 0)))) Z 0 dL_law_17 (mm wq12) rfl (fun _ _ h => h) rfl (fun _ => rfl) (by decide) (by decide) (by decide) (Nat.le_of_ble_eq_true rfl) (Nat.le_of_ble_eq_true rfl) (fun n3 => ?_)
    refine g_astore_n (pc := 19) (lv' := [(3, .ref n3), (2, .ref n2), (1, .ref (u1 0)), (0, .ref b)]) Z dL_law_19 (by decide) rfl ?_
    refine g_iconst (pc := 20) (v := 0) Z dL_law_20 (by decide) ?_
    refine g_istore (pc := 21) (lv' := [(4, .int 0), (3, .ref n3), (2, .ref n2), (1, .ref (u1 0)), (0, .ref b)]) Z dL_law_21 (by decide) rfl ?_
    obtain ⟨ad, had⟩ : ∃ ad : Nat → Nat, ad = (fun k => match k with | 0 => u1 0 | 1 => u1 1 | 2 => u1 2 | 3 => u1 3 | 4 => u1 4 | 5 => u1 5 | 6 => u1 6 | 7 => u1 7 | 8 => u1 8 | 9 => u1 9 | 10 => u1 10 | 11 => u1 11 | 12 => u1 12 | 20 => n2 | 21 => u2.1 | 22 => u2.2.1 | 23 => u2.2.2.1 | 24 => u2.2.2.2.1 | 25 => u2.2.2.2.2.1 | 26 => u2.2.2.2.2.2.1 | 27 => u2.2.2.2.2.2.2 | _ => n3) := ⟨_, rfl⟩
    refine g_perm (ws2 := wH ad ++ wB ad ++ wL ad ca lz ++ wD ad ca dz ++ wC ad ca cz ++ wM ad ca mz ++ wO ad ca (fun _ => 0)) [0, 1, 2, 3, 4, 5, 6, 7, 8, 9, 10, 11, 12, 13, 14, 15, 16, 17, 18, 19, 20, 21] (by decide) (by rw [had]; rfl) ?_
    refine g_locals (lv2 := [(0, .ref b), (1, .ref (ad 0)), (2, .ref (ad 20)), (3, .ref (ad 30)), (4, .int 0)]) [4, 3, 2, 1, 0] (by rw [had]; rfl) ?_
    refine g_widen (k := 22 + 0) (n := 23025 + 6 * 0) (by decide) (by decide) ?_
    exact w_law_loop (ad := ad) hl0 Z hT hX hbl hr 513 lz dz cz mz (fun _ => 0) 0 0 (by decide) (hpure L xs hL)
  exact start s.heap [] _ (fun k q h => by simp at h) ⟨fun i j p q h => by simp at h, fun k q h => by simp at h⟩ va_S.rf hl
