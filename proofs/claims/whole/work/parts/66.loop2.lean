/-! PURE SIDE 27: every call, every run -/
theorem Inv_mono {t : Nat} {vL : LT} {vD : DT} {vC : CT} {vM : MT} (h : Inv t vL vD vC vM) : Inv (t + 1) vL vD vC vM := by
  rcases h with ⟨g, own, ch, ps, p, o, w, gn, lan, cs, th, A, e1, e2, e3⟩ | ⟨g, own, ch, p, us, co, la, th, A, e2, e3⟩
  · subst e1 e2 e3
    exact kOn A
  · subst e2 e3
    exact kOff A
section
variable {N L : Nat} {xs : Nat → Int32} {t : Nat} {vL : LT} {vD : DT} {vC : CT} {vM : MT} {vO : Nat → Int64} {i : Nat}
theorem eCI {x : Int32} {vL' : LT} {D : DT} {vC' : CT} {M' : MT} {X : Option (Int32 × LT × DT × CT × (Nat → Int64))} {Y : Option (Int32 × MT)} (h1 : X = some ((0 : Int32), vL', D, vC', vp_updL vO (0 : Int32).toNatClampNeg x.toInt64)) (h2 : Y = some (x, M')) (h3 : M'.2.2.2.2.2.2.2.2.2.2.2.2.2.2.2.2.2.2.2.2 = 0) : X.bind (fun x1 => Y.bind fun x3 => (f_Mod_thrown x3.2).bind fun x5 => if x5 = x1.1 then if x1.1 = 0 then if gI (0 : Int32) 1 = true then if (lg_cmp (x1.2.2.2.2 (0 : Int32).toNatClampNeg) x3.1.toInt64) = 0 then some (x1.2.1, x1.2.2.1, x1.2.2.2.1, x3.2, x1.2.2.2.2) else none else none else some (x1.2.1, x1.2.2.1, x1.2.2.2.1, x3.2, x1.2.2.2.2) else none) = some (vL', D, vC', M', vp_updL vO (0 : Int32).toNatClampNeg x.toInt64) := by
  subst h1 h2
  exact bnd rfl (bnd rfl (bnd rfl (eO h3 rfl (vO0 vO _))))
theorem open_all (hN : 2000 < N) (ht : t + 1 < 2 ^ 30) {y4 : Int32} (h : Inv t vL vD vC vM) : ∃ u, fc_open N L xs vL vD vC vM vO y4 = some u ∧ Inv (t + 2) u.1 u.2.1 u.2.2.1 u.2.2.2.1 := by
  rcases h with ⟨g, own, ch, ps, p, o, w, gn, lan, cs, th, A, e1, e2, e3⟩ | ⟨g, own, ch, p, us, co, la, th, A, e2, e3⟩
  · subst e1 e2 e3
    obtain ⟨u, h1, h2⟩ := open_on (N := N) (L := L) (xs := xs) (vO := vO) (y4 := y4) (th := th) A
    exact ⟨u, h1, Inv_mono h2⟩
  · subst e2 e3
    obtain ⟨x, vL', D, vC', M', h1, h2, h3, h4⟩ := open_both (N := N) (vL := vL) (p := p) (ch := ch) (us := us) (co := co) (la := la) (th := th) hN (by omega) A
    have q1 : f_Law_open N vL vD (mkC g own [] p false) vO = some ((0 : Int32), vL', D, vC', vp_updL vO (0 : Int32).toNatClampNeg x.toInt64) := gHo h1 (ift g01 rfl)
    exact ⟨_, eCI q1 h2 h3, Inv_mono h4⟩
theorem commit_all (hN : 2000 < N) (ht : t + 1 < 2 ^ 30) (hL : L < 2 ^ 31) (hi : i + 5 ≤ L) (h : Inv t vL vD vC vM) : ∃ u, fc_commit N L xs vL vD vC vM vO (nI i) = some u ∧ Inv (t + 2) u.1 u.2.1 u.2.2.1 u.2.2.2.1 := by
  have hg : gI (nI i + (1 : Int32)) L = true := gk (k := 1) rfl (by omega) hL
  have key : ∀ sy : Bool, (∃ x vL' D vC' M', f_Law_commit N vL vD vC vO sy = some ((0 : Int32), vL', D, vC', vp_updL vO (0 : Int32).toNatClampNeg x.toInt64) ∧ f_Mod_commit N vM sy = some (x, M') ∧ M'.2.2.2.2.2.2.2.2.2.2.2.2.2.2.2.2.2.2.2.2 = 0 ∧ Inv (t + 2) vL' D vC' M') ∨ ∃ M', f_Law_commit N vL vD vC vO sy = some ((1 : Int32), vL, vD, vC, vO) ∧ f_Mod_commit N vM sy = some ((0 : Int32), M') ∧ M'.2.2.2.2.2.2.2.2.2.2.2.2.2.2.2.2.2.2.2.2 = 1 ∧ Inv (t + 2) vL vD vC M' := fun sy => by
    rcases h with ⟨g, own, ch, ps, p, o, w, gn, lan, cs, th, A, e1, e2, e3⟩ | ⟨g, own, ch, p, us, co, la, th, A, e2, e3⟩
    · subst e1 e2 e3
      cases o with
      | false => exact Or.inr ⟨sM vD g ch ps false cs lan 1, gHe (gEe (nT_shut A.on)) (ift rfl rfl), bnd sh_shut (ift rfl rfl), rfl, Inv_mono (kOn A)⟩
      | true =>
        obtain ⟨x, vL', D, vC', M', h1, h2, h3, h4⟩ := commit_both (N := N) (sy := sy) (th := th) hN ht A
        exact Or.inl ⟨x, vL', D, vC', M', gHo h1 (ift g01 rfl), h2, h3, h4⟩
    · subst e2 e3
      obtain ⟨q1, q2⟩ := commit_off (N := N) (sy := sy) (vL := vL) (p := p) (ch := ch) (us := us) (co := co) (la := la) (th := th) (vO := vO) A
      exact Or.inr ⟨_, q1, q2, rfl, Inv_mono (kOff A)⟩
  unfold fc_commit
  generalize xs (nI i + (1 : Int32)).toNatClampNeg = a
  by_cases q : a = 0
  · rcases key false with ⟨x, vL', D, vC', M', h1, h2, h3, h4⟩ | ⟨M', h1, h2, h3, h4⟩
    · exact ⟨_, ift hg (ift q (bnd h1 (ift hg (ift q (bnd h2 (bnd rfl (eO h3 rfl (vO0 vO _)))))))), h4⟩
    · exact ⟨_, ift hg (ift q (bnd h1 (ift hg (ift q (bnd h2 (bnd rfl (eT h3 n1))))))), h4⟩
  · rcases key true with ⟨x, vL', D, vC', M', h1, h2, h3, h4⟩ | ⟨M', h1, h2, h3, h4⟩
    · exact ⟨_, ift hg (ifn q (bnd h1 (ift hg (ifn q (bnd h2 (bnd rfl (eO h3 rfl (vO0 vO _)))))))), h4⟩
    · exact ⟨_, ift hg (ifn q (bnd h1 (ift hg (ifn q (bnd h2 (bnd rfl (eT h3 n1))))))), h4⟩
theorem ex_mono {α : Type} {f : Option α} {P Q : α → Prop} (hpq : ∀ u, P u → Q u) (h : ∃ u, f = some u ∧ P u) : ∃ u, f = some u ∧ Q u := by
  obtain ⟨u, h1, h2⟩ := h
  exact ⟨u, h1, hpq u h2⟩
/-- EVERY CALL: both sides answer alike, and what holds between the calls holds behind it -/
theorem all_step (hN : 2000 < N) (ht : t + 1 < 2 ^ 30) (hL : L < 2 ^ 31) (hi : i + 5 ≤ L) (y9 : Int32) (h : Inv t vL vD vC vM) : ∃ u, fc_all N L xs vL vD vC vM vO (nI i) y9 = some u ∧ Inv (t + 2) u.1 u.2.1 u.2.2.1 u.2.2.2.1 := by
  unfold fc_all
  have mono : ∀ {f : Option (LT × DT × CT × MT × (Nat → Int64))}, (∃ u, f = some u ∧ Inv (t + 1) u.1 u.2.1 u.2.2.1 u.2.2.2.1) → ∃ u, f = some u ∧ Inv (t + 2) u.1 u.2.1 u.2.2.1 u.2.2.2.1 := fun h => ex_mono (fun u q => Inv_mono q) h
  have two : ∀ {f : LT → CT → MT → Option (LT × DT × CT × MT × (Nat → Int64))}, (∀ g own ch ps p o w gn lan cs th, On t vD g own ch ps p o w gn lan cs → ∃ u, f (sL cs lan) (mkC g own ps p o) (sM vD g ch ps o cs lan th) = some u ∧ Inv (t + 1) u.1 u.2.1 u.2.2.1 u.2.2.2.1) → (∀ g own ch p us co la th, Off t vD g own → ∃ u, f vL (mkC g own [] p false) (sX vD g ch us co la th) = some u ∧ Inv (t + 1) u.1 u.2.1 u.2.2.1 u.2.2.2.1) → ∃ u, f vL vC vM = some u ∧ Inv (t + 2) u.1 u.2.1 u.2.2.1 u.2.2.2.1 := fun {f} hon hoff => by
    rcases h with ⟨g, own, ch, ps, p, o, w, gn, lan, cs, th, A, e1, e2, e3⟩ | ⟨g, own, ch, p, us, co, la, th, A, e2, e3⟩
    · subst e1 e2 e3
      exact mono (hon _ _ _ _ _ _ _ _ _ _ _ A)
    · subst e2 e3
      exact mono (hoff _ _ _ _ _ _ _ _ A)
  by_cases z0 : y9 = (0 : Int32)
  · rw [if_pos z0]
    exact two (f := fun a b c => fc_begin N L xs a vD b c vO (nI i)) (fun _ _ _ _ _ _ _ _ _ _ _ A => begin_on hN A) (fun _ _ _ _ _ _ _ _ A => begin_off A)
  rw [if_neg z0]
  by_cases z1 : y9 = (1 : Int32)
  · rw [if_pos z1]
    exact two (f := fun a b c => fc_take N L xs a vD b c vO (nI i)) (fun _ _ _ _ _ _ _ _ _ _ _ A => take_on hN hL hi A) (fun _ _ _ _ _ _ _ _ A => take_off hL hi A)
  rw [if_neg z1]
  by_cases z2 : y9 = (2 : Int32)
  · rw [if_pos z2]
    exact two (f := fun a b c => fc_give N L xs a vD b c vO (nI i)) (fun _ _ _ _ _ _ _ _ _ _ _ A => give_on hN hL hi A) (fun _ _ _ _ _ _ _ _ A => give_off hL hi A)
  rw [if_neg z2]
  by_cases z3 : y9 = (3 : Int32)
  · rw [if_pos z3]
    exact two (f := fun a b c => fc_set N L xs a vD b c vO (nI i)) (fun _ _ _ _ _ _ _ _ _ _ _ A => set_on hN hL hi A) (fun _ _ _ _ _ _ _ _ A => set_off hL hi A)
  rw [if_neg z3]
  by_cases z4 : y9 = (4 : Int32)
  · rw [if_pos z4]
    exact two (f := fun a b c => fc_get N L xs a vD b c vO (nI i)) (fun _ _ _ _ _ _ _ _ _ _ _ A => get_on hN hL hi A) (fun _ _ _ _ _ _ _ _ A => get_off hL hi A)
  rw [if_neg z4]
  by_cases z5 : y9 = (5 : Int32)
  · rw [if_pos z5]
    exact two (f := fun a b c => fc_setRoot N L xs a vD b c vO (nI i)) (fun _ _ _ _ _ _ _ _ _ _ _ A => setRoot_on hN hL hi A) (fun _ _ _ _ _ _ _ _ A => setRoot_off hL hi A)
  rw [if_neg z5]
  by_cases z6 : y9 = (6 : Int32)
  · rw [if_pos z6]
    exact two (f := fun a b c => fc_root N L xs a vD b c vO (nI i)) (fun _ _ _ _ _ _ _ _ _ _ _ A => root_on A) (fun _ _ _ _ _ _ _ _ A => root_off A)
  rw [if_neg z6]
  by_cases z7 : y9 = (7 : Int32)
  · rw [if_pos z7]
    exact commit_all hN ht hL hi h
  rw [if_neg z7]
  by_cases z8 : y9 = (8 : Int32)
  · rw [if_pos z8]
    exact two (f := fun a b c => fc_sync N L xs a vD b c vO (nI i)) (fun _ _ _ _ _ _ _ _ _ _ _ A => sync_on' hN A) (fun _ _ _ _ _ _ _ _ A => sync_off A)
  rw [if_neg z8]
  by_cases z9 : y9 = (9 : Int32)
  · rw [if_pos z9]
    exact two (f := fun a b c => fc_abort N L xs a vD b c vO (nI i)) (fun _ _ _ _ _ _ _ _ _ _ _ A => abort_on hN A) (fun _ _ _ _ _ _ _ _ A => abort_off A)
  rw [if_neg z9]
  by_cases z10 : y9 = (10 : Int32)
  · rw [if_pos z10]
    exact two (f := fun a b c => fc_checkpoint N L xs a vD b c vO (nI i)) (fun _ _ _ _ _ _ _ _ _ _ _ A => checkpoint_on hN (by omega) A) (fun _ _ _ _ _ _ _ _ A => checkpoint_off A)
  rw [if_neg z10]
  by_cases z11 : y9 = (11 : Int32)
  · rw [if_pos z11]
    exact two (f := fun a b c => fc_power N L xs a vD b c vO (nI i)) (fun _ _ _ _ _ _ _ _ _ _ _ A => power_g hL hi (fun _ => kOn A) (fun _ _ hb => kOn (On_lim A hb))) (fun _ _ _ _ _ _ _ _ A => power_g hL hi (fun _ => kOff A) (fun _ _ hb => kOff (Off_lim A hb)))
  rw [if_neg z11]
  by_cases z12 : y9 = (12 : Int32)
  · rw [if_pos z12]
    exact two (f := fun a b c => fc_cut N L xs a vD b c vO (nI i)) (fun _ _ _ _ _ _ _ _ _ _ _ A => cut_on hN hL hi A) (fun _ _ _ _ _ _ _ _ A => cut_off hL hi A)
  rw [if_neg z12]
  by_cases z13 : y9 = (13 : Int32)
  · rw [if_pos z13]
    exact open_all hN ht h
  rw [if_neg z13]
  by_cases z14 : y9 = (14 : Int32)
  · rw [if_pos z14]
    exact two (f := fun a b c => fc_word N L xs a vD b c vO (nI i)) (fun _ _ _ _ _ _ _ _ _ _ _ A => word_g hL hi (fun _ => kOn A)) (fun _ _ _ _ _ _ _ _ A => word_g hL hi (fun _ => kOff A))
  rw [if_neg z14]
  by_cases z15 : y9 = (15 : Int32)
  · rw [if_pos z15]
    exact two (f := fun a b c => fc_block N L xs a vD b c vO (nI i)) (fun _ _ _ _ _ _ _ _ _ _ _ A => block_on hN hL hi A) (fun _ _ _ _ _ _ _ _ A => block_off hL hi A)
  rw [if_neg z15]
  by_cases z16 : y9 = (16 : Int32)
  · rw [if_pos z16]
    exact two (f := fun a b c => fc_told N L xs a vD b c vO (nI i)) (fun _ _ _ _ _ _ _ _ _ _ _ A => told_on hN hL hi A) (fun _ _ _ _ _ _ _ _ A => told_off hL hi A)
  rw [if_neg z16]
  by_cases z17 : y9 = (17 : Int32)
  · rw [if_pos z17]
    exact two (f := fun a b c => fc_count N L xs a vD b c vO (nI i)) (fun _ _ _ _ _ _ _ _ _ _ _ A => count_g hL hi rfl (fun _ => kOn A)) (fun _ _ _ _ _ _ _ _ A => count_g hL hi rfl (fun _ => kOff A))
  rw [if_neg z17]
  exact ⟨_, rfl, Inv_mono (Inv_mono h)⟩
theorem loop_all (hN : 2000 < N) (hL : L ≤ 2560) : ∀ (n i t : Nat) (vL : LT) (vD : DT) (vC : CT) (vM : MT) (vO : Nat → Int64), i ≤ L → L < i + 5 * n → t + 2 * n < 2 ^ 29 → Inv t vL vD vC vM → f_law_loop N L xs n vL vD vC vM vO (nI i) = some () := by
  intro n
  induction n with
  | zero => intro i t vL vD vC vM vO h1 h2; omega
  | succ n ih =>
    intro i t vL vD vC vM vO h1 h2 h3 h
    unfold f_law_loop
    show (if nI L - (5 : Int32) < nI i then _ else _) = _
    by_cases q : i + 5 ≤ L
    · have e : nI L - (5 : Int32) = nI (L - 5) := by rw [show (5 : Int32) = nI 5 from rfl, pk_sub (by omega)]
      rw [e]
      refine ifn (nI_nlt (by omega) (by omega)) (ift (gI_nI (by omega) (by omega)) ?_)
      obtain ⟨u, r1, r2⟩ := all_step (N := N) (L := L) (xs := xs) (vO := vO) hN (by omega) (by omega) q (xs (nI i).toNatClampNeg &&& (31 : Int32)) h
      refine bnd r1 ?_
      rw [show nI i + (5 : Int32) = nI (i + 5) from nI_add i 5]
      exact ih (i + 5) (t + 2) _ _ _ _ _ q (by omega) (by omega) r2
    · refine ift ?_ rfl
      by_cases z : 5 ≤ L
      · rw [show (5 : Int32) = nI 5 from rfl, pk_sub z]
        exact nI_lt (by omega) (by omega)
      · exact Int32.lt_of_lt_of_le (pk_sneg (a := L) (b := 5) (by omega) (by omega)) (nI_pos' (by omega))
end
theorem inv_start : Inv 0 lz dz cz mz := by
  have hz : Unf (fun _ => 0) := ⟨rfl, rfl, fun _ _ _ => rfl⟩
  refine Or.inr ⟨fun _ => 0, fun _ => 0, fun _ => 0, fun _ => 0, 0, 0, 0, 0, ⟨fun _ _ => rfl, ⟨rfl, fun j hj => absurd hj (Nat.not_lt_zero j), ?_⟩, rfl, rfl, Rec_un hz⟩, ?_, ?_⟩
  · show (0 : Int32) ≤ 0
    decide
  · unfold mkC
    rw [chgd_nil]
    rfl
  · unfold sX mkM
    rw [chgd_nil]
    rfl
/-- THE PURE SIDE: every run of the law's loop comes to its end -/
theorem pure_all : ∀ (L : Nat) (xs : Nat → Int32), L ≤ 2560 → f_law_loop 6000 L xs 513 lz dz cz mz (fun _ => 0) 0 = some () := fun L xs hL => loop_all (N := 6000) (by omega) hL 513 0 0 lz dz cz mz (fun _ => 0) (Nat.zero_le _) (by omega) (by omega) inv_start
