/-! PURE SIDE 2: the reference's own loops; a write, a sync, a loss of power on both sides -/
/-- the reference's state: the disk's part is the class's Disk -/
abbrev mkM (d : DT) (v : Nat → Int64) (ic : Nat → Int32) (ch : Nat → Int64) (n : Int32) (o : Bool) (us co : Int32) (la : Int64) (th : Int32) : MT := (d.1, d.2.1, d.2.2.1, d.2.2.2.1, d.2.2.2.2.1, v, ic, ch, n, d.2.2.2.2.2.1, o, us, co, la, d.2.2.2.2.2.2.1, d.2.2.2.2.2.2.2.1, d.2.2.2.2.2.2.2.2.1, d.2.2.2.2.2.2.2.2.2.1, d.2.2.2.2.2.2.2.2.2.2.1, d.2.2.2.2.2.2.2.2.2.2.2, th)
/-- no word has a change -/
def icz (ic : Nat → Int32) : Nat → Int32 := upto (fun _ => 0) ic 1024
section
variable {N : Nat} (d : DT) (v : Nat → Int64) (ic : Nat → Int32) (ch : Nat → Int64) (n : Int32) (o : Bool) (us co : Int32) (la : Int64) (th : Int32)
theorem dropl_m : ∀ f i, i ≤ 1024 → 1024 < i + f → f_Mod_drop_12 N f (mkM d v (upto (fun _ => 0) ic i) ch n o us co la th) (nI i) = some (mkM d v (icz ic) ch n o us co la th) := by
  intro f
  induction f with
  | zero => intro i h1 h2; omega
  | succ f ih =>
    intro i h1 h2
    unfold f_Mod_drop_12
    by_cases he : i = 1024
    · subst he
      exact ift (nI_le (a := 1024) (b := 1024) (Nat.le_refl _) (by omega)) rfl
    · refine ifn (show ¬ (1024 : Int32) ≤ nI i from nI_ge (b := 1024) (by omega) (by omega)) (ift (gI_nI (by omega) (by omega)) ?_)
      have h3 := ih (i + 1) (by omega) (by omega)
      rw [← nI_1, ← upto_I] at h3
      rw [← h3, clN (by omega)]
      rfl
theorem drop_m (hN : 1024 < N) : f_Mod_drop N (mkM d v ic ch n o us co la th) = some (mkM d v (icz ic) ch 0 false us co la th) := by
  have h := dropl_m (N := N) d v ic ch 0 false us co la th N 0 (by omega) (by omega)
  rw [upto_0] at h
  exact h
theorem cpl_m (a : Int32) (b : Int32) : ∀ f i, i ≤ 1024 → 1024 < i + f → f_Mod_goOff_68 N f (mkM (d.1, upto d.1 d.2.1 i, d.2.2) v ic ch n o us co la th) a b (nI i) = some (mkM (d.1, upto d.1 d.2.1 1024, d.2.2) v ic ch n o us co la th) := by
  intro f
  induction f with
  | zero => intro i h1 h2; omega
  | succ f ih =>
    intro i h1 h2
    unfold f_Mod_goOff_68
    by_cases he : i = 1024
    · subst he
      exact ift (nI_le (a := 1024) (b := 1024) (Nat.le_refl _) (by omega)) rfl
    · refine ifn (show ¬ (1024 : Int32) ≤ nI i from nI_ge (b := 1024) (by omega) (by omega)) (ift (gI_nI (by omega) (by omega)) (ift (gI_nI (by omega) (by omega)) ?_))
      have h3 := ih (i + 1) (by omega) (by omega)
      rw [← nI_1, ← upto_L] at h3
      rw [← h3, clN (by omega)]
/-- what is sound of the disk's own numbers: w writes wait, to words; how many are kept is not below 0 -/
def dok (d : DT) (w : Nat) : Prop := d.2.2.2.2.1 = nI w ∧ wok d.2.2.1 w ∧ 0 ≤ d.2.2.2.2.2.2.2.1
/-- losing the power, told to keep k -/
def sOff (d : DT) (k : Int32) : DT := sLose d (if d.2.2.2.2.1 < k then d.2.2.2.2.1 else k).toNatClampNeg (if d.2.2.2.2.1 < k then d.2.2.2.2.1 else k)
theorem kept_of {d : DT} {w : Nat} (h : dok d w) (hw : w ≤ 320) {k : Int32} (hk : 0 ≤ k) : ∃ j, j ≤ w ∧ (if d.2.2.2.2.1 < k then d.2.2.2.2.1 else k) = nI j := by
  obtain ⟨j, h1, h2⟩ := kept_nI (w := w) hk (by omega)
  exact ⟨j, h1, by rw [h.1]; exact h2⟩
theorem off_c {w : Nat} (h : dok d w) (hw : w ≤ 320) (hN : 320 < N) {k : Int32} (hk : 0 ≤ k) : f_Disk_losePower N d k = some (sOff d k) := by
  obtain ⟨j, h1, h2⟩ := kept_of h hw hk
  have h3 := lose_c d hN hw h.1 (k := k) (n := j) (by rw [← h2, h.1]; rfl) h1 h.2.1
  rw [h3]
  unfold sOff
  rw [h2, clN (by omega)]
theorem off_m {w : Nat} (h : dok d w) (hw : w ≤ 320) (hN : 1024 < N) {k : Int32} (hk : 0 ≤ k) : f_Mod_goOff N (mkM d v ic ch n o us co la th) k = some (mkM (sOff d k) v (icz ic) ch 0 false us co la th) := by
  have key : ∀ (j : Nat), j ≤ w → (if d.2.2.2.2.1 < k then d.2.2.2.2.1 else k) = nI j → (f_Mod_settle N (mkM d v ic ch n o us co la th) (nI j)).bind (fun x5 => (f_Mod_drop N (x5.1, x5.2.1, x5.2.2.1, x5.2.2.2.1, (0 : Int32), x5.2.2.2.2.2.1, x5.2.2.2.2.2.2.1, x5.2.2.2.2.2.2.2.1, x5.2.2.2.2.2.2.2.2.1, false, x5.2.2.2.2.2.2.2.2.2.2.1, x5.2.2.2.2.2.2.2.2.2.2.2.1, x5.2.2.2.2.2.2.2.2.2.2.2.2.1, x5.2.2.2.2.2.2.2.2.2.2.2.2.2.1, (0 : Int32), x5.2.2.2.2.2.2.2.2.2.2.2.2.2.2.2.1, x5.2.2.2.2.2.2.2.2.2.2.2.2.2.2.2.2.1, x5.2.2.2.2.2.2.2.2.2.2.2.2.2.2.2.2.2.1, x5.2.2.2.2.2.2.2.2.2.2.2.2.2.2.2.2.2.2.1 + (1 : Int32), x5.2.2.2.2.2.2.2.2.2.2.2.2.2.2.2.2.2.2.2.1 + (x5.2.2.2.2.1 - nI j), x5.2.2.2.2.2.2.2.2.2.2.2.2.2.2.2.2.2.2.2.2)).bind fun x7 => f_Mod_goOff_68 N N x7 k (nI j) (0 : Int32)) = some (mkM (sOff d k) v (icz ic) ch 0 false us co la th) := by
    intro j hj ej
    refine bnd (settle_M (mkM d v ic ch n o us co la th) j (by omega) (by omega) (fun i hi => h.2.1 i (by omega))) ?_
    refine bnd (drop_m (N := N) (stl d.2.2.1 d.2.2.2.1 d.1 j, d.2.1, d.2.2.1, d.2.2.2.1, 0, false, 0, d.2.2.2.2.2.2.2.1, d.2.2.2.2.2.2.2.2.1, d.2.2.2.2.2.2.2.2.2.1, d.2.2.2.2.2.2.2.2.2.2.1 + 1, d.2.2.2.2.2.2.2.2.2.2.2 + (d.2.2.2.2.1 - nI j)) v ic ch n o us co la th hN) ?_
    have h9 := cpl_m (N := N) (stl d.2.2.1 d.2.2.2.1 d.1 j, d.2.1, d.2.2.1, d.2.2.2.1, 0, false, 0, d.2.2.2.2.2.2.2.1, d.2.2.2.2.2.2.2.2.1, d.2.2.2.2.2.2.2.2.2.1, d.2.2.2.2.2.2.2.2.2.2.1 + 1, d.2.2.2.2.2.2.2.2.2.2.2 + (d.2.2.2.2.1 - nI j)) v (icz ic) ch 0 false us co la th k (nI j) N 0 (by omega) (by omega)
    rw [upto_0] at h9
    refine h9.trans ?_
    unfold sOff
    rw [ej, clN (by omega)]
    rfl
  unfold f_Mod_goOff
  by_cases hc : d.2.2.2.2.1 ≤ k
  · refine ift hc ?_
    have e : (if d.2.2.2.2.1 < k then d.2.2.2.2.1 else k) = nI w := by
      by_cases h2 : d.2.2.2.2.1 < k
      · rw [if_pos h2, h.1]
      · rw [if_neg h2]
        have : k = d.2.2.2.2.1 := Int32.le_antisymm (Int32.not_lt.mp h2) hc
        rw [this, h.1]
    have h4 := key w (Nat.le_refl _) e
    rw [← h.1] at h4
    exact h4
  · refine ifn hc ?_
    obtain ⟨j, h1, h2⟩ := kept_of h hw hk
    have h5 := h2
    rw [if_neg (fun q => hc (Int32.le_of_lt q))] at h5
    have h4 := key j h1 h2
    rw [← h5] at h4
    exact h4
/-- a write that waits, u writes being left then -/
def sPut (d : DT) (k : Nat) (x : Int64) (u : Int32) : DT := (d.1, vp_updL d.2.1 k x, upd d.2.2.1 d.2.2.2.2.1.toNatClampNeg (nI k), vp_updL d.2.2.2.1 d.2.2.2.2.1.toNatClampNeg x, d.2.2.2.2.1 + 1, d.2.2.2.2.2.1, u, d.2.2.2.2.2.2.2.1, d.2.2.2.2.2.2.2.2.1 + 1, d.2.2.2.2.2.2.2.2.2.1, d.2.2.2.2.2.2.2.2.2.2.1, d.2.2.2.2.2.2.2.2.2.2.2)
/-- a write: it waits; the power may go with it -/
def sWrite (d : DT) (k : Nat) (x : Int64) : Bool × DT :=
  if d.2.2.2.2.2.2.1 ≤ 0 then (true, sPut d k x d.2.2.2.2.2.2.1)
  else if d.2.2.2.2.2.2.1 - 1 = 0 then (false, sOff (sPut d k x (d.2.2.2.2.2.2.1 - 1)) d.2.2.2.2.2.2.2.1)
  else (true, sPut d k x (d.2.2.2.2.2.2.1 - 1))
theorem dok_put {w k : Nat} (h : dok d w) (hw : w < 320) (hk : k < 1024) (x : Int64) (u : Int32) : dok (sPut d k x u) (w + 1) := by
  refine ⟨?_, fun j hj => ?_, h.2.2⟩
  · show d.2.2.2.2.1 + 1 = nI (w + 1)
    rw [h.1, nI_1]
  · show ∃ k', k' < 1024 ∧ upd d.2.2.1 d.2.2.2.2.1.toNatClampNeg (nI k) j = nI k'
    rw [h.1, clN (by omega)]
    by_cases e : j = w
    · subst e
      exact ⟨k, hk, pk_us⟩
    · rw [pk_un e]
      exact h.2.1 j (by omega)
theorem write_c {w k : Nat} (h : dok d w) (hon : d.2.2.2.2.2.1 = true) (hw : w < 320) (hk : k < 1024) (hN : 320 < N) (x : Int64) : f_Disk_write N d (nI k) x = some (sWrite d k x) := by
  have hg : gI d.2.2.2.2.1 320 = true := by rw [h.1]; exact gI_nI hw (by omega)
  unfold f_Disk_write sWrite
  refine ift hon (bnd (isW hk) (ift rfl (ift ?_ (ift (gI_nI hk (by omega)) (ift hg (ift hg ?_))))))
  · rw [h.1]; exact nI_lt (b := 320) hw (by omega)
  · rw [clN (by omega)]
    by_cases h1 : d.2.2.2.2.2.2.1 ≤ 0
    · rw [if_pos h1, if_pos h1, hon]
      unfold sPut
      rw [hon]
    · rw [if_neg h1, if_neg h1]
      by_cases h2 : d.2.2.2.2.2.2.1 - 1 = 0
      · rw [if_pos h2, if_pos h2]
        refine bnd (off_c (N := N) (sPut d k x (d.2.2.2.2.2.2.1 - 1)) (dok_put d h hw hk x _) (by omega) hN (k := d.2.2.2.2.2.2.2.1) h.2.2) ?_
        rfl
      · rw [if_neg h2, if_neg h2, hon]
        unfold sPut
        rw [hon]
theorem write_m {w k : Nat} (h : dok d w) (hw : w < 320) (hk : k < 1024) (hN : 1024 < N) (x : Int64) : f_Mod_write N (mkM d v ic ch n o us co la th) (nI k) x = some ((sWrite d k x).1, if (sWrite d k x).1 = true then mkM (sWrite d k x).2 v ic ch n o us co la th else mkM (sWrite d k x).2 v (icz ic) ch 0 false us co la th) := by
  have hg : gI d.2.2.2.2.1 6000 = true := by rw [h.1]; exact gI_nI (by omega) (by omega)
  unfold f_Mod_write
  refine ift (gI_nI hk (by omega)) (ift hg (ift hg ?_))
  rw [clN (by omega)]
  unfold sWrite
  by_cases h1 : d.2.2.2.2.2.2.1 ≤ 0
  · refine ift h1 ?_
    rw [if_pos h1]
    rfl
  · refine ifn h1 ?_
    rw [if_neg h1]
    by_cases h2 : d.2.2.2.2.2.2.1 - 1 = 0
    · refine ift h2 ?_
      rw [if_pos h2]
      refine bnd (off_m (N := N) (sPut d k x (d.2.2.2.2.2.2.1 - 1)) v ic ch n o us co la th (dok_put d h hw hk x _) (by omega) hN (k := d.2.2.2.2.2.2.2.1) h.2.2) ?_
      rfl
    · refine ifn h2 ?_
      rw [if_neg h2]
      rfl
/-- a sync -/
def sSync (d : DT) : DT := (stl d.2.2.1 d.2.2.2.1 d.1 d.2.2.2.2.1.toNatClampNeg, d.2.1, d.2.2.1, d.2.2.2.1, 0, d.2.2.2.2.2.1, d.2.2.2.2.2.2.1, d.2.2.2.2.2.2.2.1, d.2.2.2.2.2.2.2.2.1, d.2.2.2.2.2.2.2.2.2.1 + 1, d.2.2.2.2.2.2.2.2.2.2.1, d.2.2.2.2.2.2.2.2.2.2.2)
theorem sync_c {w : Nat} (h : dok d w) (hw : w ≤ 320) (hN : 320 < N) : f_Disk_settleAll N d = some (sSync d) := by
  unfold f_Disk_settleAll sSync
  rw [h.1, clN (by omega)]
  exact bnd (settleFirst_c d w hw hN h.2.1) rfl
theorem sync_m {w : Nat} (h : dok d w) (hw : w ≤ 320) (hN : 320 < N) : f_Mod_syncAll N (mkM d v ic ch n o us co la th) = some (d.2.2.2.2.1, mkM (sSync d) v ic ch n o us co la th) := by
  unfold f_Mod_syncAll sSync
  have e : f_Mod_settle N (mkM d v ic ch n o us co la th) d.2.2.2.2.1 = some (stl d.2.2.1 d.2.2.2.1 d.1 d.2.2.2.2.1.toNatClampNeg, (mkM d v ic ch n o us co la th).2) := by
    rw [h.1, clN (by omega)]
    exact settle_M (mkM d v ic ch n o us co la th) w hw hN h.2.1
  exact bnd e rfl
theorem dok_sync {w : Nat} (h : dok d w) : dok (sSync d) 0 := ⟨rfl, fun j hj => absurd hj (Nat.not_lt_zero j), h.2.2⟩
theorem dok_off {w : Nat} (h : dok d w) (k : Int32) : dok (sOff d k) 0 := ⟨rfl, fun j hj => absurd hj (Nat.not_lt_zero j), h.2.2⟩
end
