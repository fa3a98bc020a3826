/-! PURE SIDE 25: open -/
/-- the power is on -/
def sUp (d : DT) : DT := (d.1, d.2.1, d.2.2.1, d.2.2.2.1, d.2.2.2.2.1, true, d.2.2.2.2.2.2.1, d.2.2.2.2.2.2.2.1, d.2.2.2.2.2.2.2.2.1, d.2.2.2.2.2.2.2.2.2.1, d.2.2.2.2.2.2.2.2.2.2.1, d.2.2.2.2.2.2.2.2.2.2.2)
theorem up_on {d : DT} {P : (Nat → Int64) → Prop} (h : OffD d P) : OnD (sUp d) 0 P := by
  obtain ⟨h1, h2, h3, h4⟩ := h
  refine ⟨h1, rfl, h3, fun k hk => ?_⟩
  rw [show k = 0 by omega]
  show P d.1
  have e : d.2.1 = d.1 := h3
  rw [← e]
  exact h4
section
variable {N L : Nat} {xs : Nat → Int32} {t : Nat} {vL : LT} {d : DT} {g own ch : Nat → Int64} {ps : List Nat} {p : Nat → Int32} {o : Bool} {w gn lan : Nat} {cs : List Com} {th : Int32} {us co : Int32} {la : Int64} {vO : Nat → Int64} {i : Nat} {y4 : Int32} {v : Nat → Int64} {ic : Nat → Int32} {cn : Int32}
theorem fmt_c {P : (Nat → Int64) → Prop} (hN : 2000 < N) (h : OnD d 0 P) : f_Heap_format N vL d = some (if (sWrites d fmtW).1 = true then (((0 : Int32), (0 : Int32), ((sSync (sWrites d fmtW).2).2.1 2).toInt32), sSync (sWrites d fmtW).2) else (vL, (sWrites d fmtW).2)) := by
  have hT := h.T
  unfold f_Heap_format
  refine bnd (wc (k := 176) hT (by omega) (by omega) (by omega)) ?_
  have e0 : sWrites d fmtW = sWrites d ((176, 1694) :: [(1, 0), (0, 1)]) := rfl
  rw [e0]
  rcases wsp (k := 176) 1694 hT (by omega) (by omega) with ⟨a1, a2, a3⟩ | ⟨a1, a2⟩
  · rw [sW_t a1]
    refine ift a1 (bnd (wc (k := 1) a2 (by omega) (by omega) (by omega)) ?_)
    rcases wsp (k := 1) 0 a2 (by omega) (by omega) with ⟨b1, b2, b3⟩ | ⟨b1, b2⟩
    · rw [sW_t b1]
      refine ift b1 (bnd (wc (k := 0) b2 (by omega) (by omega) (by omega)) ?_)
      rcases wsp (k := 0) 1 b2 (by omega) (by omega) with ⟨c1, c2, c3⟩ | ⟨c1, c2⟩
      · rw [sW_t c1]
        refine ift c1 (bnd (sync_c _ c2.1 (by omega) (by omega)) (bnd (x := ((0 : Int32), (0 : Int32), ((sSync (sWrite (sWrite (sWrite d 176 1694).2 1 0).2 0 1).2).2.1 2).toInt32)) (bnd (dread_c (w := 2) (by omega)) rfl) ?_))
        exact congrArg some (if_pos rfl).symm
      · rw [sW_f c1]
        exact (ifn (by rw [c1]; decide) rfl).trans (congrArg some (if_neg Bool.false_ne_true).symm)
    · rw [sW_f b1]
      exact (ifn (by rw [b1]; decide) rfl).trans (congrArg some (if_neg Bool.false_ne_true).symm)
  · rw [sW_f a1]
    exact (ifn (by rw [a1]; decide) rfl).trans (congrArg some (if_neg Bool.false_ne_true).symm)
/-- the reference's formatting -/
def fmtM (N : Nat) (vM : MT) : Option (Int32 × MT) := (f_Mod_write N vM (176 : Int32) (1694 : Int64)).bind fun x19 => if x19.1 = true then (f_Mod_write N x19.2 (1 : Int32) (0 : Int64)).bind fun x22 => if x22.1 = true then (f_Mod_write N x22.2 (0 : Int32) (1 : Int64)).bind fun x25 => if x25.1 = true then (f_Mod_syncAll N x25.2).bind fun x28 => f_Mod_open_181 N N (x28.2.1, x28.2.2.1, x28.2.2.2.1, x28.2.2.2.2.1, x28.2.2.2.2.2.1, x28.2.2.2.2.2.2.1, x28.2.2.2.2.2.2.2.1, x28.2.2.2.2.2.2.2.2.1, x28.2.2.2.2.2.2.2.2.2.1, x28.2.2.2.2.2.2.2.2.2.2.1, x28.2.2.2.2.2.2.2.2.2.2.2.1, (0 : Int32), (0 : Int32), x28.2.2.2.2.2.2.2.2.2.2.2.2.2.2.1, x28.2.2.2.2.2.2.2.2.2.2.2.2.2.2.2.1, x28.2.2.2.2.2.2.2.2.2.2.2.2.2.2.2.2.1, x28.2.2.2.2.2.2.2.2.2.2.2.2.2.2.2.2.2.1, x28.2.2.2.2.2.2.2.2.2.2.2.2.2.2.2.2.2.2.1, x28.2.2.2.2.2.2.2.2.2.2.2.2.2.2.2.2.2.2.2.1, x28.2.2.2.2.2.2.2.2.2.2.2.2.2.2.2.2.2.2.2.2.1, x28.2.2.2.2.2.2.2.2.2.2.2.2.2.2.2.2.2.2.2.2.2) (0 : Int32) (0 : Int32) else some ((-2 : Int32), x25.2) else some ((-2 : Int32), x22.2) else some ((-2 : Int32), x19.2)
theorem fmt_tail {D : DT} {w : Nat} (hN : 2000 < N) (h : dok D w) (hw : w ≤ 320) : ((f_Mod_syncAll N (mkM D v ic ch cn o us co la th)).bind fun x28 => f_Mod_open_181 N N (x28.2.1, x28.2.2.1, x28.2.2.2.1, x28.2.2.2.2.1, x28.2.2.2.2.2.1, x28.2.2.2.2.2.2.1, x28.2.2.2.2.2.2.2.1, x28.2.2.2.2.2.2.2.2.1, x28.2.2.2.2.2.2.2.2.2.1, x28.2.2.2.2.2.2.2.2.2.2.1, x28.2.2.2.2.2.2.2.2.2.2.2.1, (0 : Int32), (0 : Int32), x28.2.2.2.2.2.2.2.2.2.2.2.2.2.2.1, x28.2.2.2.2.2.2.2.2.2.2.2.2.2.2.2.1, x28.2.2.2.2.2.2.2.2.2.2.2.2.2.2.2.2.1, x28.2.2.2.2.2.2.2.2.2.2.2.2.2.2.2.2.2.1, x28.2.2.2.2.2.2.2.2.2.2.2.2.2.2.2.2.2.2.1, x28.2.2.2.2.2.2.2.2.2.2.2.2.2.2.2.2.2.2.2.1, x28.2.2.2.2.2.2.2.2.2.2.2.2.2.2.2.2.2.2.2.2.1, x28.2.2.2.2.2.2.2.2.2.2.2.2.2.2.2.2.2.2.2.2.2) (0 : Int32) (0 : Int32)) = f_Mod_open_181 N N (mkM (sSync D) v ic ch cn o 0 0 la th) (0 : Int32) (0 : Int32) := by
  rw [sync_m D v ic ch cn o us co la th h hw (by omega)]
  rfl
theorem fmt_m {P : (Nat → Int64) → Prop} (hN : 2000 < N) (h : OnD d 0 P) : fmtM N (mkM d v ic ch cn o us co la th) = if (sWrites d fmtW).1 = true then f_Mod_open_181 N N (mkM (sSync (sWrites d fmtW).2) v ic ch cn o 0 0 la th) (0 : Int32) (0 : Int32) else some ((-2 : Int32), mkM (sWrites d fmtW).2 v (icz ic) ch 0 false us co la th) := by
  have hT := h.T
  unfold fmtM
  have e0 : sWrites d fmtW = sWrites d ((176, 1694) :: [(1, 0), (0, 1)]) := rfl
  rw [e0]
  rcases wsp (k := 176) 1694 hT (by omega) (by omega) with ⟨a1, a2, a3⟩ | ⟨a1, a2⟩
  · rw [sW_t a1]
    refine bnd (wm_t (k := 176) hT (by omega) (by omega) (by omega) a1) (ift rfl ?_)
    rcases wsp (k := 1) 0 a2 (by omega) (by omega) with ⟨b1, b2, b3⟩ | ⟨b1, b2⟩
    · rw [sW_t b1]
      refine bnd (wm_t (k := 1) a2 (by omega) (by omega) (by omega) b1) (ift rfl ?_)
      rcases wsp (k := 0) 1 b2 (by omega) (by omega) with ⟨c1, c2, c3⟩ | ⟨c1, c2⟩
      · rw [sW_t c1]
        have hw := wm_t (N := N) (v := v) (ic := ic) (ch := ch) (cn := cn) (o := o) (us := us) (co := co) (la := la) (th := th) (k := 0) b2 (by omega) (by omega) (by omega) c1
        refine bnd hw (ift rfl ?_)
        generalize sWrite (sWrite (sWrite d 176 1694).2 1 0).2 0 1 = R at *
        rw [if_pos (show (sWrites R.2 []).1 = true from rfl), show (sWrites R.2 []).2 = R.2 from rfl]
        exact fmt_tail (N := N) (v := v) (ic := ic) (ch := ch) (cn := cn) (o := o) (us := us) (co := co) (la := la) (th := th) hN c2.1 (by omega)
      · rw [sW_f c1]
        exact (bnd (wm_f (k := 0) b2 (by omega) (by omega) (by omega) c1) (ifn Bool.false_ne_true rfl)).trans (if_neg Bool.false_ne_true).symm
    · rw [sW_f b1]
      exact (bnd (wm_f (k := 1) a2 (by omega) (by omega) (by omega) b1) (ifn Bool.false_ne_true rfl)).trans (if_neg Bool.false_ne_true).symm
  · rw [sW_f a1]
    exact (bnd (wm_f (k := 176) hT (by omega) (by omega) (by omega) a1) (ifn Bool.false_ne_true rfl)).trans (if_neg Bool.false_ne_true).symm
end
