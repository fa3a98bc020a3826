/-! PURE SIDE 19: what holds between the calls -/
/-- the log and the words, the power being on -/
def LgOn (t : Nat) (d : DT) (w gn lan : Nat) (cs : List Com) (g : Nat → Int64) : Prop := OnD d w (Rec t) ∧ w ≤ lsz cs ∧ RecF t d.2.1 gn cs ∧ (∀ j, 16 + lsz cs ≤ j → j < 176 → d.2.1 j = 0) ∧ lastN cs (d.2.1 2) = lN lan ∧ lan ≤ t ∧ ∀ j, (j = 1 ∨ 176 ≤ j) → j < 1024 → g j = app d.2.1 (flat cs) j
def TSo (g own ch : Nat → Int64) (ps : List Nat) (p : Nat → Int32) (o : Bool) : Prop := HS g own ch ps o ∧ psok ps ∧ Pl p ps ∧ pshr ps
def On (t : Nat) (d : DT) (g own ch : Nat → Int64) (ps : List Nat) (p : Nat → Int32) (o : Bool) (w gn lan : Nat) (cs : List Com) : Prop := TSo g own ch ps p o ∧ (∃ bs, Seg own 176 bs 1024) ∧ LgOn t d w gn lan cs g
def Off (t : Nat) (d : DT) (g own : Nat → Int64) : Prop := (∀ j, 1024 ≤ j → own j = g j) ∧ OffD d (Rec t)
abbrev sL (cs : List Com) (lan : Nat) : LT := (nI (lsz cs), nI cs.length, nI lan)
abbrev sM (d : DT) (g ch : Nat → Int64) (ps : List Nat) (o : Bool) (cs : List Com) (lan : Nat) (th : Int32) : MT := mkM d g (chgd ps) ch (nI ps.length) o (nI (lsz cs)) (nI cs.length) (lN lan) th
abbrev sX (d : DT) (g ch : Nat → Int64) (us co : Int32) (la : Int64) (th : Int32) : MT := mkM d g (chgd []) ch (nI ([] : List Nat).length) false us co la th
def Inv (t : Nat) (vL : LT) (vD : DT) (vC : CT) (vM : MT) : Prop :=
  (∃ g own ch ps p o w gn lan cs th, On t vD g own ch ps p o w gn lan cs ∧ vL = sL cs lan ∧ vC = mkC g own ps p o ∧ vM = sM vD g ch ps o cs lan th) ∨
  ∃ g own ch p us co la th, Off t vD g own ∧ vC = mkC g own [] p false ∧ vM = sX vD g ch us co la th
theorem LgOn_mono {t : Nat} {d : DT} {w gn lan : Nat} {cs : List Com} {g : Nat → Int64} (h : LgOn t d w gn lan cs g) : LgOn (t + 1) d w gn lan cs g := by
  obtain ⟨h1, h2, h3, h4, h5, h6, h7⟩ := h
  exact ⟨h1.mono Rec_mono, h2, RecF_mono h3, h4, h5, by omega, h7⟩
section
variable {t : Nat} {vL : LT} {d : DT} {g own ch : Nat → Int64} {ps : List Nat} {p : Nat → Int32} {o : Bool} {w gn lan : Nat} {cs : List Com} {th : Int32} {us co : Int32} {la : Int64}
theorem iOn (h : On t d g own ch ps p o w gn lan cs) : Inv t (sL cs lan) d (mkC g own ps p o) (sM d g ch ps o cs lan th) := Or.inl ⟨g, own, ch, ps, p, o, w, gn, lan, cs, th, h, rfl, rfl, rfl⟩
theorem iOff (h : Off t d g own) : Inv t vL d (mkC g own [] p false) (sX d g ch us co la th) := Or.inr ⟨g, own, ch, p, us, co, la, th, h, rfl, rfl⟩
theorem On_mono (h : On t d g own ch ps p o w gn lan cs) : On (t + 1) d g own ch ps p o w gn lan cs := ⟨h.1, h.2.1, LgOn_mono h.2.2⟩
theorem Off_mono (h : Off t d g own) : Off (t + 1) d g own := ⟨h.1, h.2.mono Rec_mono⟩
theorem kOn (h : On t d g own ch ps p o w gn lan cs) : Inv (t + 1) (sL cs lan) d (mkC g own ps p o) (sM d g ch ps o cs lan th) := iOn (On_mono h)
theorem kOff (h : Off t d g own) : Inv (t + 1) vL d (mkC g own [] p false) (sX d g ch us co la th) := iOff (Off_mono h)
theorem On.on (h : On t d g own ch ps p o w gn lan cs) : d.2.2.2.2.2.1 = true := h.2.2.1.2.1
theorem Off.off (h : Off t d g own) : d.2.2.2.2.2.1 = false := h.2.2.1
theorem On.w160 (h : On t d g own ch ps p o w gn lan cs) : w ≤ 160 := by have h1 := h.2.2.2.1; have h2 := h.2.2.2.2.1.2.2.2.2.2.1; omega
theorem On.nil (h : On t d g own ch ps p false w gn lan cs) : ps = [] := h.1.1.2.2 rfl
theorem On.hi (h : On t d g own ch ps p o w gn lan cs) : ∀ j, 1024 ≤ j → own j = g j := fun j hj => h.1.1.1 j (fun q => by have := h.1.2.1.2.1 j q; omega)
end
theorem gEo {α β : Type} {o : Option (Except String α)} {k : α → Option (Except String β)} {y : α} {r : Option (Except String β)} (h : o = some (.ok y)) (q : k y = r) : gE o k = r := by rw [h]; exact q
theorem gEe {α β : Type} {o : Option (Except String α)} {k : α → Option (Except String β)} {E : String} (h : o = some (.error E)) : gE o k = some (.error E) := by rw [h]; rfl
theorem gHo {α β : Type} {o : Option (Except String α)} {k : α → Option β} {x : String → Option β} {y : α} {r : Option β} (h : o = some (.ok y)) (q : k y = r) : gH o k x = r := by rw [h]; exact q
theorem gHe {α β : Type} {o : Option (Except String α)} {k : α → Option β} {x : String → Option β} {E : String} {r : Option β} (h : o = some (.error E)) (q : x E = r) : gH o k x = r := by rw [h]; exact q
theorem g01 : gI (0 : Int32) 1 = true := by decide
/-- the end of a comparison: both came back -/
theorem eO {α : Type} {R R' Q : Option α} {x k : Int32} {f : Nat → Int64} {b : Int64} (h1 : x = k) (h2 : k = 0) (h3 : f (0 : Int32).toNatClampNeg = b) : (if x = k then if k = 0 then if gI (0 : Int32) 1 = true then if (lg_cmp (f (0 : Int32).toNatClampNeg) b) = 0 then R else none else none else R' else Q) = R :=
  ift h1 (ift h2 (ift g01 (ift ((lg_cmp_eq _ _).mpr h3) rfl)))
/-- .. both threw -/
theorem eT {α : Type} {A B Q : Option α} {x k : Int32} (h1 : x = k) (h2 : ¬ k = 0) : (if x = k then (if k = 0 then A else B) else Q) = B := ift h1 (ifn h2 rfl)
theorem vO0 (vO : Nat → Int64) (a : Int64) : vp_updL vO (0 : Int32).toNatClampNeg a (0 : Int32).toNatClampNeg = a := pk_uLs
theorem vO1 (vO : Nat → Int64) {a b : Int64} (h : a = b) : vp_updL vO (0 : Int32).toNatClampNeg a (0 : Int32).toNatClampNeg = b := pk_uLs.trans h
theorem n1 : ¬ (1 : Int32) = 0 := by decide
theorem n2 : ¬ (2 : Int32) = 0 := by decide
theorem eB {α : Type} {R R2 R' Q : Option α} {x k : Int32} {f : Nat → Int64} {b : Bool} (h1 : x = k) (h2 : k = 0) (h3 : f (0 : Int32).toNatClampNeg = if b = true then 1 else 0) (hR : R = R2) : (if x = k then if k = 0 then if gI (0 : Int32) 1 = true then if b = true then if (lg_cmp (f (0 : Int32).toNatClampNeg) (1 : Int64)) = 0 then R else none else if (lg_cmp (f (0 : Int32).toNatClampNeg) (0 : Int64)) = 0 then R2 else none else none else R' else Q) = R := by
  refine ift h1 (ift h2 (ift g01 ?_))
  cases b with
  | true => exact ift rfl (ift ((lg_cmp_eq _ _).mpr h3) rfl)
  | false => exact ifn Bool.false_ne_true (ift ((lg_cmp_eq _ _).mpr h3) hR.symm)
section
variable {d : DT} {g own : Nat → Int64} {ps : List Nat} {p : Nat → Int32} {o : Bool} {vC : CT}
theorem nP_on (h : d.2.2.2.2.2.1 = true) : f_Heap_needPower d = some (.ok ()) := bnd rfl (ift h rfl)
theorem nP_off (h : d.2.2.2.2.2.1 = false) : f_Heap_needPower d = some (.error "java/lang/IllegalStateException") := bnd rfl (ifn (by rw [h]; decide) rfl)
theorem nT_on (h : d.2.2.2.2.2.1 = true) : f_Heap_needTransaction d (mkC g own ps p true) = some (.ok ()) := gEo (nP_on h) (bnd rfl (ift rfl rfl))
theorem nT_shut (h : d.2.2.2.2.2.1 = true) : f_Heap_needTransaction d (mkC g own ps p false) = some (.error "java/lang/IllegalStateException") := gEo (nP_on h) (bnd rfl (ifn Bool.false_ne_true rfl))
theorem nT_off (h : d.2.2.2.2.2.1 = false) : f_Heap_needTransaction d vC = some (.error "java/lang/IllegalStateException") := gEe (nP_off h)
theorem sh_on {v ch : Nat → Int64} {ic : Nat → Int32} {n us co th : Int32} {la : Int64} (h : d.2.2.2.2.2.1 = true) : f_Mod_isShut (mkM d v ic ch n true us co la th) = some false := ift h (ift rfl rfl)
theorem sh_shut {v ch : Nat → Int64} {ic : Nat → Int32} {n us co th : Int32} {la : Int64} : f_Mod_isShut (mkM d v ic ch n false us co la th) = some true := by
  unfold f_Mod_isShut
  by_cases h : d.2.2.2.2.2.1 = true
  · exact ift h (ifn Bool.false_ne_true rfl)
  · exact ifn h rfl
end
