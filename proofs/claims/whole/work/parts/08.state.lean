/-! the words: all good words of the tables -/
def gA : List Cond := lw_tbl.filter goodWord
theorem wtS (i : Nat) {w : Cond} (h : (k2_sels lw_privs)[i]? = some w) (hg : goodWord w = true) : w ∈ gA := List.mem_filter.mpr ⟨List.mem_append_left _ (List.mem_of_getElem? h), hg⟩
theorem wtT {w : Cond} (h : w ∈ tables_1) (hg : goodWord w = true) : w ∈ gA := List.mem_filter.mpr ⟨List.mem_append_right _ h, hg⟩
theorem wt1 (i : Nat) {w : Cond} (h : tables_1_1[i]? = some w) (hg : goodWord w = true) : w ∈ gA := wtT (List.mem_append_left _ (List.mem_of_getElem? h)) hg
theorem wt2 (i : Nat) {w : Cond} (h : tables_1_2[i]? = some w) (hg : goodWord w = true) : w ∈ gA := wtT (List.mem_append_right _ (List.mem_append_left _ (List.mem_of_getElem? h))) hg
theorem wt3 (i : Nat) {w : Cond} (h : tables_1_3[i]? = some w) (hg : goodWord w = true) : w ∈ gA := wtT (List.mem_append_right _ (List.mem_append_right _ (List.mem_append_left _ (List.mem_of_getElem? h)))) hg
theorem wt4 (i : Nat) {w : Cond} (h : tables_1_4[i]? = some w) (hg : goodWord w = true) : w ∈ gA := wtT (List.mem_append_right _ (List.mem_append_right _ (List.mem_append_right _ (List.mem_of_getElem? h)))) hg
theorem mm {w x : Cond} (h : w ∈ gA) : w ∈ x :: gA := List.mem_cons_of_mem _ h
theorem gA_ok {w : Cond} (h : w ∈ gA) : (w.onTables && w.keeps) = true ∨ ∃ ty, w = .arrayClass ty := good_of_word (List.mem_filter.mp h).2
theorem gg_C {x cd : Cond} (h : cd ∈ gA) : GoodIn (x :: gA) (cd :: gA) := fun w hw => (List.mem_cons.mp hw).elim (fun e => by rw [e]; exact ⟨mm h, gA_ok h⟩) (fun h => ⟨mm h, gA_ok h⟩)
theorem gg_V {x cd : Cond} {own C : String} {idx : Nat} {y : MethodName} (h1 : Cond.methodLink own idx y ∈ gA) (h2 : Cond.instanceMethod y ∈ gA) (h3 : Cond.selects C y y ∈ gA) (h4 : Cond.initialized C ∈ gA) (h5 : cd ∈ gA) : GoodIn (x :: gA) (wsV own idx C y (cd :: gA)) := by
  intro w hw
  rcases List.mem_append.mp hw with h | h
  · have h9 : w ∈ gA := by
      rcases List.mem_cons.mp h with rfl | h
      · exact h1
      · rcases List.mem_cons.mp h with rfl | h
        · exact h2
        · rcases List.mem_cons.mp h with rfl | h
          · exact h3
          · rcases List.mem_cons.mp h with rfl | h
            · exact h4
            · cases h
    exact ⟨mm h9, gA_ok h9⟩
  · exact gg_C h5 w h
theorem gg_S {x cd : Cond} {own : String} {idx : Nat} {y : MethodName} (h1 : Cond.methodLink own idx y ∈ gA) (h2 : Cond.static y ∈ gA) (h4 : Cond.initialized y.cls ∈ gA) (h5 : cd ∈ gA) : GoodIn (x :: gA) (va_wsS own idx y (cd :: gA)) := by
  intro w hw
  rcases List.mem_append.mp hw with h | h
  · have h9 : w ∈ gA := by
      rcases List.mem_cons.mp h with rfl | h
      · exact h1
      · rcases List.mem_cons.mp h with rfl | h
        · exact h2
        · rcases List.mem_cons.mp h with rfl | h
          · exact h4
          · cases h
    exact ⟨mm h9, gA_ok h9⟩
  · exact gg_C h5 w h
theorem yv_of {y : MethodName} {C : String} {n : Nat} (h : y.cls = C) (hd : y.cls ≠ "java/lang/invoke/MethodHandle" ∧ y.cls ≠ "java/lang/invoke/VarHandle" ∧ (parseMethodDescriptor y.desc).map (fun d => d.parameters.length) = some n) : y.cls = C ∧ y.cls ≠ "java/lang/invoke/MethodHandle" ∧ y.cls ≠ "java/lang/invoke/VarHandle" ∧ (parseMethodDescriptor y.desc).map (fun d => d.parameters.length) = some n := ⟨h, hd⟩
abbrev cls : List vw_C := vwCl
/-- the array classes: longs, ints, truth values -/
abbrev tys (ca : Nat → ClassId) : List (ClassId × FieldType) := [(ca 0, .long), (ca 1, .int), (ca 2, .boolean)]
theorem in_X0 : ∀ w ∈ u_ws RX0 TX0 1, w ∈ gA := by decide +kernel
theorem inx_X0 {x : Cond} : ∀ w ∈ u_ws RX0 TX0 1, w ∈ x :: gA := fun w h => mm (in_X0 w h)
theorem in_X1 : ∀ w ∈ u_ws RX1 TX1 6, w ∈ gA := by decide +kernel
theorem inx_X1 {x : Cond} : ∀ w ∈ u_ws RX1 TX1 6, w ∈ x :: gA := fun w h => mm (in_X1 w h)
theorem in_X2 : ∀ w ∈ u_ws RX2 TX2 12, w ∈ gA := by decide +kernel
theorem inx_X2 {x : Cond} : ∀ w ∈ u_ws RX2 TX2 12, w ∈ x :: gA := fun w h => mm (in_X2 w h)
theorem in_X3 : ∀ w ∈ u_ws RX3 TX3 4, w ∈ gA := by decide +kernel
theorem inx_X3 {x : Cond} : ∀ w ∈ u_ws RX3 TX3 4, w ∈ x :: gA := fun w h => mm (in_X3 w h)
theorem in_X4 : ∀ w ∈ u_ws RX4 TX4 4, w ∈ gA := by decide +kernel
theorem inx_X4 {x : Cond} : ∀ w ∈ u_ws RX4 TX4 4, w ∈ x :: gA := fun w h => mm (in_X4 w h)
theorem in_X5 : ∀ w ∈ u_ws RX5 TX5 21, w ∈ gA := by decide +kernel
theorem inx_X5 {x : Cond} : ∀ w ∈ u_ws RX5 TX5 21, w ∈ x :: gA := fun w h => mm (in_X5 w h)
/-! the worlds of the class: addresses by ad: 0 RedoHeap, 1 Disk, 2 settled, 3 latest, 4 waitingPlace, 5 waitingValue, 6 Log, 7 Changes, 8 good, 9 own, 10 changed, 11 places, 12 Blocks -/
/-- Disk: settled, latest, waitingPlace, waitingValue, waiting, on, writesLeft, keepsThen, writes, syncs, failures, lost -/
abbrev DT : Type := (Nat → Int64) × (Nat → Int64) × (Nat → Int32) × (Nat → Int64) × Int32 × Bool × Int32 × Int32 × Int32 × Int32 × Int32 × Int32
/-- Log: used, commits, lastNumber -/
abbrev LT : Type := Int32 × Int32 × Int32
/-- Changes: good, own, changed, places, size, open -/
abbrev CT : Type := (Nat → Int64) × (Nat → Int64) × (Nat → Int32) × (Nat → Int32) × Int32 × Bool
def wH (ad : Nat → Nat) : va_W := [(ad 0, .inr (4, [.ref (ad 1), .ref (ad 6), .ref (ad 7), .ref (ad 12)]))]
def wB (ad : Nat → Nat) : va_W := [(ad 12, .inr (0, [.ref (ad 7)]))]
def wL (ad : Nat → Nat) (_ : Nat → ClassId) (g : LT) : va_W := [(ad 6, .inr (3, [.ref (ad 1), .int g.1, .int g.2.1, .int g.2.2]))]
def wD (ad : Nat → Nat) (ca : Nat → ClassId) (d : DT) : va_W := [(ad 1, .inr (2, [.ref (ad 2), .ref (ad 3), .ref (ad 4), .ref (ad 5), .int d.2.2.2.2.1, .int (bI d.2.2.2.2.2.1), .int d.2.2.2.2.2.2.1, .int d.2.2.2.2.2.2.2.1, .int d.2.2.2.2.2.2.2.2.1, .int d.2.2.2.2.2.2.2.2.2.1, .int d.2.2.2.2.2.2.2.2.2.2.1, .int d.2.2.2.2.2.2.2.2.2.2.2])), (ad 2, .inl (ca 0, 1024, .inr (.inl d.1))), (ad 3, .inl (ca 0, 1024, .inr (.inl d.2.1))), (ad 4, .inl (ca 1, 320, .inl d.2.2.1)), (ad 5, .inl (ca 0, 320, .inr (.inl d.2.2.2.1)))]
def wC (ad : Nat → Nat) (ca : Nat → ClassId) (h : CT) : va_W := [(ad 7, .inr (1, [.ref (ad 8), .ref (ad 9), .ref (ad 10), .ref (ad 11), .int h.2.2.2.2.1, .int (bI h.2.2.2.2.2)])), (ad 8, .inl (ca 0, 1024, .inr (.inl h.1))), (ad 9, .inl (ca 0, 1024, .inr (.inl h.2.1))), (ad 10, .inl (ca 2, 1024, .inl h.2.2.1)), (ad 11, .inl (ca 1, 96, .inl h.2.2.2.1))]
