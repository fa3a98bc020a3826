/-! PURE SIDE 1: the disk: what the class's Disk and the reference do alike -/
theorem bnd {α β : Type} {o : Option α} {x : α} {f : α → Option β} {r : Option β} (h : o = some x) (k : f x = r) : o.bind f = r := by rw [h]; exact k
theorem ift {α : Type} {c : Prop} [Decidable c] {a b r : α} (h : c) (k : a = r) : (if c then a else b) = r := by rw [if_pos h]; exact k
theorem ifn {α : Type} {c : Prop} [Decidable c] {a b r : α} (h : ¬ c) (k : b = r) : (if c then a else b) = r := by rw [if_neg h]; exact k
theorem gI_nI {k n : Nat} (h : k < n) (hn : n < 2 ^ 31) : gI (nI k) n = true := decide_eq_true (nI_in h hn)
theorem of_gI {i : Int32} {n : Nat} (h : gI i n = true) (hn : n < 2 ^ 31) : ∃ k, k < n ∧ i = nI k := vp_in_of (gI_in h) hn
theorem clN {k : Nat} (h : k < 2 ^ 31) : (nI k).toNatClampNeg = k := nI_clamp h
theorem isW {k : Nat} (h : k < 1024) : f_Heap_isWord (nI k) = some true := by
  unfold f_Heap_isWord
  rw [if_neg (nI_pos (by omega)), if_neg (show ¬ (1024 : Int32) ≤ nI k from fun q => nI_ge (a := k) (b := 1024) h (by omega) q)]
theorem isW_of (i : Int32) : (∃ k, k < 1024 ∧ i = nI k ∧ f_Heap_isWord i = some true) ∨ ((i < 0 ∨ (1024 : Int32) ≤ i) ∧ f_Heap_isWord i = some false) := by
  rcases pk_ix i (n := 1024) (by omega) with h | h | ⟨j, hj, rfl⟩
  · refine Or.inr ⟨Or.inl h, ?_⟩
    unfold f_Heap_isWord
    rw [if_pos h]
  · refine Or.inr ⟨Or.inr h, ?_⟩
    unfold f_Heap_isWord
    by_cases h0 : i < 0
    · rw [if_pos h0]
    · exact ifn h0 (ift h rfl)
  · exact Or.inl ⟨j, hj, rfl, isW hj⟩
/-- the first n waiting writes laid into st -/
def stl (wp : Nat → Int32) (wv : Nat → Int64) (st : Nat → Int64) : Nat → Nat → Int64
  | 0 => st
  | n + 1 => vp_updL (stl wp wv st n) (wp n).toNatClampNeg (wv n)
/-- the first n waiting places are words -/
def wok (wp : Nat → Int32) (n : Nat) : Prop := ∀ j, j < n → ∃ k, k < 1024 ∧ wp j = nI k
theorem gib {k n : Nat} (h : k < n) (hn : n < 2 ^ 31) {α : Type} {a b : α} : (if gI (nI k) n = true then a else b) = a := if_pos (gI_nI h hn)
theorem settle_c {N : Nat} (d : DT) (m : Nat) (hm : m ≤ 320) (hw : wok d.2.2.1 m) : ∀ n i, i ≤ m → m < i + n → f_Disk_settleFirst_2 N n (stl d.2.2.1 d.2.2.2.1 d.1 i, d.2) (nI m) (nI i) = some (stl d.2.2.1 d.2.2.2.1 d.1 m, d.2) := by
  intro n
  induction n with
  | zero => intro i h1 h2; omega
  | succ n ih =>
    intro i h1 h2
    unfold f_Disk_settleFirst_2
    by_cases he : i = m
    · subst he
      exact if_pos (nI_le (Nat.le_refl _) (by omega))
    · have hlt : i < m := by omega
      refine (if_neg (nI_ge hlt (by omega))).trans ?_
      refine (if_neg (show ¬ (320 : Int32) ≤ nI i from nI_ge (b := 320) (by omega) (by omega))).trans ?_
      refine (gib (by omega) (by omega)).trans ?_
      obtain ⟨k, hk, ek⟩ := hw i hlt
      have e1 : d.2.2.1 (nI i).toNatClampNeg = nI k := by rw [clN (by omega), ek]
      refine bnd (x := true) (by show f_Heap_isWord (d.2.2.1 (nI i).toNatClampNeg) = _; rw [e1]; exact isW hk) (ift rfl ?_)
      refine (gib (by omega) (by omega)).trans ?_
      refine (if_pos (by show gI (d.2.2.1 (nI i).toNatClampNeg) 1024 = true; rw [e1]; exact gI_nI hk (by omega))).trans ?_
      have := ih (i + 1) (by omega) (by omega)
      rw [← nI_1] at this
      rw [← this]
      show f_Disk_settleFirst_2 N n (vp_updL (stl d.2.2.1 d.2.2.2.1 d.1 i) (d.2.2.1 (nI i).toNatClampNeg).toNatClampNeg (d.2.2.2.1 (nI i).toNatClampNeg), d.2) (nI m) (nI i + 1) = f_Disk_settleFirst_2 N n (vp_updL (stl d.2.2.1 d.2.2.2.1 d.1 i) (d.2.2.1 i).toNatClampNeg (d.2.2.2.1 i), d.2) (nI m) (nI i + 1)
      rw [clN (by omega)]
theorem settleFirst_c {N : Nat} (d : DT) (m : Nat) (hm : m ≤ 320) (hN : 320 < N) (hw : wok d.2.2.1 m) : f_Disk_settleFirst N d (nI m) = some (stl d.2.2.1 d.2.2.2.1 d.1 m, d.2) := settle_c d m hm hw N 0 (Nat.zero_le _) (by omega)
theorem settle_m {N : Nat} (v : MT) (m : Nat) (hm : m ≤ 320) (hw : wok v.2.2.1 m) : ∀ n i, i ≤ m → m < i + n → f_Mod_settle_2 N n (stl v.2.2.1 v.2.2.2.1 v.1 i, v.2) (nI m) (nI i) = some (stl v.2.2.1 v.2.2.2.1 v.1 m, v.2) := by
  intro n
  induction n with
  | zero => intro i h1 h2; omega
  | succ n ih =>
    intro i h1 h2
    unfold f_Mod_settle_2
    by_cases he : i = m
    · subst he
      exact if_pos (nI_le (Nat.le_refl _) (by omega))
    · have hlt : i < m := by omega
      refine (if_neg (nI_ge hlt (by omega))).trans ?_
      refine (gib (by omega) (by omega)).trans ?_
      refine (gib (by omega) (by omega)).trans ?_
      obtain ⟨k, hk, ek⟩ := hw i hlt
      have e1 : v.2.2.1 (nI i).toNatClampNeg = nI k := by rw [clN (by omega), ek]
      refine (if_pos (by show gI (v.2.2.1 (nI i).toNatClampNeg) 1024 = true; rw [e1]; exact gI_nI hk (by omega))).trans ?_
      have := ih (i + 1) (by omega) (by omega)
      rw [← nI_1] at this
      rw [← this]
      show f_Mod_settle_2 N n (vp_updL (stl v.2.2.1 v.2.2.2.1 v.1 i) (v.2.2.1 (nI i).toNatClampNeg).toNatClampNeg (v.2.2.2.1 (nI i).toNatClampNeg), v.2) (nI m) (nI i + 1) = f_Mod_settle_2 N n (vp_updL (stl v.2.2.1 v.2.2.2.1 v.1 i) (v.2.2.1 i).toNatClampNeg (v.2.2.2.1 i), v.2) (nI m) (nI i + 1)
      rw [clN (by omega)]
theorem settle_M {N : Nat} (v : MT) (m : Nat) (hm : m ≤ 320) (hN : 320 < N) (hw : wok v.2.2.1 m) : f_Mod_settle N v (nI m) = some (stl v.2.2.1 v.2.2.2.1 v.1 m, v.2) := settle_m v m hm hw N 0 (Nat.zero_le _) (by omega)
/-- the words up to n taken out of f, the others out of g -/
def upto {α : Type} (f g : Nat → α) (n : Nat) : Nat → α := fun j => if j < n then f j else g j
theorem upto_0 {α : Type} (f g : Nat → α) : upto f g 0 = g := funext fun j => if_neg (Nat.not_lt_zero j)
theorem upto_L (f g : Nat → Int64) (n : Nat) : vp_updL (upto f g n) n (f n) = upto f g (n + 1) := funext fun j => by
  unfold vp_updL upto
  by_cases h : j = n
  · subst h; simp
  · by_cases h2 : j < n
    · rw [if_neg h, if_pos h2, if_pos (by omega)]
    · rw [if_neg h, if_neg h2, if_neg (by omega)]
theorem upto_I (f g : Nat → Int32) (n : Nat) : upd (upto f g n) n (f n) = upto f g (n + 1) := funext fun j => by
  unfold upd upto
  by_cases h : j = n
  · subst h; simp
  · by_cases h2 : j < n
    · rw [if_neg h, if_pos h2, if_pos (by omega)]
    · rw [if_neg h, if_neg h2, if_neg (by omega)]
theorem cpy_upto (f g : Nat → Int64) : va_cpy f g (0 : Int32).toNatClampNeg (0 : Int32).toNatClampNeg (1024 : Int32).toNatClampNeg = upto f g 1024 := funext fun j => by
  show (if 0 ≤ j ∧ j < 0 + 1024 then f (0 + (j - 0)) else g j) = if j < 1024 then f j else g j
  by_cases h : j < 1024
  · rw [if_pos ⟨Nat.zero_le _, by omega⟩, if_pos h]
    congr 1
    omega
  · rw [if_neg (by omega), if_neg h]
/-- losing the power, with n of the waiting writes kept -/
def sLose (d : DT) (n : Nat) (st : Int32) : DT := (stl d.2.2.1 d.2.2.2.1 d.1 n, upto (stl d.2.2.1 d.2.2.2.1 d.1 n) d.2.1 1024, d.2.2.1, d.2.2.2.1, 0, false, 0, d.2.2.2.2.2.2.2.1, d.2.2.2.2.2.2.2.2.1, d.2.2.2.2.2.2.2.2.2.1, d.2.2.2.2.2.2.2.2.2.2.1 + 1, d.2.2.2.2.2.2.2.2.2.2.2 + (d.2.2.2.2.1 - st))
/-- how many of w waiting writes are kept, told k -/
def kept (w : Nat) (k : Int32) : Int32 := if nI w < k then nI w else k
theorem kept_nI {w : Nat} {k : Int32} (hk : 0 ≤ k) (hw : w < 2 ^ 31) : ∃ n, n ≤ w ∧ kept w k = nI n := by
  unfold kept
  by_cases h : nI w < k
  · exact ⟨w, Nat.le_refl _, if_pos h⟩
  · obtain ⟨j, hj, rfl⟩ := nI_of (x := k) (by rw [Int32.not_lt]; exact hk)
    refine ⟨j, ?_, if_neg h⟩
    rw [nI_ltI hw hj] at h
    omega
theorem lose_c {N : Nat} (d : DT) {w n : Nat} {k : Int32} (hN : 320 < N) (hw : w ≤ 320) (ew : d.2.2.2.2.1 = nI w) (hk : kept w k = nI n) (hn : n ≤ w) (ok : wok d.2.2.1 w) : f_Disk_losePower N d k = some (sLose d n (nI n)) := by
  unfold f_Disk_losePower
  have e : (if d.2.2.2.2.1 < k then d.2.2.2.2.1 else k) = nI n := by rw [ew]; exact hk
  rw [e]
  refine bnd (settleFirst_c d n (by omega) hN (fun j hj => ok j (by omega))) ?_
  show some _ = some _
  rw [cpy_upto]
  rfl
