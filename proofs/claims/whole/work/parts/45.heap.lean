-- rows of kit/laws/BITS.to-paste (starting text)
theorem wb_tb (n : Nat) : (lN n).toBitVec = BitVec.ofNat 64 n := rfl
theorem wb_inj {a b : Int64} (h : a.toBitVec = b.toBitVec) : a = b := Int64.toBitVec_inj.mp h
theorem wb_lt2 {a b : Nat} (h : a < b) : 2 ^ a < 2 ^ b := Nat.pow_lt_pow_right (by decide) h
theorem wb_and {a b : Nat} (ha : a < 2 ^ 64) (hb : b < 2 ^ 64) : lN a &&& lN b = lN (a &&& b) := by
  apply wb_inj
  rw [Int64.toBitVec_and, wb_tb, wb_tb, wb_tb]
  apply BitVec.eq_of_toNat_eq
  rw [BitVec.toNat_and, BitVec.toNat_ofNat, BitVec.toNat_ofNat, BitVec.toNat_ofNat, Nat.mod_eq_of_lt ha, Nat.mod_eq_of_lt hb, Nat.mod_eq_of_lt (Nat.and_lt_two_pow _ hb)]
theorem wb_mask {n k : Nat} (hn : n < 2 ^ 64) (hk : k < 64) : lN n &&& lN (2 ^ k - 1) = lN (n % 2 ^ k) := by
  rw [wb_and hn (by have := wb_lt2 hk; omega), Nat.and_two_pow_sub_one_eq_mod]
theorem wb_a1 {n : Nat} (hn : n < 2 ^ 64) : lN n &&& 1 = lN (n % 2) := wb_mask (k := 1) hn (by decide)
theorem pf_lI {a : Nat} (h : a < 2 ^ 63) : (lN a).toInt = (a : Int) := lg_ofNat_toInt h
theorem pf_shr {a d : Nat} {D : Int64} (hD : (D.toBitVec.smod 64).toNat = d) (h : a < 2 ^ 62) : lN a >>> D = lN (a / 2 ^ d) := by
  have hd : a / 2 ^ d ≤ a := Nat.div_le_self _ _
  apply Int64.toInt_inj.mp
  have e : (lN a >>> D).toInt = (lN a).toInt >>> d := by
    rw [← hD]
    exact BitVec.toInt_sshiftRight ..
  rw [e, Int.shiftRight_eq_div_pow, pf_lI (by omega), pf_lI (by omega)]
  rfl
/-! PURE SIDE 6: the heap as a chain of blocks -/
/-- the head of a block of n words -/
def hd (n : Nat) (u : Bool) : Int64 := lN (2 * n + (if u then 1 else 0))
/-- from h to k there lie the blocks bs -/
def Seg (v : Nat → Int64) : Nat → List (Nat × Bool) → Nat → Prop
  | h, [], k => h = k
  | h, (n, u) :: bs, k => 1 ≤ n ∧ v h = hd n u ∧ Seg v (h + 1 + n) bs k
theorem Seg_le {v : Nat → Int64} : ∀ {bs : List (Nat × Bool)} {h k : Nat}, Seg v h bs k → h ≤ k
  | [], _, _, e => Nat.le_of_eq e
  | (n, u) :: bs, h, k, e => by
    have := Seg_le e.2.2
    omega
theorem Seg_app {v : Nat → Int64} : ∀ {A B : List (Nat × Bool)} {h k : Nat}, Seg v h (A ++ B) k ↔ ∃ m, Seg v h A m ∧ Seg v m B k
  | [], B, h, k => ⟨fun e => ⟨h, rfl, e⟩, fun ⟨m, e1, e2⟩ => by cases e1; exact e2⟩
  | (n, u) :: A, B, h, k => by
    constructor
    · intro e
      obtain ⟨m, e1, e2⟩ := Seg_app.mp e.2.2
      exact ⟨m, ⟨e.1, e.2.1, e1⟩, e2⟩
    · rintro ⟨m, e1, e2⟩
      exact ⟨e1.1, e1.2.1, Seg_app.mpr ⟨m, e1.2.2, e2⟩⟩
theorem Seg_congr {v v' : Nat → Int64} : ∀ {bs : List (Nat × Bool)} {h k : Nat}, Seg v h bs k → (∀ j, h ≤ j → j < k → v' j = v j) → Seg v' h bs k
  | [], _, _, e, _ => e
  | (n, u) :: bs, h, k, e, hv => by
    have h2 := Seg_le e.2.2
    exact ⟨e.1, by rw [hv h (Nat.le_refl _) (by omega)]; exact e.2.1, Seg_congr e.2.2 (fun j h3 h4 => hv j (by omega) h4)⟩
theorem hd_lt {n : Nat} {u : Bool} (h : n < 2 ^ 30) : 2 * n + (if u then 1 else 0) < 2 ^ 32 := by cases u <;> simp <;> omega
theorem hd_shr {n : Nat} {u : Bool} (h : n < 2 ^ 30) : hd n u >>> ((1 : Int32).toInt64 &&& 63) = lN n := by
  unfold hd
  rw [pf_shr (d := 1) (by decide) (by have := hd_lt (u := u) h; omega)]
  congr 1
  cases u <;> simp <;> omega
theorem hd_and {n : Nat} {u : Bool} (h : n < 2 ^ 30) : hd n u &&& 1 = lN (if u then 1 else 0) := by
  unfold hd
  rw [wb_a1 (by have := hd_lt (u := u) h; omega)]
  congr 1
  cases u <;> simp <;> omega
theorem hd_div {n : Nat} {u : Bool} (h : n < 2 ^ 30) : hd n u / 2 = lN n := by
  unfold hd
  have e := pk_lDiv (a := 2 * n + (if u then 1 else 0)) (b := 2) (by have := hd_lt (u := u) h; omega) (by omega) (by omega)
  rw [show (2 : Int64) = lN 2 from rfl, e]
  congr 1
  cases u <;> simp <;> omega
theorem hd_rem {n : Nat} {u : Bool} (h : n < 2 ^ 30) : hd n u - hd n u / 2 * 2 = lN (if u then 1 else 0) := by
  unfold hd
  have e := pk_lRem (a := 2 * n + (if u then 1 else 0)) (b := 2) (by have := hd_lt (u := u) h; omega) (by omega) (by omega)
  rw [show (2 : Int64) = lN 2 from rfl, e]
  congr 1
  cases u <;> simp <;> omega
section
variable {N : Nat} {d : DT} {g own : Nat → Int64} {ps : List Nat} {p : Nat → Int32} {ch : Nat → Int64} {o : Bool} {us co : Int32} {la : Int64} {th : Int32} {c : Nat → Int32} {sz cn : Int32}
theorem isUsed_c {h n : Nat} {u : Bool} (hh : h < 1024) (hn : n < 1024) (e : own h = hd n u) : f_Blk_isUsed (g, own, c, p, sz, o) (nI h) = some u := by
  unfold f_Blk_isUsed
  refine bnd (read_c hh) ?_
  rw [e, hd_and (by omega)]
  cases u with
  | false => exact ifn (by decide) rfl
  | true => exact ift (by decide) rfl
theorem sizeAt_c {h n : Nat} {u : Bool} (hh : 176 ≤ h) (h1 : 1 ≤ n) (hn : h + 1 + n ≤ 1024) (e : own h = hd n u) : f_Blk_sizeAt (g, own, c, p, sz, o) (nI h) = some (nI n) := by
  unfold f_Blk_sizeAt
  refine bnd (read_c (by omega)) ?_
  rw [e, hd_shr (by omega)]
  have hl : ¬ lg_cmp (lN n) 1 < 0 := by
    rw [lg_cmp_lt, show (1 : Int64) = lN 1 from rfl, lN_lt (by omega) (by omega)]
    omega
  have hg : ¬ 0 < lg_cmp (lN n) ((1023 : Int64) - (nI h).toInt64) := by
    rw [lg_cmp_gt, nI_l (by omega), show (1023 : Int64) = lN 1023 from rfl, lN_sub (by omega), lN_lt (by omega) (by omega)]
    omega
  refine ifn (show ¬ nI h < (176 : Int32) from nI_nlt (b := h) (a := h) (by omega) (by omega) |> fun _ => (nI_nlt (a := h) (b := 176) hh (by omega))) (ifn hl (ifn hg ?_))
  rw [lN_i]
theorem freeAt_c {h n : Nat} {u : Bool} (hh : 176 ≤ h) (h1 : 1 ≤ n) (hn : h + 1 + n ≤ 1024) (e : own h = hd n u) : f_Blk_freeAt (g, own, c, p, sz, o) (nI h) = some (nI (if u then 0 else n)) := by
  unfold f_Blk_freeAt
  refine bnd (isUsed_c (by omega) (by omega) e) ?_
  cases u with
  | true => exact ift rfl rfl
  | false => exact ifn (by decide) (bnd (sizeAt_c hh h1 hn e) rfl)
theorem sizeAt_m {h n : Nat} {u : Bool} (h1 : ownok g own ps) (h2 : chok own ch ps) (h3 : o = false → ps = []) (hh : h < 1024) (hn : n < 1024) (e : own h = hd n u) : f_Mod_sizeAt (mkM d g (chgd ps) ch cn o us co la th) (nI h) = some (nI n) := by
  unfold f_Mod_sizeAt
  refine bnd (at_m hh h1 h2 h3) ?_
  rw [e, hd_div (by omega), lN_i]
theorem isUsedAt_m {h n : Nat} {u : Bool} (h1 : ownok g own ps) (h2 : chok own ch ps) (h3 : o = false → ps = []) (hh : h < 1024) (hn : n < 1024) (e : own h = hd n u) : f_Mod_isUsedAt (mkM d g (chgd ps) ch cn o us co la th) (nI h) = some u := by
  unfold f_Mod_isUsedAt
  refine bnd (at_m hh h1 h2 h3) ?_
  rw [e, hd_rem (by omega)]
  cases u with
  | false => exact ift (by decide) rfl
  | true => exact ifn (by decide) rfl
end
