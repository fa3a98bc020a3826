/-! PURE SIDE 14: the log emptied, the reference; both sides' carrying out -/
theorem front_and {g d : Nat} (hg : g < 2 ^ 40) (hd : d < 4096) : lN (4096 * g + d) &&& (4095 : Int64) = lN d := by
  rw [show (4095 : Int64) = lN (2 ^ 12 - 1) from rfl, wb_mask (by omega) (by omega)]
  congr 1
  omega
section
variable {N : Nat} {vL : LT} {v : Nat → Int64} {ic : Nat → Int32} {ch : Nat → Int64} {cn : Int32} {o : Bool} {us co : Int32} {la : Int64} {th : Int32}
theorem em35 {K : MT → Int32 → Int32 → Int32 → Int64 → Option (Bool × MT)} {p dn : Nat} {y1 y2 : Int32} {y4 : Int64} (hN : 1024 < N) (hp0 : 16 ≤ p) (hp : p + 2 + 2 * dn ≤ 176) : ∀ (l : List (Nat × Int64)) (n : Nat) (d : DT) (w k : Nat), OnT d w → w + l.length ≤ 320 → EntAt d.2.1 (p + 1 + 2 * k) l → (∀ e ∈ l, e.1 < 1024 ∧ (e.1 = 1 ∨ 176 ≤ e.1)) → k + l.length = dn → l.length < n → f_Mod_empty_35 N K n (mkM d v ic ch cn o us co la th) y1 y2 (nI p) y4 (nI dn) (nI k) = if (sWrites d l).1 = true then K (mkM (sWrites d l).2 v ic ch cn o us co la th) y1 y2 (nI (p + (2 + 2 * dn))) ((-1 : Int64) - d.2.1 (p + 1 + 2 * dn)) else some (false, mkM (sWrites d l).2 v (icz ic) ch 0 false us co la th) := by
  intro l
  induction l with
  | nil =>
    intro n d w k hd hw he hk hi hn
    obtain ⟨n, rfl⟩ : ∃ m, n = m + 1 := ⟨n - 1, by omega⟩
    have e : k = dn := hi
    subst e
    unfold f_Mod_empty_35
    have e1 : nI p + (1 : Int32) + (2 : Int32) * nI k = nI (p + 1 + 2 * k) := by rw [nI_1, show (2 : Int32) = nI 2 from rfl, pk_mul, nI_add]
    have e2 : nI p + ((2 : Int32) + (2 : Int32) * nI k) = nI (p + (2 + 2 * k)) := by rw [show (2 : Int32) = nI 2 from rfl, pk_mul, nI_add, nI_add]
    rw [e1, e2, clN (by omega)]
    exact (ift (nI_le (Nat.le_refl _) (by omega)) (ift (gI_nI (by omega) (by omega)) rfl)).trans (if_pos rfl).symm
  | cons e l ih =>
    obtain ⟨kk, x⟩ := e
    intro n d w k hd hw he hk hi hn
    simp only [List.length_cons] at hi hw hn
    obtain ⟨n, rfl⟩ : ∃ m, n = m + 1 := ⟨n - 1, by omega⟩
    unfold f_Mod_empty_35
    have e1 : nI p + (1 : Int32) + (2 : Int32) * nI k = nI (p + 1 + 2 * k) := by rw [nI_1, show (2 : Int32) = nI 2 from rfl, pk_mul, nI_add]
    have e2 : nI p + (2 : Int32) + (2 : Int32) * nI k = nI (p + 1 + 2 * k + 1) := by
      rw [show (2 : Int32) = nI 2 from rfl, pk_mul, nI_add, nI_add]; congr 1; omega
    have hk0 : kk < 1024 ∧ (kk = 1 ∨ 176 ≤ kk) := hk (kk, x) List.mem_cons_self
    rw [e1, e2, nI_1 k, clN (show p + 1 + 2 * k < 2 ^ 31 by omega), clN (show p + 1 + 2 * k + 1 < 2 ^ 31 by omega)]
    refine ifn (nI_ge (by omega) (by omega)) (ift (gI_nI (by omega) (by omega)) (ift (gI_nI (by omega) (by omega)) ?_))
    show (f_Mod_write N (mkM d v ic ch cn o us co la th) (d.2.1 (p + 1 + 2 * k)).toInt32 (d.2.1 (p + 1 + 2 * k + 1))).bind _ = _
    rw [he.1, he.2.1, lN_i]
    rcases wsp x hd (by omega) hk0.1 with ⟨a1, a2, a3⟩ | ⟨a1, a2⟩
    · refine bnd (wm_t hd (by omega) hk0.1 hN a1) (ift rfl ?_)
      rw [sW_t a1]
      have h5 := ih n _ (w + 1) (k + 1) a2 (by omega) (by
        rw [show p + 1 + 2 * (k + 1) = p + 1 + 2 * k + 2 by omega]
        exact EntAt_congr he.2.2 (fun j h1 h2 => by rw [a3, pk_uLn (by have := hk0.2; omega)])) (fun e he => hk e (List.mem_cons_of_mem _ he)) (by omega) (by omega)
      rw [a3, pk_uLn (by have := hk0.2; omega)] at h5
      exact h5
    · refine bnd (wm_f hd (by omega) hk0.1 hN a1) (ifn Bool.false_ne_true ?_)
      rw [sW_f a1]
      exact (if_neg Bool.false_ne_true).symm
/-- the reference's emptying behind the places -/
def emt (N : Nat) (vM : MT) (y1 y2 y3 : Int32) (y4 : Int64) : Option (Bool × MT) := (f_Mod_write N vM (2 : Int32) y4).bind fun x19 => if x19.1 = true then (f_Mod_syncAll N x19.2).bind fun x22 => f_Mod_empty_137 N N x22.2 y1 y2 y3 y4 x22.1 (16 : Int32) else some (false, x19.2)
theorem em11 {g wd : Nat} {y2 : Int32} (hN : 1024 < N) (hg : g < 2 ^ 40) (hu : wd ≤ 160) : ∀ (cs : List Com) (n : Nat) (d : DT) (w p : Nat) (y4 : Int64), OnT d w → LogOk d.2.1 g p cs → 16 ≤ p → p + lsz cs = 16 + wd → w + (flat cs).length ≤ 320 → cs.length < n → f_Mod_empty_11 N n (mkM d v ic ch cn o us co la th) (nI wd) y2 (nI p) y4 = if (sWrites d (flat cs)).1 = true then emt N (mkM (sWrites d (flat cs)).2 v ic ch cn o us co la th) (nI wd) y2 (nI (16 + wd)) (lastN cs y4) else some (false, mkM (sWrites d (flat cs)).2 v (icz ic) ch 0 false us co la th) := by
  intro cs
  induction cs with
  | nil =>
    intro n d w p y4 hd hl hp ha hw hn
    obtain ⟨n, rfl⟩ : ∃ m, n = m + 1 := ⟨n - 1, by omega⟩
    have e : p = 16 + wd := ha
    subst e
    unfold f_Mod_empty_11
    have e1 : (16 : Int32) + nI wd = nI (16 + wd) := nI_add 16 wd
    rw [e1]
    exact (ift (nI_le (Nat.le_refl _) (by omega)) rfl).trans (if_pos rfl).symm
  | cons c cs ih =>
    intro n d w p y4 hd hl hp ha hw hn
    simp only [List.length_cons] at hn
    obtain ⟨n, rfl⟩ : ∃ m, n = m + 1 := ⟨n - 1, by omega⟩
    have hsz : lsz (c :: cs) = csz c + lsz cs := rfl
    have hfl : flat (c :: cs) = c.1 ++ flat cs := rfl
    have hcz : csz c = 2 + 2 * c.1.length := rfl
    rw [hfl, List.length_append] at hw
    have hok := (hl.2.2 c List.mem_cons_self)
    unfold f_Mod_empty_11
    have e1 : (16 : Int32) + nI wd = nI (16 + wd) := nI_add 16 wd
    rw [e1, clN (show p < 2 ^ 31 by omega)]
    refine ifn (nI_ge (by omega) (by omega)) (ift (gI_nI (by omega) (by omega)) ?_)
    show f_Mod_empty_35 N _ N (mkM d v ic ch cn o us co la th) (nI wd) y2 (nI p) y4 ((d.2.1 p &&& (4095 : Int64)).toInt32) (0 : Int32) = _
    rw [hl.2.1.1.1, front_and hg (by omega), lN_i]
    refine (em35 (K := fun z0 z1 z2 z3 z4 => f_Mod_empty_11 N n z0 z1 z2 z3 z4) hN hp (by omega) c.1 N d w 0 hd (by omega) hl.2.1.1.2.1 hok.1.2 (by omega) (by omega)).trans ?_
    rw [hfl, hl.2.1.1.2.2, back_num]
    rcases wssp hd (fun e he => (hok.1.2 e he).1) (by omega) with ⟨a1, a2, a3⟩ | ⟨a1, a2⟩
    · rw [if_pos a1, sWs_t a1]
      have h5 := LogOk_app hl (by omega) (by omega) hok.1.2
      rw [← a3] at h5
      have h6 := ih n _ (w + c.1.length) (p + csz c) (lN c.2) a2 ⟨h5.1, h5.2.1.2, fun x hx => h5.2.2 x (List.mem_cons_of_mem _ hx)⟩ (by omega) (by omega) (by omega) (by omega)
      exact h6
    · rw [if_neg (by rw [a1]; decide), sWs_f a1]
      exact (if_neg Bool.false_ne_true).symm
theorem em137 {cl : Nat} {y1 y3 y6 : Int32} {y4 : Int64} (hN : 1024 < N) (hc : cl ≤ 160) : ∀ (k n : Nat) (d : DT) (w i : Nat), OnT d w → w + k + 1 ≤ 320 → i + k = 16 + cl → 16 ≤ i → k < n → f_Mod_empty_137 N n (mkM d v ic ch cn o us co la th) y1 (nI cl) y3 y4 y6 (nI i) = (if (sWrites d (zer i k ++ [(0, d.2.1 0 + 1)])).1 = true then some (true, mkM (sSync (sWrites d (zer i k ++ [(0, d.2.1 0 + 1)])).2) v ic ch cn o 0 0 la th) else some (false, mkM (sWrites d (zer i k ++ [(0, d.2.1 0 + 1)])).2 v (icz ic) ch 0 false us co la th)) := by
  intro k
  induction k with
  | zero =>
    intro n d w i hd hw hi hi0 hn
    obtain ⟨n, rfl⟩ : ∃ m, n = m + 1 := ⟨n - 1, by omega⟩
    unfold f_Mod_empty_137
    have e : i = 16 + cl := by omega
    subst e
    have e1 : (16 : Int32) + nI cl = nI (16 + cl) := nI_add 16 cl
    have ez : zer (16 + cl) 0 ++ [((0 : Nat), d.2.1 0 + 1)] = [(0, d.2.1 0 + 1)] := rfl
    rw [e1, ez]
    refine ift (nI_le (Nat.le_refl _) (by omega)) (ift (gI_nI (k := 0) (by omega) (by omega)) ?_)
    rcases wsp (k := 0) (d.2.1 0 + 1) hd (by omega) (by omega) with ⟨a1, a2, a3⟩ | ⟨a1, a2⟩
    · refine bnd (wm_t (k := 0) hd (by omega) (by omega) hN a1) (ift rfl ?_)
      rw [sW_t a1]
      exact (bnd (sync_m _ v ic ch cn o us co la th a2.1 (by omega) (by omega)) rfl).trans (if_pos rfl).symm
    · refine bnd (wm_f (k := 0) hd (by omega) (by omega) hN a1) (ifn Bool.false_ne_true ?_)
      rw [sW_f a1]
      exact (if_neg Bool.false_ne_true).symm
  | succ k ih =>
    intro n d w i hd hw hi hi0 hn
    obtain ⟨n, rfl⟩ : ∃ m, n = m + 1 := ⟨n - 1, by omega⟩
    unfold f_Mod_empty_137
    have e1 : (16 : Int32) + nI cl = nI (16 + cl) := nI_add 16 cl
    have ez : zer i (k + 1) ++ [((0 : Nat), d.2.1 0 + 1)] = (i, 0) :: (zer (i + 1) k ++ [(0, d.2.1 0 + 1)]) := rfl
    rw [e1, nI_1, ez]
    refine ifn (nI_ge (by omega) (by omega)) ?_
    rcases wsp (k := i) 0 hd (by omega) (by omega) with ⟨a1, a2, a3⟩ | ⟨a1, a2⟩
    · refine bnd (wm_t hd (by omega) (by omega) hN a1) (ift rfl ?_)
      rw [sW_t a1]
      have h5 := ih n _ (w + 1) (i + 1) a2 (by omega) (by omega) (by omega) (by omega)
      rw [a3, pk_uLn (by omega)] at h5
      exact h5
    · refine bnd (wm_f hd (by omega) (by omega) hN a1) (ifn Bool.false_ne_true ?_)
      rw [sW_f a1]
      exact (if_neg Bool.false_ne_true).symm
/-- the log carried out: places and number, a sync, the words cleared and the generation, a sync -/
def sCarry (d : DT) (cs : List Com) (num : Int64) (cl : Nat) : Bool × DT :=
  if (sWrites d (flat cs ++ [(2, num)])).1 = true then
    (if (sWrites (sSync (sWrites d (flat cs ++ [(2, num)])).2) (zer 16 cl ++ [(0, (sWrites d (flat cs ++ [(2, num)])).2.2.1 0 + 1)])).1 = true then (true, sSync (sWrites (sSync (sWrites d (flat cs ++ [(2, num)])).2) (zer 16 cl ++ [(0, (sWrites d (flat cs ++ [(2, num)])).2.2.1 0 + 1)])).2)
     else (false, (sWrites (sSync (sWrites d (flat cs ++ [(2, num)])).2) (zer 16 cl ++ [(0, (sWrites d (flat cs ++ [(2, num)])).2.2.1 0 + 1)])).2))
  else (false, (sWrites d (flat cs ++ [(2, num)])).2)
theorem flat_lt {cs : List Com} (h : ∀ c ∈ cs, entOk c ∧ c.2 < 2 ^ 31) : ∀ e ∈ flat cs, e.1 < 1024 := fun e he => (flat_ok (fun c hc => (h c hc).1) e he).1
theorem carry_c {d : DT} {w g lan cl : Nat} {cs : List Com} {c2 : Int32} (hN : 1024 < N) (hd : OnT d w) (hw : w ≤ 160) (hl : LogOk d.2.1 g 16 cs) (hu : lsz cs ≤ 160) (h0 : 1 ≤ cl) (hc : cl ≤ 160) (hla : lan < 2 ^ 31) : f_Log_carryOut N (nI (lsz cs), c2, nI lan) d (nI cl) = some ((sCarry d cs (lN lan) cl).1, (if (sCarry d cs (lN lan) cl).1 = true then ((0 : Int32), (0 : Int32), nI lan) else (nI (lsz cs), c2, nI lan)), (sCarry d cs (lN lan) cl).2) := by
  have hlen := flat_len (cs := cs)
  unfold f_Log_carryOut sCarry
  refine ifn (nI_ne0 (by omega) (by omega)) (bnd (wp2 (vL := (nI (lsz cs), c2, nI lan)) (by omega) rfl hu cs N d w 0 hd hl (by omega) (by omega) (by omega)) ?_)
  rcases wssp hd (flat_lt hl.2.2) (by omega) with ⟨a1, a2, a3⟩ | ⟨a1, a2⟩
  · refine ift a1 ?_
    rw [sWs_t a1]
    rw [nI_l hla]
    refine bnd (wc (k := 2) a2 (by omega) (by omega) (by omega)) ?_
    rcases wsp (k := 2) (lN lan) a2 (by omega) (by omega) with ⟨b1, b2, b3⟩ | ⟨b1, b2⟩
    · refine ift b1 ?_
      rw [sW_t b1]
      have es : sWrites (sWrite (sWrites d (flat cs)).2 2 (lN lan)).2 [] = (true, (sWrite (sWrites d (flat cs)).2 2 (lN lan)).2) := rfl
      rw [es]
      refine bnd (sync_c _ b2.1 (by omega) (by omega)) ?_
      refine (co40 (vL := (nI (lsz cs), c2, nI lan)) (by omega) hc cl N _ 0 0 (sync_on b2 (by omega)).1 (by omega) (by omega) (by omega)).trans ?_
      rw [(sync_on b2 (by omega)).2, if_pos rfl]
      by_cases q : (sWrites (sSync (sWrite (sWrites d (flat cs)).2 2 (lN lan)).2) (zer 16 cl ++ [(0, (sWrite (sWrites d (flat cs)).2 2 (lN lan)).2.2.1 0 + 1)])).1 = true
      · rw [if_pos q, if_pos q]
        rfl
      · rw [if_neg q, if_neg q]
        rfl
    · refine ifn (by rw [b1]; decide) ?_
      rw [sW_f b1]
      rfl
  · refine ifn (by rw [a1]; decide) ?_
    rw [sWs_f a1]
    rfl
theorem empty_m {d : DT} {w g cl : Nat} {cs : List Com} (hN : 1024 < N) (hg : g < 2 ^ 40) (hd : OnT d w) (hw : w ≤ 160) (hl : LogOk d.2.1 g 16 cs) (hu : lsz cs ≤ 160) (hc : cl ≤ 160) : f_Mod_empty N (mkM d v ic ch cn o us co la th) (nI (lsz cs)) (nI cl) = some ((sCarry d cs (lastN cs (d.2.1 2)) cl).1, if (sCarry d cs (lastN cs (d.2.1 2)) cl).1 = true then mkM (sCarry d cs (lastN cs (d.2.1 2)) cl).2 v ic ch cn o 0 0 la th else mkM (sCarry d cs (lastN cs (d.2.1 2)) cl).2 v (icz ic) ch 0 false us co la th) := by
  have hlen := flat_len (cs := cs)
  unfold f_Mod_empty
  refine ift (gI_nI (k := 2) (by omega) (by omega)) ?_
  show f_Mod_empty_11 N N (mkM d v ic ch cn o us co la th) (nI (lsz cs)) (nI cl) (nI 16) (d.2.1 2) = _
  refine (em11 hN hg hu cs N d w 16 _ hd hl (Nat.le_refl _) rfl (by omega) (by omega)).trans ?_
  unfold sCarry
  rcases wssp hd (flat_lt hl.2.2) (by omega) with ⟨a1, a2, a3⟩ | ⟨a1, a2⟩
  · rw [if_pos a1, sWs_t a1]
    unfold emt
    rcases wsp (k := 2) (lastN cs (d.2.1 2)) a2 (by omega) (by omega) with ⟨b1, b2, b3⟩ | ⟨b1, b2⟩
    · refine bnd (wm_t (k := 2) a2 (by omega) (by omega) hN b1) (ift rfl ?_)
      rw [sW_t b1]
      have es : sWrites (sWrite (sWrites d (flat cs)).2 2 (lastN cs (d.2.1 2))).2 [] = (true, (sWrite (sWrites d (flat cs)).2 2 (lastN cs (d.2.1 2))).2) := rfl
      rw [es]
      refine bnd (sync_m _ v ic ch cn o us co la th b2.1 (by omega) (by omega)) ?_
      refine (em137 hN hc cl N _ 0 16 (sync_on b2 (by omega)).1 (by omega) (by omega) (by omega) (by omega)).trans ?_
      rw [(sync_on b2 (by omega)).2, if_pos rfl]
      by_cases q : (sWrites (sSync (sWrite (sWrites d (flat cs)).2 2 (lastN cs (d.2.1 2))).2) (zer 16 cl ++ [(0, (sWrite (sWrites d (flat cs)).2 2 (lastN cs (d.2.1 2))).2.2.1 0 + 1)])).1 = true
      · rw [if_pos q, if_pos q]
        rfl
      · rw [if_neg q, if_neg q]
        rfl
    · refine bnd (wm_f (k := 2) a2 (by omega) (by omega) hN b1) (ifn Bool.false_ne_true ?_)
      rw [sW_f b1]
      rfl
  · rw [if_neg (by rw [a1]; decide), sWs_f a1]
    rfl
end
