/-! PURE SIDE 13: the log carried out, on both sides -/
abbrev OnT (d : DT) (w : Nat) : Prop := OnD d w (fun _ => True)
theorem OnD.T {P : (Nat → Int64) → Prop} {d : DT} {w : Nat} (h : OnD d w P) : OnT d w := h.mono (fun _ _ => trivial)
/-- the last number that the commits tell -/
def lastN : List Com → Int64 → Int64
  | [], y => y
  | c :: cs, _ => lastN cs (lN c.2)
/-- n words from p made 0 -/
def zer : Nat → Nat → List (Nat × Int64)
  | _, 0 => []
  | p, n + 1 => (p, 0) :: zer (p + 1) n
theorem zer_len : ∀ n p, (zer p n).length = n
  | 0, _ => rfl
  | n + 1, p => by show (zer (p + 1) n).length + 1 = n + 1; rw [zer_len n]
theorem zer_mem : ∀ {n p : Nat} {e : Nat × Int64}, e ∈ zer p n → p ≤ e.1 ∧ e.1 < p + n ∧ e.2 = 0
  | 0, _, _, h => by cases h
  | n + 1, p, e, h => by
    rcases List.mem_cons.mp h with h | h
    · subst h; exact ⟨Nat.le_refl _, by show p < p + (n + 1); omega, rfl⟩
    · have := zer_mem h; exact ⟨by omega, by omega, this.2.2⟩
section
variable {N : Nat} {vL : LT} {v : Nat → Int64} {ic : Nat → Int32} {ch : Nat → Int64} {cn : Int32} {o : Bool} {us co : Int32} {la : Int64} {th : Int32}
theorem sW_t {d : DT} {k : Nat} {x : Int64} {l : List (Nat × Int64)} (h : (sWrite d k x).1 = true) : sWrites d ((k, x) :: l) = sWrites (sWrite d k x).2 l := if_pos h
theorem sW_f {d : DT} {k : Nat} {x : Int64} {l : List (Nat × Int64)} (h : (sWrite d k x).1 = false) : sWrites d ((k, x) :: l) = (false, (sWrite d k x).2) := if_neg (by rw [h]; decide)
theorem sWs_t {d : DT} {a b : List (Nat × Int64)} (h : (sWrites d a).1 = true) : sWrites d (a ++ b) = sWrites (sWrites d a).2 b := (sWrites_app a b d).trans (if_pos h)
theorem sWs_f {d : DT} {a b : List (Nat × Int64)} (h : (sWrites d a).1 = false) : sWrites d (a ++ b) = (false, (sWrites d a).2) := (sWrites_app a b d).trans (if_neg (by rw [h]; decide))
theorem wc {P : (Nat → Int64) → Prop} {d : DT} {w k : Nat} {x : Int64} (h : OnD d w P) (hw : w < 320) (hk : k < 1024) (hN : 320 < N) : f_Disk_write N d (nI k) x = some (sWrite d k x) := write_c d h.1 h.2.1 hw hk hN x
theorem wm_t {P : (Nat → Int64) → Prop} {d : DT} {w k : Nat} {x : Int64} (h : OnD d w P) (hw : w < 320) (hk : k < 1024) (hN : 1024 < N) (q : (sWrite d k x).1 = true) : f_Mod_write N (mkM d v ic ch cn o us co la th) (nI k) x = some (true, mkM (sWrite d k x).2 v ic ch cn o us co la th) := by
  have := write_m (N := N) d v ic ch cn o us co la th h.1 hw hk hN x
  rw [if_pos q, q] at this
  exact this
theorem wm_f {P : (Nat → Int64) → Prop} {d : DT} {w k : Nat} {x : Int64} (h : OnD d w P) (hw : w < 320) (hk : k < 1024) (hN : 1024 < N) (q : (sWrite d k x).1 = false) : f_Mod_write N (mkM d v ic ch cn o us co la th) (nI k) x = some (false, mkM (sWrite d k x).2 v (icz ic) ch 0 false us co la th) := by
  have := write_m (N := N) d v ic ch cn o us co la th h.1 hw hk hN x
  rw [if_neg (by rw [q]; decide), q] at this
  exact this
theorem wsp {d : DT} {w k : Nat} (x : Int64) (h : OnT d w) (hw : w < 320) (hk : k < 1024) : ((sWrite d k x).1 = true ∧ OnT (sWrite d k x).2 (w + 1) ∧ (sWrite d k x).2.2.1 = vp_updL d.2.1 k x) ∨ ((sWrite d k x).1 = false ∧ OffD (sWrite d k x).2 (fun _ => True)) := write_spec h hw hk trivial
theorem wssp {d : DT} {w : Nat} {l : List (Nat × Int64)} (h : OnT d w) (hk : ∀ e ∈ l, e.1 < 1024) (hw : w + l.length ≤ 320) : ((sWrites d l).1 = true ∧ OnT (sWrites d l).2 (w + l.length) ∧ (sWrites d l).2.2.1 = app d.2.1 l) ∨ ((sWrites d l).1 = false ∧ OffD (sWrites d l).2 (fun _ => True)) := writes_spec l d w h hk hw (fun _ _ => trivial)
/-- the places of one commit, the class -/
theorem wp26 {K : DT → Int32 → Option (Bool × DT)} {a sz : Nat} (hN : 320 < N) (ha : a + sz ≤ 160) : ∀ (l : List (Nat × Int64)) (n : Nat) (d : DT) (w i : Nat), OnT d w → w + l.length ≤ 320 → EntAt d.2.1 (16 + i) l → (∀ e ∈ l, e.1 < 1024 ∧ (e.1 = 1 ∨ 176 ≤ e.1)) → i + 2 * l.length + 1 = a + sz → l.length < n → f_Log_writePlaces_26 N vL K n d (nI sz) (nI a) (nI i) = if (sWrites d l).1 = true then K (sWrites d l).2 (nI (a + sz)) else some (false, (sWrites d l).2) := by
  intro l
  induction l with
  | nil =>
    intro n d w i hd hw he hk hi hn
    obtain ⟨n, rfl⟩ : ∃ m, n = m + 1 := ⟨n - 1, by omega⟩
    simp only [List.length_nil] at hi
    unfold f_Log_writePlaces_26
    have e : nI a + nI sz - 1 = nI i := by
      rw [nI_add, show (1 : Int32) = nI 1 from rfl, pk_sub (by omega)]; congr 1; omega
    rw [e, nI_add]
    exact (ift (nI_le (Nat.le_refl _) (by omega)) rfl).trans (if_pos rfl).symm
  | cons e l ih =>
    obtain ⟨k, x⟩ := e
    intro n d w i hd hw he hk hi hn
    simp only [List.length_cons] at hi hw hn
    obtain ⟨n, rfl⟩ : ∃ m, n = m + 1 := ⟨n - 1, by omega⟩
    unfold f_Log_writePlaces_26
    have e : nI a + nI sz - 1 = nI (a + sz - 1) := by
      rw [nI_add, show (1 : Int32) = nI 1 from rfl, pk_sub (by omega)]
    have e1 : (16 : Int32) + nI i = nI (16 + i) := nI_add 16 i
    have e2 : nI i + (2 : Int32) = nI (i + 2) := nI_add i 2
    have hk0 := hk (k, x) List.mem_cons_self
    rw [e, e1, nI_1, e2]
    refine ifn (nI_ge (by omega) (by omega)) (bnd (dread_c (by omega)) (bnd (dread_c (by omega)) ?_))
    rw [he.1, he.2.1, lN_i]
    refine bnd (wc hd (by omega) hk0.1 hN) ?_
    rcases wsp x hd (by omega) hk0.1 with ⟨a1, a2, a3⟩ | ⟨a1, a2⟩
    · refine ift a1 ?_
      rw [sW_t a1]
      exact ih n _ (w + 1) (i + 2) a2 (by omega) (EntAt_congr he.2.2 (fun j h1 h2 => by rw [a3, pk_uLn (by have := hk0.2; simp only at this; omega)])) (fun e he => hk e (List.mem_cons_of_mem _ he)) (by omega) (by omega)
    · refine ifn (by rw [a1]; decide) ?_
      rw [sW_f a1]
      exact (if_neg Bool.false_ne_true).symm
/-- what a log is, for both sides -/
def LogOk (m : Nat → Int64) (g p : Nat) (cs : List Com) : Prop := m 0 = lN g ∧ LogAt m g p cs ∧ ∀ c ∈ cs, entOk c ∧ c.2 < 2 ^ 31
theorem LogOk_app {m : Nat → Int64} {g p : Nat} {cs : List Com} {l : List (Nat × Int64)} (h : LogOk m g p cs) (hp : 16 ≤ p) (h2 : p + lsz cs ≤ 176) (hl : ∀ e ∈ l, e.1 < 1024 ∧ (e.1 = 1 ∨ 176 ≤ e.1)) : LogOk (app m l) g p cs := by
  refine ⟨?_, LogAt_congr h.2.1 (fun j h3 h4 => app_other (fun e he q => ?_)), h.2.2⟩
  · rw [app_other (fun e he q => by have := (hl e he).2; omega)]
    exact h.1
  · have := (hl e he).2
    omega
theorem wp2 {g used : Nat} (hN : 320 < N) (hv : vL.1 = nI used) (hu : used ≤ 160) : ∀ (cs : List Com) (n : Nat) (d : DT) (w a : Nat), OnT d w → LogOk d.2.1 g (16 + a) cs → a + lsz cs = used → w + (flat cs).length ≤ 320 → cs.length < n → f_Log_writePlaces_2 N vL n d (nI a) = some (sWrites d (flat cs)) := by
  intro cs
  induction cs with
  | nil =>
    intro n d w a hd hl ha hw hn
    obtain ⟨n, rfl⟩ : ∃ m, n = m + 1 := ⟨n - 1, by omega⟩
    unfold f_Log_writePlaces_2
    have e : a = used := ha
    rw [hv, e]
    exact ift (nI_le (Nat.le_refl _) (by omega)) rfl
  | cons c cs ih =>
    intro n d w a hd hl ha hw hn
    simp only [List.length_cons] at hn
    obtain ⟨n, rfl⟩ : ∃ m, n = m + 1 := ⟨n - 1, by omega⟩
    have hsz : lsz (c :: cs) = csz c + lsz cs := rfl
    have hfl : flat (c :: cs) = c.1 ++ flat cs := rfl
    have hcz : csz c = 2 + 2 * c.1.length := rfl
    rw [hfl, List.length_append] at hw
    have hok := (hl.2.2 c List.mem_cons_self)
    unfold f_Log_writePlaces_2
    rw [hv]
    refine ifn (nI_ge (by omega) (by omega)) (bnd (csize_yes hl.1 hl.2.1.1 hok.1 hok.2 (by omega)) (ifn (nI_ne0 (by omega) (by omega)) ?_))
    rw [nI_1]
    have he : EntAt d.2.1 (16 + (a + 1)) c.1 := by rw [show 16 + (a + 1) = 16 + a + 1 by omega]; exact hl.2.1.1.2.1
    refine (wp26 (vL := vL) hN (by omega) c.1 N d w (a + 1) hd (by omega) he hok.1.2 (by omega) (by omega)).trans ?_
    rw [hfl, sWrites_app]
    rcases wssp hd (fun e he => (hok.1.2 e he).1) (by omega) with ⟨a1, a2, a3⟩ | ⟨a1, a2⟩
    · rw [if_pos a1, if_pos a1]
      have h5 := LogOk_app hl (by omega) (by omega) hok.1.2
      rw [← a3] at h5
      refine ih n _ (w + c.1.length) (a + csz c) a2 ⟨h5.1, ?_, fun x hx => h5.2.2 x (List.mem_cons_of_mem _ hx)⟩ (by omega) (by omega) (by omega)
      rw [show 16 + (a + csz c) = 16 + a + csz c by omega]
      exact h5.2.1.2
    · rw [if_neg (by rw [a1]; decide), if_neg (by rw [a1]; decide)]
/-- the words cleared, the generation, the class -/
theorem co40 {cl : Nat} (hN : 320 < N) (hc : cl ≤ 160) : ∀ (k n : Nat) (d : DT) (w i : Nat), OnT d w → w + k + 1 ≤ 320 → i + k = cl → k < n → f_Log_carryOut_40 N n vL d (nI cl) (nI i) = (if (sWrites d (zer (16 + i) k ++ [(0, d.2.1 0 + 1)])).1 = true then some (true, ((0 : Int32), (0 : Int32), vL.2.2), sSync (sWrites d (zer (16 + i) k ++ [(0, d.2.1 0 + 1)])).2) else some (false, vL, (sWrites d (zer (16 + i) k ++ [(0, d.2.1 0 + 1)])).2)) := by
  intro k
  induction k with
  | zero =>
    intro n d w i hd hw hi hn
    obtain ⟨n, rfl⟩ : ∃ m, n = m + 1 := ⟨n - 1, by omega⟩
    unfold f_Log_carryOut_40
    have e : i = cl := by omega
    subst e
    refine ift (nI_le (Nat.le_refl _) (by omega)) (bnd (dread_c (w := 0) (by omega)) (bnd (wc (k := 0) hd (by omega) (by omega) hN) ?_))
    have ez : zer (16 + i) 0 ++ [((0 : Nat), d.2.1 0 + 1)] = [(0, d.2.1 0 + 1)] := rfl
    rw [ez]
    rcases wsp (k := 0) (d.2.1 0 + 1) hd (by omega) (by omega) with ⟨a1, a2, a3⟩ | ⟨a1, a2⟩
    · refine ift a1 ?_
      rw [sW_t a1]
      exact (bnd (sync_c _ a2.1 (by omega) hN) rfl).trans (if_pos rfl).symm
    · refine ifn (by rw [a1]; decide) ?_
      rw [sW_f a1]
      exact (if_neg Bool.false_ne_true).symm
  | succ k ih =>
    intro n d w i hd hw hi hn
    obtain ⟨n, rfl⟩ : ∃ m, n = m + 1 := ⟨n - 1, by omega⟩
    unfold f_Log_carryOut_40
    have e1 : (16 : Int32) + nI i = nI (16 + i) := nI_add 16 i
    rw [e1, nI_1]
    refine ifn (nI_ge (by omega) (by omega)) (bnd (wc hd (by omega) (by omega) hN) ?_)
    show _ = if (sWrites d ((16 + i, 0) :: (zer (16 + i + 1) k ++ [(0, d.2.1 0 + 1)]))).1 = true then some (true, ((0 : Int32), (0 : Int32), vL.2.2), sSync (sWrites d ((16 + i, 0) :: (zer (16 + i + 1) k ++ [(0, d.2.1 0 + 1)]))).2) else some (false, vL, (sWrites d ((16 + i, 0) :: (zer (16 + i + 1) k ++ [(0, d.2.1 0 + 1)]))).2)
    rcases wsp (k := 16 + i) 0 hd (by omega) (by omega) with ⟨a1, a2, a3⟩ | ⟨a1, a2⟩
    · refine ift a1 ?_
      rw [sW_t a1]
      have h5 := ih n _ (w + 1) (i + 1) a2 (by omega) (by omega) (by omega)
      rw [a3, pk_uLn (by omega)] at h5
      rw [show 16 + (i + 1) = 16 + i + 1 by omega] at h5
      exact h5
    · refine ifn (by rw [a1]; decide) ?_
      rw [sW_f a1]
      exact (if_neg Bool.false_ne_true).symm
end
