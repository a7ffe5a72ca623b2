/-! ===== an abstract heap: what is known of which cell ===== -/
abbrev AH : Type := Nat → Option va_E
def hup (h : AH) (a : Nat) (e : va_E) : AH := fun b => if b = a then some e else h b
theorem hup_eq {h : AH} {a : Nat} {e : va_E} : hup h a e a = some e := if_pos rfl
theorem hup_ne {h : AH} {a b : Nat} {e : va_E} (hb : b ≠ a) : hup h a e b = h b := if_neg hb
theorem hup_old {h : AH} {a b : Nat} {e e2 : va_E} (ha : h a = none) (hb : h b = some e2) : hup h a e b = some e2 := by
  rw [hup_ne]
  · exact hb
  · intro z
    rw [z, ha] at hb
    cases hb
theorem hup_hup {h : AH} {a : Nat} {e e2 : va_E} : hup (hup h a e) a e2 = hup h a e2 := by
  funext b
  unfold hup
  by_cases hb : b = a
  · rw [if_pos hb, if_pos hb]
  · rw [if_neg hb, if_neg hb, if_neg hb]
/-- the same for all of a run: which class is where, what may be changed, the array classes of int, int[], Object, the empty row of ArrayList, the mirror of Object[], the script and its length -/
abbrev YG : Type := va_G × (Nat → Prop) × ClassId × ClassId × ClassId × Nat × Nat × Nat × Nat
abbrev YG.D (Y : YG) : va_G := Y.1
abbrev YG.A (Y : YG) : Nat → Prop := Y.2.1
abbrev YG.cI (Y : YG) : ClassId := Y.2.2.1
abbrev YG.cJ (Y : YG) : ClassId := Y.2.2.2.1
abbrev YG.cO (Y : YG) : ClassId := Y.2.2.2.2.1
abbrev YG.tE (Y : YG) : Nat := Y.2.2.2.2.2.1
abbrev YG.mi (Y : YG) : Nat := Y.2.2.2.2.2.2.1
abbrev YG.sb (Y : YG) : Nat := Y.2.2.2.2.2.2.2.1
abbrev YG.sL (Y : YG) : Nat := Y.2.2.2.2.2.2.2.2
abbrev YG.tys (Y : YG) : List (ClassId × FieldType) := [(Y.cI, .int), (Y.cJ, .array .int), (Y.cO, .object "java/lang/Object")]
abbrev aI (Y : YG) (n : Nat) (f : Nat → Int32) : va_E := .inl (Y.cI, n, .inl f)
abbrev aA (Y : YG) (n : Nat) (f : Nat → Option Nat) : va_E := .inl (Y.cJ, n, .inr (.inr (.inr (.inr f))))
abbrev aO (Y : YG) (n : Nat) (f : Nat → Option Nat) : va_E := .inl (Y.cO, n, .inr (.inr (.inr (.inr f))))
def cw (Y : YG) (h : AH) (H : Heap) : Prop := ∃ ws : va_W, va_P Y.D vwCl ws H ∧ va_D Y.A ws ∧ ∀ (a : Nat) (e : va_E), h a = some e → ∃ k : Nat, ws[k]? = some (a, e)
theorem cw.at {Y : YG} {h : AH} {H : Heap} (c : cw Y h H) {a : Nat} {e : va_E} (ha : h a = some e) : va_at Y.D vwCl (a, e) H := by
  obtain ⟨ws, hP, hD, hw⟩ := c
  obtain ⟨k, hk⟩ := hw a e ha
  exact hP k _ hk
theorem cw.inA {Y : YG} {h : AH} {H : Heap} (c : cw Y h H) {a : Nat} {e : va_E} (ha : h a = some e) : Y.A a := by
  obtain ⟨ws, hP, hD, hw⟩ := c
  obtain ⟨k, hk⟩ := hw a e ha
  exact hD.2 k _ hk
theorem cw.lt {Y : YG} {h : AH} {H : Heap} (c : cw Y h H) {a : Nat} {e : va_E} (ha : h a = some e) : a < H.size := (c.at ha).lt
/-- a heap in which the old cells of A are as before -/
theorem cw.kept {Y : YG} {h : AH} {H H1 : Heap} (c : cw Y h H) (hk : ∀ q : Nat, q < H.size → H1[q]? = H[q]?) : cw Y h H1 := by
  obtain ⟨ws, hP, hD, hw⟩ := c
  exact ⟨ws, hP.kept (fun k q hq => hk q.1 (hP k q hq).lt), hD, hw⟩
theorem cw.less {Y : YG} {h h2 : AH} {H : Heap} (c : cw Y h H) (hk : ∀ a e, h2 a = some e → h a = some e) : cw Y h2 H := by
  obtain ⟨ws, hP, hD, hw⟩ := c
  exact ⟨ws, hP, hD, fun a e he => hw a e (hk a e he)⟩
/-- the world behind a change of one cell -/
theorem cw_set {Y : YG} {h : AH} {H1 : Heap} {ws : va_W} {a k : Nat} {e0 e1 : va_E} (hD0 : va_D Y.A ws) (hw : ∀ (a : Nat) (e : va_E), h a = some e → ∃ k : Nat, ws[k]? = some (a, e)) (hk : ws[k]? = some (a, e0)) (hP : va_P Y.D vwCl (ws.set k (a, e1)) H1) (hD : va_D Y.A (ws.set k (a, e1))) : cw Y (hup h a e1) H1 := by
  refine ⟨_, hP, hD, fun b e hb => ?_⟩
  have hl := (List.getElem?_eq_some_iff.mp hk).1
  by_cases hba : b = a
  · subst hba
    rw [hup_eq] at hb
    cases hb
    exact ⟨k, List.getElem?_set_self hl⟩
  · rw [hup_ne hba] at hb
    obtain ⟨j, hj⟩ := hw b e hb
    have hjk : j ≠ k := by
      intro z
      subst z
      rw [hk] at hj
      cases hj
      exact hba rfl
    exact ⟨j, by rw [List.getElem?_set_ne (Ne.symm hjk)]; exact hj⟩
/-- .. and behind a new cell -/
theorem cw_push {Y : YG} {h : AH} {H1 : Heap} {ws : va_W} {a : Nat} {e1 : va_E} (hw : ∀ (a : Nat) (e : va_E), h a = some e → ∃ k : Nat, ws[k]? = some (a, e)) (hP : va_P Y.D vwCl (ws ++ [(a, e1)]) H1) (hD : va_D Y.A (ws ++ [(a, e1)])) : h a = none ∧ cw Y (hup h a e1) H1 := by
  have hlast : (ws ++ [(a, e1)])[ws.length]? = some (a, e1) := by
    rw [List.getElem?_append_right (Nat.le_refl _), Nat.sub_self]
    rfl
  have hn : h a = none := by
    cases hz : h a with
    | none => rfl
    | some e =>
      obtain ⟨k, hk⟩ := hw a e hz
      have hl := (List.getElem?_eq_some_iff.mp hk).1
      have h2 : (ws ++ [(a, e1)])[k]? = some (a, e) := by
        rw [List.getElem?_append_left hl]
        exact hk
      have := hD.1 k ws.length _ _ h2 hlast rfl
      omega
  refine ⟨hn, _, hP, hD, fun b e hb => ?_⟩
  by_cases hba : b = a
  · subst hba
    rw [hup_eq] at hb
    cases hb
    exact ⟨_, hlast⟩
  · rw [hup_ne hba] at hb
    obtain ⟨j, hj⟩ := hw b e hb
    exact ⟨j, by rw [List.getElem?_append_left (List.getElem?_eq_some_iff.mp hj).1]; exact hj⟩
/-! ===== the locals by their places ===== -/
def lkill (a : Option Value) : Option Value := match a with
  | some w => if w.category = 2 then none else some w
  | none => none
def lset : List (Option Value) → Nat → Value → List (Option Value)
  | [], _, _ => []
  | _ :: r, 0, v => some v :: r
  | a :: r, 1, v => lkill a :: lset r 0 v
  | a :: r, n + 2, v => a :: lset r (n + 1) v
def lset2 : List (Option Value) → Nat → Value → List (Option Value)
  | [], _, _ => []
  | [_], 0, v => [some v]
  | _ :: _ :: r, 0, v => some v :: none :: r
  | a :: r, 1, v => lkill a :: lset2 r 0 v
  | a :: r, n + 2, v => a :: lset2 r (n + 1) v
theorem lkill_some {a : Option Value} {w : Value} (h : lkill a = some w) : a = some w ∧ ¬ w.category = 2 := by
  cases a with
  | none => cases h
  | some z =>
    simp only [lkill] at h
    split at h
    · cases h
    · cases h
      exact ⟨rfl, by assumption⟩
theorem lset_at : ∀ (lv : List (Option Value)) (i : Nat) (v : Value) (j : Nat) (w : Value), (lset lv i v)[j]? = some (some w) → (j = i ∧ w = v) ∨ (j ≠ i ∧ lv[j]? = some (some w) ∧ ¬ (j + 1 = i ∧ w.category = 2))
  | [], _, _, j, w, h => by simp [lset] at h
  | a :: r, 0, v, 0, w, h => by
    simp only [lset, List.getElem?_cons_zero] at h
    cases h
    exact Or.inl ⟨rfl, rfl⟩
  | a :: r, 0, v, j + 1, w, h => by
    simp only [lset, List.getElem?_cons_succ] at h
    exact Or.inr ⟨by omega, by rw [List.getElem?_cons_succ]; exact h, by omega⟩
  | a :: r, 1, v, 0, w, h => by
    simp only [lset, List.getElem?_cons_zero] at h
    obtain ⟨h1, h2⟩ := lkill_some (Option.some.inj h)
    exact Or.inr ⟨by omega, by rw [List.getElem?_cons_zero, h1], fun z => h2 z.2⟩
  | a :: r, 1, v, j + 1, w, h => by
    simp only [lset, List.getElem?_cons_succ] at h
    rcases lset_at r 0 v j w h with ⟨h1, h2⟩ | ⟨h1, h2, h3⟩
    · exact Or.inl ⟨by omega, h2⟩
    · exact Or.inr ⟨by omega, by rw [List.getElem?_cons_succ]; exact h2, by omega⟩
  | a :: r, n + 2, v, 0, w, h => by
    simp only [lset, List.getElem?_cons_zero] at h
    exact Or.inr ⟨by omega, by rw [List.getElem?_cons_zero, h], by omega⟩
  | a :: r, n + 2, v, j + 1, w, h => by
    simp only [lset, List.getElem?_cons_succ] at h
    rcases lset_at r (n + 1) v j w h with ⟨h1, h2⟩ | ⟨h1, h2, h3⟩
    · exact Or.inl ⟨by omega, h2⟩
    · exact Or.inr ⟨by omega, by rw [List.getElem?_cons_succ]; exact h2, fun z => h3 ⟨by omega, z.2⟩⟩
theorem lset2_at : ∀ (lv : List (Option Value)) (i : Nat) (v : Value) (j : Nat) (w : Value), (lset2 lv i v)[j]? = some (some w) → (j = i ∧ w = v) ∨ (j ≠ i ∧ j ≠ i + 1 ∧ lv[j]? = some (some w) ∧ ¬ (j + 1 = i ∧ w.category = 2))
  | [], _, _, j, w, h => by simp [lset2] at h
  | [a], 0, v, 0, w, h => by
    simp only [lset2, List.getElem?_cons_zero] at h
    cases h
    exact Or.inl ⟨rfl, rfl⟩
  | [a], 0, v, j + 1, w, h => by simp [lset2] at h
  | a :: b :: r, 0, v, 0, w, h => by
    simp only [lset2, List.getElem?_cons_zero] at h
    cases h
    exact Or.inl ⟨rfl, rfl⟩
  | a :: b :: r, 0, v, 1, w, h => by simp [lset2] at h
  | a :: b :: r, 0, v, j + 2, w, h => by
    simp only [lset2, List.getElem?_cons_succ] at h
    exact Or.inr ⟨by omega, by omega, by simp only [List.getElem?_cons_succ]; exact h, by omega⟩
  | a :: r, 1, v, 0, w, h => by
    simp only [lset2, List.getElem?_cons_zero] at h
    obtain ⟨h1, h2⟩ := lkill_some (Option.some.inj h)
    exact Or.inr ⟨by omega, by omega, by rw [List.getElem?_cons_zero, h1], fun z => h2 z.2⟩
  | a :: r, 1, v, j + 1, w, h => by
    simp only [lset2, List.getElem?_cons_succ] at h
    rcases lset2_at r 0 v j w h with ⟨h1, h2⟩ | ⟨h0, h1, h2, h3⟩
    · exact Or.inl ⟨by omega, h2⟩
    · exact Or.inr ⟨by omega, by omega, by rw [List.getElem?_cons_succ]; exact h2, by omega⟩
  | a :: r, n + 2, v, 0, w, h => by
    simp only [lset2, List.getElem?_cons_zero] at h
    exact Or.inr ⟨by omega, by omega, by rw [List.getElem?_cons_zero, h], by omega⟩
  | a :: r, n + 2, v, j + 1, w, h => by
    simp only [lset2, List.getElem?_cons_succ] at h
    rcases lset2_at r (n + 1) v j w h with ⟨h1, h2⟩ | ⟨h0, h1, h2, h3⟩
    · exact Or.inl ⟨by omega, h2⟩
    · exact Or.inr ⟨by omega, by omega, by rw [List.getElem?_cons_succ]; exact h2, fun z => h3 ⟨by omega, z.2⟩⟩
def lpr : Nat → List (Option Value) → List (Nat × Value)
  | _, [] => []
  | n, some v :: r => (n, v) :: lpr (n + 1) r
  | n, none :: r => lpr (n + 1) r
theorem lpr_of : ∀ (lv : List (Option Value)) (n j : Nat) (w : Value), (j, w) ∈ lpr n lv → ∃ i, j = n + i ∧ lv[i]? = some (some w)
  | [], _, _, _, h => by simp [lpr] at h
  | some v :: r, n, j, w, h => by
    simp only [lpr, List.mem_cons] at h
    rcases h with h | h
    · cases h
      exact ⟨0, rfl, rfl⟩
    · obtain ⟨i, h1, h2⟩ := lpr_of r (n + 1) j w h
      exact ⟨i + 1, by omega, by rw [List.getElem?_cons_succ]; exact h2⟩
  | none :: r, n, j, w, h => by
    simp only [lpr] at h
    obtain ⟨i, h1, h2⟩ := lpr_of r (n + 1) j w h
    exact ⟨i + 1, by omega, by rw [List.getElem?_cons_succ]; exact h2⟩
theorem lpr_in : ∀ (lv : List (Option Value)) (n i : Nat) (w : Value), lv[i]? = some (some w) → (n + i, w) ∈ lpr n lv
  | [], _, _, _, h => by simp at h
  | some v :: r, n, 0, w, h => by
    simp only [List.getElem?_cons_zero] at h
    cases h
    exact List.mem_cons_self
  | some v :: r, n, i + 1, w, h => by
    rw [List.getElem?_cons_succ] at h
    have := lpr_in r (n + 1) i w h
    rw [show n + 1 + i = n + (i + 1) by omega] at this
    exact List.mem_cons_of_mem _ this
  | none :: r, n, 0, w, h => by simp at h
  | none :: r, n, i + 1, w, h => by
    rw [List.getElem?_cons_succ] at h
    have := lpr_in r (n + 1) i w h
    rw [show n + 1 + i = n + (i + 1) by omega] at this
    exact this
def lh (ls : Array Slot) (nL : Nat) (lv : List (Option Value)) : Prop := lv_has ls nL (lpr 0 lv)
theorem lh.at {ls : Array Slot} {nL : Nat} {lv : List (Option Value)} (h : lh ls nL lv) {i : Nat} {v : Value} (hv : lv[i]? = some (some v)) : ls[i]? = some (.val v) := by
  have := lpr_in lv 0 i v hv
  rw [Nat.zero_add] at this
  exact h.2.2 (i, v) this
theorem lh.of {ls : Array Slot} {nL : Nat} {lv : List (Option Value)} (h1 : ls.size = nL) (h2 : lv_wf ls) (h3 : ∀ (i : Nat) (v : Value), lv[i]? = some (some v) → ls[i]? = some (.val v)) : lh ls nL lv := by
  refine ⟨h1, h2, fun q hq => ?_⟩
  obtain ⟨i, e1, e2⟩ := lpr_of lv 0 q.1 q.2 hq
  rw [Nat.zero_add] at e1
  rw [e1]
  exact h3 i q.2 e2
theorem lh.set {ls : Array Slot} {nL i : Nat} {v : Value} {lv : List (Option Value)} (h : lv_has ls nL ((i, v) :: (lpr 0 lv).filter (fun q => !(q.1 == i) && !(q.1 + 1 == i && q.2.category == 2)))) : lh ls nL (lset lv i v) := by
  refine lh.of h.1 h.2.1 (fun j w hj => ?_)
  rcases lset_at lv i v j w hj with ⟨h1, h2⟩ | ⟨h1, h2, h3⟩
  · subst h1; subst h2
    exact h.2.2 _ List.mem_cons_self
  · refine h.2.2 (j, w) (List.mem_cons_of_mem _ (List.mem_filter.mpr ⟨?_, ?_⟩))
    · have := lpr_in lv 0 j w h2
      rw [Nat.zero_add] at this
      exact this
    · have e1 : (j == i) = false := by simpa using h1
      have e2 : (j + 1 == i && w.category == 2) = false := by
        cases hz : (j + 1 == i && w.category == 2) with
        | false => rfl
        | true =>
          simp only [Bool.and_eq_true, beq_iff_eq] at hz
          exact absurd hz h3
      simp only [e1, e2]
      rfl
theorem lh.set2 {ls : Array Slot} {nL i : Nat} {v : Value} {lv : List (Option Value)} (h : lv_has ls nL ((i, v) :: (lpr 0 lv).filter (fun q => !(q.1 == i) && (!(q.1 == i + 1) && !(q.1 + 1 == i && q.2.category == 2))))) : lh ls nL (lset2 lv i v) := by
  refine lh.of h.1 h.2.1 (fun j w hj => ?_)
  rcases lset2_at lv i v j w hj with ⟨h1, h2⟩ | ⟨h1, h0, h2, h3⟩
  · subst h1; subst h2
    exact h.2.2 _ List.mem_cons_self
  · refine h.2.2 (j, w) (List.mem_cons_of_mem _ (List.mem_filter.mpr ⟨?_, ?_⟩))
    · have := lpr_in lv 0 j w h2
      rw [Nat.zero_add] at this
      exact this
    · have e1 : (j == i) = false := by simpa using h1
      have e0 : (j == i + 1) = false := by simpa using h0
      have e2 : (j + 1 == i && w.category == 2) = false := by
        cases hz : (j + 1 == i && w.category == 2) with
        | false => rfl
        | true =>
          simp only [Bool.and_eq_true, beq_iff_eq] at hz
          exact absurd hz h3
      simp only [e1, e0, e2]
      rfl
/-- the entry's locals, from the arguments -/
def lent : List Value → Nat → List (Option Value)
  | [], n => List.replicate n none
  | v :: r, n => if v.category = 2 then some v :: none :: lent r (n - 2) else some v :: lent r (n - 1)
theorem lent_args : ∀ (vs : List Value) (n q i : Nat) (v : Value), (lent vs n)[i]? = some (some v) → (q + i, v) ∈ lv_args q vs
  | [], n, q, i, v, h => by
    simp only [lent, List.getElem?_replicate] at h
    split at h
    · cases h
    · cases h
  | w :: r, n, q, i, v, h => by
    rcases lv_cat w with hc | hc
    · have e : (lent (w :: r) n) = some w :: lent r (n - 1) := by rw [lent, if_neg (by omega)]
      rw [e] at h
      cases i with
      | zero =>
        rw [List.getElem?_cons_zero] at h
        cases h
        simp [lv_args]
      | succ i =>
        rw [List.getElem?_cons_succ] at h
        have := lent_args r (n - 1) (q + 1) i v h
        rw [show q + 1 + i = q + (i + 1) by omega] at this
        simp only [lv_args, hc, List.mem_cons]
        exact Or.inr (by simpa using this)
    · have e : (lent (w :: r) n) = some w :: none :: lent r (n - 2) := by rw [lent, if_pos hc]
      rw [e] at h
      match i, h with
      | 0, h =>
        rw [List.getElem?_cons_zero] at h
        cases h
        simp [lv_args]
      | 1, h => simp at h
      | i + 2, h =>
        rw [List.getElem?_cons_succ, List.getElem?_cons_succ] at h
        have := lent_args r (n - 2) (q + 2) i v h
        rw [show q + 2 + i = q + (i + 2) by omega] at this
        simp only [lv_args, hc, List.mem_cons]
        exact Or.inr (by simpa using this)
theorem lh.entry (vs : List Value) {n : Nat} (h : (lg_sl vs).length ≤ n) : lh ((lg_sl vs ++ List.replicate (n - (lg_sl vs).length) Slot.unset).toArray) n (lent vs n) := by
  have e := lv_entry vs h
  refine lh.of e.1 e.2.1 (fun i v hi => ?_)
  have := lent_args vs n 0 i v hi
  rw [Nat.zero_add] at this
  exact e.2.2 (i, v) this
def isR : Value → Bool
  | .ref _ => true
  | .null => true
  | _ => false
theorem isR_rf (r : Option Nat) : isR (va_rf r) = true := by cases r <;> rfl
theorem isR_or {v : Value} (h : isR v = true) : v = .null ∨ ∃ a, v = .ref a := by
  cases v <;> first | exact Or.inl rfl | exact Or.inr ⟨_, rfl⟩ | cases h
theorem isR_ex {v : Value} (h : isR v = true) : ∃ r : Option Nat, v = va_rf r := by
  rcases isR_or h with rfl | ⟨a, rfl⟩
  · exact ⟨none, rfl⟩
  · exact ⟨some a, rfl⟩
