abbrev szM (k : Nat) : Nat := if k = 5 then 1020 else if k = 6 then 17 else 60
abbrev mC (g : Sg) (ar : Nat → Nat) (th : Int32) : va_E := .inr (4, [.int th, .int (nI g.np), .int (nI g.n), .int (nI g.now), .ref (ar 0), .ref (ar 1), .ref (ar 2), .ref (ar 3), .ref (ar 4), .ref (ar 5), .ref (ar 6)])
/-- a piece as the model writes it -/
def pq (g : Sg) (i q : Nat) : Nat := g.pos i q + if (g.lb i).testBit q then 100 else 0
/-- what the rows hold -/
def RwM (g : Sg) (f : Nat → Nat → Int32) : Prop := (∀ i, i < g.n → f 0 i = nO (parO g i)) ∧ (∀ i, i < g.n → f 1 i = g.kd i) ∧ (∀ i, i < g.n → f 2 i = g.nm i) ∧ (∀ i, i < g.n → f 3 i = nI (g.dp i)) ∧ (∀ i, i < g.n → f 4 i = nO (g.last i)) ∧ (∀ i, i < g.n → f 5 (17 * i + 0) = nI (g.ct i)) ∧ (∀ i q, i < g.n → q < g.np → f 5 (17 * i + (1 + q)) = nI (pq g i q))
/-- the rows are there, each another -/
def ArM (Y : YG) (ar : Nat → Nat) (f : Nat → Nat → Int32) (h : AH) : Prop := (∀ k, k < 7 → h (ar k) = some (aI Y (szM k) (f k))) ∧ (∀ i j, i < 7 → j < 7 → ar i = ar j → i = j)
def RepM (Y : YG) (x : Nat) (th : Int32) (ar : Nat → Nat) (f : Nat → Nat → Int32) (g : Sg) (h : AH) : Prop := h x = some (mC g ar th) ∧ ArM Y ar f h ∧ RwM g f
section RM
variable {Y : YG} {xx : Nat} {t0 : Int32} {ar : Nat → Nat} {f : Nat → Nat → Int32} {g : Sg} {h : AH}
theorem RepM.x (r : RepM Y xx t0 ar f g h) : h xx = some (mC g ar t0) := r.1
theorem RepM.a0 (r : RepM Y xx t0 ar f g h) : h (ar 0) = some (aI Y 60 (f 0)) := r.2.1.1 0 (by decide)
theorem RepM.a1 (r : RepM Y xx t0 ar f g h) : h (ar 1) = some (aI Y 60 (f 1)) := r.2.1.1 1 (by decide)
theorem RepM.a2 (r : RepM Y xx t0 ar f g h) : h (ar 2) = some (aI Y 60 (f 2)) := r.2.1.1 2 (by decide)
theorem RepM.a3 (r : RepM Y xx t0 ar f g h) : h (ar 3) = some (aI Y 60 (f 3)) := r.2.1.1 3 (by decide)
theorem RepM.a4 (r : RepM Y xx t0 ar f g h) : h (ar 4) = some (aI Y 60 (f 4)) := r.2.1.1 4 (by decide)
theorem RepM.a5 (r : RepM Y xx t0 ar f g h) : h (ar 5) = some (aI Y 1020 (f 5)) := r.2.1.1 5 (by decide)
theorem RepM.a6 (r : RepM Y xx t0 ar f g h) : h (ar 6) = some (aI Y 17 (f 6)) := r.2.1.1 6 (by decide)
theorem RepM.rw (r : RepM Y xx t0 ar f g h) : RwM g f := r.2.2
theorem RwM.on (r : RwM g f) {i : Nat} (hi : i < g.n) : f 0 i = nO (parO g i) := r.1 i hi
theorem RwM.kd (r : RwM g f) {i : Nat} (hi : i < g.n) : f 1 i = g.kd i := r.2.1 i hi
theorem RwM.nm (r : RwM g f) {i : Nat} (hi : i < g.n) : f 2 i = g.nm i := r.2.2.1 i hi
theorem RwM.dp (r : RwM g f) {i : Nat} (hi : i < g.n) : f 3 i = nI (g.dp i) := r.2.2.2.1 i hi
theorem RwM.ls (r : RwM g f) {i : Nat} (hi : i < g.n) : f 4 i = nO (g.last i) := r.2.2.2.2.1 i hi
theorem RwM.ct (r : RwM g f) {i : Nat} (hi : i < g.n) : f 5 (17 * i + 0) = nI (g.ct i) := r.2.2.2.2.2.1 i hi
theorem RwM.pc (r : RwM g f) {i q : Nat} (hi : i < g.n) (hq : q < g.np) : f 5 (17 * i + (1 + q)) = nI (pq g i q) := r.2.2.2.2.2.2 i q hi hq
theorem ArM.up (r : ArM Y ar f h) (hx : ∃ fs, h xx = some (.inr (4, fs))) (e : va_E) : ArM Y ar f (hup h xx e) := ⟨fun k hk => (hup_ne (by obtain ⟨fs, hfs⟩ := hx; exact ne_of (r.1 k hk) hfs (fun z => by cases z))).trans (r.1 k hk), r.2⟩
theorem RepM.xs (r : RepM Y xx t0 ar f g h) : ∃ fs, h xx = some (.inr (4, fs)) := ⟨_, r.x⟩
theorem RepM.th (r : RepM Y xx t0 ar f g h) (t2 : Int32) : RepM Y xx t2 ar f g (hup h xx (mC g ar t2)) := ⟨hup_eq, r.2.1.up r.xs _, r.2.2⟩
theorem ArM.ext (r : ArM Y ar f h) {h2 : AH} (he : Ext h h2) : ArM Y ar f h2 := ⟨fun k hk => he _ _ (r.1 k hk), r.2⟩
theorem RepM.ext (r : RepM Y xx t0 ar f g h) {h2 : AH} (he : Ext h h2) : RepM Y xx t0 ar f g h2 := ⟨he _ _ r.1, r.2.1.ext he, r.2.2⟩
/-- one row changed -/
def fU (f : Nat → Nat → Int32) (k : Nat) (v : Nat → Int32) : Nat → Nat → Int32 := fun j => if j = k then v else f j
theorem ArM.row (r : ArM Y ar f h) {k : Nat} (hk : k < 7) (v : Nat → Int32) {N : Nat} (hN : N = szM k) : ArM Y ar (fU f k v) (hup h (ar k) (aI Y N v)) := by
  subst hN
  refine ⟨fun j hj => ?_, r.2⟩
  unfold fU
  by_cases hjk : j = k
  · rw [hjk, hup_eq, if_pos rfl]
  · rw [hup_ne (fun z => hjk (r.2 j k hj hk z)), if_neg hjk]
    exact r.1 j hj
end RM
/-- what the model leaves as it is: all but its object and its rows -/
def FrM (x : Nat) (ar : Nat → Nat) (h h2 : AH) : Prop := ∀ a e, h a = some e → a ≠ x → (∀ k, k < 7 → a ≠ ar k) → h2 a = some e
theorem FrM.rf {x : Nat} {ar : Nat → Nat} {h : AH} : FrM x ar h h := fun _ _ z _ _ => z
theorem FrM.tr {x : Nat} {ar : Nat → Nat} {h h2 h3 : AH} (a : FrM x ar h h2) (b : FrM x ar h2 h3) : FrM x ar h h3 := fun q e z h1 h2 => b q e (a q e z h1 h2) h1 h2
theorem FrM.x {x : Nat} {ar : Nat → Nat} {h : AH} {e : va_E} : FrM x ar h (hup h x e) := fun _ _ z h1 _ => (hup_ne h1).trans z
theorem FrM.row {x : Nat} {ar : Nat → Nat} {h : AH} {e : va_E} {k : Nat} (hk : k < 7) : FrM x ar h (hup h (ar k) e) := fun _ _ z _ h2 => (hup_ne (h2 k hk)).trans z
theorem FrM.ext {x : Nat} {ar : Nat → Nat} {h h2 : AH} (he : Ext h h2) : FrM x ar h h2 := fun q e z _ _ => he q e z
/-! numbers -/
def inB (v a b : Int32) : Bool := decide (a ≤ v) && decide (v ≤ b)
theorem in_has {n : Nat} {v : Int32} (hn : n ≤ 1000) : inB v (nI 0) (nI n - nI 1) = hasP n v := by
  unfold inB hasP
  have e0 : nI 0 = 0 := rfl
  rw [e0]
  by_cases h0 : (0 : Int32) ≤ v
  · rw [decide_eq_true h0, Bool.true_and, Bool.true_and]
    obtain ⟨j, hj, rfl⟩ := nI_of (x := v) (Int32.not_lt.mpr h0)
    refine decide_eq_decide.mpr ?_
    rcases Nat.eq_zero_or_pos n with q | q
    · subst q
      constructor
      · intro z
        have z2 := Int32.le_iff_toInt_le.mp z
        rw [nI_toInt hj, show (nI 0 - nI 1).toInt = -1 by decide] at z2
        omega
      · intro z
        have := (nI_ltI hj (by decide)).mp z
        omega
    · rw [pk_sub (by omega), nI_leI hj (by omega), nI_ltI hj (by omega)]
      omega
  · rw [decide_eq_false h0, Bool.false_and, Bool.false_and]
theorem in_8 (v : Int32) : inB v (nI 0) (nI 7) = in8 v := by
  unfold inB in8
  have e0 : nI 0 = 0 := rfl
  rw [e0]
  by_cases h0 : v < 0
  · rw [if_pos h0, decide_eq_false (Int32.not_le.mpr h0), Bool.false_and]
  · rw [if_neg h0, decide_eq_true (Int32.not_lt.mp h0), Bool.true_and]
    obtain ⟨j, hj, rfl⟩ := nI_of h0
    by_cases h1 : nI 8 ≤ nI j
    · have := (nI_leI (by decide) hj).mp h1
      rw [if_pos h1, decide_eq_false (fun z => by have := (nI_leI hj (by decide)).mp z; omega)]
    · rw [if_neg h1, decide_eq_true ((nI_leI hj (by decide)).mpr (by
        rcases Nat.lt_or_ge j 8 with q | q
        · omega
        · exact absurd ((nI_leI (by decide) hj).mpr q) h1))]
theorem in_16 (v : Int32) : inB v (nI 0) (nI 15) = in16 v := by
  unfold inB in16
  have e0 : nI 0 = 0 := rfl
  rw [e0]
  by_cases h0 : v < 0
  · rw [if_pos h0, decide_eq_false (Int32.not_le.mpr h0), Bool.false_and]
  · rw [if_neg h0, decide_eq_true (Int32.not_lt.mp h0), Bool.true_and]
    obtain ⟨j, hj, rfl⟩ := nI_of h0
    by_cases h1 : nI 16 ≤ nI j
    · have := (nI_leI (by decide) hj).mp h1
      rw [if_pos h1, decide_eq_false (fun z => by have := (nI_leI hj (by decide)).mp z; omega)]
    · rw [if_neg h1, decide_eq_true ((nI_leI hj (by decide)).mpr (by
        rcases Nat.lt_or_ge j 16 with q | q
        · omega
        · exact absurd ((nI_leI (by decide) hj).mpr q) h1))]
theorem onB_in (c r : Int32) : onB c r = (in8 c && in8 r) := by
  unfold onB in8
  by_cases h1 : c < 0
  · simp [h1]
  · by_cases h2 : nI 8 ≤ c
    · simp [h1, h2]
    · simp [h1, h2]
theorem in_kinds (k : Int32) : inB k (nI 0) (nI 3) = decide (k = nI 0 ∨ k = nI 1 ∨ k = nI 2 ∨ k = nI 3) := by
  by_cases h : k = nI 0 ∨ k = nI 1 ∨ k = nI 2 ∨ k = nI 3
  · rw [decide_eq_true h]
    rcases h with rfl | rfl | rfl | rfl <;> decide
  · rw [decide_eq_false h]
    simp only [not_or] at h
    have := k4_out h.1 h.2.1 h.2.2.1 h.2.2.2
    unfold inB
    rcases this with q | q
    · rw [decide_eq_false (fun z => by have := Int32.le_iff_toInt_le.mp z; rw [show (nI 0).toInt = 0 by decide] at this; omega), Bool.false_and]
    · rw [decide_eq_false (fun z : k ≤ nI 3 => by have := Int32.le_iff_toInt_le.mp z; rw [show (nI 3).toInt = 3 by decide] at this; omega), Bool.and_false]
theorem isp_in (k n : Int32) : ispB k n = (inB k (nI 0) (nI 3) && inB n (nI 0) (if k = nI 0 ∨ k = nI 3 then nI 7 else nI 15)) := by
  rw [in_kinds]
  unfold ispB
  by_cases h : k = nI 0 ∨ k = nI 3
  · rw [if_pos h, if_pos h, in_8, decide_eq_true (h.elim Or.inl (fun z => Or.inr (Or.inr (Or.inr z)))), Bool.true_and]
  · rw [if_neg h, if_neg h, in_16]
    by_cases h2 : k = nI 1 ∨ k = nI 2
    · rw [if_pos h2, decide_eq_true (h2.elim (fun z => Or.inr (Or.inl z)) (fun z => Or.inr (Or.inr (Or.inl z)))), Bool.true_and]
    · rw [if_neg h2, decide_eq_false (fun z => by
        rcases z with z | z | z | z
        · exact h (Or.inl z)
        · exact h2 (Or.inl z)
        · exact h2 (Or.inr z)
        · exact h (Or.inr z)), Bool.false_and]
theorem far_ok2 : ∀ p, p < 64 → ∀ d, d < 8 → (if (in8 (nI (p / 8) + colS d) && in8 (nI (p % 8) + colS ((d + 2) % 8))) = true then nI 8 * (nI (p / 8) + colS d) + (nI (p % 8) + colS ((d + 2) % 8)) else -1) = nO (fa p d) := by decide +kernel
theorem besM : ∀ a, a < 8 → ∀ b, b < 8 → ((nI 2 ≤ (if 0 ≤ nI a - nI b then nI a - nI b else 0 - (nI a - nI b))) ↔ ¬ (a ≤ b + 1 ∧ b ≤ a + 1)) := by decide +kernel
set_option maxRecDepth 100000 in
set_option maxHeartbeats 4000000 in
theorem K_X3_thrown (l : Launch) (Y : YG) {x : Nat} {th : Int32} {ar : Nat → Nat} {f : Nat → Nat → Int32} {g : Sg} {h : AH} (r : RepM Y x th ar f g h) : MX l Y yX3_thrown cX3_thrown 1 (some .int) 0 0 0 0 [.ref x] h (pS (some (.int th)) h) (noX) := by
  refine MX.of (by decide +kernel) (Nat.le_of_ble_eq_true rfl) ?_
  intro p e s m args0 below meth c C hr hout hnm
  refine g_aload_n C dX3_thrown_0 rfl (by first | rfl | exact isR_rf _) ?_
  refine gf_X3_35 C (r.x) rfl dX3_thrown_1 ?_
  exact g_iret C hr dX3_thrown_4 (Nat.le_of_ble_eq_true rfl) (Nat.le_of_ble_eq_true rfl) (⟨rfl, rfl⟩)
set_option maxRecDepth 100000 in
set_option maxHeartbeats 4000000 in
theorem K_X3_no (l : Launch) (Y : YG) {x : Nat} {th : Int32} {ar : Nat → Nat} {f : Nat → Nat → Int32} {g : Sg} {h : AH} (r : RepM Y x th ar f g h) (t2 : Int32) : MX l Y yX3_no cX3_no 2 (some .int) 0 0 0 0 [.ref x, .int t2] h (pS (some (.int (nI 0))) (hup h x (mC g ar t2))) (noX) := by
  refine MX.of (by decide +kernel) (Nat.le_of_ble_eq_true rfl) ?_
  intro p e s m args0 below meth c C hr hout hnm
  refine g_aload_n C dX3_no_0 rfl (by first | rfl | exact isR_rf _) ?_
  refine g_iload_n C dX3_no_1 rfl ?_
  refine pf_X3_35 C (r.x) (Nat.le_of_ble_eq_true rfl) dX3_no_2 ?_
  refine g_iconst C (v := nI 0) dX3_no_5 (by decide) ?_
  exact g_iret C hr dX3_no_6 (Nat.le_of_ble_eq_true rfl) (Nat.le_of_ble_eq_true rfl) (⟨rfl, rfl⟩)
set_option maxRecDepth 100000 in
set_option maxHeartbeats 4000000 in
theorem K_X3_isNot (l : Launch) (Y : YG) {x : Nat} {th : Int32} {ar : Nat → Nat} {f : Nat → Nat → Int32} {g : Sg} {h : AH} (r : RepM Y x th ar f g h) (t2 : Int32) : MX l Y yX3_isNot cX3_isNot 2 (some .boolean) 0 0 0 0 [.ref x, .int t2] h (pS (some (.int (nI 0))) (hup h x (mC g ar t2))) (noX) := by
  refine MX.of (by decide +kernel) (Nat.le_of_ble_eq_true rfl) ?_
  intro p e s m args0 below meth c C hr hout hnm
  refine g_aload_n C dX3_isNot_0 rfl (by first | rfl | exact isR_rf _) ?_
  refine g_iload_n C dX3_isNot_1 rfl ?_
  refine pf_X3_35 C (r.x) (Nat.le_of_ble_eq_true rfl) dX3_isNot_2 ?_
  refine g_iconst C (v := nI 0) dX3_isNot_5 (by decide) ?_
  exact g_zret C hr (by first | exact Or.inl rfl | exact Or.inr rfl) dX3_isNot_6 (Nat.le_of_ble_eq_true rfl) (Nat.le_of_ble_eq_true rfl) (⟨rfl, rfl⟩)
set_option maxRecDepth 100000 in
set_option maxHeartbeats 4000000 in
theorem K_X3_ok (l : Launch) (Y : YG) {x : Nat} {th : Int32} {ar : Nat → Nat} {f : Nat → Nat → Int32} {g : Sg} {h : AH} (r : RepM Y x th ar f g h) (w : Int32) : MX l Y yX3_ok cX3_ok 2 (some .int) 0 0 0 0 [.ref x, .int w] h (pS (some (.int w)) (hup h x (mC g ar (nI 0)))) (noX) := by
  refine MX.of (by decide +kernel) (Nat.le_of_ble_eq_true rfl) ?_
  intro p e s m args0 below meth c C hr hout hnm
  refine g_aload_n C dX3_ok_0 rfl (by first | rfl | exact isR_rf _) ?_
  refine g_iconst C (v := nI 0) dX3_ok_1 (by decide) ?_
  refine pf_X3_35 C (r.x) (Nat.le_of_ble_eq_true rfl) dX3_ok_2 ?_
  refine g_iload_n C dX3_ok_5 rfl ?_
  exact g_iret C hr dX3_ok_6 (Nat.le_of_ble_eq_true rfl) (Nat.le_of_ble_eq_true rfl) (⟨rfl, rfl⟩)
set_option maxRecDepth 100000 in
set_option maxHeartbeats 4000000 in
theorem K_X3_isIn (l : Launch) (Y : YG) {h : AH} (v a b : Int32) : MX l Y yX3_isIn cX3_isIn 3 (some .boolean) 0 0 0 0 [.int v, .int a, .int b] h (pS (some (bI (inB v a b))) h) (noX) := by
  refine MX.of (by decide +kernel) (Nat.le_of_ble_eq_true rfl) ?_
  intro p e s m args0 below meth c C hr hout hnm
  refine g_iload_n C dX3_isIn_0 rfl ?_
  refine g_iload_n C dX3_isIn_1 rfl ?_
  refine g_icmp_lt C (tgt := 14) dX3_isIn_2 (by decide) (fun q1 => ?_) (fun q1 => ?_)
  · refine g_iconst C (v := nI 0) dX3_isIn_14 (by decide) ?_
    exact g_zret C hr (by first | exact Or.inl rfl | exact Or.inr rfl) dX3_isIn_15 (Nat.le_of_ble_eq_true rfl) (Nat.le_of_ble_eq_true rfl) (⟨by unfold inB; rw [decide_eq_false (Int32.not_le.mpr q1), Bool.false_and]; rfl, rfl⟩)
  · refine g_iload_n C dX3_isIn_5 rfl ?_
    refine g_iload_n C dX3_isIn_6 rfl ?_
    refine g_icmp_gt C (tgt := 14) dX3_isIn_7 (by decide) (fun q2 => ?_) (fun q2 => ?_)
    · refine g_iconst C (v := nI 0) dX3_isIn_14 (by decide) ?_
      exact g_zret C hr (by first | exact Or.inl rfl | exact Or.inr rfl) dX3_isIn_15 (Nat.le_of_ble_eq_true rfl) (Nat.le_of_ble_eq_true rfl) (⟨by unfold inB; rw [decide_eq_false (Int32.not_le.mpr q2), Bool.and_false]; rfl, rfl⟩)
    · refine g_iconst C (v := nI 1) dX3_isIn_10 (by decide) ?_
      refine g_goto C (tgt := 15) dX3_isIn_11 (by decide) ?_
      exact g_zret C hr (by first | exact Or.inl rfl | exact Or.inr rfl) dX3_isIn_15 (Nat.le_of_ble_eq_true rfl) (Nat.le_of_ble_eq_true rfl) (⟨by unfold inB; rw [decide_eq_true (Int32.not_lt.mp q1), decide_eq_true (Int32.not_lt.mp q2)]; rfl, rfl⟩)
set_option maxRecDepth 100000 in
set_option maxHeartbeats 4000000 in
theorem K_X3_isEvening (l : Launch) (Y : YG) {x : Nat} {th : Int32} {ar : Nat → Nat} {f : Nat → Nat → Int32} {g : Sg} {h : AH} (r : RepM Y x th ar f g h) (iv : Inv g) (i : Int32) : MX l Y yX3_isEvening cX3_isEvening 2 (some .boolean) 1 22 0 0 [.ref x, .int i] h (pS (some (bI (hasP g.n i))) h) (noX) := by
  have hn60 := iv.n60
  have hnp16 := iv.np
  have hnow := iv.now
  have hn1 := iv.n1
  refine MX.of (by decide +kernel) (Nat.le_of_ble_eq_true rfl) ?_
  intro p e s m args0 below meth c C hr hout hnm
  refine g_iload_n C dX3_isEvening_0 rfl ?_
  refine g_iconst C (v := nI 0) dX3_isEvening_1 (by decide) ?_
  refine g_aload_n C dX3_isEvening_2 rfl (by first | rfl | exact isR_rf _) ?_
  refine gf_X3_9 C (r.x) rfl dX3_isEvening_3 ?_
  refine g_iconst C (v := nI 1) dX3_isEvening_6 (by decide) ?_
  refine g_isub C dX3_isEvening_7 ?_
  refine g_callS C ((K_X3_isIn l Y _ _ _).K) ok_X3_isIn w715 rfl rfl dX3_isEvening_8 (Nat.le_of_ble_eq_true rfl) (Nat.le_of_ble_eq_true rfl) (Nat.le_of_ble_eq_true rfl) (Nat.le_of_ble_eq_true rfl) (Nat.le_of_ble_eq_true rfl) (ofS ?_)
  rw [in_has (by omega)]
  exact g_zret C hr (by cases hasP g.n i <;> first | exact Or.inl rfl | exact Or.inr rfl) dX3_isEvening_11 (Nat.le_of_ble_eq_true rfl) (Nat.le_of_ble_eq_true rfl) (⟨rfl, rfl⟩)
set_option maxRecDepth 100000 in
set_option maxHeartbeats 4000000 in
theorem K_X3_isPiece (l : Launch) (Y : YG) {x : Nat} {th : Int32} {ar : Nat → Nat} {f : Nat → Nat → Int32} {g : Sg} {h : AH} (r : RepM Y x th ar f g h) (iv : Inv g) (i : Int32) : MX l Y yX3_isPiece cX3_isPiece 2 (some .boolean) 1 22 0 0 [.ref x, .int i] h (pS (some (bI (hasP g.np i))) h) (noX) := by
  have hn60 := iv.n60
  have hnp16 := iv.np
  have hnow := iv.now
  have hn1 := iv.n1
  refine MX.of (by decide +kernel) (Nat.le_of_ble_eq_true rfl) ?_
  intro p e s m args0 below meth c C hr hout hnm
  refine g_iload_n C dX3_isPiece_0 rfl ?_
  refine g_iconst C (v := nI 0) dX3_isPiece_1 (by decide) ?_
  refine g_aload_n C dX3_isPiece_2 rfl (by first | rfl | exact isR_rf _) ?_
  refine gf_X3_42 C (r.x) rfl dX3_isPiece_3 ?_
  refine g_iconst C (v := nI 1) dX3_isPiece_6 (by decide) ?_
  refine g_isub C dX3_isPiece_7 ?_
  refine g_callS C ((K_X3_isIn l Y _ _ _).K) ok_X3_isIn w715 rfl rfl dX3_isPiece_8 (Nat.le_of_ble_eq_true rfl) (Nat.le_of_ble_eq_true rfl) (Nat.le_of_ble_eq_true rfl) (Nat.le_of_ble_eq_true rfl) (Nat.le_of_ble_eq_true rfl) (ofS ?_)
  rw [in_has (by omega)]
  exact g_zret C hr (by cases hasP g.np i <;> first | exact Or.inl rfl | exact Or.inr rfl) dX3_isPiece_11 (Nat.le_of_ble_eq_true rfl) (Nat.le_of_ble_eq_true rfl) (⟨rfl, rfl⟩)
set_option maxRecDepth 100000 in
set_option maxHeartbeats 4000000 in
theorem K_X3_isOn (l : Launch) (Y : YG) {h : AH} (i : Int32) : MX l Y yX3_isOn cX3_isOn 1 (some .boolean) 1 22 0 0 [.int i] h (pS (some (bI (in8 i))) h) (noX) := by
  refine MX.of (by decide +kernel) (Nat.le_of_ble_eq_true rfl) ?_
  intro p e s m args0 below meth c C hr hout hnm
  refine g_iload_n C dX3_isOn_0 rfl ?_
  refine g_iconst C (v := nI 0) dX3_isOn_1 (by decide) ?_
  refine g_bipush C (v := nI 7) dX3_isOn_2 (by decide) ?_
  refine g_callS C ((K_X3_isIn l Y _ _ _).K) ok_X3_isIn w715 rfl rfl dX3_isOn_4 (Nat.le_of_ble_eq_true rfl) (Nat.le_of_ble_eq_true rfl) (Nat.le_of_ble_eq_true rfl) (Nat.le_of_ble_eq_true rfl) (Nat.le_of_ble_eq_true rfl) (ofS ?_)
  rw [in_8]
  exact g_zret C hr (by cases in8 i <;> first | exact Or.inl rfl | exact Or.inr rfl) dX3_isOn_7 (Nat.le_of_ble_eq_true rfl) (Nat.le_of_ble_eq_true rfl) (⟨rfl, rfl⟩)
set_option maxRecDepth 100000 in
set_option maxHeartbeats 4000000 in
theorem K_X3_isPaw (l : Launch) (Y : YG) {h : AH} (k0 n0 : Int32) : MX l Y yX3_isPaw cX3_isPaw 2 (some .boolean) 1 22 0 0 [.int k0, .int n0] h (pS (some (bI (ispB k0 n0))) h) (noX) := by
  refine MX.of (by decide +kernel) (Nat.le_of_ble_eq_true rfl) ?_
  intro p e s m args0 below meth c C hr hout hnm
  have tl : ∀ w : Int32, inB k0 (nI 0) (nI 3) = true → w = (if k0 = nI 0 ∨ k0 = nI 3 then nI 7 else nI 15) → Gd p l e (rmO 1 22 0 0) s m args0 below meth c (vx_MQ below (Qk Y (pS (some (bI (ispB k0 n0))) h)) (Xk Y (noX)) args0 s 0 0 Y.A) Y 2 27 [some (.int k0), some (.int n0)] [.int w, .int (nI 0), .int n0] h 0 0 := by
    intro w hk hw
    subst hw
    rw [isp_in, hk, Bool.true_and]
    generalize (if k0 = nI 0 ∨ k0 = nI 3 then nI 7 else nI 15) = w
    refine g_callS C ((K_X3_isIn l Y _ _ _).K) ok_X3_isIn w715 rfl rfl dX3_isPaw_27 (Nat.le_of_ble_eq_true rfl) (Nat.le_of_ble_eq_true rfl) (Nat.le_of_ble_eq_true rfl) (Nat.le_of_ble_eq_true rfl) (Nat.le_of_ble_eq_true rfl) (ofS ?_)
    cases ez : inB n0 (nI 0) w
    · refine g_if_eqB C (tgt := 37) dX3_isPaw_30 (by decide) (fun q => ?_) (fun q => absurd q (by decide))
      refine g_iconst C (v := nI 0) dX3_isPaw_37 (by decide) ?_
      exact g_zret C hr (Or.inl rfl) dX3_isPaw_38 (Nat.le_of_ble_eq_true rfl) (Nat.le_of_ble_eq_true rfl) ⟨rfl, rfl⟩
    · refine g_if_eqB C (tgt := 37) dX3_isPaw_30 (by decide) (fun q => absurd q (by decide)) (fun q => ?_)
      refine g_iconst C (v := nI 1) dX3_isPaw_33 (by decide) ?_
      refine g_goto C (tgt := 38) dX3_isPaw_34 (by decide) ?_
      exact g_zret C hr (Or.inr rfl) dX3_isPaw_38 (Nat.le_of_ble_eq_true rfl) (Nat.le_of_ble_eq_true rfl) ⟨rfl, rfl⟩
  refine g_iload_n C dX3_isPaw_0 rfl ?_
  refine g_iconst C (v := nI 0) dX3_isPaw_1 (by decide) ?_
  refine g_iconst C (v := nI 3) dX3_isPaw_2 (by decide) ?_
  refine g_callS C ((K_X3_isIn l Y _ _ _).K) ok_X3_isIn w715 rfl rfl dX3_isPaw_3 (Nat.le_of_ble_eq_true rfl) (Nat.le_of_ble_eq_true rfl) (Nat.le_of_ble_eq_true rfl) (Nat.le_of_ble_eq_true rfl) (Nat.le_of_ble_eq_true rfl) (ofS ?_)
  cases ez : inB k0 (nI 0) (nI 3)
  · rw [show ispB k0 n0 = false from by rw [isp_in, ez]; rfl]
    refine g_if_eqB C (tgt := 37) dX3_isPaw_6 (by decide) (fun q => ?_) (fun q => absurd q (by decide))
    refine g_iconst C (v := nI 0) dX3_isPaw_37 (by decide) ?_
    exact g_zret C hr (Or.inl rfl) dX3_isPaw_38 (Nat.le_of_ble_eq_true rfl) (Nat.le_of_ble_eq_true rfl) ⟨rfl, rfl⟩
  · refine g_if_eqB C (tgt := 37) dX3_isPaw_6 (by decide) (fun q => absurd q (by decide)) (fun q => ?_)
    refine g_iload_n C dX3_isPaw_9 rfl ?_
    refine g_iconst C (v := nI 0) dX3_isPaw_10 (by decide) ?_
    refine g_iload_n C dX3_isPaw_11 rfl ?_
    refine g_if_eq C (tgt := 20) dX3_isPaw_12 (by decide) (fun q1 => ?_) (fun q1 => ?_)
    · refine g_bipush C (v := nI 7) dX3_isPaw_20 (by decide) ?_
      refine g_goto C (tgt := 27) dX3_isPaw_22 (by decide) ?_
      exact tl _ ez (if_pos (Or.inl q1)).symm
    · refine g_iload_n C dX3_isPaw_15 rfl ?_
      refine g_iconst C (v := nI 3) dX3_isPaw_16 (by decide) ?_
      refine g_icmp_ne C (tgt := 25) dX3_isPaw_17 (by decide) (fun q2 => ?_) (fun q2 => ?_)
      · refine g_bipush C (v := nI 15) dX3_isPaw_25 (by decide) ?_
        exact tl _ ez (if_neg (fun z => z.elim q1 q2)).symm
      · refine g_bipush C (v := nI 7) dX3_isPaw_20 (by decide) ?_
        refine g_goto C (tgt := 27) dX3_isPaw_22 (by decide) ?_
        exact tl _ ez (if_pos (Or.inr q2)).symm
set_option maxRecDepth 100000 in
set_option maxHeartbeats 4000000 in
theorem K_X3_at (l : Launch) (Y : YG) {x : Nat} {th : Int32} {ar : Nat → Nat} {f : Nat → Nat → Int32} {g : Sg} {h : AH} (r : RepM Y x th ar f g h) (iv : Inv g) {i j : Nat} (hi : i < g.n) (hj : j < 17) : MX l Y yX3_at cX3_at 3 (some .int) 0 0 0 0 [.ref x, .int (nI i), .int (nI j)] h (pS (some (.int (f 5 (17 * i + j)))) h) (noX) := by
  have hn60 := iv.n60
  have hnp16 := iv.np
  have hnow := iv.now
  have hn1 := iv.n1
  refine MX.of (by decide +kernel) (Nat.le_of_ble_eq_true rfl) ?_
  intro p e s m args0 below meth c C hr hout hnm
  refine g_aload_n C dX3_at_0 rfl (by first | rfl | exact isR_rf _) ?_
  refine gf_X3_29 C (r.x) rfl dX3_at_1 ?_
  refine g_bipush C (v := nI 17) dX3_at_4 (by decide) ?_
  refine g_iload_n C dX3_at_6 rfl ?_
  first | with_reducible refine g_imulN C dX3_at_7 ?_ | refine g_imul C dX3_at_7 ?_
  refine g_iload_n C dX3_at_8 rfl ?_
  first | with_reducible refine g_iaddN C dX3_at_9 ?_ | refine g_iadd C dX3_at_9 ?_
  refine g_iald C r.a5 rfl (show 17 * i + j < 1020 by omega) (by decide) dX3_at_10 ?_
  exact g_iret C hr dX3_at_11 (Nat.le_of_ble_eq_true rfl) (Nat.le_of_ble_eq_true rfl) (⟨rfl, rfl⟩)
set_option maxRecDepth 100000 in
set_option maxHeartbeats 4000000 in
theorem K_X3_cat (l : Launch) (Y : YG) {x : Nat} {th : Int32} {ar : Nat → Nat} {f : Nat → Nat → Int32} {g : Sg} {h : AH} (r : RepM Y x th ar f g h) (iv : Inv g) : MX l Y yX3_cat cX3_cat 1 (some .int) 1 22 0 0 [.ref x] h (pS (some (.int (nI (g.ct g.now)))) h) (noX) := by
  have hn60 := iv.n60
  have hnp16 := iv.np
  have hnow := iv.now
  have hn1 := iv.n1
  refine MX.of (by decide +kernel) (Nat.le_of_ble_eq_true rfl) ?_
  intro p e s m args0 below meth c C hr hout hnm
  refine g_aload_n C dX3_cat_0 rfl (by first | rfl | exact isR_rf _) ?_
  refine g_aload_n C dX3_cat_1 rfl (by first | rfl | exact isR_rf _) ?_
  refine gf_X3_45 C (r.x) rfl dX3_cat_2 ?_
  refine g_iconst C (v := nI 0) dX3_cat_5 (by decide) ?_
  refine g_callV C ((K_X3_at l Y r iv (i := g.now) (j := 0) hnow (by decide)).K) ok_X3_at w730 (r.x) rfl rfl rfl dX3_cat_6 (Nat.le_of_ble_eq_true rfl) (Nat.le_of_ble_eq_true rfl) (Nat.le_of_ble_eq_true rfl) (Nat.le_of_ble_eq_true rfl) (Nat.le_of_ble_eq_true rfl) (ofS ?_)
  rw [r.rw.ct hnow]
  exact g_iret C hr dX3_cat_9 (Nat.le_of_ble_eq_true rfl) (Nat.le_of_ble_eq_true rfl) (⟨rfl, rfl⟩)
set_option maxRecDepth 100000 in
set_option maxHeartbeats 4000000 in
theorem K_X3_piece (l : Launch) (Y : YG) {x : Nat} {th : Int32} {ar : Nat → Nat} {f : Nat → Nat → Int32} {g : Sg} {h : AH} (r : RepM Y x th ar f g h) (iv : Inv g) {i q : Nat} (hi : i < g.n) (hq : q < g.np) : MX l Y yX3_piece cX3_piece 3 (some .int) 1 22 0 0 [.ref x, .int (nI i), .int (nI q)] h (pS (some (.int (nI (pq g i q)))) h) (noX) := by
  have hn60 := iv.n60
  have hnp16 := iv.np
  have hnow := iv.now
  have hn1 := iv.n1
  refine MX.of (by decide +kernel) (Nat.le_of_ble_eq_true rfl) ?_
  intro p e s m args0 below meth c C hr hout hnm
  refine g_aload_n C dX3_piece_0 rfl (by first | rfl | exact isR_rf _) ?_
  refine g_iload_n C dX3_piece_1 rfl ?_
  refine g_iconst C (v := nI 1) dX3_piece_2 (by decide) ?_
  refine g_iload_n C dX3_piece_3 rfl ?_
  first | with_reducible refine g_iaddN C dX3_piece_4 ?_ | refine g_iadd C dX3_piece_4 ?_
  refine g_callV C ((K_X3_at l Y r iv (i := i) (j := 1 + q) hi (by omega)).K) ok_X3_at w730 (r.x) rfl rfl rfl dX3_piece_5 (Nat.le_of_ble_eq_true rfl) (Nat.le_of_ble_eq_true rfl) (Nat.le_of_ble_eq_true rfl) (Nat.le_of_ble_eq_true rfl) (Nat.le_of_ble_eq_true rfl) (ofS ?_)
  rw [r.rw.pc hi hq]
  exact g_iret C hr dX3_piece_8 (Nat.le_of_ble_eq_true rfl) (Nat.le_of_ble_eq_true rfl) (⟨rfl, rfl⟩)
theorem pq_mod {g : Sg} (iv : Inv g) {i q : Nat} (hi : i < g.n) (hq : q < g.np) : pq g i q % 100 = g.pos i q ∧ pq g i q < 2 ^ 31 ∧ (100 ≤ pq g i q ↔ (g.lb i).testBit q = true) := by
  have := iv.pos hi hq
  unfold pq
  split
  · rename_i z
    exact ⟨by omega, by omega, ⟨fun _ => z, fun _ => by omega⟩⟩
  · rename_i z
    exact ⟨by omega, by omega, ⟨fun w => by omega, fun w => absurd w z⟩⟩
set_option maxRecDepth 100000 in
set_option maxHeartbeats 4000000 in
theorem K_X3_pieceOn (l : Launch) (Y : YG) {x : Nat} {th : Int32} {ar : Nat → Nat} {f : Nat → Nat → Int32} {g : Sg} {h : AH} (r : RepM Y x th ar f g h) (iv : Inv g) {w : Int32} {pl : Nat} (hw : ∀ j, j < g.np → (nI (g.pos g.now j) = w ↔ g.pos g.now j = pl)) : MX l Y yX3_pieceOn cX3_pieceOn 3 (some .int) 2 44 0 0 [.ref x, .int w] h (pS (some (.int (nO (pon (g.pos g.now) pl g.np 0)))) h) (noX) := by
  have hn60 := iv.n60
  have hnp16 := iv.np
  have hnow := iv.now
  have hn1 := iv.n1
  refine MX.of (by decide +kernel) (Nat.le_of_ble_eq_true rfl) ?_
  intro p e s m args0 below meth c C hr hout hnm
  have lp : ∀ (d i : Nat), i ≤ g.np → g.np - i < d → pon (g.pos g.now) pl (g.np - i) i = pon (g.pos g.now) pl g.np 0 → Gd p l e (rmO 2 44 0 0) s m args0 below meth c (vx_MQ below (Qk Y (pS (some (.int (nO (pon (g.pos g.now) pl g.np 0)))) h)) (Xk Y (noX)) args0 s 0 0 Y.A) Y 3 2 [some (.ref x), some (.int w), some (.int (nI i))] [] h 0 0 := by
    intro d
    induction d with
    | zero => intro i h1 h2; omega
    | succ d ih =>
      intro i hi hd hS
      refine g_iload_n C dX3_pieceOn_2 rfl ?_
      refine g_aload_n C dX3_pieceOn_3 rfl (by first | rfl | exact isR_rf _) ?_
      refine gf_X3_42 C (r.x) rfl dX3_pieceOn_4 ?_
      refine g_icmp_geN C (tgt := 34) dX3_pieceOn_7 (by decide) (by omega) (by omega) (fun q1 => ?_) (fun q1 => ?_)
      · have e0 : g.np - i = 0 := by omega
        rw [e0] at hS
        refine g_iconst C (v := (-1)) dX3_pieceOn_34 (by decide) ?_
        exact g_iret C hr dX3_pieceOn_35 (Nat.le_of_ble_eq_true rfl) (Nat.le_of_ble_eq_true rfl) (⟨by rw [← hS]; rfl, rfl⟩)
      · refine g_aload_n C dX3_pieceOn_10 rfl (by first | rfl | exact isR_rf _) ?_
        refine g_aload_n C dX3_pieceOn_11 rfl (by first | rfl | exact isR_rf _) ?_
        refine gf_X3_45 C (r.x) rfl dX3_pieceOn_12 ?_
        refine g_iload_n C dX3_pieceOn_15 rfl ?_
        refine g_callV C ((K_X3_piece l Y r iv hnow q1).K) ok_X3_piece w726 (r.x) rfl rfl rfl dX3_pieceOn_16 (Nat.le_of_ble_eq_true rfl) (Nat.le_of_ble_eq_true rfl) (Nat.le_of_ble_eq_true rfl) (Nat.le_of_ble_eq_true rfl) (Nat.le_of_ble_eq_true rfl) (ofS ?_)
        obtain ⟨z1, z2, z3⟩ := pq_mod iv hnow q1
        have eS : pon (g.pos g.now) pl (g.np - i) i = if g.pos g.now i = pl then some i else pon (g.pos g.now) pl (g.np - (i + 1)) (i + 1) := by
          rw [show g.np - i = (g.np - (i + 1)) + 1 by omega]
          rfl
        refine g_bipush C (v := nI 100) dX3_pieceOn_19 (by decide) ?_
        refine g_iremN C dX3_pieceOn_21 z2 (by decide) ?_
        rw [z1]
        refine g_iload_n C dX3_pieceOn_22 rfl ?_
        refine g_icmp_ne C (tgt := 28) dX3_pieceOn_23 (by decide) (fun q2 => ?_) (fun q2 => ?_)
        · rw [if_neg (fun z => q2 ((hw i q1).mpr z))] at eS
          refine g_iincN C dX3_pieceOn_28 rfl (by decide) ?_
          refine g_goto C (tgt := 2) dX3_pieceOn_31 (by decide) ?_
          exact ih (i + 1) (by omega) (by omega) (eS.symm.trans hS)
        · have q3 := q2
          rw [if_pos ((hw i q1).mp q3)] at eS
          refine g_iload_n C dX3_pieceOn_26 rfl ?_
          exact g_iret C hr dX3_pieceOn_27 (Nat.le_of_ble_eq_true rfl) (Nat.le_of_ble_eq_true rfl) (⟨by rw [← hS, eS]; rfl, rfl⟩)
  refine g_iconst C (v := nI 0) dX3_pieceOn_0 (by decide) ?_
  refine g_istore_n C dX3_pieceOn_1 (by decide) ?_
  exact lp (g.np + 1) 0 (Nat.zero_le _) (by omega) rfl
set_option maxRecDepth 100000 in
set_option maxHeartbeats 4000000 in
theorem K_X3_farther (l : Launch) (Y : YG) {h : AH} {w d : Nat} (hw : w < 64) (hd8 : d < 8) : MX l Y yX3_farther cX3_farther 4 (some .int) 2 42 0 0 [.int (nI w), .int (nI d)] h (pS (some (.int (nO (fa w d)))) h) (noX) := by
  refine MX.of (by decide +kernel) (Nat.le_of_ble_eq_true rfl) ?_
  intro p e s m args0 below meth c C hr hout hnm
  have hF := far_ok2 w hw d hd8
  refine g_iload_n C dX3_farther_0 rfl ?_
  refine g_bipush C (v := nI 8) dX3_farther_1 (by decide) ?_
  first | with_reducible refine g_idivN C dX3_farther_3 (by omega) (by decide) ?_ | refine g_idiv C dX3_farther_3 (by decide) ?_
  refine g_gettab C (tf_asd C) w757 dX3_farther_4 (fun ta hta => ?_)
  refine g_iload_n C dX3_farther_7 rfl ?_
  refine g_tald C hta rfl hd8 dX3_farther_8 ?_
  first | with_reducible refine g_iaddN C dX3_farther_9 ?_ | refine g_iadd C dX3_farther_9 ?_
  refine g_istore_n C dX3_farther_10 (by decide) ?_
  refine g_iload_n C dX3_farther_11 rfl ?_
  refine g_bipush C (v := nI 8) dX3_farther_12 (by decide) ?_
  first | with_reducible refine g_iremN C dX3_farther_14 (by omega) (by decide) ?_ | refine g_irem C dX3_farther_14 (by decide) ?_
  refine g_gettab C (tf_asd C) w757 dX3_farther_15 (fun tb htb => ?_)
  refine g_iload_n C dX3_farther_18 rfl ?_
  refine g_iconst C (v := nI 2) dX3_farther_19 (by decide) ?_
  refine g_iaddN C dX3_farther_20 ?_
  refine g_bipush C (v := nI 8) dX3_farther_21 (by decide) ?_
  refine g_iremN C dX3_farther_23 (by omega) (by decide) ?_
  refine g_tald C htb rfl (by omega) dX3_farther_24 ?_
  first | with_reducible refine g_iaddN C dX3_farther_25 ?_ | refine g_iadd C dX3_farther_25 ?_
  refine g_istore_n C dX3_farther_26 (by decide) ?_
  refine g_iload_n C dX3_farther_27 rfl ?_
  refine g_callS C ((K_X3_isOn l Y _).K) ok_X3_isOn w712 rfl rfl dX3_farther_28 (Nat.le_of_ble_eq_true rfl) (Nat.le_of_ble_eq_true rfl) (Nat.le_of_ble_eq_true rfl) (Nat.le_of_ble_eq_true rfl) (Nat.le_of_ble_eq_true rfl) (ofS ?_)
  cases e1 : in8 (nI (w / 8) + colS d)
  · rw [e1, Bool.false_and, if_neg (by decide)] at hF
    refine g_if_eqB C (tgt := 50) dX3_farther_31 (by decide) (fun q => ?_) (fun q => absurd q (by decide))
    refine g_iconst C (v := -1) dX3_farther_50 (by decide) ?_
    exact g_iret C hr dX3_farther_51 (Nat.le_of_ble_eq_true rfl) (Nat.le_of_ble_eq_true rfl) ⟨by rw [hF], rfl⟩
  · rw [e1, Bool.true_and] at hF
    refine g_if_eqB C (tgt := 50) dX3_farther_31 (by decide) (fun q => absurd q (by decide)) (fun q => ?_)
    refine g_iload_n C dX3_farther_34 rfl ?_
    refine g_callS C (K_X3_isOn l Y _).K ok_X3_isOn w712 rfl rfl dX3_farther_35 (Nat.le_of_ble_eq_true rfl) (Nat.le_of_ble_eq_true rfl) (Nat.le_of_ble_eq_true rfl) (Nat.le_of_ble_eq_true rfl) (Nat.le_of_ble_eq_true rfl) (ofS ?_)
    cases e2 : in8 (nI (w % 8) + colS ((d + 2) % 8))
    · rw [e2, if_neg (by decide)] at hF
      refine g_if_eqB C (tgt := 50) dX3_farther_38 (by decide) (fun q => ?_) (fun q => absurd q (by decide))
      refine g_iconst C (v := -1) dX3_farther_50 (by decide) ?_
      exact g_iret C hr dX3_farther_51 (Nat.le_of_ble_eq_true rfl) (Nat.le_of_ble_eq_true rfl) ⟨by rw [hF], rfl⟩
    · rw [e2, if_pos rfl] at hF
      refine g_if_eqB C (tgt := 50) dX3_farther_38 (by decide) (fun q => absurd q (by decide)) (fun q => ?_)
      refine g_bipush C (v := nI 8) dX3_farther_41 (by decide) ?_
      refine g_iload_n C dX3_farther_43 rfl ?_
      refine g_imul C dX3_farther_44 ?_
      refine g_iload_n C dX3_farther_45 rfl ?_
      refine g_iadd C dX3_farther_46 ?_
      refine g_goto C (tgt := 51) dX3_farther_47 (by decide) ?_
      exact g_iret C hr dX3_farther_51 (Nat.le_of_ble_eq_true rfl) (Nat.le_of_ble_eq_true rfl) ⟨by rw [hF], rfl⟩
set_option maxRecDepth 100000 in
set_option maxHeartbeats 4000000 in
theorem K_X3_isBeside (l : Launch) (Y : YG) {h : AH} {a b : Nat} (ha : a < 64) (hb : b < 64) : MX l Y yX3_isBeside cX3_isBeside 2 (some .boolean) 1 21 0 0 [.int (nI a), .int (nI b)] h (pS (some (bI (bes a b))) h) (noX) := by
  refine MX.of (by decide +kernel) (Nat.le_of_ble_eq_true rfl) ?_
  intro p e s m args0 below meth c C hr hout hnm
  have b1 := besM (a / 8) (by omega) (b / 8) (by omega)
  have b2 := besM (a % 8) (by omega) (b % 8) (by omega)
  refine g_iload_n C dX3_isBeside_0 rfl ?_
  refine g_bipush C (v := nI 8) dX3_isBeside_1 (by decide) ?_
  first | with_reducible refine g_idivN C dX3_isBeside_3 (by omega) (by decide) ?_ | refine g_idiv C dX3_isBeside_3 (by decide) ?_
  refine g_iload_n C dX3_isBeside_4 rfl ?_
  refine g_bipush C (v := nI 8) dX3_isBeside_5 (by decide) ?_
  first | with_reducible refine g_idivN C dX3_isBeside_7 (by omega) (by decide) ?_ | refine g_idiv C dX3_isBeside_7 (by decide) ?_
  refine g_isub C dX3_isBeside_8 ?_
  refine g_mabs C w774 w_mabs.1 w_mabs.2.1 w_mabs.2.2 dX3_isBeside_9 (Nat.le_of_ble_eq_true rfl) (Nat.le_of_ble_eq_true rfl) (Nat.le_of_ble_eq_true rfl) (Nat.le_of_ble_eq_true rfl) ?_
  refine g_iconst C (v := nI 2) dX3_isBeside_12 (by decide) ?_
  refine g_icmp_ge C (tgt := 36) dX3_isBeside_13 (by decide) (fun q1 => ?_) (fun q1 => ?_)
  · refine g_iconst C (v := nI 0) dX3_isBeside_36 (by decide) ?_
    exact g_zret C hr (by first | exact Or.inl rfl | exact Or.inr rfl) dX3_isBeside_37 (Nat.le_of_ble_eq_true rfl) (Nat.le_of_ble_eq_true rfl) (⟨by rw [show bes a b = false from decide_eq_false (fun z => (b1.mp q1) ⟨z.1, z.2.1⟩)]; rfl, rfl⟩)
  · refine g_iload_n C dX3_isBeside_16 rfl ?_
    refine g_bipush C (v := nI 8) dX3_isBeside_17 (by decide) ?_
    first | with_reducible refine g_iremN C dX3_isBeside_19 (by omega) (by decide) ?_ | refine g_irem C dX3_isBeside_19 (by decide) ?_
    refine g_iload_n C dX3_isBeside_20 rfl ?_
    refine g_bipush C (v := nI 8) dX3_isBeside_21 (by decide) ?_
    first | with_reducible refine g_iremN C dX3_isBeside_23 (by omega) (by decide) ?_ | refine g_irem C dX3_isBeside_23 (by decide) ?_
    refine g_isub C dX3_isBeside_24 ?_
    refine g_mabs C w774 w_mabs.1 w_mabs.2.1 w_mabs.2.2 dX3_isBeside_25 (Nat.le_of_ble_eq_true rfl) (Nat.le_of_ble_eq_true rfl) (Nat.le_of_ble_eq_true rfl) (Nat.le_of_ble_eq_true rfl) ?_
    refine g_iconst C (v := nI 2) dX3_isBeside_28 (by decide) ?_
    refine g_icmp_ge C (tgt := 36) dX3_isBeside_29 (by decide) (fun q2 => ?_) (fun q2 => ?_)
    · refine g_iconst C (v := nI 0) dX3_isBeside_36 (by decide) ?_
      exact g_zret C hr (by first | exact Or.inl rfl | exact Or.inr rfl) dX3_isBeside_37 (Nat.le_of_ble_eq_true rfl) (Nat.le_of_ble_eq_true rfl) (⟨by rw [show bes a b = false from decide_eq_false (fun z => (b2.mp q2) ⟨z.2.2.1, z.2.2.2⟩)]; rfl, rfl⟩)
    · refine g_iconst C (v := nI 1) dX3_isBeside_32 (by decide) ?_
      refine g_goto C (tgt := 37) dX3_isBeside_33 (by decide) ?_
      exact g_zret C hr (by first | exact Or.inl rfl | exact Or.inr rfl) dX3_isBeside_37 (Nat.le_of_ble_eq_true rfl) (Nat.le_of_ble_eq_true rfl) (⟨by rw [show bes a b = true from decide_eq_true (by have z1 := Classical.not_not.mp (fun z => q1 (b1.mpr z)); have z2 := Classical.not_not.mp (fun z => q2 (b2.mpr z)); exact ⟨z1.1, z1.2, z2.1, z2.2⟩)]; rfl, rfl⟩)
