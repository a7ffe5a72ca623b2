theorem hup_same {h : AH} {a : Nat} {e : va_E} (ha : h a = some e) : hup h a e = h := by
  funext b
  unfold hup
  split
  · rename_i hb; rw [hb, ha]
  · rfl
theorem nI_3 (a : Nat) : nI a + Int32.ofInt 3 = nI (a + 3) := nI_add a 3
def asG (x : Int32) : Int32 := if x ≤ nI 4 then nI 0 else -1
def asF (x : Int32) : Int32 := if x ≤ 0 then asG x else if nI 4 ≤ x then asG x else nI 1
def ahG (x : Int32) : Int32 := if x ≤ nI 2 then nI 0 else if nI 6 ≤ x then nI 0 else -1
def ahF (x : Int32) : Int32 := if x < nI 2 then nI 1 else if ¬ x = nI 7 then ahG x else nI 1
theorem asF_ok : ∀ w, w < 8 → asF (nI w) = colS w := by decide +kernel
theorem ahF_ok : ∀ w, w < 8 → ahF (nI w) = rowS w := by decide +kernel
/-- one farther, as the law reckons it -/
def farB (p d : Nat) : Bool := match fa p d with
  | some q => onB (nI (p / 8) + colS d) (nI (p % 8) + rowS d) && (decide (nI (p / 8) + colS d = nI (q / 8)) && decide (nI (p % 8) + rowS d = nI (q % 8)))
  | none => !onB (nI (p / 8) + colS d) (nI (p % 8) + rowS d)
theorem farB_ok : ∀ p, p < 64 → ∀ d, d < 8 → farB p d = true := by decide +kernel
theorem far_N {p d : Nat} (hp : p < 64) (hd : d < 8) : (∃ q, fa p d = some q ∧ q < 64 ∧ onB (nI (p / 8) + colS d) (nI (p % 8) + rowS d) = true ∧ nI (p / 8) + colS d = nI (q / 8) ∧ nI (p % 8) + rowS d = nI (q % 8)) ∨ (fa p d = none ∧ onB (nI (p / 8) + colS d) (nI (p % 8) + rowS d) = false) := by
  have h := farB_ok p hp d hd
  unfold farB at h
  cases hf : fa p d with
  | none =>
    rw [hf] at h
    exact Or.inr ⟨rfl, by simpa using h⟩
  | some q =>
    rw [hf] at h
    simp only [Bool.and_eq_true, decide_eq_true_eq] at h
    exact Or.inl ⟨q, rfl, fa_lt hf, h.1, h.2.1, h.2.2⟩
theorem max_lt {x y : Int32} : (if x < y then y else x) ≤ nI 1 ↔ (¬ nI 1 < x ∧ ¬ nI 1 < y) := by
  rw [Int32.not_lt, Int32.not_lt]
  by_cases h : x < y
  · rw [if_pos h]
    constructor
    · intro q
      exact ⟨Int32.le_of_lt (Int32.lt_of_lt_of_le h q), q⟩
    · intro q; exact q.2
  · rw [if_neg h]
    constructor
    · intro q
      exact ⟨q, Int32.le_trans (Int32.not_lt.mp h) q⟩
    · intro q; exact q.1
theorem bes_N {ct w : Nat} (h1 : ct < 64) (h2 : w < 64) : (if (if 0 ≤ nI (ct / 8) - nI (w / 8) then nI (ct / 8) - nI (w / 8) else 0 - (nI (ct / 8) - nI (w / 8))) < (if 0 ≤ nI (ct % 8) - nI (w % 8) then nI (ct % 8) - nI (w % 8) else 0 - (nI (ct % 8) - nI (w % 8))) then (if 0 ≤ nI (ct % 8) - nI (w % 8) then nI (ct % 8) - nI (w % 8) else 0 - (nI (ct % 8) - nI (w % 8))) else (if 0 ≤ nI (ct / 8) - nI (w / 8) then nI (ct / 8) - nI (w / 8) else 0 - (nI (ct / 8) - nI (w / 8)))) ≤ nI 1 ↔ bes ct w = true := by
  rw [max_lt, besC _ (by omega) _ (by omega), besC _ (by omega) _ (by omega)]
  unfold bes
  rw [decide_eq_true_eq]
  constructor
  · rintro ⟨a, b⟩
    have a := Decidable.not_not.mp a
    have b := Decidable.not_not.mp b
    exact ⟨a.1, a.2, b.1, b.2⟩
  · rintro ⟨a, b, c, d⟩
    exact ⟨fun z => z ⟨a, b⟩, fun z => z ⟨c, d⟩⟩
/-- a row of the law's that holds how cat and pieces are -/
def StR (np ct : Nat) (pos : Nat → Nat) (lb : Nat) (f : Nat → Int32) : Prop := f 0 = nI (ct / 8) ∧ f 1 = nI (ct % 8) ∧ ∀ q, q < np → f (2 + 3 * q) = nI (pos q / 8) ∧ f (3 + 3 * q) = nI (pos q % 8) ∧ f (4 + 3 * q) = nI (if lb.testBit q then 1 else 0)
theorem StR.turn {np ct lb v lb2 : Nat} {pos : Nat → Nat} {f : Nat → Int32} (r : StR np ct pos lb f) {x : Int32} (h1 : x = nI (if lb2.testBit v then 1 else 0)) (h2 : ∀ q, q ≠ v → lb2.testBit q = lb.testBit q) : StR np ct pos lb2 (upd f (2 + 3 * v + 2) x) := by
  refine ⟨?_, ?_, fun q hq => ⟨?_, ?_, ?_⟩⟩
  · rw [pk_un (by omega)]; exact r.1
  · rw [pk_un (by omega)]; exact r.2.1
  · rw [pk_un (by omega)]; exact (r.2.2 q hq).1
  · rw [pk_un (by omega)]; exact (r.2.2 q hq).2.1
  · by_cases c : q = v
    · subst c
      rw [show 2 + 3 * q + 2 = 4 + 3 * q by omega, pk_us, h1]
    · rw [pk_un (by omega), (r.2.2 q hq).2.2, h2 q c]
theorem StR.cat {np ct lb c2 : Nat} {pos : Nat → Nat} {f : Nat → Int32} (r : StR np ct pos lb f) : StR np c2 pos lb (upd (upd f 0 (nI (c2 / 8))) 1 (nI (c2 % 8))) := by
  refine ⟨?_, ?_, fun q hq => ⟨?_, ?_, ?_⟩⟩
  · rw [pk_un (by omega), pk_us]
  · rw [pk_us]
  · rw [pk_un (by omega), pk_un (by omega)]; exact (r.2.2 q hq).1
  · rw [pk_un (by omega), pk_un (by omega)]; exact (r.2.2 q hq).2.1
  · rw [pk_un (by omega), pk_un (by omega)]; exact (r.2.2 q hq).2.2
theorem StR.move {np ct lb v b : Nat} {pos : Nat → Nat} {f : Nat → Int32} (r : StR np ct pos lb f) : StR np ct (uN pos v b) lb (upd (upd f (2 + 3 * v) (nI (b / 8))) (3 + 3 * v) (nI (b % 8))) := by
  refine ⟨?_, ?_, fun q hq => ⟨?_, ?_, ?_⟩⟩
  · rw [pk_un (by omega), pk_un (by omega)]; exact r.1
  · rw [pk_un (by omega), pk_un (by omega)]; exact r.2.1
  · unfold uN
    by_cases c : q = v
    · subst c
      rw [pk_un (by omega), pk_us, if_pos rfl]
    · rw [pk_un (by omega), pk_un (by omega), if_neg c]; exact (r.2.2 q hq).1
  · unfold uN
    by_cases c : q = v
    · subst c
      rw [pk_us, if_pos rfl]
    · rw [pk_un (by omega), pk_un (by omega), if_neg c]; exact (r.2.2 q hq).2.1
  · rw [pk_un (by omega), pk_un (by omega)]; exact (r.2.2 q hq).2.2
theorem tb_or {lb v : Nat} : (lb ||| 2 ^ v).testBit v = true ∧ ∀ q, q ≠ v → (lb ||| 2 ^ v).testBit q = lb.testBit q := by
  refine ⟨by rw [Nat.testBit_or, Nat.testBit_two_pow_self, Bool.or_true], fun q hq => ?_⟩
  rw [Nat.testBit_or, Nat.testBit_two_pow_of_ne (Ne.symm hq), Bool.or_false]
theorem tb_xor {lb v : Nat} (h : lb.testBit v = true) : (lb ^^^ 2 ^ v).testBit v = false ∧ ∀ q, q ≠ v → (lb ^^^ 2 ^ v).testBit q = lb.testBit q := by
  refine ⟨by rw [Nat.testBit_xor, Nat.testBit_two_pow_self, h]; rfl, fun q hq => ?_⟩
  rw [Nat.testBit_xor, Nat.testBit_two_pow_of_ne (Ne.symm hq), Bool.xor_false]
set_option maxRecDepth 100000 in
set_option maxHeartbeats 4000000 in
theorem K_X3_aside (l : Launch) (Y : YG) {h : AH} (x : Int32) : MX l Y yX3_aside cX3_aside 1 (some .int) 0 0 0 0 [.int x] h (pS (some (.int (asF x))) h) (noX) := by
  refine MX.of (by decide +kernel) (Nat.le_of_ble_eq_true rfl) ?_
  intro p e s m args0 below meth c C hr hout hnm
  refine g_iload_n C dX3_aside_0 rfl ?_
  refine g_if_le C (tgt := 13) dX3_aside_1 (by decide) (fun q1 => ?_) (fun q1 => ?_)
  · refine g_iload_n C dX3_aside_13 rfl ?_
    refine g_iconst C (v := nI 4) dX3_aside_14 (by decide) ?_
    refine g_icmp_le C (tgt := 22) dX3_aside_15 (by decide) (fun q3 => ?_) (fun q3 => ?_)
    · refine g_iconst C (v := nI 0) dX3_aside_22 (by decide) ?_
      exact g_iret C hr dX3_aside_23 (Nat.le_of_ble_eq_true rfl) (Nat.le_of_ble_eq_true rfl) (⟨by rw [show asF x = nI 0 from by unfold asF asG; rw [if_pos q1, if_pos q3]], rfl⟩)
    · refine g_iconst C (v := (-1)) dX3_aside_18 (by decide) ?_
      refine g_goto C (tgt := 23) dX3_aside_19 (by decide) ?_
      exact g_iret C hr dX3_aside_23 (Nat.le_of_ble_eq_true rfl) (Nat.le_of_ble_eq_true rfl) (⟨by rw [show asF x = -1 from by unfold asF asG; rw [if_pos q1, if_neg q3]], rfl⟩)
  · refine g_iload_n C dX3_aside_4 rfl ?_
    refine g_iconst C (v := nI 4) dX3_aside_5 (by decide) ?_
    refine g_icmp_ge C (tgt := 13) dX3_aside_6 (by decide) (fun q2 => ?_) (fun q2 => ?_)
    · refine g_iload_n C dX3_aside_13 rfl ?_
      refine g_iconst C (v := nI 4) dX3_aside_14 (by decide) ?_
      refine g_icmp_le C (tgt := 22) dX3_aside_15 (by decide) (fun q3 => ?_) (fun q3 => ?_)
      · refine g_iconst C (v := nI 0) dX3_aside_22 (by decide) ?_
        exact g_iret C hr dX3_aside_23 (Nat.le_of_ble_eq_true rfl) (Nat.le_of_ble_eq_true rfl) (⟨by rw [show asF x = nI 0 from by unfold asF asG; rw [if_neg q1, if_pos q2, if_pos q3]], rfl⟩)
      · refine g_iconst C (v := (-1)) dX3_aside_18 (by decide) ?_
        refine g_goto C (tgt := 23) dX3_aside_19 (by decide) ?_
        exact g_iret C hr dX3_aside_23 (Nat.le_of_ble_eq_true rfl) (Nat.le_of_ble_eq_true rfl) (⟨by rw [show asF x = -1 from by unfold asF asG; rw [if_neg q1, if_pos q2, if_neg q3]], rfl⟩)
    · refine g_iconst C (v := nI 1) dX3_aside_9 (by decide) ?_
      refine g_goto C (tgt := 23) dX3_aside_10 (by decide) ?_
      exact g_iret C hr dX3_aside_23 (Nat.le_of_ble_eq_true rfl) (Nat.le_of_ble_eq_true rfl) (⟨by rw [show asF x = nI 1 from by unfold asF; rw [if_neg q1, if_neg q2]], rfl⟩)
set_option maxRecDepth 100000 in
set_option maxHeartbeats 4000000 in
theorem K_X3_ahead (l : Launch) (Y : YG) {h : AH} (x : Int32) : MX l Y yX3_ahead cX3_ahead 1 (some .int) 0 0 0 0 [.int x] h (pS (some (.int (ahF x))) h) (noX) := by
  refine MX.of (by decide +kernel) (Nat.le_of_ble_eq_true rfl) ?_
  intro p e s m args0 below meth c C hr hout hnm
  refine g_iload_n C dX3_ahead_0 rfl ?_
  refine g_iconst C (v := nI 2) dX3_ahead_1 (by decide) ?_
  refine g_icmp_lt C (tgt := 11) dX3_ahead_2 (by decide) (fun q1 => ?_) (fun q1 => ?_)
  · refine g_iconst C (v := nI 1) dX3_ahead_11 (by decide) ?_
    refine g_goto C (tgt := 31) dX3_ahead_12 (by decide) ?_
    exact g_iret C hr dX3_ahead_31 (Nat.le_of_ble_eq_true rfl) (Nat.le_of_ble_eq_true rfl) (⟨by rw [show ahF x = nI 1 from by unfold ahF; rw [if_pos q1]], rfl⟩)
  · refine g_iload_n C dX3_ahead_5 rfl ?_
    refine g_bipush C (v := nI 7) dX3_ahead_6 (by decide) ?_
    refine g_icmp_ne C (tgt := 15) dX3_ahead_8 (by decide) (fun q2 => ?_) (fun q2 => ?_)
    · refine g_iload_n C dX3_ahead_15 rfl ?_
      refine g_iconst C (v := nI 2) dX3_ahead_16 (by decide) ?_
      refine g_icmp_le C (tgt := 30) dX3_ahead_17 (by decide) (fun q3 => ?_) (fun q3 => ?_)
      · refine g_iconst C (v := nI 0) dX3_ahead_30 (by decide) ?_
        exact g_iret C hr dX3_ahead_31 (Nat.le_of_ble_eq_true rfl) (Nat.le_of_ble_eq_true rfl) (⟨by rw [show ahF x = nI 0 from by unfold ahF ahG; rw [if_neg q1, if_pos q2, if_pos q3]], rfl⟩)
      · refine g_iload_n C dX3_ahead_20 rfl ?_
        refine g_bipush C (v := nI 6) dX3_ahead_21 (by decide) ?_
        refine g_icmp_ge C (tgt := 30) dX3_ahead_23 (by decide) (fun q4 => ?_) (fun q4 => ?_)
        · refine g_iconst C (v := nI 0) dX3_ahead_30 (by decide) ?_
          exact g_iret C hr dX3_ahead_31 (Nat.le_of_ble_eq_true rfl) (Nat.le_of_ble_eq_true rfl) (⟨by rw [show ahF x = nI 0 from by unfold ahF ahG; rw [if_neg q1, if_pos q2, if_neg q3, if_pos q4]], rfl⟩)
        · refine g_iconst C (v := (-1)) dX3_ahead_26 (by decide) ?_
          refine g_goto C (tgt := 31) dX3_ahead_27 (by decide) ?_
          exact g_iret C hr dX3_ahead_31 (Nat.le_of_ble_eq_true rfl) (Nat.le_of_ble_eq_true rfl) (⟨by rw [show ahF x = -1 from by unfold ahF ahG; rw [if_neg q1, if_pos q2, if_neg q3, if_neg q4]], rfl⟩)
    · refine g_iconst C (v := nI 1) dX3_ahead_11 (by decide) ?_
      refine g_goto C (tgt := 31) dX3_ahead_12 (by decide) ?_
      exact g_iret C hr dX3_ahead_31 (Nat.le_of_ble_eq_true rfl) (Nat.le_of_ble_eq_true rfl) (⟨by rw [show ahF x = nI 1 from by unfold ahF; rw [if_neg q1, if_neg (fun z => z q2)]], rfl⟩)
set_option maxRecDepth 100000 in
set_option maxHeartbeats 4000000 in
theorem K_X3_isOn (l : Launch) (Y : YG) {h : AH} (c0 r0 : Int32) : MX l Y yX3_isOn cX3_isOn 2 (some .boolean) 0 0 0 0 [.int c0, .int r0] h (pS (some (bI (onB c0 r0))) h) (noX) := by
  refine MX.of (by decide +kernel) (Nat.le_of_ble_eq_true rfl) ?_
  intro p e s m args0 below meth c C hr hout hnm
  refine g_iload_n C dX3_isOn_0 rfl ?_
  refine g_if_lt C (tgt := 24) dX3_isOn_1 (by decide) (fun q1 => ?_) (fun q1 => ?_)
  · refine g_iconst C (v := nI 0) dX3_isOn_24 (by decide) ?_
    exact g_zret C hr (by first | exact Or.inl rfl | exact Or.inr rfl) dX3_isOn_25 (Nat.le_of_ble_eq_true rfl) (Nat.le_of_ble_eq_true rfl) (⟨by rw [show onB c0 r0 = false from by unfold onB; (repeat' split) <;> first | rfl | contradiction]; rfl, rfl⟩)
  · refine g_iload_n C dX3_isOn_4 rfl ?_
    refine g_if_lt C (tgt := 24) dX3_isOn_5 (by decide) (fun q2 => ?_) (fun q2 => ?_)
    · refine g_iconst C (v := nI 0) dX3_isOn_24 (by decide) ?_
      exact g_zret C hr (by first | exact Or.inl rfl | exact Or.inr rfl) dX3_isOn_25 (Nat.le_of_ble_eq_true rfl) (Nat.le_of_ble_eq_true rfl) (⟨by rw [show onB c0 r0 = false from by unfold onB; (repeat' split) <;> first | rfl | contradiction]; rfl, rfl⟩)
    · refine g_iload_n C dX3_isOn_8 rfl ?_
      refine g_bipush C (v := nI 8) dX3_isOn_9 (by decide) ?_
      refine g_icmp_ge C (tgt := 24) dX3_isOn_11 (by decide) (fun q3 => ?_) (fun q3 => ?_)
      · refine g_iconst C (v := nI 0) dX3_isOn_24 (by decide) ?_
        exact g_zret C hr (by first | exact Or.inl rfl | exact Or.inr rfl) dX3_isOn_25 (Nat.le_of_ble_eq_true rfl) (Nat.le_of_ble_eq_true rfl) (⟨by rw [show onB c0 r0 = false from by unfold onB; (repeat' split) <;> first | rfl | contradiction]; rfl, rfl⟩)
      · refine g_iload_n C dX3_isOn_14 rfl ?_
        refine g_bipush C (v := nI 8) dX3_isOn_15 (by decide) ?_
        refine g_icmp_ge C (tgt := 24) dX3_isOn_17 (by decide) (fun q4 => ?_) (fun q4 => ?_)
        · refine g_iconst C (v := nI 0) dX3_isOn_24 (by decide) ?_
          exact g_zret C hr (by first | exact Or.inl rfl | exact Or.inr rfl) dX3_isOn_25 (Nat.le_of_ble_eq_true rfl) (Nat.le_of_ble_eq_true rfl) (⟨by rw [show onB c0 r0 = false from by unfold onB; (repeat' split) <;> first | rfl | contradiction]; rfl, rfl⟩)
        · refine g_iconst C (v := nI 1) dX3_isOn_20 (by decide) ?_
          refine g_goto C (tgt := 25) dX3_isOn_21 (by decide) ?_
          exact g_zret C hr (by first | exact Or.inl rfl | exact Or.inr rfl) dX3_isOn_25 (Nat.le_of_ble_eq_true rfl) (Nat.le_of_ble_eq_true rfl) (⟨by rw [show onB c0 r0 = true from by unfold onB; (repeat' split) <;> first | rfl | contradiction]; rfl, rfl⟩)
set_option maxRecDepth 100000 in
set_option maxHeartbeats 4000000 in
theorem K_X3_pieceAt (l : Launch) (Y : YG) {a np ct lb : Nat} {pos : Nat → Nat} {f : Nat → Int32} {h : AH} (ha : h a = some (aI Y (2 + 3 * np) f)) (r : StR np ct pos lb f) (hnp : np ≤ 16) (hct : ct < 64) (hpos : ∀ q, q < np → pos q < 64) {w : Nat} (hw : w < 64) : MX l Y yX3_pieceAt cX3_pieceAt 4 (some .int) 0 0 0 0 [.ref a, .int (nI (w / 8)), .int (nI (w % 8))] h (pS (some (.int (nO (pon pos w np 0)))) h) (noX) := by
  refine MX.of (by decide +kernel) (Nat.le_of_ble_eq_true rfl) ?_
  intro p e s m args0 below meth c C hr hout hnm
  have lp : ∀ (d i : Nat), i ≤ np → np - i < d → pon pos w (np - i) i = pon pos w np 0 → Gd p l e (rmO 0 0 0 0) s m args0 below meth c (vx_MQ below (Qk Y (pS (some (.int (nO (pon pos w np 0)))) h)) (Xk Y (noX)) args0 s 0 0 Y.A) Y 4 2 [some (.ref a), some (.int (nI (w / 8))), some (.int (nI (w % 8))), some (.int (nI (2 + 3 * i)))] [] h 0 0 := by
    intro d
    induction d with
    | zero => intro i h1 h2; omega
    | succ d ih =>
      intro i hi hd hS
      refine g_iload_n C dX3_pieceAt_2 rfl ?_
      refine g_aload_n C dX3_pieceAt_3 rfl (by first | rfl | exact isR_rf _) ?_
      refine g_aleni C (ha) dX3_pieceAt_4 ?_
      refine g_icmp_geN C (tgt := 36) dX3_pieceAt_5 (by decide) (by omega) (by omega) (fun q1 => ?_) (fun q1 => ?_)
      · have e0 : np - i = 0 := by omega
        rw [e0] at hS
        refine g_iconst C (v := (-1)) dX3_pieceAt_36 (by decide) ?_
        exact g_iret C hr dX3_pieceAt_37 (Nat.le_of_ble_eq_true rfl) (Nat.le_of_ble_eq_true rfl) (⟨by rw [← hS]; rfl, rfl⟩)
      · have hin : i < np := by omega
        have hpi := hpos i hin
        have eS : pon pos w (np - i) i = if pos i = w then some i else pon pos w (np - (i + 1)) (i + 1) := by
          rw [show np - i = (np - (i + 1)) + 1 by omega]
          rfl
        refine g_aload_n C dX3_pieceAt_8 rfl (by first | rfl | exact isR_rf _) ?_
        refine g_iload_n C dX3_pieceAt_9 rfl ?_
        refine g_iald C ha rfl (show 2 + 3 * i < 2 + 3 * np by omega) (by omega) dX3_pieceAt_10 ?_
        rw [(r.2.2 i hin).1]
        refine g_iload_n C dX3_pieceAt_11 rfl ?_
        refine g_icmp_neN C (tgt := 30) dX3_pieceAt_12 (by decide) (by omega) (by omega) (fun q2 => ?_) (fun q2 => ?_)
        · rw [if_neg (by omega)] at eS
          refine g_iinc C dX3_pieceAt_30 rfl (by decide) ?_
          rw [nI_3]
          refine g_goto C (tgt := 2) dX3_pieceAt_33 (by decide) ?_
          have := ih (i + 1) (by omega) (by omega) (eS.symm.trans hS)
          rw [show 2 + 3 * (i + 1) = 2 + 3 * i + 3 by omega] at this
          exact this
        · refine g_aload_n C dX3_pieceAt_15 rfl (by first | rfl | exact isR_rf _) ?_
          refine g_iload_n C dX3_pieceAt_16 rfl ?_
          refine g_iconst C (v := nI 1) dX3_pieceAt_17 (by decide) ?_
          first | with_reducible refine g_iaddN C dX3_pieceAt_18 ?_ | refine g_iadd C dX3_pieceAt_18 ?_
          refine g_iald C ha rfl (show 2 + 3 * i + 1 < 2 + 3 * np by omega) (by omega) dX3_pieceAt_19 ?_
          rw [show 2 + 3 * i + 1 = 3 + 3 * i by omega, (r.2.2 i hin).2.1]
          refine g_iload_n C dX3_pieceAt_20 rfl ?_
          refine g_icmp_neN C (tgt := 30) dX3_pieceAt_21 (by decide) (by omega) (by omega) (fun q3 => ?_) (fun q3 => ?_)
          · rw [if_neg (by omega)] at eS
            refine g_iinc C dX3_pieceAt_30 rfl (by decide) ?_
            rw [nI_3]
            refine g_goto C (tgt := 2) dX3_pieceAt_33 (by decide) ?_
            have := ih (i + 1) (by omega) (by omega) (eS.symm.trans hS)
            rw [show 2 + 3 * (i + 1) = 2 + 3 * i + 3 by omega] at this
            exact this
          · rw [if_pos (by omega)] at eS
            refine g_iload_n C dX3_pieceAt_24 rfl ?_
            refine g_iconst C (v := nI 2) dX3_pieceAt_25 (by decide) ?_
            refine g_isubN C (by omega) dX3_pieceAt_26 ?_
            refine g_iconst C (v := nI 3) dX3_pieceAt_27 (by decide) ?_
            refine g_idivN C dX3_pieceAt_28 (by omega) (by decide) ?_
            exact g_iret C hr dX3_pieceAt_29 (Nat.le_of_ble_eq_true rfl) (Nat.le_of_ble_eq_true rfl) (⟨by rw [← hS, eS, show (2 + 3 * i - 2) / 3 = i by omega]; rfl, rfl⟩)
  refine g_iconst C (v := nI 2) dX3_pieceAt_0 (by decide) ?_
  refine g_istore_n C dX3_pieceAt_1 (by decide) ?_
  exact lp (np + 1) 0 (Nat.zero_le _) (by omega) rfl
def pDo (Y : YG) (np a : Nat) (h : AH) (res : Option (Nat × (Nat → Nat) × Nat)) : Option Value → AH → Prop := fun vv h2 => vv = some (bI res.isSome) ∧ (res = none → h2 = h) ∧ ∀ z, res = some z → ∃ f2, h2 = hup h a (aI Y (2 + 3 * np) f2) ∧ StR np z.1 z.2.1 z.2.2 f2
theorem pDo_n {Y : YG} {np a : Nat} {h : AH} {res : Option (Nat × (Nat → Nat) × Nat)} (e : res = none) : pDo Y np a h res (some (.int (nI 0))) h := ⟨by rw [e]; rfl, fun _ => rfl, fun z hz => (by rw [e] at hz; cases hz)⟩
theorem pDo_s {Y : YG} {np a : Nat} {h : AH} {res : Option (Nat × (Nat → Nat) × Nat)} {z : Nat × (Nat → Nat) × Nat} {f2 : Nat → Int32} (e : res = some z) (s2 : StR np z.1 z.2.1 z.2.2 f2) : pDo Y np a h res (some (.int (nI 1))) (hup h a (aI Y (2 + 3 * np) f2)) := ⟨by rw [e]; rfl, fun hz => (by rw [e] at hz; cases hz), fun y hy => (by rw [e] at hy; cases hy; exact ⟨f2, rfl, s2⟩)⟩
set_option maxRecDepth 100000 in
set_option maxHeartbeats 4000000 in
theorem K_X3_does1 (l : Launch) (Y : YG) {a np ct lb : Nat} {pos : Nat → Nat} {f : Nat → Int32} {h : AH} (ha : h a = some (aI Y (2 + 3 * np) f)) (r : StR np ct pos lb f) (hnp : np ≤ 16) (hct : ct < 64) (hpos : ∀ q, q < np → pos q < 64) {v : Nat} (hv : v < 16) : MX l Y yX3_does cX3_does 8 (some .boolean) 1 23 0 0 [.ref a, .int (nI 1), .int (nI v)] h (pDo Y np a h (nxt np ct pos lb 1 v)) (noX) := by
  refine MX.of (by decide +kernel) (Nat.le_of_ble_eq_true rfl) ?_
  intro p e s m args0 below meth c C hr hout hnm
  have en : nxt np ct pos lb 1 v = if v < np ∧ lb.testBit v = false ∧ bes ct (pos v) = true then some (ct, pos, lb ||| 2 ^ v) else none := rfl
  have no : nxt np ct pos lb 1 v = none → Gd p l e (rmO 1 23 0 0) s m args0 below meth c (vx_MQ below (Qk Y (pDo Y np a h (nxt np ct pos lb 1 v))) (Xk Y (noX)) args0 s 0 0 Y.A) Y 8 62 [some (.ref a), some (.int (nI 1)), some (.int (nI v)), some (.int (nI (2 + 3 * v))), none, none, none, none] [] h 0 0 := by
    intro e0
    refine g_iconst C (v := nI 0) dX3_does_62 (by decide) ?_
    exact g_zret C hr (by first | exact Or.inl rfl | exact Or.inr rfl) dX3_does_63 (Nat.le_of_ble_eq_true rfl) (Nat.le_of_ble_eq_true rfl) (pDo_n e0)
  have a10 : Gd p l e (rmO 1 23 0 0) s m args0 below meth c (vx_MQ below (Qk Y (pDo Y np a h (nxt np ct pos lb 1 v))) (Xk Y (noX)) args0 s 0 0 Y.A) Y 8 10 [some (.ref a), some (.int (nI 1)), some (.int (nI v)), none, none, none, none, none] [] h 0 0 := by
    refine g_iconst C (v := nI 2) dX3_does_10 (by decide) ?_
    refine g_iconst C (v := nI 3) dX3_does_11 (by decide) ?_
    refine g_iload_n C dX3_does_12 rfl ?_
    first | with_reducible refine g_imulN C dX3_does_13 ?_ | refine g_imul C dX3_does_13 ?_
    first | with_reducible refine g_iaddN C dX3_does_14 ?_ | refine g_iadd C dX3_does_14 ?_
    refine g_istore_n C dX3_does_15 (by decide) ?_
    refine g_iload_n C dX3_does_16 rfl ?_
    refine g_aload_n C dX3_does_17 rfl (by first | rfl | exact isR_rf _) ?_
    refine g_aleni C (ha) dX3_does_18 ?_
    refine g_icmp_geN C (tgt := 62) dX3_does_19 (by decide) (by omega) (by omega) (fun q1 => ?_) (fun q1 => ?_)
    · exact no (by rw [en, if_neg (fun z => by omega)])
    · refine g_aload_n C dX3_does_22 rfl (by first | rfl | exact isR_rf _) ?_
      refine g_iload_n C dX3_does_23 rfl ?_
      refine g_iconst C (v := nI 2) dX3_does_24 (by decide) ?_
      first | with_reducible refine g_iaddN C dX3_does_25 ?_ | refine g_iadd C dX3_does_25 ?_
      refine g_iald C ha rfl (show 2 + 3 * v + 2 < 2 + 3 * np by omega) (by omega) dX3_does_26 ?_
      have q1 : v < np := by omega
      have hpv := hpos v q1
      rw [show 2 + 3 * v + 2 = 4 + 3 * v by omega, (r.2.2 v q1).2.2]
      refine g_iload_n C dX3_does_27 rfl ?_
      refine g_iconst C (v := nI 1) dX3_does_28 (by decide) ?_
      refine g_isubN C (by decide) dX3_does_29 ?_
      refine g_icmp_neN C (tgt := 62) dX3_does_30 (by decide) (by split <;> omega) (by omega) (fun q2 => ?_) (fun q2 => ?_)
      · exact no (by rw [en, if_neg (fun z => by rw [z.2.1] at q2; exact q2 rfl)])
      · have hbt : lb.testBit v = false := by cases hz : lb.testBit v <;> rw [hz] at q2 <;> first | rfl | exact absurd q2 (by decide)
        refine g_aload_n C dX3_does_33 rfl (by first | rfl | exact isR_rf _) ?_
        refine g_iconst C (v := nI 0) dX3_does_34 (by decide) ?_
        refine g_iald C ha rfl (show 0 < 2 + 3 * np by omega) (by omega) dX3_does_35 ?_
        rw [r.1]
        refine g_aload_n C dX3_does_36 rfl (by first | rfl | exact isR_rf _) ?_
        refine g_iload_n C dX3_does_37 rfl ?_
        refine g_iald C ha rfl (show 2 + 3 * v < 2 + 3 * np by omega) (by omega) dX3_does_38 ?_
        rw [(r.2.2 v q1).1]
        refine g_isub C dX3_does_39 ?_
        refine g_mabs C w511 w_mabs.1 w_mabs.2.1 w_mabs.2.2 dX3_does_40 (Nat.le_of_ble_eq_true rfl) (Nat.le_of_ble_eq_true rfl) (Nat.le_of_ble_eq_true rfl) (Nat.le_of_ble_eq_true rfl) ?_
        refine g_aload_n C dX3_does_43 rfl (by first | rfl | exact isR_rf _) ?_
        refine g_iconst C (v := nI 1) dX3_does_44 (by decide) ?_
        refine g_iald C ha rfl (show 1 < 2 + 3 * np by omega) (by omega) dX3_does_45 ?_
        rw [r.2.1]
        refine g_aload_n C dX3_does_46 rfl (by first | rfl | exact isR_rf _) ?_
        refine g_iload_n C dX3_does_47 rfl ?_
        refine g_iconst C (v := nI 1) dX3_does_48 (by decide) ?_
        first | with_reducible refine g_iaddN C dX3_does_49 ?_ | refine g_iadd C dX3_does_49 ?_
        refine g_iald C ha rfl (show 2 + 3 * v + 1 < 2 + 3 * np by omega) (by omega) dX3_does_50 ?_
        rw [show 2 + 3 * v + 1 = 3 + 3 * v by omega, (r.2.2 v q1).2.1]
        refine g_isub C dX3_does_51 ?_
        refine g_mabs C w511 w_mabs.1 w_mabs.2.1 w_mabs.2.2 dX3_does_52 (Nat.le_of_ble_eq_true rfl) (Nat.le_of_ble_eq_true rfl) (Nat.le_of_ble_eq_true rfl) (Nat.le_of_ble_eq_true rfl) ?_
        refine g_mmax C w514 w_mmax.1 w_mmax.2.1 w_mmax.2.2 dX3_does_55 (Nat.le_of_ble_eq_true rfl) (Nat.le_of_ble_eq_true rfl) (Nat.le_of_ble_eq_true rfl) (Nat.le_of_ble_eq_true rfl) ?_
        refine g_iconst C (v := nI 1) dX3_does_58 (by decide) ?_
        refine g_icmp_le C (tgt := 64) dX3_does_59 (by decide) (fun q3 => ?_) (fun q3 => ?_)
        · refine g_aload_n C dX3_does_64 rfl (by first | rfl | exact isR_rf _) ?_
          refine g_iload_n C dX3_does_65 rfl ?_
          refine g_iconst C (v := nI 2) dX3_does_66 (by decide) ?_
          first | with_reducible refine g_iaddN C dX3_does_67 ?_ | refine g_iadd C dX3_does_67 ?_
          refine g_iconst C (v := nI 2) dX3_does_68 (by decide) ?_
          refine g_iload_n C dX3_does_69 rfl ?_
          refine g_isub C dX3_does_70 ?_
          refine g_iast C ha rfl (show 2 + 3 * v + 2 < 2 + 3 * np by omega) (by omega) dX3_does_71 ?_
          refine g_iconst C (v := nI 1) dX3_does_72 (by decide) ?_
          exact g_zret C hr (by first | exact Or.inl rfl | exact Or.inr rfl) dX3_does_73 (Nat.le_of_ble_eq_true rfl) (Nat.le_of_ble_eq_true rfl) (pDo_s (by rw [en, if_pos ⟨q1, hbt, (bes_N hct hpv).mp q3⟩]) (r.turn (by rw [(tb_or (lb := lb) (v := v)).1]) (tb_or (lb := lb) (v := v)).2))
        · exact no (by rw [en, if_neg (fun z => q3 ((bes_N hct hpv).mpr z.2.2))])
  refine g_iload_n C dX3_does_0 rfl ?_
  refine g_iconst C (v := nI 1) dX3_does_1 (by decide) ?_
  refine g_icmp_eqN C (tgt := 10) dX3_does_2 (by decide) (by omega) (by omega) (fun q0 => ?_) (fun q0 => ?_)
  · exact a10
  · omega
set_option maxRecDepth 100000 in
set_option maxHeartbeats 4000000 in
theorem K_X3_does2 (l : Launch) (Y : YG) {a np ct lb : Nat} {pos : Nat → Nat} {f : Nat → Int32} {h : AH} (ha : h a = some (aI Y (2 + 3 * np) f)) (r : StR np ct pos lb f) (hnp : np ≤ 16) (hct : ct < 64) (hpos : ∀ q, q < np → pos q < 64) {v : Nat} (hv : v < 16) : MX l Y yX3_does cX3_does 8 (some .boolean) 1 23 0 0 [.ref a, .int (nI 2), .int (nI v)] h (pDo Y np a h (nxt np ct pos lb 2 v)) (noX) := by
  refine MX.of (by decide +kernel) (Nat.le_of_ble_eq_true rfl) ?_
  intro p e s m args0 below meth c C hr hout hnm
  have en : nxt np ct pos lb 2 v = if v < np ∧ lb.testBit v = true ∧ bes ct (pos v) = true then some (ct, pos, lb ^^^ 2 ^ v) else none := rfl
  have no : nxt np ct pos lb 2 v = none → Gd p l e (rmO 1 23 0 0) s m args0 below meth c (vx_MQ below (Qk Y (pDo Y np a h (nxt np ct pos lb 2 v))) (Xk Y (noX)) args0 s 0 0 Y.A) Y 8 62 [some (.ref a), some (.int (nI 2)), some (.int (nI v)), some (.int (nI (2 + 3 * v))), none, none, none, none] [] h 0 0 := by
    intro e0
    refine g_iconst C (v := nI 0) dX3_does_62 (by decide) ?_
    exact g_zret C hr (by first | exact Or.inl rfl | exact Or.inr rfl) dX3_does_63 (Nat.le_of_ble_eq_true rfl) (Nat.le_of_ble_eq_true rfl) (pDo_n e0)
  have a10 : Gd p l e (rmO 1 23 0 0) s m args0 below meth c (vx_MQ below (Qk Y (pDo Y np a h (nxt np ct pos lb 2 v))) (Xk Y (noX)) args0 s 0 0 Y.A) Y 8 10 [some (.ref a), some (.int (nI 2)), some (.int (nI v)), none, none, none, none, none] [] h 0 0 := by
    refine g_iconst C (v := nI 2) dX3_does_10 (by decide) ?_
    refine g_iconst C (v := nI 3) dX3_does_11 (by decide) ?_
    refine g_iload_n C dX3_does_12 rfl ?_
    first | with_reducible refine g_imulN C dX3_does_13 ?_ | refine g_imul C dX3_does_13 ?_
    first | with_reducible refine g_iaddN C dX3_does_14 ?_ | refine g_iadd C dX3_does_14 ?_
    refine g_istore_n C dX3_does_15 (by decide) ?_
    refine g_iload_n C dX3_does_16 rfl ?_
    refine g_aload_n C dX3_does_17 rfl (by first | rfl | exact isR_rf _) ?_
    refine g_aleni C (ha) dX3_does_18 ?_
    refine g_icmp_geN C (tgt := 62) dX3_does_19 (by decide) (by omega) (by omega) (fun q1 => ?_) (fun q1 => ?_)
    · exact no (by rw [en, if_neg (fun z => by omega)])
    · refine g_aload_n C dX3_does_22 rfl (by first | rfl | exact isR_rf _) ?_
      refine g_iload_n C dX3_does_23 rfl ?_
      refine g_iconst C (v := nI 2) dX3_does_24 (by decide) ?_
      first | with_reducible refine g_iaddN C dX3_does_25 ?_ | refine g_iadd C dX3_does_25 ?_
      refine g_iald C ha rfl (show 2 + 3 * v + 2 < 2 + 3 * np by omega) (by omega) dX3_does_26 ?_
      have q1 : v < np := by omega
      have hpv := hpos v q1
      rw [show 2 + 3 * v + 2 = 4 + 3 * v by omega, (r.2.2 v q1).2.2]
      refine g_iload_n C dX3_does_27 rfl ?_
      refine g_iconst C (v := nI 1) dX3_does_28 (by decide) ?_
      refine g_isubN C (by decide) dX3_does_29 ?_
      refine g_icmp_neN C (tgt := 62) dX3_does_30 (by decide) (by split <;> omega) (by omega) (fun q2 => ?_) (fun q2 => ?_)
      · exact no (by rw [en, if_neg (fun z => by rw [z.2.1] at q2; exact q2 rfl)])
      · have hbt : lb.testBit v = true := by cases hz : lb.testBit v <;> rw [hz] at q2 <;> first | rfl | exact absurd q2 (by decide)
        refine g_aload_n C dX3_does_33 rfl (by first | rfl | exact isR_rf _) ?_
        refine g_iconst C (v := nI 0) dX3_does_34 (by decide) ?_
        refine g_iald C ha rfl (show 0 < 2 + 3 * np by omega) (by omega) dX3_does_35 ?_
        rw [r.1]
        refine g_aload_n C dX3_does_36 rfl (by first | rfl | exact isR_rf _) ?_
        refine g_iload_n C dX3_does_37 rfl ?_
        refine g_iald C ha rfl (show 2 + 3 * v < 2 + 3 * np by omega) (by omega) dX3_does_38 ?_
        rw [(r.2.2 v q1).1]
        refine g_isub C dX3_does_39 ?_
        refine g_mabs C w511 w_mabs.1 w_mabs.2.1 w_mabs.2.2 dX3_does_40 (Nat.le_of_ble_eq_true rfl) (Nat.le_of_ble_eq_true rfl) (Nat.le_of_ble_eq_true rfl) (Nat.le_of_ble_eq_true rfl) ?_
        refine g_aload_n C dX3_does_43 rfl (by first | rfl | exact isR_rf _) ?_
        refine g_iconst C (v := nI 1) dX3_does_44 (by decide) ?_
        refine g_iald C ha rfl (show 1 < 2 + 3 * np by omega) (by omega) dX3_does_45 ?_
        rw [r.2.1]
        refine g_aload_n C dX3_does_46 rfl (by first | rfl | exact isR_rf _) ?_
        refine g_iload_n C dX3_does_47 rfl ?_
        refine g_iconst C (v := nI 1) dX3_does_48 (by decide) ?_
        first | with_reducible refine g_iaddN C dX3_does_49 ?_ | refine g_iadd C dX3_does_49 ?_
        refine g_iald C ha rfl (show 2 + 3 * v + 1 < 2 + 3 * np by omega) (by omega) dX3_does_50 ?_
        rw [show 2 + 3 * v + 1 = 3 + 3 * v by omega, (r.2.2 v q1).2.1]
        refine g_isub C dX3_does_51 ?_
        refine g_mabs C w511 w_mabs.1 w_mabs.2.1 w_mabs.2.2 dX3_does_52 (Nat.le_of_ble_eq_true rfl) (Nat.le_of_ble_eq_true rfl) (Nat.le_of_ble_eq_true rfl) (Nat.le_of_ble_eq_true rfl) ?_
        refine g_mmax C w514 w_mmax.1 w_mmax.2.1 w_mmax.2.2 dX3_does_55 (Nat.le_of_ble_eq_true rfl) (Nat.le_of_ble_eq_true rfl) (Nat.le_of_ble_eq_true rfl) (Nat.le_of_ble_eq_true rfl) ?_
        refine g_iconst C (v := nI 1) dX3_does_58 (by decide) ?_
        refine g_icmp_le C (tgt := 64) dX3_does_59 (by decide) (fun q3 => ?_) (fun q3 => ?_)
        · refine g_aload_n C dX3_does_64 rfl (by first | rfl | exact isR_rf _) ?_
          refine g_iload_n C dX3_does_65 rfl ?_
          refine g_iconst C (v := nI 2) dX3_does_66 (by decide) ?_
          first | with_reducible refine g_iaddN C dX3_does_67 ?_ | refine g_iadd C dX3_does_67 ?_
          refine g_iconst C (v := nI 2) dX3_does_68 (by decide) ?_
          refine g_iload_n C dX3_does_69 rfl ?_
          refine g_isub C dX3_does_70 ?_
          refine g_iast C ha rfl (show 2 + 3 * v + 2 < 2 + 3 * np by omega) (by omega) dX3_does_71 ?_
          refine g_iconst C (v := nI 1) dX3_does_72 (by decide) ?_
          exact g_zret C hr (by first | exact Or.inl rfl | exact Or.inr rfl) dX3_does_73 (Nat.le_of_ble_eq_true rfl) (Nat.le_of_ble_eq_true rfl) (pDo_s (by rw [en, if_pos ⟨q1, hbt, (bes_N hct hpv).mp q3⟩]) (r.turn (by rw [(tb_xor hbt).1]) (tb_xor hbt).2))
        · exact no (by rw [en, if_neg (fun z => q3 ((bes_N hct hpv).mpr z.2.2))])
  refine g_iload_n C dX3_does_0 rfl ?_
  refine g_iconst C (v := nI 1) dX3_does_1 (by decide) ?_
  refine g_icmp_eqN C (tgt := 10) dX3_does_2 (by decide) (by omega) (by omega) (fun q0 => ?_) (fun q0 => ?_)
  · omega
  · refine g_iload_n C dX3_does_5 rfl ?_
    refine g_iconst C (v := nI 2) dX3_does_6 (by decide) ?_
    refine g_icmp_neN C (tgt := 74) dX3_does_7 (by decide) (by omega) (by omega) (fun q00 => ?_) (fun q00 => ?_)
    · omega
    · exact a10
set_option maxRecDepth 100000 in
set_option maxHeartbeats 4000000 in
theorem K_X3_does0 (l : Launch) (Y : YG) {a np ct lb : Nat} {pos : Nat → Nat} {f : Nat → Int32} {h : AH} (ha : h a = some (aI Y (2 + 3 * np) f)) (r : StR np ct pos lb f) (hnp : np ≤ 16) (hct : ct < 64) (hpos : ∀ q, q < np → pos q < 64) {v : Nat} (hv : v < 8) : MX l Y yX3_does cX3_does 8 (some .boolean) 1 23 0 0 [.ref a, .int (nI 0), .int (nI v)] h (pDo Y np a h (nxt np ct pos lb 0 v)) (noX) := by
  refine MX.of (by decide +kernel) (Nat.le_of_ble_eq_true rfl) ?_
  intro p e s m args0 below meth c C hr hout hnm
  have en : nxt np ct pos lb 0 v = (match fa ct v with
    | none => none
    | some c => some (c, pos, lb)) := rfl
  have endk : ∀ (cq : Nat) (f1 : Nat → Int32) (pos1 : Nat → Nat) (h1 : AH) (w5 w6 w7 : Option Value), h1 = hup h a (aI Y (2 + 3 * np) f1) → StR np ct pos1 lb f1 → nxt np ct pos lb 0 v = some (cq, pos1, lb) → Gd p l e (rmO 1 23 0 0) s m args0 below meth c (vx_MQ below (Qk Y (pDo Y np a h (nxt np ct pos lb 0 v))) (Xk Y (noX)) args0 s 0 0 Y.A) Y 8 195 [some (.ref a), some (.int (nI 0)), some (.int (nI v)), some (.int (nI (cq / 8))), some (.int (nI (cq % 8))), w5, w6, w7] [] h1 0 0 := by
    intro cq f1 pos1 h1 w5 w6 w7 e1 r1 e2
    subst e1
    refine g_aload_n C dX3_does_195 rfl (by first | rfl | exact isR_rf _) ?_
    refine g_iconst C (v := nI 0) dX3_does_196 (by decide) ?_
    refine g_iload_n C dX3_does_197 rfl ?_
    refine g_iast C hup_eq rfl (show 0 < 2 + 3 * np by omega) (by omega) dX3_does_198 ?_
    rw [hup_hup]
    refine g_aload_n C dX3_does_199 rfl (by first | rfl | exact isR_rf _) ?_
    refine g_iconst C (v := nI 1) dX3_does_200 (by decide) ?_
    refine g_iload C dX3_does_201 rfl ?_
    refine g_iast C hup_eq rfl (show 1 < 2 + 3 * np by omega) (by omega) dX3_does_203 ?_
    rw [hup_hup]
    refine g_iconst C (v := nI 1) dX3_does_204 (by decide) ?_
    exact g_zret C hr (by first | exact Or.inl rfl | exact Or.inr rfl) dX3_does_205 (Nat.le_of_ble_eq_true rfl) (Nat.le_of_ble_eq_true rfl) (pDo_s e2 r1.cat)
  have a74 : Gd p l e (rmO 1 23 0 0) s m args0 below meth c (vx_MQ below (Qk Y (pDo Y np a h (nxt np ct pos lb 0 v))) (Xk Y (noX)) args0 s 0 0 Y.A) Y 8 74 [some (.ref a), some (.int (nI 0)), some (.int (nI v)), none, none, none, none, none] [] h 0 0 := by
    refine g_aload_n C dX3_does_74 rfl (by first | rfl | exact isR_rf _) ?_
    refine g_iconst C (v := nI 0) dX3_does_75 (by decide) ?_
    refine g_iald C ha rfl (show 0 < 2 + 3 * np by omega) (by omega) dX3_does_76 ?_
    rw [r.1]
    refine g_iload_n C dX3_does_77 rfl ?_
    refine g_callS C ((K_X3_aside l Y (nI v)).K) ok_X3_aside w515 rfl rfl dX3_does_78 (Nat.le_of_ble_eq_true rfl) (Nat.le_of_ble_eq_true rfl) (Nat.le_of_ble_eq_true rfl) (Nat.le_of_ble_eq_true rfl) (Nat.le_of_ble_eq_true rfl) (ofS ?_)
    rw [asF_ok v hv]
    first | with_reducible refine g_iaddN C dX3_does_81 ?_ | refine g_iadd C dX3_does_81 ?_
    refine g_istore_n C dX3_does_82 (by decide) ?_
    refine g_aload_n C dX3_does_83 rfl (by first | rfl | exact isR_rf _) ?_
    refine g_iconst C (v := nI 1) dX3_does_84 (by decide) ?_
    refine g_iald C ha rfl (show 1 < 2 + 3 * np by omega) (by omega) dX3_does_85 ?_
    rw [r.2.1]
    refine g_iload_n C dX3_does_86 rfl ?_
    refine g_callS C ((K_X3_ahead l Y (nI v)).K) ok_X3_ahead w518 rfl rfl dX3_does_87 (Nat.le_of_ble_eq_true rfl) (Nat.le_of_ble_eq_true rfl) (Nat.le_of_ble_eq_true rfl) (Nat.le_of_ble_eq_true rfl) (Nat.le_of_ble_eq_true rfl) (ofS ?_)
    rw [ahF_ok v hv]
    first | with_reducible refine g_iaddN C dX3_does_90 ?_ | refine g_iadd C dX3_does_90 ?_
    refine g_istore C dX3_does_91 (by decide) ?_
    refine g_iload_n C dX3_does_93 rfl ?_
    refine g_iload C dX3_does_94 rfl ?_
    refine g_callS C ((K_X3_isOn l Y _ _).K) ok_X3_isOn w521 rfl rfl dX3_does_96 (Nat.le_of_ble_eq_true rfl) (Nat.le_of_ble_eq_true rfl) (Nat.le_of_ble_eq_true rfl) (Nat.le_of_ble_eq_true rfl) (Nat.le_of_ble_eq_true rfl) (ofS ?_)
    rcases far_N hct hv with ⟨cq, hc, hc64, ho, e1, e2⟩ | ⟨hc, ho⟩
    · rw [ho, e1, e2]
      rw [hc] at en
      dsimp only at en
      refine g_if_ne C (tgt := 104) dX3_does_99 (by decide) (fun q1 => ?_) (fun q1 => ?_)
      · refine g_iload_n C dX3_does_104 rfl ?_
        refine g_iconst C (v := nI 3) dX3_does_105 (by decide) ?_
        refine g_icmp_neN C (tgt := 195) dX3_does_106 (by decide) (by omega) (by omega) (fun q2 => ?_) (fun q2 => ?_)
        · exact endk cq f pos h _ _ _ (hup_same ha).symm r en
        · omega
      · exact absurd q1 (by decide)
    · rw [ho]
      rw [hc] at en
      dsimp only at en
      refine g_if_ne C (tgt := 104) dX3_does_99 (by decide) (fun q => absurd rfl q) (fun q => ?_)
      refine g_iconst C (v := nI 0) dX3_does_102 (by decide) ?_
      exact g_zret C hr (by first | exact Or.inl rfl | exact Or.inr rfl) dX3_does_103 (Nat.le_of_ble_eq_true rfl) (Nat.le_of_ble_eq_true rfl) (pDo_n en)
  refine g_iload_n C dX3_does_0 rfl ?_
  refine g_iconst C (v := nI 1) dX3_does_1 (by decide) ?_
  refine g_icmp_eqN C (tgt := 10) dX3_does_2 (by decide) (by omega) (by omega) (fun q0 => ?_) (fun q0 => ?_)
  · omega
  · refine g_iload_n C dX3_does_5 rfl ?_
    refine g_iconst C (v := nI 2) dX3_does_6 (by decide) ?_
    refine g_icmp_neN C (tgt := 74) dX3_does_7 (by decide) (by omega) (by omega) (fun q00 => ?_) (fun q00 => ?_)
    · exact a74
    · omega
set_option maxRecDepth 100000 in
set_option maxHeartbeats 4000000 in
theorem K_X3_does3 (l : Launch) (Y : YG) {a np ct lb : Nat} {pos : Nat → Nat} {f : Nat → Int32} {h : AH} (ha : h a = some (aI Y (2 + 3 * np) f)) (r : StR np ct pos lb f) (hnp : np ≤ 16) (hct : ct < 64) (hpos : ∀ q, q < np → pos q < 64) {v : Nat} (hv : v < 8) : MX l Y yX3_does cX3_does 8 (some .boolean) 1 23 0 0 [.ref a, .int (nI 3), .int (nI v)] h (pDo Y np a h (nxt np ct pos lb 3 v)) (noX) := by
  refine MX.of (by decide +kernel) (Nat.le_of_ble_eq_true rfl) ?_
  intro p e s m args0 below meth c C hr hout hnm
  have en : nxt np ct pos lb 3 v = (match fa ct v with
      | none => none
      | some a => match pon pos a np 0 with
        | none => none
        | some q => if lb.testBit q = true then none else match fa a v with
          | none => none
          | some b => match pon pos b np 0 with
            | none => some (a, uN pos q b, lb)
            | some _ => none) := rfl
  have endk : ∀ (cq : Nat) (f1 : Nat → Int32) (pos1 : Nat → Nat) (h1 : AH) (w5 w6 w7 : Option Value), h1 = hup h a (aI Y (2 + 3 * np) f1) → StR np ct pos1 lb f1 → nxt np ct pos lb 3 v = some (cq, pos1, lb) → Gd p l e (rmO 1 23 0 0) s m args0 below meth c (vx_MQ below (Qk Y (pDo Y np a h (nxt np ct pos lb 3 v))) (Xk Y (noX)) args0 s 0 0 Y.A) Y 8 195 [some (.ref a), some (.int (nI 3)), some (.int (nI v)), some (.int (nI (cq / 8))), some (.int (nI (cq % 8))), w5, w6, w7] [] h1 0 0 := by
    intro cq f1 pos1 h1 w5 w6 w7 e1 r1 e2
    subst e1
    refine g_aload_n C dX3_does_195 rfl (by first | rfl | exact isR_rf _) ?_
    refine g_iconst C (v := nI 0) dX3_does_196 (by decide) ?_
    refine g_iload_n C dX3_does_197 rfl ?_
    refine g_iast C hup_eq rfl (show 0 < 2 + 3 * np by omega) (by omega) dX3_does_198 ?_
    rw [hup_hup]
    refine g_aload_n C dX3_does_199 rfl (by first | rfl | exact isR_rf _) ?_
    refine g_iconst C (v := nI 1) dX3_does_200 (by decide) ?_
    refine g_iload C dX3_does_201 rfl ?_
    refine g_iast C hup_eq rfl (show 1 < 2 + 3 * np by omega) (by omega) dX3_does_203 ?_
    rw [hup_hup]
    refine g_iconst C (v := nI 1) dX3_does_204 (by decide) ?_
    exact g_zret C hr (by first | exact Or.inl rfl | exact Or.inr rfl) dX3_does_205 (Nat.le_of_ble_eq_true rfl) (Nat.le_of_ble_eq_true rfl) (pDo_s e2 r1.cat)
  have no : ∀ (w3 w4 w5 w6 w7 : Option Value), nxt np ct pos lb 3 v = none → Gd p l e (rmO 1 23 0 0) s m args0 below meth c (vx_MQ below (Qk Y (pDo Y np a h (nxt np ct pos lb 3 v))) (Xk Y (noX)) args0 s 0 0 Y.A) Y 8 173 [some (.ref a), some (.int (nI 3)), some (.int (nI v)), w3, w4, w5, w6, w7] [] h 0 0 := by
    intro w3 w4 w5 w6 w7 e0
    refine g_iconst C (v := nI 0) dX3_does_173 (by decide) ?_
    exact g_zret C hr (by first | exact Or.inl rfl | exact Or.inr rfl) dX3_does_174 (Nat.le_of_ble_eq_true rfl) (Nat.le_of_ble_eq_true rfl) (pDo_n e0)
  have a74 : Gd p l e (rmO 1 23 0 0) s m args0 below meth c (vx_MQ below (Qk Y (pDo Y np a h (nxt np ct pos lb 3 v))) (Xk Y (noX)) args0 s 0 0 Y.A) Y 8 74 [some (.ref a), some (.int (nI 3)), some (.int (nI v)), none, none, none, none, none] [] h 0 0 := by
    refine g_aload_n C dX3_does_74 rfl (by first | rfl | exact isR_rf _) ?_
    refine g_iconst C (v := nI 0) dX3_does_75 (by decide) ?_
    refine g_iald C ha rfl (show 0 < 2 + 3 * np by omega) (by omega) dX3_does_76 ?_
    rw [r.1]
    refine g_iload_n C dX3_does_77 rfl ?_
    refine g_callS C ((K_X3_aside l Y (nI v)).K) ok_X3_aside w515 rfl rfl dX3_does_78 (Nat.le_of_ble_eq_true rfl) (Nat.le_of_ble_eq_true rfl) (Nat.le_of_ble_eq_true rfl) (Nat.le_of_ble_eq_true rfl) (Nat.le_of_ble_eq_true rfl) (ofS ?_)
    rw [asF_ok v hv]
    first | with_reducible refine g_iaddN C dX3_does_81 ?_ | refine g_iadd C dX3_does_81 ?_
    refine g_istore_n C dX3_does_82 (by decide) ?_
    refine g_aload_n C dX3_does_83 rfl (by first | rfl | exact isR_rf _) ?_
    refine g_iconst C (v := nI 1) dX3_does_84 (by decide) ?_
    refine g_iald C ha rfl (show 1 < 2 + 3 * np by omega) (by omega) dX3_does_85 ?_
    rw [r.2.1]
    refine g_iload_n C dX3_does_86 rfl ?_
    refine g_callS C ((K_X3_ahead l Y (nI v)).K) ok_X3_ahead w518 rfl rfl dX3_does_87 (Nat.le_of_ble_eq_true rfl) (Nat.le_of_ble_eq_true rfl) (Nat.le_of_ble_eq_true rfl) (Nat.le_of_ble_eq_true rfl) (Nat.le_of_ble_eq_true rfl) (ofS ?_)
    rw [ahF_ok v hv]
    first | with_reducible refine g_iaddN C dX3_does_90 ?_ | refine g_iadd C dX3_does_90 ?_
    refine g_istore C dX3_does_91 (by decide) ?_
    refine g_iload_n C dX3_does_93 rfl ?_
    refine g_iload C dX3_does_94 rfl ?_
    refine g_callS C ((K_X3_isOn l Y _ _).K) ok_X3_isOn w521 rfl rfl dX3_does_96 (Nat.le_of_ble_eq_true rfl) (Nat.le_of_ble_eq_true rfl) (Nat.le_of_ble_eq_true rfl) (Nat.le_of_ble_eq_true rfl) (Nat.le_of_ble_eq_true rfl) (ofS ?_)
    rcases far_N hct hv with ⟨cq, hc, hc64, ho, e1, e2⟩ | ⟨hc, ho⟩
    · rw [ho, e1, e2]
      rw [hc] at en
      dsimp only at en
      refine g_if_ne C (tgt := 104) dX3_does_99 (by decide) (fun q1 => ?_) (fun q1 => absurd q1 (by decide))
      refine g_iload_n C dX3_does_104 rfl ?_
      refine g_iconst C (v := nI 3) dX3_does_105 (by decide) ?_
      refine g_icmp_neN C (tgt := 195) dX3_does_106 (by decide) (by omega) (by omega) (fun q2 => by omega) (fun q2 => ?_)
      refine g_aload_n C dX3_does_109 rfl (by first | rfl | exact isR_rf _) ?_
      refine g_iload_n C dX3_does_110 rfl ?_
      refine g_iload C dX3_does_111 rfl ?_
      refine g_callS C ((K_X3_pieceAt l Y ha r hnp hct hpos hc64).K) ok_X3_pieceAt w524 rfl rfl dX3_does_113 (Nat.le_of_ble_eq_true rfl) (Nat.le_of_ble_eq_true rfl) (Nat.le_of_ble_eq_true rfl) (Nat.le_of_ble_eq_true rfl) (Nat.le_of_ble_eq_true rfl) (ofS ?_)
      refine g_istore C dX3_does_116 (by decide) ?_
      refine g_iload_n C dX3_does_118 rfl ?_
      refine g_iload_n C dX3_does_119 rfl ?_
      refine g_callS C ((K_X3_aside l Y (nI v)).K) ok_X3_aside w515 rfl rfl dX3_does_120 (Nat.le_of_ble_eq_true rfl) (Nat.le_of_ble_eq_true rfl) (Nat.le_of_ble_eq_true rfl) (Nat.le_of_ble_eq_true rfl) (Nat.le_of_ble_eq_true rfl) (ofS ?_)
      rw [asF_ok v hv]
      first | with_reducible refine g_iaddN C dX3_does_123 ?_ | refine g_iadd C dX3_does_123 ?_
      refine g_istore C dX3_does_124 (by decide) ?_
      refine g_iload C dX3_does_126 rfl ?_
      refine g_iload_n C dX3_does_128 rfl ?_
      refine g_callS C ((K_X3_ahead l Y (nI v)).K) ok_X3_ahead w518 rfl rfl dX3_does_129 (Nat.le_of_ble_eq_true rfl) (Nat.le_of_ble_eq_true rfl) (Nat.le_of_ble_eq_true rfl) (Nat.le_of_ble_eq_true rfl) (Nat.le_of_ble_eq_true rfl) (ofS ?_)
      rw [ahF_ok v hv]
      first | with_reducible refine g_iaddN C dX3_does_132 ?_ | refine g_iadd C dX3_does_132 ?_
      refine g_istore C dX3_does_133 (by decide) ?_
      cases hp : pon pos cq np 0 with
      | none =>
        rw [hp] at en
        dsimp only at en
        refine g_iload C dX3_does_135 rfl ?_
        refine g_if_lt C (tgt := 173) dX3_does_137 (by decide) (fun q => no _ _ _ _ _ en) (fun q => absurd (by decide) q)
      | some p1 =>
        rw [hp] at en
        dsimp only at en
        obtain ⟨-, hp1, hpc⟩ := pon_lt hp
        have hpn : p1 < np := by omega
        show Gd p l e (rmO 1 23 0 0) s m args0 below meth c (vx_MQ below (Qk Y (pDo Y np a h (nxt np ct pos lb 3 v))) (Xk Y (noX)) args0 s 0 0 Y.A) Y 8 135 [some (.ref a), some (.int (nI 3)), some (.int (nI v)), some (.int (nI (cq / 8))), some (.int (nI (cq % 8))), some (.int (nI p1)), some (.int (nI (cq / 8) + colS v)), some (.int (nI (cq % 8) + rowS v))] [] h 0 0
        refine g_iload C dX3_does_135 rfl ?_
        refine g_if_lt C (tgt := 173) dX3_does_137 (by decide) (fun q3 => ?_) (fun q3 => ?_)
        · exact absurd q3 (nI_pos (by omega))
        · refine g_aload_n C dX3_does_140 rfl (by first | rfl | exact isR_rf _) ?_
          refine g_iconst C (v := nI 4) dX3_does_141 (by decide) ?_
          refine g_iconst C (v := nI 3) dX3_does_142 (by decide) ?_
          refine g_iload C dX3_does_143 rfl ?_
          first | with_reducible refine g_imulN C dX3_does_145 ?_ | refine g_imul C dX3_does_145 ?_
          first | with_reducible refine g_iaddN C dX3_does_146 ?_ | refine g_iadd C dX3_does_146 ?_
          refine g_iald C ha rfl (show 4 + 3 * p1 < 2 + 3 * np by omega) (by omega) dX3_does_147 ?_
          rw [(r.2.2 p1 hpn).2.2]
          refine g_iconst C (v := nI 1) dX3_does_148 (by decide) ?_
          refine g_icmp_eqN C (tgt := 173) dX3_does_149 (by decide) (by split <;> omega) (by omega) (fun q4 => ?_) (fun q4 => ?_)
          · exact no _ _ _ _ _ (by rw [en, if_pos (by cases hz : lb.testBit p1 <;> rw [hz] at q4 <;> first | rfl | exact absurd q4 (by decide))])
          · have hlp : ¬ lb.testBit p1 = true := fun z => by rw [z] at q4; exact q4 rfl
            rw [if_neg hlp] at en
            refine g_iload C dX3_does_152 rfl ?_
            refine g_iload C dX3_does_154 rfl ?_
            refine g_callS C ((K_X3_isOn l Y _ _).K) ok_X3_isOn w521 rfl rfl dX3_does_156 (Nat.le_of_ble_eq_true rfl) (Nat.le_of_ble_eq_true rfl) (Nat.le_of_ble_eq_true rfl) (Nat.le_of_ble_eq_true rfl) (Nat.le_of_ble_eq_true rfl) (ofS ?_)
            rcases far_N hc64 hv with ⟨b, hb, hb64, ho2, e3, e4⟩ | ⟨hb, ho2⟩
            · rw [ho2, e3, e4]
              rw [hb] at en
              dsimp only at en
              refine g_if_eq C (tgt := 173) dX3_does_159 (by decide) (fun q => absurd q (by decide)) (fun q5 => ?_)
              refine g_aload_n C dX3_does_162 rfl (by first | rfl | exact isR_rf _) ?_
              refine g_iload C dX3_does_163 rfl ?_
              refine g_iload C dX3_does_165 rfl ?_
              refine g_callS C ((K_X3_pieceAt l Y ha r hnp hct hpos hb64).K) ok_X3_pieceAt w524 rfl rfl dX3_does_167 (Nat.le_of_ble_eq_true rfl) (Nat.le_of_ble_eq_true rfl) (Nat.le_of_ble_eq_true rfl) (Nat.le_of_ble_eq_true rfl) (Nat.le_of_ble_eq_true rfl) (ofS ?_)
              cases hp2 : pon pos b np 0 with
              | some p2 =>
                rw [hp2] at en
                obtain ⟨-, hp3, -⟩ := pon_lt hp2
                refine g_if_lt C (tgt := 175) dX3_does_170 (by decide) (fun q => absurd q (nI_pos (show p2 < 2 ^ 31 by omega))) (fun q => no _ _ _ _ _ en)
              | none =>
                rw [hp2] at en
                dsimp only at en
                refine g_if_lt C (tgt := 175) dX3_does_170 (by decide) (fun q => ?_) (fun q => absurd (by decide) q)
                refine g_aload_n C dX3_does_175 rfl (by first | rfl | exact isR_rf _) ?_
                refine g_iconst C (v := nI 2) dX3_does_176 (by decide) ?_
                refine g_iconst C (v := nI 3) dX3_does_177 (by decide) ?_
                refine g_iload C dX3_does_178 rfl ?_
                first | with_reducible refine g_imulN C dX3_does_180 ?_ | refine g_imul C dX3_does_180 ?_
                first | with_reducible refine g_iaddN C dX3_does_181 ?_ | refine g_iadd C dX3_does_181 ?_
                refine g_iload C dX3_does_182 rfl ?_
                refine g_iast C ha rfl (show 2 + 3 * p1 < 2 + 3 * np by omega) (by omega) dX3_does_184 ?_
                refine g_aload_n C dX3_does_185 rfl (by first | rfl | exact isR_rf _) ?_
                refine g_iconst C (v := nI 3) dX3_does_186 (by decide) ?_
                refine g_iconst C (v := nI 3) dX3_does_187 (by decide) ?_
                refine g_iload C dX3_does_188 rfl ?_
                first | with_reducible refine g_imulN C dX3_does_190 ?_ | refine g_imul C dX3_does_190 ?_
                first | with_reducible refine g_iaddN C dX3_does_191 ?_ | refine g_iadd C dX3_does_191 ?_
                refine g_iload C dX3_does_192 rfl ?_
                refine g_iast C hup_eq rfl (show 3 + 3 * p1 < 2 + 3 * np by omega) (by omega) dX3_does_194 ?_
                rw [hup_hup]
                exact endk cq _ (uN pos p1 b) _ _ _ _ rfl r.move en
            · rw [ho2]
              rw [hb] at en
              dsimp only at en
              refine g_if_eq C (tgt := 173) dX3_does_159 (by decide) (fun q => no _ _ _ _ _ en) (fun q => absurd rfl q)
    · rw [ho]
      rw [hc] at en
      dsimp only at en
      refine g_if_ne C (tgt := 104) dX3_does_99 (by decide) (fun q => absurd rfl q) (fun q => ?_)
      refine g_iconst C (v := nI 0) dX3_does_102 (by decide) ?_
      exact g_zret C hr (by first | exact Or.inl rfl | exact Or.inr rfl) dX3_does_103 (Nat.le_of_ble_eq_true rfl) (Nat.le_of_ble_eq_true rfl) (pDo_n en)
  refine g_iload_n C dX3_does_0 rfl ?_
  refine g_iconst C (v := nI 1) dX3_does_1 (by decide) ?_
  refine g_icmp_eqN C (tgt := 10) dX3_does_2 (by decide) (by omega) (by omega) (fun q0 => ?_) (fun q0 => ?_)
  · omega
  · refine g_iload_n C dX3_does_5 rfl ?_
    refine g_iconst C (v := nI 2) dX3_does_6 (by decide) ?_
    refine g_icmp_neN C (tgt := 74) dX3_does_7 (by decide) (by omega) (by omega) (fun q00 => ?_) (fun q00 => ?_)
    · exact a74
    · omega
theorem K_X3_does (l : Launch) (Y : YG) {a np ct lb : Nat} {pos : Nat → Nat} {f : Nat → Int32} {h : AH} (ha : h a = some (aI Y (2 + 3 * np) f)) (r : StR np ct pos lb f) (hnp : np ≤ 16) (hct : ct < 64) (hpos : ∀ q, q < np → pos q < 64) {k v : Nat} (hk : k < 4) (hv : v < 16) (hv8 : k = 0 ∨ k = 3 → v < 8) : MX l Y yX3_does cX3_does 8 (some .boolean) 1 23 0 0 [.ref a, .int (nI k), .int (nI v)] h (pDo Y np a h (nxt np ct pos lb k v)) noX := by
  have : k = 0 ∨ k = 1 ∨ k = 2 ∨ k = 3 := by omega
  rcases this with rfl | rfl | rfl | rfl
  · exact K_X3_does0 l Y ha r hnp hct hpos (hv8 (Or.inl rfl))
  · exact K_X3_does1 l Y ha r hnp hct hpos hv
  · exact K_X3_does2 l Y ha r hnp hct hpos hv
  · exact K_X3_does3 l Y ha r hnp hct hpos (hv8 (Or.inr rfl))
theorem and31b (w : Int32) : ∃ n, n < 2 ^ 31 ∧ w &&& nI 2147483647 = nI n := by
  refine ⟨(w.toBitVec &&& 2147483647#32).toNat, ?_, ?_⟩
  · rw [BitVec.toNat_and]
    exact Nat.lt_succ_of_le (Nat.le_trans Nat.and_le_right (by decide))
  · apply Int32.toBitVec_inj.1
    show w.toBitVec &&& 2147483647#32 = BitVec.ofNat 32 _
    rw [BitVec.ofNat_toNat]
    simp
def pBl (N : Nat) (h : AH) : Option Value → AH → Prop := fun vv h2 => ∃ u, u < N ∧ vv = some (.int (nI u)) ∧ h2 = h
def pAny (h : AH) : Option Value → AH → Prop := fun vv h2 => ∃ u : Int32, vv = some (.int u) ∧ h2 = h
set_option maxRecDepth 100000 in
set_option maxHeartbeats 4000000 in
theorem K_L_below (l : Launch) (Y : YG) {h : AH} (x : Int32) {N : Nat} (hN : 0 < N ∧ N < 2 ^ 31) : MX l Y yL_below cL_below 2 (some .int) 0 0 0 0 [.int x, .int (nI N)] h (pBl N h) (noX) := by
  refine MX.of (by decide +kernel) (Nat.le_of_ble_eq_true rfl) ?_
  intro p e s m args0 below meth c C hr hout hnm
  obtain ⟨u, hu, eu⟩ := and31b x
  refine g_iload_n C dL_below_0 rfl ?_
  refine g_ldc C dL_below_1 w581 ?_
  refine g_iand C dL_below_3 ?_
  rw [show (2147483647 : Int32) = nI 2147483647 from rfl, eu]
  refine g_iload_n C dL_below_4 rfl ?_
  refine g_iremN C dL_below_5 hu hN ?_
  exact g_iret C hr dL_below_6 (Nat.le_of_ble_eq_true rfl) (Nat.le_of_ble_eq_true rfl) (⟨u % N, Nat.mod_lt _ hN.1, rfl, rfl⟩)
section GD
variable {p : Program} {l : Launch} {e : Env} {R : Room} {s : State} {m : MethodId} {args : Array Value} {below : List Frame} {meth : Method} {c : Code} {Q : State → Prop} {Y : YG} {nL : Nat} {cc : ByteArray} {own : String} {pc : Nat} {lv : List (Option Value)} {st : List Value} {h : AH} {k n : Nat}
theorem g_sld (C : Cx p s m args meth c Y cc nL own) {j : Nat} {i : Int32} (hi : i = nI j) (hj : j < Y.sL) (hL : Y.sL < 2 ^ 31) (hd : decode cc pc = .ok (.iaload, 1)) (kk : ∀ x : Int32, Gd p l e R s m args below meth c Q Y nL (pc + 1) lv (.int x :: st) h k n) : Gd p l e R s m args below meth c Q Y nL pc lv (.int i :: .ref Y.sb :: st) h k n := by
  subst hi
  obtain ⟨hbA, xs, hX⟩ := tf_scr C
  have hbl : Y.sb < s.heap.size := by
    obtain ⟨c, hc, -⟩ := hX
    exact (Array.getElem?_eq_some_iff.mp hc).1
  obtain ⟨hx, hb, hml, hown, hts, hK, -, hA, -⟩ := C
  intro H locs ls hc hS hl
  exact va_sld hx hb hX hbl hbA hS (vp_in_nI hj hL) hd (kk _ H locs ls hc hS hl)
theorem g_slen (C : Cx p s m args meth c Y cc nL own) (hd : decode cc pc = .ok (.arraylength, 1)) (kk : Gd p l e R s m args below meth c Q Y nL (pc + 1) lv (.int (nI Y.sL) :: st) h k n) : Gd p l e R s m args below meth c Q Y nL pc lv (.ref Y.sb :: st) h k n := by
  obtain ⟨hbA, xs, hX⟩ := tf_scr C
  have hbl : Y.sb < s.heap.size := by
    obtain ⟨c, hc, -⟩ := hX
    exact (Array.getElem?_eq_some_iff.mp hc).1
  obtain ⟨hx, hb, hml, hown, hts, hK, -, hA, -⟩ := C
  intro H locs ls hc hS hl
  exact va_slen hx hb hX hbl hbA hS hd (kk H locs ls hc hS hl)
end GD
set_option maxRecDepth 100000 in
set_option maxHeartbeats 4000000 in
theorem K_L_cell (l : Launch) (Y : YG) {h : AH} {k : Nat} (hk : k < 1000)  (hsL : Y.sL ≤ 260) : MX l Y yL_cell cL_cell 2 (some .int) 0 0 0 0 [.ref Y.sb, .int (nI k)] h (pAny h) (noX) := by
  refine MX.of (by decide +kernel) (Nat.le_of_ble_eq_true rfl) ?_
  intro p e s m args0 below meth c C hr hout hnm
  refine g_iload_n C dL_cell_0 rfl ?_
  refine g_aload_n C dL_cell_1 rfl (by first | rfl | exact isR_rf _) ?_
  refine g_slen C dL_cell_2 ?_
  refine g_icmp_geN C (tgt := 12) dL_cell_3 (by decide) (by omega) (by omega) (fun q1 => ?_) (fun q1 => ?_)
  · refine g_ldc C dL_cell_12 w585 ?_
    refine g_iload_n C dL_cell_14 rfl ?_
    refine g_iconst C (v := nI 3) dL_cell_15 (by decide) ?_
    first | with_reducible refine g_iaddN C dL_cell_16 ?_ | refine g_iadd C dL_cell_16 ?_
    first | with_reducible refine g_imulN C dL_cell_17 ?_ | refine g_imul C dL_cell_17 ?_
    exact g_iret C hr dL_cell_18 (Nat.le_of_ble_eq_true rfl) (Nat.le_of_ble_eq_true rfl) (⟨_, rfl, rfl⟩)
  · refine g_aload_n C dL_cell_6 rfl (by first | rfl | exact isR_rf _) ?_
    refine g_iload_n C dL_cell_7 rfl ?_
    refine g_sld C rfl q1 (by omega) dL_cell_8 (fun x => ?_)
    refine g_goto C (tgt := 18) dL_cell_9 (by decide) ?_
    exact g_iret C hr dL_cell_18 (Nat.le_of_ble_eq_true rfl) (Nat.le_of_ble_eq_true rfl) (⟨_, rfl, rfl⟩)
