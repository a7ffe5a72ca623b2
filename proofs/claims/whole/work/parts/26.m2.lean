theorem lc_stepD {g : Sg} (iv : Inv g) {a b : Nat} (hne : a ≠ b) (h : g.dp b ≤ g.dp a) : lc g.par (g.par a) b = lc g.par a b := by
  refine (lc_of iv.tr (mt_up iv.tr ?_ (lc_mt iv.tr (g.par a) b))).symm
  cases hz : an g.par a b with
  | false => rfl
  | true =>
    rcases dp_an iv.tr iv.dp hz with q | q
    · exact absurd q hne
    · omega
theorem lc_stepD2 {g : Sg} (iv : Inv g) {a b : Nat} (hne : a ≠ b) (h : g.dp a ≤ g.dp b) : lc g.par a (g.par b) = lc g.par a b := by
  refine (lc_of iv.tr (mt_sym (mt_up iv.tr ?_ (mt_sym (lc_mt iv.tr a (g.par b)))))).symm
  cases hz : an g.par b a with
  | false => rfl
  | true =>
    rcases dp_an iv.tr iv.dp hz with q | q
    · exact absurd q.symm hne
    · omega
theorem dp_pos {g : Sg} (iv : Inv g) {a b : Nat} (hne : a ≠ b) (h : g.dp b ≤ g.dp a) : 0 < a := by
  rcases Nat.eq_zero_or_pos a with q | q
  · subst q
    rw [iv.dp.1] at h
    exact absurd (dp_0 iv.dp (by omega : g.dp b = 0)).symm hne
  · exact q
theorem parO_pos {g : Sg} {a : Nat} (h : 0 < a) : parO g a = some (g.par a) := if_neg (by omega)
theorem end_ch {g : Sg} (iv : Inv g) {j : Nat} (hj : j < g.n) : enB g j = decide (chN g.par g.n j = 0) := by
  unfold enB
  cases hl : g.last j with
  | none =>
    have : chN g.par g.n j = 0 := cnt_0.mpr (fun k hk => by
      unfold isCh
      cases hz : (decide (0 < k) && g.par k == j) with
      | false => rfl
      | true =>
        simp only [Bool.and_eq_true, decide_eq_true_eq, beq_iff_eq] at hz
        have := iv.some hz.1 hk
        rw [hz.2] at this
        exact absurd hl this)
    rw [this]; rfl
  | some c =>
    obtain ⟨z1, z2, z3⟩ := iv.last hj hl
    have : ¬ chN g.par g.n j = 0 := fun w => by
      have := cnt_0.mp w c z2
      unfold isCh at this
      rw [decide_eq_true z1, z3] at this
      simp at this
    rw [decide_eq_false this]; rfl
theorem ds_lc {g : Sg} (iv : Inv g) {e k : Nat} (h : e < k) : isDs g.par e k = decide (lc g.par k e = e) := by
  unfold isDs
  rw [decide_eq_true h, Bool.true_and]
  cases hz : an g.par e k with
  | true => rw [decide_eq_true ((lc_iff iv.tr).mpr hz)]
  | false => rw [decide_eq_false (fun w => by rw [(lc_iff iv.tr).mp w] at hz; cases hz)]
theorem kn_0 {g : Sg} (iv : Inv g) (q : Nat) : knB g q 0 = false := by
  unfold knB
  rw [iv.2.2.2.1.1]
  rw [decide_eq_false (by decide)]
  rfl
theorem lk_bits {g : Sg} (iv : Inv g) {a b : Nat} (ha : a < g.n) (hb : b < g.n) : lkB g a b = decide (g.ct a = g.ct b ∧ ∀ q, q < g.np → pq g a q = pq g b q) := by
  unfold lkB aliB
  refine decide_eq_decide.mpr ⟨fun ⟨z1, z2, z3⟩ => ⟨z1, fun q hq => by unfold pq; rw [z2, z3 q hq]⟩, fun ⟨z1, z2⟩ => ?_⟩
  have key : ∀ q, q < g.np → g.pos a q = g.pos b q ∧ (g.lb a).testBit q = (g.lb b).testBit q := fun q hq => by
    have h1 := iv.pos ha hq
    have h2 := iv.pos hb hq
    have h3 := z2 q hq
    unfold pq at h3
    cases e1 : (g.lb a).testBit q <;> cases e2 : (g.lb b).testBit q <;> rw [e1, e2] at h3 <;> simp at h3 <;> first | exact ⟨by omega, rfl⟩ | omega
  refine ⟨z1, Nat.eq_of_testBit_eq (fun q => ?_), fun q hq => (key q hq).1⟩
  rcases Nat.lt_or_ge q g.np with hq | hq
  · exact (key q hq).2
  · rw [Nat.testBit_lt_two_pow (Nat.lt_of_lt_of_le (iv.lb ha) (Nat.pow_le_pow_right (by decide) hq)), Nat.testBit_lt_two_pow (Nat.lt_of_lt_of_le (iv.lb hb) (Nat.pow_le_pow_right (by decide) hq))]
set_option maxRecDepth 100000 in
set_option maxHeartbeats 4000000 in
theorem K_X3_meeting (l : Launch) (Y : YG) {x : Nat} {th : Int32} {ar : Nat → Nat} {f : Nat → Nat → Int32} {g : Sg} {h : AH} (r : RepM Y x th ar f g h) (iv : Inv g) {a b : Nat} (ha : a < g.n) (hb : b < g.n) : MX l Y yX3_meeting cX3_meeting 5 (some .int) 0 0 0 0 [.ref x, .int (nI a), .int (nI b)] h (pS (some (.int (nI (lc g.par a b)))) h) (noX) := by
  have hn60 := iv.n60
  have hnp16 := iv.np
  have hnow := iv.now
  have hn1 := iv.n1
  refine MX.of (by decide +kernel) (Nat.le_of_ble_eq_true rfl) ?_
  intro p e s m args0 below meth c C hr hout hnm
  have lp : ∀ (d a1 b1 : Nat), a1 + b1 < d → a1 < g.n → b1 < g.n → lc g.par a1 b1 = lc g.par a b → Gd p l e (rmO 0 0 0 0) s m args0 below meth c (vx_MQ below (Qk Y (pS (some (.int (nI (lc g.par a b)))) h)) (Xk Y (noX)) args0 s 0 0 Y.A) Y 5 5 [some (.ref x), some (.int (nI a)), some (.int (nI b)), some (.int (nI a1)), some (.int (nI b1))] [] h 0 0 := by
    intro d
    induction d with
    | zero => intro a1 b1 h1; omega
    | succ d ih =>
      intro a1 b1 hd h1 h2 hS
      have d1 := iv.dp60 h1
      have d2 := iv.dp60 h2
      refine g_iload_n C dX3_meeting_5 rfl ?_
      refine g_iload C dX3_meeting_6 rfl ?_
      refine g_icmp_eqN C (tgt := 49) dX3_meeting_8 (by decide) (by omega) (by omega) (fun q1 => ?_) (fun q1 => ?_)
      · subst q1
        rw [lc_rf iv.tr] at hS
        refine g_iload_n C dX3_meeting_49 rfl ?_
        exact g_iret C hr dX3_meeting_50 (Nat.le_of_ble_eq_true rfl) (Nat.le_of_ble_eq_true rfl) (⟨by rw [hS], rfl⟩)
      · refine g_aload_n C dX3_meeting_11 rfl (by first | rfl | exact isR_rf _) ?_
        refine gf_X3_23 C (r.x) rfl dX3_meeting_12 ?_
        refine g_iload_n C dX3_meeting_15 rfl ?_
        refine g_iald C r.a3 rfl (show a1 < 60 by omega) (by decide) dX3_meeting_16 ?_
        rw [r.rw.dp h1]
        refine g_aload_n C dX3_meeting_17 rfl (by first | rfl | exact isR_rf _) ?_
        refine gf_X3_23 C (r.x) rfl dX3_meeting_18 ?_
        refine g_iload C dX3_meeting_21 rfl ?_
        refine g_iald C r.a3 rfl (show b1 < 60 by omega) (by decide) dX3_meeting_23 ?_
        rw [r.rw.dp h2]
        refine g_icmp_ltN C (tgt := 37) dX3_meeting_24 (by decide) (by omega) (by omega) (fun q2 => ?_) (fun q2 => ?_)
        · have hp := dp_pos iv (Ne.symm q1) (Nat.le_of_lt q2)
          have hlt := iv.tr.2 b1 hp
          refine g_aload_n C dX3_meeting_37 rfl (by first | rfl | exact isR_rf _) ?_
          refine gf_X3_13 C (r.x) rfl dX3_meeting_38 ?_
          refine g_iload C dX3_meeting_41 rfl ?_
          refine g_iald C r.a0 rfl (show b1 < 60 by omega) (by decide) dX3_meeting_43 ?_
          rw [r.rw.on h2, parO_pos hp]
          refine g_istore C dX3_meeting_44 (by decide) ?_
          refine g_goto C (tgt := 5) dX3_meeting_46 (by decide) ?_
          exact ih a1 (g.par b1) (by omega) h1 (by omega) ((lc_stepD2 iv q1 (Nat.le_of_lt q2)).trans hS)
        · have hp := dp_pos iv q1 q2
          have hlt := iv.tr.2 a1 hp
          refine g_aload_n C dX3_meeting_27 rfl (by first | rfl | exact isR_rf _) ?_
          refine gf_X3_13 C (r.x) rfl dX3_meeting_28 ?_
          refine g_iload_n C dX3_meeting_31 rfl ?_
          refine g_iald C r.a0 rfl (show a1 < 60 by omega) (by decide) dX3_meeting_32 ?_
          rw [r.rw.on h1, parO_pos hp]
          refine g_istore_n C dX3_meeting_33 (by decide) ?_
          refine g_goto C (tgt := 5) dX3_meeting_34 (by decide) ?_
          exact ih (g.par a1) b1 (by omega) (by omega) h2 ((lc_stepD iv q1 q2).trans hS)
  refine g_iload_n C dX3_meeting_0 rfl ?_
  refine g_istore_n C dX3_meeting_1 (by decide) ?_
  refine g_iload_n C dX3_meeting_2 rfl ?_
  refine g_istore C dX3_meeting_3 (by decide) ?_
  exact lp (a + b + 1) a b (Nat.lt_succ_self _) ha hb rfl
set_option maxRecDepth 100000 in
set_option maxHeartbeats 4000000 in
theorem K_X3_way (l : Launch) (Y : YG) {x : Nat} {th : Int32} {ar : Nat → Nat} {f : Nat → Nat → Int32} {g : Sg} {h : AH} (r : RepM Y x th ar f g h) (iv : Inv g) {a b : Nat} (ha : a < g.n) (hb : b < g.n) : MX l Y yX3_way cX3_way 3 (some .int) 1 24 0 0 [.ref x, .int (nI a), .int (nI b)] h (pS (some (.int (nI (wy g a b)))) h) (noX) := by
  have hn60 := iv.n60
  have hnp16 := iv.np
  have hnow := iv.now
  have hn1 := iv.n1
  refine MX.of (by decide +kernel) (Nat.le_of_ble_eq_true rfl) ?_
  intro p e s m args0 below meth c C hr hout hnm
  have hl := lc_le iv.tr a b
  have hd := dp_lc iv a b
  refine g_aload_n C dX3_way_0 rfl (by first | rfl | exact isR_rf _) ?_
  refine gf_X3_23 C (r.x) rfl dX3_way_1 ?_
  refine g_iload_n C dX3_way_4 rfl ?_
  refine g_iald C r.a3 rfl (show a < 60 by omega) (by decide) dX3_way_5 ?_
  rw [r.rw.dp ha]
  refine g_aload_n C dX3_way_6 rfl (by first | rfl | exact isR_rf _) ?_
  refine gf_X3_23 C (r.x) rfl dX3_way_7 ?_
  refine g_iload_n C dX3_way_10 rfl ?_
  refine g_iald C r.a3 rfl (show b < 60 by omega) (by decide) dX3_way_11 ?_
  rw [r.rw.dp hb]
  first | with_reducible refine g_iaddN C dX3_way_12 ?_ | refine g_iadd C dX3_way_12 ?_
  refine g_iconst C (v := nI 2) dX3_way_13 (by decide) ?_
  refine g_aload_n C dX3_way_14 rfl (by first | rfl | exact isR_rf _) ?_
  refine gf_X3_23 C (r.x) rfl dX3_way_15 ?_
  refine g_aload_n C dX3_way_18 rfl (by first | rfl | exact isR_rf _) ?_
  refine g_iload_n C dX3_way_19 rfl ?_
  refine g_iload_n C dX3_way_20 rfl ?_
  refine g_callV C ((K_X3_meeting l Y r iv ha hb).K) ok_X3_meeting w795 (r.x) rfl rfl rfl dX3_way_21 (Nat.le_of_ble_eq_true rfl) (Nat.le_of_ble_eq_true rfl) (Nat.le_of_ble_eq_true rfl) (Nat.le_of_ble_eq_true rfl) (Nat.le_of_ble_eq_true rfl) (ofS ?_)
  refine g_iald C r.a3 rfl (show lc g.par a b < 60 by omega) (by decide) dX3_way_24 ?_
  rw [r.rw.dp (show lc g.par a b < g.n by omega)]
  refine g_imulN C dX3_way_25 ?_
  refine g_isubN C (by omega) dX3_way_26 ?_
  exact g_iret C hr dX3_way_27 (Nat.le_of_ble_eq_true rfl) (Nat.le_of_ble_eq_true rfl) (⟨rfl, rfl⟩)
set_option maxRecDepth 100000 in
set_option maxHeartbeats 4000000 in
theorem K_X3_down (l : Launch) (Y : YG) {x : Nat} {th : Int32} {ar : Nat → Nat} {f : Nat → Nat → Int32} {g : Sg} {h : AH} (r : RepM Y x th ar f g h) (iv : Inv g) {a : Nat} (ha : a < g.n) : MX l Y yX3_down cX3_down 5 (some .int) 2 44 0 0 [.ref x, .int (nI a), .int (nI g.np)] h (pS (some (.int (nI (lyN g a)))) h) (noX) := by
  have hn60 := iv.n60
  have hnp16 := iv.np
  have hnow := iv.now
  have hn1 := iv.n1
  refine MX.of (by decide +kernel) (Nat.le_of_ble_eq_true rfl) ?_
  intro p e s m args0 below meth c C hr hout hnm
  have lp : ∀ (d i : Nat), 0 ≤ i → i ≤ g.np → g.np - i < d → Gd p l e (rmO 2 44 0 0) s m args0 below meth c (vx_MQ below (Qk Y (pS (some (.int (nI (lyN g a)))) h)) (Xk Y (noX)) args0 s 0 0 Y.A) Y 5 5 [some (.ref x), some (.int (nI a)), some (.int (nI g.np)), some (.int (nI (popc i (g.lb a)))), some (.int (nI i))] [] h 0 0 := by
    intro d
    induction d with
    | zero => intro i h0 h1 h2; omega
    | succ d ih =>
      intro i h0 hi hd
      refine g_iload C dX3_down_5 rfl ?_
      refine g_iload_n C dX3_down_7 rfl ?_
      refine g_icmp_geN C (tgt := 37) dX3_down_8 (by decide) (by omega) (by omega) (fun q1 => ?_) (fun q1 => ?_)
      · have : i = g.np := by omega
        subst this
        refine g_iload_n C dX3_down_37 rfl ?_
        exact g_iret C hr dX3_down_38 (Nat.le_of_ble_eq_true rfl) (Nat.le_of_ble_eq_true rfl) (⟨rfl, rfl⟩)
      · refine g_iload_n C dX3_down_11 rfl ?_
        refine g_aload_n C dX3_down_12 rfl (by first | rfl | exact isR_rf _) ?_
        refine g_iload_n C dX3_down_13 rfl ?_
        refine g_iload C dX3_down_14 rfl ?_
        refine g_callV C ((K_X3_piece l Y r iv ha q1).K) ok_X3_piece w726 (r.x) rfl rfl rfl dX3_down_16 (Nat.le_of_ble_eq_true rfl) (Nat.le_of_ble_eq_true rfl) (Nat.le_of_ble_eq_true rfl) (Nat.le_of_ble_eq_true rfl) (Nat.le_of_ble_eq_true rfl) (ofS ?_)
        obtain ⟨z1, z2, z3⟩ := pq_mod iv ha q1
        refine g_bipush C (v := nI 100) dX3_down_19 (by decide) ?_
        refine g_icmp_ltN C (tgt := 28) dX3_down_21 (by decide) (by omega) (by omega) (fun q2 => ?_) (fun q2 => ?_)
        · refine g_iconst C (v := nI 0) dX3_down_28 (by decide) ?_
          refine g_iaddN C dX3_down_29 ?_
          refine g_istore_n C dX3_down_30 (by decide) ?_
          refine g_iincN C dX3_down_31 rfl (by decide) ?_
          refine g_goto C (tgt := 5) dX3_down_34 (by decide) ?_
          have := ih (i + 1) (by omega) (by omega) (by omega)
          rw [show popc (i + 1) (g.lb a) = popc i (g.lb a) + 0 from by show cnt _ i + _ = _; rw [if_neg (fun z => by have := z3.mpr z; omega)]; rfl] at this
          exact this
        · refine g_iconst C (v := nI 1) dX3_down_24 (by decide) ?_
          refine g_goto C (tgt := 29) dX3_down_25 (by decide) ?_
          refine g_iaddN C dX3_down_29 ?_
          refine g_istore_n C dX3_down_30 (by decide) ?_
          refine g_iincN C dX3_down_31 rfl (by decide) ?_
          refine g_goto C (tgt := 5) dX3_down_34 (by decide) ?_
          have := ih (i + 1) (by omega) (by omega) (by omega)
          rw [show popc (i + 1) (g.lb a) = popc i (g.lb a) + 1 from by show cnt _ i + _ = _; rw [if_pos (z3.mp q2)]; rfl] at this
          exact this
  refine g_iconst C (v := nI 0) dX3_down_0 (by decide) ?_
  refine g_istore_n C dX3_down_1 (by decide) ?_
  refine g_iconst C (v := nI 0) dX3_down_2 (by decide) ?_
  refine g_istore C dX3_down_3 (by decide) ?_
  exact lp (g.np + 1) 0 (Nat.le_refl _) (Nat.zero_le _) (by omega)
set_option maxRecDepth 100000 in
set_option maxHeartbeats 4000000 in
theorem K_X3_below (l : Launch) (Y : YG) {x : Nat} {th : Int32} {ar : Nat → Nat} {f : Nat → Nat → Int32} {g : Sg} {h : AH} (r : RepM Y x th ar f g h) (iv : Inv g) {a : Nat} (ha : a < g.n) : MX l Y yX3_below cX3_below 4 (some .int) 0 0 0 0 [.ref x, .int (nI a)] h (pS (some (.int (nI (chN g.par g.n a)))) h) (noX) := by
  have hn60 := iv.n60
  have hnp16 := iv.np
  have hnow := iv.now
  have hn1 := iv.n1
  refine MX.of (by decide +kernel) (Nat.le_of_ble_eq_true rfl) ?_
  intro p e s m args0 below meth c C hr hout hnm
  have lp : ∀ (d i : Nat), 1 ≤ i → i ≤ g.n → g.n - i < d → Gd p l e (rmO 0 0 0 0) s m args0 below meth c (vx_MQ below (Qk Y (pS (some (.int (nI (chN g.par g.n a)))) h)) (Xk Y (noX)) args0 s 0 0 Y.A) Y 4 4 [some (.ref x), some (.int (nI a)), some (.int (nI (cnt (isCh g.par a) i))), some (.int (nI i))] [] h 0 0 := by
    intro d
    induction d with
    | zero => intro i h0 h1 h2; omega
    | succ d ih =>
      intro i h0 hi hd
      refine g_iload_n C dX3_below_4 rfl ?_
      refine g_aload_n C dX3_below_5 rfl (by first | rfl | exact isR_rf _) ?_
      refine gf_X3_9 C (r.x) rfl dX3_below_6 ?_
      refine g_icmp_geN C (tgt := 36) dX3_below_9 (by decide) (by omega) (by omega) (fun q1 => ?_) (fun q1 => ?_)
      · have : i = g.n := by omega
        subst this
        refine g_iload_n C dX3_below_36 rfl ?_
        exact g_iret C hr dX3_below_37 (Nat.le_of_ble_eq_true rfl) (Nat.le_of_ble_eq_true rfl) (⟨rfl, rfl⟩)
      · have hpi := iv.par q1
        refine g_iload_n C dX3_below_12 rfl ?_
        refine g_aload_n C dX3_below_13 rfl (by first | rfl | exact isR_rf _) ?_
        refine gf_X3_13 C (r.x) rfl dX3_below_14 ?_
        refine g_iload_n C dX3_below_17 rfl ?_
        refine g_iald C r.a0 rfl (show i < 60 by omega) (by decide) dX3_below_18 ?_
        rw [r.rw.on q1, parO_pos (show 0 < i by omega)]
        show Gd _ _ _ _ _ _ _ _ _ _ _ _ _ _ _ (.int (nI (g.par i)) :: _) _ _ _
        refine g_iload_n C dX3_below_19 rfl ?_
        refine g_icmp_neN C (tgt := 27) dX3_below_20 (by decide) (by omega) (by omega) (fun q2 => ?_) (fun q2 => ?_)
        · refine g_iconst C (v := nI 0) dX3_below_27 (by decide) ?_
          refine g_iaddN C dX3_below_28 ?_
          refine g_istore_n C dX3_below_29 (by decide) ?_
          refine g_iincN C dX3_below_30 rfl (by decide) ?_
          refine g_goto C (tgt := 4) dX3_below_33 (by decide) ?_
          have := ih (i + 1) (by omega) (by omega) (by omega)
          rw [show cnt (isCh g.par a) (i + 1) = cnt (isCh g.par a) i + 0 from by show cnt _ i + _ = _; rw [show isCh g.par a i = false from by unfold isCh; rw [decide_eq_true (show 0 < i by omega), Bool.true_and]; simp [q2]]; rfl] at this
          exact this
        · refine g_iconst C (v := nI 1) dX3_below_23 (by decide) ?_
          refine g_goto C (tgt := 28) dX3_below_24 (by decide) ?_
          refine g_iaddN C dX3_below_28 ?_
          refine g_istore_n C dX3_below_29 (by decide) ?_
          refine g_iincN C dX3_below_30 rfl (by decide) ?_
          refine g_goto C (tgt := 4) dX3_below_33 (by decide) ?_
          have := ih (i + 1) (by omega) (by omega) (by omega)
          rw [show cnt (isCh g.par a) (i + 1) = cnt (isCh g.par a) i + 1 from by show cnt _ i + _ = _; rw [show isCh g.par a i = true from by unfold isCh; rw [decide_eq_true (show 0 < i by omega), Bool.true_and]; simp [q2]]; rfl] at this
          exact this
  refine g_iconst C (v := nI 0) dX3_below_0 (by decide) ?_
  refine g_istore_n C dX3_below_1 (by decide) ?_
  refine g_iconst C (v := nI 1) dX3_below_2 (by decide) ?_
  refine g_istore_n C dX3_below_3 (by decide) ?_
  exact lp (g.n + 1) 1 (Nat.le_refl _) hn1 (by omega)
set_option maxRecDepth 100000 in
set_option maxHeartbeats 4000000 in
theorem K_X3_allBelow (l : Launch) (Y : YG) {x : Nat} {th : Int32} {ar : Nat → Nat} {f : Nat → Nat → Int32} {g : Sg} {h : AH} (r : RepM Y x th ar f g h) (iv : Inv g) {a : Nat} (ha : a < g.n) : MX l Y yX3_allBelow cX3_allBelow 4 (some .int) 1 24 0 0 [.ref x, .int (nI a)] h (pS (some (.int (nI (dsN g.par g.n a)))) h) (noX) := by
  have hn60 := iv.n60
  have hnp16 := iv.np
  have hnow := iv.now
  have hn1 := iv.n1
  refine MX.of (by decide +kernel) (Nat.le_of_ble_eq_true rfl) ?_
  intro p e s m args0 below meth c C hr hout hnm
  have lp : ∀ (d i : Nat), a + 1 ≤ i → i ≤ g.n → g.n - i < d → Gd p l e (rmO 1 24 0 0) s m args0 below meth c (vx_MQ below (Qk Y (pS (some (.int (nI (dsN g.par g.n a)))) h)) (Xk Y (noX)) args0 s 0 0 Y.A) Y 4 6 [some (.ref x), some (.int (nI a)), some (.int (nI (cnt (isDs g.par a) i))), some (.int (nI i))] [] h 0 0 := by
    intro d
    induction d with
    | zero => intro i h0 h1 h2; omega
    | succ d ih =>
      intro i h0 hi hd
      refine g_iload_n C dX3_allBelow_6 rfl ?_
      refine g_aload_n C dX3_allBelow_7 rfl (by first | rfl | exact isR_rf _) ?_
      refine gf_X3_9 C (r.x) rfl dX3_allBelow_8 ?_
      refine g_icmp_geN C (tgt := 38) dX3_allBelow_11 (by decide) (by omega) (by omega) (fun q1 => ?_) (fun q1 => ?_)
      · have : i = g.n := by omega
        subst this
        refine g_iload_n C dX3_allBelow_38 rfl ?_
        exact g_iret C hr dX3_allBelow_39 (Nat.le_of_ble_eq_true rfl) (Nat.le_of_ble_eq_true rfl) (⟨rfl, rfl⟩)
      · refine g_iload_n C dX3_allBelow_14 rfl ?_
        refine g_aload_n C dX3_allBelow_15 rfl (by first | rfl | exact isR_rf _) ?_
        refine g_iload_n C dX3_allBelow_16 rfl ?_
        refine g_iload_n C dX3_allBelow_17 rfl ?_
        refine g_callV C ((K_X3_meeting l Y r iv q1 ha).K) ok_X3_meeting w795 (r.x) rfl rfl rfl dX3_allBelow_18 (Nat.le_of_ble_eq_true rfl) (Nat.le_of_ble_eq_true rfl) (Nat.le_of_ble_eq_true rfl) (Nat.le_of_ble_eq_true rfl) (Nat.le_of_ble_eq_true rfl) (ofS ?_)
        have hl := lc_le iv.tr i a
        refine g_iload_n C dX3_allBelow_21 rfl ?_
        refine g_icmp_neN C (tgt := 29) dX3_allBelow_22 (by decide) (by omega) (by omega) (fun q2 => ?_) (fun q2 => ?_)
        · refine g_iconst C (v := nI 0) dX3_allBelow_29 (by decide) ?_
          refine g_iaddN C dX3_allBelow_30 ?_
          refine g_istore_n C dX3_allBelow_31 (by decide) ?_
          refine g_iincN C dX3_allBelow_32 rfl (by decide) ?_
          refine g_goto C (tgt := 6) dX3_allBelow_35 (by decide) ?_
          have := ih (i + 1) (by omega) (by omega) (by omega)
          rw [show cnt (isDs g.par a) (i + 1) = cnt (isDs g.par a) i + 0 from by show cnt _ i + _ = _; rw [show isDs g.par a i = false from by rw [ds_lc iv (by omega)]; exact decide_eq_false q2]; rfl] at this
          exact this
        · refine g_iconst C (v := nI 1) dX3_allBelow_25 (by decide) ?_
          refine g_goto C (tgt := 30) dX3_allBelow_26 (by decide) ?_
          refine g_iaddN C dX3_allBelow_30 ?_
          refine g_istore_n C dX3_allBelow_31 (by decide) ?_
          refine g_iincN C dX3_allBelow_32 rfl (by decide) ?_
          refine g_goto C (tgt := 6) dX3_allBelow_35 (by decide) ?_
          have := ih (i + 1) (by omega) (by omega) (by omega)
          rw [show cnt (isDs g.par a) (i + 1) = cnt (isDs g.par a) i + 1 from by show cnt _ i + _ = _; rw [show isDs g.par a i = true from by rw [ds_lc iv (by omega)]; exact decide_eq_true q2]; rfl] at this
          exact this
  refine g_iconst C (v := nI 0) dX3_allBelow_0 (by decide) ?_
  refine g_istore_n C dX3_allBelow_1 (by decide) ?_
  refine g_iload_n C dX3_allBelow_2 rfl ?_
  refine g_iconst C (v := nI 1) dX3_allBelow_3 (by decide) ?_
  refine g_iaddN C dX3_allBelow_4 ?_
  refine g_istore_n C dX3_allBelow_5 (by decide) ?_
  have hz : cnt (isDs g.par a) (a + 1) = 0 := cnt_0.mpr (fun k hk => by unfold isDs; rw [decide_eq_false (by omega), Bool.false_and])
  have := lp (g.n + 1) (a + 1) (Nat.le_refl _) (by omega) (by omega)
  rw [hz] at this
  exact this
set_option maxRecDepth 100000 in
set_option maxHeartbeats 4000000 in
theorem K_X3_leaves (l : Launch) (Y : YG) {x : Nat} {th : Int32} {ar : Nat → Nat} {f : Nat → Nat → Int32} {g : Sg} {h : AH} (r : RepM Y x th ar f g h) (iv : Inv g) : MX l Y yX3_leaves cX3_leaves 3 (some .int) 1 23 0 0 [.ref x] h (pS (some (.int (nI (enN g)))) h) (noX) := by
  have hn60 := iv.n60
  have hnp16 := iv.np
  have hnow := iv.now
  have hn1 := iv.n1
  refine MX.of (by decide +kernel) (Nat.le_of_ble_eq_true rfl) ?_
  intro p e s m args0 below meth c C hr hout hnm
  have lp : ∀ (d i : Nat), 0 ≤ i → i ≤ g.n → g.n - i < d → Gd p l e (rmO 1 23 0 0) s m args0 below meth c (vx_MQ below (Qk Y (pS (some (.int (nI (enN g)))) h)) (Xk Y (noX)) args0 s 0 0 Y.A) Y 3 4 [some (.ref x), some (.int (nI (cnt (enB g) i))), some (.int (nI i))] [] h 0 0 := by
    intro d
    induction d with
    | zero => intro i h0 h1 h2; omega
    | succ d ih =>
      intro i h0 hi hd
      refine g_iload_n C dX3_leaves_4 rfl ?_
      refine g_aload_n C dX3_leaves_5 rfl (by first | rfl | exact isR_rf _) ?_
      refine gf_X3_9 C (r.x) rfl dX3_leaves_6 ?_
      refine g_icmp_geN C (tgt := 34) dX3_leaves_9 (by decide) (by omega) (by omega) (fun q1 => ?_) (fun q1 => ?_)
      · have : i = g.n := by omega
        subst this
        refine g_iload_n C dX3_leaves_34 rfl ?_
        exact g_iret C hr dX3_leaves_35 (Nat.le_of_ble_eq_true rfl) (Nat.le_of_ble_eq_true rfl) (⟨rfl, rfl⟩)
      · refine g_iload_n C dX3_leaves_12 rfl ?_
        refine g_aload_n C dX3_leaves_13 rfl (by first | rfl | exact isR_rf _) ?_
        refine g_iload_n C dX3_leaves_14 rfl ?_
        refine g_callV C ((K_X3_below l Y r iv q1).K) ok_X3_below w879 (r.x) rfl rfl rfl dX3_leaves_15 (Nat.le_of_ble_eq_true rfl) (Nat.le_of_ble_eq_true rfl) (Nat.le_of_ble_eq_true rfl) (Nat.le_of_ble_eq_true rfl) (Nat.le_of_ble_eq_true rfl) (ofS ?_)
        have hcl := cnt_le (isCh g.par i) g.n
        have hcl2 : chN g.par g.n i < 2 ^ 31 := by unfold chN; omega
        refine g_if_neN C (tgt := 25) dX3_leaves_18 (by decide) hcl2 (fun q2 => ?_) (fun q2 => ?_)
        · refine g_iconst C (v := nI 0) dX3_leaves_25 (by decide) ?_
          refine g_iaddN C dX3_leaves_26 ?_
          refine g_istore_n C dX3_leaves_27 (by decide) ?_
          refine g_iincN C dX3_leaves_28 rfl (by decide) ?_
          refine g_goto C (tgt := 4) dX3_leaves_31 (by decide) ?_
          have := ih (i + 1) (by omega) (by omega) (by omega)
          rw [show cnt (enB g) (i + 1) = cnt (enB g) i + 0 from by show cnt _ i + _ = _; rw [show enB g i = false from by rw [end_ch iv q1]; exact decide_eq_false (by omega)]; rfl] at this
          exact this
        · refine g_iconst C (v := nI 1) dX3_leaves_21 (by decide) ?_
          refine g_goto C (tgt := 26) dX3_leaves_22 (by decide) ?_
          refine g_iaddN C dX3_leaves_26 ?_
          refine g_istore_n C dX3_leaves_27 (by decide) ?_
          refine g_iincN C dX3_leaves_28 rfl (by decide) ?_
          refine g_goto C (tgt := 4) dX3_leaves_31 (by decide) ?_
          have := ih (i + 1) (by omega) (by omega) (by omega)
          rw [show cnt (enB g) (i + 1) = cnt (enB g) i + 1 from by show cnt _ i + _ = _; rw [show enB g i = true from by rw [end_ch iv q1]; exact decide_eq_true q2]; rfl] at this
          exact this
  refine g_iconst C (v := nI 0) dX3_leaves_0 (by decide) ?_
  refine g_istore_n C dX3_leaves_1 (by decide) ?_
  refine g_iconst C (v := nI 0) dX3_leaves_2 (by decide) ?_
  refine g_istore_n C dX3_leaves_3 (by decide) ?_
  exact lp (g.n + 1) 0 (Nat.le_refl _) (Nat.zero_le _) (by omega)
set_option maxRecDepth 100000 in
set_option maxHeartbeats 4000000 in
theorem K_X3_knocks (l : Launch) (Y : YG) {x : Nat} {th : Int32} {ar : Nat → Nat} {f : Nat → Nat → Int32} {g : Sg} {h : AH} (r : RepM Y x th ar f g h) (iv : Inv g) {q : Nat} : MX l Y yX3_knocks cX3_knocks 4 (some .int) 0 0 0 0 [.ref x, .int (nI q)] h (pS (some (.int (nI (knN g q)))) h) (noX) := by
  have hn60 := iv.n60
  have hnp16 := iv.np
  have hnow := iv.now
  have hn1 := iv.n1
  refine MX.of (by decide +kernel) (Nat.le_of_ble_eq_true rfl) ?_
  intro p e s m args0 below meth c C hr hout hnm
  have lp : ∀ (d i : Nat), 1 ≤ i → i ≤ g.n → g.n - i < d → Gd p l e (rmO 0 0 0 0) s m args0 below meth c (vx_MQ below (Qk Y (pS (some (.int (nI (knN g q)))) h)) (Xk Y (noX)) args0 s 0 0 Y.A) Y 4 4 [some (.ref x), some (.int (nI q)), some (.int (nI (cnt (knB g q) i))), some (.int (nI i))] [] h 0 0 := by
    intro d
    induction d with
    | zero => intro i h0 h1 h2; omega
    | succ d ih =>
      intro i h0 hi hd
      refine g_iload_n C dX3_knocks_4 rfl ?_
      refine g_aload_n C dX3_knocks_5 rfl (by first | rfl | exact isR_rf _) ?_
      refine gf_X3_9 C (r.x) rfl dX3_knocks_6 ?_
      refine g_icmp_geN C (tgt := 46) dX3_knocks_9 (by decide) (by omega) (by omega) (fun q1 => ?_) (fun q1 => ?_)
      · have : i = g.n := by omega
        subst this
        refine g_iload_n C dX3_knocks_46 rfl ?_
        exact g_iret C hr dX3_knocks_47 (Nat.le_of_ble_eq_true rfl) (Nat.le_of_ble_eq_true rfl) (⟨rfl, rfl⟩)
      · refine g_iload_n C dX3_knocks_12 rfl ?_
        refine g_aload_n C dX3_knocks_13 rfl (by first | rfl | exact isR_rf _) ?_
        refine gf_X3_17 C (r.x) rfl dX3_knocks_14 ?_
        refine g_iload_n C dX3_knocks_17 rfl ?_
        refine g_iald C r.a1 rfl (show i < 60 by omega) (by decide) dX3_knocks_18 ?_
        rw [r.rw.kd q1]
        refine g_iconst C (v := nI 1) dX3_knocks_19 (by decide) ?_
        refine g_icmp_ne C (tgt := 37) dX3_knocks_20 (by decide) (fun q2 => ?_) (fun q2 => ?_)
        · refine g_iconst C (v := nI 0) dX3_knocks_37 (by decide) ?_
          refine g_iaddN C dX3_knocks_38 ?_
          refine g_istore_n C dX3_knocks_39 (by decide) ?_
          refine g_iincN C dX3_knocks_40 rfl (by decide) ?_
          refine g_goto C (tgt := 4) dX3_knocks_43 (by decide) ?_
          have := ih (i + 1) (by omega) (by omega) (by omega)
          rw [show cnt (knB g q) (i + 1) = cnt (knB g q) i + 0 from by show cnt _ i + _ = _; rw [show knB g q i = false from by unfold knB; rw [decide_eq_false q2, Bool.false_and]]; rfl] at this
          exact this
        · refine g_aload_n C dX3_knocks_23 rfl (by first | rfl | exact isR_rf _) ?_
          refine gf_X3_20 C (r.x) rfl dX3_knocks_24 ?_
          refine g_iload_n C dX3_knocks_27 rfl ?_
          refine g_iald C r.a2 rfl (show i < 60 by omega) (by decide) dX3_knocks_28 ?_
          rw [r.rw.nm q1]
          refine g_iload_n C dX3_knocks_29 rfl ?_
          refine g_icmp_ne C (tgt := 37) dX3_knocks_30 (by decide) (fun q3 => ?_) (fun q3 => ?_)
          · refine g_iconst C (v := nI 0) dX3_knocks_37 (by decide) ?_
            refine g_iaddN C dX3_knocks_38 ?_
            refine g_istore_n C dX3_knocks_39 (by decide) ?_
            refine g_iincN C dX3_knocks_40 rfl (by decide) ?_
            refine g_goto C (tgt := 4) dX3_knocks_43 (by decide) ?_
            have := ih (i + 1) (by omega) (by omega) (by omega)
            rw [show cnt (knB g q) (i + 1) = cnt (knB g q) i + 0 from by show cnt _ i + _ = _; rw [show knB g q i = false from by unfold knB; rw [decide_eq_false q3, Bool.and_false]]; rfl] at this
            exact this
          · refine g_iconst C (v := nI 1) dX3_knocks_33 (by decide) ?_
            refine g_goto C (tgt := 38) dX3_knocks_34 (by decide) ?_
            refine g_iaddN C dX3_knocks_38 ?_
            refine g_istore_n C dX3_knocks_39 (by decide) ?_
            refine g_iincN C dX3_knocks_40 rfl (by decide) ?_
            refine g_goto C (tgt := 4) dX3_knocks_43 (by decide) ?_
            have := ih (i + 1) (by omega) (by omega) (by omega)
            rw [show cnt (knB g q) (i + 1) = cnt (knB g q) i + 1 from by show cnt _ i + _ = _; rw [show knB g q i = true from by unfold knB; rw [decide_eq_true q2, decide_eq_true q3]; rfl]; rfl] at this
            exact this
  refine g_iconst C (v := nI 0) dX3_knocks_0 (by decide) ?_
  refine g_istore_n C dX3_knocks_1 (by decide) ?_
  refine g_iconst C (v := nI 1) dX3_knocks_2 (by decide) ?_
  refine g_istore_n C dX3_knocks_3 (by decide) ?_
  have := lp (g.n + 1) 1 (Nat.le_refl _) hn1 (by omega)
  rw [show cnt (knB g q) 1 = 0 from by show 0 + _ = _; rw [kn_0 iv]; rfl] at this
  exact this
theorem mk_lt {K : Nat → Nat} : ∀ {i b : Nat}, mkF K i = some b → b < i := by
  intro i
  induction i with
  | zero => intro b h; cases h
  | succ i ih =>
    intro b h
    simp only [mkF] at h
    cases hz : mkF K i with
    | none => rw [hz] at h; cases h; exact Nat.lt_succ_self _
    | some c =>
      rw [hz] at h
      simp only at h
      have := ih hz
      split at h <;> cases h <;> omega
set_option maxRecDepth 100000 in
set_option maxHeartbeats 4000000 in
theorem K_X3_mostDown (l : Launch) (Y : YG) {x : Nat} {th : Int32} {ar : Nat → Nat} {f : Nat → Nat → Int32} {g : Sg} {h : AH} (r : RepM Y x th ar f g h) (iv : Inv g) : MX l Y yX3_mostDown cX3_mostDown 3 (some .int) 1 23 0 0 [.ref x] h (pS (some (.int (nO (mkF (knN g) g.np)))) h) (noX) := by
  have hn60 := iv.n60
  have hnp16 := iv.np
  have hnow := iv.now
  have hn1 := iv.n1
  refine MX.of (by decide +kernel) (Nat.le_of_ble_eq_true rfl) ?_
  intro p e s m args0 below meth c C hr hout hnm
  have lp : ∀ (d i : Nat), 0 ≤ i → i ≤ g.np → g.np - i < d → Gd p l e (rmO 1 23 0 0) s m args0 below meth c (vx_MQ below (Qk Y (pS (some (.int (nO (mkF (knN g) g.np)))) h)) (Xk Y (noX)) args0 s 0 0 Y.A) Y 3 4 [some (.ref x), some (.int (nO (mkF (knN g) i))), some (.int (nI i))] [] h 0 0 := by
    intro d
    induction d with
    | zero => intro i h0 h1 h2; omega
    | succ d ih =>
      intro i h0 hi hd
      refine g_iload_n C dX3_mostDown_4 rfl ?_
      refine g_aload_n C dX3_mostDown_5 rfl (by first | rfl | exact isR_rf _) ?_
      refine gf_X3_42 C (r.x) rfl dX3_mostDown_6 ?_
      refine g_icmp_geN C (tgt := 38) dX3_mostDown_9 (by decide) (by omega) (by omega) (fun q1 => ?_) (fun q1 => ?_)
      · have : i = g.np := by omega
        subst this
        refine g_iload_n C dX3_mostDown_38 rfl ?_
        exact g_iret C hr dX3_mostDown_39 (Nat.le_of_ble_eq_true rfl) (Nat.le_of_ble_eq_true rfl) (⟨rfl, rfl⟩)
      · have hk1 := knN_lt iv i
        cases hb : mkF (knN g) i with
        | none =>
          refine g_iload_n C dX3_mostDown_12 rfl ?_
          refine g_iconst C (v := -1) dX3_mostDown_13 (by decide) ?_
          refine g_icmp_eq C (tgt := 30) dX3_mostDown_14 (by decide) (fun q2 => ?_) (fun q2 => absurd rfl q2)
          refine g_iload_n C dX3_mostDown_30 rfl ?_
          refine g_istore_n C dX3_mostDown_31 (by decide) ?_
          refine g_iincN C dX3_mostDown_32 rfl (by decide) ?_
          refine g_goto C (tgt := 4) dX3_mostDown_35 (by decide) ?_
          have := ih (i + 1) (by omega) (by omega) (by omega)
          rw [show mkF (knN g) (i + 1) = some i from by simp only [mkF, hb]] at this
          exact this
        | some b =>
          have hbi := mk_lt hb
          have hk2 := knN_lt iv b
          refine g_iload_n C dX3_mostDown_12 rfl ?_
          refine g_iconst C (v := -1) dX3_mostDown_13 (by decide) ?_
          refine g_icmp_eq C (tgt := 30) dX3_mostDown_14 (by decide) (fun q2 => absurd q2 (nI_m1 (by omega))) (fun q2 => ?_)
          refine g_aload_n C dX3_mostDown_17 rfl rfl ?_
          refine g_iload_n C dX3_mostDown_18 rfl ?_
          refine g_callV C (K_X3_knocks l Y r iv).K ok_X3_knocks w931 r.x rfl rfl rfl dX3_mostDown_19 (Nat.le_of_ble_eq_true rfl) (Nat.le_of_ble_eq_true rfl) (Nat.le_of_ble_eq_true rfl) (Nat.le_of_ble_eq_true rfl) (Nat.le_of_ble_eq_true rfl) (ofS ?_)
          refine g_aload_n C dX3_mostDown_22 rfl rfl ?_
          refine g_iload_n C dX3_mostDown_23 rfl ?_
          refine g_callV C (K_X3_knocks l Y r iv (q := b)).K ok_X3_knocks w931 r.x rfl rfl rfl dX3_mostDown_24 (Nat.le_of_ble_eq_true rfl) (Nat.le_of_ble_eq_true rfl) (Nat.le_of_ble_eq_true rfl) (Nat.le_of_ble_eq_true rfl) (Nat.le_of_ble_eq_true rfl) (ofS ?_)
          refine g_icmp_leN C (tgt := 32) dX3_mostDown_27 (by decide) hk1 hk2 (fun q3 => ?_) (fun q3 => ?_)
          · refine g_iincN C dX3_mostDown_32 rfl (by decide) ?_
            refine g_goto C (tgt := 4) dX3_mostDown_35 (by decide) ?_
            have := ih (i + 1) (by omega) (by omega) (by omega)
            rw [show mkF (knN g) (i + 1) = some b from by simp only [mkF, hb]; rw [if_neg (by omega)]] at this
            exact this
          · refine g_iload_n C dX3_mostDown_30 rfl ?_
            refine g_istore_n C dX3_mostDown_31 (by decide) ?_
            refine g_iincN C dX3_mostDown_32 rfl (by decide) ?_
            refine g_goto C (tgt := 4) dX3_mostDown_35 (by decide) ?_
            have := ih (i + 1) (by omega) (by omega) (by omega)
            rw [show mkF (knN g) (i + 1) = some i from by simp only [mkF, hb]; rw [if_pos q3]] at this
            exact this
  refine g_iconst C (v := -1) dX3_mostDown_0 (by decide) ?_
  refine g_istore_n C dX3_mostDown_1 (by decide) ?_
  refine g_iconst C (v := nI 0) dX3_mostDown_2 (by decide) ?_
  refine g_istore_n C dX3_mostDown_3 (by decide) ?_
  exact lp (g.np + 1) 0 (Nat.le_refl _) (Nat.zero_le _) (by omega)
theorem at_eq {g : Sg} {f : Nat → Nat → Int32} (r : RwM g f) (iv : Inv g) {a b i : Nat} (ha : a < g.n) (hb : b < g.n) (hi : i ≤ g.np) : (f 5 (17 * a + i) = f 5 (17 * b + i)) ↔ (if i = 0 then g.ct a = g.ct b else pq g a (i - 1) = pq g b (i - 1)) := by
  rcases Nat.eq_zero_or_pos i with q | q
  · subst q
    have h1 := iv.ct ha
    have h2 := iv.ct hb
    rw [r.ct ha, r.ct hb, nI_eq (by omega) (by omega), if_pos rfl]
  · have e1 := r.pc ha (q := i - 1) (by omega)
    have e2 := r.pc hb (q := i - 1) (by omega)
    have h1 := (pq_mod iv ha (q := i - 1) (by omega)).2.1
    have h2 := (pq_mod iv hb (q := i - 1) (by omega)).2.1
    rw [show 1 + (i - 1) = i by omega] at e1 e2
    rw [e1, e2, nI_eq h1 h2, if_neg (by omega)]
set_option maxRecDepth 100000 in
set_option maxHeartbeats 4000000 in
theorem K_X3_isLike (l : Launch) (Y : YG) {x : Nat} {th : Int32} {ar : Nat → Nat} {f : Nat → Nat → Int32} {g : Sg} {h : AH} (r : RepM Y x th ar f g h) (iv : Inv g) {a b : Nat} (ha : a < g.n) (hb : b < g.n) : MX l Y yX3_isLike cX3_isLike 4 (some .boolean) 1 22 0 0 [.ref x, .int (nI a), .int (nI b)] h (pS (some (bI (lkB g a b))) h) (noX) := by
  have hn60 := iv.n60
  have hnp16 := iv.np
  have hnow := iv.now
  have hn1 := iv.n1
  refine MX.of (by decide +kernel) (Nat.le_of_ble_eq_true rfl) ?_
  intro p e s m args0 below meth c C hr hout hnm
  have lp : ∀ (d i : Nat), i ≤ g.np + 1 → g.np + 1 - i < d → (∀ j, j < i → (if j = 0 then g.ct a = g.ct b else pq g a (j - 1) = pq g b (j - 1))) → Gd p l e (rmO 1 22 0 0) s m args0 below meth c (vx_MQ below (Qk Y (pS (some (bI (lkB g a b))) h)) (Xk Y (noX)) args0 s 0 0 Y.A) Y 4 2 [some (.ref x), some (.int (nI a)), some (.int (nI b)), some (.int (nI i))] [] h 0 0 := by
    intro d
    induction d with
    | zero => intro i h1 h2; omega
    | succ d ih =>
      intro i hi hd hS
      refine g_iload_n C dX3_isLike_2 rfl ?_
      refine g_aload_n C dX3_isLike_3 rfl (by first | rfl | exact isR_rf _) ?_
      refine gf_X3_42 C (r.x) rfl dX3_isLike_4 ?_
      refine g_icmp_gtN C (tgt := 33) dX3_isLike_7 (by decide) (by omega) (by omega) (fun q1 => ?_) (fun q1 => ?_)
      · have hT : lkB g a b = true := by
          rw [lk_bits iv ha hb]
          refine decide_eq_true ⟨?_, fun q hq => ?_⟩
          · have := hS 0 (by omega)
            rw [if_pos rfl] at this
            exact this
          · have := hS (q + 1) (by omega)
            rw [if_neg (by omega), Nat.add_sub_cancel] at this
            exact this
        rw [hT]
        refine g_iconst C (v := nI 1) dX3_isLike_33 (by decide) ?_
        exact g_zret C hr (by first | exact Or.inl rfl | exact Or.inr rfl) dX3_isLike_34 (Nat.le_of_ble_eq_true rfl) (Nat.le_of_ble_eq_true rfl) (⟨rfl, rfl⟩)
      · refine g_aload_n C dX3_isLike_10 rfl (by first | rfl | exact isR_rf _) ?_
        refine g_iload_n C dX3_isLike_11 rfl ?_
        refine g_iload_n C dX3_isLike_12 rfl ?_
        refine g_callV C ((K_X3_at l Y r iv (i := a) (j := i) ha (by omega)).K) ok_X3_at w730 (r.x) rfl rfl rfl dX3_isLike_13 (Nat.le_of_ble_eq_true rfl) (Nat.le_of_ble_eq_true rfl) (Nat.le_of_ble_eq_true rfl) (Nat.le_of_ble_eq_true rfl) (Nat.le_of_ble_eq_true rfl) (ofS ?_)
        refine g_aload_n C dX3_isLike_16 rfl (by first | rfl | exact isR_rf _) ?_
        refine g_iload_n C dX3_isLike_17 rfl ?_
        refine g_iload_n C dX3_isLike_18 rfl ?_
        refine g_callV C ((K_X3_at l Y r iv (i := b) (j := i) hb (by omega)).K) ok_X3_at w730 (r.x) rfl rfl rfl dX3_isLike_19 (Nat.le_of_ble_eq_true rfl) (Nat.le_of_ble_eq_true rfl) (Nat.le_of_ble_eq_true rfl) (Nat.le_of_ble_eq_true rfl) (Nat.le_of_ble_eq_true rfl) (ofS ?_)
        have hE := at_eq r.rw iv ha hb q1
        refine g_icmp_eq C (tgt := 27) dX3_isLike_22 (by decide) (fun q2 => ?_) (fun q2 => ?_)
        · refine g_iincN C dX3_isLike_27 rfl (by decide) ?_
          refine g_goto C (tgt := 2) dX3_isLike_30 (by decide) ?_
          exact ih (i + 1) (by omega) (by omega) (fun j hj => (Nat.lt_succ_iff_lt_or_eq.mp hj).elim (hS j) (fun z => by rw [z]; exact hE.mp q2))
        · have hT : lkB g a b = false := by
            rw [lk_bits iv ha hb]
            refine decide_eq_false (fun z => q2 (hE.mpr ?_))
            split
            · exact z.1
            · exact z.2 _ (by omega)
          rw [hT]
          refine g_iconst C (v := nI 0) dX3_isLike_25 (by decide) ?_
          exact g_zret C hr (by first | exact Or.inl rfl | exact Or.inr rfl) dX3_isLike_26 (Nat.le_of_ble_eq_true rfl) (Nat.le_of_ble_eq_true rfl) (⟨rfl, rfl⟩)
  refine g_iconst C (v := nI 0) dX3_isLike_0 (by decide) ?_
  refine g_istore_n C dX3_isLike_1 (by decide) ?_
  exact lp (g.np + 2) 0 (Nat.zero_le _) (by omega) (fun j hj => absurd hj (Nat.not_lt_zero j))
