set_option maxRecDepth 100000 in
set_option maxHeartbeats 4000000 in
theorem K_X3_with (l : Launch) (Y : YG) {a b N Mb : Nat} {f : Nat → Option Nat} {fb : Nat → Int32} {h : AH} (ha : h a = some (aA Y N f)) (hN : N ≤ 60) (hf : ∀ i, i < N → ∃ q M fq, f i = some q ∧ h q = some (aI Y M fq)) (hb : h b = some (aI Y Mb fb)) : MX l Y yX3_with cX3_with 4 (some (.array (.array .int))) 0 0 1 61 [.ref a, .ref b] h (pR (fun r h2 => ∃ q f2, r = some q ∧ h q = none ∧ h2 = hup h q (aA Y (N + 1) f2) ∧ (∀ i, i < N → f2 i = f i) ∧ f2 N = some b)) (noX) := by
  refine MX.of (by decide +kernel) (Nat.le_of_ble_eq_true rfl) ?_
  intro p e s m args0 below meth c C hr hout hnm
  refine g_aload_n C dX3_with_0 rfl (by first | rfl | exact isR_rf _) ?_
  refine g_alena C (ha) dX3_with_1 ?_
  refine g_iconst C (v := nI 1) dX3_with_2 (by decide) ?_
  first | with_reducible refine g_iaddN C dX3_with_3 ?_ | refine g_iadd C dX3_with_3 ?_
  refine g_newA C (N := N + 1) rfl (by omega) w595 (by show _ ≤ 1; omega) (by show _ ≤ 61; omega) dX3_with_4 (fun q hq => ?_)
  have haq : a ≠ q := fun z => by rw [z, hq] at ha; cases ha
  have lp : ∀ (d i : Nat) (f2 : Nat → Option Nat), i ≤ N → N - i < d → (∀ j, j < i → f2 j = f j) → Gd p l e (rmO 0 0 1 61) s m args0 below meth c (vx_MQ below (Qk Y (pR (fun r h2 => ∃ q f2, r = some q ∧ h q = none ∧ h2 = hup h q (aA Y (N + 1) f2) ∧ (∀ i, i < N → f2 i = f i) ∧ f2 N = some b))) (Xk Y (noX)) args0 s 1 61 Y.A) Y 4 10 [some (.ref a), some (.ref b), some (.ref q), some (.int (nI i))] [] (hup h q (aA Y (N + 1) f2)) 1 (N + 1) := by
    intro d
    induction d with
    | zero => intro i f2 h1 h2; omega
    | succ d ih =>
      intro i f2 hi hd hI
      refine g_iload_n C dX3_with_10 rfl ?_
      refine g_aload_n C dX3_with_11 rfl (by first | rfl | exact isR_rf _) ?_
      refine g_alena C (hup_old hq ha) dX3_with_12 ?_
      refine g_icmp_geN C (tgt := 28) dX3_with_13 (by decide) (by omega) (by omega) (fun q1 => ?_) (fun q1 => ?_)
      · refine g_aload_n C dX3_with_28 rfl (by first | rfl | exact isR_rf _) ?_
        refine g_aload_n C dX3_with_29 rfl (by first | rfl | exact isR_rf _) ?_
        refine g_alena C (hup_old hq ha) dX3_with_30 ?_
        refine g_aload_n C dX3_with_31 rfl (by first | rfl | exact isR_rf _) ?_
        refine g_aast C hup_eq (hup_old hq hb) rfl (show N < N + 1 by omega) (by omega) dX3_with_32 ?_
        rw [hup_hup]
        refine g_aload_n C dX3_with_33 rfl (by first | rfl | exact isR_rf _) ?_
        exact g_aret C hr (by first | exact Or.inl ⟨_, rfl⟩ | exact Or.inr ⟨_, rfl⟩) (by first | rfl | exact isR_rf _) dX3_with_34 (by omega) (by omega) (⟨some q, rfl, q, _, rfl, hq, rfl, fun j hj => by unfold va_up; rw [if_neg (by omega)]; exact hI j (by omega), by unfold va_up; rw [if_pos rfl]⟩)
      · obtain ⟨q9, M9, f9, e9, h9⟩ := hf i (by omega)
        refine g_aload_n C dX3_with_16 rfl (by first | rfl | exact isR_rf _) ?_
        refine g_iload_n C dX3_with_17 rfl ?_
        refine g_aload_n C dX3_with_18 rfl (by first | rfl | exact isR_rf _) ?_
        refine g_iload_n C dX3_with_19 rfl ?_
        refine g_aald C (hup_old hq ha) rfl (show i < N by omega) (by omega) dX3_with_20 ?_
        rw [e9]
        refine g_aast C hup_eq (hup_old hq h9) rfl (show i < N + 1 by omega) (by omega) dX3_with_21 ?_
        rw [hup_hup]
        refine g_iincN C dX3_with_22 rfl (by decide) ?_
        refine g_goto C (tgt := 10) dX3_with_25 (by decide) ?_
        exact ih (i + 1) _ (by omega) (by omega) (fun j hj => by
          unfold va_up
          by_cases c : j = i
          · rw [if_pos c, c, e9]
          · rw [if_neg c]; exact hI j (by omega))
  refine g_astore_n C dX3_with_7 (by decide) rfl ?_
  refine g_iconst C (v := nI 0) dX3_with_8 (by decide) ?_
  refine g_istore_n C dX3_with_9 (by decide) ?_
  refine Gd.wide (k2 := 1) (n2 := N + 1) (by omega) (by omega) ?_
  exact lp (N + 1) 0 _ (Nat.zero_le _) (by omega) (fun j hj => absurd hj (Nat.not_lt_zero j))
set_option maxRecDepth 100000 in
set_option maxHeartbeats 4000000 in
theorem K_X3_init (l : Launch) (Y : YG) {z : Nat} {h : AH} (hJO : Y.cJ ≠ Y.cO) (hz : h z = some (.inr (4, [.null, .null, .int 0, .int 0]))) : MX l Y yX3_init cX3_init 1 none 1 20 3 5 [.ref z] h (pV (fun h2 => ∃ w, RepS Y z w st0 h2 ∧ w.tm = (fun _ => 0) ∧ w.clk = 0 ∧ h (w.se 0) = none ∧ ∀ a e, a ≠ z → h a = some e → h2 a = some e)) (noX) := by
  refine MX.of (by decide +kernel) (Nat.le_of_ble_eq_true rfl) ?_
  intro p e s m args0 below meth c C hr hout hnm
  refine g_aload_n C dX3_init_0 rfl (by first | rfl | exact isR_rf _) ?_
  refine g_objinit C w695 w27 w_oi dX3_init_1 (Nat.le_of_ble_eq_true rfl) (Nat.le_of_ble_eq_true rfl) ?_
  refine g_aload_n C dX3_init_4 rfl (by first | rfl | exact isR_rf _) ?_
  refine g_iconst C (v := nI 0) dX3_init_5 (by decide) ?_
  refine g_newA C (N := 0) rfl (by omega) w595 (Nat.le_of_ble_eq_true rfl) (Nat.le_of_ble_eq_true rfl) dX3_init_6 (fun q1 hq1 => ?_)
  refine pf_X3_9 C (hup_old hq1 hz) (Nat.le_of_ble_eq_true rfl) (by first | rfl | exact isR_rf _) dX3_init_9 ?_
  refine g_aload_n C dX3_init_12 rfl (by first | rfl | exact isR_rf _) ?_
  refine g_iconst C (v := nI 1) dX3_init_13 (by decide) ?_
  refine g_newA C (N := 1) rfl (by omega) w595 (Nat.le_of_ble_eq_true rfl) (Nat.le_of_ble_eq_true rfl) dX3_init_14 (fun q2 hq2 => ?_)
  refine g_dup C dX3_init_17 (by first | rfl | exact cat_rf _) ?_
  refine g_iconst C (v := nI 0) dX3_init_18 (by decide) ?_
  refine g_iconst C (v := nI 4) dX3_init_19 (by decide) ?_
  refine g_newI C (N := 4) rfl (by omega) w49 (Nat.le_of_ble_eq_true rfl) (Nat.le_of_ble_eq_true rfl) dX3_init_20 (fun q3 hq3 => ?_)
  refine g_dup C dX3_init_22 (by first | rfl | exact cat_rf _) ?_
  refine g_iconst C (v := nI 0) dX3_init_23 (by decide) ?_
  refine g_iconst C (v := (-1)) dX3_init_24 (by decide) ?_
  refine g_iast C hup_eq rfl (show 0 < 4 by decide) (by decide) dX3_init_25 ?_
  rw [hup_hup]
  refine g_dup C dX3_init_26 (by first | rfl | exact cat_rf _) ?_
  refine g_iconst C (v := nI 1) dX3_init_27 (by decide) ?_
  refine g_iconst C (v := (-1)) dX3_init_28 (by decide) ?_
  refine g_iast C hup_eq rfl (show 1 < 4 by decide) (by decide) dX3_init_29 ?_
  rw [hup_hup]
  refine g_dup C dX3_init_30 (by first | rfl | exact cat_rf _) ?_
  refine g_iconst C (v := nI 2) dX3_init_31 (by decide) ?_
  refine g_iconst C (v := (-1)) dX3_init_32 (by decide) ?_
  refine g_iast C hup_eq rfl (show 2 < 4 by decide) (by decide) dX3_init_33 ?_
  rw [hup_hup]
  refine g_dup C dX3_init_34 (by first | rfl | exact cat_rf _) ?_
  refine g_iconst C (v := nI 3) dX3_init_35 (by decide) ?_
  refine g_iconst C (v := nI 0) dX3_init_36 (by decide) ?_
  refine g_iast C hup_eq rfl (show 3 < 4 by decide) (by decide) dX3_init_37 ?_
  rw [hup_hup]
  refine g_aast C (hup_old hq3 hup_eq) hup_eq rfl (show 0 < 1 by decide) (by decide) dX3_init_38 ?_
  have X1 := (hup_eq (h := hup h q1 (aA Y 0 (fun _ => none))) (a := z) (e := .inr (4, [.ref q1, .null, .int 0, .int 0])))
  have hzq2 : z ≠ q2 := fun e => by
    have := hq2
    rw [← e] at this
    exact absurd (X1.symm.trans this) (fun q => by cases q)
  have hzq1 : z ≠ q1 := fun e => by rw [← e, hz] at hq1; cases hq1
  have X3 := hup_old (e := aI Y 4 (upd (upd (upd (upd (fun _ => 0) 0 (-1)) 1 (-1)) 2 (-1)) 3 (nI 0))) hq3 (hup_old (e := aA Y 1 (fun _ => none)) hq2 X1)
  refine pf_X3_15 C ((hup_ne hzq2).trans X3) (Nat.le_of_ble_eq_true rfl) (by first | rfl | exact isR_rf _) dX3_init_39 ?_
  have hzq3 : z ≠ q3 := fun e => by
    have := hq3
    rw [← e] at this
    exact absurd ((hup_old (e := aA Y 1 (fun _ => none)) hq2 X1).symm.trans this) (fun q => by cases q)
  have n1 : ∀ a c, a ≠ z → h a = some c → a ≠ q1 ∧ a ≠ q2 ∧ a ≠ q3 := fun a c ha hc => by
    have e1 : a ≠ q1 := fun e => by rw [e, hq1] at hc; cases hc
    have y1 : hup (hup h q1 (aA Y 0 (fun _ => none))) z (.inr (4, [.ref q1, .null, .int 0, .int 0])) a = some c := (hup_ne ha).trans (hup_old hq1 hc)
    have e2 : a ≠ q2 := fun e => by rw [e] at y1; exact absurd (y1.symm.trans hq2) (fun q => by cases q)
    have y2 := hup_old (e := aA Y 1 (fun _ => none)) hq2 y1
    have e3 : a ≠ q3 := fun e => by rw [e] at y2; exact absurd (y2.symm.trans hq3) (fun q => by cases q)
    exact ⟨e1, e2, e3⟩
  have y1 : hup (hup h q1 (aA Y 0 (fun _ => none))) z (.inr (4, [.ref q1, .null, .int 0, .int 0])) q1 = some (aA Y 0 (fun _ => none)) := (hup_ne (Ne.symm hzq1)).trans hup_eq
  have hq21 : q1 ≠ q2 := fun e => by
    have h9 := hq2
    rw [← e] at h9
    exact absurd (y1.symm.trans h9) (fun q => by cases q)
  have y2 := hup_old (e := aA Y 1 (fun _ => none)) hq2 y1
  have hq31 : q1 ≠ q3 := fun e => by
    have h9 := hq3
    rw [← e] at h9
    exact absurd (y2.symm.trans h9) (fun q => by cases q)
  have hq32 : q2 ≠ q3 := fun e => by
    have := hq3
    rw [← e, hup_eq] at this
    cases this
  have hn3 : h q3 = none := by
    have := hq3
    rw [hup_ne (Ne.symm hq32), hup_ne (Ne.symm hzq3), hup_ne (Ne.symm hq31)] at this
    exact this
  refine g_vret C hr dX3_init_42 (Nat.le_of_ble_eq_true rfl) (Nat.le_of_ble_eq_true rfl) ⟨rfl, (q1, q2, (fun _ => none), va_up (fun _ => none) 0 (some q3), (fun _ => 0), (fun _ => q3), (fun _ => 0), 0), ⟨hJO, hup_eq, ?_, ?_, fun q hq => absurd hq (Nat.not_lt_zero q), fun e he => ?_, fun i j hi hj _ => ?_⟩, rfl, rfl, hn3, fun a c ha hc => ?_⟩
  · exact (hup_ne (Ne.symm hzq1)).trans ((hup_ne hq21).trans ((hup_ne hq31).trans y2))
  · exact (hup_ne (Ne.symm hzq2)).trans hup_eq
  · have he' : e < 1 := he
    have : e = 0 := by omega
    subst this
    exact ⟨rfl, _, (hup_ne (Ne.symm hzq3)).trans ((hup_ne (Ne.symm hq32)).trans hup_eq), rfl, rfl, rfl, rfl⟩
  · have hi' : i < 1 := hi
    have hj' : j < 1 := hj
    omega
  · obtain ⟨e1, e2, e3⟩ := n1 a c ha hc
    exact (hup_ne ha).trans ((hup_ne e2).trans ((hup_ne e3).trans ((hup_ne e2).trans ((hup_ne ha).trans ((hup_ne e1).trans hc)))))
def pSt (Y : YG) (g : Sg) (e0 : Nat) (h : AH) : Option Value → AH → Prop := pR (fun r h2 => ∃ q f, r = some q ∧ h q = none ∧ h2 = hup h q (aI Y (2 + 3 * g.np) f) ∧ StR g.np (g.ct e0) (g.pos e0) (g.lb e0) f)
set_option maxRecDepth 100000 in
set_option maxHeartbeats 4000000 in
theorem K_X3_state0 (l : Launch) (Y : YG) {z : Nat} {w : Sv} {g : Sg} {h : AH} (r : RepS Y z w g h) (iv : Inv g) (P : Pld g) (f L : Nat) : MX l Y yX3_state cX3_state 4 (some (.array .int)) f L 1 50 [.ref z, .int (nI 0)] h (pSt Y g 0 h) (noX) := by
  have hn60 := iv.n60
  have hnp16 := iv.np
  have hnow := iv.now
  have hn1 := iv.n1
  refine MX.of (by decide +kernel) (Nat.le_of_ble_eq_true rfl) ?_
  intro p e s m args0 below meth c C hr hout hnm
  refine g_iload_n C dX3_state_0 rfl ?_
  refine g_if_neN C (tgt := 65) dX3_state_1 (by decide) (by omega) (fun q0 => ?_) (fun q0 => ?_)
  · omega
  · refine g_iconst C (v := nI 2) dX3_state_4 (by decide) ?_
    refine g_iconst C (v := nI 3) dX3_state_5 (by decide) ?_
    refine g_aload_n C dX3_state_6 rfl (by first | rfl | exact isR_rf _) ?_
    refine gf_X3_9 C (r.z) rfl dX3_state_7 ?_
    refine g_alena C (r.sr) dX3_state_10 ?_
    first | with_reducible refine g_imulN C dX3_state_11 ?_ | refine g_imul C dX3_state_11 ?_
    first | with_reducible refine g_iaddN C dX3_state_12 ?_ | refine g_iadd C dX3_state_12 ?_
    refine g_newI C (N := 2 + 3 * g.np) rfl (by omega) w49 (by show _ ≤ 1; omega) (by show _ ≤ 50; omega) dX3_state_13 (fun q hq => ?_)
    refine g_astore_n C dX3_state_15 (by decide) rfl ?_
    refine g_iconst C (v := nI 0) dX3_state_16 (by decide) ?_
    refine g_istore_n C dX3_state_17 (by decide) ?_
    have lp : ∀ (d i : Nat) (f1 : Nat → Int32), i ≤ g.np → g.np - i < d → f1 0 = 0 → f1 1 = 0 → (∀ j, j < i → f1 (2 + 3 * j) = nI (g.pos 0 j / 8) ∧ f1 (3 + 3 * j) = nI (g.pos 0 j % 8)) → (∀ j, f1 (4 + 3 * j) = 0) → Gd p l e (rmO f L 1 50) s m args0 below meth c (vx_MQ below (Qk Y (pSt Y g 0 h)) (Xk Y (noX)) args0 s 1 50 Y.A) Y 4 18 [some (.ref z), some (.int (nI 0)), some (.ref q), some (.int (nI i))] [] (hup h q (aI Y (2 + 3 * g.np) f1)) 1 (2 + 3 * g.np) := by
      intro d
      induction d with
      | zero => intro i f1 h1 h2; omega
      | succ d ih =>
        intro i f1 hi hd i0 i1 i2 i3
        have r1 := r.ext (Ext.new hq (e := aI Y (2 + 3 * g.np) f1))
        refine g_iload_n C dX3_state_18 rfl ?_
        refine g_aload_n C dX3_state_19 rfl (by first | rfl | exact isR_rf _) ?_
        refine gf_X3_9 C (r1.z) rfl dX3_state_20 ?_
        refine g_alena C (r1.sr) dX3_state_23 ?_
        refine g_icmp_geN C (tgt := 63) dX3_state_24 (by decide) (by omega) (by omega) (fun q1 => ?_) (fun q1 => ?_)
        · refine g_aload_n C dX3_state_63 rfl (by first | rfl | exact isR_rf _) ?_
          exact g_aret C hr (by first | exact Or.inl ⟨_, rfl⟩ | exact Or.inr ⟨_, rfl⟩) (by first | rfl | exact isR_rf _) dX3_state_64 (by omega) (by omega) (⟨some q, rfl, q, f1, rfl, hq, rfl, by rw [i0, P.1.1]; rfl, by rw [i1, P.1.1]; rfl, fun j hj => ⟨(i2 j (by omega)).1, (i2 j (by omega)).2, by rw [i3 j, P.1.2.1, Nat.zero_testBit]; rfl⟩⟩)
        · obtain ⟨ef, f9, hf9, e0, e1⟩ := r1.sp (show i < g.np by omega)
          refine g_aload_n C dX3_state_27 rfl (by first | rfl | exact isR_rf _) ?_
          refine g_iconst C (v := nI 2) dX3_state_28 (by decide) ?_
          refine g_iconst C (v := nI 3) dX3_state_29 (by decide) ?_
          refine g_iload_n C dX3_state_30 rfl ?_
          first | with_reducible refine g_imulN C dX3_state_31 ?_ | refine g_imul C dX3_state_31 ?_
          first | with_reducible refine g_iaddN C dX3_state_32 ?_ | refine g_iadd C dX3_state_32 ?_
          refine g_aload_n C dX3_state_33 rfl (by first | rfl | exact isR_rf _) ?_
          refine gf_X3_9 C (r1.z) rfl dX3_state_34 ?_
          refine g_iload_n C dX3_state_37 rfl ?_
          refine g_aald C r1.sr rfl (show i < g.np by omega) (by omega) dX3_state_38 ?_
          rw [ef]
          refine g_iconst C (v := nI 0) dX3_state_39 (by decide) ?_
          refine g_iald C hf9 rfl (show 0 < 2 by decide) (by decide) dX3_state_40 ?_
          rw [e0]
          refine g_iast C hup_eq rfl (show 2 + 3 * i < 2 + 3 * g.np by omega) (by omega) dX3_state_41 ?_
          rw [hup_hup]
          have r2 := r.ext (Ext.new hq (e := aI Y (2 + 3 * g.np) (upd f1 (2 + 3 * i) (nI (g.pos 0 i / 8)))))
          obtain ⟨ef2, f8, hf8, e02, e12⟩ := r2.sp (show i < g.np by omega)
          refine g_aload_n C dX3_state_42 rfl (by first | rfl | exact isR_rf _) ?_
          refine g_iconst C (v := nI 3) dX3_state_43 (by decide) ?_
          refine g_iconst C (v := nI 3) dX3_state_44 (by decide) ?_
          refine g_iload_n C dX3_state_45 rfl ?_
          first | with_reducible refine g_imulN C dX3_state_46 ?_ | refine g_imul C dX3_state_46 ?_
          first | with_reducible refine g_iaddN C dX3_state_47 ?_ | refine g_iadd C dX3_state_47 ?_
          refine g_aload_n C dX3_state_48 rfl (by first | rfl | exact isR_rf _) ?_
          refine gf_X3_9 C (r2.z) rfl dX3_state_49 ?_
          refine g_iload_n C dX3_state_52 rfl ?_
          refine g_aald C r2.sr rfl (show i < g.np by omega) (by omega) dX3_state_53 ?_
          rw [ef2]
          refine g_iconst C (v := nI 1) dX3_state_54 (by decide) ?_
          refine g_iald C hf8 rfl (show 1 < 2 by decide) (by decide) dX3_state_55 ?_
          rw [e12]
          refine g_iast C hup_eq rfl (show 3 + 3 * i < 2 + 3 * g.np by omega) (by omega) dX3_state_56 ?_
          rw [hup_hup]
          refine g_iincN C dX3_state_57 rfl (by decide) ?_
          refine g_goto C (tgt := 18) dX3_state_60 (by decide) ?_
          refine ih (i + 1) _ (by omega) (by omega) ?_ ?_ (fun j hj => ?_) (fun j => ?_)
          · rw [pk_un (by omega), pk_un (by omega)]; exact i0
          · rw [pk_un (by omega), pk_un (by omega)]; exact i1
          · by_cases c : j = i
            · subst c
              exact ⟨by rw [pk_un (by omega), pk_us], by rw [pk_us]⟩
            · rw [pk_un (by omega), pk_un (by omega), pk_un (by omega), pk_un (by omega)]
              exact i2 j (by omega)
          · rw [pk_un (by omega), pk_un (by omega)]; exact i3 j
    refine Gd.wide (k2 := 1) (n2 := 2 + 3 * g.np) (by omega) (by omega) ?_
    exact lp (g.np + 1) 0 _ (Nat.zero_le _) (by omega) rfl rfl (fun j hj => absurd hj (Nat.not_lt_zero j)) (fun j => rfl)
set_option maxRecDepth 100000 in
set_option maxHeartbeats 4000000 in
theorem K_X3_stateS (l : Launch) (Y : YG) {z : Nat} {w : Sv} {g : Sg} {h : AH} (r : RepS Y z w g h) (iv : Inv g) (P : Pld g) (d : Nat) {e0 : Nat} (he : e0 < g.n) (h0 : 0 < e0) (ih : MX l Y yX3_state cX3_state 4 (some (.array .int)) (2 + d) (50 + 23 * d) 1 50 [.ref z, .int (nI (g.par e0))] h (pSt Y g (g.par e0) h) noX) : MX l Y yX3_state cX3_state 4 (some (.array .int)) (2 + (d + 1)) (50 + 23 * (d + 1)) 1 50 [.ref z, .int (nI e0)] h (pSt Y g e0 h) (noX) := by
  have hn60 := iv.n60
  have hnp16 := iv.np
  have hnow := iv.now
  have hn1 := iv.n1
  obtain ⟨k, v, hk4, hv16, hv8, ek, ev, enx⟩ := P.2 e0 h0 he
  have hp := iv.par he
  refine MX.of (by decide +kernel) (Nat.le_of_ble_eq_true rfl) ?_
  intro p e s m args0 below meth c C hr hout hnm
  refine g_iload_n C dX3_state_0 rfl ?_
  refine g_if_neN C (tgt := 65) dX3_state_1 (by decide) (by omega) (fun q0 => ?_) (fun q0 => ?_)
  · refine g_aload_n C dX3_state_65 rfl (by first | rfl | exact isR_rf _) ?_
    refine g_aload_n C dX3_state_66 rfl (by first | rfl | exact isR_rf _) ?_
    refine gf_X3_15 C (r.z) rfl dX3_state_67 ?_
    refine g_iload_n C dX3_state_70 rfl ?_
    refine g_aald C r.er rfl (he) (by omega) dX3_state_71 ?_
    obtain ⟨ef, f, hf, f0, f1, f2, f3⟩ := r.ev (he)
    rw [ef]
    refine g_iconst C (v := nI 0) dX3_state_72 (by decide) ?_
    refine g_iald C hf rfl (show 0 < 4 by decide) (by decide) dX3_state_73 ?_
    rw [f0]
    rw [parO_p h0]
    refine g_callV C (ih.K) ok_X3_state w504 (r.z) rfl rfl rfl dX3_state_74 (Nat.le_of_ble_eq_true rfl) (by show _ ≤ (2 + (d + 1)); omega) (by show _ ≤ (50 + 23 * (d + 1)); omega) (by show _ ≤ 1; omega) (by show _ ≤ 50; omega) (fun vv h2 e2 => ?_)
    obtain ⟨r0, rfl, q, f9, rfl, hq, rfl, sr⟩ := e2
    have r1 := r.ext (Ext.new hq (e := aI Y (2 + 3 * g.np) f9))
    refine g_astore_n C dX3_state_77 (by decide) (by first | rfl | exact isR_rf _) ?_
    refine g_aload_n C dX3_state_78 rfl (by first | rfl | exact isR_rf _) ?_
    refine g_aload_n C dX3_state_79 rfl (by first | rfl | exact isR_rf _) ?_
    refine gf_X3_15 C (r1.z) rfl dX3_state_80 ?_
    refine g_iload_n C dX3_state_83 rfl ?_
    refine g_aald C r1.er rfl (he) (by omega) dX3_state_84 ?_
    obtain ⟨ef7, f7, hf7, f07, f17, f27, f37⟩ := r1.ev (he)
    rw [ef7]
    refine g_iconst C (v := nI 1) dX3_state_85 (by decide) ?_
    refine g_iald C hf7 rfl (show 1 < 4 by decide) (by decide) dX3_state_86 ?_
    rw [f17]
    refine g_aload_n C dX3_state_87 rfl (by first | rfl | exact isR_rf _) ?_
    refine gf_X3_15 C (r1.z) rfl dX3_state_88 ?_
    refine g_iload_n C dX3_state_91 rfl ?_
    refine g_aald C r1.er rfl (he) (by omega) dX3_state_92 ?_
    obtain ⟨ef8, f8, hf8, f08, f18, f28, f38⟩ := r1.ev (he)
    rw [ef8]
    refine g_iconst C (v := nI 2) dX3_state_93 (by decide) ?_
    refine g_iald C hf8 rfl (show 2 < 4 by decide) (by decide) dX3_state_94 ?_
    rw [f28]
    rw [ek, ev]
    refine g_callS C ((K_X3_does l Y hup_eq sr hnp16 (iv.ct hp) (fun j hj => iv.pos hp hj) hk4 hv16 hv8).K) ok_X3_does w508 rfl rfl dX3_state_95 (Nat.le_of_ble_eq_true rfl) (by show _ ≤ (2 + (d + 1)); omega) (by show _ ≤ (50 + 23 * (d + 1)); omega) (by show _ ≤ 1; omega) (by show _ ≤ 50; omega) (fun vv h2 e2 => ?_)
    obtain ⟨rfl, -, e3⟩ := e2
    obtain ⟨f6, rfl, sr6⟩ := e3 _ enx
    rw [hup_hup]
    refine g_pop C dX3_state_98 (by first | rfl | exact cat_rf _) ?_
    refine g_aload_n C dX3_state_99 rfl (by first | rfl | exact isR_rf _) ?_
    exact g_aret C hr (by first | exact Or.inl ⟨_, rfl⟩ | exact Or.inr ⟨_, rfl⟩) (by first | rfl | exact isR_rf _) dX3_state_100 (by omega) (by omega) (⟨some q, rfl, q, f6, rfl, hq, rfl, sr6⟩)
  · omega
theorem K_X3_state_d (l : Launch) (Y : YG) {z : Nat} {w : Sv} {g : Sg} {h : AH} (r : RepS Y z w g h) (iv : Inv g) (P : Pld g) : ∀ (d e0 : Nat), e0 < g.n → g.dp e0 ≤ d → MX l Y yX3_state cX3_state 4 (some (.array .int)) (2 + d) (50 + 23 * d) 1 50 [.ref z, .int (nI e0)] h (pSt Y g e0 h) noX := by
  intro d
  induction d with
  | zero =>
    intro e0 he hd
    have := dp_0 iv.dp (Nat.le_zero.mp hd)
    subst this
    exact K_X3_state0 l Y r iv P _ _
  | succ d ih =>
    intro e0 he hd
    rcases Nat.eq_zero_or_pos e0 with h0 | h0
    · subst h0
      exact K_X3_state0 l Y r iv P _ _
    · have hdp := iv.dp.2 e0 h0
      exact K_X3_stateS l Y r iv P d he h0 (ih (g.par e0) (iv.par he) (by omega))
theorem K_X3_state (l : Launch) (Y : YG) {z : Nat} {w : Sv} {g : Sg} {h : AH} (r : RepS Y z w g h) (iv : Inv g) (P : Pld g) {e0 : Nat} (he : e0 < g.n) : MX l Y yX3_state cX3_state 4 (some (.array .int)) 62 1430 1 50 [.ref z, .int (nI e0)] h (pSt Y g e0 h) noX := K_X3_state_d l Y r iv P 60 e0 he (by have := iv.dp60 he; omega)
set_option maxRecDepth 100000 in
set_option maxHeartbeats 4000000 in
theorem K_X3_lying (l : Launch) (Y : YG) {z : Nat} {w : Sv} {g : Sg} {h : AH} (r : RepS Y z w g h) (iv : Inv g) (P : Pld g) {e0 : Nat} (he : e0 < g.n) : MX l Y yX3_lying cX3_lying 5 (some .int) 63 1453 1 50 [.ref z, .int (nI e0)] h (fun vv h2 => vv = some (.int (nI (lyN g e0))) ∧ Ext h h2) (noX) := by
  have hn60 := iv.n60
  have hnp16 := iv.np
  have hnow := iv.now
  have hn1 := iv.n1
  refine MX.of (by decide +kernel) (Nat.le_of_ble_eq_true rfl) ?_
  intro p e s m args0 below meth c C hr hout hnm
  refine g_aload_n C dX3_lying_0 rfl (by first | rfl | exact isR_rf _) ?_
  refine g_iload_n C dX3_lying_1 rfl ?_
  refine g_callV C ((K_X3_state l Y r iv P he).K) ok_X3_state w504 (r.z) rfl rfl rfl dX3_lying_2 (Nat.le_of_ble_eq_true rfl) (Nat.le_of_ble_eq_true rfl) (Nat.le_of_ble_eq_true rfl) (Nat.le_of_ble_eq_true rfl) (Nat.le_of_ble_eq_true rfl) (fun vv h2 e2 => ?_)
  obtain ⟨r0, rfl, q, f9, rfl, hq, rfl, sr⟩ := e2
  have lp : ∀ (d i : Nat), i ≤ g.np → g.np - i < d → Gd p l e (rmO 63 1453 1 50) s m args0 below meth c (vx_MQ below (Qk Y (fun vv h2 => vv = some (.int (nI (lyN g e0))) ∧ Ext h h2)) (Xk Y (noX)) args0 s 1 50 Y.A) Y 5 11 [some (.ref z), some (.int (nI e0)), some (.ref q), some (.int (nI (cnt (fun j => (g.lb e0).testBit j) i))), some (.int (nI (4 + 3 * i)))] [] (hup h q (aI Y (2 + 3 * g.np) f9)) 1 50 := by
    intro d
    induction d with
    | zero => intro i h1 h2; omega
    | succ d ih =>
      intro i hi hd
      refine g_iload C dX3_lying_11 rfl ?_
      refine g_aload_n C dX3_lying_13 rfl (by first | rfl | exact isR_rf _) ?_
      refine g_aleni C (hup_eq) dX3_lying_14 ?_
      refine g_icmp_geN C (tgt := 31) dX3_lying_15 (by decide) (by omega) (by omega) (fun q1 => ?_) (fun q1 => ?_)
      · have : i = g.np := by omega
        subst this
        refine g_iload_n C dX3_lying_31 rfl ?_
        exact g_iret C hr dX3_lying_32 (Nat.le_of_ble_eq_true rfl) (Nat.le_of_ble_eq_true rfl) (⟨rfl, Ext.new hq⟩)
      · refine g_iload_n C dX3_lying_18 rfl ?_
        refine g_aload_n C dX3_lying_19 rfl (by first | rfl | exact isR_rf _) ?_
        refine g_iload C dX3_lying_20 rfl ?_
        refine g_iald C hup_eq rfl (show 4 + 3 * i < 2 + 3 * g.np by omega) (by omega) dX3_lying_22 ?_
        rw [(sr.2.2 i (by omega)).2.2]
        refine g_iaddN C dX3_lying_23 ?_
        refine g_istore_n C dX3_lying_24 (by decide) ?_
        refine g_iinc C dX3_lying_25 rfl (by decide) ?_
        rw [nI_3]
        refine g_goto C (tgt := 11) dX3_lying_28 (by decide) ?_
        exact ih (i + 1) (by omega) (by omega)
  refine g_astore_n C dX3_lying_5 (by decide) rfl ?_
  refine g_iconst C (v := nI 0) dX3_lying_6 (by decide) ?_
  refine g_istore_n C dX3_lying_7 (by decide) ?_
  refine g_iconst C (v := nI 4) dX3_lying_8 (by decide) ?_
  refine g_istore C dX3_lying_9 (by decide) ?_
  exact lp (g.np + 1) 0 (Nat.zero_le _) (by omega)
