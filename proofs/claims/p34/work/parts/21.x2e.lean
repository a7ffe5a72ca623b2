set_option maxRecDepth 100000 in
set_option maxHeartbeats 4000000 in
theorem K_pis_ok (l : Launch) (Y : YG) {q pa np ct lb : Nat} {fp : Nat → Int32} {h : AH} (hq : h q = some (.inr (2, [.int (nI ct), .ref pa, .int (nI lb)]))) (hp : h pa = some (aI Y np fp)) (hnp : np ≤ 16) {pos : Nat → Nat} (hfp : ∀ j, j < np → fp j = nI (pos j)) {j : Nat} (hj : j < np) : MX l Y yX2_placeInScene cX2_placeInScene 2 (some .int) 6 90 0 0 [.ref q, .int (nI j)] h (pS (some (.int (nI (pos j)))) h) (noX) := by
  refine MX.of (by decide +kernel) (Nat.le_of_ble_eq_true rfl) ?_
  intro p e s m args0 below meth c C hr hout hnm
  refine g_aload_n C dX2_placeInScene_0 rfl (by first | rfl | exact isR_rf _) ?_
  refine g_iload_n C dX2_placeInScene_1 rfl ?_
  refine g_callV C ((K_X1_has l Y hq hp hnp (nI j)).K) ok_X1_has w423 (hq) rfl rfl rfl dX2_placeInScene_2 (Nat.le_of_ble_eq_true rfl) (Nat.le_of_ble_eq_true rfl) (Nat.le_of_ble_eq_true rfl) (Nat.le_of_ble_eq_true rfl) (Nat.le_of_ble_eq_true rfl) (ofS ?_)
  rw [hasP_N hnp (by omega), decide_eq_true hj]
  refine g_if_neB C (tgt := 18) dX2_placeInScene_5 (by decide) (fun q1 => ?_) (fun q1 => absurd q1 (by decide))
  refine g_aload_n C dX2_placeInScene_18 rfl (by first | rfl | exact isR_rf _) ?_
  refine gf_X2_44 C (hq) rfl dX2_placeInScene_19 ?_
  refine g_iload_n C dX2_placeInScene_22 rfl ?_
  refine g_iald C hp rfl hj (by omega) dX2_placeInScene_23 ?_
  exact g_iret C hr dX2_placeInScene_24 (Nat.le_of_ble_eq_true rfl) (Nat.le_of_ble_eq_true rfl) (⟨by rw [hfp j hj], rfl⟩)
set_option maxRecDepth 100000 in
set_option maxHeartbeats 4000000 in
theorem K_placeOf_ok (l : Launch) (Y : YG) {x : Nat} {v : Vw} {g : Sg} {Z : Nat → Prop} {h : AH} (r : RepC Y x v g Z h) (iv : Inv g) {j : Nat} (hj : j < g.np) : MX l Y yX2_placeOf cX2_placeOf 2 (some .int) 7 111 0 0 [.ref x, .int (nI j)] h (pS (some (.int (nI (g.pos g.now j)))) h) (noX) := by
  have hn60 := iv.n60
  have hnp16 := iv.np
  have hnow := iv.now
  refine MX.of (by decide +kernel) (Nat.le_of_ble_eq_true rfl) ?_
  intro p e s m args0 below meth c C hr hout hnm
  refine g_aload_n C dX2_placeOf_0 rfl (by first | rfl | exact isR_rf _) ?_
  refine gf_X2_19 C (r.x) rfl dX2_placeOf_1 ?_
  refine gf_X2_40 C (r.ev hnow) rfl dX2_placeOf_4 ?_
  refine g_iload_n C dX2_placeOf_7 rfl ?_
  refine g_callS C ((K_pis_ok l Y (r.sc hnow) (r.pl hnow) iv.np (fun q hq => r.fp hnow hq) hj).K) ok_X2_placeInScene w420 rfl rfl dX2_placeOf_8 (Nat.le_of_ble_eq_true rfl) (Nat.le_of_ble_eq_true rfl) (Nat.le_of_ble_eq_true rfl) (Nat.le_of_ble_eq_true rfl) (Nat.le_of_ble_eq_true rfl) (ofS ?_)
  exact g_iret C hr dX2_placeOf_11 (Nat.le_of_ble_eq_true rfl) (Nat.le_of_ble_eq_true rfl) (⟨rfl, rfl⟩)
set_option maxRecDepth 100000 in
set_option maxHeartbeats 4000000 in
theorem K_lies_ok (l : Launch) (Y : YG) {x : Nat} {v : Vw} {g : Sg} {Z : Nat → Prop} {h : AH} (r : RepC Y x v g Z h) (iv : Inv g) {j : Nat} (hj : j < g.np) : MX l Y yX2_lies cX2_lies 2 (some .boolean) 6 90 0 0 [.ref x, .int (nI j)] h (pS (some (bI ((g.lb g.now).testBit j))) h) (noX) := by
  have hn60 := iv.n60
  have hnp16 := iv.np
  have hnow := iv.now
  refine MX.of (by decide +kernel) (Nat.le_of_ble_eq_true rfl) ?_
  intro p e s m args0 below meth c C hr hout hnm
  refine g_aload_n C dX2_lies_0 rfl (by first | rfl | exact isR_rf _) ?_
  refine gf_X2_19 C (r.x) rfl dX2_lies_1 ?_
  refine gf_X2_40 C (r.ev hnow) rfl dX2_lies_4 ?_
  refine g_iload_n C dX2_lies_7 rfl ?_
  refine g_callV C ((K_has l Y r iv hnow (nI j)).K) ok_X1_has w423 (r.sc hnow) rfl rfl rfl dX2_lies_8 (Nat.le_of_ble_eq_true rfl) (Nat.le_of_ble_eq_true rfl) (Nat.le_of_ble_eq_true rfl) (Nat.le_of_ble_eq_true rfl) (Nat.le_of_ble_eq_true rfl) (ofS ?_)
  rw [hasP_N iv.np (by omega), decide_eq_true hj]
  refine g_if_neB C (tgt := 24) dX2_lies_11 (by decide) (fun q1 => ?_) (fun q1 => absurd q1 (by decide))
  refine g_aload_n C dX2_lies_24 rfl (by first | rfl | exact isR_rf _) ?_
  refine gf_X2_19 C (r.x) rfl dX2_lies_25 ?_
  refine gf_X2_40 C (r.ev hnow) rfl dX2_lies_28 ?_
  refine g_iload_n C dX2_lies_31 rfl ?_
  refine g_callV C ((K_ly l Y r iv hnow hj).K) ok_X1_isLying w428 (r.sc hnow) rfl rfl rfl dX2_lies_32 (Nat.le_of_ble_eq_true rfl) (Nat.le_of_ble_eq_true rfl) (Nat.le_of_ble_eq_true rfl) (Nat.le_of_ble_eq_true rfl) (Nat.le_of_ble_eq_true rfl) (ofS ?_)
  exact g_zret C hr (by cases (g.lb g.now).testBit j <;> first | exact Or.inl rfl | exact Or.inr rfl) dX2_lies_35 (Nat.le_of_ble_eq_true rfl) (Nat.le_of_ble_eq_true rfl) (⟨rfl, rfl⟩)
set_option maxRecDepth 100000 in
set_option maxHeartbeats 4000000 in
theorem K_X2_withEvening (l : Launch) (Y : YG) {x : Nat} {v : Vw} {g : Sg} {Z : Nat → Prop} {h : AH} (r : RepC Y x v g Z h) (iv : Inv g) {j : Nat} (hj : j < g.n) (d : Int64) : MX l Y yX2_withEvening cX2_withEvening 6 (some .long) 3 65 0 0 [.ref x, .long d, .ref (v.ev j)] h (pS (some (.long (dgF (evL g j) d))) h) (noX) := by
  have hn60 := iv.n60
  have hnp16 := iv.np
  have hnow := iv.now
  have e1 := r.ev hj
  refine MX.of (by decide +kernel) (Nat.le_of_ble_eq_true rfl) ?_
  intro p e s m args0 below meth c C hr hout hnm
  refine g_lload_n C dX2_withEvening_0 rfl ?_
  refine g_lstore C dX2_withEvening_1 (by decide) ?_
  refine g_lload C dX2_withEvening_3 rfl ?_
  refine g_aload_n C dX2_withEvening_5 rfl (by first | rfl | exact isR_rf _) ?_
  refine gf_X2_93 C (e1) rfl dX2_withEvening_6 ?_
  rw [evP_map]
  refine g_callS C ((K_X2_labelOf l Y (a := parO g j) (fun k ek => r.ev (parO_lt iv hj ek))).K) ok_X2_labelOf w377 rfl rfl dX2_withEvening_9 (Nat.le_of_ble_eq_true rfl) (Nat.le_of_ble_eq_true rfl) (Nat.le_of_ble_eq_true rfl) (Nat.le_of_ble_eq_true rfl) (Nat.le_of_ble_eq_true rfl) (ofS ?_)
  refine g_i2l C dX2_withEvening_12 ?_
  refine g_callS C ((K_X2_mixed l Y _ _).K) ok_X2_mixed w451 rfl rfl dX2_withEvening_13 (Nat.le_of_ble_eq_true rfl) (Nat.le_of_ble_eq_true rfl) (Nat.le_of_ble_eq_true rfl) (Nat.le_of_ble_eq_true rfl) (Nat.le_of_ble_eq_true rfl) (ofS ?_)
  refine g_lstore C dX2_withEvening_16 (by decide) ?_
  refine g_lload C dX2_withEvening_18 rfl ?_
  refine g_aload_n C dX2_withEvening_20 rfl (by first | rfl | exact isR_rf _) ?_
  refine gf_X2_137 C (e1) rfl dX2_withEvening_21 ?_
  refine g_i2l C dX2_withEvening_24 ?_
  refine g_callS C ((K_X2_mixed l Y _ _).K) ok_X2_mixed w451 rfl rfl dX2_withEvening_25 (Nat.le_of_ble_eq_true rfl) (Nat.le_of_ble_eq_true rfl) (Nat.le_of_ble_eq_true rfl) (Nat.le_of_ble_eq_true rfl) (Nat.le_of_ble_eq_true rfl) (ofS ?_)
  refine g_lstore C dX2_withEvening_28 (by decide) ?_
  refine g_lload C dX2_withEvening_30 rfl ?_
  refine g_aload_n C dX2_withEvening_32 rfl (by first | rfl | exact isR_rf _) ?_
  refine gf_X2_140 C (e1) rfl dX2_withEvening_33 ?_
  refine g_i2l C dX2_withEvening_36 ?_
  refine g_callS C ((K_X2_mixed l Y _ _).K) ok_X2_mixed w451 rfl rfl dX2_withEvening_37 (Nat.le_of_ble_eq_true rfl) (Nat.le_of_ble_eq_true rfl) (Nat.le_of_ble_eq_true rfl) (Nat.le_of_ble_eq_true rfl) (Nat.le_of_ble_eq_true rfl) (ofS ?_)
  refine g_lstore C dX2_withEvening_40 (by decide) ?_
  refine g_lload C dX2_withEvening_42 rfl ?_
  refine g_aload_n C dX2_withEvening_44 rfl (by first | rfl | exact isR_rf _) ?_
  refine gf_X2_143 C (e1) rfl dX2_withEvening_45 ?_
  refine g_i2l C dX2_withEvening_48 ?_
  refine g_callS C ((K_X2_mixed l Y _ _).K) ok_X2_mixed w451 rfl rfl dX2_withEvening_49 (Nat.le_of_ble_eq_true rfl) (Nat.le_of_ble_eq_true rfl) (Nat.le_of_ble_eq_true rfl) (Nat.le_of_ble_eq_true rfl) (Nat.le_of_ble_eq_true rfl) (ofS ?_)
  refine g_lstore C dX2_withEvening_52 (by decide) ?_
  refine g_lload C dX2_withEvening_54 rfl ?_
  refine g_aload_n C dX2_withEvening_56 rfl (by first | rfl | exact isR_rf _) ?_
  refine gf_X2_146 C (e1) rfl dX2_withEvening_57 ?_
  refine g_i2l C dX2_withEvening_60 ?_
  refine g_callS C ((K_X2_mixed l Y _ _).K) ok_X2_mixed w451 rfl rfl dX2_withEvening_61 (Nat.le_of_ble_eq_true rfl) (Nat.le_of_ble_eq_true rfl) (Nat.le_of_ble_eq_true rfl) (Nat.le_of_ble_eq_true rfl) (Nat.le_of_ble_eq_true rfl) (ofS ?_)
  refine g_lstore C dX2_withEvening_64 (by decide) ?_
  refine g_lload C dX2_withEvening_66 rfl ?_
  refine g_aload_n C dX2_withEvening_68 rfl (by first | rfl | exact isR_rf _) ?_
  refine gf_X2_149 C (e1) rfl dX2_withEvening_69 ?_
  refine g_i2l C dX2_withEvening_72 ?_
  refine g_callS C ((K_X2_mixed l Y _ _).K) ok_X2_mixed w451 rfl rfl dX2_withEvening_73 (Nat.le_of_ble_eq_true rfl) (Nat.le_of_ble_eq_true rfl) (Nat.le_of_ble_eq_true rfl) (Nat.le_of_ble_eq_true rfl) (Nat.le_of_ble_eq_true rfl) (ofS ?_)
  refine g_lstore C dX2_withEvening_76 (by decide) ?_
  refine g_lload C dX2_withEvening_78 rfl ?_
  refine g_aload_n C dX2_withEvening_80 rfl (by first | rfl | exact isR_rf _) ?_
  refine gf_X2_98 C (e1) rfl dX2_withEvening_81 ?_
  refine g_callS C ((K_X2_labelOf l Y (a := g.last j) (fun k ek => r.ev (iv.last hj ek).2.1)).K) ok_X2_labelOf w377 rfl rfl dX2_withEvening_84 (Nat.le_of_ble_eq_true rfl) (Nat.le_of_ble_eq_true rfl) (Nat.le_of_ble_eq_true rfl) (Nat.le_of_ble_eq_true rfl) (Nat.le_of_ble_eq_true rfl) (ofS ?_)
  refine g_i2l C dX2_withEvening_87 ?_
  refine g_callS C ((K_X2_mixed l Y _ _).K) ok_X2_mixed w451 rfl rfl dX2_withEvening_88 (Nat.le_of_ble_eq_true rfl) (Nat.le_of_ble_eq_true rfl) (Nat.le_of_ble_eq_true rfl) (Nat.le_of_ble_eq_true rfl) (Nat.le_of_ble_eq_true rfl) (ofS ?_)
  refine g_lstore C dX2_withEvening_91 (by decide) ?_
  refine g_lload C dX2_withEvening_93 rfl ?_
  refine g_aload_n C dX2_withEvening_95 rfl (by first | rfl | exact isR_rf _) ?_
  refine gf_X2_40 C (e1) rfl dX2_withEvening_96 ?_
  refine g_callV C ((K_lyN l Y r iv hj).K) ok_X1_countLying w363 (r.sc hj) rfl rfl rfl dX2_withEvening_99 (Nat.le_of_ble_eq_true rfl) (Nat.le_of_ble_eq_true rfl) (Nat.le_of_ble_eq_true rfl) (Nat.le_of_ble_eq_true rfl) (Nat.le_of_ble_eq_true rfl) (ofS ?_)
  refine g_i2l C dX2_withEvening_102 ?_
  refine g_callS C ((K_X2_mixed l Y _ _).K) ok_X2_mixed w451 rfl rfl dX2_withEvening_103 (Nat.le_of_ble_eq_true rfl) (Nat.le_of_ble_eq_true rfl) (Nat.le_of_ble_eq_true rfl) (Nat.le_of_ble_eq_true rfl) (Nat.le_of_ble_eq_true rfl) (ofS ?_)
  refine g_lstore C dX2_withEvening_106 (by decide) ?_
  refine g_lload C dX2_withEvening_108 rfl ?_
  refine g_aload_n C dX2_withEvening_110 rfl (by first | rfl | exact isR_rf _) ?_
  refine g_aload_n C dX2_withEvening_111 rfl (by first | rfl | exact isR_rf _) ?_
  refine gf_X2_19 C (r.x) rfl dX2_withEvening_112 ?_
  refine g_callS C ((K_X2_wayLength l Y r iv hj hnow).K) ok_X2_wayLength w333 rfl rfl dX2_withEvening_115 (Nat.le_of_ble_eq_true rfl) (Nat.le_of_ble_eq_true rfl) (Nat.le_of_ble_eq_true rfl) (Nat.le_of_ble_eq_true rfl) (Nat.le_of_ble_eq_true rfl) (ofS ?_)
  refine g_i2l C dX2_withEvening_118 ?_
  refine g_callS C ((K_X2_mixed l Y _ _).K) ok_X2_mixed w451 rfl rfl dX2_withEvening_119 (Nat.le_of_ble_eq_true rfl) (Nat.le_of_ble_eq_true rfl) (Nat.le_of_ble_eq_true rfl) (Nat.le_of_ble_eq_true rfl) (Nat.le_of_ble_eq_true rfl) (ofS ?_)
  refine g_lstore C dX2_withEvening_122 (by decide) ?_
  refine g_lload C dX2_withEvening_124 rfl ?_
  refine g_aload_n C dX2_withEvening_126 rfl (by first | rfl | exact isR_rf _) ?_
  refine gf_X2_40 C (e1) rfl dX2_withEvening_127 ?_
  refine g_aload_n C dX2_withEvening_130 rfl (by first | rfl | exact isR_rf _) ?_
  refine gf_X2_19 C (r.x) rfl dX2_withEvening_131 ?_
  refine gf_X2_40 C (r.ev hnow) rfl dX2_withEvening_134 ?_
  refine g_callV C ((K_lk l Y r iv hj hnow).K) ok_X1_isLike w441 (r.sc hj) rfl rfl rfl dX2_withEvening_137 (Nat.le_of_ble_eq_true rfl) (Nat.le_of_ble_eq_true rfl) (Nat.le_of_ble_eq_true rfl) (Nat.le_of_ble_eq_true rfl) (Nat.le_of_ble_eq_true rfl) (ofS ?_)
  cases ez : lkB g j g.now
  · refine g_if_eqB C (tgt := 147) dX2_withEvening_140 (by decide) (fun q1 => ?_) (fun q1 => absurd q1 (by decide))
    refine g_lconst C dX2_withEvening_147 rfl ?_
    refine g_callS C ((K_X2_mixed l Y _ _).K) ok_X2_mixed w451 rfl rfl dX2_withEvening_148 (Nat.le_of_ble_eq_true rfl) (Nat.le_of_ble_eq_true rfl) (Nat.le_of_ble_eq_true rfl) (Nat.le_of_ble_eq_true rfl) (Nat.le_of_ble_eq_true rfl) (ofS ?_)
    exact g_lret C hr dX2_withEvening_151 (by omega) (by omega) ⟨by unfold evL; rw [ez]; rfl, rfl⟩
  · refine g_if_eqB C (tgt := 147) dX2_withEvening_140 (by decide) (fun q1 => absurd q1 (by decide)) (fun q1 => ?_)
    refine g_lconst C dX2_withEvening_143 rfl ?_
    refine g_goto C (tgt := 148) dX2_withEvening_144 (by decide) ?_
    refine g_callS C ((K_X2_mixed l Y _ _).K) ok_X2_mixed w451 rfl rfl dX2_withEvening_148 (Nat.le_of_ble_eq_true rfl) (Nat.le_of_ble_eq_true rfl) (Nat.le_of_ble_eq_true rfl) (Nat.le_of_ble_eq_true rfl) (Nat.le_of_ble_eq_true rfl) (ofS ?_)
    exact g_lret C hr dX2_withEvening_151 (by omega) (by omega) ⟨by unfold evL; rw [ez]; rfl, rfl⟩
set_option maxRecDepth 100000 in
set_option maxHeartbeats 4000000 in
theorem K_X2_digest (l : Launch) (Y : YG) {x : Nat} {v : Vw} {g : Sg} {Z : Nat → Prop} {h : AH} (r : RepC Y x v g Z h) (iv : Inv g) : MX l Y yX2_digest cX2_digest 4 (some .long) 8 132 0 0 [.ref x] h (pS (some (.long (digV g))) h) (noX) := by
  have hn60 := iv.n60
  have hnp16 := iv.np
  have hnow := iv.now
  refine MX.of (by decide +kernel) (Nat.le_of_ble_eq_true rfl) ?_
  intro p e s m args0 below meth c C hr hout hnm
  generalize hD1 : itF (pcL g) g.np (dgF (hdL g) 2251) = D1
  have lp2 : ∀ (d i : Nat), i ≤ g.n → g.n - i < d → Gd p l e (rmO 8 132 0 0) s m args0 below meth c (vx_MQ below (Qk Y (pS (some (.long (digV g))) h)) (Xk Y (noX)) args0 s 0 0 Y.A) Y 4 131 [some (.ref x), some (.long (itF (evL g) i D1)), none, some (.int (nI i))] [] h 0 0 := by
    intro d
    induction d with
    | zero => intro i h1 h2; omega
    | succ d ih =>
      intro i hi hd
      refine g_iload_n C dX2_digest_131 rfl ?_
      refine g_aload_n C dX2_digest_132 rfl (by first | rfl | exact isR_rf _) ?_
      refine gf_X2_26 C (r.x) rfl dX2_digest_133 ?_
      refine g_callF C (na := 0) (x := nL_size) ((K_Jx4a65c_size_8abf5 l Y r.t).K) (tf_Fsize C) w290 w293 w295 w6 w297 (by exact ⟨by decide, by decide, by decide +kernel⟩) (r.t) rfl rfl rfl dX2_digest_136 (Nat.le_of_ble_eq_true rfl) (Nat.le_of_ble_eq_true rfl) (Nat.le_of_ble_eq_true rfl) (Nat.le_of_ble_eq_true rfl) (Nat.le_of_ble_eq_true rfl) (ofS ?_)
      refine g_icmp_geN C (tgt := 169) dX2_digest_141 (by decide) (by omega) (by omega) (fun q1 => ?_) (fun q1 => ?_)
      · have : i = g.n := by omega
        subst this
        refine g_lload_n C dX2_digest_169 rfl ?_
        exact g_lret C hr dX2_digest_170 (Nat.le_of_ble_eq_true rfl) (Nat.le_of_ble_eq_true rfl) (⟨by unfold digV; rw [hD1], rfl⟩)
      · refine g_aload_n C dX2_digest_144 rfl (by first | rfl | exact isR_rf _) ?_
        refine g_lload_n C dX2_digest_145 rfl ?_
        refine g_aload_n C dX2_digest_146 rfl (by first | rfl | exact isR_rf _) ?_
        refine gf_X2_26 C (r.x) rfl dX2_digest_147 ?_
        refine g_iload_n C dX2_digest_150 rfl ?_
        refine g_callF C (na := 1) (x := nL_get) ((K_Jx4a65c_get_915e3 l Y r.t r.d q1 r.cap.1 (by have := r.cap; omega)).K) (tf_Fget C) w315 w318 w320 w6 w322 (by exact ⟨by decide, by decide, by decide +kernel⟩) (r.t) rfl rfl rfl dX2_digest_151 (Nat.le_of_ble_eq_true rfl) (Nat.le_of_ble_eq_true rfl) (Nat.le_of_ble_eq_true rfl) (Nat.le_of_ble_eq_true rfl) (Nat.le_of_ble_eq_true rfl) (ofS ?_)
        rw [r.fd q1, rf_some]
        refine cc_X2_7 C (r.ev q1) dX2_digest_156 ?_
        refine g_callV C ((K_X2_withEvening l Y r iv q1 _).K) ok_X2_withEvening w483 (r.x) rfl rfl rfl dX2_digest_159 (Nat.le_of_ble_eq_true rfl) (Nat.le_of_ble_eq_true rfl) (Nat.le_of_ble_eq_true rfl) (Nat.le_of_ble_eq_true rfl) (Nat.le_of_ble_eq_true rfl) (ofS ?_)
        refine g_lstore_n C dX2_digest_162 (by decide) ?_
        refine g_iincN C dX2_digest_163 rfl (by decide) ?_
        refine g_goto C (tgt := 131) dX2_digest_166 (by decide) ?_
        exact ih (i + 1) q1 (by omega)
  have lp1 : ∀ (d i : Nat), i ≤ g.np → g.np - i < d → Gd p l e (rmO 8 132 0 0) s m args0 below meth c (vx_MQ below (Qk Y (pS (some (.long (digV g))) h)) (Xk Y (noX)) args0 s 0 0 Y.A) Y 4 86 [some (.ref x), some (.long (itF (pcL g) i (dgF (hdL g) 2251))), none, some (.int (nI i))] [] h 0 0 := by
    intro d
    induction d with
    | zero => intro i h1 h2; omega
    | succ d ih =>
      intro i hi hd
      refine g_iload_n C dX2_digest_86 rfl ?_
      refine g_aload_n C dX2_digest_87 rfl (by first | rfl | exact isR_rf _) ?_
      refine g_callV C ((K_X2_pieces l Y r iv).K) ok_X2_pieces w456 (r.x) rfl rfl rfl dX2_digest_88 (Nat.le_of_ble_eq_true rfl) (Nat.le_of_ble_eq_true rfl) (Nat.le_of_ble_eq_true rfl) (Nat.le_of_ble_eq_true rfl) (Nat.le_of_ble_eq_true rfl) (ofS ?_)
      refine g_icmp_geN C (tgt := 129) dX2_digest_91 (by decide) (by omega) (by omega) (fun q1 => ?_) (fun q1 => ?_)
      · have : i = g.np := by omega
        subst this
        rw [hD1]
        refine g_iconst C (v := nI 0) dX2_digest_129 (by decide) ?_
        refine g_istore_n C dX2_digest_130 (by decide) ?_
        exact lp2 (g.n + 1) 0 (Nat.zero_le _) (by omega)
      · refine g_lload_n C dX2_digest_94 rfl ?_
        refine g_aload_n C dX2_digest_95 rfl (by first | rfl | exact isR_rf _) ?_
        refine g_iload_n C dX2_digest_96 rfl ?_
        refine g_callV C ((K_placeOf_ok l Y r iv q1).K) ok_X2_placeOf w475 (r.x) rfl rfl rfl dX2_digest_97 (Nat.le_of_ble_eq_true rfl) (Nat.le_of_ble_eq_true rfl) (Nat.le_of_ble_eq_true rfl) (Nat.le_of_ble_eq_true rfl) (Nat.le_of_ble_eq_true rfl) (ofS ?_)
        refine g_i2l C dX2_digest_100 ?_
        refine g_callS C ((K_X2_mixed l Y _ _).K) ok_X2_mixed w451 rfl rfl dX2_digest_101 (Nat.le_of_ble_eq_true rfl) (Nat.le_of_ble_eq_true rfl) (Nat.le_of_ble_eq_true rfl) (Nat.le_of_ble_eq_true rfl) (Nat.le_of_ble_eq_true rfl) (ofS ?_)
        refine g_lstore_n C dX2_digest_104 (by decide) ?_
        refine g_lload_n C dX2_digest_105 rfl ?_
        refine g_aload_n C dX2_digest_106 rfl (by first | rfl | exact isR_rf _) ?_
        refine g_iload_n C dX2_digest_107 rfl ?_
        refine g_callV C ((K_lies_ok l Y r iv q1).K) ok_X2_lies w479 (r.x) rfl rfl rfl dX2_digest_108 (Nat.le_of_ble_eq_true rfl) (Nat.le_of_ble_eq_true rfl) (Nat.le_of_ble_eq_true rfl) (Nat.le_of_ble_eq_true rfl) (Nat.le_of_ble_eq_true rfl) (ofS ?_)
        cases ez : (g.lb g.now).testBit i
        · refine g_if_eqB C (tgt := 118) dX2_digest_111 (by decide) (fun q2 => ?_) (fun q2 => absurd q2 (by decide))
          refine g_lconst C dX2_digest_118 rfl ?_
          refine g_callS C ((K_X2_mixed l Y _ _).K) ok_X2_mixed w451 rfl rfl dX2_digest_119 (Nat.le_of_ble_eq_true rfl) (Nat.le_of_ble_eq_true rfl) (Nat.le_of_ble_eq_true rfl) (Nat.le_of_ble_eq_true rfl) (Nat.le_of_ble_eq_true rfl) (ofS ?_)
          refine g_lstore_n C dX2_digest_122 (by decide) ?_
          refine g_iincN C dX2_digest_123 rfl (by decide) ?_
          refine g_goto C (tgt := 86) dX2_digest_126 (by decide) ?_
          have := ih (i + 1) q1 (by omega)
          simp only [itF, pcL, ez] at this
          exact this
        · refine g_if_eqB C (tgt := 118) dX2_digest_111 (by decide) (fun q2 => absurd q2 (by decide)) (fun q2 => ?_)
          refine g_lconst C dX2_digest_114 rfl ?_
          refine g_goto C (tgt := 119) dX2_digest_115 (by decide) ?_
          refine g_callS C ((K_X2_mixed l Y _ _).K) ok_X2_mixed w451 rfl rfl dX2_digest_119 (Nat.le_of_ble_eq_true rfl) (Nat.le_of_ble_eq_true rfl) (Nat.le_of_ble_eq_true rfl) (Nat.le_of_ble_eq_true rfl) (Nat.le_of_ble_eq_true rfl) (ofS ?_)
          refine g_lstore_n C dX2_digest_122 (by decide) ?_
          refine g_iincN C dX2_digest_123 rfl (by decide) ?_
          refine g_goto C (tgt := 86) dX2_digest_126 (by decide) ?_
          have := ih (i + 1) q1 (by omega)
          simp only [itF, pcL, ez] at this
          exact this
  refine g_ldc2 C dX2_digest_0 w449 ?_
  refine g_lstore_n C dX2_digest_3 (by decide) ?_
  refine g_lload_n C dX2_digest_4 rfl ?_
  refine g_aload_n C dX2_digest_5 rfl (by first | rfl | exact isR_rf _) ?_
  refine g_callV C ((K_X2_evening l Y r iv).K) ok_X2_evening w450 (r.x) rfl rfl rfl dX2_digest_6 (Nat.le_of_ble_eq_true rfl) (Nat.le_of_ble_eq_true rfl) (Nat.le_of_ble_eq_true rfl) (Nat.le_of_ble_eq_true rfl) (Nat.le_of_ble_eq_true rfl) (ofS ?_)
  refine g_i2l C dX2_digest_9 ?_
  refine g_callS C ((K_X2_mixed l Y _ _).K) ok_X2_mixed w451 rfl rfl dX2_digest_10 (Nat.le_of_ble_eq_true rfl) (Nat.le_of_ble_eq_true rfl) (Nat.le_of_ble_eq_true rfl) (Nat.le_of_ble_eq_true rfl) (Nat.le_of_ble_eq_true rfl) (ofS ?_)
  refine g_lstore_n C dX2_digest_13 (by decide) ?_
  refine g_lload_n C dX2_digest_14 rfl ?_
  refine g_aload_n C dX2_digest_15 rfl (by first | rfl | exact isR_rf _) ?_
  refine g_callV C ((K_X2_evenings l Y r iv).K) ok_X2_evenings w455 (r.x) rfl rfl rfl dX2_digest_16 (Nat.le_of_ble_eq_true rfl) (Nat.le_of_ble_eq_true rfl) (Nat.le_of_ble_eq_true rfl) (Nat.le_of_ble_eq_true rfl) (Nat.le_of_ble_eq_true rfl) (ofS ?_)
  refine g_i2l C dX2_digest_19 ?_
  refine g_callS C ((K_X2_mixed l Y _ _).K) ok_X2_mixed w451 rfl rfl dX2_digest_20 (Nat.le_of_ble_eq_true rfl) (Nat.le_of_ble_eq_true rfl) (Nat.le_of_ble_eq_true rfl) (Nat.le_of_ble_eq_true rfl) (Nat.le_of_ble_eq_true rfl) (ofS ?_)
  refine g_lstore_n C dX2_digest_23 (by decide) ?_
  refine g_lload_n C dX2_digest_24 rfl ?_
  refine g_aload_n C dX2_digest_25 rfl (by first | rfl | exact isR_rf _) ?_
  refine g_callV C ((K_X2_pieces l Y r iv).K) ok_X2_pieces w456 (r.x) rfl rfl rfl dX2_digest_26 (Nat.le_of_ble_eq_true rfl) (Nat.le_of_ble_eq_true rfl) (Nat.le_of_ble_eq_true rfl) (Nat.le_of_ble_eq_true rfl) (Nat.le_of_ble_eq_true rfl) (ofS ?_)
  refine g_i2l C dX2_digest_29 ?_
  refine g_callS C ((K_X2_mixed l Y _ _).K) ok_X2_mixed w451 rfl rfl dX2_digest_30 (Nat.le_of_ble_eq_true rfl) (Nat.le_of_ble_eq_true rfl) (Nat.le_of_ble_eq_true rfl) (Nat.le_of_ble_eq_true rfl) (Nat.le_of_ble_eq_true rfl) (ofS ?_)
  refine g_lstore_n C dX2_digest_33 (by decide) ?_
  refine g_lload_n C dX2_digest_34 rfl ?_
  refine g_aload_n C dX2_digest_35 rfl (by first | rfl | exact isR_rf _) ?_
  refine g_callV C ((K_X2_catColumn l Y r iv).K) ok_X2_catColumn w457 (r.x) rfl rfl rfl dX2_digest_36 (Nat.le_of_ble_eq_true rfl) (Nat.le_of_ble_eq_true rfl) (Nat.le_of_ble_eq_true rfl) (Nat.le_of_ble_eq_true rfl) (Nat.le_of_ble_eq_true rfl) (ofS ?_)
  refine g_i2l C dX2_digest_39 ?_
  refine g_callS C ((K_X2_mixed l Y _ _).K) ok_X2_mixed w451 rfl rfl dX2_digest_40 (Nat.le_of_ble_eq_true rfl) (Nat.le_of_ble_eq_true rfl) (Nat.le_of_ble_eq_true rfl) (Nat.le_of_ble_eq_true rfl) (Nat.le_of_ble_eq_true rfl) (ofS ?_)
  refine g_lstore_n C dX2_digest_43 (by decide) ?_
  refine g_lload_n C dX2_digest_44 rfl ?_
  refine g_aload_n C dX2_digest_45 rfl (by first | rfl | exact isR_rf _) ?_
  refine g_callV C ((K_X2_catRow l Y r iv).K) ok_X2_catRow w461 (r.x) rfl rfl rfl dX2_digest_46 (Nat.le_of_ble_eq_true rfl) (Nat.le_of_ble_eq_true rfl) (Nat.le_of_ble_eq_true rfl) (Nat.le_of_ble_eq_true rfl) (Nat.le_of_ble_eq_true rfl) (ofS ?_)
  refine g_i2l C dX2_digest_49 ?_
  refine g_callS C ((K_X2_mixed l Y _ _).K) ok_X2_mixed w451 rfl rfl dX2_digest_50 (Nat.le_of_ble_eq_true rfl) (Nat.le_of_ble_eq_true rfl) (Nat.le_of_ble_eq_true rfl) (Nat.le_of_ble_eq_true rfl) (Nat.le_of_ble_eq_true rfl) (ofS ?_)
  refine g_lstore_n C dX2_digest_53 (by decide) ?_
  refine g_lload_n C dX2_digest_54 rfl ?_
  refine g_aload_n C dX2_digest_55 rfl (by first | rfl | exact isR_rf _) ?_
  refine g_callV C ((K_X2_lying l Y r iv).K) ok_X2_lying w465 (r.x) rfl rfl rfl dX2_digest_56 (Nat.le_of_ble_eq_true rfl) (Nat.le_of_ble_eq_true rfl) (Nat.le_of_ble_eq_true rfl) (Nat.le_of_ble_eq_true rfl) (Nat.le_of_ble_eq_true rfl) (ofS ?_)
  refine g_i2l C dX2_digest_59 ?_
  refine g_callS C ((K_X2_mixed l Y _ _).K) ok_X2_mixed w451 rfl rfl dX2_digest_60 (Nat.le_of_ble_eq_true rfl) (Nat.le_of_ble_eq_true rfl) (Nat.le_of_ble_eq_true rfl) (Nat.le_of_ble_eq_true rfl) (Nat.le_of_ble_eq_true rfl) (ofS ?_)
  refine g_lstore_n C dX2_digest_63 (by decide) ?_
  refine g_lload_n C dX2_digest_64 rfl ?_
  refine g_aload_n C dX2_digest_65 rfl (by first | rfl | exact isR_rf _) ?_
  refine g_callV C ((K_X2_ends l Y r iv).K) ok_X2_ends w466 (r.x) rfl rfl rfl dX2_digest_66 (Nat.le_of_ble_eq_true rfl) (Nat.le_of_ble_eq_true rfl) (Nat.le_of_ble_eq_true rfl) (Nat.le_of_ble_eq_true rfl) (Nat.le_of_ble_eq_true rfl) (ofS ?_)
  refine g_i2l C dX2_digest_69 ?_
  refine g_callS C ((K_X2_mixed l Y _ _).K) ok_X2_mixed w451 rfl rfl dX2_digest_70 (Nat.le_of_ble_eq_true rfl) (Nat.le_of_ble_eq_true rfl) (Nat.le_of_ble_eq_true rfl) (Nat.le_of_ble_eq_true rfl) (Nat.le_of_ble_eq_true rfl) (ofS ?_)
  refine g_lstore_n C dX2_digest_73 (by decide) ?_
  refine g_lload_n C dX2_digest_74 rfl ?_
  refine g_aload_n C dX2_digest_75 rfl (by first | rfl | exact isR_rf _) ?_
  refine g_callV C ((K_X2_mostKnocked l Y r iv).K) ok_X2_mostKnocked w467 (r.x) rfl rfl rfl dX2_digest_76 (Nat.le_of_ble_eq_true rfl) (Nat.le_of_ble_eq_true rfl) (Nat.le_of_ble_eq_true rfl) (Nat.le_of_ble_eq_true rfl) (Nat.le_of_ble_eq_true rfl) (ofS ?_)
  refine g_i2l C dX2_digest_79 ?_
  refine g_callS C ((K_X2_mixed l Y _ _).K) ok_X2_mixed w451 rfl rfl dX2_digest_80 (Nat.le_of_ble_eq_true rfl) (Nat.le_of_ble_eq_true rfl) (Nat.le_of_ble_eq_true rfl) (Nat.le_of_ble_eq_true rfl) (Nat.le_of_ble_eq_true rfl) (ofS ?_)
  refine g_lstore_n C dX2_digest_83 (by decide) ?_
  refine g_iconst C (v := nI 0) dX2_digest_84 (by decide) ?_
  refine g_istore_n C dX2_digest_85 (by decide) ?_
  exact lp1 (g.np + 1) 0 (Nat.zero_le _) (by omega)
