theorem MX.nx {l : Launch} {Y : YG} {y : MethodName} {cc : ByteArray} {maxL : Nat} {ret : Option FieldType} {f L mc ms : Nat} {As : List Value} {h : AH} {v : Int32} {oo : Option Int32} {E : String} (hM : MX l Y y cc maxL ret f L mc ms As h (pO oo h) (xO E oo h)) (e : oo = some v) : MX l Y y cc maxL ret f L mc ms As h (pS (some (.int v)) h) noX := by
  subst e
  refine hM.imp (fun vv h2 hq => ?_) (fun E h2 hq => ?_)
  · obtain ⟨w, e1, e2, e3⟩ := hq
    cases e1
    exact ⟨e2, e3⟩
  · obtain ⟨e1, -⟩ := hq
    cases e1
theorem V_hangsOn (l : Launch) (Y : YG) (hfl : l.stackTraces = false) {x : Nat} {v : Vw} {g : Sg} {Z : Nat → Prop} {h : AH} (r : RepC Y x v g Z h) (iv : Inv g) {j : Nat} (hj : j < g.n) : MX l Y yX2_hangsOn cX2_hangsOn 2 (some .int) 7 111 1 6 [.ref x, .int (nI j)] h (pS (some (.int (nO (parO g j)))) h) noX := (K_X2_hangsOn l Y hfl r iv (nI j)).nx (by rw [idx_nI (by have := iv.n60; omega) hj]; rfl)
theorem V_kindOf (l : Launch) (Y : YG) (hfl : l.stackTraces = false) {x : Nat} {v : Vw} {g : Sg} {Z : Nat → Prop} {h : AH} (r : RepC Y x v g Z h) (iv : Inv g) {j : Nat} (hj : j < g.n) : MX l Y yX2_kindOf cX2_kindOf 2 (some .int) 7 111 1 6 [.ref x, .int (nI j)] h (pS (some (.int (g.kd j))) h) noX := (K_X2_kindOf l Y hfl r iv (nI j)).nx (by rw [idx_nI (by have := iv.n60; omega) hj]; rfl)
theorem V_numberOf (l : Launch) (Y : YG) (hfl : l.stackTraces = false) {x : Nat} {v : Vw} {g : Sg} {Z : Nat → Prop} {h : AH} (r : RepC Y x v g Z h) (iv : Inv g) {j : Nat} (hj : j < g.n) : MX l Y yX2_numberOf cX2_numberOf 2 (some .int) 7 111 1 6 [.ref x, .int (nI j)] h (pS (some (.int (g.nm j))) h) noX := (K_X2_numberOf l Y hfl r iv (nI j)).nx (by rw [idx_nI (by have := iv.n60; omega) hj]; rfl)
theorem V_depthOf (l : Launch) (Y : YG) (hfl : l.stackTraces = false) {x : Nat} {v : Vw} {g : Sg} {Z : Nat → Prop} {h : AH} (r : RepC Y x v g Z h) (iv : Inv g) {j : Nat} (hj : j < g.n) : MX l Y yX2_depthOf cX2_depthOf 2 (some .int) 7 111 1 6 [.ref x, .int (nI j)] h (pS (some (.int (nI (g.dp j)))) h) noX := (K_X2_depthOf l Y hfl r iv (nI j)).nx (by rw [idx_nI (by have := iv.n60; omega) hj]; rfl)
theorem V_branches (l : Launch) (Y : YG) (hfl : l.stackTraces = false) {x : Nat} {v : Vw} {g : Sg} {Z : Nat → Prop} {h : AH} (r : RepC Y x v g Z h) (iv : Inv g) {j : Nat} (hj : j < g.n) : MX l Y yX2_branches cX2_branches 2 (some .int) 7 111 1 6 [.ref x, .int (nI j)] h (pS (some (.int (nI (chN g.par g.n j)))) h) noX := (K_X2_branches l Y hfl r iv (nI j)).nx (by rw [idx_nI (by have := iv.n60; omega) hj]; rfl)
theorem V_behind (l : Launch) (Y : YG) (hfl : l.stackTraces = false) {x : Nat} {v : Vw} {g : Sg} {Z : Nat → Prop} {h : AH} (r : RepC Y x v g Z h) (iv : Inv g) {j : Nat} (hj : j < g.n) : MX l Y yX2_behind cX2_behind 2 (some .int) 7 111 1 6 [.ref x, .int (nI j)] h (pS (some (.int (nI (dsN g.par g.n j)))) h) noX := (K_X2_behind l Y hfl r iv (nI j)).nx (by rw [idx_nI (by have := iv.n60; omega) hj]; rfl)
theorem V_again (l : Launch) (Y : YG) (hfl : l.stackTraces = false) {x : Nat} {v : Vw} {g : Sg} {Z : Nat → Prop} {h : AH} (r : RepC Y x v g Z h) (iv : Inv g) {j : Nat} (hj : j < g.n) : MX l Y yX2_again cX2_again 2 (some .int) 7 111 1 6 [.ref x, .int (nI j)] h (pS (some (.int (nO (g.last j)))) h) noX := (K_X2_again l Y hfl r iv (nI j)).nx (by rw [idx_nI (by have := iv.n60; omega) hj]; rfl)
theorem V_lyingIn (l : Launch) (Y : YG) (hfl : l.stackTraces = false) {x : Nat} {v : Vw} {g : Sg} {Z : Nat → Prop} {h : AH} (r : RepC Y x v g Z h) (iv : Inv g) {j : Nat} (hj : j < g.n) : MX l Y yX2_lyingIn cX2_lyingIn 2 (some .int) 7 111 1 6 [.ref x, .int (nI j)] h (pS (some (.int (nI (lyN g j)))) h) noX := (K_X2_lyingIn l Y hfl r iv (nI j)).nx (by rw [idx_nI (by have := iv.n60; omega) hj]; rfl)
theorem V_meet (l : Launch) (Y : YG) (hfl : l.stackTraces = false) {x : Nat} {v : Vw} {g : Sg} {Z : Nat → Prop} {h : AH} (r : RepC Y x v g Z h) (iv : Inv g) {i j : Nat} (hi : i < g.n) (hj : j < g.n) : MX l Y yX2_meet cX2_meet 3 (some .int) 7 111 2 12 [.ref x, .int (nI i), .int (nI j)] h (pS (some (.int (nI (lc g.par i j)))) h) noX := (K_X2_meet l Y hfl r iv (nI i) (nI j)).nx (by rw [idx_nI (by have := iv.n60; omega) hi, idx_nI (by have := iv.n60; omega) hj]; rfl)
theorem V_apart (l : Launch) (Y : YG) (hfl : l.stackTraces = false) {x : Nat} {v : Vw} {g : Sg} {Z : Nat → Prop} {h : AH} (r : RepC Y x v g Z h) (iv : Inv g) {i j : Nat} (hi : i < g.n) (hj : j < g.n) : MX l Y yX2_apart cX2_apart 3 (some .int) 7 111 2 12 [.ref x, .int (nI i), .int (nI j)] h (pS (some (.int (nI (wy g i j)))) h) noX := (K_X2_apart l Y hfl r iv (nI i) (nI j)).nx (by rw [idx_nI (by have := iv.n60; omega) hi, idx_nI (by have := iv.n60; omega) hj]; rfl)
theorem V_areAlike (l : Launch) (Y : YG) (hfl : l.stackTraces = false) {x : Nat} {v : Vw} {g : Sg} {Z : Nat → Prop} {h : AH} (r : RepC Y x v g Z h) (iv : Inv g) {i j : Nat} (hi : i < g.n) (hj : j < g.n) : MX l Y yX2_areAlike cX2_areAlike 5 (some .boolean) 7 111 2 12 [.ref x, .int (nI i), .int (nI j)] h (pS (some (.int (if lkB g i j then 1 else 0))) h) noX := (K_X2_areAlike l Y hfl r iv (nI i) (nI j)).nx (by rw [idx_nI (by have := iv.n60; omega) hi, idx_nI (by have := iv.n60; omega) hj]; rfl)
theorem V_placeIn (l : Launch) (Y : YG) (hfl : l.stackTraces = false) {x : Nat} {v : Vw} {g : Sg} {Z : Nat → Prop} {h : AH} (r : RepC Y x v g Z h) (iv : Inv g) {i j : Nat} (hi : i < g.n) (hj : j < g.np) : MX l Y yX2_placeIn cX2_placeIn 5 (some .int) 7 111 2 12 [.ref x, .int (nI i), .int (nI j)] h (pS (some (.int (nI (g.pos i j + if (g.lb i).testBit j then 100 else 0)))) h) noX := (K_X2_placeIn l Y hfl r iv (nI i) (nI j)).nx (by rw [idx_nI (by have := iv.n60; omega) hi, idx_nI (by have := iv.np; omega) hj]; rfl)
theorem V_placeOf (l : Launch) (Y : YG) (hfl : l.stackTraces = false) {x : Nat} {v : Vw} {g : Sg} {Z : Nat → Prop} {h : AH} (r : RepC Y x v g Z h) (iv : Inv g) {j : Nat} (hj : j < g.np) : MX l Y yX2_placeOf cX2_placeOf 2 (some .int) 7 111 1 6 [.ref x, .int (nI j)] h (pS (some (.int (nI (g.pos g.now j)))) h) noX := (K_X2_placeOf l Y hfl r iv (nI j)).nx (by rw [idx_nI (by have := iv.np; omega) hj]; rfl)
theorem V_lies (l : Launch) (Y : YG) (hfl : l.stackTraces = false) {x : Nat} {v : Vw} {g : Sg} {Z : Nat → Prop} {h : AH} (r : RepC Y x v g Z h) (iv : Inv g) {j : Nat} (hj : j < g.np) : MX l Y yX2_lies cX2_lies 2 (some .boolean) 6 90 1 6 [.ref x, .int (nI j)] h (pS (some (.int (if (g.lb g.now).testBit j then 1 else 0))) h) noX := (K_X2_lies l Y hfl r iv (nI j)).nx (by rw [idx_nI (by have := iv.np; omega) hj]; rfl)
theorem V_pieceAt (l : Launch) (Y : YG) (hfl : l.stackTraces = false) {x : Nat} {v : Vw} {g : Sg} {Z : Nat → Prop} {h : AH} (r : RepC Y x v g Z h) (iv : Inv g) {u : Nat} (hu : u < 64) : MX l Y yX2_pieceAt cX2_pieceAt 3 (some .int) 7 111 1 6 [.ref x, .int (nI (u / 8)), .int (nI (u % 8))] h (pS (some (.int (nO (pon (g.pos g.now) u g.np 0)))) h) noX := (K_X2_pieceAt l Y hfl r iv (nI (u / 8)) (nI (u % 8))).nx (by
  obtain ⟨o1, o2⟩ := onB_lt (c := u / 8) (r := u % 8) (by omega) (by omega)
  rw [if_pos o1, o2, show 8 * (u / 8) + u % 8 = u by omega])
set_option maxRecDepth 100000 in
set_option maxHeartbeats 4000000 in
theorem K_L_build (l : Launch) (Y : YG) (hfl : l.stackTraces = false) (hJO : Y.cJ ≠ Y.cO) (hsL : Y.sL ≤ 260) {x : Nat} {v : Vw} {Z : Nat → Prop} {h : AH} (rC : RepC Y x v st0 Z h) : MX l Y yL_build cL_build 5 (some (.object "CatEveningsLaw$Sim")) 64 1482 600 19000 [.ref x, .ref Y.sb] h (pR (fun r h2 => ∃ z g, r = some z ∧ LwS Y x z g 6000 h2)) (noX) := by
  refine MX.of (by decide +kernel) (Nat.le_of_ble_eq_true rfl) ?_
  intro p e s m args0 below meth c C hr hout hnm
  refine cn_L_10 C dL_build_0 (by show _ ≤ 600; omega) (by show _ ≤ 19000; omega) (fun z hz => ?_)
  refine g_dup C dL_build_3 (by first | rfl | exact cat_rf _) ?_
  refine g_callIN C (K_X3_init l Y hJO hup_eq).K ok_X3_init (tf_nestI C) rfl rfl dL_build_4 (Nat.le_of_ble_eq_true rfl) (Nat.le_of_ble_eq_true rfl) (Nat.le_of_ble_eq_true rfl) (by show _ ≤ 600; omega) (by show _ ≤ 19000; omega) (ofV (fun h2 e2 => ?_))
  obtain ⟨w, rS, et, ec, hn, hfr⟩ := e2
  have x2 : Ext h h2 := fun a c hc => by
    have hne : a ≠ z := fun q => by rw [q, hz] at hc; cases hc
    exact hfr a c hne (hup_old hz hc)
  have rC2 := (rC.ext x2).reZ (Z2 := ZS w 1) (fun i hi ⟨e, he, hq⟩ => by
    have he0 : e = 0 := by omega
    have h1 := rC.pl hi
    have h2 := hup_old (e := .inr (4, [.null, .null, .int 0, .int 0])) hz h1
    rw [hq, he0, hn] at h2
    cases h2)
  have I0 : LwS Y x z st0 (130 * 0) h2 := ⟨inv_0, pld_0, v, w, rC2, rS, by rw [et, ec]; exact tmo_0, by omega⟩
  show Gd p l e (rmO 64 1482 600 19000) s m args0 below meth c (vx_MQ below (Qk Y (pR (fun r h2 => ∃ z g, r = some z ∧ LwS Y x z g 6000 h2))) (Xk Y (noX)) args0 s 600 19000 Y.A) Y 5 7 [some (.ref x), some (.ref Y.sb), none, none, none] [.ref z] h2 4 9
  refine g_astore_n C dL_build_7 (by decide) (by first | rfl | exact isR_rf _) ?_
  refine g_bipush C (v := nI 6) dL_build_8 (by decide) ?_
  refine g_aload_n C dL_build_10 rfl (by first | rfl | exact isR_rf _) ?_
  refine g_iconst C (v := nI 0) dL_build_11 (by decide) ?_
  refine g_callS C ((K_L_cell l Y (k := 0) (by decide) hsL).K) ok_L_cell w582 rfl rfl dL_build_12 (Nat.le_of_ble_eq_true rfl) (Nat.le_of_ble_eq_true rfl) (Nat.le_of_ble_eq_true rfl) (by show _ ≤ 600; omega) (by show _ ≤ 19000; omega) (fun vv h9 e9 => ?_)
  obtain ⟨u0, rfl, eh9⟩ := e9
  have eh9 := eh9.symm
  subst eh9
  refine g_bipush C (v := nI 40) dL_build_15 (by decide) ?_
  refine g_callS C ((K_L_below l Y _ (N := 40) (by decide)).K) ok_L_below w578 rfl rfl dL_build_17 (Nat.le_of_ble_eq_true rfl) (Nat.le_of_ble_eq_true rfl) (Nat.le_of_ble_eq_true rfl) (by show _ ≤ 600; omega) (by show _ ≤ 19000; omega) (fun vv h9 e9 => ?_)
  obtain ⟨u, hu, rfl, eh9⟩ := e9
  have eh9 := eh9.symm
  subst eh9
  refine g_iaddN C dL_build_20 ?_
  refine g_istore_n C dL_build_21 (by decide) ?_
  have lp : ∀ (d k : Nat) (g : Sg) (h1 : AH) (kk nn : Nat), k ≤ 6 + u → 6 + u - k < d → LwS Y x z g (130 * k) h1 → kk ≤ 4 + 12 * k → nn ≤ 9 + 400 * k → Gd p l e (rmO 64 1482 600 19000) s m args0 below meth c (vx_MQ below (Qk Y (pR (fun r h2 => ∃ z g, r = some z ∧ LwS Y x z g 6000 h2))) (Xk Y (noX)) args0 s 600 19000 Y.A) Y 5 25 [some (.ref x), some (.ref Y.sb), some (.ref z), some (.int (nI (6 + u))), some (.int (nI k))] [] h1 kk nn := by
    intro d
    induction d with
    | zero => intro k g h1 kk nn z1 z2; omega
    | succ d ih =>
      intro k g h1 kk nn hk hd I hkk hnn
      refine g_iload C dL_build_25 rfl ?_
      refine g_iload_n C dL_build_27 rfl ?_
      refine g_icmp_geN C (tgt := 72) dL_build_28 (by decide) (by omega) (by omega) (fun q1 => ?_) (fun q1 => ?_)
      · obtain ⟨a1, a2, v1, w1, a3, a4, a5, a6⟩ := I
        refine g_aload_n C dL_build_72 rfl (by first | rfl | exact isR_rf _) ?_
        exact g_aret C hr (by first | exact Or.inl ⟨_, rfl⟩ | exact Or.inr ⟨_, rfl⟩) (by first | rfl | exact isR_rf _) dL_build_73 (by omega) (by omega) (⟨some z, rfl, z, g, rfl, a1, a2, v1, w1, a3, a4, a5, by omega⟩)
      · refine g_aload_n C dL_build_31 rfl rfl ?_
        refine g_aload_n C dL_build_32 rfl rfl ?_
        refine g_aload_n C dL_build_33 rfl rfl ?_
        refine g_iconst C (v := nI 1) dL_build_34 (by decide) ?_
        refine g_iload C dL_build_35 rfl ?_
        refine g_bipush C (v := nI 15) dL_build_37 (by decide) ?_
        refine g_iremN C dL_build_39 (by omega) (by decide) ?_
        refine g_iaddN C dL_build_40 ?_
        refine g_callS C ((K_L_cell l Y (k := 1 + k % 15) (by omega) hsL).K) ok_L_cell w582 rfl rfl dL_build_41 (Nat.le_of_ble_eq_true rfl) (Nat.le_of_ble_eq_true rfl) (Nat.le_of_ble_eq_true rfl) (by show _ ≤ 600; omega) (by show _ ≤ 19000; omega) (fun vv h9 e9 => ?_)
        obtain ⟨u1, rfl, eh9⟩ := e9
        have eh9 := eh9.symm
        subst eh9
        refine g_iload C dL_build_44 rfl ?_
        refine g_bipush C (v := nI 15) dL_build_46 (by decide) ?_
        refine g_idivN C dL_build_48 (by omega) (by decide) ?_
        refine g_iconst C (v := nI 3) dL_build_49 (by decide) ?_
        refine g_imulN C dL_build_50 ?_
        refine g_ishr C dL_build_51 ?_
        refine g_bipush C (v := nI 41) dL_build_52 (by decide) ?_
        refine g_iload C dL_build_54 rfl ?_
        refine g_imulN C dL_build_56 ?_
        refine g_iadd C dL_build_57 ?_
        refine g_callSW C (na := 3) (W_act l Y hfl I (by omega) _) w587 w0 w588 (by exact ⟨by decide, by decide, by decide +kernel⟩) w586 rfl rfl dL_build_58 (Nat.le_of_ble_eq_true rfl) (Nat.le_of_ble_eq_true rfl) (Nat.le_of_ble_eq_true rfl) (by show _ ≤ 600; omega) (by show _ ≤ 19000; omega) (fun vv h2 e2 => ?_)
        obtain ⟨rfl, g2, I2⟩ := e2
        refine g_if_ne C (tgt := 66) dL_build_61 (by decide) (fun q => ?_) (fun q => absurd q (by decide))
        refine g_iincN C dL_build_66 rfl (by decide) ?_
        refine g_goto C (tgt := 25) dL_build_69 (by decide) ?_
        exact ih (k + 1) g2 h2 _ _ (by omega) (by omega) (by rw [show 130 * (k + 1) = 130 * k + 130 by omega]; exact I2) (by omega) (by omega)
  refine g_iconst C (v := nI 0) dL_build_22 (by decide) ?_
  refine g_istore C dL_build_23 (by decide) ?_
  exact lp (6 + u + 1) 0 st0 h2 _ _ (Nat.zero_le _) (by omega) I0 (by omega) (by omega)
