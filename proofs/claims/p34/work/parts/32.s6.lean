set_option maxRecDepth 100000 in
set_option maxHeartbeats 4000000 in
theorem act_go {l : Launch} {Y : YG} {p : Program} {e : Env} {s : State} {m : MethodId} {args : Array Value} {below : List Frame} {meth : Method} {c : Code} {Q : State → Prop} (C : Cx p s m args meth c Y cL_act 10 RL) (hfl : l.stackTraces = false) (htab : c.exceptionTable.toList = tableOf [(120, 246, 695, 87), (247, 361, 695, 87), (362, 490, 695, 87), (491, 608, 695, 87), (609, 694, 695, 87)]) {x z : Nat} {xi : Int32} {g : Sg} {h : AH} {ck : Nat} {v : Vw} {w : Sv} (iv : Inv g) (P : Pld g) (rC : RepC Y x v g (ZS w g.n) h) (rS : RepS Y z w g h) (T : TmO g w.tm w.clk) (hck : w.clk ≤ ck) (hck2 : ck + 200 < 2 ^ 30) (endk : ∀ (g2 : Sg) (h2 : AH) (k2 n2 : Nat) (lv : List (Option Value)) (pc : Nat), (pc = 73 ∨ pc = 116 ∨ pc = 246 ∨ pc = 361 ∨ pc = 490 ∨ pc = 694 ∨ pc = 707) → LwS Y x z g2 (ck + 130) h2 → k2 ≤ 12 → n2 ≤ 400 → Gd p l e (rmO 63 1453 12 400) s m args below meth c Q Y 10 pc lv [.int (nI 1)] h2 k2 n2) (w6 w7 w8 w9 : Option Value) : Gd p l e (rmO 63 1453 12 400) s m args below meth c Q Y 10 362 [some (.ref x), some (.ref z), some (.int xi), some (.int (nI g.n)), some (.int (nI g.np)), some (.int (nI 1)), w6, w7, w8, w9] [] h 0 0 := by
  have hn60 := iv.n60
  have hnp16 := iv.np
  have hnow := iv.now
  have hn1 := iv.n1
  have hT := iv.tr
  refine g_iload_n C dL_act_362 rfl ?_
  refine g_iconst C (v := nI 4) dL_act_363 (by decide) ?_
  refine g_ishr C dL_act_364 ?_
  refine g_iload_n C dL_act_365 rfl ?_
  refine g_callS C ((K_L_below l Y _ (N := g.n) (by omega)).K) ok_L_below w578 rfl rfl dL_act_366 (Nat.le_of_ble_eq_true rfl) (Nat.le_of_ble_eq_true rfl) (Nat.le_of_ble_eq_true rfl) (by show _ ≤ 12; omega) (by show _ ≤ 400; omega) (fun vv h9 e9 => ?_)
  obtain ⟨u, hu, rfl, eh9⟩ := e9
  have eh9 := eh9.symm
  subst eh9
  refine g_istore C dL_act_369 (by decide) ?_
  refine g_aload_n C dL_act_371 rfl (by first | rfl | exact isR_rf _) ?_
  refine g_aload_n C dL_act_372 rfl (by first | rfl | exact isR_rf _) ?_
  refine gf_L_41 C (rS.z) rfl dL_act_373 ?_
  refine g_iload C dL_act_376 rfl ?_
  refine g_callV C ((K_X3_apart l Y rS iv (a0 := g.now) (b0 := u) hnow hu).K) ok_X3_apart w613 (rS.z) rfl rfl rfl dL_act_378 (Nat.le_of_ble_eq_true rfl) (Nat.le_of_ble_eq_true rfl) (Nat.le_of_ble_eq_true rfl) (by show _ ≤ 12; omega) (by show _ ≤ 400; omega) (ofS ?_)
  refine g_istore C dL_act_381 (by decide) ?_
  refine g_aload_n C dL_act_383 rfl (by first | rfl | exact isR_rf _) ?_
  refine g_aload_n C dL_act_384 rfl (by first | rfl | exact isR_rf _) ?_
  refine gf_L_41 C (rS.z) rfl dL_act_385 ?_
  refine g_iload C dL_act_388 rfl ?_
  refine g_callV C ((K_X3_meet l Y rS iv (a0 := g.now) (b0 := u) hnow hu).K) ok_X3_meet w495 (rS.z) rfl rfl rfl dL_act_390 (Nat.le_of_ble_eq_true rfl) (Nat.le_of_ble_eq_true rfl) (Nat.le_of_ble_eq_true rfl) (by show _ ≤ 12; omega) (by show _ ≤ 400; omega) (ofS ?_)
  refine g_istore C dL_act_393 (by decide) ?_
  generalize hto : u = to at hu ⊢
  have mvk : ∀ (h1 : AH) (w1 : Sv) (w9 : Option Value), RepC Y x v g (ZS w1 g.n) h1 → RepS Y z w1 (stGo g to) h1 → TmO (stGo g to) w1.tm w1.clk → w1.clk ≤ w.clk + 60 + to → Gd p l e (rmO 63 1453 12 400) s m args below meth c Q Y 10 474 [some (.ref x), some (.ref z), some (.int xi), some (.int (nI g.n)), some (.int (nI g.np)), some (.int (nI 1)), some (.int (nI to)), some (.int (nI (wy g g.now to))), some (.int (nI (lc g.par g.now to))), w9] [] h1 0 0 := by
    intro h1 w1 w9 rC1 rS1 T1 hc1
    refine g_aload_n C dL_act_474 rfl (by first | rfl | exact isR_rf _) ?_
    refine g_iload C dL_act_475 rfl ?_
    refine g_callV C ((U_goTo l Y hfl rC1 iv hu).K) ok_X2_goTo w281 (rC1.x) rfl rfl rfl dL_act_477 (Nat.le_of_ble_eq_true rfl) (Nat.le_of_ble_eq_true rfl) (Nat.le_of_ble_eq_true rfl) (by show _ ≤ 12; omega) (by show _ ≤ 400; omega) (fun vv h2 e2 => ?_)
    obtain ⟨rfl, ⟨v2, rC2⟩, fr⟩ := e2
    have rS2 := rS1.krk fr
    refine g_iload C dL_act_480 rfl ?_
    refine g_icmp_neN C (tgt := 489) dL_act_482 (by decide) (by have := dp_lc iv g.now to; have := iv.dp60 hnow; have := iv.dp60 hu; unfold wy; omega) (by have := dp_lc iv g.now to; have := iv.dp60 hnow; have := iv.dp60 hu; unfold wy; omega) (fun q3 => ?_) (fun q3 => ?_)
    · exact absurd rfl q3
    · refine g_iconst C (v := nI 1) dL_act_485 (by decide) ?_
      refine g_goto C (tgt := 490) dL_act_486 (by decide) ?_
      exact endk _ _ _ _ _ 490 (by decide) ⟨inv_go iv hu, pld_M P _ _, v2, w1, rC2, rS2, T1, by omega⟩ (by omega) (by omega)
  have dnl : ∀ (d cur : Nat) (L : Nat → Option Nat) (h1 : AH) (w1 : Sv) (w9 : Option Value), to - cur < d → cur ≤ to → Dn g to cur L → RepC Y x v g (ZS w1 g.n) h1 → RepS Y z w1 (stM g cur L) h1 → TmO (stM g cur L) w1.tm w1.clk → w1.clk ≤ w.clk + 60 + cur → Gd p l e (rmO 63 1453 12 400) s m args below meth c Q Y 10 422 [some (.ref x), some (.ref z), some (.int xi), some (.int (nI g.n)), some (.int (nI g.np)), some (.int (nI 1)), some (.int (nI to)), some (.int (nI (wy g g.now to))), some (.int (nI (lc g.par g.now to))), w9] [] h1 0 0 := by
    intro d
    induction d with
    | zero => intro cur L h1 w1 w9 z1; omega
    | succ d ih =>
      intro cur L h1 w1 w9 hd hct D1 rC1 rS1 T1 hc1
      refine g_aload_n C dL_act_422 rfl (by first | rfl | exact isR_rf _) ?_
      refine gf_L_41 C ((show h1 z = some (.inr (4, [.ref w1.sr, .ref w1.er, .int (nI (cur)), .int (nI w1.clk)])) from rS1.z)) rfl dL_act_423 ?_
      refine g_iload C dL_act_426 rfl ?_
      refine g_icmp_eqN C (tgt := 474) dL_act_428 (by decide) (by omega) (by omega) (fun q1 => ?_) (fun q1 => ?_)
      · subst q1
        have hL := dn_e hT D1
        rw [hL] at rS1 T1
        exact mvk h1 w1 w9 rC1 rS1 T1 (by omega)
      · have hcn : cur < g.n := by omega
        have inl : ∀ (d2 a : Nat), a < d2 → an g.par a to = true → an g.par cur a = true → a ≠ cur → Gd p l e (rmO 63 1453 12 400) s m args below meth c Q Y 10 435 [some (.ref x), some (.ref z), some (.int xi), some (.int (nI g.n)), some (.int (nI g.np)), some (.int (nI 1)), some (.int (nI to)), some (.int (nI (wy g g.now to))), some (.int (nI (lc g.par g.now to))), (some (.int (nI a)))] [] h1 0 0 := by
          intro d2
          induction d2 with
          | zero => intro a z1; omega
          | succ d2 ih2 =>
            intro a hd2 ha1 ha2 ha3
            obtain ⟨hx, h0⟩ := dn_x hT D1.1 (fun e => q1 e.symm) ha1 ha2 ha3
            have hal := an_le hT ha1
            have han : a < g.n := by omega
            have hpn := iv.par han
            refine g_aload_n C dL_act_435 rfl (by first | rfl | exact isR_rf _) ?_
            refine gf_L_9 C (rS1.z) rfl dL_act_436 ?_
            refine g_iload C dL_act_439 rfl ?_
            refine g_aald C (show h1 w1.er = some (aA Y g.n w1.fe) from rS1.er) rfl (show a < g.n from han) (by omega) dL_act_441 ?_
            obtain ⟨ef, f, hf, f0, -⟩ := rS1.ev (show a < (stM g cur L).n from han)
            rw [ef]
            refine g_iconst C (v := nI 0) dL_act_442 (by decide) ?_
            refine g_iald C hf rfl (show 0 < 4 by decide) (by decide) dL_act_443 ?_
            rw [f0, parO_p h0]
            show Gd p l e (rmO 63 1453 12 400) s m args below meth c Q Y 10 444 [some (.ref x), some (.ref z), some (.int xi), some (.int (nI g.n)), some (.int (nI g.np)), some (.int (nI 1)), some (.int (nI to)), some (.int (nI (wy g g.now to))), some (.int (nI (lc g.par g.now to))), (some (.int (nI a)))] [.int (nI (g.par a))] h1 0 0
            refine g_aload_n C dL_act_444 rfl (by first | rfl | exact isR_rf _) ?_
            refine gf_L_41 C ((show h1 z = some (.inr (4, [.ref w1.sr, .ref w1.er, .int (nI (cur)), .int (nI w1.clk)])) from rS1.z)) rfl dL_act_445 ?_
            refine g_icmp_eqN C (tgt := 465) dL_act_448 (by decide) (by omega) (by omega) (fun q2 => ?_) (fun q2 => ?_)
            · have hpa : g.par a = cur := q2
              refine g_aload_n C dL_act_465 rfl (by first | rfl | exact isR_rf _) ?_
              refine g_iload C dL_act_466 rfl ?_
              refine g_callV C ((K_X3_be l Y rS1 (e0 := a) han hn60).K) ok_X3_be w487 (rS1.z) rfl rfl rfl dL_act_468 (Nat.le_of_ble_eq_true rfl) (Nat.le_of_ble_eq_true rfl) (Nat.le_of_ble_eq_true rfl) (by show _ ≤ 12; omega) (by show _ ≤ 400; omega) (ofV (fun h2 e2 => ?_))
              obtain ⟨rS2, fr⟩ := e2
              have rC2 := rC1.frz rS1 fr
              have T2 := tmo_be T1 (e := a) han
              have D2 := dn_s hT D1 h0 ha1 hpa
              have eL : beL (stM g cur L) a = uO L (g.par a) (some a) := if_neg (by omega)
              have hca : cur < a := by
                have := hT.2 a h0
                omega
              refine g_goto C (tgt := 422) dL_act_471 (by decide) ?_
              rw [eL] at T2
              exact ih a _ h2 (beV w1 a) _ (by omega) hal D2 rC2 (rS2 _) T2 (by show w1.clk + 1 ≤ _; omega)
            · obtain ⟨b1, b2, b3, b4⟩ := hx.resolve_left q2
              refine g_aload_n C dL_act_451 rfl (by first | rfl | exact isR_rf _) ?_
              refine gf_L_9 C (rS1.z) rfl dL_act_452 ?_
              refine g_iload C dL_act_455 rfl ?_
              refine g_aald C (show h1 w1.er = some (aA Y g.n w1.fe) from rS1.er) rfl (show a < g.n from han) (by omega) dL_act_457 ?_
              obtain ⟨ef, f, hf, f0, -⟩ := rS1.ev (show a < (stM g cur L).n from han)
              rw [ef]
              refine g_iconst C (v := nI 0) dL_act_458 (by decide) ?_
              refine g_iald C hf rfl (show 0 < 4 by decide) (by decide) dL_act_459 ?_
              rw [f0, parO_p h0]
              refine g_istore C dL_act_460 (by decide) ?_
              refine g_goto C (tgt := 435) dL_act_462 (by decide) ?_
              exact ih2 (g.par a) (by omega) b1 b2 b3
        refine g_iload C dL_act_431 rfl ?_
        refine g_istore C dL_act_433 (by decide) ?_
        exact inl (to + 1) to (Nat.lt_succ_self _) (an_rf _ _) D1.1 (fun e => q1 e.symm)
  have upl : ∀ (d cur : Nat) (h1 : AH) (w1 : Sv), cur < d → an g.par (lc g.par g.now to) cur = true → an g.par cur g.now = true → RepC Y x v g (ZS w1 g.n) h1 → RepS Y z w1 (stNow g cur) h1 → TmO (stNow g cur) w1.tm w1.clk → w1.clk + cur ≤ w.clk + g.now → Gd p l e (rmO 63 1453 12 400) s m args below meth c Q Y 10 395 [some (.ref x), some (.ref z), some (.int xi), some (.int (nI g.n)), some (.int (nI g.np)), some (.int (nI 1)), some (.int (nI to)), some (.int (nI (wy g g.now to))), some (.int (nI (lc g.par g.now to))), w9] [] h1 0 0 := by
    intro d
    induction d with
    | zero => intro cur h1 w1 z1; omega
    | succ d ih =>
      intro cur h1 w1 hd hl ha rC1 rS1 T1 hc1
      have hcl := an_le hT hl
      have hcn := an_le hT ha
      refine g_aload_n C dL_act_395 rfl (by first | rfl | exact isR_rf _) ?_
      refine gf_L_41 C ((show h1 z = some (.inr (4, [.ref w1.sr, .ref w1.er, .int (nI (cur)), .int (nI w1.clk)])) from rS1.z)) rfl dL_act_396 ?_
      refine g_iload C dL_act_399 rfl ?_
      refine g_icmp_eqN C (tgt := 422) dL_act_401 (by decide) (by omega) (by omega) (fun q1 => ?_) (fun q1 => ?_)
      · have e1 : cur = lc g.par g.now to := q1
        have D0 := dn_0 iv to
        rw [← e1] at D0
        have hto := an_le hT D0.1
        exact dnl (to + 1) cur g.last h1 w1 _ (by omega) hto D0 rC1 rS1 T1 (by omega)
      · have q1' : lc g.par g.now to ≠ cur := fun e => q1 e.symm
        have h0 : 0 < cur := by omega
        have hp := hT.2 cur h0
        have hpn := iv.par (show cur < g.n by omega)
        have hcl2 := an_ne hT hl q1'
        refine g_aload_n C dL_act_404 rfl (by first | rfl | exact isR_rf _) ?_
        refine g_aload_n C dL_act_405 rfl (by first | rfl | exact isR_rf _) ?_
        refine gf_L_9 C ((show h1 z = some (.inr (4, [.ref w1.sr, .ref w1.er, .int (nI (cur)), .int (nI w1.clk)])) from rS1.z)) rfl dL_act_406 ?_
        refine g_aload_n C dL_act_409 rfl (by first | rfl | exact isR_rf _) ?_
        refine gf_L_41 C ((show h1 z = some (.inr (4, [.ref w1.sr, .ref w1.er, .int (nI (cur)), .int (nI w1.clk)])) from rS1.z)) rfl dL_act_410 ?_
        refine g_aald C (show h1 w1.er = some (aA Y g.n w1.fe) from rS1.er) rfl (show cur < g.n by omega) (by omega) dL_act_413 ?_
        obtain ⟨ef, f, hf, f0, -⟩ := rS1.ev (show cur < (stNow g cur).n from (by show cur < g.n; omega))
        rw [ef]
        refine g_iconst C (v := nI 0) dL_act_414 (by decide) ?_
        refine g_iald C hf rfl (show 0 < 4 by decide) (by decide) dL_act_415 ?_
        rw [f0, parO_p h0]
        show Gd p l e (rmO 63 1453 12 400) s m args below meth c Q Y 10 416 [some (.ref x), some (.ref z), some (.int xi), some (.int (nI g.n)), some (.int (nI g.np)), some (.int (nI 1)), some (.int (nI to)), some (.int (nI (wy g g.now to))), some (.int (nI (lc g.par g.now to))), w9] [.int (nI (g.par cur)), .ref z] h1 0 0
        refine g_callV C ((K_X3_be l Y rS1 (e0 := g.par cur) hpn hn60).K) ok_X3_be w487 (rS1.z) rfl rfl rfl dL_act_416 (Nat.le_of_ble_eq_true rfl) (Nat.le_of_ble_eq_true rfl) (Nat.le_of_ble_eq_true rfl) (by show _ ≤ 12; omega) (by show _ ≤ 400; omega) (ofV (fun h2 e2 => ?_))
        obtain ⟨rS2, fr⟩ := e2
        have rC2 := rC1.frz rS1 fr
        have T2 := tmo_st T1 (e := g.par cur) hpn (fun y => (inv_up iv ha).path y (an_par hT _))
        refine g_goto C (tgt := 395) dL_act_419 (by decide) ?_
        exact ih (g.par cur) h2 (beV w1 (g.par cur)) (by omega) hcl2 (an_tr hT (an_par hT cur) ha) rC2 (rS2 g.last) T2 (by show w1.clk + 1 + g.par cur ≤ _; omega)
  exact upl (g.now + 1) g.now h w (Nat.lt_succ_self _) (lc_an hT g.now to).1 (an_rf _ _) rC rS T (Nat.le_refl _)
set_option maxRecDepth 100000 in
set_option maxHeartbeats 4000000 in
theorem act_paw {l : Launch} {Y : YG} {p : Program} {e : Env} {s : State} {m : MethodId} {args : Array Value} {below : List Frame} {meth : Method} {c : Code} {Q : State → Prop} (C : Cx p s m args meth c Y cL_act 10 RL) (hfl : l.stackTraces = false) (htab : c.exceptionTable.toList = tableOf [(120, 246, 695, 87), (247, 361, 695, 87), (362, 490, 695, 87), (491, 608, 695, 87), (609, 694, 695, 87)]) {x z : Nat} {xi : Int32} {g : Sg} {h : AH} {ck : Nat} {v : Vw} {w : Sv} (iv : Inv g) (P : Pld g) (rC : RepC Y x v g (ZS w g.n) h) (rS : RepS Y z w g h) (T : TmO g w.tm w.clk) (hck : w.clk ≤ ck) (hck2 : ck + 200 < 2 ^ 30) (endk : ∀ (g2 : Sg) (h2 : AH) (k2 n2 : Nat) (lv : List (Option Value)) (pc : Nat), (pc = 73 ∨ pc = 116 ∨ pc = 246 ∨ pc = 361 ∨ pc = 490 ∨ pc = 694 ∨ pc = 707) → LwS Y x z g2 (ck + 130) h2 → k2 ≤ 12 → n2 ≤ 400 → Gd p l e (rmO 63 1453 12 400) s m args below meth c Q Y 10 pc lv [.int (nI 1)] h2 k2 n2) (w6 w7 w8 w9 : Option Value) : Gd p l e (rmO 63 1453 12 400) s m args below meth c Q Y 10 491 [some (.ref x), some (.ref z), some (.int xi), some (.int (nI g.n)), some (.int (nI g.np)), some (.int (nI 1)), w6, w7, w8, w9] [] h 0 0 := by
  have hn60 := iv.n60
  have hnp16 := iv.np
  have hnow := iv.now
  have hn1 := iv.n1
  have hT := iv.tr
  have hI0 : LwS Y x z g ck h := ⟨iv, P, v, w, rC, rS, T, hck⟩
  have a573 : ∀ (k q : Nat), k < 4 → q < 16 → (k = 0 ∨ k = 3 → q < 8) → Gd p l e (rmO 63 1453 12 400) s m args below meth c Q Y 10 573 [some (.ref x), some (.ref z), some (.int xi), some (.int (nI g.n)), some (.int (nI g.np)), some (.int (nI 1)), some (.int (nI k)), some (.int (nI q)), w8, w9] [] h 0 0 := by
    intro k q hk hq16 hq8
    refine g_aload_n C dL_act_573 rfl (by first | rfl | exact isR_rf _) ?_
    refine g_aload_n C dL_act_574 rfl (by first | rfl | exact isR_rf _) ?_
    refine gf_L_41 C (rS.z) rfl dL_act_575 ?_
    refine g_callV C ((K_X3_state l Y rS iv P (e0 := g.now) hnow).K) ok_X3_state w590 (rS.z) rfl rfl rfl dL_act_578 (Nat.le_of_ble_eq_true rfl) (Nat.le_of_ble_eq_true rfl) (Nat.le_of_ble_eq_true rfl) (by show _ ≤ 12; omega) (by show _ ≤ 400; omega) (fun vv h2 e2 => ?_)
    obtain ⟨r0, rfl, b, f9, rfl, hb, rfl, sr⟩ := e2
    have x1 : Ext h (hup h b (aI Y (2 + 3 * g.np) f9)) := Ext.new hb
    refine g_astore C dL_act_581 (by decide) (by first | rfl | exact isR_rf _) ?_
    refine g_aload C dL_act_583 rfl (by first | rfl | exact isR_rf _) ?_
    refine g_iload C dL_act_585 rfl ?_
    refine g_iload C dL_act_587 rfl ?_
    refine g_callS C ((K_X3_does l Y hup_eq sr hnp16 (iv.ct hnow) (fun j hj => iv.pos hnow hj) hk hq16 hq8).K) ok_X3_does w619 rfl rfl dL_act_589 (Nat.le_of_ble_eq_true rfl) (Nat.le_of_ble_eq_true rfl) (Nat.le_of_ble_eq_true rfl) (by show _ ≤ 12; omega) (by show _ ≤ 400; omega) (fun vv h2 e2 => ?_)
    obtain ⟨rfl, e3, e4⟩ := e2
    have x2 : Ext h h2 := by
      cases hz : nxt g.np (g.ct g.now) (g.pos g.now) (g.lb g.now) k q with
      | none => rw [e3 hz]; exact x1
      | some zz =>
        obtain ⟨f6, rfl, -⟩ := e4 zz hz
        rw [hup_hup]
        exact Ext.new hb
    clear e3 e4
    have rC2 := rC.ext x2
    have rS2 := rS.ext x2
    refine g_istore C dL_act_592 (by decide) ?_
    refine g_aload_n C dL_act_594 rfl (by first | rfl | exact isR_rf _) ?_
    refine g_iload C dL_act_595 rfl ?_
    refine g_iload C dL_act_597 rfl ?_
    refine g_callV C ((U_can l Y hfl rC2 iv hk hq16 hq8).K) ok_X2_canDo w620 (rC2.x) rfl rfl rfl dL_act_599 (Nat.le_of_ble_eq_true rfl) (Nat.le_of_ble_eq_true rfl) (Nat.le_of_ble_eq_true rfl) (by show _ ≤ 12; omega) (by show _ ≤ 400; omega) (fun vv h3 e3 => ?_)
    obtain ⟨rfl, x3⟩ := e3
    have rC3 := rC2.ext x3
    have rS3 := rS2.ext x3
    refine g_iload C dL_act_602 rfl ?_
    refine g_icmp_eq C (tgt := 609) dL_act_604 (by decide) (fun q1 => ?_) (fun q1 => absurd rfl q1)
    clear q1
    have thr : (nxt g.np (g.ct g.now) (g.pos g.now) (g.lb g.now) k q = none ∨ g.n = 60) → ∀ w9 : Option Value, ∀ k2 n2, k2 ≤ 5 → n2 ≤ 100 → Gd p l e (rmO 63 1453 12 400) s m args below meth c Q Y 10 625 [some (.ref x), some (.ref z), some (.int xi), some (.int (nI g.n)), some (.int (nI g.np)), some (.int (nI 1)), some (.int (nI k)), some (.int (nI q)), some (.ref b), w9] [.int (nI 0)] h3 k2 n2 := by
      intro hno w9 k2 n2 hk2 hn2
      have kx : ∀ (E : String) (h4 : AH), (Ext h3 h4 ∧ E = sIS) → Gx p l e (rmO 63 1453 12 400) s m args below meth c Q Y 10 677 [some (.ref x), some (.ref z), some (.int xi), some (.int (nI g.n)), some (.int (nI g.np)), some (.int (nI 0)), some (.int (nI k)), some (.int (nI q)), some (.ref b), w9] [] h4 (k2 + 4) (n2 + 140) E := by
        rintro E h4 ⟨x4, rfl⟩
        refine g_catch C [⟨120, 246, 695, 87⟩, ⟨247, 361, 695, 87⟩, ⟨362, 490, 695, 87⟩, ⟨491, 608, 695, 87⟩] ⟨609, 694, 695, 87⟩ [] htab (fun z hz => Or.inl (by
            simp only [List.mem_cons, List.not_mem_nil, or_false] at hz
            rcases hz with rfl | rfl | rfl | rfl <;> decide)) (by decide) (show 87 ≠ 0 by decide) w589 (tf_ca_IllegalStateException C) (fun q => ?_)
        exact act_no C hfl htab iv P rC rS T hck hck2 endk _ _ _ _ ⟨iv, P, v, w, rC3.ext x4, rS3.ext x4, T, hck⟩ (by omega) (by omega)
      refine g_istore C dL_act_625 (by decide) ?_
      refine g_iload C dL_act_627 rfl ?_
      refine g_if_eq C (tgt := 672) dL_act_629 (by decide) (fun q3 => ?_) (fun q3 => ?_)
      · refine g_aload_n C dL_act_672 rfl (by first | rfl | exact isR_rf _) ?_
        refine g_iload C dL_act_673 rfl ?_
        refine g_iload C dL_act_675 rfl ?_
        refine g_callVX C (U_pawX l Y hfl rC3 iv (zs_nn rS3) hk hq16 hq8 hno) ok_X2_paw w677 (rC3.x) rfl rfl rfl dL_act_677 (Nat.le_of_ble_eq_true rfl) (Nat.le_of_ble_eq_true rfl) (Nat.le_of_ble_eq_true rfl) (by show _ ≤ 12; omega) (by show _ ≤ 400; omega) (kx) (fun vv h2 e2 => e2.elim)
      · exact absurd rfl q3
    cases hz : nxt g.np (g.ct g.now) (g.pos g.now) (g.lb g.now) k q with
    | none =>
      refine g_iload C dL_act_609 rfl ?_
      refine g_if_eq C (tgt := 624) dL_act_611 (by decide) (fun q1 => ?_) (fun q1 => absurd rfl q1)
      refine g_iconst C (v := nI 0) dL_act_624 (by decide) ?_
      exact thr (Or.inl hz) _ _ _ (by omega) (by omega)
    | some zz =>
      refine g_iload C dL_act_609 rfl ?_
      refine g_if_eq C (tgt := 624) dL_act_611 (by decide) (fun q1 => absurd (show (1 : Int32) = 0 from q1) (by decide)) (fun q1 => ?_)
      refine g_iload_n C dL_act_614 rfl ?_
      refine g_bipush C (v := nI 60) dL_act_615 (by decide) ?_
      refine g_icmp_geN C (tgt := 624) dL_act_617 (by decide) (by omega) (by omega) (fun q2 => ?_) (fun q2 => ?_)
      · refine g_iconst C (v := nI 0) dL_act_624 (by decide) ?_
        exact thr (Or.inr (by omega)) _ _ _ (by omega) (by omega)
      · refine g_iconst C (v := nI 1) dL_act_620 (by decide) ?_
        refine g_goto C (tgt := 625) dL_act_621 (by decide) ?_
        refine g_istore C dL_act_625 (by decide) ?_
        refine g_iload C dL_act_627 rfl ?_
        refine g_if_eq C (tgt := 672) dL_act_629 (by decide) (fun q3 => ?_) (fun q3 => ?_)
        · exact absurd q3 (by decide)
        · refine g_aload_n C dL_act_632 rfl (by first | rfl | exact isR_rf _) ?_
          refine g_aload_n C dL_act_633 rfl (by first | rfl | exact isR_rf _) ?_
          refine gf_L_9 C (rS3.z) rfl dL_act_634 ?_
          refine g_iconst C (v := nI 4) dL_act_637 (by decide) ?_
          refine g_newI C (N := 4) rfl (by omega) w49 (by show _ ≤ 12; omega) (by show _ ≤ 400; omega) dL_act_638 (fun a1 ha1 => ?_)
          have rS4 := rS3.ext (Ext.new ha1 (e := aI Y 4 (fun _ => 0)))
          refine g_dup C dL_act_640 (by first | rfl | exact cat_rf _) ?_
          refine g_iconst C (v := nI 0) dL_act_641 (by decide) ?_
          refine g_aload_n C dL_act_642 rfl (by first | rfl | exact isR_rf _) ?_
          refine gf_L_41 C (rS4.z) rfl dL_act_643 ?_
          refine g_iast C hup_eq rfl (show 0 < 4 by decide) (by decide) dL_act_646 ?_
          rw [hup_hup]
          refine g_dup C dL_act_647 (by first | rfl | exact cat_rf _) ?_
          refine g_iconst C (v := nI 1) dL_act_648 (by decide) ?_
          refine g_iload C dL_act_649 rfl ?_
          refine g_iast C hup_eq rfl (show 1 < 4 by decide) (by decide) dL_act_651 ?_
          rw [hup_hup]
          refine g_dup C dL_act_652 (by first | rfl | exact cat_rf _) ?_
          refine g_iconst C (v := nI 2) dL_act_653 (by decide) ?_
          refine g_iload C dL_act_654 rfl ?_
          refine g_iast C hup_eq rfl (show 2 < 4 by decide) (by decide) dL_act_656 ?_
          rw [hup_hup]
          refine g_dup C dL_act_657 (by first | rfl | exact cat_rf _) ?_
          refine g_iconst C (v := nI 3) dL_act_658 (by decide) ?_
          refine g_iconst C (v := nI 0) dL_act_659 (by decide) ?_
          refine g_iast C hup_eq rfl (show 3 < 4 by decide) (by decide) dL_act_660 ?_
          rw [hup_hup]
          have x5 : Ext h3 (hup h3 a1 (aI Y 4 (upd (upd (upd (upd (fun _ => 0) 0 (nI g.now)) 1 (nI k)) 2 (nI q)) 3 (nI 0)))) := Ext.new ha1
          have rS5 := rS3.ext x5
          refine g_callS C ((K_X3_with l Y rS5.er (by omega) (fun i hi => by obtain ⟨a, f, b, -⟩ := rS5.ev hi; exact ⟨_, _, _, a, b⟩) hup_eq).K) ok_X3_with w592 rfl rfl dL_act_661 (Nat.le_of_ble_eq_true rfl) (Nat.le_of_ble_eq_true rfl) (Nat.le_of_ble_eq_true rfl) (by show _ ≤ 12; omega) (by show _ ≤ 400; omega) (fun vv h6 e6 => ?_)
          obtain ⟨r6, rfl, q6, f6, rfl, hq6, rfl, e61, e62⟩ := e6
          have x6 := x5.tr (Ext.new hq6 (e := aA Y (g.n + 1) f6))
          have rS6 := rS3.ext x6
          have rC6 := rC3.ext x6
          refine pf_L_9 C (rS6.z) (Nat.le_of_ble_eq_true rfl) (by first | rfl | exact isR_rf _) dL_act_664 ?_
          have rS7 := rS3.psh iv (k0 := nI k) (v0 := nI q) (zz := zz) x6 hup_eq ha1 (hup_old hq6 hup_eq) rfl rfl rfl rfl e61 e62 (llF g)
          have rC7 := rC6.frz rS6 (FrZ.obj (c := .inr (4, [.ref w.sr, .ref q6, .int (nI g.now), .int (nI w.clk)])) rS6.z)
          have rC8 := rC7.reZ (Z2 := ZS (pshV w g.n q6 a1 f6) (g.n + 1)) (fun i hi ⟨e, he, hz2⟩ => by
            have hz3 : v.pl i = uN w.se g.n a1 e := hz2
            unfold uN at hz3
            by_cases c2 : e = g.n
            · rw [if_pos c2] at hz3
              have := rC3.pl hi
              rw [hz3, ha1] at this
              cases this
            · rw [if_neg c2] at hz3
              exact rC.z hi ⟨e, by omega, hz3⟩)
          refine g_aload_n C dL_act_667 rfl (by first | rfl | exact isR_rf _) ?_
          refine g_iload_n C dL_act_668 rfl ?_
          refine g_callV C ((K_X3_be l Y rS7 (e0 := g.n) (Nat.lt_succ_self _) (show g.n + 1 ≤ 60 by omega)).K) ok_X3_be w487 (rS7.z) rfl rfl rfl dL_act_669 (Nat.le_of_ble_eq_true rfl) (Nat.le_of_ble_eq_true rfl) (Nat.le_of_ble_eq_true rfl) (by show _ ≤ 12; omega) (by show _ ≤ 400; omega) (ofV (fun h8 e8 => ?_))
          obtain ⟨rS8, fr8⟩ := e8
          have rC9 := rC8.frz rS7 fr8
          have T8 := tmo_paw T iv (nI k) (nI q) zz
          have rS9 : RepS Y z (beV (pshV w g.n q6 a1 f6) g.n) (stPaw g (nI k) (nI q) zz) h8 := rS8 (llF g)
          refine g_aload_n C dL_act_672 rfl (by first | rfl | exact isR_rf _) ?_
          refine g_iload C dL_act_673 rfl ?_
          refine g_iload C dL_act_675 rfl ?_
          refine g_callV C ((U_paw l Y hfl rC9 iv (fun a ha => zs_nn rS9 a ha) hk hq16 hq8 hz (by omega)).K) ok_X2_paw w677 (rC9.x) rfl rfl rfl dL_act_677 (Nat.le_of_ble_eq_true rfl) (Nat.le_of_ble_eq_true rfl) (Nat.le_of_ble_eq_true rfl) (by show _ ≤ 12; omega) (by show _ ≤ 400; omega) (fun vv h9 e9 => ?_)
          obtain ⟨rfl, ⟨v2, rCa⟩, fra⟩ := e9
          have rSa := rS9.krk fra
          refine g_iload_n C dL_act_680 rfl ?_
          refine g_icmp_neN C (tgt := 693) dL_act_681 (by decide) (by omega) (by omega) (fun q4 => ?_) (fun q4 => ?_)
          · exact absurd rfl q4
          · refine g_iload C dL_act_684 rfl ?_
            refine g_if_eq C (tgt := 693) dL_act_686 (by decide) (fun q5 => ?_) (fun q5 => ?_)
            · exact absurd q5 (by decide)
            · refine g_iconst C (v := nI 1) dL_act_689 (by decide) ?_
              refine g_goto C (tgt := 694) dL_act_690 (by decide) ?_
              exact endk _ _ _ _ _ 694 (by decide) ⟨inv_paw iv (nxt_ok (iv.ct hnow) (fun j hj => iv.pos hnow hj) (iv.lb hnow) hz) (by omega), pld_paw P iv hk hq16 hq8 ((pawO_N g hk hq16).trans hz), v2, beV (pshV w g.n q6 a1 f6) g.n, rCa, rSa, T8, by show w.clk + 1 ≤ _; omega⟩ (by omega) (by omega)
  have a518 : ∀ (k : Nat), k < 4 → Gd p l e (rmO 63 1453 12 400) s m args below meth c Q Y 10 518 [some (.ref x), some (.ref z), some (.int xi), some (.int (nI g.n)), some (.int (nI g.np)), some (.int (nI 1)), some (.int (nI k)), w7, w8, w9] [] h 0 0 := by
    intro k hk
    have b529 : Gd p l e (rmO 63 1453 12 400) s m args below meth c Q Y 10 529 [some (.ref x), some (.ref z), some (.int xi), some (.int (nI g.n)), some (.int (nI g.np)), some (.int (nI 1)), some (.int (nI k)), w7, w8, w9] [] h 0 0 := by
      refine g_iload_n C dL_act_529 rfl ?_
      refine g_bipush C (v := nI 6) dL_act_530 (by decide) ?_
      refine g_ishr C dL_act_532 ?_
      refine g_bipush C (v := nI 8) dL_act_533 (by decide) ?_
      refine g_callS C ((K_L_below l Y _ (N := 8) (by decide)).K) ok_L_below w578 rfl rfl dL_act_535 (Nat.le_of_ble_eq_true rfl) (Nat.le_of_ble_eq_true rfl) (Nat.le_of_ble_eq_true rfl) (by show _ ≤ 12; omega) (by show _ ≤ 400; omega) (fun vv h9 e9 => ?_)
      obtain ⟨u, hu, rfl, eh9⟩ := e9
      have eh9 := eh9.symm
      subst eh9
      refine g_goto C (tgt := 571) dL_act_538 (by decide) ?_
      refine g_istore C dL_act_571 (by decide) ?_
      exact a573 k u hk (by omega) (fun _ => hu)
    refine g_iload C dL_act_518 rfl ?_
    refine g_if_eqN C (tgt := 529) dL_act_520 (by decide) (by omega) (fun q1 => b529) (fun q1 => ?_)
    refine g_iload C dL_act_523 rfl ?_
    refine g_iconst C (v := nI 3) dL_act_525 (by decide) ?_
    refine g_icmp_neN C (tgt := 541) dL_act_526 (by decide) (by omega) (by omega) (fun q2 => ?_) (fun q2 => b529)
    refine g_iload_n C dL_act_541 rfl ?_
    refine g_bipush C (v := nI 6) dL_act_542 (by decide) ?_
    refine g_ishr C dL_act_544 ?_
    refine g_iload_n C dL_act_545 rfl ?_
    refine g_bipush C (v := nI 9) dL_act_546 (by decide) ?_
    refine g_ishr C dL_act_548 ?_
    refine g_bipush C (v := nI 8) dL_act_549 (by decide) ?_
    refine g_callS C ((K_L_below l Y _ (N := 8) (by decide)).K) ok_L_below w578 rfl rfl dL_act_551 (Nat.le_of_ble_eq_true rfl) (Nat.le_of_ble_eq_true rfl) (Nat.le_of_ble_eq_true rfl) (by show _ ≤ 12; omega) (by show _ ≤ 400; omega) (fun vv h9 e9 => ?_)
    obtain ⟨u, hu, rfl, eh9⟩ := e9
    have eh9 := eh9.symm
    subst eh9
    refine g_if_neN C (tgt := 562) dL_act_554 (by decide) (by omega) (fun q3 => ?_) (fun q3 => ?_)
    · have emx : (if nI 1 < nI g.np then nI g.np else nI 1) = nI (max 1 g.np) := by
        by_cases c2 : 1 < g.np
        · rw [if_pos ((nI_ltI (by decide) (by omega)).mpr c2), show max 1 g.np = g.np by omega]
        · rw [if_neg (fun y => c2 ((nI_ltI (by decide) (by omega)).mp y)), show max 1 g.np = 1 by omega]
      refine g_iconst C (v := nI 1) dL_act_562 (by decide) ?_
      refine g_iload C dL_act_563 rfl ?_
      refine g_mmax C w618 w_mmax.1 w_mmax.2.1 w_mmax.2.2 dL_act_565 (Nat.le_of_ble_eq_true rfl) (Nat.le_of_ble_eq_true rfl) (by show _ ≤ 12; omega) (by show _ ≤ 400; omega) ?_
      rw [emx]
      refine g_callS C ((K_L_below l Y _ (N := max 1 g.np) (by omega)).K) ok_L_below w578 rfl rfl dL_act_568 (Nat.le_of_ble_eq_true rfl) (Nat.le_of_ble_eq_true rfl) (Nat.le_of_ble_eq_true rfl) (by show _ ≤ 12; omega) (by show _ ≤ 400; omega) (fun vv h9 e9 => ?_)
      obtain ⟨u2, hu2, rfl, eh9⟩ := e9
      have eh9 := eh9.symm
      subst eh9
      refine g_istore C dL_act_571 (by decide) ?_
      exact a573 k u2 hk (by omega) (fun e => by omega)
    · refine g_bipush C (v := nI 16) dL_act_557 (by decide) ?_
      refine g_goto C (tgt := 568) dL_act_559 (by decide) ?_
      refine g_callS C ((K_L_below l Y _ (N := 16) (by decide)).K) ok_L_below w578 rfl rfl dL_act_568 (Nat.le_of_ble_eq_true rfl) (Nat.le_of_ble_eq_true rfl) (Nat.le_of_ble_eq_true rfl) (by show _ ≤ 12; omega) (by show _ ≤ 400; omega) (fun vv h9 e9 => ?_)
      obtain ⟨u2, hu2, rfl, eh9⟩ := e9
      have eh9 := eh9.symm
      subst eh9
      refine g_istore C dL_act_571 (by decide) ?_
      exact a573 k u2 hk (by omega) (fun e => by omega)
  refine g_iload_n C dL_act_491 rfl ?_
  refine g_iconst C (v := nI 4) dL_act_492 (by decide) ?_
  refine g_ishr C dL_act_493 ?_
  refine g_bipush C (v := nI 6) dL_act_494 (by decide) ?_
  refine g_callS C ((K_L_below l Y _ (N := 6) (by decide)).K) ok_L_below w578 rfl rfl dL_act_496 (Nat.le_of_ble_eq_true rfl) (Nat.le_of_ble_eq_true rfl) (Nat.le_of_ble_eq_true rfl) (by show _ ≤ 12; omega) (by show _ ≤ 400; omega) (fun vv h9 e9 => ?_)
  obtain ⟨u, hu, rfl, eh9⟩ := e9
  have eh9 := eh9.symm
  subst eh9
  refine g_istore C dL_act_499 (by decide) ?_
  refine g_iload C dL_act_501 rfl ?_
  refine g_iconst C (v := nI 3) dL_act_503 (by decide) ?_
  refine g_icmp_leN C (tgt := 514) dL_act_504 (by decide) (by omega) (by omega) (fun q1 => ?_) (fun q1 => ?_)
  · refine g_iload C dL_act_514 rfl ?_
    refine g_istore C dL_act_516 (by decide) ?_
    exact a518 u (by omega)
  · refine g_iload C dL_act_507 rfl ?_
    refine g_iconst C (v := nI 4) dL_act_509 (by decide) ?_
    refine g_isubN C (by omega) dL_act_510 ?_
    refine g_goto C (tgt := 516) dL_act_511 (by decide) ?_
    refine g_istore C dL_act_516 (by decide) ?_
    exact a518 (u - 4) (by omega)
set_option maxRecDepth 100000 in
set_option maxHeartbeats 4000000 in
theorem act_set {l : Launch} {Y : YG} {p : Program} {e : Env} {s : State} {m : MethodId} {args : Array Value} {below : List Frame} {meth : Method} {c : Code} {Q : State → Prop} (C : Cx p s m args meth c Y cL_act 10 RL) (hfl : l.stackTraces = false) (htab : c.exceptionTable.toList = tableOf [(120, 246, 695, 87), (247, 361, 695, 87), (362, 490, 695, 87), (491, 608, 695, 87), (609, 694, 695, 87)]) {x z : Nat} {xi : Int32} {g : Sg} {h : AH} {ck : Nat} {v : Vw} {w : Sv} (iv : Inv g) (P : Pld g) (rC : RepC Y x v g (ZS w g.n) h) (rS : RepS Y z w g h) (T : TmO g w.tm w.clk) (hck : w.clk ≤ ck) (hck2 : ck + 200 < 2 ^ 30) (endk : ∀ (g2 : Sg) (h2 : AH) (k2 n2 : Nat) (lv : List (Option Value)) (pc : Nat), (pc = 73 ∨ pc = 116 ∨ pc = 246 ∨ pc = 361 ∨ pc = 490 ∨ pc = 694 ∨ pc = 707) → LwS Y x z g2 (ck + 130) h2 → k2 ≤ 12 → n2 ≤ 400 → Gd p l e (rmO 63 1453 12 400) s m args below meth c Q Y 10 pc lv [.int (nI 1)] h2 k2 n2) (hn1 : g.n = 1) : Gd p l e (rmO 63 1453 12 400) s m args below meth c Q Y 10 32 [some (.ref x), some (.ref z), some (.int xi), some (.int (nI g.n)), some (.int (nI g.np)), none, none, none, none, none] [] h 0 0 := by
  have hn60 := iv.n60
  have hnp16 := iv.np
  have hnow := iv.now
  have hnow0 : g.now = 0 := by omega
  have hI0 : LwS Y x z g ck h := ⟨iv, P, v, w, rC, rS, T, hck⟩
  refine g_iload_n C dL_act_32 rfl ?_
  refine g_iconst C (v := nI 3) dL_act_33 (by decide) ?_
  refine g_ishr C dL_act_34 ?_
  refine g_iconst C (v := nI 4) dL_act_35 (by decide) ?_
  refine g_callS C ((K_L_below l Y _ (N := 4) (by decide)).K) ok_L_below w578 rfl rfl dL_act_36 (Nat.le_of_ble_eq_true rfl) (Nat.le_of_ble_eq_true rfl) (Nat.le_of_ble_eq_true rfl) (by show _ ≤ 12; omega) (by show _ ≤ 400; omega) (fun vv h9 e9 => ?_)
  obtain ⟨u, hu, rfl, eh9⟩ := e9
  have eh9 := eh9.symm
  subst eh9
  obtain ⟨c1, hc1⟩ : ∃ c1, c1 = u := ⟨_, rfl⟩
  rw [← hc1] at hu ⊢
  clear hc1 u
  refine g_istore C dL_act_39 (by decide) ?_
  refine g_iload_n C dL_act_41 rfl ?_
  refine g_iconst C (v := nI 5) dL_act_42 (by decide) ?_
  refine g_ishr C dL_act_43 ?_
  refine g_iconst C (v := nI 4) dL_act_44 (by decide) ?_
  refine g_callS C ((K_L_below l Y _ (N := 4) (by decide)).K) ok_L_below w578 rfl rfl dL_act_45 (Nat.le_of_ble_eq_true rfl) (Nat.le_of_ble_eq_true rfl) (Nat.le_of_ble_eq_true rfl) (by show _ ≤ 12; omega) (by show _ ≤ 400; omega) (fun vv h9 e9 => ?_)
  obtain ⟨u2, hu2, rfl, eh9⟩ := e9
  have eh9 := eh9.symm
  subst eh9
  obtain ⟨a, ha, ea1, ea2⟩ : ∃ a, a < 64 ∧ c1 = a / 8 ∧ u2 = a % 8 := ⟨8 * c1 + u2, by omega, by omega, by omega⟩
  rw [ea1, ea2]
  clear ea1 ea2 hu hu2
  refine g_istore C dL_act_48 (by decide) ?_
  have yes : ∀ (h2 : AH) (k2 n2 : Nat), Ext h h2 → k2 ≤ 2 → n2 ≤ 60 → Gd p l e (rmO 63 1453 12 400) s m args below meth c Q Y 10 72 [some (.ref x), some (.ref z), some (.int xi), some (.int (nI g.n)), some (.int (nI g.np)), some (.int (nI (a / 8))), some (.int (nI (a % 8))), none, none, none] [] h2 k2 n2 := by
    intro h2 k2 n2 x2 hk2 hn2
    refine g_iconst C (v := nI 1) dL_act_72 (by decide) ?_
    exact endk _ _ _ _ _ 73 (by decide) ⟨iv, P, v, w, rC.ext x2, rS.ext x2, T, by omega⟩ (by omega) (by omega)
  refine g_iload C dL_act_50 rfl ?_
  refine g_bipush C (v := nI 16) dL_act_52 (by decide) ?_
  refine g_icmp_eqN C (tgt := 72) dL_act_54 (by decide) (by omega) (by omega) (fun q1 => ?_) (fun q1 => ?_)
  · exact yes h _ _ (fun _ _ e => e) (by omega) (by omega)
  · refine g_aload_n C dL_act_57 rfl (by first | rfl | exact isR_rf _) ?_
    refine g_iconst C (v := nI 0) dL_act_58 (by decide) ?_
    refine g_callV C ((K_X3_state l Y rS iv P (e0 := 0) (by omega)).K) ok_X3_state w590 (rS.z) rfl rfl rfl dL_act_59 (Nat.le_of_ble_eq_true rfl) (Nat.le_of_ble_eq_true rfl) (Nat.le_of_ble_eq_true rfl) (by show _ ≤ 12; omega) (by show _ ≤ 400; omega) (fun vv h2 e2 => ?_)
    obtain ⟨r0, rfl, b, f9, rfl, hb, rfl, sr⟩ := e2
    have x1 : Ext h (hup h b (aI Y (2 + 3 * g.np) f9)) := Ext.new hb
    have hn0 : 0 < g.n := by omega
    refine g_iload C dL_act_62 rfl ?_
    refine g_iload C dL_act_64 rfl ?_
    refine g_callS C ((K_X3_pieceAt l Y hup_eq sr hnp16 (iv.ct hn0) (fun j hj => iv.pos hn0 hj) ha).K) ok_X3_pieceAt w591 rfl rfl dL_act_66 (Nat.le_of_ble_eq_true rfl) (Nat.le_of_ble_eq_true rfl) (Nat.le_of_ble_eq_true rfl) (by show _ ≤ 12; omega) (by show _ ≤ 400; omega) (ofS ?_)
    cases hp : pon (g.pos 0) a g.np 0 with
    | some q9 =>
      have hq9 := (pon_lt hp).2.1
      refine g_if_lt C (tgt := 74) dL_act_69 (by decide) (fun q => absurd q (nI_pos (show q9 < 2 ^ 31 by omega))) (fun q => ?_)
      exact yes _ _ _ x1 (by omega) (by omega)
    | none =>
      refine g_if_lt C (tgt := 74) dL_act_69 (by decide) (fun q => ?_) (fun q => absurd (by decide) q)
      have rS1 := rS.ext x1
      have rC1 := rC.ext x1
      have hp2 : pon (g.pos g.now) a g.np 0 = none := by rw [hnow0]; exact hp
      refine g_aload_n C dL_act_74 rfl (by first | rfl | exact isR_rf _) ?_
      refine g_aload_n C dL_act_75 rfl (by first | rfl | exact isR_rf _) ?_
      refine gf_L_15 C (rS1.z) rfl dL_act_76 ?_
      refine g_iconst C (v := nI 2) dL_act_79 (by decide) ?_
      refine g_newI C (N := 2) rfl (by omega) w49 (by show _ ≤ 12; omega) (by show _ ≤ 400; omega) dL_act_80 (fun a1 ha1 => ?_)
      refine g_dup C dL_act_82 (by first | rfl | exact cat_rf _) ?_
      refine g_iconst C (v := nI 0) dL_act_83 (by decide) ?_
      refine g_iload C dL_act_84 rfl ?_
      refine g_iast C hup_eq rfl (show 0 < 2 by decide) (by decide) dL_act_86 ?_
      rw [hup_hup]
      refine g_dup C dL_act_87 (by first | rfl | exact cat_rf _) ?_
      refine g_iconst C (v := nI 1) dL_act_88 (by decide) ?_
      refine g_iload C dL_act_89 rfl ?_
      refine g_iast C hup_eq rfl (show 1 < 2 by decide) (by decide) dL_act_91 ?_
      rw [hup_hup]
      have x5 := x1.tr (Ext.new ha1 (e := aI Y 2 (upd (upd (fun _ => 0) 0 (nI (a / 8))) 1 (nI (a % 8)))))
      have rS5 := rS.ext x5
      refine g_callS C ((K_X3_with l Y rS5.sr (by omega) (fun i hi => by obtain ⟨y1, f, y2, -⟩ := rS5.sp hi; exact ⟨_, _, _, y1, y2⟩) hup_eq).K) ok_X3_with w592 rfl rfl dL_act_92 (Nat.le_of_ble_eq_true rfl) (Nat.le_of_ble_eq_true rfl) (Nat.le_of_ble_eq_true rfl) (by show _ ≤ 12; omega) (by show _ ≤ 400; omega) (fun vv h6 e6 => ?_)
      obtain ⟨r6, rfl, q6, f6, rfl, hq6, rfl, e61, e62⟩ := e6
      have x6 := x5.tr (Ext.new hq6 (e := aA Y (g.np + 1) f6))
      have rS6 := rS.ext x6
      have rC6 := rC.ext x6
      refine pf_L_15 C (rS6.z) (Nat.le_of_ble_eq_true rfl) (by first | rfl | exact isR_rf _) dL_act_95 ?_
      have rS7 := rS.set hn1 hnow0 (u := a) x6 hup_eq (hup_old hq6 hup_eq) rfl rfl e61 e62
      have rC7 := rC6.frz rS6 (FrZ.obj (c := .inr (4, [.ref q6, .ref w.er, .int (nI g.now), .int (nI w.clk)])) rS6.z)
      refine g_aload_n C dL_act_98 rfl (by first | rfl | exact isR_rf _) ?_
      refine g_iload C dL_act_99 rfl ?_
      refine g_iload C dL_act_101 rfl ?_
      refine g_callV C ((U_set l Y hfl rC7 iv (fun a ha => zs_nn rS7 a ha) ha (by omega) hn1 hp2).K) ok_X2_setPiece w597 (rC7.x) rfl rfl rfl dL_act_103 (Nat.le_of_ble_eq_true rfl) (Nat.le_of_ble_eq_true rfl) (Nat.le_of_ble_eq_true rfl) (by show _ ≤ 12; omega) (by show _ ≤ 400; omega) (fun vv h9 e9 => ?_)
      obtain ⟨rfl, ⟨v2, rCa⟩, fra⟩ := e9
      have rSa := rS7.krk fra
      refine g_iload C dL_act_106 rfl ?_
      refine g_icmp_neN C (tgt := 115) dL_act_108 (by decide) (by omega) (by omega) (fun q4 => ?_) (fun q4 => ?_)
      · exact absurd rfl q4
      · refine g_iconst C (v := nI 1) dL_act_111 (by decide) ?_
        refine g_goto C (tgt := 116) dL_act_112 (by decide) ?_
        exact endk _ _ _ _ _ 116 (by decide) ⟨inv_set iv ha (by omega) hn1, pld_set P iv hn1 hp2, v2, setV w g.np q6 a1 f6, rCa, rSa, tmo_set T, by show w.clk ≤ _; omega⟩ (by omega) (by omega)
def pAct (Y : YG) (x z ck : Nat) : Option Value → AH → Prop := fun vv h2 => vv = some (.int (nI 1)) ∧ ∃ g2, LwS Y x z g2 (ck + 130) h2
set_option maxRecDepth 100000 in
set_option maxHeartbeats 4000000 in
theorem W_act (l : Launch) (Y : YG) (hfl : l.stackTraces = false) {x z ck : Nat} {g : Sg} {h : AH} (I : LwS Y x z g ck h) (hck2 : ck + 200 < 2 ^ 30) (xi : Int32) : MW l Y yL_act cL_act 10 (some .boolean) [(120, 246, 695, 87), (247, 361, 695, 87), (362, 490, 695, 87), (491, 608, 695, 87), (609, 694, 695, 87)] 63 1453 12 400 [.ref x, .ref z, .int xi] h (pAct Y x z ck) := by
  refine MW.of (by decide +kernel) (Nat.le_of_ble_eq_true rfl) ?_
  intro p e s m args0 below meth c C hr htab
  obtain ⟨iv, P, v, w, rC, rS, T, hck⟩ := I
  have hn60 := iv.n60
  have hnp16 := iv.np
  have hnow := iv.now
  have hn1 := iv.n1
  have endk : ∀ (g2 : Sg) (h2 : AH) (k2 n2 : Nat) (lv : List (Option Value)) (pc : Nat), (pc = 73 ∨ pc = 116 ∨ pc = 246 ∨ pc = 361 ∨ pc = 490 ∨ pc = 694 ∨ pc = 707) → LwS Y x z g2 (ck + 130) h2 → k2 ≤ 12 → n2 ≤ 400 → Gd p l e (rmO 63 1453 12 400) s m args0 below meth c (vx_MQ below (Qk Y (pAct Y x z ck)) (Xk Y noX) args0 s 12 400 Y.A) Y 10 pc lv [.int (nI 1)] h2 k2 n2 := by
    intro g2 h2 k2 n2 lv pc hpc I2 hk hn
    rcases hpc with rfl | rfl | rfl | rfl | rfl | rfl | rfl
    · exact g_zret C hr (Or.inr rfl) dL_act_73 hk hn ⟨rfl, g2, I2⟩
    · exact g_zret C hr (Or.inr rfl) dL_act_116 hk hn ⟨rfl, g2, I2⟩
    · exact g_zret C hr (Or.inr rfl) dL_act_246 hk hn ⟨rfl, g2, I2⟩
    · exact g_zret C hr (Or.inr rfl) dL_act_361 hk hn ⟨rfl, g2, I2⟩
    · exact g_zret C hr (Or.inr rfl) dL_act_490 hk hn ⟨rfl, g2, I2⟩
    · exact g_zret C hr (Or.inr rfl) dL_act_694 hk hn ⟨rfl, g2, I2⟩
    · exact g_zret C hr (Or.inr rfl) dL_act_707 hk hn ⟨rfl, g2, I2⟩
  have a117 : Gd p l e (rmO 63 1453 12 400) s m args0 below meth c (vx_MQ below (Qk Y (pAct Y x z ck)) (Xk Y noX) args0 s 12 400 Y.A) Y 10 117 [some (.ref x), some (.ref z), some (.int xi), some (.int (nI g.n)), some (.int (nI g.np)), none, none, none, none, none] [] h 0 0 := by
    refine g_iconst C (v := nI 1) dL_act_117 (by decide) ?_
    refine g_istore C dL_act_118 (by decide) ?_
    refine g_iload_n C dL_act_120 rfl ?_
    refine g_bipush C (v := nI 14) dL_act_121 (by decide) ?_
    refine g_callS C ((K_L_below l Y _ (N := 14) (by decide)).K) ok_L_below w578 rfl rfl dL_act_123 (Nat.le_of_ble_eq_true rfl) (Nat.le_of_ble_eq_true rfl) (Nat.le_of_ble_eq_true rfl) (Nat.le_of_ble_eq_true rfl) (Nat.le_of_ble_eq_true rfl) (fun vv h9 e9 => ?_)
    obtain ⟨u, hu, rfl, eh9⟩ := e9
    have eh9 := eh9.symm
    subst eh9
    by_cases c0 : u = 0
    · subst c0
      refine g_tsIn C (tgt := 156) dL_act_126 (by decide) (by decide) rfl (by decide) ?_
      exact act_undo C hfl htab iv P rC rS T hck hck2 endk _ _ _ _
    by_cases c1 : u = 1
    · subst c1
      refine g_tsIn C (tgt := 156) dL_act_126 (by decide) (by decide) rfl (by decide) ?_
      exact act_undo C hfl htab iv P rC rS T hck hck2 endk _ _ _ _
    by_cases c2 : u = 2
    · subst c2
      refine g_tsIn C (tgt := 247) dL_act_126 (by decide) (by decide) rfl (by decide) ?_
      exact act_redo C hfl htab iv P rC rS T hck hck2 endk _ _ _ _
    by_cases c3 : u = 3
    · subst c3
      refine g_tsIn C (tgt := 362) dL_act_126 (by decide) (by decide) rfl (by decide) ?_
      exact act_go C hfl htab iv P rC rS T hck hck2 endk _ _ _ _
    refine g_tsOut C (tgt := 491) dL_act_126 (Or.inr (by rw [nI_toInt (by omega)]; omega)) (by decide) ?_
    exact act_paw C hfl htab iv P rC rS T hck hck2 endk _ _ _ _
  refine g_aload_n C dL_act_0 rfl (by first | rfl | exact isR_rf _) ?_
  refine gf_L_9 C (rS.z) rfl dL_act_1 ?_
  refine g_alena C (rS.er) dL_act_4 ?_
  refine g_istore_n C dL_act_5 (by decide) ?_
  refine g_aload_n C dL_act_6 rfl (by first | rfl | exact isR_rf _) ?_
  refine gf_L_15 C (rS.z) rfl dL_act_7 ?_
  refine g_alena C (rS.sr) dL_act_10 ?_
  refine g_istore C dL_act_11 (by decide) ?_
  refine g_iload_n C dL_act_13 rfl ?_
  refine g_iconst C (v := nI 1) dL_act_14 (by decide) ?_
  refine g_icmp_neN C (tgt := 117) dL_act_15 (by decide) (by omega) (by omega) (fun q1 => ?_) (fun q1 => ?_)
  · exact a117
  · refine g_iload C dL_act_18 rfl ?_
    refine g_if_eqN C (tgt := 32) dL_act_20 (by decide) (by omega) (fun q2 => ?_) (fun q2 => ?_)
    · exact act_set C hfl htab iv P rC rS T hck hck2 endk q1
    · refine g_iload_n C dL_act_23 rfl ?_
      refine g_iconst C (v := nI 5) dL_act_24 (by decide) ?_
      refine g_callS C ((K_L_below l Y _ (N := 5) (by decide)).K) ok_L_below w578 rfl rfl dL_act_25 (Nat.le_of_ble_eq_true rfl) (Nat.le_of_ble_eq_true rfl) (Nat.le_of_ble_eq_true rfl) (Nat.le_of_ble_eq_true rfl) (Nat.le_of_ble_eq_true rfl) (fun vv h9 e9 => ?_)
      obtain ⟨u, hu, rfl, eh9⟩ := e9
      have eh9 := eh9.symm
      subst eh9
      refine g_iconst C (v := nI 3) dL_act_28 (by decide) ?_
      refine g_icmp_geN C (tgt := 117) dL_act_29 (by decide) (by omega) (by omega) (fun q3 => ?_) (fun q3 => ?_)
      · exact a117
      · exact act_set C hfl htab iv P rC rS T hck hck2 endk q1
