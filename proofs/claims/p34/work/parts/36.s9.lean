theorem lg_rf (x : Int64) : lg_cmp x x = 0 := by
  unfold lg_cmp
  simp
set_option maxRecDepth 100000 in
set_option maxHeartbeats 4000000 in
theorem law_f1 {l : Launch} {Y : YG} {p : Program} {e : Env} {s : State} {m : MethodId} {args : Array Value} {below : List Frame} {meth : Method} {c : Code} {Q : State → Prop} (C : Cx p s m args meth c Y cL_law 20 RL) (hfl : l.stackTraces = false) {x z ti : Nat} {xi : Int32} {dg : Int64} {g : Sg} {h : AH} {v : Vw} {w : Sv} (iv : Inv g) (P : Pld g) (rC : RepC Y x v g (ZS w g.n) h) (rS : RepS Y z w g h) (hdg : dg = digV g) {w12 w13 w14 w15 w16 w17 w18 w19 : Option Value} {k n : Nat} (hk : k + 20 ≤ 600172) (hn : n + 120 ≤ 7300668) (cont : ∀ (y9 y10 : Int32) (w11 : Option Value) (k2 n2 : Nat), k2 ≤ k + 1 → n2 ≤ n + 6 → Gd p l e room_1 s m args below meth c Q Y 20 590 [some (.ref Y.sb), some (.ref x), some (.ref z), some (.int (nI ti)), some (.int xi), some (.long dg), none, some (.int (nI g.n)), some (.int (nI g.np)), some (.int y9), some (.int y10), w11, w12, w13, w14, w15, w16, w17, w18, w19] [] h k2 n2) : Gd p l e room_1 s m args below meth c Q Y 20 555 [some (.ref Y.sb), some (.ref x), some (.ref z), some (.int (nI ti)), some (.int xi), some (.long dg), none, some (.int (nI g.n)), some (.int (nI g.np)), some (.int (nI (sm (fun e => chN g.par g.n e) g.n))), some (.int (nI (cnt (fun e => decide (chN g.par g.n e = 0)) g.n))), some (.int (nI (g.n))), w12, w13, w14, w15, w16, w17, w18, w19] [] h k n := by
  have hn60 := iv.n60
  have hnp16 := iv.np
  have hnow := iv.now
  have hn1 := iv.n1
  have hT := iv.tr
  rw [ch_all iv, en_ch iv]
  have hen : enN g ≤ g.n := cnt_le _ _
  refine g_iload C dL_law_555 rfl ?_
  refine g_iload C dL_law_557 rfl ?_
  refine g_iconst C (v := nI 1) dL_law_559 (by decide) ?_
  refine g_isubN C hn1 dL_law_560 ?_
  refine g_icmp_neN C (tgt := 588) dL_law_561 (by decide) (by omega) (by omega) (fun q1 => ?_) (fun q1 => ?_)
  · exact absurd rfl q1
  · refine g_iload C dL_law_564 rfl ?_
    refine g_aload_n C dL_law_566 rfl (by first | rfl | exact isR_rf _) ?_
    refine g_callV C ((K_X2_ends l Y rC iv).K) ok_X2_ends w408 (rC.x) rfl rfl rfl dL_law_567 (Nat.le_of_ble_eq_true rfl) (Nat.le_of_ble_eq_true rfl) (Nat.le_of_ble_eq_true rfl) (by show _ ≤ 600172; omega) (by show _ ≤ 7300668; omega) (ofS ?_)
    refine g_icmp_neN C (tgt := 588) dL_law_570 (by decide) (by omega) (by omega) (fun q2 => ?_) (fun q2 => ?_)
    · exact absurd rfl q2
    · refine g_aload_n C dL_law_573 rfl (by first | rfl | exact isR_rf _) ?_
      refine g_aload_n C dL_law_574 rfl (by first | rfl | exact isR_rf _) ?_
      refine g_callV C ((K_X2_evening l Y rC iv).K) ok_X2_evening w347 (rC.x) rfl rfl rfl dL_law_575 (Nat.le_of_ble_eq_true rfl) (Nat.le_of_ble_eq_true rfl) (Nat.le_of_ble_eq_true rfl) (by show _ ≤ 600172; omega) (by show _ ≤ 7300668; omega) (ofS ?_)
      refine g_callV C ((V_lyingIn l Y hfl rC iv hnow).K) ok_X2_lyingIn w433 (rC.x) rfl rfl rfl dL_law_578 (Nat.le_of_ble_eq_true rfl) (Nat.le_of_ble_eq_true rfl) (Nat.le_of_ble_eq_true rfl) (by show _ ≤ 600172; omega) (by show _ ≤ 7300668; omega) (ofS ?_)
      refine g_aload_n C dL_law_581 rfl (by first | rfl | exact isR_rf _) ?_
      refine g_callV C ((K_X2_lying l Y rC iv).K) ok_X2_lying w359 (rC.x) rfl rfl rfl dL_law_582 (Nat.le_of_ble_eq_true rfl) (Nat.le_of_ble_eq_true rfl) (Nat.le_of_ble_eq_true rfl) (by show _ ≤ 600172; omega) (by show _ ≤ 7300668; omega) (ofS ?_)
      refine g_icmp_eq C (tgt := 590) dL_law_585 (by decide) (fun q3 => ?_) (fun q3 => ?_)
      · exact cont _ _ _ _ _ (by omega) (by omega)
      · exact absurd rfl q3
set_option maxRecDepth 100000 in
set_option maxHeartbeats 4000000 in
theorem law_f2 {l : Launch} {Y : YG} {p : Program} {e : Env} {s : State} {m : MethodId} {args : Array Value} {below : List Frame} {meth : Method} {c : Code} {Q : State → Prop} (C : Cx p s m args meth c Y cL_law 20 RL) (hfl : l.stackTraces = false) {x z ti : Nat} {xi : Int32} {dg : Int64} {g : Sg} {h : AH} {v : Vw} {w : Sv} (iv : Inv g) (P : Pld g) (rC : RepC Y x v g (ZS w g.n) h) (rS : RepS Y z w g h) (hdg : dg = digV g) {y9 y10 : Int32} {w11 w12 w13 w14 w15 w16 w17 w18 w19 : Option Value} {k n : Nat} (hk : k + 30 ≤ 600172) (hn : n + 180 ≤ 7300668) (cont : ∀ (a b : Nat) (k2 n2 : Nat), a < g.n → b < g.n → k2 ≤ k + 16 → n2 ≤ n + 96 → Gd p l e room_1 s m args below meth c Q Y 20 766 [some (.ref Y.sb), some (.ref x), some (.ref z), some (.int (nI ti)), some (.int xi), some (.long dg), none, some (.int (nI g.n)), some (.int (nI g.np)), some (.int y9), some (.int y10), some (.int (nI (a))), some (.int (nI (b))), some (.int (nI (lc g.par a b))), w14, w15, w16, w17, w18, w19] [] h k2 n2) : Gd p l e room_1 s m args below meth c Q Y 20 590 [some (.ref Y.sb), some (.ref x), some (.ref z), some (.int (nI ti)), some (.int xi), some (.long dg), none, some (.int (nI g.n)), some (.int (nI g.np)), some (.int y9), some (.int y10), w11, w12, w13, w14, w15, w16, w17, w18, w19] [] h k n := by
  have hn60 := iv.n60
  have hnp16 := iv.np
  have hnow := iv.now
  have hn1 := iv.n1
  have hT := iv.tr
  refine g_iload C dL_law_590 rfl ?_
  refine g_iconst C (v := nI 3) dL_law_592 (by decide) ?_
  refine g_ishr C dL_law_593 ?_
  refine g_iload C dL_law_594 rfl ?_
  refine g_callS C ((K_L_below l Y _ (N := g.n) (by omega)).K) ok_L_below w578 rfl rfl dL_law_596 (Nat.le_of_ble_eq_true rfl) (Nat.le_of_ble_eq_true rfl) (Nat.le_of_ble_eq_true rfl) (by show _ ≤ 600172; omega) (by show _ ≤ 7300668; omega) (fun vv h9 e9 => ?_)
  obtain ⟨a, ha, rfl, eh9⟩ := e9
  have eh9 := eh9.symm
  subst eh9
  refine g_istore C dL_law_599 (by decide) ?_
  refine g_iload C dL_law_601 rfl ?_
  refine g_bipush C (v := nI 6) dL_law_603 (by decide) ?_
  refine g_ishr C dL_law_605 ?_
  refine g_iload C dL_law_606 rfl ?_
  refine g_callS C ((K_L_below l Y _ (N := g.n) (by omega)).K) ok_L_below w578 rfl rfl dL_law_608 (Nat.le_of_ble_eq_true rfl) (Nat.le_of_ble_eq_true rfl) (Nat.le_of_ble_eq_true rfl) (by show _ ≤ 600172; omega) (by show _ ≤ 7300668; omega) (fun vv h9 e9 => ?_)
  obtain ⟨b, hb, rfl, eh9⟩ := e9
  have eh9 := eh9.symm
  subst eh9
  refine g_istore C dL_law_611 (by decide) ?_
  have hll := lc_le hT a b
  have hml : lc g.par a b < g.n := by omega
  have hla := lc_an hT a b
  have hdl := dp_lc iv a b
  have k766 : ∀ k2 n2, k2 ≤ k + 16 → n2 ≤ n + 96 → Gd p l e room_1 s m args below meth c Q Y 20 766 [some (.ref Y.sb), some (.ref x), some (.ref z), some (.int (nI ti)), some (.int xi), some (.long dg), none, some (.int (nI g.n)), some (.int (nI g.np)), some (.int y9), some (.int y10), some (.int (nI (a))), some (.int (nI (b))), some (.int (nI (lc g.par a b))), w14, w15, w16, w17, w18, w19] [] h k2 n2 := fun k2 n2 h1 h2 => cont a b k2 n2 ha hb h1 h2
  clear cont
  refine g_aload_n C dL_law_613 rfl (by first | rfl | exact isR_rf _) ?_
  refine g_iload C dL_law_614 rfl ?_
  refine g_iload C dL_law_616 rfl ?_
  refine g_callV C ((V_meet l Y hfl rC iv ha hb).K) ok_X2_meet w400 (rC.x) rfl rfl rfl dL_law_618 (Nat.le_of_ble_eq_true rfl) (Nat.le_of_ble_eq_true rfl) (Nat.le_of_ble_eq_true rfl) (by show _ ≤ 600172; omega) (by show _ ≤ 7300668; omega) (ofS ?_)
  refine g_istore C dL_law_621 (by decide) ?_
  refine g_aload_n C dL_law_623 rfl (by first | rfl | exact isR_rf _) ?_
  refine g_iload C dL_law_624 rfl ?_
  refine g_iload C dL_law_626 rfl ?_
  refine g_callV C ((V_meet l Y hfl rC iv hb ha).K) ok_X2_meet w400 (rC.x) rfl rfl rfl dL_law_628 (Nat.le_of_ble_eq_true rfl) (Nat.le_of_ble_eq_true rfl) (Nat.le_of_ble_eq_true rfl) (by show _ ≤ 600172; omega) (by show _ ≤ 7300668; omega) (ofS ?_)
  rw [lc_sym iv a b]
  refine g_iload C dL_law_631 rfl ?_
  refine g_icmp_neN C (tgt := 764) dL_law_633 (by decide) (by omega) (by omega) (fun q1 => ?_) (fun q1 => ?_)
  · exact absurd rfl q1
  · refine g_aload_n C dL_law_636 rfl (by first | rfl | exact isR_rf _) ?_
    refine g_iload C dL_law_637 rfl ?_
    refine g_iload C dL_law_639 rfl ?_
    refine g_callV C ((V_apart l Y hfl rC iv ha hb).K) ok_X2_apart w404 (rC.x) rfl rfl rfl dL_law_641 (Nat.le_of_ble_eq_true rfl) (Nat.le_of_ble_eq_true rfl) (Nat.le_of_ble_eq_true rfl) (by show _ ≤ 600172; omega) (by show _ ≤ 7300668; omega) (ofS ?_)
    refine g_aload_n C dL_law_644 rfl (by first | rfl | exact isR_rf _) ?_
    refine g_iload C dL_law_645 rfl ?_
    refine g_callV C ((V_depthOf l Y hfl rC iv ha).K) ok_X2_depthOf w384 (rC.x) rfl rfl rfl dL_law_647 (Nat.le_of_ble_eq_true rfl) (Nat.le_of_ble_eq_true rfl) (Nat.le_of_ble_eq_true rfl) (by show _ ≤ 600172; omega) (by show _ ≤ 7300668; omega) (ofS ?_)
    refine g_aload_n C dL_law_650 rfl (by first | rfl | exact isR_rf _) ?_
    refine g_iload C dL_law_651 rfl ?_
    refine g_callV C ((V_depthOf l Y hfl rC iv hb).K) ok_X2_depthOf w384 (rC.x) rfl rfl rfl dL_law_653 (Nat.le_of_ble_eq_true rfl) (Nat.le_of_ble_eq_true rfl) (Nat.le_of_ble_eq_true rfl) (by show _ ≤ 600172; omega) (by show _ ≤ 7300668; omega) (ofS ?_)
    refine g_iaddN C dL_law_656 ?_
    refine g_iconst C (v := nI 2) dL_law_657 (by decide) ?_
    refine g_aload_n C dL_law_658 rfl (by first | rfl | exact isR_rf _) ?_
    refine g_iload C dL_law_659 rfl ?_
    refine g_callV C ((V_depthOf l Y hfl rC iv hml).K) ok_X2_depthOf w384 (rC.x) rfl rfl rfl dL_law_661 (Nat.le_of_ble_eq_true rfl) (Nat.le_of_ble_eq_true rfl) (Nat.le_of_ble_eq_true rfl) (by show _ ≤ 600172; omega) (by show _ ≤ 7300668; omega) (ofS ?_)
    refine g_imulN C dL_law_664 ?_
    refine g_isubN C (by omega) dL_law_665 ?_
    refine g_icmp_ne C (tgt := 764) dL_law_666 (by decide) (fun q2 => ?_) (fun q2 => ?_)
    · exact absurd rfl q2
    · refine g_aload_n C dL_law_669 rfl (by first | rfl | exact isR_rf _) ?_
      refine g_iload C dL_law_670 rfl ?_
      refine g_iload C dL_law_672 rfl ?_
      refine g_callV C ((K_X3_isBelow l Y rS iv ha (show lc g.par a b < 2 ^ 31 by omega)).K) ok_X3_isBelow w491 (rS.z) rfl rfl rfl dL_law_674 (Nat.le_of_ble_eq_true rfl) (Nat.le_of_ble_eq_true rfl) (Nat.le_of_ble_eq_true rfl) (by show _ ≤ 600172; omega) (by show _ ≤ 7300668; omega) (ofS ?_)
      rw [hla.1]
      refine g_if_eq C (tgt := 764) dL_law_677 (by decide) (fun q => ?_) (fun q => ?_)
      · exact absurd q (by decide)
      · refine g_aload_n C dL_law_680 rfl (by first | rfl | exact isR_rf _) ?_
        refine g_iload C dL_law_681 rfl ?_
        refine g_iload C dL_law_683 rfl ?_
        refine g_callV C ((K_X3_isBelow l Y rS iv hb (show lc g.par a b < 2 ^ 31 by omega)).K) ok_X3_isBelow w491 (rS.z) rfl rfl rfl dL_law_685 (Nat.le_of_ble_eq_true rfl) (Nat.le_of_ble_eq_true rfl) (Nat.le_of_ble_eq_true rfl) (by show _ ≤ 600172; omega) (by show _ ≤ 7300668; omega) (ofS ?_)
        rw [hla.2]
        refine g_if_eq C (tgt := 764) dL_law_688 (by decide) (fun q => ?_) (fun q => ?_)
        · exact absurd q (by decide)
        · refine g_aload_n C dL_law_691 rfl (by first | rfl | exact isR_rf _) ?_
          refine g_iload C dL_law_692 rfl ?_
          refine g_iload C dL_law_694 rfl ?_
          refine g_callV C ((V_areAlike l Y hfl rC iv ha hb).K) ok_X2_areAlike w437 (rC.x) rfl rfl rfl dL_law_696 (Nat.le_of_ble_eq_true rfl) (Nat.le_of_ble_eq_true rfl) (Nat.le_of_ble_eq_true rfl) (by show _ ≤ 600172; omega) (by show _ ≤ 7300668; omega) (ofS ?_)
          refine g_aload_n C dL_law_699 rfl (by first | rfl | exact isR_rf _) ?_
          refine g_iload C dL_law_700 rfl ?_
          refine g_iload C dL_law_702 rfl ?_
          refine g_callV C ((V_areAlike l Y hfl rC iv hb ha).K) ok_X2_areAlike w437 (rC.x) rfl rfl rfl dL_law_704 (Nat.le_of_ble_eq_true rfl) (Nat.le_of_ble_eq_true rfl) (Nat.le_of_ble_eq_true rfl) (by show _ ≤ 600172; omega) (by show _ ≤ 7300668; omega) (ofS ?_)
          rw [lk_sym g b a]
          refine g_icmp_ne C (tgt := 764) dL_law_707 (by decide) (fun q3 => ?_) (fun q3 => ?_)
          · exact absurd rfl q3
          · refine g_iload C dL_law_710 rfl ?_
            refine g_iload C dL_law_712 rfl ?_
            refine g_icmp_eqN C (tgt := 766) dL_law_714 (by decide) (by omega) (by omega) (fun q4 => ?_) (fun q4 => ?_)
            · exact k766 _ _ (by omega) (by omega)
            · refine g_iload C dL_law_717 rfl ?_
              refine g_iload C dL_law_719 rfl ?_
              refine g_icmp_eqN C (tgt := 766) dL_law_721 (by decide) (by omega) (by omega) (fun q5 => ?_) (fun q5 => ?_)
              · exact k766 _ _ (by omega) (by omega)
              · refine g_iload C dL_law_724 rfl ?_
                refine g_iload C dL_law_726 rfl ?_
                refine g_icmp_eqN C (tgt := 766) dL_law_728 (by decide) (by omega) (by omega) (fun q6 => ?_) (fun q6 => ?_)
                · exact k766 _ _ (by omega) (by omega)
                · have ha0 : 0 < a := by omega
                  have hb0 : 0 < b := by omega
                  have hpa := iv.par ha
                  have hpb := iv.par hb
                  refine g_aload_n C dL_law_731 rfl (by first | rfl | exact isR_rf _) ?_
                  refine gf_L_9 C (rS.z) rfl dL_law_732 ?_
                  refine g_iload C dL_law_735 rfl ?_
                  refine g_aald C rS.er rfl (show a < g.n from ha) (by omega) dL_law_737 ?_
                  obtain ⟨ef, f, hf, f0, -⟩ := rS.ev ha
                  rw [ef]
                  refine g_iconst C (v := nI 0) dL_law_738 (by decide) ?_
                  refine g_iald C hf rfl (show 0 < 4 by decide) (by decide) dL_law_739 ?_
                  rw [f0, parO_p ha0]
                  refine g_aload_n C dL_law_740 rfl (by first | rfl | exact isR_rf _) ?_
                  refine gf_L_9 C (rS.z) rfl dL_law_741 ?_
                  refine g_iload C dL_law_744 rfl ?_
                  refine g_aald C rS.er rfl (show b < g.n from hb) (by omega) dL_law_746 ?_
                  obtain ⟨ef2, f2, hf2, f02, -⟩ := rS.ev hb
                  rw [ef2]
                  refine g_iconst C (v := nI 0) dL_law_747 (by decide) ?_
                  refine g_iald C hf2 rfl (show 0 < 4 by decide) (by decide) dL_law_748 ?_
                  rw [f02, parO_p hb0]
                  refine g_icmp_neN C (tgt := 766) dL_law_749 (by decide) (by omega) (by omega) (fun q7 => ?_) (fun q7 => ?_)
                  · exact k766 _ _ (by omega) (by omega)
                  · refine g_aload_n C dL_law_752 rfl (by first | rfl | exact isR_rf _) ?_
                    refine g_iload C dL_law_753 rfl ?_
                    refine g_iload C dL_law_755 rfl ?_
                    refine g_callV C ((V_apart l Y hfl rC iv ha hb).K) ok_X2_apart w404 (rC.x) rfl rfl rfl dL_law_757 (Nat.le_of_ble_eq_true rfl) (Nat.le_of_ble_eq_true rfl) (Nat.le_of_ble_eq_true rfl) (by show _ ≤ 600172; omega) (by show _ ≤ 7300668; omega) (ofS ?_)
                    rw [sib_2 iv ha0 hb0 q7 q5 q6]
                    refine g_iconst C (v := nI 2) dL_law_760 (by decide) ?_
                    refine g_icmp_eq C (tgt := 766) dL_law_761 (by decide) (fun q => ?_) (fun q => ?_)
                    · exact k766 _ _ (by omega) (by omega)
                    · first | exact absurd (by decide) q | exact absurd q (by decide)
set_option maxRecDepth 100000 in
set_option maxHeartbeats 4000000 in
theorem law_f3 {l : Launch} {Y : YG} {p : Program} {e : Env} {s : State} {m : MethodId} {args : Array Value} {below : List Frame} {meth : Method} {c : Code} {Q : State → Prop} (C : Cx p s m args meth c Y cL_law 20 RL) (hfl : l.stackTraces = false) {x z ti : Nat} {xi : Int32} {dg : Int64} {g : Sg} {h : AH} {v : Vw} {w : Sv} (iv : Inv g) (P : Pld g) (rC : RepC Y x v g (ZS w g.n) h) (rS : RepS Y z w g h) (hdg : dg = digV g) {y9 y10 : Int32} {a b : Nat} (ha : a < g.n) (hb : b < g.n) {w14 w15 w16 w17 w18 w19 : Option Value} {k n : Nat} (hk : k + 30 ≤ 600172) (hn : n + 180 ≤ 7300668) (cont : ∀ (w14 : Option Value) (k2 n2 : Nat), k2 ≤ k → n2 ≤ n → Gd p l e room_1 s m args below meth c Q Y 20 809 [some (.ref Y.sb), some (.ref x), some (.ref z), some (.int (nI ti)), some (.int xi), some (.long dg), none, some (.int (nI g.n)), some (.int (nI g.np)), some (.int y9), some (.int y10), some (.int (nI (a))), some (.int (nI (b))), some (.int (nI (lc g.par a b))), w14, w15, w16, w17, w18, w19] [] h k2 n2) : Gd p l e room_1 s m args below meth c Q Y 20 766 [some (.ref Y.sb), some (.ref x), some (.ref z), some (.int (nI ti)), some (.int xi), some (.long dg), none, some (.int (nI g.n)), some (.int (nI g.np)), some (.int y9), some (.int y10), some (.int (nI (a))), some (.int (nI (b))), some (.int (nI (lc g.par a b))), w14, w15, w16, w17, w18, w19] [] h k n := by
  have hn60 := iv.n60
  have hnp16 := iv.np
  have hnow := iv.now
  have hn1 := iv.n1
  have hT := iv.tr
  have hll := lc_le hT a b
  have lp : ∀ (d i : Nat), lc g.par a b < i → i ≤ g.n → g.n - i < d → Gd p l e room_1 s m args below meth c Q Y 20 772 [some (.ref Y.sb), some (.ref x), some (.ref z), some (.int (nI ti)), some (.int xi), some (.long dg), none, some (.int (nI g.n)), some (.int (nI g.np)), some (.int y9), some (.int y10), some (.int (nI (a))), some (.int (nI (b))), some (.int (nI (lc g.par a b))), some (.int (nI (i))), w15, w16, w17, w18, w19] [] h k n := by
    intro d
    induction d with
    | zero => intro i z1 z2 z3; omega
    | succ d ih =>
      intro i hli hi hd
      refine g_iload C dL_law_772 rfl ?_
      refine g_iload C dL_law_774 rfl ?_
      refine g_icmp_geN C (tgt := 809) dL_law_776 (by decide) (by omega) (by omega) (fun q1 => ?_) (fun q1 => ?_)
      · exact cont _ k n (Nat.le_refl _) (Nat.le_refl _)
      · have nx : Gd p l e room_1 s m args below meth c Q Y 20 803 [some (.ref Y.sb), some (.ref x), some (.ref z), some (.int (nI ti)), some (.int xi), some (.long dg), none, some (.int (nI g.n)), some (.int (nI g.np)), some (.int y9), some (.int y10), some (.int (nI (a))), some (.int (nI (b))), some (.int (nI (lc g.par a b))), some (.int (nI (i))), w15, w16, w17, w18, w19] [] h k n := by
          refine g_iincN C dL_law_803 rfl (by decide) ?_
          refine g_goto C (tgt := 772) dL_law_806 (by decide) ?_
          exact ih (i + 1) (by omega) (by omega) (by omega)
        refine g_aload_n C dL_law_779 rfl (by first | rfl | exact isR_rf _) ?_
        refine g_iload C dL_law_780 rfl ?_
        refine g_iload C dL_law_782 rfl ?_
        refine g_callV C ((K_X3_isBelow l Y rS iv ha (show i < 2 ^ 31 by omega)).K) ok_X3_isBelow w491 (rS.z) rfl rfl rfl dL_law_784 (Nat.le_of_ble_eq_true rfl) (Nat.le_of_ble_eq_true rfl) (Nat.le_of_ble_eq_true rfl) (by show _ ≤ 600172; omega) (by show _ ≤ 7300668; omega) (ofS ?_)
        refine g_if_eqB C (tgt := 803) dL_law_787 (by decide) (fun q2 => nx) (fun q2 => ?_)
        refine g_aload_n C dL_law_790 rfl (by first | rfl | exact isR_rf _) ?_
        refine g_iload C dL_law_791 rfl ?_
        refine g_iload C dL_law_793 rfl ?_
        refine g_callV C ((K_X3_isBelow l Y rS iv hb (show i < 2 ^ 31 by omega)).K) ok_X3_isBelow w491 (rS.z) rfl rfl rfl dL_law_795 (Nat.le_of_ble_eq_true rfl) (Nat.le_of_ble_eq_true rfl) (Nat.le_of_ble_eq_true rfl) (by show _ ≤ 600172; omega) (by show _ ≤ 7300668; omega) (ofS ?_)
        refine g_if_eqB C (tgt := 803) dL_law_798 (by decide) (fun q3 => nx) (fun q3 => ?_)
        have := com_le iv q2 q3
        omega
  refine g_iload C dL_law_766 rfl ?_
  refine g_iconst C (v := nI 1) dL_law_768 (by decide) ?_
  refine g_iaddN C dL_law_769 ?_
  refine g_istore C dL_law_770 (by decide) ?_
  exact lp (g.n + 1) (lc g.par a b + 1) (by omega) (by omega) (by omega)
set_option maxRecDepth 100000 in
set_option maxHeartbeats 4000000 in
theorem law_f4 {l : Launch} {Y : YG} {p : Program} {e : Env} {s : State} {m : MethodId} {args : Array Value} {below : List Frame} {meth : Method} {c : Code} {Q : State → Prop} (C : Cx p s m args meth c Y cL_law 20 RL) (hfl : l.stackTraces = false) {x z ti : Nat} {xi : Int32} {dg : Int64} {g : Sg} {h : AH} {v : Vw} {w : Sv} (iv : Inv g) (P : Pld g) (rC : RepC Y x v g (ZS w g.n) h) (rS : RepS Y z w g h) (hdg : dg = digV g) {y13 : Int32} {w9 w10 w11 w12 w14 w17 w18 w19 : Option Value} {k n : Nat} (hk : k + 30 ≤ 600172) (hn : n + 180 ≤ 7300668) (cont : ∀ (v2 : Vw) (h2 : AH) (y15 : Int32) (w16 : Option Value) (k2 n2 : Nat), RepC Y x v2 g (ZS w g.n) h2 → RepS Y z w g h2 → k2 ≤ k + 8 → n2 ≤ n + 48 → Gd p l e room_1 s m args below meth c Q Y 20 894 [some (.ref Y.sb), some (.ref x), some (.ref z), some (.int (nI ti)), some (.int xi), some (.long dg), none, some (.int (nI g.n)), some (.int (nI g.np)), w9, w10, w11, w12, some (.int y13), some (.int (nI (g.now))), some (.int y15), w16, w17, w18, w19] [] h2 k2 n2) : ∀ w15 w16 : Option Value, Gd p l e room_1 s m args below meth c Q Y 20 809 [some (.ref Y.sb), some (.ref x), some (.ref z), some (.int (nI ti)), some (.int xi), some (.long dg), none, some (.int (nI g.n)), some (.int (nI g.np)), w9, w10, w11, w12, some (.int y13), w14, w15, w16, w17, w18, w19] [] h k n := by
  intro w15 w16
  have hn60 := iv.n60
  have hnp16 := iv.np
  have hnow := iv.now
  have hn1 := iv.n1
  have hT := iv.tr
  have hdn := iv.dp60 hnow
  refine g_aload_n C dL_law_809 rfl (by first | rfl | exact isR_rf _) ?_
  refine g_callV C ((K_X2_digest l Y rC iv).K) ok_X2_digest w445 (rC.x) rfl rfl rfl dL_law_810 (Nat.le_of_ble_eq_true rfl) (Nat.le_of_ble_eq_true rfl) (Nat.le_of_ble_eq_true rfl) (by show _ ≤ 600172; omega) (by show _ ≤ 7300668; omega) (ofS ?_)
  rw [← hdg]
  refine g_lload C dL_law_813 rfl ?_
  refine g_lcmp C dL_law_815 ?_
  rw [lg_rf]
  refine g_if_eq C (tgt := 821) dL_law_816 (by decide) (fun q => ?_) (fun q => absurd rfl q)
  refine g_aload_n C dL_law_821 rfl (by first | rfl | exact isR_rf _) ?_
  refine g_callV C ((K_X2_evening l Y rC iv).K) ok_X2_evening w347 (rC.x) rfl rfl rfl dL_law_822 (Nat.le_of_ble_eq_true rfl) (Nat.le_of_ble_eq_true rfl) (Nat.le_of_ble_eq_true rfl) (by show _ ≤ 600172; omega) (by show _ ≤ 7300668; omega) (ofS ?_)
  refine g_istore C dL_law_825 (by decide) ?_
  refine g_aload_n C dL_law_827 rfl (by first | rfl | exact isR_rf _) ?_
  refine g_iload C dL_law_828 rfl ?_
  refine g_callV C ((V_depthOf l Y hfl rC iv hnow).K) ok_X2_depthOf w384 (rC.x) rfl rfl rfl dL_law_830 (Nat.le_of_ble_eq_true rfl) (Nat.le_of_ble_eq_true rfl) (Nat.le_of_ble_eq_true rfl) (by show _ ≤ 600172; omega) (by show _ ≤ 7300668; omega) (ofS ?_)
  refine g_istore C dL_law_833 (by decide) ?_
  refine g_iload C dL_law_835 rfl ?_
  rcases Nat.eq_zero_or_pos (g.dp g.now) with y | y
  · rw [y]
    refine g_if_le C (tgt := 894) dL_law_837 (by decide) (fun q => ?_) (fun q => absurd (by decide) q)
    exact cont v h _ _ _ _ rC rS (by omega) (by omega)
  · refine g_if_le C (tgt := 894) dL_law_837 (by decide) (fun q => absurd q (nI_nle y (by omega))) (fun q => ?_)
    refine g_iconst C (v := nI 1) dL_law_840 (by decide) ?_
    refine g_iload C dL_law_841 rfl ?_
    refine g_iconst C (v := nI 4) dL_law_843 (by decide) ?_
    refine g_ishr C dL_law_844 ?_
    refine g_iload C dL_law_845 rfl ?_
    refine g_callS C ((K_L_below l Y _ (N := g.dp g.now) (by omega)).K) ok_L_below w578 rfl rfl dL_law_847 (Nat.le_of_ble_eq_true rfl) (Nat.le_of_ble_eq_true rfl) (Nat.le_of_ble_eq_true rfl) (by show _ ≤ 600172; omega) (by show _ ≤ 7300668; omega) (fun vv h9 e9 => ?_)
    obtain ⟨u, hu, rfl, eh9⟩ := e9
    have eh9 := eh9.symm
    subst eh9
    refine g_iaddN C dL_law_850 ?_
    refine g_istore C dL_law_851 (by decide) ?_
    refine g_aload_n C dL_law_853 rfl (by first | rfl | exact isR_rf _) ?_
    refine g_aload_n C dL_law_854 rfl (by first | rfl | exact isR_rf _) ?_
    refine g_iload C dL_law_855 rfl ?_
    refine g_callV C ((U_undo l Y hfl rC iv (mm := 1 + u) (by omega) (by omega)).K) ok_X2_undo w185 (rC.x) rfl rfl rfl dL_law_857 (Nat.le_of_ble_eq_true rfl) (Nat.le_of_ble_eq_true rfl) (Nat.le_of_ble_eq_true rfl) (by show _ ≤ 600172; omega) (by show _ ≤ 7300668; omega) (fun vv h2 e2 => ?_)
    obtain ⟨rfl, ⟨v2, rC2⟩, fr2⟩ := e2
    have rS2 := rS.krk fr2
    have hul := up_le hT (1 + u) g.now
    have ivu := inv_up iv (up_an hT (1 + u) g.now)
    have hud := up_dp iv.dp (1 + u) g.now (by omega)
    have hun : upN g.par (1 + u) g.now < g.n := by omega
    refine g_callV C ((V_depthOf l Y hfl rC2 ivu (j := upN g.par (1 + u) g.now) hun).K) ok_X2_depthOf w384 (rC2.x) rfl rfl rfl dL_law_860 (Nat.le_of_ble_eq_true rfl) (Nat.le_of_ble_eq_true rfl) (Nat.le_of_ble_eq_true rfl) (by show _ ≤ 600172; omega) (by show _ ≤ 7300668; omega) (ofS ?_)
    rw [show (stNow g (upN g.par (1 + u) g.now)).dp (upN g.par (1 + u) g.now) = g.dp g.now - (1 + u) from hud]
    refine g_iload C dL_law_863 rfl ?_
    refine g_iload C dL_law_865 rfl ?_
    refine g_isubN C (by omega) dL_law_867 ?_
    refine g_icmp_neN C (tgt := 892) dL_law_868 (by decide) (by omega) (by omega) (fun q1 => ?_) (fun q1 => ?_)
    · exact absurd rfl q1
    · refine g_aload_n C dL_law_871 rfl (by first | rfl | exact isR_rf _) ?_
      refine g_iload C dL_law_872 rfl ?_
      refine g_callV C ((U_redo l Y hfl rC2 ivu (mm := 1 + u) (b := g.now) (by omega) (by omega) (re_up iv (1 + u) (by omega))).K) ok_X2_redo w276 (rC2.x) rfl rfl rfl dL_law_874 (Nat.le_of_ble_eq_true rfl) (Nat.le_of_ble_eq_true rfl) (Nat.le_of_ble_eq_true rfl) (by show _ ≤ 600172; omega) (by show _ ≤ 7300668; omega) (fun vv h3 e3 => ?_)
      obtain ⟨rfl, ⟨v3, rC3⟩, fr3⟩ := e3
      have rS3 := rS2.krk fr3
      have rC4 : RepC Y x v3 g (ZS w g.n) h3 := rC3
      refine g_iload C dL_law_877 rfl ?_
      refine g_icmp_neN C (tgt := 892) dL_law_879 (by decide) (by omega) (by omega) (fun q2 => ?_) (fun q2 => ?_)
      · exact absurd rfl q2
      · refine g_aload_n C dL_law_882 rfl (by first | rfl | exact isR_rf _) ?_
        refine g_callV C ((K_X2_digest l Y rC4 iv).K) ok_X2_digest w445 (rC4.x) rfl rfl rfl dL_law_883 (Nat.le_of_ble_eq_true rfl) (Nat.le_of_ble_eq_true rfl) (Nat.le_of_ble_eq_true rfl) (by show _ ≤ 600172; omega) (by show _ ≤ 7300668; omega) (ofS ?_)
        rw [← hdg]
        refine g_lload C dL_law_886 rfl ?_
        refine g_lcmp C dL_law_888 ?_
        rw [lg_rf]
        refine g_if_eq C (tgt := 894) dL_law_889 (by decide) (fun q => ?_) (fun q => absurd rfl q)
        exact cont v3 h3 _ _ _ _ rC4 rS3 (by omega) (by omega)
set_option maxRecDepth 100000 in
set_option maxHeartbeats 4000000 in
theorem law_f5 {l : Launch} {Y : YG} {p : Program} {e : Env} {s : State} {m : MethodId} {args : Array Value} {below : List Frame} {meth : Method} {c : Code} {Q : State → Prop} (C : Cx p s m args meth c Y cL_law 20 RL) (hfl : l.stackTraces = false) {x z ti : Nat} {xi : Int32} {dg : Int64} {g : Sg} {h : AH} {v : Vw} {w : Sv} (iv : Inv g) (P : Pld g) (rC : RepC Y x v g (ZS w g.n) h) (rS : RepS Y z w g h) (hdg : dg = digV g) {y13 y15 : Int32} {w9 w10 w11 w12 w16 w17 w18 w19 : Option Value} {k n : Nat} (hk : k + 400 ≤ 600172) (hn : n + 2400 ≤ 7300668) (cont : ∀ (to : Nat) (v2 : Vw) (h2 : AH) (y17 : Int32) (w18 : Option Value) (k2 n2 : Nat), to < g.n → RepC Y x v2 (stGo g to) (ZS w g.n) h2 → RepS Y z w g h2 → k2 ≤ k + 250 → n2 ≤ n + 1500 → Gd p l e room_1 s m args below meth c Q Y 20 978 [some (.ref Y.sb), some (.ref x), some (.ref z), some (.int (nI ti)), some (.int xi), some (.long dg), none, some (.int (nI g.n)), some (.int (nI g.np)), w9, w10, w11, w12, some (.int y13), some (.int (nI (g.now))), some (.int y15), some (.int (nI (to))), some (.int y17), w18, w19] [] h2 k2 n2) : Gd p l e room_1 s m args below meth c Q Y 20 894 [some (.ref Y.sb), some (.ref x), some (.ref z), some (.int (nI ti)), some (.int xi), some (.long dg), none, some (.int (nI g.n)), some (.int (nI g.np)), w9, w10, w11, w12, some (.int y13), some (.int (nI (g.now))), some (.int y15), w16, w17, w18, w19] [] h k n := by
  have hn60 := iv.n60
  have hnp16 := iv.np
  have hnow := iv.now
  have hn1 := iv.n1
  have hT := iv.tr
  refine g_iload C dL_law_894 rfl ?_
  refine g_iconst C (v := nI 5) dL_law_896 (by decide) ?_
  refine g_ishr C dL_law_897 ?_
  refine g_iload C dL_law_898 rfl ?_
  refine g_callS C ((K_L_below l Y _ (N := g.n) (by omega)).K) ok_L_below w578 rfl rfl dL_law_900 (Nat.le_of_ble_eq_true rfl) (Nat.le_of_ble_eq_true rfl) (Nat.le_of_ble_eq_true rfl) (by show _ ≤ 600172; omega) (by show _ ≤ 7300668; omega) (fun vv h9 e9 => ?_)
  obtain ⟨to, hto, rfl, eh9⟩ := e9
  have eh9 := eh9.symm
  subst eh9
  refine g_istore C dL_law_903 (by decide) ?_
  refine g_aload_n C dL_law_905 rfl (by first | rfl | exact isR_rf _) ?_
  refine g_iload C dL_law_906 rfl ?_
  refine g_iload C dL_law_908 rfl ?_
  refine g_callV C ((V_apart l Y hfl rC iv hnow hto).K) ok_X2_apart w404 (rC.x) rfl rfl rfl dL_law_910 (Nat.le_of_ble_eq_true rfl) (Nat.le_of_ble_eq_true rfl) (Nat.le_of_ble_eq_true rfl) (by show _ ≤ 600172; omega) (by show _ ≤ 7300668; omega) (ofS ?_)
  refine g_istore C dL_law_913 (by decide) ?_
  refine g_aload_n C dL_law_915 rfl (by first | rfl | exact isR_rf _) ?_
  refine g_iload C dL_law_916 rfl ?_
  refine g_callV C ((U_goTo l Y hfl rC iv hto).K) ok_X2_goTo w281 (rC.x) rfl rfl rfl dL_law_918 (Nat.le_of_ble_eq_true rfl) (Nat.le_of_ble_eq_true rfl) (Nat.le_of_ble_eq_true rfl) (by show _ ≤ 600172; omega) (by show _ ≤ 7300668; omega) (fun vv h2 e2 => ?_)
  obtain ⟨rfl, ⟨v2, rC2⟩, fr2⟩ := e2
  have rS2 := rS.krk fr2
  have ivg := inv_go iv hto
  have lp : ∀ (d a k2 n2 : Nat), a < d → an g.par a to = true → k2 + 4 * a ≤ k + 3 + 4 * to → n2 + 24 * a ≤ n + 18 + 24 * to → Gd p l e room_1 s m args below meth c Q Y 20 941 [some (.ref Y.sb), some (.ref x), some (.ref z), some (.int (nI ti)), some (.int xi), some (.long dg), none, some (.int (nI g.n)), some (.int (nI g.np)), w9, w10, w11, w12, some (.int y13), some (.int (nI (g.now))), some (.int y15), some (.int (nI (to))), some (.int (nI (wy g g.now to))), some (.int (nI (a))), w19] [] h2 k2 n2 := by
    intro d
    induction d with
    | zero => intro a k2 n2 z1; omega
    | succ d ih =>
      intro a k2 n2 hd ha hk2 hn2
      have hal := an_le hT ha
      have han : a < g.n := by omega
      rcases Nat.eq_zero_or_pos a with h0 | h0
      · subst h0
        refine g_aload_n C dL_law_941 rfl (by first | rfl | exact isR_rf _) ?_
        refine g_iload C dL_law_942 rfl ?_
        refine g_callV C ((V_hangsOn l Y hfl rC2 ivg (j := 0) han).K) ok_X2_hangsOn w373 (rC2.x) rfl rfl rfl dL_law_944 (Nat.le_of_ble_eq_true rfl) (Nat.le_of_ble_eq_true rfl) (Nat.le_of_ble_eq_true rfl) (by show _ ≤ 600172; omega) (by show _ ≤ 7300668; omega) (ofS ?_)
        rw [parO_0]
        refine g_if_lt C (tgt := 978) dL_law_947 (by decide) (fun q1 => ?_) (fun q1 => ?_)
        · exact cont to v2 h2 _ _ _ _ hto rC2 rS2 (by omega) (by omega)
        · exact absurd (by decide) q1
      · have hp := hT.2 a h0
        have hpn := iv.par han
        have hgo := go_path iv h0 ha
        refine g_aload_n C dL_law_941 rfl (by first | rfl | exact isR_rf _) ?_
        refine g_iload C dL_law_942 rfl ?_
        refine g_callV C ((V_hangsOn l Y hfl rC2 ivg (j := a) han).K) ok_X2_hangsOn w373 (rC2.x) rfl rfl rfl dL_law_944 (Nat.le_of_ble_eq_true rfl) (Nat.le_of_ble_eq_true rfl) (Nat.le_of_ble_eq_true rfl) (by show _ ≤ 600172; omega) (by show _ ≤ 7300668; omega) (ofS ?_)
        rw [parO_p h0]
        refine g_if_lt C (tgt := 978) dL_law_947 (by decide) (fun q1 => ?_) (fun q1 => ?_)
        · exact absurd q1 (nI_pos (show g.par a < 2 ^ 31 by omega))
        · refine g_aload_n C dL_law_950 rfl (by first | rfl | exact isR_rf _) ?_
          refine g_aload_n C dL_law_951 rfl (by first | rfl | exact isR_rf _) ?_
          refine g_iload C dL_law_952 rfl ?_
          refine g_callV C ((V_hangsOn l Y hfl rC2 ivg (j := a) han).K) ok_X2_hangsOn w373 (rC2.x) rfl rfl rfl dL_law_954 (Nat.le_of_ble_eq_true rfl) (Nat.le_of_ble_eq_true rfl) (Nat.le_of_ble_eq_true rfl) (by show _ ≤ 600172; omega) (by show _ ≤ 7300668; omega) (ofS ?_)
          rw [parO_p h0]
          refine g_callV C ((V_again l Y hfl rC2 ivg (j := g.par a) hpn).K) ok_X2_again w396 (rC2.x) rfl rfl rfl dL_law_957 (Nat.le_of_ble_eq_true rfl) (Nat.le_of_ble_eq_true rfl) (Nat.le_of_ble_eq_true rfl) (by show _ ≤ 600172; omega) (by show _ ≤ 7300668; omega) (ofS ?_)
          rw [hgo]
          refine g_iload C dL_law_960 rfl ?_
          refine g_icmp_eq C (tgt := 967) dL_law_962 (by decide) (fun q2 => ?_) (fun q2 => ?_)
          · refine g_aload_n C dL_law_967 rfl (by first | rfl | exact isR_rf _) ?_
            refine g_iload C dL_law_968 rfl ?_
            refine g_callV C ((V_hangsOn l Y hfl rC2 ivg (j := a) han).K) ok_X2_hangsOn w373 (rC2.x) rfl rfl rfl dL_law_970 (Nat.le_of_ble_eq_true rfl) (Nat.le_of_ble_eq_true rfl) (Nat.le_of_ble_eq_true rfl) (by show _ ≤ 600172; omega) (by show _ ≤ 7300668; omega) (ofS ?_)
            rw [parO_p h0]
            refine g_istore C dL_law_973 (by decide) ?_
            refine g_goto C (tgt := 941) dL_law_975 (by decide) ?_
            exact ih (g.par a) _ _ (by omega) (an_tr hT (an_par hT a) ha) (by omega) (by omega)
          · exact absurd rfl q2
  refine g_iload C dL_law_921 rfl ?_
  refine g_icmp_ne C (tgt := 935) dL_law_923 (by decide) (fun q1 => ?_) (fun q1 => ?_)
  · exact absurd rfl q1
  · refine g_aload_n C dL_law_926 rfl (by first | rfl | exact isR_rf _) ?_
    refine g_callV C ((K_X2_evening l Y rC2 ivg).K) ok_X2_evening w347 (rC2.x) rfl rfl rfl dL_law_927 (Nat.le_of_ble_eq_true rfl) (Nat.le_of_ble_eq_true rfl) (Nat.le_of_ble_eq_true rfl) (by show _ ≤ 600172; omega) (by show _ ≤ 7300668; omega) (ofS ?_)
    refine g_iload C dL_law_930 rfl ?_
    refine g_icmp_eq C (tgt := 937) dL_law_932 (by decide) (fun q2 => ?_) (fun q2 => ?_)
    · refine g_iload C dL_law_937 rfl ?_
      refine g_istore C dL_law_939 (by decide) ?_
      exact lp (to + 1) to _ _ (Nat.lt_succ_self _) (an_rf _ _) (by omega) (by omega)
    · exact absurd rfl q2
set_option maxRecDepth 100000 in
set_option maxHeartbeats 4000000 in
theorem law_f6 {l : Launch} {Y : YG} {p : Program} {e : Env} {s : State} {m : MethodId} {args : Array Value} {below : List Frame} {meth : Method} {c : Code} {Q : State → Prop} (C : Cx p s m args meth c Y cL_law 20 RL) (hfl : l.stackTraces = false) {x z ti to : Nat} {xi y17 : Int32} {dg : Int64} {g : Sg} {h : AH} {v : Vw} {w : Sv} (iv : Inv g) (hu : to < g.n) (rC : RepC Y x v (stGo g to) (ZS w g.n) h) (rS : RepS Y z w g h) (T : TmO g w.tm w.clk) {w9 w10 w11 w12 w13 w14 w15 w18 w19 : Option Value} {k n : Nat} (hk : k + 30 ≤ 600172) (hn : n + 180 ≤ 7300668) (cont : ∀ (w1 : Sv) (h1 : AH) (w18 w19 : Option Value), RepC Y x v (stGo g to) (ZS w1 g.n) h1 → RepS Y z w1 (stGo g to) h1 → TmO (stGo g to) w1.tm w1.clk → w1.clk ≤ w.clk + 130 → Gd p l e room_1 s m args below meth c Q Y 20 1069 [some (.ref Y.sb), some (.ref x), some (.ref z), some (.int (nI ti)), some (.int xi), some (.long dg), none, some (.int (nI g.n)), some (.int (nI g.np)), w9, w10, w11, w12, w13, w14, w15, some (.int (nI (to))), some (.int y17), w18, w19] [] h1 k n) : Gd p l e room_1 s m args below meth c Q Y 20 978 [some (.ref Y.sb), some (.ref x), some (.ref z), some (.int (nI ti)), some (.int xi), some (.long dg), none, some (.int (nI g.n)), some (.int (nI g.np)), w9, w10, w11, w12, w13, w14, w15, some (.int (nI (to))), some (.int y17), w18, w19] [] h k n := by
  have hn60 := iv.n60
  have hnp16 := iv.np
  have hnow := iv.now
  have hn1 := iv.n1
  have hT := iv.tr
  refine g_aload_n C dL_law_978 rfl (by first | rfl | exact isR_rf _) ?_
  refine g_aload_n C dL_law_979 rfl (by first | rfl | exact isR_rf _) ?_
  refine gf_L_41 C (rS.z) rfl dL_law_980 ?_
  refine g_iload C dL_law_983 rfl ?_
  refine g_callV C ((K_X3_meet l Y rS iv (a0 := g.now) (b0 := to) hnow hu).K) ok_X3_meet w495 (rS.z) rfl rfl rfl dL_law_985 (Nat.le_of_ble_eq_true rfl) (Nat.le_of_ble_eq_true rfl) (Nat.le_of_ble_eq_true rfl) (by show _ ≤ 600172; omega) (by show _ ≤ 7300668; omega) (ofS ?_)
  refine g_istore C dL_law_988 (by decide) ?_
  have mvk : ∀ (h1 : AH) (w1 : Sv) (w19 : Option Value), RepC Y x v (stGo g to) (ZS w1 g.n) h1 → RepS Y z w1 (stGo g to) h1 → TmO (stGo g to) w1.tm w1.clk → w1.clk ≤ w.clk + 60 + to → Gd p l e room_1 s m args below meth c Q Y 20 1069 [some (.ref Y.sb), some (.ref x), some (.ref z), some (.int (nI ti)), some (.int xi), some (.long dg), none, some (.int (nI g.n)), some (.int (nI g.np)), w9, w10, w11, w12, w13, w14, w15, some (.int (nI (to))), some (.int y17), some (.int (nI (lc g.par g.now to))), w19] [] h1 k n := fun h1 w1 w19 a1 a2 a3 a4 => cont w1 h1 _ _ a1 a2 a3 (by omega)
  have dnl : ∀ (d cur : Nat) (L : Nat → Option Nat) (h1 : AH) (w1 : Sv) (w19 : Option Value), to - cur < d → cur ≤ to → Dn g to cur L → RepC Y x v (stGo g to) (ZS w1 g.n) h1 → RepS Y z w1 (stM g cur L) h1 → TmO (stM g cur L) w1.tm w1.clk → w1.clk ≤ w.clk + 60 + cur → Gd p l e room_1 s m args below meth c Q Y 20 1017 [some (.ref Y.sb), some (.ref x), some (.ref z), some (.int (nI ti)), some (.int xi), some (.long dg), none, some (.int (nI g.n)), some (.int (nI g.np)), w9, w10, w11, w12, w13, w14, w15, some (.int (nI (to))), some (.int y17), some (.int (nI (lc g.par g.now to))), w19] [] h1 k n := by
    intro d
    induction d with
    | zero => intro cur L h1 w1 w19 z1; omega
    | succ d ih =>
      intro cur L h1 w1 w19 hd hct D1 rC1 rS1 T1 hc1
      refine g_aload_n C dL_law_1017 rfl (by first | rfl | exact isR_rf _) ?_
      refine gf_L_41 C ((show h1 z = some (.inr (4, [.ref w1.sr, .ref w1.er, .int (nI (cur)), .int (nI w1.clk)])) from rS1.z)) rfl dL_law_1018 ?_
      refine g_iload C dL_law_1021 rfl ?_
      refine g_icmp_eqN C (tgt := 1069) dL_law_1023 (by decide) (by omega) (by omega) (fun q1 => ?_) (fun q1 => ?_)
      · subst q1
        have hL := dn_e hT D1
        rw [hL] at rS1 T1
        exact mvk h1 w1 w19 rC1 rS1 T1 (by omega)
      · have hcn : cur < g.n := by omega
        have inl : ∀ (d2 a : Nat), a < d2 → an g.par a to = true → an g.par cur a = true → a ≠ cur → Gd p l e room_1 s m args below meth c Q Y 20 1030 [some (.ref Y.sb), some (.ref x), some (.ref z), some (.int (nI ti)), some (.int xi), some (.long dg), none, some (.int (nI g.n)), some (.int (nI g.np)), w9, w10, w11, w12, w13, w14, w15, some (.int (nI (to))), some (.int y17), some (.int (nI (lc g.par g.now to))), (some (.int (nI a)))] [] h1 k n := by
          intro d2
          induction d2 with
          | zero => intro a z1; omega
          | succ d2 ih2 =>
            intro a hd2 ha1 ha2 ha3
            obtain ⟨hx, h0⟩ := dn_x hT D1.1 (fun e => q1 e.symm) ha1 ha2 ha3
            have hal := an_le hT ha1
            have han : a < g.n := by omega
            have hpn := iv.par han
            refine g_aload_n C dL_law_1030 rfl (by first | rfl | exact isR_rf _) ?_
            refine gf_L_9 C (rS1.z) rfl dL_law_1031 ?_
            refine g_iload C dL_law_1034 rfl ?_
            refine g_aald C (show h1 w1.er = some (aA Y g.n w1.fe) from rS1.er) rfl (show a < g.n from han) (by omega) dL_law_1036 ?_
            obtain ⟨ef, f, hf, f0, -⟩ := rS1.ev (show a < (stM g cur L).n from han)
            rw [ef]
            refine g_iconst C (v := nI 0) dL_law_1037 (by decide) ?_
            refine g_iald C hf rfl (show 0 < 4 by decide) (by decide) dL_law_1038 ?_
            rw [f0, parO_p h0]
            show Gd p l e room_1 s m args below meth c Q Y 20 1039 [some (.ref Y.sb), some (.ref x), some (.ref z), some (.int (nI ti)), some (.int xi), some (.long dg), none, some (.int (nI g.n)), some (.int (nI g.np)), w9, w10, w11, w12, w13, w14, w15, some (.int (nI (to))), some (.int y17), some (.int (nI (lc g.par g.now to))), (some (.int (nI a)))] [.int (nI (g.par a))] h1 k n
            refine g_aload_n C dL_law_1039 rfl (by first | rfl | exact isR_rf _) ?_
            refine gf_L_41 C ((show h1 z = some (.inr (4, [.ref w1.sr, .ref w1.er, .int (nI (cur)), .int (nI w1.clk)])) from rS1.z)) rfl dL_law_1040 ?_
            refine g_icmp_eqN C (tgt := 1060) dL_law_1043 (by decide) (by omega) (by omega) (fun q2 => ?_) (fun q2 => ?_)
            · have hpa : g.par a = cur := q2
              refine g_aload_n C dL_law_1060 rfl (by first | rfl | exact isR_rf _) ?_
              refine g_iload C dL_law_1061 rfl ?_
              refine g_callV C ((K_X3_be l Y rS1 (e0 := a) han hn60).K) ok_X3_be w487 (rS1.z) rfl rfl rfl dL_law_1063 (Nat.le_of_ble_eq_true rfl) (Nat.le_of_ble_eq_true rfl) (Nat.le_of_ble_eq_true rfl) (by show _ ≤ 600172; omega) (by show _ ≤ 7300668; omega) (ofV (fun h2 e2 => ?_))
              obtain ⟨rS2, fr⟩ := e2
              have rC2 := rC1.frz rS1 fr
              have T2 := tmo_be T1 (e := a) han
              have D2 := dn_s hT D1 h0 ha1 hpa
              have eL : beL (stM g cur L) a = uO L (g.par a) (some a) := if_neg (by omega)
              have hca : cur < a := by
                have := hT.2 a h0
                omega
              refine g_goto C (tgt := 1017) dL_law_1066 (by decide) ?_
              rw [eL] at T2
              exact ih a _ h2 (beV w1 a) _ (by omega) hal D2 rC2 (rS2 _) T2 (by show w1.clk + 1 ≤ _; omega)
            · obtain ⟨b1, b2, b3, b4⟩ := hx.resolve_left q2
              refine g_aload_n C dL_law_1046 rfl (by first | rfl | exact isR_rf _) ?_
              refine gf_L_9 C (rS1.z) rfl dL_law_1047 ?_
              refine g_iload C dL_law_1050 rfl ?_
              refine g_aald C (show h1 w1.er = some (aA Y g.n w1.fe) from rS1.er) rfl (show a < g.n from han) (by omega) dL_law_1052 ?_
              obtain ⟨ef, f, hf, f0, -⟩ := rS1.ev (show a < (stM g cur L).n from han)
              rw [ef]
              refine g_iconst C (v := nI 0) dL_law_1053 (by decide) ?_
              refine g_iald C hf rfl (show 0 < 4 by decide) (by decide) dL_law_1054 ?_
              rw [f0, parO_p h0]
              refine g_istore C dL_law_1055 (by decide) ?_
              refine g_goto C (tgt := 1030) dL_law_1057 (by decide) ?_
              exact ih2 (g.par a) (by omega) b1 b2 b3
        refine g_iload C dL_law_1026 rfl ?_
        refine g_istore C dL_law_1028 (by decide) ?_
        exact inl (to + 1) to (Nat.lt_succ_self _) (an_rf _ _) D1.1 (fun e => q1 e.symm)
  have upl : ∀ (d cur : Nat) (h1 : AH) (w1 : Sv), cur < d → an g.par (lc g.par g.now to) cur = true → an g.par cur g.now = true → RepC Y x v (stGo g to) (ZS w1 g.n) h1 → RepS Y z w1 (stNow g cur) h1 → TmO (stNow g cur) w1.tm w1.clk → w1.clk + cur ≤ w.clk + g.now → Gd p l e room_1 s m args below meth c Q Y 20 990 [some (.ref Y.sb), some (.ref x), some (.ref z), some (.int (nI ti)), some (.int xi), some (.long dg), none, some (.int (nI g.n)), some (.int (nI g.np)), w9, w10, w11, w12, w13, w14, w15, some (.int (nI (to))), some (.int y17), some (.int (nI (lc g.par g.now to))), w19] [] h1 k n := by
    intro d
    induction d with
    | zero => intro cur h1 w1 z1; omega
    | succ d ih =>
      intro cur h1 w1 hd hl ha rC1 rS1 T1 hc1
      have hcl := an_le hT hl
      have hcn := an_le hT ha
      refine g_aload_n C dL_law_990 rfl (by first | rfl | exact isR_rf _) ?_
      refine gf_L_41 C ((show h1 z = some (.inr (4, [.ref w1.sr, .ref w1.er, .int (nI (cur)), .int (nI w1.clk)])) from rS1.z)) rfl dL_law_991 ?_
      refine g_iload C dL_law_994 rfl ?_
      refine g_icmp_eqN C (tgt := 1017) dL_law_996 (by decide) (by omega) (by omega) (fun q1 => ?_) (fun q1 => ?_)
      · have e1 : cur = lc g.par g.now to := q1
        have D0 := dn_0 iv to
        rw [← e1] at D0
        have hto := an_le hT D0.1
        exact dnl (to + 1) cur g.last h1 w1 _ (by omega) hto D0 rC1 rS1 T1 (by omega)
      · have q1' : lc g.par g.now to ≠ cur := fun e => q1 e.symm
        have h0 : 0 < cur := by omega
        have hp := hT.2 cur h0
        have hpn := iv.par (show cur < g.n by omega)
        have hcl2 := an_ne hT hl q1'
        refine g_aload_n C dL_law_999 rfl (by first | rfl | exact isR_rf _) ?_
        refine g_aload_n C dL_law_1000 rfl (by first | rfl | exact isR_rf _) ?_
        refine gf_L_9 C ((show h1 z = some (.inr (4, [.ref w1.sr, .ref w1.er, .int (nI (cur)), .int (nI w1.clk)])) from rS1.z)) rfl dL_law_1001 ?_
        refine g_aload_n C dL_law_1004 rfl (by first | rfl | exact isR_rf _) ?_
        refine gf_L_41 C ((show h1 z = some (.inr (4, [.ref w1.sr, .ref w1.er, .int (nI (cur)), .int (nI w1.clk)])) from rS1.z)) rfl dL_law_1005 ?_
        refine g_aald C (show h1 w1.er = some (aA Y g.n w1.fe) from rS1.er) rfl (show cur < g.n by omega) (by omega) dL_law_1008 ?_
        obtain ⟨ef, f, hf, f0, -⟩ := rS1.ev (show cur < (stNow g cur).n from (by show cur < g.n; omega))
        rw [ef]
        refine g_iconst C (v := nI 0) dL_law_1009 (by decide) ?_
        refine g_iald C hf rfl (show 0 < 4 by decide) (by decide) dL_law_1010 ?_
        rw [f0, parO_p h0]
        show Gd p l e room_1 s m args below meth c Q Y 20 1011 [some (.ref Y.sb), some (.ref x), some (.ref z), some (.int (nI ti)), some (.int xi), some (.long dg), none, some (.int (nI g.n)), some (.int (nI g.np)), w9, w10, w11, w12, w13, w14, w15, some (.int (nI (to))), some (.int y17), some (.int (nI (lc g.par g.now to))), w19] [.int (nI (g.par cur)), .ref z] h1 k n
        refine g_callV C ((K_X3_be l Y rS1 (e0 := g.par cur) hpn hn60).K) ok_X3_be w487 (rS1.z) rfl rfl rfl dL_law_1011 (Nat.le_of_ble_eq_true rfl) (Nat.le_of_ble_eq_true rfl) (Nat.le_of_ble_eq_true rfl) (by show _ ≤ 600172; omega) (by show _ ≤ 7300668; omega) (ofV (fun h2 e2 => ?_))
        obtain ⟨rS2, fr⟩ := e2
        have rC2 := rC1.frz rS1 fr
        have T2 := tmo_st T1 (e := g.par cur) hpn (fun y => (inv_up iv ha).path y (an_par hT _))
        refine g_goto C (tgt := 990) dL_law_1014 (by decide) ?_
        exact ih (g.par cur) h2 (beV w1 (g.par cur)) (by omega) hcl2 (an_tr hT (an_par hT cur) ha) rC2 (rS2 g.last) T2 (by show w1.clk + 1 + g.par cur ≤ _; omega)
  exact upl (g.now + 1) g.now h w (Nat.lt_succ_self _) (lc_an hT g.now to).1 (an_rf _ _) rC rS T (Nat.le_refl _)
set_option maxRecDepth 100000 in
set_option maxHeartbeats 4000000 in
theorem law_times {l : Launch} {Y : YG} {p : Program} {e : Env} {s : State} {m : MethodId} {args : Array Value} {below : List Frame} {meth : Method} {c : Code} {Q : State → Prop} (C : Cx p s m args meth c Y cL_law 20 RL) (hfl : l.stackTraces = false) {x z : Nat} (hsL : Y.sL ≤ 260) (endk : ∀ (g : Sg) (h : AH) (k n : Nat) (w4 w5 w6 w7 w8 w9 w10 w11 w12 w13 w14 w15 w16 w17 w18 w19 : Option Value), LwS Y x z g 12000 h → k ≤ 80000 → n ≤ 600000 → Gd p l e room_1 s m args below meth c Q Y 20 1075 [some (.ref Y.sb), some (.ref x), some (.ref z), some (.int (nI (6))), w4, w5, w6, w7, w8, w9, w10, w11, w12, w13, w14, w15, w16, w17, w18, w19] [] h k n) : ∀ (d ti : Nat) (g : Sg) (h : AH) (k n : Nat) (w4 w5 w6 w7 w8 w9 w10 w11 w12 w13 w14 w15 w16 w17 w18 w19 : Option Value), ti ≤ 6 → 6 - ti < d → LwS Y x z g (6000 + 700 * ti) h → k ≤ 1000 + 13000 * ti → n ≤ 30000 + 80000 * ti → Gd p l e room_1 s m args below meth c Q Y 20 22 [some (.ref Y.sb), some (.ref x), some (.ref z), some (.int (nI (ti))), w4, w5, w6, w7, w8, w9, w10, w11, w12, w13, w14, w15, w16, w17, w18, w19] [] h k n := by
  intro d
  induction d with
  | zero => intro ti g h k n w4 w5 w6 w7 w8 w9 w10 w11 w12 w13 w14 w15 w16 w17 w18 w19 z1 z2; omega
  | succ d ih =>
    intro ti g h k n w4 w5 w6 w7 w8 w9 w10 w11 w12 w13 w14 w15 w16 w17 w18 w19 hti hd I hk hn
    refine g_iload_n C dL_law_22 rfl ?_
    refine g_bipush C (v := nI 6) dL_law_23 (by decide) ?_
    refine g_icmp_geN C (tgt := 1075) dL_law_25 (by decide) (by omega) (by omega) (fun q1 => ?_) (fun q1 => ?_)
    · have : ti = 6 := by omega
      subst this
      obtain ⟨a1, a2, v1, w1, a3, a4, a5, a6⟩ := I
      exact endk g h k n _ _ _ _ _ _ _ _ _ _ _ _ _ _ _ _ ⟨a1, a2, v1, w1, a3, a4, a5, by omega⟩ (by omega) (by omega)
    · skip
      refine g_aload_n C dL_law_28 rfl rfl ?_
      refine g_iload_n C dL_law_29 rfl ?_
      refine g_iconst C (v := nI 1) dL_law_30 (by decide) ?_
      refine g_iaddN C dL_law_31 ?_
      refine g_callS C ((K_L_cell l Y (k := ti + 1) (by omega) hsL).K) ok_L_cell w582 rfl rfl dL_law_32 (Nat.le_of_ble_eq_true rfl) (Nat.le_of_ble_eq_true rfl) (Nat.le_of_ble_eq_true rfl) (by show _ ≤ 600172; omega) (by show _ ≤ 7300668; omega) (fun vv h9 e9 => ?_)
      obtain ⟨u0, rfl, eh9⟩ := e9
      have eh9 := eh9.symm
      subst eh9
      refine g_iconst C (v := nI 2) dL_law_35 (by decide) ?_
      refine g_ishr C dL_law_36 ?_
      refine g_bipush C (v := nI 53) dL_law_37 (by decide) ?_
      refine g_iload_n C dL_law_39 rfl ?_
      refine g_imulN C dL_law_40 ?_
      refine g_iadd C dL_law_41 ?_
      refine g_istore C dL_law_42 (by decide) ?_
      refine g_iconst C (v := nI 0) dL_law_44 (by decide) ?_
      refine g_istore C dL_law_45 (by decide) ?_
      generalize u0 >>> (nI 2 &&& 31) + nI (53 * ti) = xi
      have la : ∀ (d2 i : Nat) (g : Sg) (h : AH) (k2 n2 : Nat), i ≤ 4 → 4 - i < d2 → LwS Y x z g (6000 + 700 * ti + 130 * i) h → k2 ≤ k + 12 * i → n2 ≤ n + 400 * i → Gd p l e room_1 s m args below meth c Q Y 20 47 [some (.ref Y.sb), some (.ref x), some (.ref z), some (.int (nI (ti))), some (.int xi), some (.int (nI (i))), w6, w7, w8, w9, w10, w11, w12, w13, w14, w15, w16, w17, w18, w19] [] h k2 n2 := by
        intro d2
        induction d2 with
        | zero => intro i g h k2 n2 z1 z2; omega
        | succ d2 ih2 =>
          intro i g h k2 n2 hi hd2 I2 hk2 hn2
          refine g_iload C dL_law_47 rfl ?_
          refine g_iconst C (v := nI 4) dL_law_49 (by decide) ?_
          refine g_icmp_geN C (tgt := 82) dL_law_50 (by decide) (by omega) (by omega) (fun q2 => ?_) (fun q2 => ?_)
          · obtain ⟨iv, P, v, w, rC, rS, T, hck⟩ := I2
            have hn60 := iv.n60
            have hnp16 := iv.np
            have hnow := iv.now
            have hn1 := iv.n1
            have hT := iv.tr
            refine g_aload_n C dL_law_82 rfl (by first | rfl | exact isR_rf _) ?_
            refine g_callV C ((K_X2_digest l Y rC iv).K) ok_X2_digest w445 (rC.x) rfl rfl rfl dL_law_83 (Nat.le_of_ble_eq_true rfl) (Nat.le_of_ble_eq_true rfl) (Nat.le_of_ble_eq_true rfl) (by show _ ≤ 600172; omega) (by show _ ≤ 7300668; omega) (ofS ?_)
            refine g_lstore C dL_law_86 (by decide) ?_
            refine g_aload_n C dL_law_88 rfl (by first | rfl | exact isR_rf _) ?_
            refine g_callV C ((K_X2_evenings l Y rC iv).K) ok_X2_evenings w351 (rC.x) rfl rfl rfl dL_law_89 (Nat.le_of_ble_eq_true rfl) (Nat.le_of_ble_eq_true rfl) (Nat.le_of_ble_eq_true rfl) (by show _ ≤ 600172; omega) (by show _ ≤ 7300668; omega) (ofS ?_)
            refine g_istore C dL_law_92 (by decide) ?_
            refine g_aload_n C dL_law_94 rfl (by first | rfl | exact isR_rf _) ?_
            refine g_callV C ((K_X2_pieces l Y rC iv).K) ok_X2_pieces w355 (rC.x) rfl rfl rfl dL_law_95 (Nat.le_of_ble_eq_true rfl) (Nat.le_of_ble_eq_true rfl) (Nat.le_of_ble_eq_true rfl) (by show _ ≤ 600172; omega) (by show _ ≤ 7300668; omega) (ofS ?_)
            refine g_istore C dL_law_98 (by decide) ?_
            refine g_iconst C (v := nI 0) dL_law_100 (by decide) ?_
            refine g_istore C dL_law_101 (by decide) ?_
            refine g_iconst C (v := nI 0) dL_law_103 (by decide) ?_
            refine g_istore C dL_law_104 (by decide) ?_
            refine g_iconst C (v := nI 0) dL_law_106 (by decide) ?_
            refine g_istore C dL_law_107 (by decide) ?_
            refine law_eloop C hfl iv P rC (by omega) (by omega) (fun h2 w12 w13 w14 w15 w16 w17 w18 w19 k3 n3 hx hk3 hn3 => ?_)
            refine law_f1 C hfl iv P (rC.ext hx) (rS.ext hx) rfl (by omega) (by omega) (fun y9 y10 w11 k4 n4 hk4 hn4 => ?_)
            refine law_f2 C hfl iv P (rC.ext hx) (rS.ext hx) rfl (by omega) (by omega) (fun a b k5 n5 ha hb hk5 hn5 => ?_)
            refine law_f3 C hfl iv P (rC.ext hx) (rS.ext hx) rfl ha hb (by omega) (by omega) (fun w14 k6 n6 hk6 hn6 => ?_)
            refine law_f4 C hfl iv P (rC.ext hx) (rS.ext hx) rfl (by omega) (by omega) (fun v7 h7 y15 w16 k7 n7 rC7 rS7 hk7 hn7 => ?_) _ _
            refine law_f5 C hfl iv P rC7 rS7 rfl (by omega) (by omega) (fun to v8 h8 y17 w18 k8 n8 hto rC8 rS8 hk8 hn8 => ?_)
            refine law_f6 C hfl iv hto rC8 rS8 T (by omega) (by omega) (fun w1 h9 w18 w19 rC9 rS9 T9 hc9 => ?_)
            refine g_iincN C dL_law_1069 rfl (by decide) ?_
            refine g_goto C (tgt := 22) dL_law_1072 (by decide) ?_
            exact ih (ti + 1) (stGo g to) h9 _ _ _ _ _ _ _ _ _ _ _ _ _ _ _ _ _ _ (by omega) (by omega) ⟨inv_go iv hto, pld_M P _ _, v8, w1, rC9, rS9, T9, by omega⟩ (by omega) (by omega)
          · skip
            refine g_aload_n C dL_law_53 rfl rfl ?_
            refine g_aload_n C dL_law_54 rfl rfl ?_
            refine g_iload C dL_law_55 rfl ?_
            refine g_iconst C (v := nI 3) dL_law_57 (by decide) ?_
            refine g_iload C dL_law_58 rfl ?_
            refine g_imulN C dL_law_60 ?_
            refine g_ishr C dL_law_61 ?_
            refine g_bipush C (v := nI 29) dL_law_62 (by decide) ?_
            refine g_iload C dL_law_64 rfl ?_
            refine g_imulN C dL_law_66 ?_
            refine g_iadd C dL_law_67 ?_
            refine g_callSW C (na := 3) (W_act l Y hfl I2 (by omega) _) w587 w0 w588 (by exact ⟨by decide, by decide, by decide +kernel⟩) w586 rfl rfl dL_law_68 (Nat.le_of_ble_eq_true rfl) (Nat.le_of_ble_eq_true rfl) (Nat.le_of_ble_eq_true rfl) (by show _ ≤ 600172; omega) (by show _ ≤ 7300668; omega) (fun vv h2 e2 => ?_)
            obtain ⟨rfl, g2, I3⟩ := e2
            refine g_if_ne C (tgt := 76) dL_law_71 (by decide) (fun q => ?_) (fun q => absurd q (by decide))
            refine g_iincN C dL_law_76 rfl (by decide) ?_
            refine g_goto C (tgt := 47) dL_law_79 (by decide) ?_
            exact ih2 (i + 1) g2 h2 _ _ (by omega) (by omega) (by rw [show 6000 + 700 * ti + 130 * (i + 1) = 6000 + 700 * ti + 130 * i + 130 by omega]; exact I3) (by omega) (by omega)
      exact la 5 0 g h _ _ (by omega) (by omega) I (by omega) (by omega)
