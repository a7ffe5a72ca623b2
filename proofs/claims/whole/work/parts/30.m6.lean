set_option maxRecDepth 100000 in
set_option maxHeartbeats 4000000 in
theorem K_X3_undo (l : Launch) (Y : YG) {x : Nat} {th : Int32} {ar : Nat → Nat} {f : Nat → Nat → Int32} {g : Sg} {h : AH} (r : RepM Y x th ar f g h) (iv : Inv g) (m0 : Int32) : MX l Y yX3_undo cX3_undo 3 (some .int) 1 22 0 0 [.ref x, .int m0] h (pMu Y x ar h (rUndo g m0)) (noX) := by
  have hn60 := iv.n60
  have hnp16 := iv.np
  have hnow := iv.now
  have hn1 := iv.n1
  refine MX.of (by decide +kernel) (Nat.le_of_ble_eq_true rfl) ?_
  intro p e s m args0 below meth c C hr hout hnm
  refine g_aload_n C dX3_undo_0 rfl (by first | rfl | exact isR_rf _) ?_
  refine g_iconst C (v := nI 0) dX3_undo_1 (by decide) ?_
  refine pf_X3_35 C (r.x) (Nat.le_of_ble_eq_true rfl) dX3_undo_2 ?_
  have r1 := r.th (nI 0)
  refine g_iload_n C dX3_undo_5 rfl ?_
  refine g_iconst C (v := nI 1) dX3_undo_6 (by decide) ?_
  refine g_bipush C (v := nI 60) dX3_undo_7 (by decide) ?_
  refine g_callS C ((K_X3_isIn l Y _ _ _).K) ok_X3_isIn w715 rfl rfl dX3_undo_9 (Nat.le_of_ble_eq_true rfl) (Nat.le_of_ble_eq_true rfl) (Nat.le_of_ble_eq_true rfl) (Nat.le_of_ble_eq_true rfl) (Nat.le_of_ble_eq_true rfl) (ofS ?_)
  rw [inB_many]
  refine g_if_neB C (tgt := 21) dX3_undo_12 (by decide) (fun q1 => ?_) (fun q1 => ?_)
  · have hmm := of_decide_eq_true q1
    obtain ⟨mm, hm, h1, h60⟩ := many_N hmm
    subst hm
    have hD := iv.dp60 hnow
    have eR : rUndo g (nI mm) = if mm ≤ g.dp g.now then (nI 0, nI (upN g.par mm g.now), stNow g (upN g.par mm g.now)) else (nI 2, nI 0, g) := by
      unfold rUndo
      rw [if_pos hmm, nI_clamp (by omega)]
    have lp : mm ≤ g.dp g.now → ∀ (d i : Nat), i ≤ mm → mm - i < d → Gd p l e (rmO 1 22 0 0) s m args0 below meth c (vx_MQ below (Qk Y (pMu Y x ar h (rUndo g (nI mm)))) (Xk Y (noX)) args0 s 0 0 Y.A) Y 3 42 [some (.ref x), some (.int (nI mm)), some (.int (nI i))] [] (hup h x (mC (stNow g (upN g.par i g.now)) ar (nI 0))) 0 0 := by
      intro hmd d
      induction d with
      | zero => intro i h1 h2; omega
      | succ d ih =>
        intro i hi hd
        have hul := up_le iv.tr i g.now
        have hu : upN g.par i g.now < g.n := by omega
        have hud := up_dp iv.dp i g.now (by omega)
        have rr : RepM Y x (nI 0) ar f (stNow g (upN g.par i g.now)) (hup h x (mC (stNow g (upN g.par i g.now)) ar (nI 0))) := ⟨hup_eq, r.2.1.up r.xs _, r.rw⟩
        refine g_iload_n C dX3_undo_42 rfl ?_
        refine g_iload_n C dX3_undo_43 rfl ?_
        refine g_icmp_geN C (tgt := 66) dX3_undo_44 (by decide) (by omega) (by omega) (fun q2 => ?_) (fun q2 => ?_)
        · have : i = mm := by omega
          subst this
          rw [eR, if_pos hmd]
          refine g_aload_n C dX3_undo_66 rfl (by first | rfl | exact isR_rf _) ?_
          refine gf_X3_45 C (rr.x) rfl dX3_undo_67 ?_
          exact g_iret C hr dX3_undo_70 (Nat.le_of_ble_eq_true rfl) (Nat.le_of_ble_eq_true rfl) (⟨rfl, f, rr, FrM.x⟩)
        · have hp : 0 < upN g.par i g.now := by
            rcases Nat.eq_zero_or_pos (upN g.par i g.now) with z | z
            · rw [z, iv.dp.1] at hud; omega
            · exact z
          refine g_aload_n C dX3_undo_47 rfl (by first | rfl | exact isR_rf _) ?_
          refine g_aload_n C dX3_undo_48 rfl (by first | rfl | exact isR_rf _) ?_
          refine gf_X3_13 C (rr.x) rfl dX3_undo_49 ?_
          refine g_aload_n C dX3_undo_52 rfl (by first | rfl | exact isR_rf _) ?_
          refine gf_X3_45 C (rr.x) rfl dX3_undo_53 ?_
          refine g_iald C rr.a0 rfl (show upN g.par i g.now < 60 by omega) (by decide) dX3_undo_56 ?_
          rw [show f 0 (stNow g (upN g.par i g.now)).now = nI (g.par (upN g.par i g.now)) from (r.rw.on hu).trans (by rw [parO_pos hp]; rfl)]
          refine pf_X3_45 C (rr.x) (Nat.le_of_ble_eq_true rfl) dX3_undo_57 ?_
          rw [hup_hup]
          refine g_iincN C dX3_undo_60 rfl (by decide) ?_
          refine g_goto C (tgt := 42) dX3_undo_63 (by decide) ?_
          have := ih (i + 1) (by omega) (by omega)
          rw [up_s] at this
          exact this
    refine g_aload_n C dX3_undo_21 rfl (by first | rfl | exact isR_rf _) ?_
    refine gf_X3_23 C (r1.x) rfl dX3_undo_22 ?_
    refine g_aload_n C dX3_undo_25 rfl (by first | rfl | exact isR_rf _) ?_
    refine gf_X3_45 C (r1.x) rfl dX3_undo_26 ?_
    refine g_iald C r1.a3 rfl (show g.now < 60 by omega) (by decide) dX3_undo_29 ?_
    rw [r.rw.dp hnow]
    refine g_iload_n C dX3_undo_30 rfl ?_
    refine g_icmp_geN C (tgt := 40) dX3_undo_31 (by decide) (by omega) (by omega) (fun q2 => ?_) (fun q2 => ?_)
    · refine g_iconst C (v := nI 0) dX3_undo_40 (by decide) ?_
      refine g_istore_n C dX3_undo_41 (by decide) ?_
      exact lp q2 (mm + 1) 0 (Nat.zero_le _) (by omega)
    · rw [eR, if_neg (by omega)]
      refine g_aload_n C dX3_undo_34 rfl (by first | rfl | exact isR_rf _) ?_
      refine g_iconst C (v := nI 2) dX3_undo_35 (by decide) ?_
      refine g_callV C ((K_X3_no l Y r1 _).K) ok_X3_no w718 (r1.x) rfl rfl rfl dX3_undo_36 (Nat.le_of_ble_eq_true rfl) (Nat.le_of_ble_eq_true rfl) (Nat.le_of_ble_eq_true rfl) (Nat.le_of_ble_eq_true rfl) (Nat.le_of_ble_eq_true rfl) (ofS ?_)
      exact g_iret C hr dX3_undo_39 (Nat.le_of_ble_eq_true rfl) (Nat.le_of_ble_eq_true rfl) (pMu_no r rfl)
  · refine g_aload_n C dX3_undo_15 rfl (by first | rfl | exact isR_rf _) ?_
    refine g_iconst C (v := nI 1) dX3_undo_16 (by decide) ?_
    refine g_callV C ((K_X3_no l Y r1 _).K) ok_X3_no w718 (r1.x) rfl rfl rfl dX3_undo_17 (Nat.le_of_ble_eq_true rfl) (Nat.le_of_ble_eq_true rfl) (Nat.le_of_ble_eq_true rfl) (Nat.le_of_ble_eq_true rfl) (Nat.le_of_ble_eq_true rfl) (ofS ?_)
    exact g_iret C hr dX3_undo_20 (Nat.le_of_ble_eq_true rfl) (Nat.le_of_ble_eq_true rfl) (pMu_no r (by unfold rUndo; rw [if_neg (of_decide_eq_false q1)]))
set_option maxRecDepth 100000 in
set_option maxHeartbeats 4000000 in
theorem K_X3_redo (l : Launch) (Y : YG) {x : Nat} {th : Int32} {ar : Nat → Nat} {f : Nat → Nat → Int32} {g : Sg} {h : AH} (r : RepM Y x th ar f g h) (iv : Inv g) (m0 : Int32) : MX l Y yX3_redo cX3_redo 4 (some .int) 1 22 0 0 [.ref x, .int m0] h (pMu Y x ar h (rRedo g m0)) (noX) := by
  have hn60 := iv.n60
  have hnp16 := iv.np
  have hnow := iv.now
  have hn1 := iv.n1
  refine MX.of (by decide +kernel) (Nat.le_of_ble_eq_true rfl) ?_
  intro p e s m args0 below meth c C hr hout hnm
  refine g_aload_n C dX3_redo_0 rfl (by first | rfl | exact isR_rf _) ?_
  refine g_iconst C (v := nI 0) dX3_redo_1 (by decide) ?_
  refine pf_X3_35 C (r.x) (Nat.le_of_ble_eq_true rfl) dX3_redo_2 ?_
  have r1 := r.th (nI 0)
  refine g_iload_n C dX3_redo_5 rfl ?_
  refine g_iconst C (v := nI 1) dX3_redo_6 (by decide) ?_
  refine g_bipush C (v := nI 60) dX3_redo_7 (by decide) ?_
  refine g_callS C ((K_X3_isIn l Y _ _ _).K) ok_X3_isIn w715 rfl rfl dX3_redo_9 (Nat.le_of_ble_eq_true rfl) (Nat.le_of_ble_eq_true rfl) (Nat.le_of_ble_eq_true rfl) (Nat.le_of_ble_eq_true rfl) (Nat.le_of_ble_eq_true rfl) (ofS ?_)
  rw [inB_many]
  refine g_if_neB C (tgt := 21) dX3_redo_12 (by decide) (fun q1 => ?_) (fun q1 => ?_)
  · have hmm := of_decide_eq_true q1
    obtain ⟨mm, hm, h1, h60⟩ := many_N hmm
    subst hm
    have eR : rRedo g (nI mm) = match reF g.last mm g.now with
        | some a => (nI 0, nI a, stNow g a)
        | none => (nI 2, nI 0, g) := by
      unfold rRedo
      rw [if_pos hmm, nI_clamp (by omega)]
      cases reF g.last mm g.now <;> rfl
    have en51 : ∀ i, i ≤ mm → (∀ a, reF g.last i g.now = some a → i = mm) → Gd p l e (rmO 1 22 0 0) s m args0 below meth c (vx_MQ below (Qk Y (pMu Y x ar h (rRedo g (nI mm)))) (Xk Y (noX)) args0 s 0 0 Y.A) Y 4 51 [some (.ref x), some (.int (nI mm)), some (.int (nO (reF g.last i g.now))), some (.int (nI i))] [] (hup h x (mC g ar (nI 0))) 0 0 := by
      intro i hi hE
      cases hre : reF g.last i g.now with
      | none =>
        have hn := re_none hre hi
        rw [hn] at eR
        dsimp only at eR
        rw [eR]
        refine g_iload_n C dX3_redo_51 rfl ?_
        refine g_iconst C (v := -1) dX3_redo_52 (by decide) ?_
        refine g_icmp_ne C (tgt := 62) dX3_redo_53 (by decide) (fun q => absurd rfl q) (fun q => ?_)
        refine g_aload_n C dX3_redo_56 rfl (by first | rfl | exact isR_rf _) ?_
        refine g_iconst C (v := nI 2) dX3_redo_57 (by decide) ?_
        refine g_callV C ((K_X3_no l Y r1 _).K) ok_X3_no w718 (r1.x) rfl rfl rfl dX3_redo_58 (Nat.le_of_ble_eq_true rfl) (Nat.le_of_ble_eq_true rfl) (Nat.le_of_ble_eq_true rfl) (Nat.le_of_ble_eq_true rfl) (Nat.le_of_ble_eq_true rfl) (ofS ?_)
        exact g_iret C hr dX3_redo_61 (Nat.le_of_ble_eq_true rfl) (Nat.le_of_ble_eq_true rfl) (pMu_no r rfl)
      | some a =>
        have hie := hE a hre
        subst hie
        have ha : a < g.n := (re_inv iv i hre).now
        rw [hre] at eR
        dsimp only at eR
        rw [eR]
        refine g_iload_n C dX3_redo_51 rfl ?_
        refine g_iconst C (v := -1) dX3_redo_52 (by decide) ?_
        refine g_icmp_ne C (tgt := 62) dX3_redo_53 (by decide) (fun q => ?_) (fun q => absurd q (nI_m1 (by omega)))
        have rr : RepM Y x (nI 0) ar f (stNow g a) (hup (hup h x (mC g ar (nI 0))) x (mC (stNow g a) ar (nI 0))) := ⟨hup_eq, r1.2.1.up r1.xs _, r.rw⟩
        refine g_aload_n C dX3_redo_62 rfl (by first | rfl | exact isR_rf _) ?_
        refine g_iload_n C dX3_redo_63 rfl ?_
        refine pf_X3_45 C (r1.x) (Nat.le_of_ble_eq_true rfl) dX3_redo_64 ?_
        refine g_aload_n C dX3_redo_67 rfl (by first | rfl | exact isR_rf _) ?_
        refine gf_X3_45 C (rr.x) rfl dX3_redo_68 ?_
        exact g_iret C hr dX3_redo_71 (Nat.le_of_ble_eq_true rfl) (Nat.le_of_ble_eq_true rfl) (⟨rfl, f, rr, FrM.x.tr FrM.x⟩)
    have lp : ∀ (d i : Nat), i ≤ mm → mm - i < d → Gd p l e (rmO 1 22 0 0) s m args0 below meth c (vx_MQ below (Qk Y (pMu Y x ar h (rRedo g (nI mm)))) (Xk Y (noX)) args0 s 0 0 Y.A) Y 4 28 [some (.ref x), some (.int (nI mm)), some (.int (nO (reF g.last i g.now))), some (.int (nI i))] [] (hup h x (mC g ar (nI 0))) 0 0 := by
      intro d
      induction d with
      | zero => intro i h1 h2; omega
      | succ d ih =>
        intro i hi hd
        refine g_iload_n C dX3_redo_28 rfl ?_
        refine g_iload_n C dX3_redo_29 rfl ?_
        refine g_icmp_geN C (tgt := 51) dX3_redo_30 (by decide) (by omega) (by omega) (fun q2 => ?_) (fun q2 => ?_)
        · have : i = mm := by omega
          subst this
          exact en51 i (Nat.le_refl _) (fun _ _ => rfl)
        · cases hre : reF g.last i g.now with
          | none =>
            have e51 := en51 i hi (fun a ha => by rw [hre] at ha; cases ha)
            rw [hre] at e51
            refine g_iload_n C dX3_redo_33 rfl ?_
            refine g_iconst C (v := -1) dX3_redo_34 (by decide) ?_
            refine g_icmp_eq C (tgt := 51) dX3_redo_35 (by decide) (fun q => e51) (fun q => absurd rfl q)
          | some a =>
            have ha : a < g.n := (re_inv iv i hre).now
            refine g_iload_n C dX3_redo_33 rfl ?_
            refine g_iconst C (v := -1) dX3_redo_34 (by decide) ?_
            refine g_icmp_eq C (tgt := 51) dX3_redo_35 (by decide) (fun q => absurd q (nI_m1 (by omega))) (fun q => ?_)
            refine g_aload_n C dX3_redo_38 rfl rfl ?_
            refine gf_X3_26 C r1.x rfl dX3_redo_39 ?_
            refine g_iload_n C dX3_redo_42 rfl ?_
            refine g_iald C r1.a4 rfl (show a < 60 by omega) (by decide) dX3_redo_43 ?_
            rw [r.rw.ls ha]
            refine g_istore_n C dX3_redo_44 (by decide) ?_
            refine g_iincN C dX3_redo_45 rfl (by decide) ?_
            refine g_goto C (tgt := 28) dX3_redo_48 (by decide) ?_
            have := ih (i + 1) (by omega) (by omega)
            rw [re_s, hre] at this
            exact this
    refine g_aload_n C dX3_redo_21 rfl (by first | rfl | exact isR_rf _) ?_
    refine gf_X3_45 C (r1.x) rfl dX3_redo_22 ?_
    refine g_istore_n C dX3_redo_25 (by decide) ?_
    refine g_iconst C (v := nI 0) dX3_redo_26 (by decide) ?_
    refine g_istore_n C dX3_redo_27 (by decide) ?_
    exact lp (mm + 1) 0 (Nat.zero_le _) (by omega)
  · refine g_aload_n C dX3_redo_15 rfl (by first | rfl | exact isR_rf _) ?_
    refine g_iconst C (v := nI 1) dX3_redo_16 (by decide) ?_
    refine g_callV C ((K_X3_no l Y r1 _).K) ok_X3_no w718 (r1.x) rfl rfl rfl dX3_redo_17 (Nat.le_of_ble_eq_true rfl) (Nat.le_of_ble_eq_true rfl) (Nat.le_of_ble_eq_true rfl) (Nat.le_of_ble_eq_true rfl) (Nat.le_of_ble_eq_true rfl) (ofS ?_)
    exact g_iret C hr dX3_redo_20 (Nat.le_of_ble_eq_true rfl) (Nat.le_of_ble_eq_true rfl) (pMu_no r (by unfold rRedo; rw [if_neg (of_decide_eq_false q1)]))
theorem RwM.go {g : Sg} {f : Nat → Nat → Int32} (r : RwM g f) (a : Nat) {v : Nat → Int32} (hv : ∀ i, i < g.n → v i = nO (ptF g.par a a g.last i)) : RwM (stGo g a) (fU f 4 v) := ⟨r.1, r.2.1, r.2.2.1, r.2.2.2.1, hv, r.2.2.2.2.2.1, r.2.2.2.2.2.2⟩
set_option maxRecDepth 100000 in
set_option maxHeartbeats 4000000 in
theorem K_X3_goTo (l : Launch) (Y : YG) {x : Nat} {th : Int32} {ar : Nat → Nat} {f : Nat → Nat → Int32} {g : Sg} {h : AH} (r : RepM Y x th ar f g h) (iv : Inv g) (i : Int32) : MX l Y yX3_goTo cX3_goTo 5 (some .int) 2 46 0 0 [.ref x, .int i] h (pMu Y x ar h (rGo g i)) (noX) := by
  have hn60 := iv.n60
  have hnp16 := iv.np
  have hnow := iv.now
  have hn1 := iv.n1
  refine MX.of (by decide +kernel) (Nat.le_of_ble_eq_true rfl) ?_
  intro p e s m args0 below meth c C hr hout hnm
  refine g_aload_n C dX3_goTo_0 rfl (by first | rfl | exact isR_rf _) ?_
  refine g_iconst C (v := nI 0) dX3_goTo_1 (by decide) ?_
  refine pf_X3_35 C (r.x) (Nat.le_of_ble_eq_true rfl) dX3_goTo_2 ?_
  have r1 := r.th (nI 0)
  refine g_aload_n C dX3_goTo_5 rfl (by first | rfl | exact isR_rf _) ?_
  refine g_iload_n C dX3_goTo_6 rfl ?_
  refine g_callV C ((K_X3_isEvening l Y r1 iv _).K) ok_X3_isEvening w787 (r1.x) rfl rfl rfl dX3_goTo_7 (Nat.le_of_ble_eq_true rfl) (Nat.le_of_ble_eq_true rfl) (Nat.le_of_ble_eq_true rfl) (Nat.le_of_ble_eq_true rfl) (Nat.le_of_ble_eq_true rfl) (ofS ?_)
  refine g_if_neB C (tgt := 19) dX3_goTo_10 (by decide) (fun q1 => ?_) (fun q1 => ?_)
  · obtain ⟨j, hj, rfl, ej⟩ := idx_of (n := g.n) (by omega) q1
    have eR : rGo g (nI j) = (nI 0, nI (wy g g.now j), stGo g j) := by unfold rGo; rw [ej]
    rw [eR]
    have hT := iv.tr
    have hml := lc_le hT g.now j
    have hma := lc_an hT g.now j
    generalize hM : lc g.par g.now j = mm at hml hma
    have lp : ∀ (d c0 : Nat) (M : Nat → Option Nat) (v : Nat → Int32) (h2 : AH), c0 < d → c0 < g.n → an g.par mm c0 = true → (∀ q, q < mm → M q = g.last q) → ptF g.par c0 c0 M = ptF g.par j j g.last → (∀ q, q < g.n → v q = nO (M q)) → h2 x = some (mC g ar (nI 0)) → ArM Y ar (fU f 4 v) h2 → FrM x ar h h2 → Gd p l e (rmO 2 46 0 0) s m args0 below meth c (vx_MQ below (Qk Y (pMu Y x ar h (nI 0, nI (wy g g.now j), stGo g j))) (Xk Y (noX)) args0 s 0 0 Y.A) Y 5 42 [some (.ref x), some (.int (nI j)), some (.int (nI (wy g g.now j))), some (.int (nI mm)), some (.int (nI c0))] [] h2 0 0 := by
      intro d
      induction d with
      | zero => intro c0 M v h2 z; omega
      | succ d ih =>
        intro c0 M v h2 hd hc ha hlow hS hv hx hA hF
        refine g_iload C dX3_goTo_42 rfl ?_
        refine g_iload_n C dX3_goTo_44 rfl ?_
        refine g_icmp_eqN C (tgt := 74) dX3_goTo_45 (by decide) (by omega) (by omega) (fun q2 => ?_) (fun q2 => ?_)
        · subst q2
          have hid : ptF g.par c0 c0 M = M := ptF_id hT _ _ _ (fun c1 h0 hc1 => by
            have := an_le hT hc1
            have := hT.2 c1 h0
            rw [hlow _ (by omega)]
            exact iv.path h0 (an_tr hT hc1 hma.1))
          rw [hid] at hS
          have hv2 : ∀ q, q < g.n → v q = nO (ptF g.par j j g.last q) := fun q hq => by rw [← hS]; exact hv q hq
          refine g_aload_n C dX3_goTo_74 rfl (by first | rfl | exact isR_rf _) ?_
          refine g_iload_n C dX3_goTo_75 rfl ?_
          refine pf_X3_45 C (hx) (Nat.le_of_ble_eq_true rfl) dX3_goTo_76 ?_
          refine g_iload_n C dX3_goTo_79 rfl ?_
          exact g_iret C hr dX3_goTo_80 (Nat.le_of_ble_eq_true rfl) (Nat.le_of_ble_eq_true rfl) (⟨rfl, _, ⟨hup_eq, hA.up ⟨_, hx⟩ _, r.rw.go j hv2⟩, hF.tr FrM.x⟩)
        · have hle := an_le hT ha
          have hc0 : 0 < c0 := by omega
          have hp := hT.2 c0 hc0
          refine g_aload_n C dX3_goTo_48 rfl (by first | rfl | exact isR_rf _) ?_
          refine gf_X3_26 C (hx) rfl dX3_goTo_49 ?_
          refine g_aload_n C dX3_goTo_52 rfl (by first | rfl | exact isR_rf _) ?_
          refine gf_X3_13 C (hx) rfl dX3_goTo_53 ?_
          refine g_iload C dX3_goTo_56 rfl ?_
          refine g_iald C (hA.1 0 (by decide)) rfl (show c0 < 60 by omega) (by decide) dX3_goTo_58 ?_
          rw [show fU f 4 v 0 c0 = nI (g.par c0) from (r.rw.on hc).trans (by rw [parO_pos hc0]; rfl)]
          refine g_iload C dX3_goTo_59 rfl ?_
          refine g_iast C (hA.1 4 (by decide)) rfl (show g.par c0 < 60 by omega) (by decide) dX3_goTo_61 ?_
          have hx2 := RepM.st (Y := Y) (N := 60) (v := upd v (g.par c0) (nI c0)) hx (r.ne (k := 4) (by decide))
          have hA2 := hA.row (k := 4) (N := 60) (by decide) (upd v (g.par c0) (nI c0)) rfl
          refine g_aload_n C dX3_goTo_62 rfl (by first | rfl | exact isR_rf _) ?_
          refine gf_X3_13 C (hx2) rfl dX3_goTo_63 ?_
          refine g_iload C dX3_goTo_66 rfl ?_
          refine g_iald C (hA2.1 0 (by decide)) rfl (show c0 < 60 by omega) (by decide) dX3_goTo_68 ?_
          rw [show fU (fU f 4 v) 4 (upd v (g.par c0) (nI c0)) 0 c0 = nI (g.par c0) from (r.rw.on hc).trans (by rw [parO_pos hc0]; rfl)]
          refine g_istore C dX3_goTo_69 (by decide) ?_
          refine g_goto C (tgt := 42) dX3_goTo_71 (by decide) ?_
          have han := an_ne hT ha (fun z => q2 z.symm)
          have hmp := an_le hT han
          refine ih (g.par c0) (uO M (g.par c0) (some c0)) (upd v (g.par c0) (nI c0)) _ (by omega) (by omega) han (fun q hq => ?_) ?_ (fun q hq => ?_) hx2 ?_ (hF.tr (FrM.row (by decide)))
          · unfold uO
            rw [if_neg (by omega)]
            exact hlow q hq
          · rw [← hS]
            obtain ⟨c2, rfl⟩ : ∃ c2, c0 = c2 + 1 := ⟨c0 - 1, by omega⟩
            show _ = ptF g.par (c2 + 1) (c2 + 1) M
            simp only [ptF]
            rw [if_neg (by omega)]
            exact ptF_fuel hT _ _ _ _ (Nat.le_refl _) (by omega)
          · unfold upd uO
            by_cases hqp : q = g.par c0
            · rw [if_pos hqp, if_pos hqp]; rfl
            · rw [if_neg hqp, if_neg hqp]; exact hv q hq
          · have e : fU (fU f 4 v) 4 (upd v (g.par c0) (nI c0)) = fU f 4 (upd v (g.par c0) (nI c0)) := by
              funext k
              unfold fU
              by_cases hk : k = 4
              · rw [if_pos hk, if_pos hk]
              · rw [if_neg hk, if_neg hk, if_neg hk]
            rw [e] at hA2
            exact hA2
    refine g_aload_n C dX3_goTo_19 rfl (by first | rfl | exact isR_rf _) ?_
    refine g_aload_n C dX3_goTo_20 rfl (by first | rfl | exact isR_rf _) ?_
    refine gf_X3_45 C (r1.x) rfl dX3_goTo_21 ?_
    refine g_iload_n C dX3_goTo_24 rfl ?_
    refine g_callV C ((K_X3_way l Y r1 iv hnow hj).K) ok_X3_way w791 (r1.x) rfl rfl rfl dX3_goTo_25 (Nat.le_of_ble_eq_true rfl) (Nat.le_of_ble_eq_true rfl) (Nat.le_of_ble_eq_true rfl) (Nat.le_of_ble_eq_true rfl) (Nat.le_of_ble_eq_true rfl) (ofS ?_)
    refine g_istore_n C dX3_goTo_28 (by decide) ?_
    refine g_aload_n C dX3_goTo_29 rfl (by first | rfl | exact isR_rf _) ?_
    refine g_aload_n C dX3_goTo_30 rfl (by first | rfl | exact isR_rf _) ?_
    refine gf_X3_45 C (r1.x) rfl dX3_goTo_31 ?_
    refine g_iload_n C dX3_goTo_34 rfl ?_
    refine g_callV C ((K_X3_meeting l Y r1 iv hnow hj).K) ok_X3_meeting w795 (r1.x) rfl rfl rfl dX3_goTo_35 (Nat.le_of_ble_eq_true rfl) (Nat.le_of_ble_eq_true rfl) (Nat.le_of_ble_eq_true rfl) (Nat.le_of_ble_eq_true rfl) (Nat.le_of_ble_eq_true rfl) (ofS ?_)
    rw [hM]
    refine g_istore_n C dX3_goTo_38 (by decide) ?_
    refine g_iload_n C dX3_goTo_39 rfl ?_
    refine g_istore C dX3_goTo_40 (by decide) ?_
    have ef : fU f 4 (f 4) = f := by
      funext k
      unfold fU
      by_cases hk : k = 4
      · rw [if_pos hk, hk]
      · rw [if_neg hk]
    exact lp (j + 1) j g.last (f 4) _ (Nat.lt_succ_self _) hj hma.2 (fun _ _ => rfl) rfl (fun q hq => r.rw.ls hq) r1.x (by rw [ef]; exact r1.2.1) FrM.x
  · refine g_aload_n C dX3_goTo_13 rfl (by first | rfl | exact isR_rf _) ?_
    refine g_iconst C (v := nI 1) dX3_goTo_14 (by decide) ?_
    refine g_callV C ((K_X3_no l Y r1 _).K) ok_X3_no w718 (r1.x) rfl rfl rfl dX3_goTo_15 (Nat.le_of_ble_eq_true rfl) (Nat.le_of_ble_eq_true rfl) (Nat.le_of_ble_eq_true rfl) (Nat.le_of_ble_eq_true rfl) (Nat.le_of_ble_eq_true rfl) (ofS ?_)
    exact g_iret C hr dX3_goTo_18 (Nat.le_of_ble_eq_true rfl) (Nat.le_of_ble_eq_true rfl) (pMu_no r (by unfold rGo; rw [idx_f q1]))
def cdO (g : Sg) (k0 n0 : Int32) : Option Int32 := if ispB k0 n0 = true then some (if (pawO g k0 n0).isSome = true then 1 else 0) else none
def pCd (Y : YG) (x : Nat) (ar : Nat → Nat) (g : Sg) (h : AH) (o : Option Int32) : Option Value → AH → Prop := fun vv h2 => vv = some (.int (o.getD 0)) ∧ ∃ f2, RepM Y x (if o.isSome = true then nI 0 else nI 1) ar f2 g h2 ∧ FrM x ar h h2
set_option maxRecDepth 100000 in
set_option maxHeartbeats 4000000 in
theorem K_X3_canDo (l : Launch) (Y : YG) {x : Nat} {th : Int32} {ar : Nat → Nat} {f : Nat → Nat → Int32} {g : Sg} {h : AH} (r : RepM Y x th ar f g h) (iv : Inv g) (k0 n0 : Int32) : MX l Y yX3_canDo cX3_canDo 3 (some .boolean) 5 112 0 0 [.ref x, .int k0, .int n0] h (pCd Y x ar g h (cdO g k0 n0)) (noX) := by
  have hn60 := iv.n60
  have hnp16 := iv.np
  have hnow := iv.now
  have hn1 := iv.n1
  refine MX.of (by decide +kernel) (Nat.le_of_ble_eq_true rfl) ?_
  intro p e s m args0 below meth c C hr hout hnm
  refine g_aload_n C dX3_canDo_0 rfl (by first | rfl | exact isR_rf _) ?_
  refine g_iconst C (v := nI 0) dX3_canDo_1 (by decide) ?_
  refine pf_X3_35 C (r.x) (Nat.le_of_ble_eq_true rfl) dX3_canDo_2 ?_
  have r1 := r.th (nI 0)
  refine g_iload_n C dX3_canDo_5 rfl ?_
  refine g_iload_n C dX3_canDo_6 rfl ?_
  refine g_callS C ((K_X3_isPaw l Y _ _).K) ok_X3_isPaw w738 rfl rfl dX3_canDo_7 (Nat.le_of_ble_eq_true rfl) (Nat.le_of_ble_eq_true rfl) (Nat.le_of_ble_eq_true rfl) (Nat.le_of_ble_eq_true rfl) (Nat.le_of_ble_eq_true rfl) (ofS ?_)
  refine g_if_eqB C (tgt := 22) dX3_canDo_10 (by decide) (fun q1 => ?_) (fun q1 => ?_)
  · refine g_aload_n C dX3_canDo_22 rfl (by first | rfl | exact isR_rf _) ?_
    refine g_iconst C (v := nI 1) dX3_canDo_23 (by decide) ?_
    refine g_callV C ((K_X3_isNot l Y r1 _).K) ok_X3_isNot w839 (r1.x) rfl rfl rfl dX3_canDo_24 (Nat.le_of_ble_eq_true rfl) (Nat.le_of_ble_eq_true rfl) (Nat.le_of_ble_eq_true rfl) (Nat.le_of_ble_eq_true rfl) (Nat.le_of_ble_eq_true rfl) (ofS ?_)
    have eo : cdO g k0 n0 = none := by unfold cdO; rw [if_neg (by rw [q1]; decide)]
    rw [eo]
    exact g_zret C hr (by exact Or.inl rfl) dX3_canDo_27 (Nat.le_of_ble_eq_true rfl) (Nat.le_of_ble_eq_true rfl) (⟨rfl, f, r1.th _, FrM.x.tr FrM.x⟩)
  · obtain ⟨k1, w1, hk4, hw16, hw8, rfl, rfl⟩ := isp_N q1
    refine g_aload_n C dX3_canDo_13 rfl (by first | rfl | exact isR_rf _) ?_
    refine g_iload_n C dX3_canDo_14 rfl ?_
    refine g_iload_n C dX3_canDo_15 rfl ?_
    refine g_callV C ((K_X3_does l Y r1 iv hk4 hw16 hw8).K) ok_X3_does w741 (r1.x) rfl rfl rfl dX3_canDo_16 (Nat.le_of_ble_eq_true rfl) (Nat.le_of_ble_eq_true rfl) (Nat.le_of_ble_eq_true rfl) (Nat.le_of_ble_eq_true rfl) (Nat.le_of_ble_eq_true rfl) (fun vv h2 e2 => ?_)
    obtain ⟨v6, rfl, rfl, hNx⟩ := e2
    have r2 := r1.nx v6
    have eo : cdO g (nI k1) (nI w1) = some (if (nxG g k1 w1).isSome = true then 1 else 0) := by unfold cdO; rw [if_pos q1, pawO_N g hk4 hw16]
    rw [eo]
    refine g_goto C (tgt := 27) dX3_canDo_19 (by decide) ?_
    exact g_zret C hr (by cases (nxG g k1 w1).isSome <;> first | exact Or.inl rfl | exact Or.inr rfl) dX3_canDo_27 (Nat.le_of_ble_eq_true rfl) (Nat.le_of_ble_eq_true rfl) (⟨rfl, _, r2, FrM.x.tr (FrM.row (by decide))⟩)
/-- the model's object and its rows, of which k are there -/
def IniM (Y : YG) (x : Nat) (h : AH) (ad : List Nat) (h2 : AH) : Prop := (∀ (k : Nat) (a : Nat), ad[k]? = some a → h2 a = some (aI Y (szM k) (fun _ => 0)) ∧ h a = none) ∧ (∀ (i j a : Nat), ad[i]? = some a → ad[j]? = some a → i = j) ∧ (∀ a e, a ≠ x → h a = some e → h2 a = some e) ∧ ∃ e, h x = some e
theorem IniM.step {Y : YG} {x : Nat} {h h2 : AH} {ad : List Nat} (r : IniM Y x h ad h2) {fs fs2 : List Value} (hx : h2 x = some (.inr (4, fs))) {q : Nat} (hq : h2 q = none) {N : Nat} (hN : N = szM ad.length) : IniM Y x h (ad ++ [q]) (hup (hup h2 q (aI Y N (fun _ => 0))) x (.inr (4, fs2))) := by
  subst hN
  obtain ⟨r1, r2, r3, e0, r4⟩ := r
  have hqx : q ≠ x := fun z => by rw [z, hx] at hq; cases hq
  have key : ∀ (k a : Nat), (ad ++ [q])[k]? = some a → (ad[k]? = some a ∧ k < ad.length) ∨ (k = ad.length ∧ a = q) := by
    intro k a hk
    rcases Nat.lt_or_ge k ad.length with z | z
    · rw [List.getElem?_append_left z] at hk
      exact Or.inl ⟨hk, z⟩
    · rw [List.getElem?_append_right z] at hk
      have : k - ad.length = 0 := by
        rcases Nat.eq_zero_or_pos (k - ad.length) with w | w
        · exact w
        · rw [List.getElem?_eq_none (by simp; omega)] at hk; cases hk
      rw [this] at hk
      cases hk
      exact Or.inr ⟨by omega, rfl⟩
  refine ⟨fun k a hk => ?_, fun i j a hi hj => ?_, fun a e ha he => ?_, e0, r4⟩
  · rcases key k a hk with ⟨z, -⟩ | ⟨z1, z2⟩
    · obtain ⟨w1, w2⟩ := r1 k a z
      have hax : a ≠ x := ne_of w1 hx (fun z => by cases z)
      exact ⟨(hup_ne hax).trans (hup_old hq w1), w2⟩
    · subst z1; subst z2
      refine ⟨(hup_ne hqx).trans hup_eq, ?_⟩
      cases hz : h a with
      | none => rfl
      | some w =>
        have := r3 a w hqx hz
        rw [hq] at this
        cases this
  · rcases key i a hi with ⟨z, -⟩ | ⟨z1, z2⟩
    · rcases key j a hj with ⟨w, -⟩ | ⟨w1, w2⟩
      · exact r2 i j a z w
      · subst w2
        have := (r1 i a z).1
        rw [hq] at this
        cases this
    · rcases key j a hj with ⟨w, -⟩ | ⟨w1, w2⟩
      · subst z2
        have := (r1 j a w).1
        rw [hq] at this
        cases this
      · omega
  · exact (hup_ne ha).trans (hup_old hq (r3 a e ha he))
set_option maxRecDepth 100000 in
set_option maxHeartbeats 4000000 in
theorem K_X3_init (l : Launch) (Y : YG) {x : Nat} {h : AH} (hx : h x = some (.inr (4, [.int 0, .int 0, .int 0, .int 0, .null, .null, .null, .null, .null, .null, .null]))) : MX l Y yX3_init cX3_init 1 none 1 20 7 1337 [.ref x] h (pV (fun h2 => ∃ ar f, RepM Y x (nI 0) ar f st0 h2 ∧ (∀ k, k < 7 → h (ar k) = none) ∧ ∀ a e, a ≠ x → h a = some e → h2 a = some e)) (noX) := by
  refine MX.of (by decide +kernel) (Nat.le_of_ble_eq_true rfl) ?_
  intro p e s m args0 below meth c C hr hout hnm
  refine g_aload_n C dX3_init_0 rfl (by first | rfl | exact isR_rf _) ?_
  refine g_objinit C w669 w27 w_oi dX3_init_1 (Nat.le_of_ble_eq_true rfl) (Nat.le_of_ble_eq_true rfl) ?_
  refine g_aload_n C dX3_init_4 rfl (by first | rfl | exact isR_rf _) ?_
  refine g_iconst C (v := nI 1) dX3_init_5 (by decide) ?_
  refine pf_X3_9 C (hx) (Nat.le_of_ble_eq_true rfl) dX3_init_6 ?_
  have I0 : IniM Y x h [] (hup h x (.inr (4, [.int 0, .int 0, .int (nI 1), .int 0, .null, .null, .null, .null, .null, .null, .null]))) := ⟨fun k a hk => (nomatch hk), fun i j a hi => (nomatch hi), fun a e ha he => (hup_ne ha).trans he, _, hx⟩
  have X0 := (hup_eq (h := h) (a := x) (e := .inr (4, [.int 0, .int 0, .int (nI 1), .int 0, .null, .null, .null, .null, .null, .null, .null])))
  refine g_aload_n C dX3_init_9 rfl (by first | rfl | exact isR_rf _) ?_
  refine g_bipush C (v := nI 60) dX3_init_10 (by decide) ?_
  refine g_newI C (N := 60) rfl (by omega) w49 (by show _ ≤ 7; omega) (by show _ ≤ 1337; omega) dX3_init_12 (fun a0 ha0 => ?_)
  refine pf_X3_13 C hnm (hup_old ha0 X0) (Nat.le_of_ble_eq_true rfl) (by first | rfl | exact isR_rf _) dX3_init_14 ?_
  have I1 := I0.step (fs2 := [.int 0, .int 0, .int (nI 1), .int 0, .ref a0, .null, .null, .null, .null, .null, .null]) X0 ha0 (N := 60) rfl
  have X1 := (hup_eq (h := hup (hup h x (.inr (4, [.int 0, .int 0, .int (nI 1), .int 0, .null, .null, .null, .null, .null, .null, .null]))) a0 (aI Y 60 (fun _ => 0))) (a := x) (e := .inr (4, [.int 0, .int 0, .int (nI 1), .int 0, .ref a0, .null, .null, .null, .null, .null, .null])))
  refine g_aload_n C dX3_init_17 rfl (by first | rfl | exact isR_rf _) ?_
  refine g_bipush C (v := nI 60) dX3_init_18 (by decide) ?_
  refine g_newI C (N := 60) rfl (by omega) w49 (by show _ ≤ 7; omega) (by show _ ≤ 1337; omega) dX3_init_20 (fun a1 ha1 => ?_)
  refine pf_X3_17 C hnm (hup_old ha1 X1) (Nat.le_of_ble_eq_true rfl) (by first | rfl | exact isR_rf _) dX3_init_22 ?_
  have I2 := I1.step (fs2 := [.int 0, .int 0, .int (nI 1), .int 0, .ref a0, .ref a1, .null, .null, .null, .null, .null]) X1 ha1 (N := 60) rfl
  have X2 := (hup_eq (h := hup (hup (hup (hup h x (.inr (4, [.int 0, .int 0, .int (nI 1), .int 0, .null, .null, .null, .null, .null, .null, .null]))) a0 (aI Y 60 (fun _ => 0))) x (.inr (4, [.int 0, .int 0, .int (nI 1), .int 0, .ref a0, .null, .null, .null, .null, .null, .null]))) a1 (aI Y 60 (fun _ => 0))) (a := x) (e := .inr (4, [.int 0, .int 0, .int (nI 1), .int 0, .ref a0, .ref a1, .null, .null, .null, .null, .null])))
  refine g_aload_n C dX3_init_25 rfl (by first | rfl | exact isR_rf _) ?_
  refine g_bipush C (v := nI 60) dX3_init_26 (by decide) ?_
  refine g_newI C (N := 60) rfl (by omega) w49 (by show _ ≤ 7; omega) (by show _ ≤ 1337; omega) dX3_init_28 (fun a2 ha2 => ?_)
  refine pf_X3_20 C hnm (hup_old ha2 X2) (Nat.le_of_ble_eq_true rfl) (by first | rfl | exact isR_rf _) dX3_init_30 ?_
  have I3 := I2.step (fs2 := [.int 0, .int 0, .int (nI 1), .int 0, .ref a0, .ref a1, .ref a2, .null, .null, .null, .null]) X2 ha2 (N := 60) rfl
  have X3 := (hup_eq (h := hup (hup (hup (hup (hup (hup h x (.inr (4, [.int 0, .int 0, .int (nI 1), .int 0, .null, .null, .null, .null, .null, .null, .null]))) a0 (aI Y 60 (fun _ => 0))) x (.inr (4, [.int 0, .int 0, .int (nI 1), .int 0, .ref a0, .null, .null, .null, .null, .null, .null]))) a1 (aI Y 60 (fun _ => 0))) x (.inr (4, [.int 0, .int 0, .int (nI 1), .int 0, .ref a0, .ref a1, .null, .null, .null, .null, .null]))) a2 (aI Y 60 (fun _ => 0))) (a := x) (e := .inr (4, [.int 0, .int 0, .int (nI 1), .int 0, .ref a0, .ref a1, .ref a2, .null, .null, .null, .null])))
  refine g_aload_n C dX3_init_33 rfl (by first | rfl | exact isR_rf _) ?_
  refine g_bipush C (v := nI 60) dX3_init_34 (by decide) ?_
  refine g_newI C (N := 60) rfl (by omega) w49 (by show _ ≤ 7; omega) (by show _ ≤ 1337; omega) dX3_init_36 (fun a3 ha3 => ?_)
  refine pf_X3_23 C hnm (hup_old ha3 X3) (Nat.le_of_ble_eq_true rfl) (by first | rfl | exact isR_rf _) dX3_init_38 ?_
  have I4 := I3.step (fs2 := [.int 0, .int 0, .int (nI 1), .int 0, .ref a0, .ref a1, .ref a2, .ref a3, .null, .null, .null]) X3 ha3 (N := 60) rfl
  have X4 := (hup_eq (h := hup (hup (hup (hup (hup (hup (hup (hup h x (.inr (4, [.int 0, .int 0, .int (nI 1), .int 0, .null, .null, .null, .null, .null, .null, .null]))) a0 (aI Y 60 (fun _ => 0))) x (.inr (4, [.int 0, .int 0, .int (nI 1), .int 0, .ref a0, .null, .null, .null, .null, .null, .null]))) a1 (aI Y 60 (fun _ => 0))) x (.inr (4, [.int 0, .int 0, .int (nI 1), .int 0, .ref a0, .ref a1, .null, .null, .null, .null, .null]))) a2 (aI Y 60 (fun _ => 0))) x (.inr (4, [.int 0, .int 0, .int (nI 1), .int 0, .ref a0, .ref a1, .ref a2, .null, .null, .null, .null]))) a3 (aI Y 60 (fun _ => 0))) (a := x) (e := .inr (4, [.int 0, .int 0, .int (nI 1), .int 0, .ref a0, .ref a1, .ref a2, .ref a3, .null, .null, .null])))
  refine g_aload_n C dX3_init_41 rfl (by first | rfl | exact isR_rf _) ?_
  refine g_bipush C (v := nI 60) dX3_init_42 (by decide) ?_
  refine g_newI C (N := 60) rfl (by omega) w49 (by show _ ≤ 7; omega) (by show _ ≤ 1337; omega) dX3_init_44 (fun a4 ha4 => ?_)
  refine pf_X3_26 C hnm (hup_old ha4 X4) (Nat.le_of_ble_eq_true rfl) (by first | rfl | exact isR_rf _) dX3_init_46 ?_
  have I5 := I4.step (fs2 := [.int 0, .int 0, .int (nI 1), .int 0, .ref a0, .ref a1, .ref a2, .ref a3, .ref a4, .null, .null]) X4 ha4 (N := 60) rfl
  have X5 := (hup_eq (h := hup (hup (hup (hup (hup (hup (hup (hup (hup (hup h x (.inr (4, [.int 0, .int 0, .int (nI 1), .int 0, .null, .null, .null, .null, .null, .null, .null]))) a0 (aI Y 60 (fun _ => 0))) x (.inr (4, [.int 0, .int 0, .int (nI 1), .int 0, .ref a0, .null, .null, .null, .null, .null, .null]))) a1 (aI Y 60 (fun _ => 0))) x (.inr (4, [.int 0, .int 0, .int (nI 1), .int 0, .ref a0, .ref a1, .null, .null, .null, .null, .null]))) a2 (aI Y 60 (fun _ => 0))) x (.inr (4, [.int 0, .int 0, .int (nI 1), .int 0, .ref a0, .ref a1, .ref a2, .null, .null, .null, .null]))) a3 (aI Y 60 (fun _ => 0))) x (.inr (4, [.int 0, .int 0, .int (nI 1), .int 0, .ref a0, .ref a1, .ref a2, .ref a3, .null, .null, .null]))) a4 (aI Y 60 (fun _ => 0))) (a := x) (e := .inr (4, [.int 0, .int 0, .int (nI 1), .int 0, .ref a0, .ref a1, .ref a2, .ref a3, .ref a4, .null, .null])))
  refine g_aload_n C dX3_init_49 rfl (by first | rfl | exact isR_rf _) ?_
  refine g_sipush C (v := nI 1020) dX3_init_50 (by decide) ?_
  refine g_newI C (N := 1020) rfl (by omega) w49 (by show _ ≤ 7; omega) (by show _ ≤ 1337; omega) dX3_init_53 (fun a5 ha5 => ?_)
  refine pf_X3_29 C hnm (hup_old ha5 X5) (Nat.le_of_ble_eq_true rfl) (by first | rfl | exact isR_rf _) dX3_init_55 ?_
  have I6 := I5.step (fs2 := [.int 0, .int 0, .int (nI 1), .int 0, .ref a0, .ref a1, .ref a2, .ref a3, .ref a4, .ref a5, .null]) X5 ha5 (N := 1020) rfl
  have X6 := (hup_eq (h := hup (hup (hup (hup (hup (hup (hup (hup (hup (hup (hup (hup h x (.inr (4, [.int 0, .int 0, .int (nI 1), .int 0, .null, .null, .null, .null, .null, .null, .null]))) a0 (aI Y 60 (fun _ => 0))) x (.inr (4, [.int 0, .int 0, .int (nI 1), .int 0, .ref a0, .null, .null, .null, .null, .null, .null]))) a1 (aI Y 60 (fun _ => 0))) x (.inr (4, [.int 0, .int 0, .int (nI 1), .int 0, .ref a0, .ref a1, .null, .null, .null, .null, .null]))) a2 (aI Y 60 (fun _ => 0))) x (.inr (4, [.int 0, .int 0, .int (nI 1), .int 0, .ref a0, .ref a1, .ref a2, .null, .null, .null, .null]))) a3 (aI Y 60 (fun _ => 0))) x (.inr (4, [.int 0, .int 0, .int (nI 1), .int 0, .ref a0, .ref a1, .ref a2, .ref a3, .null, .null, .null]))) a4 (aI Y 60 (fun _ => 0))) x (.inr (4, [.int 0, .int 0, .int (nI 1), .int 0, .ref a0, .ref a1, .ref a2, .ref a3, .ref a4, .null, .null]))) a5 (aI Y 1020 (fun _ => 0))) (a := x) (e := .inr (4, [.int 0, .int 0, .int (nI 1), .int 0, .ref a0, .ref a1, .ref a2, .ref a3, .ref a4, .ref a5, .null])))
  refine g_aload_n C dX3_init_58 rfl (by first | rfl | exact isR_rf _) ?_
  refine g_bipush C (v := nI 17) dX3_init_59 (by decide) ?_
  refine g_newI C (N := 17) rfl (by omega) w49 (by show _ ≤ 7; omega) (by show _ ≤ 1337; omega) dX3_init_61 (fun a6 ha6 => ?_)
  refine pf_X3_32 C hnm (hup_old ha6 X6) (Nat.le_of_ble_eq_true rfl) (by first | rfl | exact isR_rf _) dX3_init_63 ?_
  have I7 := I6.step (fs2 := [.int 0, .int 0, .int (nI 1), .int 0, .ref a0, .ref a1, .ref a2, .ref a3, .ref a4, .ref a5, .ref a6]) X6 ha6 (N := 17) rfl
  have X7 := (hup_eq (h := hup (hup (hup (hup (hup (hup (hup (hup (hup (hup (hup (hup (hup (hup h x (.inr (4, [.int 0, .int 0, .int (nI 1), .int 0, .null, .null, .null, .null, .null, .null, .null]))) a0 (aI Y 60 (fun _ => 0))) x (.inr (4, [.int 0, .int 0, .int (nI 1), .int 0, .ref a0, .null, .null, .null, .null, .null, .null]))) a1 (aI Y 60 (fun _ => 0))) x (.inr (4, [.int 0, .int 0, .int (nI 1), .int 0, .ref a0, .ref a1, .null, .null, .null, .null, .null]))) a2 (aI Y 60 (fun _ => 0))) x (.inr (4, [.int 0, .int 0, .int (nI 1), .int 0, .ref a0, .ref a1, .ref a2, .null, .null, .null, .null]))) a3 (aI Y 60 (fun _ => 0))) x (.inr (4, [.int 0, .int 0, .int (nI 1), .int 0, .ref a0, .ref a1, .ref a2, .ref a3, .null, .null, .null]))) a4 (aI Y 60 (fun _ => 0))) x (.inr (4, [.int 0, .int 0, .int (nI 1), .int 0, .ref a0, .ref a1, .ref a2, .ref a3, .ref a4, .null, .null]))) a5 (aI Y 1020 (fun _ => 0))) x (.inr (4, [.int 0, .int 0, .int (nI 1), .int 0, .ref a0, .ref a1, .ref a2, .ref a3, .ref a4, .ref a5, .null]))) a6 (aI Y 17 (fun _ => 0))) (a := x) (e := .inr (4, [.int 0, .int 0, .int (nI 1), .int 0, .ref a0, .ref a1, .ref a2, .ref a3, .ref a4, .ref a5, .ref a6])))
  show Gd p l e (rmO 1 20 7 1337) s m args0 below meth c (vx_MQ below (Qk Y (pV (fun h2 => ∃ ar f, RepM Y x (nI 0) ar f st0 h2 ∧ (∀ k, k < 7 → h (ar k) = none) ∧ ∀ a e, a ≠ x → h a = some e → h2 a = some e))) (Xk Y (noX)) args0 s 7 1337 Y.A) Y 1 66 [some (.ref x)] [] (hup (hup (hup (hup (hup (hup (hup (hup (hup (hup (hup (hup (hup (hup (hup h x (.inr (4, [.int 0, .int 0, .int (nI 1), .int 0, .null, .null, .null, .null, .null, .null, .null]))) a0 (aI Y 60 (fun _ => 0))) x (.inr (4, [.int 0, .int 0, .int (nI 1), .int 0, .ref a0, .null, .null, .null, .null, .null, .null]))) a1 (aI Y 60 (fun _ => 0))) x (.inr (4, [.int 0, .int 0, .int (nI 1), .int 0, .ref a0, .ref a1, .null, .null, .null, .null, .null]))) a2 (aI Y 60 (fun _ => 0))) x (.inr (4, [.int 0, .int 0, .int (nI 1), .int 0, .ref a0, .ref a1, .ref a2, .null, .null, .null, .null]))) a3 (aI Y 60 (fun _ => 0))) x (.inr (4, [.int 0, .int 0, .int (nI 1), .int 0, .ref a0, .ref a1, .ref a2, .ref a3, .null, .null, .null]))) a4 (aI Y 60 (fun _ => 0))) x (.inr (4, [.int 0, .int 0, .int (nI 1), .int 0, .ref a0, .ref a1, .ref a2, .ref a3, .ref a4, .null, .null]))) a5 (aI Y 1020 (fun _ => 0))) x (.inr (4, [.int 0, .int 0, .int (nI 1), .int 0, .ref a0, .ref a1, .ref a2, .ref a3, .ref a4, .ref a5, .null]))) a6 (aI Y 17 (fun _ => 0))) x (.inr (4, [.int 0, .int 0, .int (nI 1), .int 0, .ref a0, .ref a1, .ref a2, .ref a3, .ref a4, .ref a5, .ref a6]))) 7 1337
  have A7 : ArM Y (fun k => [a0, a1, a2, a3, a4, a5, a6].getD k 0) (fun _ _ => 0) (hup (hup (hup (hup (hup (hup (hup (hup (hup (hup (hup (hup (hup (hup (hup h x (.inr (4, [.int 0, .int 0, .int (nI 1), .int 0, .null, .null, .null, .null, .null, .null, .null]))) a0 (aI Y 60 (fun _ => 0))) x (.inr (4, [.int 0, .int 0, .int (nI 1), .int 0, .ref a0, .null, .null, .null, .null, .null, .null]))) a1 (aI Y 60 (fun _ => 0))) x (.inr (4, [.int 0, .int 0, .int (nI 1), .int 0, .ref a0, .ref a1, .null, .null, .null, .null, .null]))) a2 (aI Y 60 (fun _ => 0))) x (.inr (4, [.int 0, .int 0, .int (nI 1), .int 0, .ref a0, .ref a1, .ref a2, .null, .null, .null, .null]))) a3 (aI Y 60 (fun _ => 0))) x (.inr (4, [.int 0, .int 0, .int (nI 1), .int 0, .ref a0, .ref a1, .ref a2, .ref a3, .null, .null, .null]))) a4 (aI Y 60 (fun _ => 0))) x (.inr (4, [.int 0, .int 0, .int (nI 1), .int 0, .ref a0, .ref a1, .ref a2, .ref a3, .ref a4, .null, .null]))) a5 (aI Y 1020 (fun _ => 0))) x (.inr (4, [.int 0, .int 0, .int (nI 1), .int 0, .ref a0, .ref a1, .ref a2, .ref a3, .ref a4, .ref a5, .null]))) a6 (aI Y 17 (fun _ => 0))) x (.inr (4, [.int 0, .int 0, .int (nI 1), .int 0, .ref a0, .ref a1, .ref a2, .ref a3, .ref a4, .ref a5, .ref a6]))) := ⟨fun k hk => by
    obtain ⟨a, ha⟩ : ∃ a, [a0, a1, a2, a3, a4, a5, a6][k]? = some a := ⟨_, List.getElem?_eq_getElem (by simpa using hk)⟩
    have := (I7.1 k a ha).1
    show (hup (hup (hup (hup (hup (hup (hup (hup (hup (hup (hup (hup (hup (hup (hup h x (.inr (4, [.int 0, .int 0, .int (nI 1), .int 0, .null, .null, .null, .null, .null, .null, .null]))) a0 (aI Y 60 (fun _ => 0))) x (.inr (4, [.int 0, .int 0, .int (nI 1), .int 0, .ref a0, .null, .null, .null, .null, .null, .null]))) a1 (aI Y 60 (fun _ => 0))) x (.inr (4, [.int 0, .int 0, .int (nI 1), .int 0, .ref a0, .ref a1, .null, .null, .null, .null, .null]))) a2 (aI Y 60 (fun _ => 0))) x (.inr (4, [.int 0, .int 0, .int (nI 1), .int 0, .ref a0, .ref a1, .ref a2, .null, .null, .null, .null]))) a3 (aI Y 60 (fun _ => 0))) x (.inr (4, [.int 0, .int 0, .int (nI 1), .int 0, .ref a0, .ref a1, .ref a2, .ref a3, .null, .null, .null]))) a4 (aI Y 60 (fun _ => 0))) x (.inr (4, [.int 0, .int 0, .int (nI 1), .int 0, .ref a0, .ref a1, .ref a2, .ref a3, .ref a4, .null, .null]))) a5 (aI Y 1020 (fun _ => 0))) x (.inr (4, [.int 0, .int 0, .int (nI 1), .int 0, .ref a0, .ref a1, .ref a2, .ref a3, .ref a4, .ref a5, .null]))) a6 (aI Y 17 (fun _ => 0))) x (.inr (4, [.int 0, .int 0, .int (nI 1), .int 0, .ref a0, .ref a1, .ref a2, .ref a3, .ref a4, .ref a5, .ref a6]))) ([a0, a1, a2, a3, a4, a5, a6].getD k 0) = _
    rw [List.getD_eq_getElem?_getD, ha]
    exact this, fun i j hi hj e => by
    obtain ⟨a, ha⟩ : ∃ a, [a0, a1, a2, a3, a4, a5, a6][i]? = some a := ⟨_, List.getElem?_eq_getElem (by simpa using hi)⟩
    obtain ⟨b, hb⟩ : ∃ b, [a0, a1, a2, a3, a4, a5, a6][j]? = some b := ⟨_, List.getElem?_eq_getElem (by simpa using hj)⟩
    have e2 : [a0, a1, a2, a3, a4, a5, a6].getD i 0 = [a0, a1, a2, a3, a4, a5, a6].getD j 0 := e
    rw [List.getD_eq_getElem?_getD, List.getD_eq_getElem?_getD, ha, hb] at e2
    have e3 : a = b := e2
    subst e3
    exact I7.2.1 i j a ha hb⟩
  have N7 : ∀ k, k < 7 → h ((fun k => [a0, a1, a2, a3, a4, a5, a6].getD k 0) k) = none := fun k hk => by
    obtain ⟨a, ha⟩ : ∃ a, [a0, a1, a2, a3, a4, a5, a6][k]? = some a := ⟨_, List.getElem?_eq_getElem (by simpa using hk)⟩
    show h ([a0, a1, a2, a3, a4, a5, a6].getD k 0) = none
    rw [List.getD_eq_getElem?_getD, ha]
    exact (I7.1 k a ha).2
  have F7 := I7.2.2.1
  have hxa : ∀ k, k < 7 → x ≠ (fun k => [a0, a1, a2, a3, a4, a5, a6].getD k 0) k := fun k hk => ne_of X7 (A7.1 k hk) (fun z => by cases z)
  generalize hAR : (fun k => [a0, a1, a2, a3, a4, a5, a6].getD k 0) = ar at A7 N7 hxa
  have q0 : a0 = ar 0 := by rw [← hAR]; rfl
  have q1 : a1 = ar 1 := by rw [← hAR]; rfl
  have q2 : a2 = ar 2 := by rw [← hAR]; rfl
  have q3 : a3 = ar 3 := by rw [← hAR]; rfl
  have q4 : a4 = ar 4 := by rw [← hAR]; rfl
  have q5 : a5 = ar 5 := by rw [← hAR]; rfl
  have q6 : a6 = ar 6 := by rw [← hAR]; rfl
  clear hAR I7 I6 I5 I4 I3 I2 I1 I0 X6 X5 X4 X3 X2 X1 X0
  generalize (hup (hup (hup (hup (hup (hup (hup (hup (hup (hup (hup (hup (hup (hup (hup h x (.inr (4, [.int 0, .int 0, .int (nI 1), .int 0, .null, .null, .null, .null, .null, .null, .null]))) a0 (aI Y 60 (fun _ => 0))) x (.inr (4, [.int 0, .int 0, .int (nI 1), .int 0, .ref a0, .null, .null, .null, .null, .null, .null]))) a1 (aI Y 60 (fun _ => 0))) x (.inr (4, [.int 0, .int 0, .int (nI 1), .int 0, .ref a0, .ref a1, .null, .null, .null, .null, .null]))) a2 (aI Y 60 (fun _ => 0))) x (.inr (4, [.int 0, .int 0, .int (nI 1), .int 0, .ref a0, .ref a1, .ref a2, .null, .null, .null, .null]))) a3 (aI Y 60 (fun _ => 0))) x (.inr (4, [.int 0, .int 0, .int (nI 1), .int 0, .ref a0, .ref a1, .ref a2, .ref a3, .null, .null, .null]))) a4 (aI Y 60 (fun _ => 0))) x (.inr (4, [.int 0, .int 0, .int (nI 1), .int 0, .ref a0, .ref a1, .ref a2, .ref a3, .ref a4, .null, .null]))) a5 (aI Y 1020 (fun _ => 0))) x (.inr (4, [.int 0, .int 0, .int (nI 1), .int 0, .ref a0, .ref a1, .ref a2, .ref a3, .ref a4, .ref a5, .null]))) a6 (aI Y 17 (fun _ => 0))) x (.inr (4, [.int 0, .int 0, .int (nI 1), .int 0, .ref a0, .ref a1, .ref a2, .ref a3, .ref a4, .ref a5, .ref a6]))) = H7 at A7 X7 F7 ⊢
  clear ha0 ha1 ha2 ha3 ha4 ha5 ha6
  subst q0 q1 q2 q3 q4 q5 q6
  refine g_aload_n C dX3_init_66 rfl (by first | rfl | exact isR_rf _) ?_
  refine gf_X3_13 C (X7) rfl dX3_init_67 ?_
  refine g_iconst C (v := nI 0) dX3_init_70 (by decide) ?_
  refine g_iconst C (v := (-1)) dX3_init_71 (by decide) ?_
  refine g_iast C (A7.1 0 (by decide)) rfl (show 0 < 60 by decide) (by decide) dX3_init_72 ?_
  have A8 := A7.row (k := 0) (N := 60) (by decide) (upd (fun _ => 0) 0 (-1)) rfl
  have X8 := RepM.st (Y := Y) (N := 60) (v := upd (fun _ => 0) 0 (-1)) X7 (hxa 0 (by decide))
  refine g_aload_n C dX3_init_73 rfl (by first | rfl | exact isR_rf _) ?_
  refine gf_X3_17 C (X8) rfl dX3_init_74 ?_
  refine g_iconst C (v := nI 0) dX3_init_77 (by decide) ?_
  refine g_iconst C (v := (-1)) dX3_init_78 (by decide) ?_
  refine g_iast C (A8.1 1 (by decide)) rfl (show 0 < 60 by decide) (by decide) dX3_init_79 ?_
  have A9 := A8.row (k := 1) (N := 60) (by decide) (upd (fun _ => 0) 0 (-1)) rfl
  have X9 := RepM.st (Y := Y) (N := 60) (v := upd (fun _ => 0) 0 (-1)) X8 (hxa 1 (by decide))
  refine g_aload_n C dX3_init_80 rfl (by first | rfl | exact isR_rf _) ?_
  refine gf_X3_20 C (X9) rfl dX3_init_81 ?_
  refine g_iconst C (v := nI 0) dX3_init_84 (by decide) ?_
  refine g_iconst C (v := (-1)) dX3_init_85 (by decide) ?_
  refine g_iast C (A9.1 2 (by decide)) rfl (show 0 < 60 by decide) (by decide) dX3_init_86 ?_
  have AA := A9.row (k := 2) (N := 60) (by decide) (upd (fun _ => 0) 0 (-1)) rfl
  have XA := RepM.st (Y := Y) (N := 60) (v := upd (fun _ => 0) 0 (-1)) X9 (hxa 2 (by decide))
  refine g_aload_n C dX3_init_87 rfl (by first | rfl | exact isR_rf _) ?_
  refine gf_X3_26 C (XA) rfl dX3_init_88 ?_
  refine g_iconst C (v := nI 0) dX3_init_91 (by decide) ?_
  refine g_iconst C (v := (-1)) dX3_init_92 (by decide) ?_
  refine g_iast C (AA.1 4 (by decide)) rfl (show 0 < 60 by decide) (by decide) dX3_init_93 ?_
  have AB := AA.row (k := 4) (N := 60) (by decide) (upd (fun _ => 0) 0 (-1)) rfl
  have XB := RepM.st (Y := Y) (N := 60) (v := upd (fun _ => 0) 0 (-1)) XA (hxa 4 (by decide))
  refine g_vret C hr dX3_init_94 (by omega) (by omega) (⟨rfl, ar, _, ⟨XB, AB, ⟨fun i hi => ?_, fun i hi => ?_, fun i hi => ?_, fun i hi => ?_, fun i hi => ?_, fun i hi => ?_, fun i q hi hq => absurd hq (Nat.not_lt_zero q)⟩⟩, N7, fun a e ha he => ?_⟩)
  all_goals first | (have hi0 : i = 0 := Nat.lt_one_iff.mp hi; subst hi0; rfl) | skip
  have hk : ∀ k, k < 7 → a ≠ ar k := fun k hk z => by rw [z, N7 k hk] at he; cases he
  exact (hup_ne (hk 4 (by decide))).trans ((hup_ne (hk 2 (by decide))).trans ((hup_ne (hk 1 (by decide))).trans ((hup_ne (hk 0 (by decide))).trans (F7 a e ha he))))
