theorem mean_ok {a b : Int32} (hb : b ≠ 0) : vf_n64 (FP.ddiv (FP.i2d a) (FP.i2d b)) := by
  have h1 := FP.Core.i2d_mag a
  obtain ⟨h2, h3⟩ := FP.Core.i2d_big (FP.Core.int32_ne hb)
  have h4 := FP.Core.ddiv_mag (K := 1056) (L := 1023) h1 h2 h3 (by decide) (by decide)
  show FP.Core.ddiv (FP.Core.i2d a) (FP.Core.i2d b) &&& 0x7fffffffffffffff ≤ 0x7ff0000000000000
  rw [UInt64.le_iff_toNat_le, UInt64.toNat_and, show (0x7fffffffffffffff : UInt64).toNat = 2 ^ 63 - 1 from rfl, Nat.and_two_pow_sub_one_eq_mod, show (0x7ff0000000000000 : UInt64).toNat = 2047 * 2 ^ 52 from rfl]
  omega
theorem end_map {g : Sg} {ev : Nat → Nat} (i : Nat) : ((g.last i).map ev).isNone = enB g i := by
  unfold enB
  cases g.last i <;> rfl
set_option maxRecDepth 100000 in
set_option maxHeartbeats 4000000 in
theorem K_X2_ends (l : Launch) (Y : YG) {x : Nat} {v : Vw} {g : Sg} {Z : Nat → Prop} {h : AH} (r : RepC Y x v g Z h) (iv : Inv g) : MX l Y yX2_ends cX2_ends 3 (some .int) 3 64 0 0 [.ref x] h (pS (some (.int (nI (enN g)))) h) (noX) := by
  have hn60 := iv.n60
  have hnp16 := iv.np
  have hnow := iv.now
  refine MX.of (by decide +kernel) (Nat.le_of_ble_eq_true rfl) ?_
  intro p e s m args0 below meth c C hr hout hnm
  have lp : ∀ (d i : Nat), i ≤ g.n → g.n - i < d → Gd p l e (rmO 3 64 0 0) s m args0 below meth c (vx_MQ below (Qk Y (pS (some (.int (nI (enN g)))) h)) (Xk Y (noX)) args0 s 0 0 Y.A) Y 3 4 [some (.ref x), some (.int (nI (cnt (enB g) i))), some (.int (nI i))] [] h 0 0 := by
    intro d
    induction d with
    | zero => intro i h1 h2; omega
    | succ d ih =>
      intro i hi hd
      refine g_iload_n C dX2_ends_4 rfl ?_
      refine g_aload_n C dX2_ends_5 rfl (by first | rfl | exact isR_rf _) ?_
      refine gf_X2_26 C (r.x) rfl dX2_ends_6 ?_
      refine g_callF C (na := 0) (x := nL_size) ((K_Jx4a65c_size_8abf5 l Y r.t).K) (tf_Fsize C) w290 w293 w295 w6 w297 (by exact ⟨by decide, by decide, by decide +kernel⟩) (r.t) rfl rfl rfl dX2_ends_9 (Nat.le_of_ble_eq_true rfl) (Nat.le_of_ble_eq_true rfl) (Nat.le_of_ble_eq_true rfl) (Nat.le_of_ble_eq_true rfl) (Nat.le_of_ble_eq_true rfl) (ofS ?_)
      refine g_icmp_geN C (tgt := 45) dX2_ends_14 (by decide) (by omega) (by omega) (fun q1 => ?_) (fun q1 => ?_)
      · have : i = g.n := by omega
        subst this
        refine g_iload_n C dX2_ends_45 rfl ?_
        exact g_iret C hr dX2_ends_46 (Nat.le_of_ble_eq_true rfl) (Nat.le_of_ble_eq_true rfl) (⟨rfl, rfl⟩)
      · refine g_aload_n C dX2_ends_17 rfl (by first | rfl | exact isR_rf _) ?_
        refine gf_X2_26 C (r.x) rfl dX2_ends_18 ?_
        refine g_iload_n C dX2_ends_21 rfl ?_
        refine g_callF C (na := 1) (x := nL_get) ((K_Jx4a65c_get_915e3 l Y r.t r.d q1 r.cap.1 (by have := r.cap; omega)).K) (tf_Fget C) w315 w318 w320 w6 w322 (by exact ⟨by decide, by decide, by decide +kernel⟩) (r.t) rfl rfl rfl dX2_ends_22 (Nat.le_of_ble_eq_true rfl) (Nat.le_of_ble_eq_true rfl) (Nat.le_of_ble_eq_true rfl) (Nat.le_of_ble_eq_true rfl) (Nat.le_of_ble_eq_true rfl) (ofS ?_)
        rw [r.fd q1, rf_some]
        refine cc_X2_7 C (r.ev q1) dX2_ends_27 ?_
        refine g_callV C ((K_X0_isEnd l Y (r.ev q1)).K) ok_X0_isEnd w412 (r.ev q1) rfl rfl rfl dX2_ends_30 (Nat.le_of_ble_eq_true rfl) (Nat.le_of_ble_eq_true rfl) (Nat.le_of_ble_eq_true rfl) (Nat.le_of_ble_eq_true rfl) (Nat.le_of_ble_eq_true rfl) (ofS ?_)
        rw [end_map]
        cases ez : enB g i
        · refine g_if_eqB C (tgt := 39) dX2_ends_33 (by decide) (fun q2 => ?_) (fun q2 => absurd q2 (by decide))
          refine g_iincN C dX2_ends_39 rfl (by decide) ?_
          refine g_goto C (tgt := 4) dX2_ends_42 (by decide) ?_
          have := ih (i + 1) q1 (by omega)
          simp only [cnt, ez] at this
          exact this
        · refine g_if_eqB C (tgt := 39) dX2_ends_33 (by decide) (fun q2 => absurd q2 (by decide)) (fun q2 => ?_)
          refine g_iincN C dX2_ends_36 rfl (by decide) ?_
          refine g_iincN C dX2_ends_39 rfl (by decide) ?_
          refine g_goto C (tgt := 4) dX2_ends_42 (by decide) ?_
          have := ih (i + 1) q1 (by omega)
          simp only [cnt, ez] at this
          exact this
  refine g_iconst C (v := nI 0) dX2_ends_0 (by decide) ?_
  refine g_istore_n C dX2_ends_1 (by decide) ?_
  refine g_iconst C (v := nI 0) dX2_ends_2 (by decide) ?_
  refine g_istore_n C dX2_ends_3 (by decide) ?_
  exact lp (g.n + 1) 0 (Nat.zero_le _) (by omega)
set_option maxRecDepth 100000 in
set_option maxHeartbeats 4000000 in
theorem K_X2_knocksOf (l : Launch) (Y : YG) {x : Nat} {v : Vw} {g : Sg} {Z : Nat → Prop} {h : AH} (r : RepC Y x v g Z h) (iv : Inv g) {q : Nat} : MX l Y yX2_knocksOf cX2_knocksOf 5 (some .int) 3 64 0 0 [.ref x, .int (nI q)] h (pS (some (.int (nI (knN g q)))) h) (noX) := by
  have hn60 := iv.n60
  have hnp16 := iv.np
  have hnow := iv.now
  refine MX.of (by decide +kernel) (Nat.le_of_ble_eq_true rfl) ?_
  intro p e s m args0 below meth c C hr hout hnm
  have lp : ∀ (d i : Nat) (w : Option Value), i ≤ g.n → g.n - i < d → Gd p l e (rmO 3 64 0 0) s m args0 below meth c (vx_MQ below (Qk Y (pS (some (.int (nI (knN g q)))) h)) (Xk Y (noX)) args0 s 0 0 Y.A) Y 5 4 [some (.ref x), some (.int (nI q)), some (.int (nI (cnt (knB g q) i))), some (.int (nI i)), w] [] h 0 0 := by
    intro d
    induction d with
    | zero => intro i w h1 h2; omega
    | succ d ih =>
      intro i w hi hd
      refine g_iload_n C dX2_knocksOf_4 rfl ?_
      refine g_aload_n C dX2_knocksOf_5 rfl (by first | rfl | exact isR_rf _) ?_
      refine gf_X2_26 C (r.x) rfl dX2_knocksOf_6 ?_
      refine g_callF C (na := 0) (x := nL_size) ((K_Jx4a65c_size_8abf5 l Y r.t).K) (tf_Fsize C) w290 w293 w295 w6 w297 (by exact ⟨by decide, by decide, by decide +kernel⟩) (r.t) rfl rfl rfl dX2_knocksOf_9 (Nat.le_of_ble_eq_true rfl) (Nat.le_of_ble_eq_true rfl) (Nat.le_of_ble_eq_true rfl) (Nat.le_of_ble_eq_true rfl) (Nat.le_of_ble_eq_true rfl) (ofS ?_)
      refine g_icmp_geN C (tgt := 59) dX2_knocksOf_14 (by decide) (by omega) (by omega) (fun q1 => ?_) (fun q1 => ?_)
      · have : i = g.n := by omega
        subst this
        refine g_iload_n C dX2_knocksOf_59 rfl ?_
        exact g_iret C hr dX2_knocksOf_60 (Nat.le_of_ble_eq_true rfl) (Nat.le_of_ble_eq_true rfl) (⟨rfl, rfl⟩)
      · refine g_aload_n C dX2_knocksOf_17 rfl (by first | rfl | exact isR_rf _) ?_
        refine gf_X2_26 C (r.x) rfl dX2_knocksOf_18 ?_
        refine g_iload_n C dX2_knocksOf_21 rfl ?_
        refine g_callF C (na := 1) (x := nL_get) ((K_Jx4a65c_get_915e3 l Y r.t r.d q1 r.cap.1 (by have := r.cap; omega)).K) (tf_Fget C) w315 w318 w320 w6 w322 (by exact ⟨by decide, by decide, by decide +kernel⟩) (r.t) rfl rfl rfl dX2_knocksOf_22 (Nat.le_of_ble_eq_true rfl) (Nat.le_of_ble_eq_true rfl) (Nat.le_of_ble_eq_true rfl) (Nat.le_of_ble_eq_true rfl) (Nat.le_of_ble_eq_true rfl) (ofS ?_)
        rw [r.fd q1, rf_some]
        refine cc_X2_7 C (r.ev q1) dX2_knocksOf_27 ?_
        refine g_astore C dX2_knocksOf_30 (by decide) (by first | rfl | exact isR_rf _) ?_
        refine g_aload C dX2_knocksOf_32 rfl (by first | rfl | exact isR_rf _) ?_
        refine gf_X2_137 C (r.ev q1) rfl dX2_knocksOf_34 ?_
        refine g_iconst C (v := nI 1) dX2_knocksOf_37 (by decide) ?_
        refine g_icmp_ne C (tgt := 53) dX2_knocksOf_38 (by decide) (fun q2 => ?_) (fun q2 => ?_)
        · have ez : knB g q i = false := by unfold knB; rw [decide_eq_false q2, Bool.false_and]
          refine g_iincN C dX2_knocksOf_53 rfl (by decide) ?_
          refine g_goto C (tgt := 4) dX2_knocksOf_56 (by decide) ?_
          have := ih (i + 1) (some (.ref (v.ev i))) q1 (by omega)
          simp only [cnt, ez] at this
          exact this
        · refine g_aload C dX2_knocksOf_41 rfl (by first | rfl | exact isR_rf _) ?_
          refine gf_X2_140 C (r.ev q1) rfl dX2_knocksOf_43 ?_
          refine g_iload_n C dX2_knocksOf_46 rfl ?_
          refine g_icmp_ne C (tgt := 53) dX2_knocksOf_47 (by decide) (fun q3 => ?_) (fun q3 => ?_)
          · have ez : knB g q i = false := by unfold knB; rw [decide_eq_false q3, Bool.and_false]
            refine g_iincN C dX2_knocksOf_53 rfl (by decide) ?_
            refine g_goto C (tgt := 4) dX2_knocksOf_56 (by decide) ?_
            have := ih (i + 1) (some (.ref (v.ev i))) q1 (by omega)
            simp only [cnt, ez] at this
            exact this
          · have ez : knB g q i = true := by unfold knB; rw [decide_eq_true q2, decide_eq_true q3]; rfl
            refine g_iincN C dX2_knocksOf_50 rfl (by decide) ?_
            refine g_iincN C dX2_knocksOf_53 rfl (by decide) ?_
            refine g_goto C (tgt := 4) dX2_knocksOf_56 (by decide) ?_
            have := ih (i + 1) (some (.ref (v.ev i))) q1 (by omega)
            simp only [cnt, ez] at this
            exact this
  refine g_iconst C (v := nI 0) dX2_knocksOf_0 (by decide) ?_
  refine g_istore_n C dX2_knocksOf_1 (by decide) ?_
  refine g_iconst C (v := nI 0) dX2_knocksOf_2 (by decide) ?_
  refine g_istore_n C dX2_knocksOf_3 (by decide) ?_
  exact lp (g.n + 1) 0 none (Nat.zero_le _) (by omega)
def mkV (K : Nat → Nat) (i : Nat) : Int32 := match mkF K i with
  | none => -1
  | some b => nI (K b)
theorem mk_step {K : Nat → Nat} (hK : ∀ q, K q < 2 ^ 31) (i : Nat) : (mkV K i < nI (K i) → mkF K (i + 1) = some i ∧ mkV K (i + 1) = nI (K i)) ∧ (¬ mkV K i < nI (K i) → mkF K (i + 1) = mkF K i ∧ mkV K (i + 1) = mkV K i) := by
  unfold mkV
  simp only [mkF]
  cases hz : mkF K i with
  | none =>
    refine ⟨fun _ => ⟨rfl, rfl⟩, fun z => absurd ?_ z⟩
    rw [Int32.lt_iff_toInt_lt, nI_toInt (hK i)]
    show (-1 : Int32).toInt < _
    have : ((-1 : Int32)).toInt = -1 := by decide
    omega
  | some b =>
    constructor
    · intro z
      have z2 := (nI_ltI (hK b) (hK i)).mp z
      simp only [if_pos z2]
      exact ⟨trivial, trivial⟩
    · intro z
      have z2 : ¬ K b < K i := fun q => z ((nI_ltI (hK b) (hK i)).mpr q)
      simp only [if_neg z2]
      exact ⟨trivial, trivial⟩
theorem knN_lt {g : Sg} (iv : Inv g) (q : Nat) : knN g q < 2 ^ 31 := by
  have := cnt_le (knB g q) g.n
  have := iv.n60
  unfold knN
  omega
set_option maxRecDepth 100000 in
set_option maxHeartbeats 4000000 in
theorem K_X2_mostKnocked (l : Launch) (Y : YG) {x : Nat} {v : Vw} {g : Sg} {Z : Nat → Prop} {h : AH} (r : RepC Y x v g Z h) (iv : Inv g) : MX l Y yX2_mostKnocked cX2_mostKnocked 5 (some .int) 4 88 0 0 [.ref x] h (pS (some (.int (nO (mkF (knN g) g.np)))) h) (noX) := by
  have hn60 := iv.n60
  have hnp16 := iv.np
  have hnow := iv.now
  refine MX.of (by decide +kernel) (Nat.le_of_ble_eq_true rfl) ?_
  intro p e s m args0 below meth c C hr hout hnm
  have lp : ∀ (d i : Nat) (w : Option Value), i ≤ g.np → g.np - i < d → Gd p l e (rmO 4 88 0 0) s m args0 below meth c (vx_MQ below (Qk Y (pS (some (.int (nO (mkF (knN g) g.np)))) h)) (Xk Y (noX)) args0 s 0 0 Y.A) Y 5 6 [some (.ref x), some (.int (nO (mkF (knN g) i))), some (.int (mkV (knN g) i)), some (.int (nI i)), w] [] h 0 0 := by
    intro d
    induction d with
    | zero => intro i w h1 h2; omega
    | succ d ih =>
      intro i w hi hd
      have hst := mk_step (knN_lt iv) i
      refine g_iload_n C dX2_mostKnocked_6 rfl ?_
      refine g_aload_n C dX2_mostKnocked_7 rfl (by first | rfl | exact isR_rf _) ?_
      refine g_callV C ((K_X2_pieces l Y r iv).K) ok_X2_pieces w456 (r.x) rfl rfl rfl dX2_mostKnocked_8 (Nat.le_of_ble_eq_true rfl) (Nat.le_of_ble_eq_true rfl) (Nat.le_of_ble_eq_true rfl) (Nat.le_of_ble_eq_true rfl) (Nat.le_of_ble_eq_true rfl) (ofS ?_)
      refine g_icmp_geN C (tgt := 38) dX2_mostKnocked_11 (by decide) (by omega) (by omega) (fun q1 => ?_) (fun q1 => ?_)
      · have : i = g.np := by omega
        subst this
        refine g_iload_n C dX2_mostKnocked_38 rfl ?_
        exact g_iret C hr dX2_mostKnocked_39 (Nat.le_of_ble_eq_true rfl) (Nat.le_of_ble_eq_true rfl) (⟨rfl, rfl⟩)
      · refine g_aload_n C dX2_mostKnocked_14 rfl (by first | rfl | exact isR_rf _) ?_
        refine g_iload_n C dX2_mostKnocked_15 rfl ?_
        refine g_callV C ((K_X2_knocksOf l Y r iv).K) ok_X2_knocksOf w471 (r.x) rfl rfl rfl dX2_mostKnocked_16 (Nat.le_of_ble_eq_true rfl) (Nat.le_of_ble_eq_true rfl) (Nat.le_of_ble_eq_true rfl) (Nat.le_of_ble_eq_true rfl) (Nat.le_of_ble_eq_true rfl) (ofS ?_)
        refine g_istore C dX2_mostKnocked_19 (by decide) ?_
        refine g_iload C dX2_mostKnocked_21 rfl ?_
        refine g_iload_n C dX2_mostKnocked_23 rfl ?_
        refine g_icmp_le C (tgt := 32) dX2_mostKnocked_24 (by decide) (fun q2 => ?_) (fun q2 => ?_)
        · refine g_iincN C dX2_mostKnocked_32 rfl (by decide) ?_
          refine g_goto C (tgt := 6) dX2_mostKnocked_35 (by decide) ?_
          have := ih (i + 1) (some (.int (nI (knN g i)))) q1 (by omega)
          rw [(hst.2 (Int32.not_lt.mpr q2)).1, (hst.2 (Int32.not_lt.mpr q2)).2] at this
          exact this
        · have q3 := Int32.not_le.mp q2
          refine g_iload C dX2_mostKnocked_27 rfl ?_
          refine g_istore_n C dX2_mostKnocked_29 (by decide) ?_
          refine g_iload_n C dX2_mostKnocked_30 rfl ?_
          refine g_istore_n C dX2_mostKnocked_31 (by decide) ?_
          refine g_iincN C dX2_mostKnocked_32 rfl (by decide) ?_
          refine g_goto C (tgt := 6) dX2_mostKnocked_35 (by decide) ?_
          have := ih (i + 1) (some (.int (nI (knN g i)))) q1 (by omega)
          rw [(hst.1 q3).1, (hst.1 q3).2] at this
          exact this
  refine g_iconst C (v := -1) dX2_mostKnocked_0 (by decide) ?_
  refine g_istore_n C dX2_mostKnocked_1 (by decide) ?_
  refine g_iconst C (v := -1) dX2_mostKnocked_2 (by decide) ?_
  refine g_istore_n C dX2_mostKnocked_3 (by decide) ?_
  refine g_iconst C (v := nI 0) dX2_mostKnocked_4 (by decide) ?_
  refine g_istore_n C dX2_mostKnocked_5 (by decide) ?_
  exact lp (g.np + 1) 0 none (Nat.zero_le _) (by omega)
def meanV (g : Sg) : UInt64 := if enN g = 0 then FP.dconst0 else FP.ddiv (FP.i2d (nI (smN g))) (FP.i2d (nI (enN g)))
theorem smF_le {P : Nat → Bool} {f : Nat → Nat} {N : Nat} : ∀ {n : Nat}, (∀ k, k < n → f k ≤ N) → smF P f n ≤ n * N := by
  intro n
  induction n with
  | zero => intro _; exact Nat.zero_le _
  | succ n ih =>
    intro h
    have h1 := ih (fun k hk => h k (by omega))
    have h2 := h n (by omega)
    simp only [smF]
    have : (n + 1) * N = n * N + N := Nat.succ_mul n N
    split <;> omega
set_option maxRecDepth 100000 in
set_option maxHeartbeats 4000000 in
theorem K_X2_meanDepth (l : Launch) (Y : YG) {x : Nat} {v : Vw} {g : Sg} {Z : Nat → Prop} {h : AH} (r : RepC Y x v g Z h) (iv : Inv g) : MX l Y yX2_meanDepth cX2_meanDepth 5 (some .double) 3 64 0 0 [.ref x] h (pS (some (.double (meanV g))) h) (noX) := by
  have hn60 := iv.n60
  have hnp16 := iv.np
  have hnow := iv.now
  refine MX.of (by decide +kernel) (Nat.le_of_ble_eq_true rfl) ?_
  intro p e s m args0 below meth c C hr hout hnm
  have lp : ∀ (d i : Nat) (w : Option Value), i ≤ g.n → g.n - i < d → Gd p l e (rmO 3 64 0 0) s m args0 below meth c (vx_MQ below (Qk Y (pS (some (.double (meanV g))) h)) (Xk Y (noX)) args0 s 0 0 Y.A) Y 5 6 [some (.ref x), some (.int (nI (cnt (enB g) i))), some (.int (nI (smF (enB g) g.dp i))), some (.int (nI i)), w] [] h 0 0 := by
    intro d
    induction d with
    | zero => intro i w h1 h2; omega
    | succ d ih =>
      intro i w hi hd
      refine g_iload_n C dX2_meanDepth_6 rfl ?_
      refine g_aload_n C dX2_meanDepth_7 rfl (by first | rfl | exact isR_rf _) ?_
      refine gf_X2_26 C (r.x) rfl dX2_meanDepth_8 ?_
      refine g_callF C (na := 0) (x := nL_size) ((K_Jx4a65c_size_8abf5 l Y r.t).K) (tf_Fsize C) w290 w293 w295 w6 w297 (by exact ⟨by decide, by decide, by decide +kernel⟩) (r.t) rfl rfl rfl dX2_meanDepth_11 (Nat.le_of_ble_eq_true rfl) (Nat.le_of_ble_eq_true rfl) (Nat.le_of_ble_eq_true rfl) (Nat.le_of_ble_eq_true rfl) (Nat.le_of_ble_eq_true rfl) (ofS ?_)
      refine g_icmp_geN C (tgt := 59) dX2_meanDepth_16 (by decide) (by omega) (by omega) (fun q1 => ?_) (fun q1 => ?_)
      · have : i = g.n := by omega
        subst this
        have hen := cnt_le (enB g) g.n
        refine g_iload_n C dX2_meanDepth_59 rfl ?_
        refine g_if_neN C (tgt := 67) dX2_meanDepth_60 (by decide) (by omega) (fun q2 => ?_) (fun q2 => ?_)
        · have hne : ¬ enN g = 0 := by unfold enN; omega
          refine g_iload_n C dX2_meanDepth_67 rfl ?_
          refine g_i2d C dX2_meanDepth_68 ?_
          refine g_iload_n C dX2_meanDepth_69 rfl ?_
          refine g_i2d C dX2_meanDepth_70 ?_
          refine g_ddiv C dX2_meanDepth_71 (mean_ok (nI_ne0 q2 (by omega))) ?_
          exact g_dret C hr dX2_meanDepth_72 (by omega) (by omega) ⟨by unfold meanV; rw [if_neg hne]; rfl, rfl⟩
        · have he : enN g = 0 := q2
          refine g_dconst0 C dX2_meanDepth_63 ?_
          refine g_goto C (tgt := 72) dX2_meanDepth_64 (by decide) ?_
          exact g_dret C hr dX2_meanDepth_72 (by omega) (by omega) ⟨by unfold meanV; rw [if_pos he], rfl⟩
      · refine g_aload_n C dX2_meanDepth_19 rfl (by first | rfl | exact isR_rf _) ?_
        refine gf_X2_26 C (r.x) rfl dX2_meanDepth_20 ?_
        refine g_iload_n C dX2_meanDepth_23 rfl ?_
        refine g_callF C (na := 1) (x := nL_get) ((K_Jx4a65c_get_915e3 l Y r.t r.d q1 r.cap.1 (by have := r.cap; omega)).K) (tf_Fget C) w315 w318 w320 w6 w322 (by exact ⟨by decide, by decide, by decide +kernel⟩) (r.t) rfl rfl rfl dX2_meanDepth_24 (Nat.le_of_ble_eq_true rfl) (Nat.le_of_ble_eq_true rfl) (Nat.le_of_ble_eq_true rfl) (Nat.le_of_ble_eq_true rfl) (Nat.le_of_ble_eq_true rfl) (ofS ?_)
        rw [r.fd q1, rf_some]
        refine cc_X2_7 C (r.ev q1) dX2_meanDepth_29 ?_
        refine g_astore C dX2_meanDepth_32 (by decide) (by first | rfl | exact isR_rf _) ?_
        refine g_aload C dX2_meanDepth_34 rfl (by first | rfl | exact isR_rf _) ?_
        refine g_callV C ((K_X0_isEnd l Y (r.ev q1)).K) ok_X0_isEnd w412 (r.ev q1) rfl rfl rfl dX2_meanDepth_36 (Nat.le_of_ble_eq_true rfl) (Nat.le_of_ble_eq_true rfl) (Nat.le_of_ble_eq_true rfl) (Nat.le_of_ble_eq_true rfl) (Nat.le_of_ble_eq_true rfl) (ofS ?_)
        rw [end_map]
        cases ez : enB g i
        · refine g_if_eqB C (tgt := 53) dX2_meanDepth_39 (by decide) (fun q2 => ?_) (fun q2 => absurd q2 (by decide))
          refine g_iincN C dX2_meanDepth_53 rfl (by decide) ?_
          refine g_goto C (tgt := 6) dX2_meanDepth_56 (by decide) ?_
          have := ih (i + 1) (some (.ref (v.ev i))) q1 (by omega)
          simp only [cnt, smF, ez] at this
          exact this
        · refine g_if_eqB C (tgt := 53) dX2_meanDepth_39 (by decide) (fun q2 => absurd q2 (by decide)) (fun q2 => ?_)
          refine g_iincN C dX2_meanDepth_42 rfl (by decide) ?_
          refine g_iload_n C dX2_meanDepth_45 rfl ?_
          refine g_aload C dX2_meanDepth_46 rfl rfl ?_
          refine gf_X2_143 C (r.ev q1) rfl dX2_meanDepth_48 ?_
          refine g_iaddN C dX2_meanDepth_51 ?_
          refine g_istore_n C dX2_meanDepth_52 (by decide) ?_
          refine g_iincN C dX2_meanDepth_53 rfl (by decide) ?_
          refine g_goto C (tgt := 6) dX2_meanDepth_56 (by decide) ?_
          have := ih (i + 1) (some (.ref (v.ev i))) q1 (by omega)
          simp only [cnt, smF, ez] at this
          exact this
  refine g_iconst C (v := nI 0) dX2_meanDepth_0 (by decide) ?_
  refine g_istore_n C dX2_meanDepth_1 (by decide) ?_
  refine g_iconst C (v := nI 0) dX2_meanDepth_2 (by decide) ?_
  refine g_istore_n C dX2_meanDepth_3 (by decide) ?_
  refine g_iconst C (v := nI 0) dX2_meanDepth_4 (by decide) ?_
  refine g_istore_n C dX2_meanDepth_5 (by decide) ?_
  exact lp (g.n + 1) 0 none (Nat.zero_le _) (by omega)
