/-- what a change gives: thrown, the number, the state behind it -/
abbrev Res : Type := Int32 × Int32 × Sg
def pMu (Y : YG) (x : Nat) (ar : Nat → Nat) (h : AH) (R : Res) : Option Value → AH → Prop := fun vv h2 => vv = some (.int R.2.1) ∧ ∃ f2, RepM Y x R.1 ar f2 R.2.2 h2 ∧ FrM x ar h h2
def rSet (g : Sg) (c0 r0 : Int32) : Res := if onB c0 r0 = true then (if g.np < 16 ∧ g.n = 1 ∧ pon (g.pos g.now) (c0 * nI 8 + r0).toNatClampNeg g.np 0 = none then (nI 0, nI g.np, stSet g (c0 * nI 8 + r0).toNatClampNeg) else (nI 2, nI 0, g)) else (nI 1, nI 0, g)
def rPaw (g : Sg) (k0 n0 : Int32) : Res := if ispB k0 n0 = true then (match pawO g k0 n0 with
  | none => (nI 2, nI 0, g)
  | some z => if g.n < 60 then (nI 0, nI g.n, stPaw g k0 n0 z) else (nI 2, nI 0, g)) else (nI 1, nI 0, g)
def rUndo (g : Sg) (m0 : Int32) : Res := if nI 1 ≤ m0 ∧ m0 ≤ nI 60 then (if m0.toNatClampNeg ≤ g.dp g.now then (nI 0, nI (upN g.par m0.toNatClampNeg g.now), stNow g (upN g.par m0.toNatClampNeg g.now)) else (nI 2, nI 0, g)) else (nI 1, nI 0, g)
def rRedo (g : Sg) (m0 : Int32) : Res := if nI 1 ≤ m0 ∧ m0 ≤ nI 60 then (match reF g.last m0.toNatClampNeg g.now with
  | some a => (nI 0, nI a, stNow g a)
  | none => (nI 2, nI 0, g)) else (nI 1, nI 0, g)
def rGo (g : Sg) (i : Int32) : Res := match idx g.n i with
  | some j => (nI 0, nI (wy g g.now j), stGo g j)
  | none => (nI 1, nI 0, g)
theorem pMu_no {Y : YG} {x : Nat} {th : Int32} {ar : Nat → Nat} {f : Nat → Nat → Int32} {g : Sg} {h : AH} (r : RepM Y x th ar f g h) {R : Res} {t2 : Int32} (hR : R = (t2, nI 0, g)) : pMu Y x ar h R (some (.int (nI 0))) (hup (hup h x (mC g ar (nI 0))) x (mC g ar t2)) := by
  subst hR
  exact ⟨rfl, f, (r.th (nI 0)).th t2, FrM.x.tr FrM.x⟩
theorem inB_many (m0 : Int32) : inB m0 (nI 1) (nI 60) = decide (nI 1 ≤ m0 ∧ m0 ≤ nI 60) := by
  unfold inB
  by_cases h1 : nI 1 ≤ m0
  · by_cases h2 : m0 ≤ nI 60
    · rw [decide_eq_true h1, decide_eq_true h2, decide_eq_true ⟨h1, h2⟩]; rfl
    · rw [decide_eq_false h2, Bool.and_false, decide_eq_false (fun z => h2 z.2)]
  · rw [decide_eq_false h1, Bool.false_and, decide_eq_false (fun z => h1 z.1)]
theorem RwM.at (g : Sg) (a : Nat) {f : Nat → Nat → Int32} (r : RwM g f) : RwM (stNow g a) f := r
theorem rw_set {g : Sg} {f : Nat → Nat → Int32} (r : RwM g f) (iv : Inv g) {w : Nat} (hn : g.n = 1) : RwM (stSet g w) (fU f 5 (upd (f 5) (1 + g.np) (nI w))) := by
  have h0 := iv.now
  refine ⟨r.1, r.2.1, r.2.2.1, r.2.2.2.1, r.2.2.2.2.1, fun i hi => ?_, fun i q hi hq => ?_⟩
  · have hi' : i < g.n := hi
    show upd (f 5) (1 + g.np) (nI w) (17 * i + 0) = nI (g.ct i)
    unfold upd
    rw [if_neg (by omega)]
    exact r.ct hi'
  · have hi' : i < g.n := hi
    have hq' : q < g.np + 1 := hq
    have hin : i = g.now := by omega
    show upd (f 5) (1 + g.np) (nI w) (17 * i + (1 + q)) = nI (uF g.pos g.now (uN (g.pos g.now) g.np w) i q + if (g.lb i).testBit q = true then 100 else 0)
    unfold upd uF uN
    rw [if_pos hin]
    by_cases hqn : q = g.np
    · have hb : (g.lb i).testBit q = false := Nat.testBit_lt_two_pow (by rw [hqn]; exact iv.lb hi')
      rw [if_pos (by omega), if_pos hqn, hb]
      rfl
    · rw [if_neg (by omega), if_neg hqn, r.pc hi' (by omega)]
      unfold pq
      rw [hin]
/-- the rows behind a paw -/
theorem rw_paw {g : Sg} {f f2 : Nat → Nat → Int32} (r : RwM g f) (iv : Inv g) {k0 n0 : Int32} {z : Nat × (Nat → Nat) × Nat} {v6 : Nat → Int32} (hN : NxM g.np z v6)
    (e0 : f2 0 = upd (f 0) g.n (nI g.now)) (e1 : f2 1 = upd (f 1) g.n k0) (e2 : f2 2 = upd (f 2) g.n n0) (e3 : f2 3 = upd (f 3) g.n (nI (g.dp g.now + 1))) (e4 : f2 4 = upd (upd (f 4) g.n (-1)) g.now (nI g.n)) (e5 : f2 5 = va_cpy v6 (f 5) 0 (17 * g.n) 17) : RwM (stPaw g k0 n0 z) f2 := by
  have h1 := iv.n1
  have h2 := iv.now
  have np := iv.np
  have s1 : ∀ i, i < g.n + 1 → i < g.n ∨ i = g.n := fun i hi => Nat.lt_succ_iff_lt_or_eq.mp hi
  refine ⟨fun i hi => ?_, fun i hi => ?_, fun i hi => ?_, fun i hi => ?_, fun i hi => ?_, fun i hi => ?_, fun i q hi hq => ?_⟩
  · show f2 0 i = nO (if i = 0 then none else some (ppF g i))
    rw [e0]
    unfold upd
    rcases s1 i hi with q | q
    · rw [if_neg (by omega), r.on q, pp_lt q]
      rfl
    · rw [if_pos q, q, if_neg (by omega), pp_n]
      rfl
  · show f2 1 i = uI g.kd g.n k0 i
    rw [e1]
    unfold upd uI
    rcases s1 i hi with q | q
    · rw [if_neg (by omega), if_neg (by omega), r.kd q]
    · rw [if_pos q, if_pos q]
  · show f2 2 i = uI g.nm g.n n0 i
    rw [e2]
    unfold upd uI
    rcases s1 i hi with q | q
    · rw [if_neg (by omega), if_neg (by omega), r.nm q]
    · rw [if_pos q, if_pos q]
  · show f2 3 i = nI (ddF g i)
    rw [e3]
    unfold upd
    rcases s1 i hi with q | q
    · rw [if_neg (by omega), r.dp q, dd_lt q]
    · rw [if_pos q, q, dd_n]
  · show f2 4 i = nO (llF g i)
    rw [e4]
    unfold upd llF uO
    rcases s1 i hi with q | q
    · by_cases hn : i = g.now
      · rw [if_pos hn, if_pos hn]; rfl
      · rw [if_neg hn, if_neg (by omega), if_neg hn, if_neg (by omega), r.ls q]
    · rw [if_neg (by omega), if_pos q, if_neg (by omega), if_pos q]; rfl
  · show f2 5 (17 * i + 0) = nI (uN g.ct g.n z.1 i)
    rw [e5]
    unfold uN
    rcases s1 i hi with q | q
    · rw [pk_cpy_out (Or.inl (by omega)), if_neg (by omega), r.ct q]
    · rw [pk_cpy_in (by omega) (by omega), if_pos q, show 0 + (17 * i + 0 - 17 * g.n) = 0 by omega]
      exact hN.1
  · have hq' : q < g.np := hq
    show f2 5 (17 * i + (1 + q)) = nI (uF g.pos g.n z.2.1 i q + if (uN g.lb g.n z.2.2 i).testBit q = true then 100 else 0)
    rw [e5]
    unfold uF uN
    rcases s1 i hi with w | w
    · rw [pk_cpy_out (Or.inl (by omega)), if_neg (show ¬ i = g.n by omega), if_neg (show ¬ i = g.n by omega), r.pc w hq']
      rfl
    · rw [pk_cpy_in (by omega) (by omega), if_pos w, if_pos w, show 0 + (17 * i + (1 + q) - 17 * g.n) = 1 + q by omega]
      exact hN.2 q hq'
/-- one row of the model set; its object stays -/
theorem RepM.st {Y : YG} {xx : Nat} {ar : Nat → Nat} {h : AH} {e : va_E} {k N : Nat} {v : Nat → Int32} (hx : h xx = some e) (hne : xx ≠ ar k) : hup h (ar k) (aI Y N v) xx = some e := (hup_ne hne).trans hx
set_option maxRecDepth 100000 in
set_option maxHeartbeats 4000000 in
theorem K_X3_setPiece (l : Launch) (Y : YG) {x : Nat} {th : Int32} {ar : Nat → Nat} {f : Nat → Nat → Int32} {g : Sg} {h : AH} (r : RepM Y x th ar f g h) (iv : Inv g) (c0 r0 : Int32) : MX l Y yX3_setPiece cX3_setPiece 4 (some .int) 3 66 0 0 [.ref x, .int c0, .int r0] h (pMu Y x ar h (rSet g c0 r0)) (noX) := by
  have hn60 := iv.n60
  have hnp16 := iv.np
  have hnow := iv.now
  have hn1 := iv.n1
  refine MX.of (by decide +kernel) (Nat.le_of_ble_eq_true rfl) ?_
  intro p e s m args0 below meth c C hr hout hnm
  refine g_aload_n C dX3_setPiece_0 rfl (by first | rfl | exact isR_rf _) ?_
  refine g_iconst C (v := nI 0) dX3_setPiece_1 (by decide) ?_
  refine pf_X3_35 C (r.x) (Nat.le_of_ble_eq_true rfl) dX3_setPiece_2 ?_
  have r1 := r.th (nI 0)
  refine g_iload_n C dX3_setPiece_5 rfl ?_
  refine g_callS C ((K_X3_isOn l Y _).K) ok_X3_isOn w712 rfl rfl dX3_setPiece_6 (Nat.le_of_ble_eq_true rfl) (Nat.le_of_ble_eq_true rfl) (Nat.le_of_ble_eq_true rfl) (Nat.le_of_ble_eq_true rfl) (Nat.le_of_ble_eq_true rfl) (ofS ?_)
  have bad : onB c0 r0 = false → Gd p l e (rmO 3 66 0 0) s m args0 below meth c (vx_MQ below (Qk Y (pMu Y x ar h (rSet g c0 r0))) (Xk Y (noX)) args0 s 0 0 Y.A) Y 4 19 [some (.ref x), some (.int c0), some (.int r0), none] [] (hup h x (mC g ar (nI 0))) 0 0 := by
    intro hb
    refine g_aload_n C dX3_setPiece_19 rfl (by first | rfl | exact isR_rf _) ?_
    refine g_iconst C (v := nI 1) dX3_setPiece_20 (by decide) ?_
    refine g_callV C ((K_X3_no l Y r1 _).K) ok_X3_no w718 (r1.x) rfl rfl rfl dX3_setPiece_21 (Nat.le_of_ble_eq_true rfl) (Nat.le_of_ble_eq_true rfl) (Nat.le_of_ble_eq_true rfl) (Nat.le_of_ble_eq_true rfl) (Nat.le_of_ble_eq_true rfl) (ofS ?_)
    exact g_iret C hr dX3_setPiece_24 (Nat.le_of_ble_eq_true rfl) (Nat.le_of_ble_eq_true rfl) (pMu_no r (by unfold rSet; rw [if_neg (by rw [hb]; decide)]))
  have bad2 : onB c0 r0 = true → ¬ (g.np < 16 ∧ g.n = 1 ∧ pon (g.pos g.now) (c0 * nI 8 + r0).toNatClampNeg g.np 0 = none) → ∀ u, Gd p l e (rmO 3 66 0 0) s m args0 below meth c (vx_MQ below (Qk Y (pMu Y x ar h (rSet g c0 r0))) (Xk Y (noX)) args0 s 0 0 Y.A) Y 4 58 [some (.ref x), some (.int c0), some (.int r0), u] [] (hup h x (mC g ar (nI 0))) 0 0 := by
    intro hb hc u
    refine g_aload_n C dX3_setPiece_58 rfl (by first | rfl | exact isR_rf _) ?_
    refine g_iconst C (v := nI 2) dX3_setPiece_59 (by decide) ?_
    refine g_callV C ((K_X3_no l Y r1 _).K) ok_X3_no w718 (r1.x) rfl rfl rfl dX3_setPiece_60 (Nat.le_of_ble_eq_true rfl) (Nat.le_of_ble_eq_true rfl) (Nat.le_of_ble_eq_true rfl) (Nat.le_of_ble_eq_true rfl) (Nat.le_of_ble_eq_true rfl) (ofS ?_)
    exact g_iret C hr dX3_setPiece_63 (Nat.le_of_ble_eq_true rfl) (Nat.le_of_ble_eq_true rfl) (pMu_no r (by unfold rSet; rw [if_pos hb, if_neg hc]))
  cases e1 : in8 c0
  · refine g_if_eqB C (tgt := 19) dX3_setPiece_9 (by decide) (fun q => bad (by rw [onB_in, e1]; rfl)) (fun q => absurd q (by decide))
  refine g_if_eqB C (tgt := 19) dX3_setPiece_9 (by decide) (fun q => absurd q (by decide)) (fun q => ?_)
  refine g_iload_n C dX3_setPiece_12 rfl ?_
  refine g_callS C (K_X3_isOn l Y _).K ok_X3_isOn w712 rfl rfl dX3_setPiece_13 (Nat.le_of_ble_eq_true rfl) (Nat.le_of_ble_eq_true rfl) (Nat.le_of_ble_eq_true rfl) (Nat.le_of_ble_eq_true rfl) (Nat.le_of_ble_eq_true rfl) (ofS ?_)
  cases e2 : in8 r0
  · refine g_if_neB C (tgt := 25) dX3_setPiece_16 (by decide) (fun q => absurd q (by decide)) (fun q => bad (by rw [onB_in, e1, e2]; rfl))
  refine g_if_neB C (tgt := 25) dX3_setPiece_16 (by decide) (fun q => ?_) (fun q => absurd q (by decide))
  have eb : onB c0 r0 = true := by rw [onB_in, e1, e2]; rfl
  obtain ⟨w, hw, ew, ew2⟩ := onB_N eb
  refine g_bipush C (v := nI 8) dX3_setPiece_25 (by decide) ?_
  refine g_iload_n C dX3_setPiece_27 rfl ?_
  refine g_imul C dX3_setPiece_28 ?_
  refine g_iload_n C dX3_setPiece_29 rfl ?_
  refine g_iadd C dX3_setPiece_30 ?_
  rw [show nI 8 * c0 + r0 = nI w from by rw [Int32.mul_comm]; exact ew]
  refine g_istore_n C dX3_setPiece_31 (by decide) ?_
  refine g_aload_n C dX3_setPiece_32 rfl (by first | rfl | exact isR_rf _) ?_
  refine gf_X3_42 C (r1.x) rfl dX3_setPiece_33 ?_
  refine g_bipush C (v := nI 16) dX3_setPiece_36 (by decide) ?_
  refine g_icmp_eqN C (tgt := 58) dX3_setPiece_38 (by decide) (by omega) (by omega) (fun q3 => ?_) (fun q3 => ?_)
  · exact bad2 eb (fun z => by omega) _
  · refine g_aload_n C dX3_setPiece_41 rfl (by first | rfl | exact isR_rf _) ?_
    refine gf_X3_9 C (r1.x) rfl dX3_setPiece_42 ?_
    refine g_iconst C (v := nI 1) dX3_setPiece_45 (by decide) ?_
    refine g_icmp_gtN C (tgt := 58) dX3_setPiece_46 (by decide) (by omega) (by omega) (fun q4 => ?_) (fun q4 => ?_)
    · exact bad2 eb (fun z => by omega) _
    · refine g_aload_n C dX3_setPiece_49 rfl (by first | rfl | exact isR_rf _) ?_
      refine g_iload_n C dX3_setPiece_50 rfl ?_
      refine g_callV C ((K_X3_pieceOn l Y r1 iv (nI_posEq2 iv hw)).K) ok_X3_pieceOn w722 (r1.x) rfl rfl rfl dX3_setPiece_51 (Nat.le_of_ble_eq_true rfl) (Nat.le_of_ble_eq_true rfl) (Nat.le_of_ble_eq_true rfl) (Nat.le_of_ble_eq_true rfl) (Nat.le_of_ble_eq_true rfl) (ofS ?_)
      refine g_iconst C (v := (-1)) dX3_setPiece_54 (by decide) ?_
      refine g_icmp_eq C (tgt := 64) dX3_setPiece_55 (by decide) (fun q5 => ?_) (fun q5 => ?_)
      · refine g_aload_n C dX3_setPiece_64 rfl (by first | rfl | exact isR_rf _) ?_
        refine gf_X3_29 C (r1.x) rfl dX3_setPiece_65 ?_
        refine g_iconst C (v := nI 1) dX3_setPiece_68 (by decide) ?_
        refine g_aload_n C dX3_setPiece_69 rfl (by first | rfl | exact isR_rf _) ?_
        refine gf_X3_42 C (r1.x) rfl dX3_setPiece_70 ?_
        refine g_iaddN C dX3_setPiece_73 ?_
        refine g_iload_n C dX3_setPiece_74 rfl ?_
        have hpn := nO_m1 (fun q hq => by have := pon_lt hq; omega) q5
        have hcnd : g.np < 16 ∧ g.n = 1 ∧ pon (g.pos g.now) (c0 * nI 8 + r0).toNatClampNeg g.np 0 = none := ⟨by omega, by omega, by rw [ew2]; exact hpn⟩
        refine g_iast C r1.a5 rfl (show 1 + g.np < 1020 by omega) (by decide) dX3_setPiece_75 ?_
        have hx2 := RepM.st (Y := Y) (N := 1020) (v := upd (f 5) (1 + g.np) (nI w)) r1.x (r1.ne (k := 5) (by decide))
        have r9 : RepM Y x (nI 0) ar (fU f 5 (upd (f 5) (1 + g.np) (nI w))) (stSet g w) (hup (hup (hup h x (mC g ar (nI 0))) (ar 5) (aI Y 1020 (upd (f 5) (1 + g.np) (nI w)))) x (mC (stSet g w) ar (nI 0))) := ⟨hup_eq, (r1.2.1.row (by decide) _ rfl).up ⟨_, hx2⟩ _, rw_set r.rw iv (by omega)⟩
        refine g_aload_n C dX3_setPiece_76 rfl (by first | rfl | exact isR_rf _) ?_
        refine g_dup C dX3_setPiece_77 (by first | rfl | exact cat_rf _) ?_
        refine gf_X3_42 C (hx2) rfl dX3_setPiece_78 ?_
        refine g_iconst C (v := nI 1) dX3_setPiece_81 (by decide) ?_
        first | with_reducible refine g_iaddN C dX3_setPiece_82 ?_ | refine g_iadd C dX3_setPiece_82 ?_
        refine pf_X3_42 C (hx2) (Nat.le_of_ble_eq_true rfl) dX3_setPiece_83 ?_
        refine g_aload_n C dX3_setPiece_86 rfl (by first | rfl | exact isR_rf _) ?_
        refine gf_X3_42 C (r9.x) rfl dX3_setPiece_87 ?_
        refine g_iconst C (v := nI 1) dX3_setPiece_90 (by decide) ?_
        refine g_isubN C (Nat.le_add_left 1 g.np) dX3_setPiece_91 ?_
        rw [show (stSet g w).np - 1 = g.np from (by show g.np + 1 - 1 = g.np; omega), show rSet g c0 r0 = (nI 0, nI g.np, stSet g w) from by unfold rSet; rw [if_pos eb, if_pos hcnd, ew2]]
        exact g_iret C hr dX3_setPiece_92 (Nat.le_of_ble_eq_true rfl) (Nat.le_of_ble_eq_true rfl) (⟨rfl, _, r9, (FrM.x.tr (FrM.row (by decide))).tr FrM.x⟩)
      · refine bad2 eb (fun z => ?_) _
        rw [ew2] at z
        rw [z.2.2] at q5
        exact q5 rfl
set_option maxRecDepth 100000 in
set_option maxHeartbeats 4000000 in
theorem K_X3_paw (l : Launch) (Y : YG) {x : Nat} {th : Int32} {ar : Nat → Nat} {f : Nat → Nat → Int32} {g : Sg} {h : AH} (r : RepM Y x th ar f g h) (iv : Inv g) (k0 n0 : Int32) : MX l Y yX3_paw cX3_paw 3 (some .int) 5 112 0 0 [.ref x, .int k0, .int n0] h (pMu Y x ar h (rPaw g k0 n0)) (noX) := by
  have hn60 := iv.n60
  have hnp16 := iv.np
  have hnow := iv.now
  have hn1 := iv.n1
  refine MX.of (by decide +kernel) (Nat.le_of_ble_eq_true rfl) ?_
  intro p e s m args0 below meth c C hr hout hnm
  refine g_aload_n C dX3_paw_0 rfl (by first | rfl | exact isR_rf _) ?_
  refine g_iconst C (v := nI 0) dX3_paw_1 (by decide) ?_
  refine pf_X3_35 C (r.x) (Nat.le_of_ble_eq_true rfl) dX3_paw_2 ?_
  have r1 := r.th (nI 0)
  refine g_iload_n C dX3_paw_5 rfl ?_
  refine g_iload_n C dX3_paw_6 rfl ?_
  refine g_callS C ((K_X3_isPaw l Y _ _).K) ok_X3_isPaw w738 rfl rfl dX3_paw_7 (Nat.le_of_ble_eq_true rfl) (Nat.le_of_ble_eq_true rfl) (Nat.le_of_ble_eq_true rfl) (Nat.le_of_ble_eq_true rfl) (Nat.le_of_ble_eq_true rfl) (ofS ?_)
  refine g_if_neB C (tgt := 19) dX3_paw_10 (by decide) (fun eb => ?_) (fun eb => ?_)
  · obtain ⟨k1, w1, hk4, hw16, hw8, rfl, rfl⟩ := isp_N eb
    refine g_aload_n C dX3_paw_19 rfl (by first | rfl | exact isR_rf _) ?_
    refine g_iload_n C dX3_paw_20 rfl ?_
    refine g_iload_n C dX3_paw_21 rfl ?_
    refine g_callV C ((K_X3_does l Y r1 iv hk4 hw16 hw8).K) ok_X3_does w741 (r1.x) rfl rfl rfl dX3_paw_22 (Nat.le_of_ble_eq_true rfl) (Nat.le_of_ble_eq_true rfl) (Nat.le_of_ble_eq_true rfl) (Nat.le_of_ble_eq_true rfl) (Nat.le_of_ble_eq_true rfl) (fun vv h2 e2 => ?_)
    obtain ⟨v6, rfl, rfl, hNx⟩ := e2
    have r2 := r1.nx v6
    have eP : pawO g (nI k1) (nI w1) = nxG g k1 w1 := pawO_N g hk4 hw16
    have bad : ∀ Hc, rPaw g (nI k1) (nI w1) = Hc → Hc = (nI 2, nI 0, g) → Gd p l e (rmO 5 112 0 0) s m args0 below meth c (vx_MQ below (Qk Y (pMu Y x ar h (rPaw g (nI k1) (nI w1)))) (Xk Y (noX)) args0 s 0 0 Y.A) Y 3 37 [some (.ref x), some (.int (nI k1)), some (.int (nI w1))] [] (hup (hup h x (mC g ar (nI 0))) (ar 6) (aI Y 17 v6)) 0 0 := by
      intro Hc e1 e2
      subst e2
      refine g_aload_n C dX3_paw_37 rfl (by first | rfl | exact isR_rf _) ?_
      refine g_iconst C (v := nI 2) dX3_paw_38 (by decide) ?_
      refine g_callV C ((K_X3_no l Y r2 _).K) ok_X3_no w718 (r2.x) rfl rfl rfl dX3_paw_39 (Nat.le_of_ble_eq_true rfl) (Nat.le_of_ble_eq_true rfl) (Nat.le_of_ble_eq_true rfl) (Nat.le_of_ble_eq_true rfl) (Nat.le_of_ble_eq_true rfl) (ofS ?_)
      exact g_iret C hr dX3_paw_42 (Nat.le_of_ble_eq_true rfl) (Nat.le_of_ble_eq_true rfl) (⟨by rw [e1], _, by rw [e1]; exact r2.th _, (FrM.x.tr (FrM.row (by decide))).tr FrM.x⟩)
    cases hz : nxG g k1 w1 with
    | none =>
      refine g_if_eqB C (tgt := 37) dX3_paw_25 (by decide) (fun q => bad _ (by unfold rPaw; rw [if_pos eb, eP, hz]) rfl) (fun q => by cases q)
    | some z =>
      refine g_if_eqB C (tgt := 37) dX3_paw_25 (by decide) (fun q => by cases q) (fun q => ?_)
      have hN := hNx z hz
      refine g_aload_n C dX3_paw_28 rfl (by first | rfl | exact isR_rf _) ?_
      refine gf_X3_9 C (r2.x) rfl dX3_paw_29 ?_
      refine g_bipush C (v := nI 60) dX3_paw_32 (by decide) ?_
      refine g_icmp_neN C (tgt := 43) dX3_paw_34 (by decide) (by omega) (by omega) (fun q3 => ?_) (fun q3 => ?_)
      · have eR : rPaw g (nI k1) (nI w1) = (nI 0, nI g.n, stPaw g (nI k1) (nI w1) z) := by unfold rPaw; rw [if_pos eb, eP, hz]; exact if_pos (by omega)
        refine g_aload_n C dX3_paw_43 rfl (by first | rfl | exact isR_rf _) ?_
        refine gf_X3_32 C (r2.x) rfl dX3_paw_44 ?_
        refine g_iconst C (v := nI 0) dX3_paw_47 (by decide) ?_
        refine g_aload_n C dX3_paw_48 rfl (by first | rfl | exact isR_rf _) ?_
        refine gf_X3_29 C (r2.x) rfl dX3_paw_49 ?_
        refine g_bipush C (v := nI 17) dX3_paw_52 (by decide) ?_
        refine g_aload_n C dX3_paw_54 rfl (by first | rfl | exact isR_rf _) ?_
        refine gf_X3_9 C (r2.x) rfl dX3_paw_55 ?_
        refine g_imulN C dX3_paw_58 ?_
        refine g_bipush C (v := nI 17) dX3_paw_59 (by decide) ?_
        refine g_copyI C r2.a6 r2.a5 w745 w175 w174 w10 (show 0 + 17 ≤ 17 by decide) (show 17 * g.n + 17 ≤ 1020 by omega) (by decide) dX3_paw_61 (Nat.le_of_ble_eq_true rfl) (Nat.le_of_ble_eq_true rfl) ?_
        have A3 := r2.2.1.row (k := 5) (N := 1020) (by decide) (va_cpy v6 (f 5) 0 (17 * g.n) 17) rfl
        have X3 := RepM.st (Y := Y) (N := 1020) (v := va_cpy v6 (f 5) 0 (17 * g.n) 17) r2.x (r2.ne (k := 5) (by decide))
        refine g_aload_n C dX3_paw_64 rfl (by first | rfl | exact isR_rf _) ?_
        refine gf_X3_13 C (X3) rfl dX3_paw_65 ?_
        refine g_aload_n C dX3_paw_68 rfl (by first | rfl | exact isR_rf _) ?_
        refine gf_X3_9 C (X3) rfl dX3_paw_69 ?_
        refine g_aload_n C dX3_paw_72 rfl (by first | rfl | exact isR_rf _) ?_
        refine gf_X3_45 C (X3) rfl dX3_paw_73 ?_
        refine g_iast C (A3.1 0 (by decide)) rfl (show g.n < 60 by omega) (by decide) dX3_paw_76 ?_
        have A4 := A3.row (k := 0) (N := 60) (by decide) (upd (f 0) g.n (nI g.now)) rfl
        have X4 := RepM.st (Y := Y) (N := 60) (v := upd (f 0) g.n (nI g.now)) X3 (r2.ne (k := 0) (by decide))
        refine g_aload_n C dX3_paw_77 rfl (by first | rfl | exact isR_rf _) ?_
        refine gf_X3_17 C (X4) rfl dX3_paw_78 ?_
        refine g_aload_n C dX3_paw_81 rfl (by first | rfl | exact isR_rf _) ?_
        refine gf_X3_9 C (X4) rfl dX3_paw_82 ?_
        refine g_iload_n C dX3_paw_85 rfl ?_
        refine g_iast C (A4.1 1 (by decide)) rfl (show g.n < 60 by omega) (by decide) dX3_paw_86 ?_
        have A5 := A4.row (k := 1) (N := 60) (by decide) (upd (f 1) g.n (nI k1)) rfl
        have X5 := RepM.st (Y := Y) (N := 60) (v := upd (f 1) g.n (nI k1)) X4 (r2.ne (k := 1) (by decide))
        refine g_aload_n C dX3_paw_87 rfl (by first | rfl | exact isR_rf _) ?_
        refine gf_X3_20 C (X5) rfl dX3_paw_88 ?_
        refine g_aload_n C dX3_paw_91 rfl (by first | rfl | exact isR_rf _) ?_
        refine gf_X3_9 C (X5) rfl dX3_paw_92 ?_
        refine g_iload_n C dX3_paw_95 rfl ?_
        refine g_iast C (A5.1 2 (by decide)) rfl (show g.n < 60 by omega) (by decide) dX3_paw_96 ?_
        have A6 := A5.row (k := 2) (N := 60) (by decide) (upd (f 2) g.n (nI w1)) rfl
        have X6 := RepM.st (Y := Y) (N := 60) (v := upd (f 2) g.n (nI w1)) X5 (r2.ne (k := 2) (by decide))
        refine g_aload_n C dX3_paw_97 rfl (by first | rfl | exact isR_rf _) ?_
        refine gf_X3_23 C (X6) rfl dX3_paw_98 ?_
        refine g_aload_n C dX3_paw_101 rfl (by first | rfl | exact isR_rf _) ?_
        refine gf_X3_9 C (X6) rfl dX3_paw_102 ?_
        refine g_aload_n C dX3_paw_105 rfl (by first | rfl | exact isR_rf _) ?_
        refine gf_X3_23 C (X6) rfl dX3_paw_106 ?_
        refine g_aload_n C dX3_paw_109 rfl (by first | rfl | exact isR_rf _) ?_
        refine gf_X3_45 C (X6) rfl dX3_paw_110 ?_
        refine g_iald C (A6.1 3 (by decide)) rfl (show g.now < 60 by omega) (by decide) dX3_paw_113 ?_
        rw [show fU (fU (fU (fU (fU f 6 v6) 5 (va_cpy v6 (f 5) 0 (17 * g.n) 17)) 0 (upd (f 0) g.n (nI g.now))) 1 (upd (f 1) g.n (nI k1))) 2 (upd (f 2) g.n (nI w1)) 3 g.now = nI (g.dp g.now) from r.rw.dp hnow]
        refine g_iconst C (v := nI 1) dX3_paw_114 (by decide) ?_
        first | with_reducible refine g_iaddN C dX3_paw_115 ?_ | refine g_iadd C dX3_paw_115 ?_
        refine g_iast C (A6.1 3 (by decide)) rfl (show g.n < 60 by omega) (by decide) dX3_paw_116 ?_
        have A7 := A6.row (k := 3) (N := 60) (by decide) (upd (f 3) g.n (nI (g.dp g.now + 1))) rfl
        have X7 := RepM.st (Y := Y) (N := 60) (v := upd (f 3) g.n (nI (g.dp g.now + 1))) X6 (r2.ne (k := 3) (by decide))
        refine g_aload_n C dX3_paw_117 rfl (by first | rfl | exact isR_rf _) ?_
        refine gf_X3_26 C (X7) rfl dX3_paw_118 ?_
        refine g_aload_n C dX3_paw_121 rfl (by first | rfl | exact isR_rf _) ?_
        refine gf_X3_9 C (X7) rfl dX3_paw_122 ?_
        refine g_iconst C (v := (-1)) dX3_paw_125 (by decide) ?_
        refine g_iast C (A7.1 4 (by decide)) rfl (show g.n < 60 by omega) (by decide) dX3_paw_126 ?_
        have A8 := A7.row (k := 4) (N := 60) (by decide) (upd (f 4) g.n (-1)) rfl
        have X8 := RepM.st (Y := Y) (N := 60) (v := upd (f 4) g.n (-1)) X7 (r2.ne (k := 4) (by decide))
        refine g_aload_n C dX3_paw_127 rfl (by first | rfl | exact isR_rf _) ?_
        refine gf_X3_26 C (X8) rfl dX3_paw_128 ?_
        refine g_aload_n C dX3_paw_131 rfl (by first | rfl | exact isR_rf _) ?_
        refine gf_X3_45 C (X8) rfl dX3_paw_132 ?_
        refine g_aload_n C dX3_paw_135 rfl (by first | rfl | exact isR_rf _) ?_
        refine gf_X3_9 C (X8) rfl dX3_paw_136 ?_
        refine g_iast C (A8.1 4 (by decide)) rfl (show g.now < 60 by omega) (by decide) dX3_paw_139 ?_
        have A9 := A8.row (k := 4) (N := 60) (by decide) (upd (upd (f 4) g.n (-1)) g.now (nI g.n)) rfl
        have X9 := RepM.st (Y := Y) (N := 60) (v := upd (upd (f 4) g.n (-1)) g.now (nI g.n)) X8 (r2.ne (k := 4) (by decide))
        refine g_aload_n C dX3_paw_140 rfl (by first | rfl | exact isR_rf _) ?_
        refine g_aload_n C dX3_paw_141 rfl (by first | rfl | exact isR_rf _) ?_
        refine gf_X3_9 C (X9) rfl dX3_paw_142 ?_
        refine pf_X3_45 C (X9) (Nat.le_of_ble_eq_true rfl) dX3_paw_145 ?_
        refine g_aload_n C dX3_paw_148 rfl (by first | rfl | exact isR_rf _) ?_
        refine g_dup C dX3_paw_149 (by first | rfl | exact cat_rf _) ?_
        refine gf_X3_9 C (hup_eq) rfl dX3_paw_150 ?_
        refine g_iconst C (v := nI 1) dX3_paw_153 (by decide) ?_
        first | with_reducible refine g_iaddN C dX3_paw_154 ?_ | refine g_iadd C dX3_paw_154 ?_
        refine pf_X3_9 C (hup_eq) (Nat.le_of_ble_eq_true rfl) dX3_paw_155 ?_
        rw [hup_hup]
        refine g_aload_n C dX3_paw_158 rfl (by first | rfl | exact isR_rf _) ?_
        refine gf_X3_45 C (hup_eq) rfl dX3_paw_159 ?_
        rw [eR]
        exact g_iret C hr dX3_paw_162 (Nat.le_of_ble_eq_true rfl) (Nat.le_of_ble_eq_true rfl) (⟨rfl, _, ⟨hup_eq, A9.up ⟨_, X9⟩ _, rw_paw r.rw iv hN rfl rfl rfl rfl rfl rfl⟩, (((((((((FrM.x).tr (FrM.row (k := 6) (by decide))).tr (FrM.row (k := 5) (by decide))).tr (FrM.row (k := 0) (by decide))).tr (FrM.row (k := 1) (by decide))).tr (FrM.row (k := 2) (by decide))).tr (FrM.row (k := 3) (by decide))).tr (FrM.row (k := 4) (by decide))).tr (FrM.row (k := 4) (by decide))).tr FrM.x⟩)
      · exact bad _ (by unfold rPaw; rw [if_pos eb, eP, hz]; exact if_neg (by omega)) rfl
  · refine g_aload_n C dX3_paw_13 rfl (by first | rfl | exact isR_rf _) ?_
    refine g_iconst C (v := nI 1) dX3_paw_14 (by decide) ?_
    refine g_callV C ((K_X3_no l Y r1 _).K) ok_X3_no w718 (r1.x) rfl rfl rfl dX3_paw_15 (Nat.le_of_ble_eq_true rfl) (Nat.le_of_ble_eq_true rfl) (Nat.le_of_ble_eq_true rfl) (Nat.le_of_ble_eq_true rfl) (Nat.le_of_ble_eq_true rfl) (ofS ?_)
    exact g_iret C hr dX3_paw_18 (Nat.le_of_ble_eq_true rfl) (Nat.le_of_ble_eq_true rfl) (pMu_no r (by unfold rPaw; rw [if_neg (by rw [eb]; decide)]))
