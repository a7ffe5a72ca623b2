def hasP (np : Nat) (i : Int32) : Bool := decide (0 ≤ i) && decide (i < nI np)
theorem hasP_N {np j : Nat} (hnp : np ≤ 16) (hj : j < 2 ^ 31) : hasP np (nI j) = decide (j < np) := by
  unfold hasP
  rw [decide_eq_true (nI_pos' hj), Bool.true_and]
  exact decide_eq_decide.mpr (nI_ltI hj (by omega))
theorem hasP_of {np : Nat} {i : Int32} (hnp : np ≤ 16) (h : hasP np i = true) : ∃ j, j < np ∧ i = nI j := by
  unfold hasP at h
  simp only [Bool.and_eq_true, decide_eq_true_eq] at h
  obtain ⟨j, hj, rfl⟩ := nI_of (x := i) (Int32.not_lt.mpr h.1)
  exact ⟨j, (nI_ltI hj (by omega)).mp h.2, rfl⟩
set_option maxRecDepth 100000 in
set_option maxHeartbeats 4000000 in
theorem K_X1_init (l : Launch) (Y : YG) {q pa : Nat} {a b : Int32} {h : AH} (hq : h q = some (.inr (2, [.int 0, .null, .int 0]))) : MX l Y yX1_init cX1_init 4 none 1 20 0 0 [.ref q, .int a, .ref pa, .int b] h (pV (fun h' => h' = hup h q (.inr (2, [.int a, .ref pa, .int b])))) (noX) := by
  refine MX.of (by decide +kernel) (Nat.le_of_ble_eq_true rfl) ?_
  intro p e s m args0 below meth c C hr hout hnm
  refine g_aload_n C dX1_init_0 rfl (by first | rfl | exact isR_rf _) ?_
  refine g_objinit C w36 w27 w_oi dX1_init_1 (Nat.le_of_ble_eq_true rfl) (Nat.le_of_ble_eq_true rfl) ?_
  refine g_aload_n C dX1_init_4 rfl (by first | rfl | exact isR_rf _) ?_
  refine g_iload_n C dX1_init_5 rfl ?_
  refine pf_X1_9 C hnm (hq) (Nat.le_of_ble_eq_true rfl) dX1_init_6 ?_
  refine g_aload_n C dX1_init_9 rfl (by first | rfl | exact isR_rf _) ?_
  refine g_aload_n C dX1_init_10 rfl (by first | rfl | exact isR_rf _) ?_
  refine pf_X1_15 C hnm (hup_eq) (Nat.le_of_ble_eq_true rfl) (by first | rfl | exact isR_rf _) dX1_init_11 ?_
  refine g_aload_n C dX1_init_14 rfl (by first | rfl | exact isR_rf _) ?_
  refine g_iload_n C dX1_init_15 rfl ?_
  refine pf_X1_19 C hnm (hup_eq) (Nat.le_of_ble_eq_true rfl) dX1_init_16 ?_
  exact g_vret C hr dX1_init_19 (Nat.le_of_ble_eq_true rfl) (Nat.le_of_ble_eq_true rfl) (⟨rfl, by rw [hup_hup, hup_hup]; rfl⟩)
set_option maxRecDepth 100000 in
set_option maxHeartbeats 4000000 in
theorem K_X1_has (l : Launch) (Y : YG) {q pa np ct lb : Nat} {fp : Nat → Int32} {h : AH} (hq : h q = some (.inr (2, [.int (nI ct), .ref pa, .int (nI lb)]))) (hp : h pa = some (aI Y np fp)) (hnp : np ≤ 16) (i : Int32) : MX l Y yX1_has cX1_has 2 (some .boolean) 0 0 0 0 [.ref q, .int i] h (pS (some (bI (hasP np i))) h) (noX) := by
  refine MX.of (by decide +kernel) (Nat.le_of_ble_eq_true rfl) ?_
  intro p e s m args0 below meth c C hr hout hnm
  refine g_iload_n C dX1_has_0 rfl ?_
  refine g_if_lt C (tgt := 17) dX1_has_1 (by decide) (fun q1 => ?_) (fun q1 => ?_)
  · refine g_iconst C (v := nI 0) dX1_has_17 (by decide) ?_
    exact g_zret C hr (by first | exact Or.inl rfl | exact Or.inr rfl) dX1_has_18 (Nat.le_of_ble_eq_true rfl) (Nat.le_of_ble_eq_true rfl) (⟨by rw [show hasP np i = false from by unfold hasP; rw [decide_eq_false (Int32.not_le.mpr q1), Bool.false_and]]; rfl, rfl⟩)
  · refine g_iload_n C dX1_has_4 rfl ?_
    refine g_aload_n C dX1_has_5 rfl (by first | rfl | exact isR_rf _) ?_
    refine gf_X1_15 C (hq) rfl dX1_has_6 ?_
    refine g_aleni C (hp) dX1_has_9 ?_
    refine g_icmp_ge C (tgt := 17) dX1_has_10 (by decide) (fun q2 => ?_) (fun q2 => ?_)
    · refine g_iconst C (v := nI 0) dX1_has_17 (by decide) ?_
      exact g_zret C hr (by first | exact Or.inl rfl | exact Or.inr rfl) dX1_has_18 (Nat.le_of_ble_eq_true rfl) (Nat.le_of_ble_eq_true rfl) (⟨by rw [show hasP np i = false from by unfold hasP; rw [decide_eq_false (Int32.not_lt.mpr q2), Bool.and_false]]; rfl, rfl⟩)
    · refine g_iconst C (v := nI 1) dX1_has_13 (by decide) ?_
      refine g_goto C (tgt := 18) dX1_has_14 (by decide) ?_
      exact g_zret C hr (by first | exact Or.inl rfl | exact Or.inr rfl) dX1_has_18 (Nat.le_of_ble_eq_true rfl) (Nat.le_of_ble_eq_true rfl) (⟨by rw [show hasP np i = true from by unfold hasP; rw [decide_eq_true (Int32.not_lt.mp q1), decide_eq_true (Int32.not_le.mp q2)]; rfl]; rfl, rfl⟩)
def lyB (np lb j : Nat) : Bool := decide (j < np) && lb.testBit j
theorem shr_bit {lb j : Nat} (hl : lb < 65536) (hj : j < 16) : (nI lb >>> (nI j &&& 31)) &&& nI 1 = if lb.testBit j then nI 1 else nI 0 := by
  have hs : ((nI j &&& 31).toBitVec.smod 32).toNat = j := by
    have : ∀ j, j < 16 → ((nI j &&& 31).toBitVec.smod 32).toNat = j := by decide +kernel
    exact this j hj
  rw [pk_shrN (n := lb) (by omega) _ j hs]
  have e : (1 : Int32) = nI 1 := rfl
  rw [pk_andN (n := lb / 2 ^ j) (by have := Nat.div_le_self lb (2 ^ j); omega) 1 (by decide)]
  rw [Nat.testBit_eq_decide_div_mod_eq]
  have h2 := Nat.mod_two_eq_zero_or_one (lb / 2 ^ j)
  rcases h2 with h2 | h2
  · rw [show lb / 2 ^ j % 2 ^ 1 = lb / 2 ^ j % 2 from rfl, h2]; rfl
  · rw [show lb / 2 ^ j % 2 ^ 1 = lb / 2 ^ j % 2 from rfl, h2]; rfl
set_option maxRecDepth 100000 in
set_option maxHeartbeats 4000000 in
theorem K_X1_isLying (l : Launch) (Y : YG) {q pa np ct lb : Nat} {fp : Nat → Int32} {h : AH} (hq : h q = some (.inr (2, [.int (nI ct), .ref pa, .int (nI lb)]))) (hp : h pa = some (aI Y np fp)) (hnp : np ≤ 16) (hlb : lb < 65536) {j : Nat} (hj : j < 2 ^ 31) : MX l Y yX1_isLying cX1_isLying 2 (some .boolean) 1 21 0 0 [.ref q, .int (nI j)] h (pS (some (bI (lyB np lb j))) h) (noX) := by
  refine MX.of (by decide +kernel) (Nat.le_of_ble_eq_true rfl) ?_
  intro p e s m args0 below meth c C hr hout hnm
  by_cases hjn : j < np
  · refine g_aload_n C dX1_isLying_0 rfl (by first | rfl | exact isR_rf _) ?_
    refine g_iload_n C dX1_isLying_1 rfl ?_
    refine g_callV C ((K_X1_has l Y hq hp hnp (nI j)).K) ok_X1_has w432 (hq) rfl rfl rfl dX1_isLying_2 (Nat.le_of_ble_eq_true rfl) (Nat.le_of_ble_eq_true rfl) (Nat.le_of_ble_eq_true rfl) (Nat.le_of_ble_eq_true rfl) (Nat.le_of_ble_eq_true rfl) (ofS ?_)
    rw [hasP_N hnp hj, decide_eq_true hjn]
    refine g_if_eq C (tgt := 24) dX1_isLying_5 (by decide) (fun q1 => ?_) (fun q1 => ?_)
    · exact absurd q1 (by decide)
    · refine g_aload_n C dX1_isLying_8 rfl (by first | rfl | exact isR_rf _) ?_
      refine gf_X1_19 C (hq) rfl dX1_isLying_9 ?_
      have hsb := shr_bit hlb (show j < 16 by omega)
      refine g_iload_n C dX1_isLying_12 rfl ?_
      refine g_ishr C dX1_isLying_13 ?_
      refine g_iconst C (v := nI 1) dX1_isLying_14 (by decide) ?_
      refine g_iand C dX1_isLying_15 ?_
      rw [hsb]
      cases hbt : lb.testBit j
      · rw [if_neg (by decide)]
        refine g_iconst C (v := nI 1) dX1_isLying_16 (by decide) ?_
        refine g_icmp_ne C (tgt := 24) dX1_isLying_17 (by decide) (fun q => ?_) (fun q => absurd q (by decide))
        refine g_iconst C (v := nI 0) dX1_isLying_24 (by decide) ?_
        exact g_zret C hr (Or.inl rfl) dX1_isLying_25 (Nat.le_of_ble_eq_true rfl) (Nat.le_of_ble_eq_true rfl) ⟨by rw [show lyB np lb j = false from by unfold lyB; rw [hbt, Bool.and_false]]; rfl, rfl⟩
      rw [if_pos rfl]
      refine g_iconst C (v := nI 1) dX1_isLying_16 (by decide) ?_
      refine g_icmp_ne C (tgt := 24) dX1_isLying_17 (by decide) (fun q => absurd rfl q) (fun q => ?_)
      refine g_iconst C (v := nI 1) dX1_isLying_20 (by decide) ?_
      refine g_goto C (tgt := 25) dX1_isLying_21 (by decide) ?_
      exact g_zret C hr (by first | exact Or.inl rfl | exact Or.inr rfl) dX1_isLying_25 (Nat.le_of_ble_eq_true rfl) (Nat.le_of_ble_eq_true rfl) (⟨by rw [show lyB np lb j = true from by unfold lyB; rw [hbt, decide_eq_true hjn]; rfl]; rfl, rfl⟩)
  · refine g_aload_n C dX1_isLying_0 rfl (by first | rfl | exact isR_rf _) ?_
    refine g_iload_n C dX1_isLying_1 rfl ?_
    refine g_callV C ((K_X1_has l Y hq hp hnp (nI j)).K) ok_X1_has w432 (hq) rfl rfl rfl dX1_isLying_2 (Nat.le_of_ble_eq_true rfl) (Nat.le_of_ble_eq_true rfl) (Nat.le_of_ble_eq_true rfl) (Nat.le_of_ble_eq_true rfl) (Nat.le_of_ble_eq_true rfl) (ofS ?_)
    rw [hasP_N hnp hj, decide_eq_false hjn]
    refine g_if_eq C (tgt := 24) dX1_isLying_5 (by decide) (fun q1 => ?_) (fun q1 => ?_)
    · refine g_iconst C (v := nI 0) dX1_isLying_24 (by decide) ?_
      exact g_zret C hr (by first | exact Or.inl rfl | exact Or.inr rfl) dX1_isLying_25 (Nat.le_of_ble_eq_true rfl) (Nat.le_of_ble_eq_true rfl) (⟨by rw [show lyB np lb j = false from by unfold lyB; rw [decide_eq_false hjn]; rfl]; rfl, rfl⟩)
    · exact absurd rfl q1
set_option maxRecDepth 100000 in
set_option maxHeartbeats 4000000 in
theorem K_X1_isStanding (l : Launch) (Y : YG) {q pa np ct lb : Nat} {fp : Nat → Int32} {h : AH} (hq : h q = some (.inr (2, [.int (nI ct), .ref pa, .int (nI lb)]))) (hp : h pa = some (aI Y np fp)) (hnp : np ≤ 16) (hlb : lb < 65536) {j : Nat} (hj : j < 2 ^ 31) : MX l Y yX1_isStanding cX1_isStanding 2 (some .boolean) 2 42 0 0 [.ref q, .int (nI j)] h (pS (some (bI (decide (j < np) && !lb.testBit j))) h) (noX) := by
  refine MX.of (by decide +kernel) (Nat.le_of_ble_eq_true rfl) ?_
  intro p e s m args0 below meth c C hr hout hnm
  by_cases hjn : j < np
  · refine g_aload_n C dX1_isStanding_0 rfl (by first | rfl | exact isR_rf _) ?_
    refine g_iload_n C dX1_isStanding_1 rfl ?_
    refine g_callV C ((K_X1_has l Y hq hp hnp (nI j)).K) ok_X1_has w432 (hq) rfl rfl rfl dX1_isStanding_2 (Nat.le_of_ble_eq_true rfl) (Nat.le_of_ble_eq_true rfl) (Nat.le_of_ble_eq_true rfl) (Nat.le_of_ble_eq_true rfl) (Nat.le_of_ble_eq_true rfl) (ofS ?_)
    rw [hasP_N hnp hj, decide_eq_true hjn]
    refine g_if_eq C (tgt := 20) dX1_isStanding_5 (by decide) (fun q1 => ?_) (fun q1 => ?_)
    · exact absurd q1 (by decide)
    · refine g_aload_n C dX1_isStanding_8 rfl (by first | rfl | exact isR_rf _) ?_
      refine g_iload_n C dX1_isStanding_9 rfl ?_
      refine g_callV C ((K_X1_isLying l Y hq hp hnp hlb hj).K) ok_X1_isLying w655 (hq) rfl rfl rfl dX1_isStanding_10 (Nat.le_of_ble_eq_true rfl) (Nat.le_of_ble_eq_true rfl) (Nat.le_of_ble_eq_true rfl) (Nat.le_of_ble_eq_true rfl) (Nat.le_of_ble_eq_true rfl) (ofS ?_)
      rw [show lyB np lb j = lb.testBit j from by unfold lyB; rw [decide_eq_true hjn, Bool.true_and]]
      cases hbt : lb.testBit j
      · refine g_if_ne C (tgt := 20) dX1_isStanding_13 (by decide) (fun q => absurd rfl q) (fun q => ?_)
        refine g_iconst C (v := nI 1) dX1_isStanding_16 (by decide) ?_
        refine g_goto C (tgt := 21) dX1_isStanding_17 (by decide) ?_
        exact g_zret C hr (Or.inr rfl) dX1_isStanding_21 (Nat.le_of_ble_eq_true rfl) (Nat.le_of_ble_eq_true rfl) ⟨rfl, rfl⟩
      refine g_if_ne C (tgt := 20) dX1_isStanding_13 (by decide) (fun q => ?_) (fun q => absurd q (by decide))
      refine g_iconst C (v := nI 0) dX1_isStanding_20 (by decide) ?_
      exact g_zret C hr (by first | exact Or.inl rfl | exact Or.inr rfl) dX1_isStanding_21 (Nat.le_of_ble_eq_true rfl) (Nat.le_of_ble_eq_true rfl) (⟨rfl, rfl⟩)
  · refine g_aload_n C dX1_isStanding_0 rfl (by first | rfl | exact isR_rf _) ?_
    refine g_iload_n C dX1_isStanding_1 rfl ?_
    refine g_callV C ((K_X1_has l Y hq hp hnp (nI j)).K) ok_X1_has w432 (hq) rfl rfl rfl dX1_isStanding_2 (Nat.le_of_ble_eq_true rfl) (Nat.le_of_ble_eq_true rfl) (Nat.le_of_ble_eq_true rfl) (Nat.le_of_ble_eq_true rfl) (Nat.le_of_ble_eq_true rfl) (ofS ?_)
    rw [hasP_N hnp hj, decide_eq_false hjn]
    refine g_if_eq C (tgt := 20) dX1_isStanding_5 (by decide) (fun q1 => ?_) (fun q1 => ?_)
    · refine g_iconst C (v := nI 0) dX1_isStanding_20 (by decide) ?_
      exact g_zret C hr (by first | exact Or.inl rfl | exact Or.inr rfl) dX1_isStanding_21 (Nat.le_of_ble_eq_true rfl) (Nat.le_of_ble_eq_true rfl) (⟨rfl, rfl⟩)
    · exact absurd rfl q1
def bcE (v : Int32) : Int32 :=
  let a := v - ((v.toUInt32 >>> ((nI 1).toUInt32 &&& Int32.toUInt32 31)).toInt32 &&& 1431655765)
  let b := (a &&& 858993459) + ((a.toUInt32 >>> ((nI 2).toUInt32 &&& Int32.toUInt32 31)).toInt32 &&& 858993459)
  let c := (b + (b.toUInt32 >>> ((nI 4).toUInt32 &&& Int32.toUInt32 31)).toInt32) &&& 252645135
  let d := c + (c.toUInt32 >>> ((nI 8).toUInt32 &&& Int32.toUInt32 31)).toInt32
  (d + (d.toUInt32 >>> ((nI 16).toUInt32 &&& Int32.toUInt32 31)).toInt32) &&& nI 63
set_option maxRecDepth 100000 in
set_option maxHeartbeats 4000000 in
theorem K_J6_bitCount_0f7a4 (l : Launch) (Y : YG) {h : AH} (v : Int32) : MX l Y yJ6_bitCount_0f7a4 cJ6_bitCount_0f7a4 1 (some .int) 0 0 0 0 [.int v] h (pS (some (.int (bcE v))) h) (noX) := by
  refine MX.of (by decide +kernel) (Nat.le_of_ble_eq_true rfl) ?_
  intro p e s m args0 below meth c C hr hout hnm
  refine g_iload_n C dJ6_bitCount_0f7a4_0 rfl ?_
  refine g_iload_n C dJ6_bitCount_0f7a4_1 rfl ?_
  refine g_iconst C (v := nI 1) dJ6_bitCount_0f7a4_2 (by decide) ?_
  refine g_iushr C dJ6_bitCount_0f7a4_3 ?_
  refine g_ldcw C dJ6_bitCount_0f7a4_4 w370 ?_
  refine g_iand C dJ6_bitCount_0f7a4_7 ?_
  refine g_isub C dJ6_bitCount_0f7a4_8 ?_
  refine g_istore_n C dJ6_bitCount_0f7a4_9 (by decide) ?_
  refine g_iload_n C dJ6_bitCount_0f7a4_10 rfl ?_
  refine g_ldcw C dJ6_bitCount_0f7a4_11 w371 ?_
  refine g_iand C dJ6_bitCount_0f7a4_14 ?_
  refine g_iload_n C dJ6_bitCount_0f7a4_15 rfl ?_
  refine g_iconst C (v := nI 2) dJ6_bitCount_0f7a4_16 (by decide) ?_
  refine g_iushr C dJ6_bitCount_0f7a4_17 ?_
  refine g_ldcw C dJ6_bitCount_0f7a4_18 w371 ?_
  refine g_iand C dJ6_bitCount_0f7a4_21 ?_
  first | with_reducible refine g_iaddN C dJ6_bitCount_0f7a4_22 ?_ | refine g_iadd C dJ6_bitCount_0f7a4_22 ?_
  refine g_istore_n C dJ6_bitCount_0f7a4_23 (by decide) ?_
  refine g_iload_n C dJ6_bitCount_0f7a4_24 rfl ?_
  refine g_iload_n C dJ6_bitCount_0f7a4_25 rfl ?_
  refine g_iconst C (v := nI 4) dJ6_bitCount_0f7a4_26 (by decide) ?_
  refine g_iushr C dJ6_bitCount_0f7a4_27 ?_
  first | with_reducible refine g_iaddN C dJ6_bitCount_0f7a4_28 ?_ | refine g_iadd C dJ6_bitCount_0f7a4_28 ?_
  refine g_ldcw C dJ6_bitCount_0f7a4_29 w372 ?_
  refine g_iand C dJ6_bitCount_0f7a4_32 ?_
  refine g_istore_n C dJ6_bitCount_0f7a4_33 (by decide) ?_
  refine g_iload_n C dJ6_bitCount_0f7a4_34 rfl ?_
  refine g_iload_n C dJ6_bitCount_0f7a4_35 rfl ?_
  refine g_bipush C (v := nI 8) dJ6_bitCount_0f7a4_36 (by decide) ?_
  refine g_iushr C dJ6_bitCount_0f7a4_38 ?_
  first | with_reducible refine g_iaddN C dJ6_bitCount_0f7a4_39 ?_ | refine g_iadd C dJ6_bitCount_0f7a4_39 ?_
  refine g_istore_n C dJ6_bitCount_0f7a4_40 (by decide) ?_
  refine g_iload_n C dJ6_bitCount_0f7a4_41 rfl ?_
  refine g_iload_n C dJ6_bitCount_0f7a4_42 rfl ?_
  refine g_bipush C (v := nI 16) dJ6_bitCount_0f7a4_43 (by decide) ?_
  refine g_iushr C dJ6_bitCount_0f7a4_45 ?_
  first | with_reducible refine g_iaddN C dJ6_bitCount_0f7a4_46 ?_ | refine g_iadd C dJ6_bitCount_0f7a4_46 ?_
  refine g_istore_n C dJ6_bitCount_0f7a4_47 (by decide) ?_
  refine g_iload_n C dJ6_bitCount_0f7a4_48 rfl ?_
  refine g_bipush C (v := nI 63) dJ6_bitCount_0f7a4_49 (by decide) ?_
  refine g_iand C dJ6_bitCount_0f7a4_51 ?_
  exact g_iret C hr dJ6_bitCount_0f7a4_52 (Nat.le_of_ble_eq_true rfl) (Nat.le_of_ble_eq_true rfl) (⟨rfl, rfl⟩)
set_option maxRecDepth 100000 in
set_option maxHeartbeats 4000000 in
theorem K_X1_countLying (l : Launch) (Y : YG) {q pa np ct lb : Nat} {fp : Nat → Int32} {h : AH} (hq : h q = some (.inr (2, [.int (nI ct), .ref pa, .int (nI lb)]))) (hp : h pa = some (aI Y np fp)) (hnp : np ≤ 16) : MX l Y yX1_countLying cX1_countLying 1 (some .int) 1 20 0 0 [.ref q] h (pS (some (.int (bcE (nI lb)))) h) (noX) := by
  refine MX.of (by decide +kernel) (Nat.le_of_ble_eq_true rfl) ?_
  intro p e s m args0 below meth c C hr hout hnm
  refine g_aload_n C dX1_countLying_0 rfl (by first | rfl | exact isR_rf _) ?_
  refine gf_X1_19 C (hq) rfl dX1_countLying_1 ?_
  refine g_callS C ((K_J6_bitCount_0f7a4 l Y (nI lb)).K) ok_J6_bitCount_0f7a4 w367 rfl rfl dX1_countLying_4 (Nat.le_of_ble_eq_true rfl) (Nat.le_of_ble_eq_true rfl) (Nat.le_of_ble_eq_true rfl) (Nat.le_of_ble_eq_true rfl) (Nat.le_of_ble_eq_true rfl) (ofS ?_)
  exact g_iret C hr dX1_countLying_7 (Nat.le_of_ble_eq_true rfl) (Nat.le_of_ble_eq_true rfl) (⟨rfl, rfl⟩)
def nO (r : Option Nat) : Int32 := match r with
  | none => -1
  | some j => nI j
set_option maxRecDepth 100000 in
set_option maxHeartbeats 4000000 in
theorem K_X1_pieceOn (l : Launch) (Y : YG) {q pa np ct lb : Nat} {fp : Nat → Int32} {h : AH} (hq : h q = some (.inr (2, [.int (nI ct), .ref pa, .int (nI lb)]))) (hp : h pa = some (aI Y np fp)) (hnp : np ≤ 16) {pos : Nat → Nat} {w : Int32} {pl : Nat} (hfp : ∀ j, j < np → fp j = nI (pos j)) (hw : ∀ j, j < np → (nI (pos j) = w ↔ pos j = pl)) : MX l Y yX1_pieceOn cX1_pieceOn 3 (some .int) 0 0 0 0 [.ref q, .int w] h (pS (some (.int (nO (pon pos pl np 0)))) h) (noX) := by
  refine MX.of (by decide +kernel) (Nat.le_of_ble_eq_true rfl) ?_
  intro p e s m args0 below meth c C hr hout hnm
  have lp : ∀ (d i : Nat), i ≤ np → np - i < d → pon pos pl (np - i) i = pon pos pl np 0 → Gd p l e (rmO 0 0 0 0) s m args0 below meth c (vx_MQ below (Qk Y (pS (some (.int (nO (pon pos pl np 0)))) h)) (Xk Y (noX)) args0 s 0 0 Y.A) Y 3 2 [some (.ref q), some (.int w), some (.int (nI i))] [] h 0 0 := by
    intro d
    induction d with
    | zero => intro i h1 h2; omega
    | succ d ih =>
      intro i hi hd hS
      refine g_iload_n C dX1_pieceOn_2 rfl ?_
      refine g_aload_n C dX1_pieceOn_3 rfl (by first | rfl | exact isR_rf _) ?_
      refine gf_X1_15 C (hq) rfl dX1_pieceOn_4 ?_
      refine g_aleni C (hp) dX1_pieceOn_7 ?_
      refine g_icmp_geN C (tgt := 29) dX1_pieceOn_8 (by decide) (by omega) (by omega) (fun q1 => ?_) (fun q1 => ?_)
      · have e0 : np - i = 0 := by omega
        rw [e0] at hS
        refine g_iconst C (v := (-1)) dX1_pieceOn_29 (by decide) ?_
        exact g_iret C hr dX1_pieceOn_30 (Nat.le_of_ble_eq_true rfl) (Nat.le_of_ble_eq_true rfl) (⟨by rw [← hS]; rfl, rfl⟩)
      · refine g_aload_n C dX1_pieceOn_11 rfl (by first | rfl | exact isR_rf _) ?_
        refine gf_X1_15 C (hq) rfl dX1_pieceOn_12 ?_
        refine g_iload_n C dX1_pieceOn_15 rfl ?_
        refine g_iald C hp rfl q1 (by omega) dX1_pieceOn_16 ?_
        have eS : pon pos pl (np - i) i = if pos i = pl then some i else pon pos pl (np - (i + 1)) (i + 1) := by
          rw [show np - i = (np - (i + 1)) + 1 by omega]
          rfl
        rw [hfp i q1]
        refine g_iload_n C dX1_pieceOn_17 rfl ?_
        refine g_icmp_ne C (tgt := 23) dX1_pieceOn_18 (by decide) (fun q2 => ?_) (fun q2 => ?_)
        · rw [if_neg (fun z => q2 ((hw i q1).mpr z))] at eS
          refine g_iincN C dX1_pieceOn_23 rfl (by decide) ?_
          refine g_goto C (tgt := 2) dX1_pieceOn_26 (by decide) ?_
          exact ih (i + 1) (by omega) (by omega) (eS.symm.trans hS)
        · rw [if_pos ((hw i q1).mp q2)] at eS
          refine g_iload_n C dX1_pieceOn_21 rfl ?_
          exact g_iret C hr dX1_pieceOn_22 (Nat.le_of_ble_eq_true rfl) (Nat.le_of_ble_eq_true rfl) (⟨by rw [← hS, eS]; rfl, rfl⟩)
  refine g_iconst C (v := nI 0) dX1_pieceOn_0 (by decide) ?_
  refine g_istore_n C dX1_pieceOn_1 (by decide) ?_
  exact lp (np + 1) 0 (Nat.zero_le _) (by omega) rfl
