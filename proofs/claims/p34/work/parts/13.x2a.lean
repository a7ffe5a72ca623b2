def onB (c r : Int32) : Bool := if c < 0 then false else if nI 8 ≤ c then false else if r < 0 then false else if nI 8 ≤ r then false else true
theorem far_ok : ∀ p, p < 64 → ∀ d, d < 8 → (if onB (nI (p / 8) + colS d) (nI (p % 8) + rowS d) = true then (nI (p / 8) + colS d) * nI 8 + (nI (p % 8) + rowS d) else -1) = nO (fa p d) := by decide +kernel
def in8 (n : Int32) : Bool := if n < 0 then false else if nI 8 ≤ n then false else true
def in16 (n : Int32) : Bool := if n < 0 then false else if nI 16 ≤ n then false else true
def ispB (k n : Int32) : Bool := if k = nI 0 ∨ k = nI 3 then in8 n else if k = nI 1 ∨ k = nI 2 then in16 n else false
theorem k4_out {k : Int32} (h0 : k ≠ nI 0) (h1 : k ≠ nI 1) (h2 : k ≠ nI 2) (h3 : k ≠ nI 3) : k.toInt < 0 ∨ 3 < k.toInt := by
  rcases Int.lt_or_le k.toInt 0 with q | q
  · exact Or.inl q
  · rcases Int.lt_or_le 3 k.toInt with q2 | q2
    · exact Or.inr q2
    · exfalso
      obtain ⟨j, hj, rfl⟩ := nI_of (x := k) (fun z => by have := Int32.lt_iff_toInt_lt.mp z; have e : (0 : Int32).toInt = 0 := by decide
                                                         rw [e] at this; omega)
      rw [nI_toInt hj] at q2
      have : j = 0 ∨ j = 1 ∨ j = 2 ∨ j = 3 := by omega
      rcases this with rfl | rfl | rfl | rfl
      · exact h0 rfl
      · exact h1 rfl
      · exact h2 rfl
      · exact h3 rfl
set_option maxRecDepth 100000 in
set_option maxHeartbeats 4000000 in
theorem K_X2_isOnBoard (l : Launch) (Y : YG) {h : AH} (c0 r0 : Int32) : MX l Y yX2_isOnBoard cX2_isOnBoard 2 (some .boolean) 0 0 0 0 [.int c0, .int r0] h (pS (some (bI (onB c0 r0))) h) (noX) := by
  refine MX.of (by decide +kernel) (Nat.le_of_ble_eq_true rfl) ?_
  intro p e s m args0 below meth c C hr hout hnm
  refine g_iload_n C dX2_isOnBoard_0 rfl ?_
  refine g_if_lt C (tgt := 24) dX2_isOnBoard_1 (by decide) (fun q1 => ?_) (fun q1 => ?_)
  · refine g_iconst C (v := nI 0) dX2_isOnBoard_24 (by decide) ?_
    exact g_zret C hr (by first | exact Or.inl rfl | exact Or.inr rfl) dX2_isOnBoard_25 (Nat.le_of_ble_eq_true rfl) (Nat.le_of_ble_eq_true rfl) (⟨by rw [show onB c0 r0 = false from by unfold onB; rw [if_pos q1]]; rfl, rfl⟩)
  · refine g_iload_n C dX2_isOnBoard_4 rfl ?_
    refine g_bipush C (v := nI 8) dX2_isOnBoard_5 (by decide) ?_
    refine g_icmp_ge C (tgt := 24) dX2_isOnBoard_7 (by decide) (fun q2 => ?_) (fun q2 => ?_)
    · refine g_iconst C (v := nI 0) dX2_isOnBoard_24 (by decide) ?_
      exact g_zret C hr (by first | exact Or.inl rfl | exact Or.inr rfl) dX2_isOnBoard_25 (Nat.le_of_ble_eq_true rfl) (Nat.le_of_ble_eq_true rfl) (⟨by rw [show onB c0 r0 = false from by unfold onB; rw [if_neg q1, if_pos q2]]; rfl, rfl⟩)
    · refine g_iload_n C dX2_isOnBoard_10 rfl ?_
      refine g_if_lt C (tgt := 24) dX2_isOnBoard_11 (by decide) (fun q3 => ?_) (fun q3 => ?_)
      · refine g_iconst C (v := nI 0) dX2_isOnBoard_24 (by decide) ?_
        exact g_zret C hr (by first | exact Or.inl rfl | exact Or.inr rfl) dX2_isOnBoard_25 (Nat.le_of_ble_eq_true rfl) (Nat.le_of_ble_eq_true rfl) (⟨by rw [show onB c0 r0 = false from by unfold onB; rw [if_neg q1, if_neg q2, if_pos q3]]; rfl, rfl⟩)
      · refine g_iload_n C dX2_isOnBoard_14 rfl ?_
        refine g_bipush C (v := nI 8) dX2_isOnBoard_15 (by decide) ?_
        refine g_icmp_ge C (tgt := 24) dX2_isOnBoard_17 (by decide) (fun q4 => ?_) (fun q4 => ?_)
        · refine g_iconst C (v := nI 0) dX2_isOnBoard_24 (by decide) ?_
          exact g_zret C hr (by first | exact Or.inl rfl | exact Or.inr rfl) dX2_isOnBoard_25 (Nat.le_of_ble_eq_true rfl) (Nat.le_of_ble_eq_true rfl) (⟨by rw [show onB c0 r0 = false from by unfold onB; rw [if_neg q1, if_neg q2, if_neg q3, if_pos q4]]; rfl, rfl⟩)
        · refine g_iconst C (v := nI 1) dX2_isOnBoard_20 (by decide) ?_
          refine g_goto C (tgt := 25) dX2_isOnBoard_21 (by decide) ?_
          exact g_zret C hr (by first | exact Or.inl rfl | exact Or.inr rfl) dX2_isOnBoard_25 (Nat.le_of_ble_eq_true rfl) (Nat.le_of_ble_eq_true rfl) (⟨by rw [show onB c0 r0 = true from by unfold onB; rw [if_neg q1, if_neg q2, if_neg q3, if_neg q4]]; rfl, rfl⟩)
set_option maxRecDepth 100000 in
set_option maxHeartbeats 4000000 in
theorem K_X2_farther (l : Launch) (Y : YG) {h : AH} {w d : Nat} (hw : w < 64) (hd8 : d < 8) : MX l Y yX2_farther cX2_farther 4 (some .int) 1 21 0 0 [.int (nI w), .int (nI d)] h (pS (some (.int (nO (fa w d)))) h) (noX) := by
  refine MX.of (by decide +kernel) (Nat.le_of_ble_eq_true rfl) ?_
  intro p e s m args0 below meth c C hr hout hnm
  refine g_iload_n C dX2_farther_0 rfl ?_
  refine g_if_lt C (tgt := 24) dX2_farther_1 (by decide) (fun q1 => ?_) (fun q1 => ?_)
  · exact absurd q1 (nI_pos (by omega))
  · refine g_iload_n C dX2_farther_4 rfl ?_
    refine g_if_lt C (tgt := 24) dX2_farther_5 (by decide) (fun q2 => ?_) (fun q2 => ?_)
    · exact absurd q2 (nI_pos (by omega))
    · refine g_iload_n C dX2_farther_8 rfl ?_
      refine g_gettab C (tf_col C) w643 dX2_farther_9 (fun ta hta => ?_)
      refine g_tlen C hta dX2_farther_12 ?_
      refine g_icmp_geN C (tgt := 24) dX2_farther_13 (by decide) (by omega) (by omega) (fun q3 => ?_) (fun q3 => ?_)
      · omega
      · refine g_iload_n C dX2_farther_16 rfl ?_
        refine g_gettab C (tf_row C) w645 dX2_farther_17 (fun tb htb => ?_)
        refine g_tlen C htb dX2_farther_20 ?_
        refine g_icmp_ltN C (tgt := 26) dX2_farther_21 (by decide) (by omega) (by omega) (fun q4 => ?_) (fun q4 => ?_)
        · refine g_iload_n C dX2_farther_26 rfl ?_
          refine g_bipush C (v := nI 8) dX2_farther_27 (by decide) ?_
          first | with_reducible refine g_idivN C dX2_farther_29 (by omega) (by decide) ?_ | refine g_idiv C dX2_farther_29 (by decide) ?_
          refine g_gettab C (tf_col C) w643 dX2_farther_30 (fun tc htc => ?_)
          refine g_iload_n C dX2_farther_33 rfl ?_
          refine g_tald C htc rfl hd8 dX2_farther_34 ?_
          first | with_reducible refine g_iaddN C dX2_farther_35 ?_ | refine g_iadd C dX2_farther_35 ?_
          refine g_istore_n C dX2_farther_36 (by decide) ?_
          refine g_iload_n C dX2_farther_37 rfl ?_
          refine g_bipush C (v := nI 8) dX2_farther_38 (by decide) ?_
          first | with_reducible refine g_iremN C dX2_farther_40 (by omega) (by decide) ?_ | refine g_irem C dX2_farther_40 (by decide) ?_
          refine g_gettab C (tf_row C) w645 dX2_farther_41 (fun td htd => ?_)
          refine g_iload_n C dX2_farther_44 rfl ?_
          refine g_tald C htd rfl hd8 dX2_farther_45 ?_
          have ho := far_ok w hw d hd8
          first | with_reducible refine g_iaddN C dX2_farther_46 ?_ | refine g_iadd C dX2_farther_46 ?_
          refine g_istore_n C dX2_farther_47 (by decide) ?_
          refine g_iload_n C dX2_farther_48 rfl ?_
          refine g_iload_n C dX2_farther_49 rfl ?_
          refine g_callS C ((K_X2_isOnBoard l Y (nI (w / 8) + colS d) (nI (w % 8) + rowS d)).K) ok_X2_isOnBoard w554 rfl rfl dX2_farther_50 (Nat.le_of_ble_eq_true rfl) (Nat.le_of_ble_eq_true rfl) (Nat.le_of_ble_eq_true rfl) (Nat.le_of_ble_eq_true rfl) (Nat.le_of_ble_eq_true rfl) (ofS ?_)
          cases hb : onB (nI (w / 8) + colS d) (nI (w % 8) + rowS d)
          · rw [hb, if_neg (by decide)] at ho
            refine g_if_eq C (tgt := 65) dX2_farther_53 (by decide) (fun q => ?_) (fun q => absurd rfl q)
            refine g_iconst C (v := (-1)) dX2_farther_65 (by decide) ?_
            exact g_iret C hr dX2_farther_66 (Nat.le_of_ble_eq_true rfl) (Nat.le_of_ble_eq_true rfl) ⟨by rw [← ho], rfl⟩
          rw [hb, if_pos rfl] at ho
          refine g_if_eq C (tgt := 65) dX2_farther_53 (by decide) (fun q => absurd q (by decide)) (fun q => ?_)
          refine g_iload_n C dX2_farther_56 rfl ?_
          refine g_bipush C (v := nI 8) dX2_farther_57 (by decide) ?_
          first | with_reducible refine g_imulN C dX2_farther_59 ?_ | refine g_imul C dX2_farther_59 ?_
          refine g_iload_n C dX2_farther_60 rfl ?_
          first | with_reducible refine g_iaddN C dX2_farther_61 ?_ | refine g_iadd C dX2_farther_61 ?_
          refine g_goto C (tgt := 66) dX2_farther_62 (by decide) ?_
          exact g_iret C hr dX2_farther_66 (Nat.le_of_ble_eq_true rfl) (Nat.le_of_ble_eq_true rfl) (⟨by rw [← ho], rfl⟩)
        · omega
set_option maxRecDepth 100000 in
set_option maxHeartbeats 4000000 in
theorem K_X2_farther_none (l : Launch) (Y : YG) {h : AH} (d : Nat) : MX l Y yX2_farther cX2_farther 4 (some .int) 1 21 0 0 [.int (-1), .int (nI d)] h (pS (some (.int (-1))) h) (noX) := by
  refine MX.of (by decide +kernel) (Nat.le_of_ble_eq_true rfl) ?_
  intro p e s m args0 below meth c C hr hout hnm
  refine g_iload_n C dX2_farther_0 rfl ?_
  refine g_if_lt C (tgt := 24) dX2_farther_1 (by decide) (fun q1 => ?_) (fun q1 => ?_)
  · refine g_iconst C (v := (-1)) dX2_farther_24 (by decide) ?_
    exact g_iret C hr dX2_farther_25 (Nat.le_of_ble_eq_true rfl) (Nat.le_of_ble_eq_true rfl) (⟨rfl, rfl⟩)
  · exact absurd (by decide) q1
set_option maxRecDepth 100000 in
set_option maxHeartbeats 4000000 in
theorem K_X2_isPaw (l : Launch) (Y : YG) {h : AH} (k0 n0 : Int32) : MX l Y yX2_isPaw cX2_isPaw 2 (some .boolean) 0 0 0 0 [.int k0, .int n0] h (pS (some (bI (ispB k0 n0))) h) (noX) := by
  refine MX.of (by decide +kernel) (Nat.le_of_ble_eq_true rfl) ?_
  intro p e s m args0 below meth c C hr hout hnm
  have a8 : ispB k0 n0 = in8 n0 → Gd p l e (rmO 0 0 0 0) s m args0 below meth c (vx_MQ below (Qk Y (pS (some (bI (ispB k0 n0))) h)) (Xk Y (noX)) args0 s 0 0 Y.A) Y 2 32 [some (.int k0), some (.int n0)] [] h 0 0 := by
    intro he
    refine g_iload_n C dX2_isPaw_32 rfl ?_
    refine g_if_lt C (tgt := 46) dX2_isPaw_33 (by decide) (fun q1 => ?_) (fun q1 => ?_)
    · refine g_iconst C (v := nI 0) dX2_isPaw_46 (by decide) ?_
      exact g_zret C hr (by first | exact Or.inl rfl | exact Or.inr rfl) dX2_isPaw_47 (Nat.le_of_ble_eq_true rfl) (Nat.le_of_ble_eq_true rfl) (⟨by rw [show ispB k0 n0 = false from by rw [he]; unfold in8; rw [if_pos q1]]; rfl, rfl⟩)
    · refine g_iload_n C dX2_isPaw_36 rfl ?_
      refine g_bipush C (v := nI 8) dX2_isPaw_37 (by decide) ?_
      refine g_icmp_ge C (tgt := 46) dX2_isPaw_39 (by decide) (fun q2 => ?_) (fun q2 => ?_)
      · refine g_iconst C (v := nI 0) dX2_isPaw_46 (by decide) ?_
        exact g_zret C hr (by first | exact Or.inl rfl | exact Or.inr rfl) dX2_isPaw_47 (Nat.le_of_ble_eq_true rfl) (Nat.le_of_ble_eq_true rfl) (⟨by rw [show ispB k0 n0 = false from by rw [he]; unfold in8; rw [if_neg q1, if_pos q2]]; rfl, rfl⟩)
      · refine g_iconst C (v := nI 1) dX2_isPaw_42 (by decide) ?_
        refine g_goto C (tgt := 47) dX2_isPaw_43 (by decide) ?_
        exact g_zret C hr (by first | exact Or.inl rfl | exact Or.inr rfl) dX2_isPaw_47 (Nat.le_of_ble_eq_true rfl) (Nat.le_of_ble_eq_true rfl) (⟨by rw [show ispB k0 n0 = true from by rw [he]; unfold in8; rw [if_neg q1, if_neg q2]]; rfl, rfl⟩)
  have a16 : ispB k0 n0 = in16 n0 → Gd p l e (rmO 0 0 0 0) s m args0 below meth c (vx_MQ below (Qk Y (pS (some (bI (ispB k0 n0))) h)) (Xk Y (noX)) args0 s 0 0 Y.A) Y 2 48 [some (.int k0), some (.int n0)] [] h 0 0 := by
    intro he
    refine g_iload_n C dX2_isPaw_48 rfl ?_
    refine g_if_lt C (tgt := 62) dX2_isPaw_49 (by decide) (fun q1 => ?_) (fun q1 => ?_)
    · refine g_iconst C (v := nI 0) dX2_isPaw_62 (by decide) ?_
      exact g_zret C hr (by first | exact Or.inl rfl | exact Or.inr rfl) dX2_isPaw_63 (Nat.le_of_ble_eq_true rfl) (Nat.le_of_ble_eq_true rfl) (⟨by rw [show ispB k0 n0 = false from by rw [he]; unfold in16; rw [if_pos q1]]; rfl, rfl⟩)
    · refine g_iload_n C dX2_isPaw_52 rfl ?_
      refine g_bipush C (v := nI 16) dX2_isPaw_53 (by decide) ?_
      refine g_icmp_ge C (tgt := 62) dX2_isPaw_55 (by decide) (fun q2 => ?_) (fun q2 => ?_)
      · refine g_iconst C (v := nI 0) dX2_isPaw_62 (by decide) ?_
        exact g_zret C hr (by first | exact Or.inl rfl | exact Or.inr rfl) dX2_isPaw_63 (Nat.le_of_ble_eq_true rfl) (Nat.le_of_ble_eq_true rfl) (⟨by rw [show ispB k0 n0 = false from by rw [he]; unfold in16; rw [if_neg q1, if_pos q2]]; rfl, rfl⟩)
      · refine g_iconst C (v := nI 1) dX2_isPaw_58 (by decide) ?_
        refine g_goto C (tgt := 63) dX2_isPaw_59 (by decide) ?_
        exact g_zret C hr (by first | exact Or.inl rfl | exact Or.inr rfl) dX2_isPaw_63 (Nat.le_of_ble_eq_true rfl) (Nat.le_of_ble_eq_true rfl) (⟨by rw [show ispB k0 n0 = true from by rw [he]; unfold in16; rw [if_neg q1, if_neg q2]]; rfl, rfl⟩)
  refine g_iload_n C dX2_isPaw_0 rfl ?_
  by_cases k0_ : k0 = nI 0
  · subst k0_
    refine g_tsIn C (tgt := 32) dX2_isPaw_1 (by decide) (by decide) rfl (by decide) ?_
    exact a8 (by rfl)
  by_cases k1 : k0 = nI 1
  · subst k1
    refine g_tsIn C (tgt := 48) dX2_isPaw_1 (by decide) (by decide) rfl (by decide) ?_
    exact a16 (by rfl)
  by_cases k2 : k0 = nI 2
  · subst k2
    refine g_tsIn C (tgt := 48) dX2_isPaw_1 (by decide) (by decide) rfl (by decide) ?_
    exact a16 (by rfl)
  by_cases k3 : k0 = nI 3
  · subst k3
    refine g_tsIn C (tgt := 32) dX2_isPaw_1 (by decide) (by decide) rfl (by decide) ?_
    exact a8 (by rfl)
  refine g_tsOut C (tgt := 64) dX2_isPaw_1 (k4_out k0_ k1 k2 k3) (by decide) ?_
  refine g_iconst C (v := nI 0) dX2_isPaw_64 (by decide) ?_
  exact g_zret C hr (by first | exact Or.inl rfl | exact Or.inr rfl) dX2_isPaw_65 (Nat.le_of_ble_eq_true rfl) (Nat.le_of_ble_eq_true rfl) (⟨by rw [show ispB k0 n0 = false from by unfold ispB; rw [if_neg (fun z => z.elim k0_ k3), if_neg (fun z => z.elim k1 k2)]]; rfl, rfl⟩)
set_option maxRecDepth 100000 in
set_option maxHeartbeats 4000000 in
theorem K_X2_boardPlace (l : Launch) (Y : YG) (hfl : l.stackTraces = false) {h : AH} (c0 r0 : Int32) : MX l Y yX2_boardPlace cX2_boardPlace 2 (some .int) 6 90 1 6 [.int c0, .int r0] h (fun v h2 => onB c0 r0 = true ∧ v = some (.int (c0 * nI 8 + r0)) ∧ h2 = h) (fun E h2 => onB c0 r0 = false ∧ E = sIA ∧ h2 = h) := by
  refine MX.of (by decide +kernel) (Nat.le_of_ble_eq_true rfl) ?_
  intro p e s m args0 below meth c C hr hout hnm
  refine g_iload_n C dX2_boardPlace_0 rfl ?_
  refine g_iload_n C dX2_boardPlace_1 rfl ?_
  refine g_callS C ((K_X2_isOnBoard l Y c0 r0).K) ok_X2_isOnBoard w554 rfl rfl dX2_boardPlace_2 (Nat.le_of_ble_eq_true rfl) (Nat.le_of_ble_eq_true rfl) (Nat.le_of_ble_eq_true rfl) (Nat.le_of_ble_eq_true rfl) (Nat.le_of_ble_eq_true rfl) (ofS ?_)
  refine g_if_neB C (tgt := 18) dX2_boardPlace_5 (by decide) (fun q1 => ?_) (fun q1 => ?_)
  · refine g_iload_n C dX2_boardPlace_18 rfl ?_
    refine g_bipush C (v := nI 8) dX2_boardPlace_19 (by decide) ?_
    first | with_reducible refine g_imulN C dX2_boardPlace_21 ?_ | refine g_imul C dX2_boardPlace_21 ?_
    refine g_iload_n C dX2_boardPlace_22 rfl ?_
    first | with_reducible refine g_iaddN C dX2_boardPlace_23 ?_ | refine g_iadd C dX2_boardPlace_23 ?_
    exact g_iret C hr dX2_boardPlace_24 (Nat.le_of_ble_eq_true rfl) (Nat.le_of_ble_eq_true rfl) (⟨q1, rfl, rfl⟩)
  · exact g_throwS C hfl hout okT_219 (tf_ca_IllegalArgumentException C) (tf_s232 C) dX2_boardPlace_8 dX2_boardPlace_11 dX2_boardPlace_12 dX2_boardPlace_14 dX2_boardPlace_17 (Nat.le_of_ble_eq_true rfl) (Nat.le_of_ble_eq_true rfl) (Nat.le_of_ble_eq_true rfl) (Nat.le_of_ble_eq_true rfl)  (Nat.le_of_ble_eq_true rfl) (Nat.le_of_ble_eq_true rfl) (⟨q1, rfl, rfl⟩)
set_option maxRecDepth 100000 in
set_option maxHeartbeats 4000000 in
theorem K_X2_checkMany (l : Launch) (Y : YG) (hfl : l.stackTraces = false) {h : AH} (m0 : Int32) : MX l Y yX2_checkMany cX2_checkMany 1 none 6 90 1 6 [.int m0] h (fun v h2 => (nI 1 ≤ m0 ∧ m0 ≤ nI 60) ∧ v = none ∧ h2 = h) (fun E h2 => ¬ (nI 1 ≤ m0 ∧ m0 ≤ nI 60) ∧ E = sIA ∧ h2 = h) := by
  refine MX.of (by decide +kernel) (Nat.le_of_ble_eq_true rfl) ?_
  intro p e s m args0 below meth c C hr hout hnm
  refine g_iload_n C dX2_checkMany_0 rfl ?_
  refine g_iconst C (v := nI 1) dX2_checkMany_1 (by decide) ?_
  refine g_icmp_lt C (tgt := 11) dX2_checkMany_2 (by decide) (fun q1 => ?_) (fun q1 => ?_)
  · exact g_throwS C hfl hout okT_219 (tf_ca_IllegalArgumentException C) (tf_s227 C) dX2_checkMany_11 dX2_checkMany_14 dX2_checkMany_15 dX2_checkMany_17 dX2_checkMany_20 (Nat.le_of_ble_eq_true rfl) (Nat.le_of_ble_eq_true rfl) (Nat.le_of_ble_eq_true rfl) (Nat.le_of_ble_eq_true rfl)  (Nat.le_of_ble_eq_true rfl) (Nat.le_of_ble_eq_true rfl) (⟨fun z => absurd z.1 (Int32.not_le.mpr q1), rfl, rfl⟩)
  · refine g_iload_n C dX2_checkMany_5 rfl ?_
    refine g_bipush C (v := nI 60) dX2_checkMany_6 (by decide) ?_
    refine g_icmp_le C (tgt := 21) dX2_checkMany_8 (by decide) (fun q2 => ?_) (fun q2 => ?_)
    · exact g_vret C hr dX2_checkMany_21 (Nat.le_of_ble_eq_true rfl) (Nat.le_of_ble_eq_true rfl) (⟨⟨Int32.not_lt.mp q1, q2⟩, rfl, rfl⟩)
    · exact g_throwS C hfl hout okT_219 (tf_ca_IllegalArgumentException C) (tf_s227 C) dX2_checkMany_11 dX2_checkMany_14 dX2_checkMany_15 dX2_checkMany_17 dX2_checkMany_20 (Nat.le_of_ble_eq_true rfl) (Nat.le_of_ble_eq_true rfl) (Nat.le_of_ble_eq_true rfl) (Nat.le_of_ble_eq_true rfl)  (Nat.le_of_ble_eq_true rfl) (Nat.le_of_ble_eq_true rfl) (⟨fun z => q2 z.2, rfl, rfl⟩)
set_option maxRecDepth 100000 in
set_option maxHeartbeats 4000000 in
theorem K_X2_mixed (l : Launch) (Y : YG) {h : AH} (a b : Int64) : MX l Y yX2_mixed cX2_mixed 4 (some .long) 0 0 0 0 [.long a, .long b] h (pS (some (.long (a * 31 + b))) h) (noX) := by
  refine MX.of (by decide +kernel) (Nat.le_of_ble_eq_true rfl) ?_
  intro p e s m args0 below meth c C hr hout hnm
  refine g_lload_n C dX2_mixed_0 rfl ?_
  refine g_ldc2 C dX2_mixed_1 w454 ?_
  refine g_lmul C dX2_mixed_4 ?_
  refine g_lload_n C dX2_mixed_5 rfl ?_
  refine g_ladd C dX2_mixed_6 ?_
  exact g_lret C hr dX2_mixed_7 (Nat.le_of_ble_eq_true rfl) (Nat.le_of_ble_eq_true rfl) (⟨rfl, rfl⟩)
