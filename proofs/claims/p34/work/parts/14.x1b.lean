section GD
variable {p : Program} {l : Launch} {e : Env} {R : Room} {s : State} {m : MethodId} {args : Array Value} {below : List Frame} {meth : Method} {c : Code} {Q : State → Prop} {Y : YG} {nL : Nat} {cc : ByteArray} {own : String} {pc : Nat} {lv : List (Option Value)} {st : List Value} {h : AH} {k n : Nat}
theorem g_cloneI (C : Cx p s m args meth c Y cc nL own) {idx a N : Nat} {f : Nat → Int32} (ha : h a = some (aI Y N f)) (hlink : Cond.methodLink own idx ⟨"[I", "clone", "()Ljava/lang/Object;"⟩ ∈ AllW) (h1 : Cond.sameMethod "[I" "java/lang/Object" "clone" "()Ljava/lang/Object;" ∈ AllW) (h2 : Cond.native ⟨"java/lang/Object", "clone", "()Ljava/lang/Object;"⟩ ∈ AllW) (h3 : Cond.instanceMethod ⟨"java/lang/Object", "clone", "()Ljava/lang/Object;"⟩ ∈ AllW) (h4 : Cond.selects "[I" ⟨"[I", "clone", "()Ljava/lang/Object;"⟩ ⟨"java/lang/Object", "clone", "()Ljava/lang/Object;"⟩ ∈ AllW)
    (hd : decode cc pc = .ok (.invokevirtual idx, 3)) (hR : 1 ≤ R.frames) (hR2 : (st.map fun v => v.category).sum + 14 ≤ R.locals) (hk : k + 1 ≤ R.cells) (hn : n + N ≤ R.slots)
    (kk : ∀ q : Nat, h q = none → Gd p l e R s m args below meth c Q Y nL (pc + 3) lv (.ref q :: st) (hup h q (aI Y N f)) (k + 1) (n + N)) : Gd p l e R s m args below meth c Q Y nL pc lv (.ref a :: st) h k n := by
  have hC := C
  obtain ⟨hx, hb, hml, hown, hts, hK, -, hA, -⟩ := C
  intro H locs ls hc hS hl
  obtain ⟨ws, hP, hD, hw⟩ := id hc
  obtain ⟨q0, hq⟩ := hw a _ ha
  refine va_clone hx hb (by rw [hml]; exact hl.1.symm) hown (hts _ hlink) (hts _ h1) (hts _ h2) (hts _ h3) (hts _ h4) (tf_ca_clone hC) hK hP hD hS hA q0 0 hq rfl ?_ ?_ hR hR2 hk hn hd (fun q H1 hK1 hP1 hD1 hS1 => ?_)
  · exact (hK.2 0 _ rfl).2
  · exact va_fit (fun i _ => rfl)
  · obtain ⟨z1, z2⟩ := cw_push hw hP1 hD1
    exact kk q z1 H1 locs ls z2 hS1 hl
theorem g_castI (C : Cx p s m args meth c Y cc nL own) {idx a N : Nat} {f : Nat → Int32} (ha : h a = some (aI Y N f)) (hlink : Cond.classLink own idx "[I" ∈ AllW) (hd : decode cc pc = .ok (.checkcast idx, 3)) (kk : Gd p l e R s m args below meth c Q Y nL (pc + 3) lv (.ref a :: st) h k n) : Gd p l e R s m args below meth c Q Y nL pc lv (.ref a :: st) h k n := by
  obtain ⟨hx, hb, hml, hown, hts, hK, -, hA, -⟩ := C
  intro H locs ls hc hS hl
  obtain ⟨ws, hP, hD, hw⟩ := id hc
  obtain ⟨q0, hq⟩ := hw a _ ha
  exact va_castA hx hb hown (hts _ hlink) hP q0 hq (hK.2 0 _ rfl).2 hd (kk H locs ls hc hS hl)
theorem g_copyI (C : Cx p s m args meth c Y cc nL own) {idx a0 a1 N0 N1 sp dp z : Nat} {f g : Nat → Int32} (ha0 : h a0 = some (aI Y N0 f)) (ha1 : h a1 = some (aI Y N1 g)) (hlink : Cond.methodLink own idx arraycopyName ∈ AllW) (h1 : Cond.native arraycopyName ∈ AllW) (h2 : Cond.static arraycopyName ∈ AllW) (h3 : Cond.initialized "java/lang/System" ∈ AllW) (hz0 : sp + z ≤ N0) (hz1 : dp + z ≤ N1) (hN : N0 < 2 ^ 31 ∧ N1 < 2 ^ 31)
    (hd : decode cc pc = .ok (.invokestatic idx, 3)) (hR : 1 ≤ R.frames) (hR2 : (st.map fun v => v.category).sum + (nativeFrameWords "java/lang/System" "arraycopy" 5 + 11) ≤ R.locals)
    (kk : Gd p l e R s m args below meth c Q Y nL (pc + 3) lv st (hup h a1 (aI Y N1 (va_cpy f g sp dp z))) k n) : Gd p l e R s m args below meth c Q Y nL pc lv (.int (nI z) :: .int (nI dp) :: .ref a1 :: .int (nI sp) :: .ref a0 :: st) h k n := by
  obtain ⟨hx, hb, hml, hown, hts, hK, -, hA, -⟩ := C
  intro H locs ls hc hS hl
  obtain ⟨ws, hP, hD, hw⟩ := id hc
  obtain ⟨q0, hq0⟩ := hw a0 _ ha0
  obtain ⟨q1, hq1⟩ := hw a1 _ ha1
  have es : (nI sp).toNatClampNeg = sp := nI_clamp (by omega)
  have ed : (nI dp).toNatClampNeg = dp := nI_clamp (by omega)
  have ez : (nI z).toNatClampNeg = z := nI_clamp (by omega)
  refine va_copyi hx hb (by rw [hml]; exact hl.1.symm) hown (hts _ hlink) (hts _ h1) (hts _ h2) (hts _ h3) hK hP hD hS q0 q1 0 0 hq0 hq1 rfl rfl rfl (nI_pos (by omega)) (nI_pos (by omega)) (nI_pos (by omega)) (by rw [es, ez]; exact hz0) (by rw [ed, ez]; exact hz1) (fun _ _ => rfl) hR hR2 hd (fun H1 locs1 hP1 hD1 hS1 => ?_)
  rw [es, ed, ez] at hP1 hD1
  exact kk H1 locs1 ls (cw_set hD hw hq1 hP1 hD1) hS1 hl
end GD
/-- what comes of a paw: a scene, new, or none -/
def ScR (Y : YG) (np pa : Nat) (h : AH) (res : Option (Nat × (Nat → Nat) × Nat)) (r : Option Nat) (h' : AH) : Prop := match res with
  | none => r = none ∧ h' = h
  | some z => ∃ (q' pa' : Nat) (fp' : Nat → Int32), r = some q' ∧ h q' = none ∧ h' q' = some (.inr (2, [.int (nI z.1), .ref pa', .int (nI z.2.2)])) ∧ h' pa' = some (aI Y np fp') ∧ (∀ j, j < np → fp' j = nI (z.2.1 j)) ∧ (pa' = pa ∨ h pa' = none) ∧ ∀ a e, h a = some e → h' a = some e
theorem nI_m1 {c : Nat} (h : c < 2 ^ 31) : ¬ nI c = (-1) := by
  intro z
  have e := congrArg Int32.toInt z
  rw [nI_toInt h, show (-1 : Int32).toInt = -1 by decide] at e
  omega
theorem besC : ∀ a, a < 8 → ∀ b, b < 8 → ((nI 1 < (if 0 ≤ nI a - nI b then nI a - nI b else 0 - (nI a - nI b))) ↔ ¬ (a ≤ b + 1 ∧ b ≤ a + 1)) := by decide +kernel
def aliB (ct1 ct2 lb1 lb2 np : Nat) (f g : Nat → Nat) : Bool := decide (ct1 = ct2 ∧ lb1 = lb2 ∧ ∀ q, q < np → f q = g q)
theorem one_shl : ∀ j, j < 16 → nI 1 <<< (nI j &&& 31) = nI (2 ^ j) := by decide +kernel
theorem nI_or (a b : Nat) : nI a ||| nI b = nI (a ||| b) := by
  apply Int32.toBitVec_inj.1
  show BitVec.ofNat 32 a ||| BitVec.ofNat 32 b = BitVec.ofNat 32 (a ||| b)
  apply BitVec.eq_of_getLsbD_eq
  intro i hi
  simp [hi]
theorem nI_and (a b : Nat) : nI a &&& nI b = nI (a &&& b) := by
  apply Int32.toBitVec_inj.1
  show BitVec.ofNat 32 a &&& BitVec.ofNat 32 b = BitVec.ofNat 32 (a &&& b)
  apply BitVec.eq_of_getLsbD_eq
  intro i hi
  simp [hi]
theorem nI_xor (a b : Nat) : nI a ^^^ nI b = nI (a ^^^ b) := by
  apply Int32.toBitVec_inj.1
  show BitVec.ofNat 32 a ^^^ BitVec.ofNat 32 b = BitVec.ofNat 32 (a ^^^ b)
  apply BitVec.eq_of_getLsbD_eq
  intro i hi
  simp [hi]
theorem and_not_bit {lb j : Nat} (hl : lb < 65536) (hj : j < 16) (hb : lb.testBit j = true) : nI lb &&& (nI (2 ^ j) ^^^ (-1)) = nI (lb ^^^ 2 ^ j) := by
  have e1 : (-1 : Int32) = nI 4294967295 := by decide
  rw [e1, nI_xor, nI_and]
  congr 1
  apply Nat.eq_of_testBit_eq
  intro i
  have e2 : (4294967295 : Nat) = 2 ^ 32 - 1 := by decide
  rw [Nat.testBit_and, Nat.testBit_xor, Nat.testBit_xor, e2, Nat.testBit_two_pow_sub_one, Nat.testBit_two_pow]
  by_cases hij : j = i
  · subst hij
    rw [hb]
    simp
    omega
  · rw [show decide (j = i) = false from decide_eq_false hij]
    by_cases h32 : i < 32
    · simp [h32]
    · have : lb.testBit i = false := Nat.testBit_lt_two_pow (Nat.lt_of_lt_of_le hl (Nat.le_trans (show 65536 ≤ 2 ^ 16 by decide) (Nat.pow_le_pow_right (by decide) (by omega))))
      rw [this]
      simp
set_option maxRecDepth 100000 in
set_option maxHeartbeats 4000000 in
theorem K_X1_isInReach (l : Launch) (Y : YG) {q pa np ct lb : Nat} {fp : Nat → Int32} {h : AH} (hq : h q = some (.inr (2, [.int (nI ct), .ref pa, .int (nI lb)]))) (hp : h pa = some (aI Y np fp)) (hnp : np ≤ 16) {pos : Nat → Nat} (hfp : ∀ j, j < np → fp j = nI (pos j)) (hpos : ∀ j, j < np → pos j < 64) (hct : ct < 64) (hlb : lb < 65536) {j : Nat} (hj : j < 2 ^ 31) : MX l Y yX1_isInReach cX1_isInReach 4 (some .boolean) 1 21 0 0 [.ref q, .int (nI j)] h (pS (some (bI (decide (j < np) && bes ct (pos j)))) h) (noX) := by
  refine MX.of (by decide +kernel) (Nat.le_of_ble_eq_true rfl) ?_
  intro p e s m args0 below meth c C hr hout hnm
  by_cases hjn : j < np
  · refine g_aload_n C dX1_isInReach_0 rfl (by first | rfl | exact isR_rf _) ?_
    refine g_iload_n C dX1_isInReach_1 rfl ?_
    refine g_callV C ((K_X1_has l Y hq hp hnp (nI j)).K) ok_X1_has w432 (hq) rfl rfl rfl dX1_isInReach_2 (Nat.le_of_ble_eq_true rfl) (Nat.le_of_ble_eq_true rfl) (Nat.le_of_ble_eq_true rfl) (Nat.le_of_ble_eq_true rfl) (Nat.le_of_ble_eq_true rfl) (ofS ?_)
    rw [hasP_N hnp hj, decide_eq_true hjn]
    have hP := hpos j hjn
    have b1 := besC (pos j / 8) (by omega) (ct / 8) (by omega)
    have b2 := besC (pos j % 8) (by omega) (ct % 8) (by omega)
    refine g_if_ne C (tgt := 10) dX1_isInReach_5 (by decide) (fun q1 => ?_) (fun q1 => ?_)
    · refine g_aload_n C dX1_isInReach_10 rfl (by first | rfl | exact isR_rf _) ?_
      refine gf_X1_15 C (hq) rfl dX1_isInReach_11 ?_
      refine g_iload_n C dX1_isInReach_14 rfl ?_
      refine g_iald C hp rfl hjn (by omega) dX1_isInReach_15 ?_
      rw [hfp j hjn]
      refine g_bipush C (v := nI 8) dX1_isInReach_16 (by decide) ?_
      first | with_reducible refine g_idivN C dX1_isInReach_18 (by omega) (by decide) ?_ | refine g_idiv C dX1_isInReach_18 (by decide) ?_
      refine g_aload_n C dX1_isInReach_19 rfl (by first | rfl | exact isR_rf _) ?_
      refine gf_X1_9 C (hq) rfl dX1_isInReach_20 ?_
      skip
      refine g_bipush C (v := nI 8) dX1_isInReach_23 (by decide) ?_
      first | with_reducible refine g_idivN C dX1_isInReach_25 (by omega) (by decide) ?_ | refine g_idiv C dX1_isInReach_25 (by decide) ?_
      refine g_isub C dX1_isInReach_26 ?_
      refine g_mabs C w660 w_mabs.1 w_mabs.2.1 w_mabs.2.2 dX1_isInReach_27 (Nat.le_of_ble_eq_true rfl) (Nat.le_of_ble_eq_true rfl) (Nat.le_of_ble_eq_true rfl) (Nat.le_of_ble_eq_true rfl) ?_
      refine g_istore_n C dX1_isInReach_30 (by decide) ?_
      refine g_aload_n C dX1_isInReach_31 rfl (by first | rfl | exact isR_rf _) ?_
      refine gf_X1_15 C (hq) rfl dX1_isInReach_32 ?_
      refine g_iload_n C dX1_isInReach_35 rfl ?_
      refine g_iald C hp rfl hjn (by omega) dX1_isInReach_36 ?_
      rw [hfp j hjn]
      refine g_bipush C (v := nI 8) dX1_isInReach_37 (by decide) ?_
      first | with_reducible refine g_iremN C dX1_isInReach_39 (by omega) (by decide) ?_ | refine g_irem C dX1_isInReach_39 (by decide) ?_
      refine g_aload_n C dX1_isInReach_40 rfl (by first | rfl | exact isR_rf _) ?_
      refine gf_X1_9 C (hq) rfl dX1_isInReach_41 ?_
      refine g_bipush C (v := nI 8) dX1_isInReach_44 (by decide) ?_
      first | with_reducible refine g_iremN C dX1_isInReach_46 (by omega) (by decide) ?_ | refine g_irem C dX1_isInReach_46 (by decide) ?_
      refine g_isub C dX1_isInReach_47 ?_
      refine g_mabs C w660 w_mabs.1 w_mabs.2.1 w_mabs.2.2 dX1_isInReach_48 (Nat.le_of_ble_eq_true rfl) (Nat.le_of_ble_eq_true rfl) (Nat.le_of_ble_eq_true rfl) (Nat.le_of_ble_eq_true rfl) ?_
      refine g_istore_n C dX1_isInReach_51 (by decide) ?_
      refine g_iload_n C dX1_isInReach_52 rfl ?_
      refine g_iconst C (v := nI 1) dX1_isInReach_53 (by decide) ?_
      refine g_icmp_gt C (tgt := 66) dX1_isInReach_54 (by decide) (fun q2 => ?_) (fun q2 => ?_)
      · refine g_iconst C (v := nI 0) dX1_isInReach_66 (by decide) ?_
        exact g_zret C hr (by first | exact Or.inl rfl | exact Or.inr rfl) dX1_isInReach_67 (Nat.le_of_ble_eq_true rfl) (Nat.le_of_ble_eq_true rfl) (⟨by rw [show bes ct (pos j) = false from decide_eq_false (fun z => (b1.mp q2) ⟨z.2.1, z.1⟩)]; rfl, rfl⟩)
      · refine g_iload_n C dX1_isInReach_57 rfl ?_
        refine g_iconst C (v := nI 1) dX1_isInReach_58 (by decide) ?_
        refine g_icmp_gt C (tgt := 66) dX1_isInReach_59 (by decide) (fun q3 => ?_) (fun q3 => ?_)
        · refine g_iconst C (v := nI 0) dX1_isInReach_66 (by decide) ?_
          exact g_zret C hr (by first | exact Or.inl rfl | exact Or.inr rfl) dX1_isInReach_67 (Nat.le_of_ble_eq_true rfl) (Nat.le_of_ble_eq_true rfl) (⟨by rw [show bes ct (pos j) = false from decide_eq_false (fun z => (b2.mp q3) ⟨z.2.2.2, z.2.2.1⟩)]; rfl, rfl⟩)
        · refine g_iconst C (v := nI 1) dX1_isInReach_62 (by decide) ?_
          refine g_goto C (tgt := 67) dX1_isInReach_63 (by decide) ?_
          exact g_zret C hr (by first | exact Or.inl rfl | exact Or.inr rfl) dX1_isInReach_67 (Nat.le_of_ble_eq_true rfl) (Nat.le_of_ble_eq_true rfl) (⟨by rw [show bes ct (pos j) = true from decide_eq_true (by have z1 := Classical.not_not.mp (fun z => q2 (b1.mpr z)); have z2 := Classical.not_not.mp (fun z => q3 (b2.mpr z)); exact ⟨z1.2, z1.1, z2.2, z2.1⟩)]; rfl, rfl⟩)
    · exact absurd q1 (by decide)
  · refine g_aload_n C dX1_isInReach_0 rfl (by first | rfl | exact isR_rf _) ?_
    refine g_iload_n C dX1_isInReach_1 rfl ?_
    refine g_callV C ((K_X1_has l Y hq hp hnp (nI j)).K) ok_X1_has w432 (hq) rfl rfl rfl dX1_isInReach_2 (Nat.le_of_ble_eq_true rfl) (Nat.le_of_ble_eq_true rfl) (Nat.le_of_ble_eq_true rfl) (Nat.le_of_ble_eq_true rfl) (Nat.le_of_ble_eq_true rfl) (ofS ?_)
    rw [hasP_N hnp hj, decide_eq_false hjn]
    refine g_if_ne C (tgt := 10) dX1_isInReach_5 (by decide) (fun q1 => ?_) (fun q1 => ?_)
    · exact absurd rfl q1
    · refine g_iconst C (v := nI 0) dX1_isInReach_8 (by decide) ?_
      exact g_zret C hr (by first | exact Or.inl rfl | exact Or.inr rfl) dX1_isInReach_9 (Nat.le_of_ble_eq_true rfl) (Nat.le_of_ble_eq_true rfl) (⟨rfl, rfl⟩)
set_option maxRecDepth 100000 in
set_option maxHeartbeats 4000000 in
theorem K_X1_isLike (l : Launch) (Y : YG) {q pa np ct lb : Nat} {fp : Nat → Int32} {h : AH} (hq : h q = some (.inr (2, [.int (nI ct), .ref pa, .int (nI lb)]))) (hp : h pa = some (aI Y np fp)) (hnp : np ≤ 16) {pos : Nat → Nat} (hfp : ∀ j, j < np → fp j = nI (pos j)) (hpos : ∀ j, j < np → pos j < 64) (hct : ct < 64) (hlb : lb < 65536) {q2 pa2 ct2 lb2 : Nat} {fp2 : Nat → Int32} (hq2 : h q2 = some (.inr (2, [.int (nI ct2), .ref pa2, .int (nI lb2)]))) (hp2 : h pa2 = some (aI Y np fp2)) {pos2 : Nat → Nat} (hfp2 : ∀ j, j < np → fp2 j = nI (pos2 j)) (hpos2 : ∀ j, j < np → pos2 j < 64) (hct2 : ct2 < 64) (hlb2 : lb2 < 65536) : MX l Y yX1_isLike cX1_isLike 3 (some .boolean) 0 0 0 0 [.ref q, .ref q2] h (pS (some (bI (aliB ct ct2 lb lb2 np pos pos2))) h) (noX) := by
  refine MX.of (by decide +kernel) (Nat.le_of_ble_eq_true rfl) ?_
  intro p e s m args0 below meth c C hr hout hnm
  have lp : ct = ct2 → lb = lb2 → ∀ (d i : Nat), i ≤ np → np - i < d → (∀ j, j < i → pos j = pos2 j) → Gd p l e (rmO 0 0 0 0) s m args0 below meth c (vx_MQ below (Qk Y (pS (some (bI (aliB ct ct2 lb lb2 np pos pos2))) h)) (Xk Y (noX)) args0 s 0 0 Y.A) Y 3 39 [some (.ref q), some (.ref q2), some (.int (nI i))] [] h 0 0 := by
    intro e1 e2 d
    induction d with
    | zero => intro i h1 h2; omega
    | succ d ih =>
      intro i hi hd hS
      refine g_iload_n C dX1_isLike_39 rfl ?_
      refine g_aload_n C dX1_isLike_40 rfl (by first | rfl | exact isR_rf _) ?_
      refine gf_X1_15 C (hq) rfl dX1_isLike_41 ?_
      refine g_aleni C (hp) dX1_isLike_44 ?_
      refine g_icmp_geN C (tgt := 80) dX1_isLike_45 (by decide) (by omega) (by omega) (fun q1 => ?_) (fun q1 => ?_)
      · refine g_iconst C (v := nI 1) dX1_isLike_80 (by decide) ?_
        exact g_zret C hr (by first | exact Or.inl rfl | exact Or.inr rfl) dX1_isLike_81 (Nat.le_of_ble_eq_true rfl) (Nat.le_of_ble_eq_true rfl) (⟨by rw [show aliB ct ct2 lb lb2 np pos pos2 = true from decide_eq_true ⟨e1, e2, fun j hj => hS j (by omega)⟩]; rfl, rfl⟩)
      · refine g_iload_n C dX1_isLike_48 rfl ?_
        refine g_aload_n C dX1_isLike_49 rfl (by first | rfl | exact isR_rf _) ?_
        refine gf_X1_15 C (hq2) rfl dX1_isLike_50 ?_
        refine g_aleni C (hp2) dX1_isLike_53 ?_
        refine g_icmp_geN C (tgt := 80) dX1_isLike_54 (by decide) (by omega) (by omega) (fun q2 => ?_) (fun q2 => ?_)
        · omega
        · refine g_aload_n C dX1_isLike_57 rfl (by first | rfl | exact isR_rf _) ?_
          refine gf_X1_15 C (hq) rfl dX1_isLike_58 ?_
          refine g_iload_n C dX1_isLike_61 rfl ?_
          refine g_iald C hp rfl q1 (by omega) dX1_isLike_62 ?_
          refine g_aload_n C dX1_isLike_63 rfl (by first | rfl | exact isR_rf _) ?_
          refine gf_X1_15 C (hq2) rfl dX1_isLike_64 ?_
          refine g_iload_n C dX1_isLike_67 rfl ?_
          refine g_iald C hp2 rfl q1 (by omega) dX1_isLike_68 ?_
          rw [hfp i q1, hfp2 i q1]
          have hz1 := hpos i q1
          have hz2 := hpos2 i q1
          refine g_icmp_eqN C (tgt := 74) dX1_isLike_69 (by decide) (by omega) (by omega) (fun q3 => ?_) (fun q3 => ?_)
          · refine g_iincN C dX1_isLike_74 rfl (by decide) ?_
            refine g_goto C (tgt := 39) dX1_isLike_77 (by decide) ?_
            exact ih (i + 1) (by omega) (by omega) (fun j hj => (Nat.lt_succ_iff_lt_or_eq.mp hj).elim (hS j) (fun z => by rw [z]; exact q3))
          · refine g_iconst C (v := nI 0) dX1_isLike_72 (by decide) ?_
            exact g_zret C hr (by first | exact Or.inl rfl | exact Or.inr rfl) dX1_isLike_73 (Nat.le_of_ble_eq_true rfl) (Nat.le_of_ble_eq_true rfl) (⟨by rw [show aliB ct ct2 lb lb2 np pos pos2 = false from decide_eq_false (fun z => q3 (z.2.2 i q1))]; rfl, rfl⟩)
  refine g_aload_n C dX1_isLike_0 rfl (by first | rfl | exact isR_rf _) ?_
  refine gf_X1_9 C (hq) rfl dX1_isLike_1 ?_
  refine g_aload_n C dX1_isLike_4 rfl (by first | rfl | exact isR_rf _) ?_
  refine gf_X1_9 C (hq2) rfl dX1_isLike_5 ?_
  refine g_icmp_neN C (tgt := 35) dX1_isLike_8 (by decide) (by omega) (by omega) (fun q1 => ?_) (fun q1 => ?_)
  · refine g_iconst C (v := nI 0) dX1_isLike_35 (by decide) ?_
    exact g_zret C hr (by first | exact Or.inl rfl | exact Or.inr rfl) dX1_isLike_36 (Nat.le_of_ble_eq_true rfl) (Nat.le_of_ble_eq_true rfl) (⟨by rw [show aliB ct ct2 lb lb2 np pos pos2 = false from decide_eq_false (fun z => q1 z.1)]; rfl, rfl⟩)
  · refine g_aload_n C dX1_isLike_11 rfl (by first | rfl | exact isR_rf _) ?_
    refine gf_X1_19 C (hq) rfl dX1_isLike_12 ?_
    refine g_aload_n C dX1_isLike_15 rfl (by first | rfl | exact isR_rf _) ?_
    refine gf_X1_19 C (hq2) rfl dX1_isLike_16 ?_
    refine g_icmp_neN C (tgt := 35) dX1_isLike_19 (by decide) (by omega) (by omega) (fun q2 => ?_) (fun q2 => ?_)
    · refine g_iconst C (v := nI 0) dX1_isLike_35 (by decide) ?_
      exact g_zret C hr (by first | exact Or.inl rfl | exact Or.inr rfl) dX1_isLike_36 (Nat.le_of_ble_eq_true rfl) (Nat.le_of_ble_eq_true rfl) (⟨by rw [show aliB ct ct2 lb lb2 np pos pos2 = false from decide_eq_false (fun z => q2 z.2.1)]; rfl, rfl⟩)
    · refine g_aload_n C dX1_isLike_22 rfl (by first | rfl | exact isR_rf _) ?_
      refine gf_X1_15 C (hq) rfl dX1_isLike_23 ?_
      refine g_aleni C (hp) dX1_isLike_26 ?_
      refine g_aload_n C dX1_isLike_27 rfl (by first | rfl | exact isR_rf _) ?_
      refine gf_X1_15 C (hq2) rfl dX1_isLike_28 ?_
      refine g_aleni C (hp2) dX1_isLike_31 ?_
      refine g_icmp_eqN C (tgt := 37) dX1_isLike_32 (by decide) (by omega) (by omega) (fun q3 => ?_) (fun q3 => ?_)
      · refine g_iconst C (v := nI 0) dX1_isLike_37 (by decide) ?_
        refine g_istore_n C dX1_isLike_38 (by decide) ?_
        exact lp q1 q2 (np + 1) 0 (Nat.zero_le _) (by omega) (fun j hj => absurd hj (Nat.not_lt_zero j))
      · exact absurd rfl q3
set_option maxRecDepth 100000 in
set_option maxHeartbeats 4000000 in
theorem K_X1_afterStep (l : Launch) (Y : YG) {q pa np ct lb : Nat} {fp : Nat → Int32} {h : AH} (hq : h q = some (.inr (2, [.int (nI ct), .ref pa, .int (nI lb)]))) (hp : h pa = some (aI Y np fp)) (hnp : np ≤ 16) {pos : Nat → Nat} (hfp : ∀ j, j < np → fp j = nI (pos j)) (hpos : ∀ j, j < np → pos j < 64) (hct : ct < 64) (hlb : lb < 65536) {d : Nat} (hd8 : d < 8) : MX l Y yX1_afterStep cX1_afterStep 3 (some (.object "CatEvenings$Scene")) 2 44 1 3 [.ref q, .int (nI d)] h (pR (ScR Y np pa h (nxt np ct pos lb 0 d))) (noX) := by
  refine MX.of (by decide +kernel) (Nat.le_of_ble_eq_true rfl) ?_
  intro p e s m args0 below meth c C hr hout hnm
  have en : nxt np ct pos lb 0 d = (match fa ct d with | none => none | some c => some (c, pos, lb)) := rfl
  cases hf : fa ct d with
  | none =>
    rw [hf] at en
    refine g_aload_n C dX1_afterStep_0 rfl (by first | rfl | exact isR_rf _) ?_
    refine gf_X1_9 C (hq) rfl dX1_afterStep_1 ?_
    refine g_iload_n C dX1_afterStep_4 rfl ?_
    refine g_callSN C ((K_X2_farther l Y hct hd8).K) ok_X2_farther (tf_nest C) rfl rfl dX1_afterStep_5 (Nat.le_of_ble_eq_true rfl) (Nat.le_of_ble_eq_true rfl) (Nat.le_of_ble_eq_true rfl) (Nat.le_of_ble_eq_true rfl) (Nat.le_of_ble_eq_true rfl) (ofS ?_)
    rw [hf]
    refine g_istore_n C dX1_afterStep_8 (by decide) ?_
    refine g_iload_n C dX1_afterStep_9 rfl ?_
    refine g_iconst C (v := (-1)) dX1_afterStep_10 (by decide) ?_
    refine g_icmp_ne C (tgt := 18) dX1_afterStep_11 (by decide) (fun q1 => ?_) (fun q1 => ?_)
    · exact absurd rfl q1
    · refine g_null C dX1_afterStep_14 ?_
      refine g_goto C (tgt := 34) dX1_afterStep_15 (by decide) ?_
      exact g_aret C hr (by first | exact Or.inl ⟨_, rfl⟩ | exact Or.inr ⟨_, rfl⟩) (by first | rfl | exact isR_rf _) dX1_afterStep_34 (Nat.le_of_ble_eq_true rfl) (Nat.le_of_ble_eq_true rfl) (⟨none, rfl, by rw [en]; exact ⟨rfl, rfl⟩⟩)
  | some c1 =>
    rw [hf] at en
    have hc1 := fa_lt hf
    refine g_aload_n C dX1_afterStep_0 rfl (by first | rfl | exact isR_rf _) ?_
    refine gf_X1_9 C (hq) rfl dX1_afterStep_1 ?_
    refine g_iload_n C dX1_afterStep_4 rfl ?_
    refine g_callSN C ((K_X2_farther l Y hct hd8).K) ok_X2_farther (tf_nest C) rfl rfl dX1_afterStep_5 (Nat.le_of_ble_eq_true rfl) (Nat.le_of_ble_eq_true rfl) (Nat.le_of_ble_eq_true rfl) (Nat.le_of_ble_eq_true rfl) (Nat.le_of_ble_eq_true rfl) (ofS ?_)
    rw [hf]
    refine g_istore_n C dX1_afterStep_8 (by decide) ?_
    refine g_iload_n C dX1_afterStep_9 rfl ?_
    refine g_iconst C (v := (-1)) dX1_afterStep_10 (by decide) ?_
    refine g_icmp_ne C (tgt := 18) dX1_afterStep_11 (by decide) (fun q1 => ?_) (fun q1 => ?_)
    · refine cn_X1_10 C dX1_afterStep_18 (Nat.le_of_ble_eq_true rfl) (Nat.le_of_ble_eq_true rfl) (fun qn hqn => ?_)
      refine g_dup C dX1_afterStep_21 (by first | rfl | exact cat_rf _) ?_
      refine g_iload_n C dX1_afterStep_22 rfl ?_
      refine g_aload_n C dX1_afterStep_23 rfl (by first | rfl | exact isR_rf _) ?_
      refine gf_X1_15 C (hup_old hqn hq) rfl dX1_afterStep_24 ?_
      refine g_aload_n C dX1_afterStep_27 rfl (by first | rfl | exact isR_rf _) ?_
      refine gf_X1_19 C (hup_old hqn hq) rfl dX1_afterStep_28 ?_
      refine g_callI C ((K_X1_init l Y hup_eq).K) ok_X1_init w610 rfl rfl dX1_afterStep_31 (Nat.le_of_ble_eq_true rfl) (Nat.le_of_ble_eq_true rfl) (Nat.le_of_ble_eq_true rfl) (Nat.le_of_ble_eq_true rfl) (Nat.le_of_ble_eq_true rfl) (ofV (fun h2 e2 => ?_))
      subst e2
      rw [hup_hup]
      exact g_aret C hr (by first | exact Or.inl ⟨_, rfl⟩ | exact Or.inr ⟨_, rfl⟩) (by first | rfl | exact isR_rf _) dX1_afterStep_34 (Nat.le_of_ble_eq_true rfl) (Nat.le_of_ble_eq_true rfl) (⟨some qn, rfl, by rw [en]; exact ⟨qn, pa, fp, rfl, hqn, hup_eq, hup_old hqn hp, hfp, Or.inl rfl, fun a e he => hup_old hqn he⟩⟩)
    · exact absurd q1 (nI_m1 (c := c1) (by omega))
set_option maxRecDepth 100000 in
set_option maxHeartbeats 4000000 in
theorem K_X1_afterKnock (l : Launch) (Y : YG) {q pa np ct lb : Nat} {fp : Nat → Int32} {h : AH} (hq : h q = some (.inr (2, [.int (nI ct), .ref pa, .int (nI lb)]))) (hp : h pa = some (aI Y np fp)) (hnp : np ≤ 16) {pos : Nat → Nat} (hfp : ∀ j, j < np → fp j = nI (pos j)) (hpos : ∀ j, j < np → pos j < 64) (hct : ct < 64) (hlb : lb < 65536) {v : Nat} (hv : v < 16) : MX l Y yX1_afterKnock cX1_afterKnock 2 (some (.object "CatEvenings$Scene")) 3 63 1 3 [.ref q, .int (nI v)] h (pR (ScR Y np pa h (nxt np ct pos lb 1 v))) (noX) := by
  refine MX.of (by decide +kernel) (Nat.le_of_ble_eq_true rfl) ?_
  intro p e s m args0 below meth c C hr hout hnm
  have en : nxt np ct pos lb 1 v = (if v < np ∧ lb.testBit v = false ∧ bes ct (pos v) = true then some (ct, pos, lb ||| 2 ^ v) else none) := rfl
  have nul : ¬ (v < np ∧ lb.testBit v = false ∧ bes ct (pos v) = true) → Gd p l e (rmO 3 63 1 3) s m args0 below meth c (vx_MQ below (Qk Y (pR (ScR Y np pa h (nxt np ct pos lb 1 v)))) (Xk Y (noX)) args0 s 1 3 Y.A) Y 2 16 [some (.ref q), some (.int (nI v))] [] h 0 0 := by
    intro hz
    rw [if_neg hz] at en
    refine g_null C dX1_afterKnock_16 ?_
    exact g_aret C hr (by first | exact Or.inl ⟨_, rfl⟩ | exact Or.inr ⟨_, rfl⟩) (by first | rfl | exact isR_rf _) dX1_afterKnock_17 (Nat.le_of_ble_eq_true rfl) (Nat.le_of_ble_eq_true rfl) (⟨none, rfl, by rw [en]; exact ⟨rfl, rfl⟩⟩)
  have nul2 : ¬ (v < np ∧ lb.testBit v = false ∧ bes ct (pos v) = true) → ∀ x : Bool, x = false → Gd p l e (rmO 3 63 1 3) s m args0 below meth c (vx_MQ below (Qk Y (pR (ScR Y np pa h (nxt np ct pos lb 1 v)))) (Xk Y (noX)) args0 s 1 3 Y.A) Y 2 13 [some (.ref q), some (.int (nI v))] [bI x] h 0 0 := by
    intro hz x hx
    subst hx
    refine g_if_ne C (tgt := 18) dX1_afterKnock_13 (by decide) (fun q => absurd rfl q) (fun q => nul hz)
  have pre5 : Gd p l e (rmO 3 63 1 3) s m args0 below meth c (vx_MQ below (Qk Y (pR (ScR Y np pa h (nxt np ct pos lb 1 v)))) (Xk Y (noX)) args0 s 1 3 Y.A) Y 2 5 [some (.ref q), some (.int (nI v))] [bI (decide (v < np) && !lb.testBit v)] h 0 0 := by
    by_cases hs : (decide (v < np) && !lb.testBit v) = true
    · rw [hs]
      refine g_if_eq C (tgt := 16) dX1_afterKnock_5 (by decide) (fun q1 => ?_) (fun q1 => ?_)
      · exact absurd q1 (by decide)
      · refine g_aload_n C dX1_afterKnock_8 rfl (by first | rfl | exact isR_rf _) ?_
        refine g_iload_n C dX1_afterKnock_9 rfl ?_
        refine g_callV C ((K_X1_isInReach l Y hq hp hnp hfp hpos hct hlb (show v < 2 ^ 31 by omega)).K) ok_X1_isInReach w656 (hq) rfl rfl rfl dX1_afterKnock_10 (Nat.le_of_ble_eq_true rfl) (Nat.le_of_ble_eq_true rfl) (Nat.le_of_ble_eq_true rfl) (Nat.le_of_ble_eq_true rfl) (Nat.le_of_ble_eq_true rfl) (ofS ?_)
        by_cases hc : v < np ∧ lb.testBit v = false ∧ bes ct (pos v) = true
        · obtain ⟨c1, c2, c3⟩ := hc
          rw [if_pos ⟨c1, c2, c3⟩] at en
          rw [decide_eq_true c1, c3]
          refine g_if_ne C (tgt := 18) dX1_afterKnock_13 (by decide) (fun q => ?_) (fun q => absurd q (by decide))
          refine cn_X1_10 C dX1_afterKnock_18 (Nat.le_of_ble_eq_true rfl) (Nat.le_of_ble_eq_true rfl) (fun qn hqn => ?_)
          refine g_dup C dX1_afterKnock_21 (by first | rfl | exact cat_rf _) ?_
          refine g_aload_n C dX1_afterKnock_22 rfl (by first | rfl | exact isR_rf _) ?_
          refine gf_X1_9 C (hup_old hqn hq) rfl dX1_afterKnock_23 ?_
          refine g_aload_n C dX1_afterKnock_26 rfl (by first | rfl | exact isR_rf _) ?_
          refine gf_X1_15 C (hup_old hqn hq) rfl dX1_afterKnock_27 ?_
          refine g_aload_n C dX1_afterKnock_30 rfl (by first | rfl | exact isR_rf _) ?_
          refine gf_X1_19 C (hup_old hqn hq) rfl dX1_afterKnock_31 ?_
          refine g_iconst C (v := nI 1) dX1_afterKnock_34 (by decide) ?_
          refine g_iload_n C dX1_afterKnock_35 rfl ?_
          refine g_ishl C dX1_afterKnock_36 ?_
          rw [one_shl v hv]
          refine g_ior C dX1_afterKnock_37 ?_
          rw [nI_or]
          refine g_callI C ((K_X1_init l Y hup_eq).K) ok_X1_init w610 rfl rfl dX1_afterKnock_38 (Nat.le_of_ble_eq_true rfl) (Nat.le_of_ble_eq_true rfl) (Nat.le_of_ble_eq_true rfl) (Nat.le_of_ble_eq_true rfl) (Nat.le_of_ble_eq_true rfl) (ofV (fun h2 e2 => ?_))
          subst e2
          rw [hup_hup]
          exact g_aret C hr (by first | exact Or.inl ⟨_, rfl⟩ | exact Or.inr ⟨_, rfl⟩) (by first | rfl | exact isR_rf _) dX1_afterKnock_41 (Nat.le_of_ble_eq_true rfl) (Nat.le_of_ble_eq_true rfl) (⟨some qn, rfl, by rw [en]; exact ⟨qn, pa, fp, rfl, hqn, hup_eq, hup_old hqn hp, hfp, Or.inl rfl, fun a e he => hup_old hqn he⟩⟩)
        · refine nul2 hc _ ?_
          simp only [Bool.and_eq_true, decide_eq_true_eq, Bool.not_eq_true'] at hs
          cases hbb : bes ct (pos v)
          · exact Bool.and_false _
          · exact absurd ⟨hs.1, hs.2, hbb⟩ hc
    · have hs0 : (decide (v < np) && !lb.testBit v) = false := by cases hz : (decide (v < np) && !lb.testBit v) with | false => rfl | true => exact absurd hz hs
      rw [hs0]
      refine g_if_eq C (tgt := 16) dX1_afterKnock_5 (by decide) (fun q => nul (fun z => ?_)) (fun q => absurd rfl q)
      rw [decide_eq_true z.1, z.2.1] at hs
      exact hs rfl
  refine g_aload_n C dX1_afterKnock_0 rfl (by first | rfl | exact isR_rf _) ?_
  refine g_iload_n C dX1_afterKnock_1 rfl ?_
  refine g_callV C ((K_X1_isStanding l Y hq hp hnp hlb (show v < 2 ^ 31 by omega)).K) ok_X1_isStanding w651 (hq) rfl rfl rfl dX1_afterKnock_2 (Nat.le_of_ble_eq_true rfl) (Nat.le_of_ble_eq_true rfl) (Nat.le_of_ble_eq_true rfl) (Nat.le_of_ble_eq_true rfl) (Nat.le_of_ble_eq_true rfl) (ofS ?_)
  exact pre5
set_option maxRecDepth 100000 in
set_option maxHeartbeats 4000000 in
theorem K_X1_afterSetUp (l : Launch) (Y : YG) {q pa np ct lb : Nat} {fp : Nat → Int32} {h : AH} (hq : h q = some (.inr (2, [.int (nI ct), .ref pa, .int (nI lb)]))) (hp : h pa = some (aI Y np fp)) (hnp : np ≤ 16) {pos : Nat → Nat} (hfp : ∀ j, j < np → fp j = nI (pos j)) (hpos : ∀ j, j < np → pos j < 64) (hct : ct < 64) (hlb : lb < 65536) {v : Nat} (hv : v < 16) : MX l Y yX1_afterSetUp cX1_afterSetUp 2 (some (.object "CatEvenings$Scene")) 2 44 1 3 [.ref q, .int (nI v)] h (pR (ScR Y np pa h (nxt np ct pos lb 2 v))) (noX) := by
  refine MX.of (by decide +kernel) (Nat.le_of_ble_eq_true rfl) ?_
  intro p e s m args0 below meth c C hr hout hnm
  have en : nxt np ct pos lb 2 v = (if v < np ∧ lb.testBit v = true ∧ bes ct (pos v) = true then some (ct, pos, lb ^^^ 2 ^ v) else none) := rfl
  have nul : ¬ (v < np ∧ lb.testBit v = true ∧ bes ct (pos v) = true) → Gd p l e (rmO 2 44 1 3) s m args0 below meth c (vx_MQ below (Qk Y (pR (ScR Y np pa h (nxt np ct pos lb 2 v)))) (Xk Y (noX)) args0 s 1 3 Y.A) Y 2 16 [some (.ref q), some (.int (nI v))] [] h 0 0 := by
    intro hz
    rw [if_neg hz] at en
    refine g_null C dX1_afterSetUp_16 ?_
    exact g_aret C hr (by first | exact Or.inl ⟨_, rfl⟩ | exact Or.inr ⟨_, rfl⟩) (by first | rfl | exact isR_rf _) dX1_afterSetUp_17 (Nat.le_of_ble_eq_true rfl) (Nat.le_of_ble_eq_true rfl) (⟨none, rfl, by rw [en]; exact ⟨rfl, rfl⟩⟩)
  have nul2 : ¬ (v < np ∧ lb.testBit v = true ∧ bes ct (pos v) = true) → ∀ x : Bool, x = false → Gd p l e (rmO 2 44 1 3) s m args0 below meth c (vx_MQ below (Qk Y (pR (ScR Y np pa h (nxt np ct pos lb 2 v)))) (Xk Y (noX)) args0 s 1 3 Y.A) Y 2 13 [some (.ref q), some (.int (nI v))] [bI x] h 0 0 := by
    intro hz x hx
    subst hx
    refine g_if_ne C (tgt := 18) dX1_afterSetUp_13 (by decide) (fun q => absurd rfl q) (fun q => nul hz)
  have pre5 : Gd p l e (rmO 2 44 1 3) s m args0 below meth c (vx_MQ below (Qk Y (pR (ScR Y np pa h (nxt np ct pos lb 2 v)))) (Xk Y (noX)) args0 s 1 3 Y.A) Y 2 5 [some (.ref q), some (.int (nI v))] [bI (lyB np lb v)] h 0 0 := by
    by_cases hs : (lyB np lb v) = true
    · rw [hs]
      refine g_if_eq C (tgt := 16) dX1_afterSetUp_5 (by decide) (fun q1 => ?_) (fun q1 => ?_)
      · exact absurd q1 (by decide)
      · refine g_aload_n C dX1_afterSetUp_8 rfl (by first | rfl | exact isR_rf _) ?_
        refine g_iload_n C dX1_afterSetUp_9 rfl ?_
        refine g_callV C ((K_X1_isInReach l Y hq hp hnp hfp hpos hct hlb (show v < 2 ^ 31 by omega)).K) ok_X1_isInReach w656 (hq) rfl rfl rfl dX1_afterSetUp_10 (Nat.le_of_ble_eq_true rfl) (Nat.le_of_ble_eq_true rfl) (Nat.le_of_ble_eq_true rfl) (Nat.le_of_ble_eq_true rfl) (Nat.le_of_ble_eq_true rfl) (ofS ?_)
        by_cases hc : v < np ∧ lb.testBit v = true ∧ bes ct (pos v) = true
        · obtain ⟨c1, c2, c3⟩ := hc
          rw [if_pos ⟨c1, c2, c3⟩] at en
          rw [decide_eq_true c1, c3]
          refine g_if_ne C (tgt := 18) dX1_afterSetUp_13 (by decide) (fun q => ?_) (fun q => absurd q (by decide))
          refine cn_X1_10 C dX1_afterSetUp_18 (Nat.le_of_ble_eq_true rfl) (Nat.le_of_ble_eq_true rfl) (fun qn hqn => ?_)
          refine g_dup C dX1_afterSetUp_21 (by first | rfl | exact cat_rf _) ?_
          refine g_aload_n C dX1_afterSetUp_22 rfl (by first | rfl | exact isR_rf _) ?_
          refine gf_X1_9 C (hup_old hqn hq) rfl dX1_afterSetUp_23 ?_
          refine g_aload_n C dX1_afterSetUp_26 rfl (by first | rfl | exact isR_rf _) ?_
          refine gf_X1_15 C (hup_old hqn hq) rfl dX1_afterSetUp_27 ?_
          refine g_aload_n C dX1_afterSetUp_30 rfl (by first | rfl | exact isR_rf _) ?_
          refine gf_X1_19 C (hup_old hqn hq) rfl dX1_afterSetUp_31 ?_
          refine g_iconst C (v := nI 1) dX1_afterSetUp_34 (by decide) ?_
          refine g_iload_n C dX1_afterSetUp_35 rfl ?_
          refine g_ishl C dX1_afterSetUp_36 ?_
          rw [one_shl v hv]
          refine g_iconst C (v := (-1)) dX1_afterSetUp_37 (by decide) ?_
          refine g_ixor C dX1_afterSetUp_38 ?_
          refine g_iand C dX1_afterSetUp_39 ?_
          rw [and_not_bit hlb hv c2]
          refine g_callI C ((K_X1_init l Y hup_eq).K) ok_X1_init w610 rfl rfl dX1_afterSetUp_40 (Nat.le_of_ble_eq_true rfl) (Nat.le_of_ble_eq_true rfl) (Nat.le_of_ble_eq_true rfl) (Nat.le_of_ble_eq_true rfl) (Nat.le_of_ble_eq_true rfl) (ofV (fun h2 e2 => ?_))
          subst e2
          rw [hup_hup]
          exact g_aret C hr (by first | exact Or.inl ⟨_, rfl⟩ | exact Or.inr ⟨_, rfl⟩) (by first | rfl | exact isR_rf _) dX1_afterSetUp_43 (Nat.le_of_ble_eq_true rfl) (Nat.le_of_ble_eq_true rfl) (⟨some qn, rfl, by rw [en]; exact ⟨qn, pa, fp, rfl, hqn, hup_eq, hup_old hqn hp, hfp, Or.inl rfl, fun a e he => hup_old hqn he⟩⟩)
        · refine nul2 hc _ ?_
          simp only [lyB, Bool.and_eq_true, decide_eq_true_eq] at hs
          cases hbb : bes ct (pos v)
          · exact Bool.and_false _
          · exact absurd ⟨hs.1, hs.2, hbb⟩ hc
    · have hs0 : (lyB np lb v) = false := by cases hz : (lyB np lb v) with | false => rfl | true => exact absurd hz hs
      rw [hs0]
      refine g_if_eq C (tgt := 16) dX1_afterSetUp_5 (by decide) (fun q => nul (fun z => ?_)) (fun q => absurd rfl q)
      rw [show lyB np lb v = true from by unfold lyB; rw [decide_eq_true z.1, z.2.1]; rfl] at hs
      exact hs rfl
  refine g_aload_n C dX1_afterSetUp_0 rfl (by first | rfl | exact isR_rf _) ?_
  refine g_iload_n C dX1_afterSetUp_1 rfl ?_
  refine g_callV C ((K_X1_isLying l Y hq hp hnp hlb (show v < 2 ^ 31 by omega)).K) ok_X1_isLying w655 (hq) rfl rfl rfl dX1_afterSetUp_2 (Nat.le_of_ble_eq_true rfl) (Nat.le_of_ble_eq_true rfl) (Nat.le_of_ble_eq_true rfl) (Nat.le_of_ble_eq_true rfl) (Nat.le_of_ble_eq_true rfl) (ofS ?_)
  exact pre5
theorem pon_none {f : Nat → Nat} {v : Nat} : ∀ {d i : Nat}, (∀ q, i ≤ q → q < i + d → f q ≠ v) → pon f v d i = none := by
  intro d
  induction d with
  | zero => intro i _; rfl
  | succ d ih =>
    intro i h
    simp only [pon]
    rw [if_neg (h i (by omega) (by omega))]
    exact ih (fun q h1 h2 => h q (by omega) (by omega))
set_option maxRecDepth 100000 in
set_option maxHeartbeats 4000000 in
theorem K_X1_afterPush (l : Launch) (Y : YG) {q pa np ct lb : Nat} {fp : Nat → Int32} {h : AH} (hq : h q = some (.inr (2, [.int (nI ct), .ref pa, .int (nI lb)]))) (hp : h pa = some (aI Y np fp)) (hnp : np ≤ 16) {pos : Nat → Nat} (hfp : ∀ j, j < np → fp j = nI (pos j)) (hpos : ∀ j, j < np → pos j < 64) (hct : ct < 64) (hlb : lb < 65536) {v : Nat} (hv : v < 8) : MX l Y yX1_afterPush cX1_afterPush 6 (some (.object "CatEvenings$Scene")) 2 45 2 19 [.ref q, .int (nI v)] h (pR (ScR Y np pa h (nxt np ct pos lb 3 v))) (noX) := by
  refine MX.of (by decide +kernel) (Nat.le_of_ble_eq_true rfl) ?_
  intro p e s m args0 below meth c C hr hout hnm
  have en : nxt np ct pos lb 3 v = (match fa ct v with
      | none => none
      | some a => match pon pos a np 0 with
        | none => none
        | some q => if lb.testBit q = true then none else match fa a v with
          | none => none
          | some b => match pon pos b np 0 with
            | none => some (a, uN pos q b, lb)
            | some _ => none) := rfl
  have nul : nxt np ct pos lb 3 v = none → ∀ lv, Gd p l e (rmO 2 45 2 19) s m args0 below meth c (vx_MQ below (Qk Y (pR (ScR Y np pa h (nxt np ct pos lb 3 v)))) (Xk Y (noX)) args0 s 2 19 Y.A) Y 6 54 lv [] h 0 0 := by
    intro hz lv
    refine g_null C dX1_afterPush_54 ?_
    exact g_aret C hr (by first | exact Or.inl ⟨_, rfl⟩ | exact Or.inr ⟨_, rfl⟩) (by first | rfl | exact isR_rf _) dX1_afterPush_55 (by omega) (by omega) (⟨none, rfl, by rw [hz]; exact ⟨rfl, rfl⟩⟩)
  cases hf : fa ct v with
  | none =>
    rw [hf] at en
    refine g_aload_n C dX1_afterPush_0 rfl (by first | rfl | exact isR_rf _) ?_
    refine gf_X1_9 C (hq) rfl dX1_afterPush_1 ?_
    refine g_iload_n C dX1_afterPush_4 rfl ?_
    refine g_callSN C ((K_X2_farther l Y hct hv).K) ok_X2_farther (tf_nest C) rfl rfl dX1_afterPush_5 (Nat.le_of_ble_eq_true rfl) (Nat.le_of_ble_eq_true rfl) (Nat.le_of_ble_eq_true rfl) (by show _ ≤ 2; omega) (by show _ ≤ 19; omega) (ofS ?_)
    rw [hf]
    refine g_istore_n C dX1_afterPush_8 (by decide) ?_
    refine g_iload_n C dX1_afterPush_9 rfl ?_
    refine g_iload_n C dX1_afterPush_10 rfl ?_
    refine g_callSN C ((K_X2_farther_none l Y v).K) ok_X2_farther (tf_nest C) rfl rfl dX1_afterPush_11 (Nat.le_of_ble_eq_true rfl) (Nat.le_of_ble_eq_true rfl) (Nat.le_of_ble_eq_true rfl) (by show _ ≤ 2; omega) (by show _ ≤ 19; omega) (ofS ?_)
    refine g_istore_n C dX1_afterPush_14 (by decide) ?_
    refine g_aload_n C dX1_afterPush_15 rfl (by first | rfl | exact isR_rf _) ?_
    refine g_iload_n C dX1_afterPush_16 rfl ?_
    refine g_callV C ((K_X1_pieceOn l Y hq hp hnp (pl := 64) hfp (fun j hj => ⟨fun z => absurd z (nI_m1 (by have := hpos j hj; omega)), fun z => absurd z (by have := hpos j hj; omega)⟩)).K) ok_X1_pieceOn w669 (hq) rfl rfl rfl dX1_afterPush_17 (Nat.le_of_ble_eq_true rfl) (Nat.le_of_ble_eq_true rfl) (Nat.le_of_ble_eq_true rfl) (by show _ ≤ 2; omega) (by show _ ≤ 19; omega) (ofS ?_)
    rw [pon_none (fun j _ hj => by have := hpos j (by omega); omega)]
    refine g_istore C dX1_afterPush_20 (by decide) ?_
    refine g_aload_n C dX1_afterPush_22 rfl (by first | rfl | exact isR_rf _) ?_
    refine g_iload C dX1_afterPush_23 rfl ?_
    refine g_callV C ((K_X1_has l Y hq hp hnp (-1)).K) ok_X1_has w432 (hq) rfl rfl rfl dX1_afterPush_25 (Nat.le_of_ble_eq_true rfl) (Nat.le_of_ble_eq_true rfl) (Nat.le_of_ble_eq_true rfl) (by show _ ≤ 2; omega) (by show _ ≤ 19; omega) (ofS ?_)
    refine g_if_eq C (tgt := 54) dX1_afterPush_28 (by decide) (fun q1 => ?_) (fun q1 => ?_)
    · exact nul en _
    · exact absurd (by rw [show hasP np (-1) = false from by unfold hasP; rw [decide_eq_false (by decide)]; rfl]; rfl) q1
  | some a =>
    rw [hf] at en
    dsimp only at en
    have ha64 := fa_lt hf
    have hwa : ∀ j, j < np → (nI (pos j) = nI a ↔ pos j = a) := fun j hj => nI_eq (by have := hpos j hj; omega) (by omega)
    cases hpo : pon pos a np 0 with
    | none =>
      rw [hpo] at en
      refine g_aload_n C dX1_afterPush_0 rfl (by first | rfl | exact isR_rf _) ?_
      refine gf_X1_9 C (hq) rfl dX1_afterPush_1 ?_
      refine g_iload_n C dX1_afterPush_4 rfl ?_
      refine g_callSN C ((K_X2_farther l Y hct hv).K) ok_X2_farther (tf_nest C) rfl rfl dX1_afterPush_5 (Nat.le_of_ble_eq_true rfl) (Nat.le_of_ble_eq_true rfl) (Nat.le_of_ble_eq_true rfl) (by show _ ≤ 2; omega) (by show _ ≤ 19; omega) (ofS ?_)
      rw [hf]
      refine g_istore_n C dX1_afterPush_8 (by decide) ?_
      refine g_iload_n C dX1_afterPush_9 rfl ?_
      refine g_iload_n C dX1_afterPush_10 rfl ?_
      refine g_callSN C ((K_X2_farther l Y ha64 hv).K) ok_X2_farther (tf_nest C) rfl rfl dX1_afterPush_11 (Nat.le_of_ble_eq_true rfl) (Nat.le_of_ble_eq_true rfl) (Nat.le_of_ble_eq_true rfl) (by show _ ≤ 2; omega) (by show _ ≤ 19; omega) (ofS ?_)
      refine g_istore_n C dX1_afterPush_14 (by decide) ?_
      refine g_aload_n C dX1_afterPush_15 rfl (by first | rfl | exact isR_rf _) ?_
      refine g_iload_n C dX1_afterPush_16 rfl ?_
      refine g_callV C ((K_X1_pieceOn l Y hq hp hnp hfp hwa).K) ok_X1_pieceOn w669 (hq) rfl rfl rfl dX1_afterPush_17 (Nat.le_of_ble_eq_true rfl) (Nat.le_of_ble_eq_true rfl) (Nat.le_of_ble_eq_true rfl) (by show _ ≤ 2; omega) (by show _ ≤ 19; omega) (ofS ?_)
      rw [hpo]
      refine g_istore C dX1_afterPush_20 (by decide) ?_
      refine g_aload_n C dX1_afterPush_22 rfl (by first | rfl | exact isR_rf _) ?_
      refine g_iload C dX1_afterPush_23 rfl ?_
      refine g_callV C ((K_X1_has l Y hq hp hnp (-1)).K) ok_X1_has w432 (hq) rfl rfl rfl dX1_afterPush_25 (Nat.le_of_ble_eq_true rfl) (Nat.le_of_ble_eq_true rfl) (Nat.le_of_ble_eq_true rfl) (by show _ ≤ 2; omega) (by show _ ≤ 19; omega) (ofS ?_)
      refine g_if_eq C (tgt := 54) dX1_afterPush_28 (by decide) (fun q1 => ?_) (fun q1 => ?_)
      · exact nul en _
      · exact absurd (by rw [show hasP np (-1) = false from by unfold hasP; rw [decide_eq_false (by decide)]; rfl]; rfl) q1
    | some qq =>
      rw [hpo] at en
      dsimp only at en
      obtain ⟨-, hqq, hpq⟩ := pon_lt hpo
      rw [Nat.zero_add] at hqq
      have ely : lyB np lb qq = lb.testBit qq := by unfold lyB; rw [decide_eq_true hqq, Bool.true_and]
      cases hbt : lb.testBit qq with
      | true =>
        rw [hbt, if_pos rfl] at en
        refine g_aload_n C dX1_afterPush_0 rfl (by first | rfl | exact isR_rf _) ?_
        refine gf_X1_9 C (hq) rfl dX1_afterPush_1 ?_
        refine g_iload_n C dX1_afterPush_4 rfl ?_
        refine g_callSN C ((K_X2_farther l Y hct hv).K) ok_X2_farther (tf_nest C) rfl rfl dX1_afterPush_5 (Nat.le_of_ble_eq_true rfl) (Nat.le_of_ble_eq_true rfl) (Nat.le_of_ble_eq_true rfl) (by show _ ≤ 2; omega) (by show _ ≤ 19; omega) (ofS ?_)
        rw [hf]
        refine g_istore_n C dX1_afterPush_8 (by decide) ?_
        refine g_iload_n C dX1_afterPush_9 rfl ?_
        refine g_iload_n C dX1_afterPush_10 rfl ?_
        refine g_callSN C ((K_X2_farther l Y ha64 hv).K) ok_X2_farther (tf_nest C) rfl rfl dX1_afterPush_11 (Nat.le_of_ble_eq_true rfl) (Nat.le_of_ble_eq_true rfl) (Nat.le_of_ble_eq_true rfl) (by show _ ≤ 2; omega) (by show _ ≤ 19; omega) (ofS ?_)
        refine g_istore_n C dX1_afterPush_14 (by decide) ?_
        refine g_aload_n C dX1_afterPush_15 rfl (by first | rfl | exact isR_rf _) ?_
        refine g_iload_n C dX1_afterPush_16 rfl ?_
        refine g_callV C ((K_X1_pieceOn l Y hq hp hnp hfp hwa).K) ok_X1_pieceOn w669 (hq) rfl rfl rfl dX1_afterPush_17 (Nat.le_of_ble_eq_true rfl) (Nat.le_of_ble_eq_true rfl) (Nat.le_of_ble_eq_true rfl) (by show _ ≤ 2; omega) (by show _ ≤ 19; omega) (ofS ?_)
        rw [hpo]
        refine g_istore C dX1_afterPush_20 (by decide) ?_
        refine g_aload_n C dX1_afterPush_22 rfl (by first | rfl | exact isR_rf _) ?_
        refine g_iload C dX1_afterPush_23 rfl ?_
        refine g_callV C ((K_X1_has l Y hq hp hnp (nI qq)).K) ok_X1_has w432 (hq) rfl rfl rfl dX1_afterPush_25 (Nat.le_of_ble_eq_true rfl) (Nat.le_of_ble_eq_true rfl) (Nat.le_of_ble_eq_true rfl) (by show _ ≤ 2; omega) (by show _ ≤ 19; omega) (ofS ?_)
        rw [hasP_N hnp (by omega), decide_eq_true hqq]
        refine g_if_eq C (tgt := 54) dX1_afterPush_28 (by decide) (fun q1 => ?_) (fun q1 => ?_)
        · exact absurd q1 (by decide)
        · refine g_aload_n C dX1_afterPush_31 rfl (by first | rfl | exact isR_rf _) ?_
          refine g_iload C dX1_afterPush_32 rfl ?_
          refine g_callV C ((K_X1_isLying l Y hq hp hnp hlb (show qq < 2 ^ 31 by omega)).K) ok_X1_isLying w655 (hq) rfl rfl rfl dX1_afterPush_34 (Nat.le_of_ble_eq_true rfl) (Nat.le_of_ble_eq_true rfl) (Nat.le_of_ble_eq_true rfl) (by show _ ≤ 2; omega) (by show _ ≤ 19; omega) (ofS ?_)
          rw [ely, hbt]
          refine g_if_ne C (tgt := 54) dX1_afterPush_37 (by decide) (fun q2 => ?_) (fun q2 => ?_)
          · exact nul en _
          · exact absurd q2 (by decide)
      | false =>
        rw [hbt, if_neg (by decide)] at en
        cases hf2 : fa a v with
        | none =>
          rw [hf2] at en
          refine g_aload_n C dX1_afterPush_0 rfl (by first | rfl | exact isR_rf _) ?_
          refine gf_X1_9 C (hq) rfl dX1_afterPush_1 ?_
          refine g_iload_n C dX1_afterPush_4 rfl ?_
          refine g_callSN C ((K_X2_farther l Y hct hv).K) ok_X2_farther (tf_nest C) rfl rfl dX1_afterPush_5 (Nat.le_of_ble_eq_true rfl) (Nat.le_of_ble_eq_true rfl) (Nat.le_of_ble_eq_true rfl) (by show _ ≤ 2; omega) (by show _ ≤ 19; omega) (ofS ?_)
          rw [hf]
          refine g_istore_n C dX1_afterPush_8 (by decide) ?_
          refine g_iload_n C dX1_afterPush_9 rfl ?_
          refine g_iload_n C dX1_afterPush_10 rfl ?_
          refine g_callSN C ((K_X2_farther l Y ha64 hv).K) ok_X2_farther (tf_nest C) rfl rfl dX1_afterPush_11 (Nat.le_of_ble_eq_true rfl) (Nat.le_of_ble_eq_true rfl) (Nat.le_of_ble_eq_true rfl) (by show _ ≤ 2; omega) (by show _ ≤ 19; omega) (ofS ?_)
          refine g_istore_n C dX1_afterPush_14 (by decide) ?_
          refine g_aload_n C dX1_afterPush_15 rfl (by first | rfl | exact isR_rf _) ?_
          refine g_iload_n C dX1_afterPush_16 rfl ?_
          refine g_callV C ((K_X1_pieceOn l Y hq hp hnp hfp hwa).K) ok_X1_pieceOn w669 (hq) rfl rfl rfl dX1_afterPush_17 (Nat.le_of_ble_eq_true rfl) (Nat.le_of_ble_eq_true rfl) (Nat.le_of_ble_eq_true rfl) (by show _ ≤ 2; omega) (by show _ ≤ 19; omega) (ofS ?_)
          rw [hpo]
          refine g_istore C dX1_afterPush_20 (by decide) ?_
          refine g_aload_n C dX1_afterPush_22 rfl (by first | rfl | exact isR_rf _) ?_
          refine g_iload C dX1_afterPush_23 rfl ?_
          refine g_callV C ((K_X1_has l Y hq hp hnp (nI qq)).K) ok_X1_has w432 (hq) rfl rfl rfl dX1_afterPush_25 (Nat.le_of_ble_eq_true rfl) (Nat.le_of_ble_eq_true rfl) (Nat.le_of_ble_eq_true rfl) (by show _ ≤ 2; omega) (by show _ ≤ 19; omega) (ofS ?_)
          rw [hasP_N hnp (by omega), decide_eq_true hqq]
          refine g_if_eq C (tgt := 54) dX1_afterPush_28 (by decide) (fun q1 => ?_) (fun q1 => ?_)
          · exact absurd q1 (by decide)
          · refine g_aload_n C dX1_afterPush_31 rfl (by first | rfl | exact isR_rf _) ?_
            refine g_iload C dX1_afterPush_32 rfl ?_
            refine g_callV C ((K_X1_isLying l Y hq hp hnp hlb (show qq < 2 ^ 31 by omega)).K) ok_X1_isLying w655 (hq) rfl rfl rfl dX1_afterPush_34 (Nat.le_of_ble_eq_true rfl) (Nat.le_of_ble_eq_true rfl) (Nat.le_of_ble_eq_true rfl) (by show _ ≤ 2; omega) (by show _ ≤ 19; omega) (ofS ?_)
            rw [ely, hbt]
            refine g_if_ne C (tgt := 54) dX1_afterPush_37 (by decide) (fun q2 => ?_) (fun q2 => ?_)
            · exact absurd rfl q2
            · rw [hf2]
              refine g_iload_n C dX1_afterPush_40 rfl ?_
              refine g_iconst C (v := (-1)) dX1_afterPush_41 (by decide) ?_
              refine g_icmp_eq C (tgt := 54) dX1_afterPush_42 (by decide) (fun q3 => ?_) (fun q3 => ?_)
              · exact nul en _
              · exact absurd rfl q3
        | some b =>
          rw [hf2] at en
          dsimp only at en
          have hb64 := fa_lt hf2
          have hwb : ∀ j, j < np → (nI (pos j) = nI b ↔ pos j = b) := fun j hj => nI_eq (by have := hpos j hj; omega) (by omega)
          cases hpb : pon pos b np 0 with
          | some q3 =>
            rw [hpb] at en
            refine g_aload_n C dX1_afterPush_0 rfl (by first | rfl | exact isR_rf _) ?_
            refine gf_X1_9 C (hq) rfl dX1_afterPush_1 ?_
            refine g_iload_n C dX1_afterPush_4 rfl ?_
            refine g_callSN C ((K_X2_farther l Y hct hv).K) ok_X2_farther (tf_nest C) rfl rfl dX1_afterPush_5 (Nat.le_of_ble_eq_true rfl) (Nat.le_of_ble_eq_true rfl) (Nat.le_of_ble_eq_true rfl) (by show _ ≤ 2; omega) (by show _ ≤ 19; omega) (ofS ?_)
            rw [hf]
            refine g_istore_n C dX1_afterPush_8 (by decide) ?_
            refine g_iload_n C dX1_afterPush_9 rfl ?_
            refine g_iload_n C dX1_afterPush_10 rfl ?_
            refine g_callSN C ((K_X2_farther l Y ha64 hv).K) ok_X2_farther (tf_nest C) rfl rfl dX1_afterPush_11 (Nat.le_of_ble_eq_true rfl) (Nat.le_of_ble_eq_true rfl) (Nat.le_of_ble_eq_true rfl) (by show _ ≤ 2; omega) (by show _ ≤ 19; omega) (ofS ?_)
            refine g_istore_n C dX1_afterPush_14 (by decide) ?_
            refine g_aload_n C dX1_afterPush_15 rfl (by first | rfl | exact isR_rf _) ?_
            refine g_iload_n C dX1_afterPush_16 rfl ?_
            refine g_callV C ((K_X1_pieceOn l Y hq hp hnp hfp hwa).K) ok_X1_pieceOn w669 (hq) rfl rfl rfl dX1_afterPush_17 (Nat.le_of_ble_eq_true rfl) (Nat.le_of_ble_eq_true rfl) (Nat.le_of_ble_eq_true rfl) (by show _ ≤ 2; omega) (by show _ ≤ 19; omega) (ofS ?_)
            rw [hpo]
            refine g_istore C dX1_afterPush_20 (by decide) ?_
            refine g_aload_n C dX1_afterPush_22 rfl (by first | rfl | exact isR_rf _) ?_
            refine g_iload C dX1_afterPush_23 rfl ?_
            refine g_callV C ((K_X1_has l Y hq hp hnp (nI qq)).K) ok_X1_has w432 (hq) rfl rfl rfl dX1_afterPush_25 (Nat.le_of_ble_eq_true rfl) (Nat.le_of_ble_eq_true rfl) (Nat.le_of_ble_eq_true rfl) (by show _ ≤ 2; omega) (by show _ ≤ 19; omega) (ofS ?_)
            rw [hasP_N hnp (by omega), decide_eq_true hqq]
            refine g_if_eq C (tgt := 54) dX1_afterPush_28 (by decide) (fun q1 => ?_) (fun q1 => ?_)
            · exact absurd q1 (by decide)
            · refine g_aload_n C dX1_afterPush_31 rfl (by first | rfl | exact isR_rf _) ?_
              refine g_iload C dX1_afterPush_32 rfl ?_
              refine g_callV C ((K_X1_isLying l Y hq hp hnp hlb (show qq < 2 ^ 31 by omega)).K) ok_X1_isLying w655 (hq) rfl rfl rfl dX1_afterPush_34 (Nat.le_of_ble_eq_true rfl) (Nat.le_of_ble_eq_true rfl) (Nat.le_of_ble_eq_true rfl) (by show _ ≤ 2; omega) (by show _ ≤ 19; omega) (ofS ?_)
              rw [ely, hbt]
              refine g_if_ne C (tgt := 54) dX1_afterPush_37 (by decide) (fun q2 => ?_) (fun q2 => ?_)
              · exact absurd rfl q2
              · rw [hf2]
                refine g_iload_n C dX1_afterPush_40 rfl ?_
                refine g_iconst C (v := (-1)) dX1_afterPush_41 (by decide) ?_
                refine g_icmp_eq C (tgt := 54) dX1_afterPush_42 (by decide) (fun q4 => ?_) (fun q4 => ?_)
                · exact absurd q4 (nI_m1 (by omega))
                · refine g_aload_n C dX1_afterPush_45 rfl (by first | rfl | exact isR_rf _) ?_
                  refine g_iload_n C dX1_afterPush_46 rfl ?_
                  refine g_callV C ((K_X1_pieceOn l Y hq hp hnp hfp hwb).K) ok_X1_pieceOn w669 (hq) rfl rfl rfl dX1_afterPush_47 (Nat.le_of_ble_eq_true rfl) (Nat.le_of_ble_eq_true rfl) (Nat.le_of_ble_eq_true rfl) (by show _ ≤ 2; omega) (by show _ ≤ 19; omega) (ofS ?_)
                  rw [hpb]
                  refine g_iconst C (v := (-1)) dX1_afterPush_50 (by decide) ?_
                  refine g_icmp_eq C (tgt := 56) dX1_afterPush_51 (by decide) (fun q5 => ?_) (fun q5 => ?_)
                  · exact absurd q5 (nI_m1 (by have := (pon_lt hpb).2.1; omega))
                  · exact nul en _
          | none =>
            rw [hpb] at en
            refine g_aload_n C dX1_afterPush_0 rfl (by first | rfl | exact isR_rf _) ?_
            refine gf_X1_9 C (hq) rfl dX1_afterPush_1 ?_
            refine g_iload_n C dX1_afterPush_4 rfl ?_
            refine g_callSN C ((K_X2_farther l Y hct hv).K) ok_X2_farther (tf_nest C) rfl rfl dX1_afterPush_5 (Nat.le_of_ble_eq_true rfl) (Nat.le_of_ble_eq_true rfl) (Nat.le_of_ble_eq_true rfl) (by show _ ≤ 2; omega) (by show _ ≤ 19; omega) (ofS ?_)
            rw [hf]
            refine g_istore_n C dX1_afterPush_8 (by decide) ?_
            refine g_iload_n C dX1_afterPush_9 rfl ?_
            refine g_iload_n C dX1_afterPush_10 rfl ?_
            refine g_callSN C ((K_X2_farther l Y ha64 hv).K) ok_X2_farther (tf_nest C) rfl rfl dX1_afterPush_11 (Nat.le_of_ble_eq_true rfl) (Nat.le_of_ble_eq_true rfl) (Nat.le_of_ble_eq_true rfl) (by show _ ≤ 2; omega) (by show _ ≤ 19; omega) (ofS ?_)
            refine g_istore_n C dX1_afterPush_14 (by decide) ?_
            refine g_aload_n C dX1_afterPush_15 rfl (by first | rfl | exact isR_rf _) ?_
            refine g_iload_n C dX1_afterPush_16 rfl ?_
            refine g_callV C ((K_X1_pieceOn l Y hq hp hnp hfp hwa).K) ok_X1_pieceOn w669 (hq) rfl rfl rfl dX1_afterPush_17 (Nat.le_of_ble_eq_true rfl) (Nat.le_of_ble_eq_true rfl) (Nat.le_of_ble_eq_true rfl) (by show _ ≤ 2; omega) (by show _ ≤ 19; omega) (ofS ?_)
            rw [hpo]
            refine g_istore C dX1_afterPush_20 (by decide) ?_
            refine g_aload_n C dX1_afterPush_22 rfl (by first | rfl | exact isR_rf _) ?_
            refine g_iload C dX1_afterPush_23 rfl ?_
            refine g_callV C ((K_X1_has l Y hq hp hnp (nI qq)).K) ok_X1_has w432 (hq) rfl rfl rfl dX1_afterPush_25 (Nat.le_of_ble_eq_true rfl) (Nat.le_of_ble_eq_true rfl) (Nat.le_of_ble_eq_true rfl) (by show _ ≤ 2; omega) (by show _ ≤ 19; omega) (ofS ?_)
            rw [hasP_N hnp (by omega), decide_eq_true hqq]
            refine g_if_eq C (tgt := 54) dX1_afterPush_28 (by decide) (fun q1 => ?_) (fun q1 => ?_)
            · exact absurd q1 (by decide)
            · refine g_aload_n C dX1_afterPush_31 rfl (by first | rfl | exact isR_rf _) ?_
              refine g_iload C dX1_afterPush_32 rfl ?_
              refine g_callV C ((K_X1_isLying l Y hq hp hnp hlb (show qq < 2 ^ 31 by omega)).K) ok_X1_isLying w655 (hq) rfl rfl rfl dX1_afterPush_34 (Nat.le_of_ble_eq_true rfl) (Nat.le_of_ble_eq_true rfl) (Nat.le_of_ble_eq_true rfl) (by show _ ≤ 2; omega) (by show _ ≤ 19; omega) (ofS ?_)
              rw [ely, hbt]
              refine g_if_ne C (tgt := 54) dX1_afterPush_37 (by decide) (fun q2 => ?_) (fun q2 => ?_)
              · exact absurd rfl q2
              · rw [hf2]
                refine g_iload_n C dX1_afterPush_40 rfl ?_
                refine g_iconst C (v := (-1)) dX1_afterPush_41 (by decide) ?_
                refine g_icmp_eq C (tgt := 54) dX1_afterPush_42 (by decide) (fun q4 => ?_) (fun q4 => ?_)
                · exact absurd q4 (nI_m1 (by omega))
                · refine g_aload_n C dX1_afterPush_45 rfl (by first | rfl | exact isR_rf _) ?_
                  refine g_iload_n C dX1_afterPush_46 rfl ?_
                  refine g_callV C ((K_X1_pieceOn l Y hq hp hnp hfp hwb).K) ok_X1_pieceOn w669 (hq) rfl rfl rfl dX1_afterPush_47 (Nat.le_of_ble_eq_true rfl) (Nat.le_of_ble_eq_true rfl) (Nat.le_of_ble_eq_true rfl) (by show _ ≤ 2; omega) (by show _ ≤ 19; omega) (ofS ?_)
                  rw [hpb]
                  refine g_iconst C (v := (-1)) dX1_afterPush_50 (by decide) ?_
                  refine g_icmp_eq C (tgt := 56) dX1_afterPush_51 (by decide) (fun q5 => ?_) (fun q5 => ?_)
                  · refine g_aload_n C dX1_afterPush_56 rfl (by first | rfl | exact isR_rf _) ?_
                    refine gf_X1_15 C (hq) rfl dX1_afterPush_57 ?_
                    refine g_cloneI C hp w670 w671 w672 w673 w674 dX1_afterPush_60 (Nat.le_of_ble_eq_true rfl) (Nat.le_of_ble_eq_true rfl) (Nat.le_of_ble_eq_true rfl) (by show _ ≤ 19; omega) (fun pn hpn => ?_)
                    refine g_castI C hup_eq w676 dX1_afterPush_63 ?_
                    refine g_astore C dX1_afterPush_66 (by decide) (by first | rfl | exact isR_rf _) ?_
                    refine g_aload C dX1_afterPush_68 rfl (by first | rfl | exact isR_rf _) ?_
                    refine g_iload C dX1_afterPush_70 rfl ?_
                    refine g_iload_n C dX1_afterPush_72 rfl ?_
                    refine g_iast C hup_eq rfl hqq (by omega) dX1_afterPush_73 ?_
                    rw [hup_hup]
                    have hq1 := hup_old (e := aI Y np (upd fp qq (nI b))) hpn hq
                    refine cn_X1_10 C dX1_afterPush_74 (Nat.le_of_ble_eq_true rfl) (by show _ ≤ 19; omega) (fun qn hqn => ?_)
                    refine g_dup C dX1_afterPush_77 (by first | rfl | exact cat_rf _) ?_
                    refine g_iload_n C dX1_afterPush_78 rfl ?_
                    refine g_aload C dX1_afterPush_79 rfl (by first | rfl | exact isR_rf _) ?_
                    refine g_aload_n C dX1_afterPush_81 rfl (by first | rfl | exact isR_rf _) ?_
                    refine gf_X1_19 C (hup_old hqn hq1) rfl dX1_afterPush_82 ?_
                    refine g_callI C ((K_X1_init l Y hup_eq).K) ok_X1_init w610 rfl rfl dX1_afterPush_85 (Nat.le_of_ble_eq_true rfl) (Nat.le_of_ble_eq_true rfl) (Nat.le_of_ble_eq_true rfl) (by show _ ≤ 2; omega) (by show _ ≤ 19; omega) (ofV (fun h2 e2 => ?_))
                    subst e2
                    rw [hup_hup]
                    refine g_aret C hr (Or.inl ⟨_, rfl⟩) rfl dX1_afterPush_88 (Nat.le_of_ble_eq_true rfl) (by omega) ⟨some qn, rfl, ?_⟩
                    rw [en]
                    have hqn0 : h qn = none := by
                      cases hz : h qn with
                      | none => rfl
                      | some z =>
                        rw [hup_old hpn hz] at hqn
                        cases hqn
                    refine ⟨qn, pn, upd fp qq (nI b), rfl, hqn0, hup_eq, hup_old hqn hup_eq, fun j hj => ?_, Or.inr hpn, fun a e he => hup_old hqn (hup_old hpn he)⟩
                    show upd fp qq (nI b) j = nI (uN pos qq b j)
                    unfold upd uN
                    by_cases hj2 : j = qq
                    · rw [if_pos hj2, if_pos hj2]
                    · rw [if_neg hj2, if_neg hj2]; exact hfp j hj
                  · exact absurd rfl q5
set_option maxRecDepth 100000 in
set_option maxHeartbeats 4000000 in
theorem K_X1_after (l : Launch) (Y : YG) {q pa np ct lb : Nat} {fp : Nat → Int32} {h : AH} (hq : h q = some (.inr (2, [.int (nI ct), .ref pa, .int (nI lb)]))) (hp : h pa = some (aI Y np fp)) (hnp : np ≤ 16) {pos : Nat → Nat} (hfp : ∀ j, j < np → fp j = nI (pos j)) (hpos : ∀ j, j < np → pos j < 64) (hct : ct < 64) (hlb : lb < 65536) {k v : Nat} (hk4 : k < 4) (hv16 : v < 16) (hv8 : k = 0 ∨ k = 3 → v < 8) : MX l Y yX1_after cX1_after 3 (some (.object "CatEvenings$Scene")) 4 84 2 19 [.ref q, .int (nI k), .int (nI v)] h (pR (ScR Y np pa h (nxt np ct pos lb k v))) (noX) := by
  refine MX.of (by decide +kernel) (Nat.le_of_ble_eq_true rfl) ?_
  intro p e s m args0 below meth c C hr hout hnm
  refine g_iload_n C dX1_after_0 rfl ?_
  have hk : k = 0 ∨ k = 1 ∨ k = 2 ∨ k = 3 := by omega
  rcases hk with rfl | rfl | rfl | rfl
  · refine g_tsIn C (tgt := 32) dX1_after_1 (by decide) (by decide) rfl (by decide) ?_
    refine g_aload_n C dX1_after_32 rfl (by first | rfl | exact isR_rf _) ?_
    refine g_iload_n C dX1_after_33 rfl ?_
    refine g_callV C ((K_X1_afterStep l Y hq hp hnp hfp hpos hct hlb (hv8 (Or.inl rfl))).K) ok_X1_afterStep w636 (hq) rfl rfl rfl dX1_after_34 (Nat.le_of_ble_eq_true rfl) (Nat.le_of_ble_eq_true rfl) (Nat.le_of_ble_eq_true rfl) (Nat.le_of_ble_eq_true rfl) (Nat.le_of_ble_eq_true rfl) (ofR (fun r h2 e2 => ?_))
    exact g_aret C hr (by first | exact Or.inl ⟨_, rfl⟩ | exact Or.inr ⟨_, rfl⟩) (by first | rfl | exact isR_rf _) dX1_after_37 (Nat.le_of_ble_eq_true rfl) (Nat.le_of_ble_eq_true rfl) (⟨r, rfl, e2⟩)
  · refine g_tsIn C (tgt := 38) dX1_after_1 (by decide) (by decide) rfl (by decide) ?_
    refine g_aload_n C dX1_after_38 rfl (by first | rfl | exact isR_rf _) ?_
    refine g_iload_n C dX1_after_39 rfl ?_
    refine g_callV C ((K_X1_afterKnock l Y hq hp hnp hfp hpos hct hlb hv16).K) ok_X1_afterKnock w647 (hq) rfl rfl rfl dX1_after_40 (Nat.le_of_ble_eq_true rfl) (Nat.le_of_ble_eq_true rfl) (Nat.le_of_ble_eq_true rfl) (Nat.le_of_ble_eq_true rfl) (Nat.le_of_ble_eq_true rfl) (ofR (fun r h2 e2 => ?_))
    exact g_aret C hr (by first | exact Or.inl ⟨_, rfl⟩ | exact Or.inr ⟨_, rfl⟩) (by first | rfl | exact isR_rf _) dX1_after_43 (Nat.le_of_ble_eq_true rfl) (Nat.le_of_ble_eq_true rfl) (⟨r, rfl, e2⟩)
  · refine g_tsIn C (tgt := 44) dX1_after_1 (by decide) (by decide) rfl (by decide) ?_
    refine g_aload_n C dX1_after_44 rfl (by first | rfl | exact isR_rf _) ?_
    refine g_iload_n C dX1_after_45 rfl ?_
    refine g_callV C ((K_X1_afterSetUp l Y hq hp hnp hfp hpos hct hlb hv16).K) ok_X1_afterSetUp w661 (hq) rfl rfl rfl dX1_after_46 (Nat.le_of_ble_eq_true rfl) (Nat.le_of_ble_eq_true rfl) (Nat.le_of_ble_eq_true rfl) (Nat.le_of_ble_eq_true rfl) (Nat.le_of_ble_eq_true rfl) (ofR (fun r h2 e2 => ?_))
    exact g_aret C hr (by first | exact Or.inl ⟨_, rfl⟩ | exact Or.inr ⟨_, rfl⟩) (by first | rfl | exact isR_rf _) dX1_after_49 (Nat.le_of_ble_eq_true rfl) (Nat.le_of_ble_eq_true rfl) (⟨r, rfl, e2⟩)
  · refine g_tsIn C (tgt := 50) dX1_after_1 (by decide) (by decide) rfl (by decide) ?_
    refine g_aload_n C dX1_after_50 rfl (by first | rfl | exact isR_rf _) ?_
    refine g_iload_n C dX1_after_51 rfl ?_
    refine g_callV C ((K_X1_afterPush l Y hq hp hnp hfp hpos hct hlb (hv8 (Or.inr rfl))).K) ok_X1_afterPush w665 (hq) rfl rfl rfl dX1_after_52 (Nat.le_of_ble_eq_true rfl) (Nat.le_of_ble_eq_true rfl) (Nat.le_of_ble_eq_true rfl) (Nat.le_of_ble_eq_true rfl) (Nat.le_of_ble_eq_true rfl) (ofR (fun r h2 e2 => ?_))
    exact g_aret C hr (by first | exact Or.inl ⟨_, rfl⟩ | exact Or.inr ⟨_, rfl⟩) (by first | rfl | exact isR_rf _) dX1_after_55 (Nat.le_of_ble_eq_true rfl) (Nat.le_of_ble_eq_true rfl) (⟨r, rfl, e2⟩)
set_option maxRecDepth 100000 in
set_option maxHeartbeats 4000000 in
theorem K_X1_withPieceOn (l : Launch) (Y : YG) {q pa np ct lb : Nat} {fp : Nat → Int32} {h : AH} (hq : h q = some (.inr (2, [.int (nI ct), .ref pa, .int (nI lb)]))) (hp : h pa = some (aI Y np fp)) (hnp : np ≤ 16) (w : Int32) : MX l Y yX1_withPieceOn cX1_withPieceOn 3 (some (.object "CatEvenings$Scene")) 2 45 2 20 [.ref q, .int w] h (pR (fun r h' => ∃ (q' pa' : Nat) (fp' : Nat → Int32), r = some q' ∧ h q' = none ∧ h' q' = some (.inr (2, [.int (nI ct), .ref pa', .int (nI lb)])) ∧ h' pa' = some (aI Y (np + 1) fp') ∧ (∀ j, j < np → fp' j = fp j) ∧ fp' np = w ∧ h pa' = none ∧ ∀ a e, h a = some e → h' a = some e)) (noX) := by
  refine MX.of (by decide +kernel) (Nat.le_of_ble_eq_true rfl) ?_
  intro p e s m args0 below meth c C hr hout hnm
  refine g_aload_n C dX1_withPieceOn_0 rfl (by first | rfl | exact isR_rf _) ?_
  refine gf_X1_15 C (hq) rfl dX1_withPieceOn_1 ?_
  refine g_aleni C (hp) dX1_withPieceOn_4 ?_
  refine g_iconst C (v := nI 1) dX1_withPieceOn_5 (by decide) ?_
  first | with_reducible refine g_iaddN C dX1_withPieceOn_6 ?_ | refine g_iadd C dX1_withPieceOn_6 ?_
  refine g_newI C (N := np + 1) rfl (by omega) w49 (Nat.le_of_ble_eq_true rfl) (by show _ ≤ 20; omega) dX1_withPieceOn_7 (fun pn hpn => ?_)
  refine g_astore_n C dX1_withPieceOn_9 (by decide) (by first | rfl | exact isR_rf _) ?_
  refine g_aload_n C dX1_withPieceOn_10 rfl (by first | rfl | exact isR_rf _) ?_
  refine gf_X1_15 C (hup_old hpn hq) rfl dX1_withPieceOn_11 ?_
  refine g_iconst C (v := nI 0) dX1_withPieceOn_14 (by decide) ?_
  refine g_aload_n C dX1_withPieceOn_15 rfl (by first | rfl | exact isR_rf _) ?_
  refine g_iconst C (v := nI 0) dX1_withPieceOn_16 (by decide) ?_
  refine g_aload_n C dX1_withPieceOn_17 rfl (by first | rfl | exact isR_rf _) ?_
  refine gf_X1_15 C (hup_old hpn hq) rfl dX1_withPieceOn_18 ?_
  refine g_aleni C (hup_old hpn hp) dX1_withPieceOn_21 ?_
  refine g_copyI C (hup_old hpn hp) hup_eq w608 w175 w174 w10 (by omega) (by omega) (by omega) dX1_withPieceOn_22 (Nat.le_of_ble_eq_true rfl) (Nat.le_of_ble_eq_true rfl) ?_
  rw [hup_hup]
  have hq1 := fun e => hup_old (e := e) hpn hq
  have hp1 := fun e => hup_old (e := e) hpn hp
  refine g_aload_n C dX1_withPieceOn_25 rfl (by first | rfl | exact isR_rf _) ?_
  refine g_aload_n C dX1_withPieceOn_26 rfl (by first | rfl | exact isR_rf _) ?_
  refine gf_X1_15 C (hq1 _) rfl dX1_withPieceOn_27 ?_
  refine g_aleni C (hp1 _) dX1_withPieceOn_30 ?_
  refine g_iload_n C dX1_withPieceOn_31 rfl ?_
  refine g_iast C hup_eq rfl (by omega) (by omega) dX1_withPieceOn_32 ?_
  rw [hup_hup]
  refine cn_X1_10 C dX1_withPieceOn_33 (Nat.le_of_ble_eq_true rfl) (by show _ ≤ 20; omega) (fun qn hqn => ?_)
  refine g_dup C dX1_withPieceOn_36 (by first | rfl | exact cat_rf _) ?_
  refine g_aload_n C dX1_withPieceOn_37 rfl (by first | rfl | exact isR_rf _) ?_
  refine gf_X1_9 C (hup_old hqn (hq1 _)) rfl dX1_withPieceOn_38 ?_
  refine g_aload_n C dX1_withPieceOn_41 rfl (by first | rfl | exact isR_rf _) ?_
  refine g_aload_n C dX1_withPieceOn_42 rfl (by first | rfl | exact isR_rf _) ?_
  refine gf_X1_19 C (hup_old hqn (hq1 _)) rfl dX1_withPieceOn_43 ?_
  refine g_callI C ((K_X1_init l Y hup_eq).K) ok_X1_init w610 rfl rfl dX1_withPieceOn_46 (Nat.le_of_ble_eq_true rfl) (Nat.le_of_ble_eq_true rfl) (Nat.le_of_ble_eq_true rfl) (by show _ ≤ 2; omega) (by show _ ≤ 20; omega) (ofV (fun h2 e2 => ?_))
  subst e2
  rw [hup_hup]
  refine g_aret C hr (Or.inl ⟨_, rfl⟩) rfl dX1_withPieceOn_49 (Nat.le_of_ble_eq_true rfl) (by omega) ⟨some qn, rfl, ?_⟩
  have hqn0 : h qn = none := by
    cases hz : h qn with
    | none => rfl
    | some z =>
      rw [hup_old hpn hz] at hqn
      cases hqn
  refine ⟨qn, pn, _, rfl, hqn0, hup_eq, hup_old hqn hup_eq, fun j hj => ?_, ?_, hpn, fun a e he => hup_old hqn (hup_old hpn he)⟩
  · unfold upd
    rw [if_neg (by omega), pk_cpy_in (Nat.zero_le _) (by omega)]
    simp
  · unfold upd
    rw [if_pos rfl]
