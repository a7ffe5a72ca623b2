section GD
variable {p : Program} {l : Launch} {e : Env} {R : Room} {s : State} {m : MethodId} {args : Array Value} {below : List Frame} {meth : Method} {c : Code} {Q : State → Prop} {Y : YG} {nL : Nat} {cc : ByteArray} {own : String} {pc : Nat} {lv : List (Option Value)} {st : List Value} {h : AH} {k n : Nat}
theorem g_gets (C : Cx p s m args meth c Y cc nL own) {idx : Nat} {Cn fn ds : String} {v : Value} (hz : va_Z Cn fn ds v Y.A s s.heap) (hlink : Cond.fieldLink own idx Cn fn ds ∈ AllW) (hd : decode cc pc = .ok (.getstatic idx, 3)) (kk : Gd p l e R s m args below meth c Q Y nL (pc + 3) lv (v :: st) h k n) : Gd p l e R s m args below meth c Q Y nL pc lv st h k n := by
  obtain ⟨hx, hb, hml, hown, hts, hK, -, hA, -⟩ := C
  intro H locs ls hc hS hl
  exact va_gets hx hb hz hS hown (hts _ hlink) (fun _ z => z) hd (kk H locs ls hc hS hl)
theorem g_tlenE (C : Cx p s m args meth c Y cc nL own) (hd : decode cc pc = .ok (.arraylength, 1)) (kk : Gd p l e R s m args below meth c Q Y nL (pc + 1) lv (.int (nI 0) :: st) h k n) : Gd p l e R s m args below meth c Q Y nL pc lv (.ref Y.tE :: st) h k n := by
  have ht := (tf_E C).2
  obtain ⟨hx, hb, hml, hown, hts, hK, -, hA, -⟩ := C
  intro H locs ls hc hS hl
  exact va_tlen hx hb ht hS rfl hd (kk H locs ls hc hS hl)
theorem g_newO (C : Cx p s m args meth c Y cc nL own) {idx N : Nat} {i : Int32} (hi : i = nI N) (hN : N ≤ 60000000) (hlink : Cond.classLink own idx "java/lang/Object" ∈ AllW) (hk : k + 1 ≤ R.cells) (hn : n + N ≤ R.slots) (hd : decode cc pc = .ok (.anewarray idx, 3)) (kk : ∀ q : Nat, h q = none → Gd p l e R s m args below meth c Q Y nL (pc + 3) lv (.ref q :: st) (hup h q (aO Y N (fun _ => none))) (k + 1) (n + N)) : Gd p l e R s m args below meth c Q Y nL pc lv (.int i :: st) h k n := by
  have hao := tf_ao C
  obtain ⟨hx, hb, hml, hown, hts, hK, -, hA, -⟩ := C
  intro H locs ls hc hS hl
  obtain ⟨ws, hP, hD, hw⟩ := id hc
  subst hi
  refine va_newq hx hb hown (hts _ hlink) hao hK hP hD hS hA (nI_pos (by omega)) (nI_clamp (by omega)) (by omega) hk hn hd (fun q cA H1 hK1 hP1 hD1 hS1 => ?_)
  have e1 : cA = Y.cO := cls_one hK (t := 2) rfl (K_last hK1)
  subst e1
  obtain ⟨z1, z2⟩ := cw_push hw hP1 hD1
  exact kk q z1 H1 locs ls z2 hS1 hl
theorem g_oast (C : Cx p s m args meth c Y cc nL own) {a N j ci v : Nat} {Cn : String} {T : u_T} {M : Nat} {vs : List Value} {f : Nat → Option Nat} {i : Int32} (ha : h a = some (aO Y N f)) (hv : h v = some (.inr (ci, vs))) (hci : vwCl[ci]? = some (Cn, T, M)) (hca : va_Ca Cn "java/lang/Object" s) (hi : i = nI j) (hj : j < N) (hN : N < 2 ^ 31) (hd : decode cc pc = .ok (.aastore, 1)) (kk : Gd p l e R s m args below meth c Q Y nL (pc + 1) lv st (hup h a (aO Y N (va_up f j (some v)))) k n) : Gd p l e R s m args below meth c Q Y nL pc lv (.ref v :: .int i :: .ref a :: st) h k n := by
  obtain ⟨hx, hb, hml, hown, hts, hK, -, hA, -⟩ := C
  intro H locs ls hc hS hl
  obtain ⟨ws, hP, hD, hw⟩ := id hc
  obtain ⟨q0, hq⟩ := hw a _ ha
  obtain ⟨qk, hqk⟩ := hw v _ hv
  subst hi
  refine va_astqO hx hb hK hP hD hS (r := (Cn, T, M)) q0 2 qk ci hq rfl (show va_Nw (.castable Cn "java/lang/Object") s from hca) hqk hci (vp_in_nI hj hN) hd (fun H1 locs1 hP1 hD1 hS1 => ?_)
  rw [nI_clamp (by omega)] at hP1 hD1
  exact kk H1 locs1 ls (cw_set hD hw hq hP1 hD1) hS1 hl
theorem g_copyO (C : Cx p s m args meth c Y cc nL own) {idx a0 a1 N0 N1 sp dp z : Nat} {f g : Nat → Option Nat} (ha0 : h a0 = some (aO Y N0 f)) (ha1 : h a1 = some (aO Y N1 g)) (hel : ∀ i, i < z → ∀ y, f (sp + i) = some y → ∃ vs, h y = some (.inr (1, vs))) (hlink : Cond.methodLink own idx arraycopyName ∈ AllW) (h1 : Cond.native arraycopyName ∈ AllW) (h2 : Cond.static arraycopyName ∈ AllW) (h3 : Cond.initialized "java/lang/System" ∈ AllW) (hz0 : sp + z ≤ N0) (hz1 : dp + z ≤ N1) (hN : N0 < 2 ^ 31 ∧ N1 < 2 ^ 31)
    (hd : decode cc pc = .ok (.invokestatic idx, 3)) (hR : 1 ≤ R.frames) (hR2 : (st.map fun v => v.category).sum + (nativeFrameWords "java/lang/System" "arraycopy" 5 + 11) ≤ R.locals)
    (kk : Gd p l e R s m args below meth c Q Y nL (pc + 3) lv st (hup h a1 (aO Y N1 (va_cpy f g sp dp z))) k n) : Gd p l e R s m args below meth c Q Y nL pc lv (.int (nI z) :: .int (nI dp) :: .ref a1 :: .int (nI sp) :: .ref a0 :: st) h k n := by
  have hca := tf_ca_EvO C
  obtain ⟨hx, hb, hml, hown, hts, hK, -, hA, -⟩ := C
  intro H locs ls hc hS hl
  obtain ⟨ws, hP, hD, hw⟩ := id hc
  obtain ⟨q0, hq0⟩ := hw a0 _ ha0
  obtain ⟨q1, hq1⟩ := hw a1 _ ha1
  have es : (nI sp).toNatClampNeg = sp := nI_clamp (by omega)
  have ed : (nI dp).toNatClampNeg = dp := nI_clamp (by omega)
  have ez : (nI z).toNatClampNeg = z := nI_clamp (by omega)
  refine va_copyq (C := RX0) hx hb (by rw [hml]; exact hl.1.symm) hown (hts _ hlink) (hts _ h1) (hts _ h2) (hts _ h3) hK hP hD hS q0 q1 2 2 hq0 hq1 rfl rfl (nI_pos (by omega)) (nI_pos (by omega)) (nI_pos (by omega)) (by rw [es, ez]; exact hz0) (by rw [ed, ez]; exact hz1) ?_ ?_ hR hR2 hd (fun H1 locs1 hP1 hD1 hS1 => ?_)
  · intro i hi y hy
    rw [ez] at hi
    rw [es] at hy
    obtain ⟨vs, hvs⟩ := hel i hi y hy
    obtain ⟨qk, hqk⟩ := hw y _ hvs
    exact va_recv hK hP rfl hqk
  · intro comp c0 e1 e2
    obtain ⟨c3, c4, f1, f2, f3⟩ := Cond.castable_spec (va_Ca.use (A := args) hca)
    cases e1.symm.trans f2
    cases e2.symm.trans f1
    exact f3
  · rw [es, ed, ez] at hP1 hD1
    exact kk H1 locs1 ls (cw_set hD hw hq1 hP1 hD1) hS1 hl
theorem g_ldcM (C : Cx p s m args meth c Y cc nL own) {idx mi : Nat} (hM : va_Mi "[Ljava/lang/Object;" mi s) (hlink : Cond.classLink own idx "[Ljava/lang/Object;" ∈ AllW) (hd : decode cc pc = .ok (.ldc idx, 2)) (kk : Gd p l e R s m args below meth c Q Y nL (pc + 2) lv (.ref mi :: st) h k n) : Gd p l e R s m args below meth c Q Y nL pc lv st h k n := by
  obtain ⟨hx, hb, hml, hown, hts, hK, -, hA, -⟩ := C
  intro H locs ls hc hS hl
  exact va_ldcM hx hb hown (hts _ hlink) hM hd (kk H locs ls hc hS hl)
theorem g_getC (C : Cx p s m args meth c Y cc nL own) {idx mi a N : Nat} {f : Nat → Option Nat} (hM : va_Mi "[Ljava/lang/Object;" mi s) (ha : h a = some (aO Y N f)) (hlink : Cond.methodLink own idx ⟨"java/lang/Object", "getClass", "()Ljava/lang/Class;"⟩ ∈ AllW) (hsel : Cond.selects "[Ljava/lang/Object;" ⟨"java/lang/Object", "getClass", "()Ljava/lang/Class;"⟩ ⟨"java/lang/Object", "getClass", "()Ljava/lang/Class;"⟩ ∈ AllW) (hinst : Cond.instanceMethod ⟨"java/lang/Object", "getClass", "()Ljava/lang/Class;"⟩ ∈ AllW) (hnat : Cond.native ⟨"java/lang/Object", "getClass", "()Ljava/lang/Class;"⟩ ∈ AllW) (hd : decode cc pc = .ok (.invokevirtual idx, 3)) (hR : 1 ≤ R.frames) (hR2 : (st.map fun v => v.category).sum + 14 ≤ R.locals) (kk : Gd p l e R s m args below meth c Q Y nL (pc + 3) lv (.ref mi :: st) h k n) : Gd p l e R s m args below meth c Q Y nL pc lv (.ref a :: st) h k n := by
  have hdc := tf_dc C
  obtain ⟨hx, hb, hml, hown, hts, hK, -, hA, -⟩ := C
  intro H locs ls hc hS hl
  refine va_getC hx hb (by rw [hml]; exact hl.1.symm) hown (hts _ hlink) (va_Dc.use hdc) (hts _ hsel) (hts _ hinst) (hts _ hnat) hM ?_ hR hR2 hd (kk H locs ls hc hS hl)
  have h2 := hc.at ha
  exact ⟨_, h2, rfl, (va_nmO (hK.2 2 _ rfl).2 rfl)⟩
end GD
theorem rf_some (a : Nat) : va_rf (some a) = .ref a := rfl
theorem hup_none2 {h : AH} {a b : Nat} {e : va_E} (y : hup h a e b = none) : h b = none := by
  by_cases q : b = a
  · rw [q, hup_eq] at y; cases y
  · rw [hup_ne q] at y; exact y
set_option maxRecDepth 100000 in
set_option maxHeartbeats 4000000 in
theorem K_Jx4a65c_size_8abf5 (l : Launch) (Y : YG) {t d : Nat} {md : Int32} {z : Nat} {h : AH} (ht : h t = some (.inr (0, [.int md, .ref d, .int (nI z)]))) : MX l Y yJx4a65c_size_8abf5 cJx4a65c_size_8abf5 1 (some .int) 0 0 0 0 [.ref t] h (pS (some (.int (nI z))) h) (noX) := by
  refine MX.of (by decide +kernel) (Nat.le_of_ble_eq_true rfl) ?_
  intro p e s m args0 below meth c C hr hout hnm
  refine g_aload_n C dJx4a65c_size_8abf5_0 rfl (by first | rfl | exact isR_rf _) ?_
  refine gf_Jx4a65c_48 C (ht) rfl dJx4a65c_size_8abf5_1 ?_
  exact g_iret C hr dJx4a65c_size_8abf5_4 (Nat.le_of_ble_eq_true rfl) (Nat.le_of_ble_eq_true rfl) (⟨rfl, rfl⟩)
set_option maxRecDepth 100000 in
set_option maxHeartbeats 4000000 in
theorem K_J3_checkIndex_8e157 (l : Launch) (Y : YG) {h : AH} {i z : Nat} (hi : i < z) (hz : z < 2 ^ 31) : MX l Y yJ3_checkIndex_8e157 cJ3_checkIndex_8e157 3 (some .int) 0 0 0 0 [.int (nI i), .int (nI z), .null] h (pS (some (.int (nI i))) h) (noX) := by
  refine MX.of (by decide +kernel) (Nat.le_of_ble_eq_true rfl) ?_
  intro p e s m args0 below meth c C hr hout hnm
  refine g_iload_n C dJ3_checkIndex_8e157_0 rfl ?_
  refine g_if_lt C (tgt := 9) dJ3_checkIndex_8e157_1 (by decide) (fun q1 => ?_) (fun q1 => ?_)
  · exact absurd q1 (nI_pos (by omega))
  · refine g_iload_n C dJ3_checkIndex_8e157_4 rfl ?_
    refine g_iload_n C dJ3_checkIndex_8e157_5 rfl ?_
    refine g_icmp_ltN C (tgt := 16) dJ3_checkIndex_8e157_6 (by decide) (by omega) (by omega) (fun q2 => ?_) (fun q2 => ?_)
    · refine g_iload_n C dJ3_checkIndex_8e157_16 rfl ?_
      exact g_iret C hr dJ3_checkIndex_8e157_17 (Nat.le_of_ble_eq_true rfl) (Nat.le_of_ble_eq_true rfl) (⟨rfl, rfl⟩)
    · omega
set_option maxRecDepth 100000 in
set_option maxHeartbeats 4000000 in
theorem K_J15_checkIndex_7cf53 (l : Launch) (Y : YG) {h : AH} {i z : Nat} (hi : i < z) (hz : z < 2 ^ 31) : MX l Y yJ15_checkIndex_7cf53 cJ15_checkIndex_7cf53 2 (some .int) 1 22 0 0 [.int (nI i), .int (nI z)] h (pS (some (.int (nI i))) h) (noX) := by
  refine MX.of (by decide +kernel) (Nat.le_of_ble_eq_true rfl) ?_
  intro p e s m args0 below meth c C hr hout hnm
  refine g_iload_n C dJ15_checkIndex_7cf53_0 rfl ?_
  refine g_iload_n C dJ15_checkIndex_7cf53_1 rfl ?_
  refine g_null C dJ15_checkIndex_7cf53_2 ?_
  refine g_callS C ((K_J3_checkIndex_8e157 l Y hi hz).K) ok_J3_checkIndex_8e157 w326 rfl rfl dJ15_checkIndex_7cf53_3 (Nat.le_of_ble_eq_true rfl) (Nat.le_of_ble_eq_true rfl) (Nat.le_of_ble_eq_true rfl) (Nat.le_of_ble_eq_true rfl) (Nat.le_of_ble_eq_true rfl) (ofS ?_)
  exact g_iret C hr dJ15_checkIndex_7cf53_6 (Nat.le_of_ble_eq_true rfl) (Nat.le_of_ble_eq_true rfl) (⟨rfl, rfl⟩)
set_option maxRecDepth 100000 in
set_option maxHeartbeats 4000000 in
theorem K_Jx4a65c_elementData_915e3 (l : Launch) (Y : YG) {t d : Nat} {md : Int32} {z : Nat} {h : AH} (ht : h t = some (.inr (0, [.int md, .ref d, .int (nI z)]))) {cap : Nat} {fd : Nat → Option Nat} (hd : h d = some (aO Y cap fd)) {i : Nat} (hi : i < cap) (hcap : cap < 2 ^ 31) : MX l Y yJx4a65c_elementData_915e3 cJx4a65c_elementData_915e3 2 (some (.object "java/lang/Object")) 0 0 0 0 [.ref t, .int (nI i)] h (pS (some (va_rf (fd i))) h) (noX) := by
  refine MX.of (by decide +kernel) (Nat.le_of_ble_eq_true rfl) ?_
  intro p e s m args0 below meth c C hr hout hnm
  refine g_aload_n C dJx4a65c_elementData_915e3_0 rfl (by first | rfl | exact isR_rf _) ?_
  refine gf_Jx4a65c_9 C (ht) rfl dJx4a65c_elementData_915e3_1 ?_
  refine g_iload_n C dJx4a65c_elementData_915e3_4 rfl ?_
  refine g_oald C hd rfl hi hcap dJx4a65c_elementData_915e3_5 ?_
  exact g_aret C hr (by first | exact Or.inl ⟨_, rfl⟩ | exact Or.inr ⟨_, rfl⟩) (by first | rfl | exact isR_rf _) dJx4a65c_elementData_915e3_6 (Nat.le_of_ble_eq_true rfl) (Nat.le_of_ble_eq_true rfl) (⟨rfl, rfl⟩)
set_option maxRecDepth 100000 in
set_option maxHeartbeats 4000000 in
theorem K_Jx4a65c_get_915e3 (l : Launch) (Y : YG) {t d : Nat} {md : Int32} {z : Nat} {h : AH} (ht : h t = some (.inr (0, [.int md, .ref d, .int (nI z)]))) {cap : Nat} {fd : Nat → Option Nat} (hd : h d = some (aO Y cap fd)) {i : Nat} (hi : i < z) (hzc : z ≤ cap) (hcap : cap < 2 ^ 31) : MX l Y yJx4a65c_get_915e3 cJx4a65c_get_915e3 2 (some (.object "java/lang/Object")) 2 43 0 0 [.ref t, .int (nI i)] h (pS (some (va_rf (fd i))) h) (noX) := by
  refine MX.of (by decide +kernel) (Nat.le_of_ble_eq_true rfl) ?_
  intro p e s m args0 below meth c C hr hout hnm
  refine g_iload_n C dJx4a65c_get_915e3_0 rfl ?_
  refine g_aload_n C dJx4a65c_get_915e3_1 rfl (by first | rfl | exact isR_rf _) ?_
  refine gf_Jx4a65c_48 C (ht) rfl dJx4a65c_get_915e3_2 ?_
  refine g_callS C ((K_J15_checkIndex_7cf53 l Y hi (show z < 2 ^ 31 by omega)).K) ok_J15_checkIndex_7cf53 w323 rfl rfl dJx4a65c_get_915e3_5 (Nat.le_of_ble_eq_true rfl) (Nat.le_of_ble_eq_true rfl) (Nat.le_of_ble_eq_true rfl) (Nat.le_of_ble_eq_true rfl) (Nat.le_of_ble_eq_true rfl) (ofS ?_)
  refine g_pop C dJx4a65c_get_915e3_8 (by first | rfl | exact cat_rf _) ?_
  refine g_aload_n C dJx4a65c_get_915e3_9 rfl (by first | rfl | exact isR_rf _) ?_
  refine g_iload_n C dJx4a65c_get_915e3_10 rfl ?_
  refine g_callV C ((K_Jx4a65c_elementData_915e3 l Y ht hd (show i < cap by omega) hcap).K) ok_Jx4a65c_elementData_915e3 w329 (ht) rfl rfl rfl dJx4a65c_get_915e3_11 (Nat.le_of_ble_eq_true rfl) (Nat.le_of_ble_eq_true rfl) (Nat.le_of_ble_eq_true rfl) (Nat.le_of_ble_eq_true rfl) (Nat.le_of_ble_eq_true rfl) (ofS ?_)
  exact g_aret C hr (by first | exact Or.inl ⟨_, rfl⟩ | exact Or.inr ⟨_, rfl⟩) (by first | rfl | exact isR_rf _) dJx4a65c_get_915e3_14 (Nat.le_of_ble_eq_true rfl) (Nat.le_of_ble_eq_true rfl) (⟨rfl, rfl⟩)
set_option maxRecDepth 100000 in
set_option maxHeartbeats 4000000 in
theorem K_Jxa1e45_init_da8c8 (l : Launch) (Y : YG) {t : Nat} {h : AH} : MX l Y yJxa1e45_init_da8c8 cJxa1e45_init_da8c8 1 none 1 20 0 0 [.ref t] h (pS none h) (noX) := by
  refine MX.of (by decide +kernel) (Nat.le_of_ble_eq_true rfl) ?_
  intro p e s m args0 below meth c C hr hout hnm
  refine g_aload_n C dJxa1e45_init_da8c8_0 rfl (by first | rfl | exact isR_rf _) ?_
  refine g_objinit C w102 w27 w_oi dJxa1e45_init_da8c8_1 (Nat.le_of_ble_eq_true rfl) (Nat.le_of_ble_eq_true rfl) ?_
  exact g_vret C hr dJxa1e45_init_da8c8_4 (Nat.le_of_ble_eq_true rfl) (Nat.le_of_ble_eq_true rfl) (⟨rfl, rfl⟩)
set_option maxRecDepth 100000 in
set_option maxHeartbeats 4000000 in
theorem K_Jxc12de_init_da8c8 (l : Launch) (Y : YG) {t : Nat} {h : AH} (ht : h t = some (.inr (0, [.int 0, .null, .int 0]))) : MX l Y yJxc12de_init_da8c8 cJxc12de_init_da8c8 1 none 2 40 0 0 [.ref t] h (pS none (hup h t (.inr (0, [.int (nI 0), .null, .int 0])))) (noX) := by
  refine MX.of (by decide +kernel) (Nat.le_of_ble_eq_true rfl) ?_
  intro p e s m args0 below meth c C hr hout hnm
  refine g_aload_n C dJxc12de_init_da8c8_0 rfl (by first | rfl | exact isR_rf _) ?_
  refine g_callI C ((K_Jxa1e45_init_da8c8 l Y).K) ok_Jxa1e45_init_da8c8 w99 rfl rfl dJxc12de_init_da8c8_1 (Nat.le_of_ble_eq_true rfl) (Nat.le_of_ble_eq_true rfl) (Nat.le_of_ble_eq_true rfl) (Nat.le_of_ble_eq_true rfl) (Nat.le_of_ble_eq_true rfl) (ofSv ?_)
  refine g_aload_n C dJxc12de_init_da8c8_4 rfl (by first | rfl | exact isR_rf _) ?_
  refine g_iconst C (v := nI 0) dJxc12de_init_da8c8_5 (by decide) ?_
  refine g_putf C (ci := 0) (j := 0) (idx := 7) (T := TJx4a65c) (N := 3) (ref := "java/util/AbstractList") rfl in_Jx4a65c (by decide) w107 (fun _ z => z) tyJx4a65c tyJx4a65c_ok nmJx4a65c (ty := tyJx4a65c 0) (tyJx4a65c_ok 0 (by decide)) rfl rfl ht (Nat.le_of_ble_eq_true rfl) dJxc12de_init_da8c8_6 rfl ?_
  exact g_vret C hr dJxc12de_init_da8c8_9 (Nat.le_of_ble_eq_true rfl) (Nat.le_of_ble_eq_true rfl) (⟨rfl, rfl⟩)
set_option maxRecDepth 100000 in
set_option maxHeartbeats 4000000 in
theorem K_Jx4a65c_init_da8c8 (l : Launch) (Y : YG) {t : Nat} {h : AH} (ht : h t = some (.inr (0, [.int 0, .null, .int 0]))) : MX l Y yJx4a65c_init_da8c8 cJx4a65c_init_da8c8 1 none 3 60 0 0 [.ref t] h (pS none (hup h t (.inr (0, [.int 0, .ref Y.tE, .int 0])))) (noX) := by
  refine MX.of (by decide +kernel) (Nat.le_of_ble_eq_true rfl) ?_
  intro p e s m args0 below meth c C hr hout hnm
  refine g_aload_n C dJx4a65c_init_da8c8_0 rfl (by first | rfl | exact isR_rf _) ?_
  refine g_callI C ((K_Jxc12de_init_da8c8 l Y ht).K) ok_Jxc12de_init_da8c8 w96 rfl rfl dJx4a65c_init_da8c8_1 (Nat.le_of_ble_eq_true rfl) (Nat.le_of_ble_eq_true rfl) (Nat.le_of_ble_eq_true rfl) (Nat.le_of_ble_eq_true rfl) (Nat.le_of_ble_eq_true rfl) (ofSv ?_)
  refine g_aload_n C dJx4a65c_init_da8c8_4 rfl (by first | rfl | exact isR_rf _) ?_
  refine g_gets C (tf_E C).1 w103 dJx4a65c_init_da8c8_5 ?_
  refine pf_Jx4a65c_9 C (hup_eq) (Nat.le_of_ble_eq_true rfl) (by first | rfl | exact isR_rf _) dJx4a65c_init_da8c8_8 ?_
  exact g_vret C hr dJx4a65c_init_da8c8_11 (Nat.le_of_ble_eq_true rfl) (Nat.le_of_ble_eq_true rfl) (⟨rfl, by rw [hup_hup]; rfl⟩)
set_option maxRecDepth 100000 in
set_option maxHeartbeats 4000000 in
theorem K_J8_newLength_cabcc (l : Launch) (Y : YG) {h : AH} {a b g : Nat} (ha : a ≤ 1000) (hb0 : 0 < b) (hb : b ≤ 1000) (hg : g ≤ 1000) : MX l Y yJ8_newLength_cabcc cJ8_newLength_cabcc 4 (some .int) 1 22 0 0 [.int (nI a), .int (nI b), .int (nI g)] h (pS (some (.int (nI (a + max b g)))) h) (noX) := by
  refine MX.of (by decide +kernel) (Nat.le_of_ble_eq_true rfl) ?_
  intro p e s m args0 below meth c C hr hout hnm
  skip
  skip
  refine g_iload_n C dJ8_newLength_cabcc_0 rfl ?_
  refine g_iload_n C dJ8_newLength_cabcc_1 rfl ?_
  refine g_iload_n C dJ8_newLength_cabcc_2 rfl ?_
  refine g_mmax C w142 w_mmax.1 w_mmax.2.1 w_mmax.2.2 dJ8_newLength_cabcc_3 (Nat.le_of_ble_eq_true rfl) (Nat.le_of_ble_eq_true rfl) (Nat.le_of_ble_eq_true rfl) (Nat.le_of_ble_eq_true rfl) ?_
  rw [show (if nI b < nI g then nI g else nI b) = nI (max b g) from by
    by_cases z : b < g
    · rw [if_pos ((nI_ltI (by omega) (by omega)).mpr z), Nat.max_eq_right (by omega)]
    · rw [if_neg (fun y => z ((nI_ltI (by omega) (by omega)).mp y)), Nat.max_eq_left (by omega)]]
  refine g_iaddN C dJ8_newLength_cabcc_6 ?_
  refine g_istore_n C dJ8_newLength_cabcc_7 (by decide) ?_
  refine g_iconst C (v := nI 0) dJ8_newLength_cabcc_8 (by decide) ?_
  refine g_iload_n C dJ8_newLength_cabcc_9 rfl ?_
  refine g_icmp_geN C (tgt := 21) dJ8_newLength_cabcc_10 (by decide) (by omega) (by omega) (fun q => by omega) (fun q => ?_)
  refine g_iload_n C dJ8_newLength_cabcc_13 rfl ?_
  refine g_ldc C dJ8_newLength_cabcc_14 w145 ?_
  rw [show (2147483639 : Int32) = nI 2147483639 from rfl]
  refine g_icmp_gtN C (tgt := 21) dJ8_newLength_cabcc_16 (by decide) (by omega) (by decide) (fun q => by omega) (fun q => ?_)
  refine g_iload_n C dJ8_newLength_cabcc_19 rfl ?_
  exact g_iret C hr dJ8_newLength_cabcc_20 (Nat.le_of_ble_eq_true rfl) (Nat.le_of_ble_eq_true rfl) ⟨rfl, rfl⟩
set_option maxRecDepth 100000 in
set_option maxHeartbeats 4000000 in
theorem K_J7_copyOf_6403c (l : Launch) (Y : YG) {d cap N : Nat} {fd : Nat → Option Nat} {h : AH} (hd : h d = some (aO Y cap fd)) (hel : ∀ i, i < cap → ∀ y, fd i = some y → ∃ vs, h y = some (.inr (1, vs))) (hN : cap ≤ N) (hN2 : N ≤ 100) : MX l Y yJ7_copyOf_6403c cJ7_copyOf_6403c 4 (some (.array (.object "java/lang/Object"))) 1 45 1 100 [.ref d, .int (nI N), .ref Y.mi] h (pR (fun r h' => ∃ q', r = some q' ∧ h q' = none ∧ h' = hup h q' (aO Y N (va_cpy fd (fun _ => none) 0 0 cap)))) (noX) := by
  refine MX.of (by decide +kernel) (Nat.le_of_ble_eq_true rfl) ?_
  intro p e s m args0 below meth c C hr hout hnm
  refine g_aload_n C dJ7_copyOf_6403c_0 rfl rfl ?_
  refine g_ldcM C (tf_mi C) w167 dJ7_copyOf_6403c_1 ?_
  refine g_acmp_ne C (rx := some Y.mi) (ry := some Y.mi) (tgt := 13) dJ7_copyOf_6403c_3 (by decide) (fun q => absurd rfl q) (fun _ => ?_)
  refine g_iload_n C dJ7_copyOf_6403c_6 rfl ?_
  refine g_newO C (N := N) rfl (by omega) w169 (by show _ ≤ 1; omega) (by show _ ≤ 100; omega) dJ7_copyOf_6403c_7 (fun q hq => ?_)
  refine g_goto C (tgt := 24) dJ7_copyOf_6403c_10 (by decide) ?_
  refine g_astore_n C dJ7_copyOf_6403c_24 (by decide) rfl ?_
  have hd1 := fun e => hup_old (e := e) hq hd
  refine g_aload_n C dJ7_copyOf_6403c_25 rfl rfl ?_
  refine g_iconst C (v := nI 0) dJ7_copyOf_6403c_26 (by decide) ?_
  refine g_aload_n C dJ7_copyOf_6403c_27 rfl rfl ?_
  refine g_iconst C (v := nI 0) dJ7_copyOf_6403c_28 (by decide) ?_
  refine g_aload_n C dJ7_copyOf_6403c_29 rfl rfl ?_
  refine g_aleno C (hd1 _) dJ7_copyOf_6403c_30 ?_
  refine g_iload_n C dJ7_copyOf_6403c_31 rfl ?_
  refine g_mmin C w170 w_mmin.1 w_mmin.2.1 w_mmin.2.2 dJ7_copyOf_6403c_32 (Nat.le_of_ble_eq_true rfl) (Nat.le_of_ble_eq_true rfl) (by show _ ≤ 1; omega) (by show _ ≤ 100; omega) ?_
  rw [if_neg (fun z => absurd ((nI_ltI (by omega) (by omega)).mp z) (by omega))]
  refine g_copyO C (hd1 _) hup_eq (fun i hi y hy => by
      obtain ⟨vs, hvs⟩ := hel i (by omega) y (by rw [Nat.zero_add] at hy; exact hy)
      exact ⟨vs, hup_old hq hvs⟩) w173 w175 w174 w10 (by omega) (by omega) (by omega) dJ7_copyOf_6403c_35 (Nat.le_of_ble_eq_true rfl) (Nat.le_of_ble_eq_true rfl) ?_
  rw [hup_hup]
  refine g_aload_n C dJ7_copyOf_6403c_38 rfl rfl ?_
  exact g_aret C hr (Or.inr ⟨_, rfl⟩) rfl dJ7_copyOf_6403c_39 (by omega) (by omega) ⟨some q, rfl, q, rfl, hq, rfl⟩
set_option maxRecDepth 100000 in
set_option maxHeartbeats 4000000 in
theorem K_J7_copyOf_1904c (l : Launch) (Y : YG) {d cap N : Nat} {fd : Nat → Option Nat} {h : AH} (hd : h d = some (aO Y cap fd)) (hel : ∀ i, i < cap → ∀ y, fd i = some y → ∃ vs, h y = some (.inr (1, vs))) (hN : cap ≤ N) (hN2 : N ≤ 100) : MX l Y yJ7_copyOf_1904c cJ7_copyOf_1904c 2 (some (.array (.object "java/lang/Object"))) 2 68 1 100 [.ref d, .int (nI N)] h (pR (fun r h' => ∃ q', r = some q' ∧ h q' = none ∧ h' = hup h q' (aO Y N (va_cpy fd (fun _ => none) 0 0 cap)))) (noX) := by
  refine MX.of (by decide +kernel) (Nat.le_of_ble_eq_true rfl) ?_
  intro p e s m args0 below meth c C hr hout hnm
  refine g_aload_n C dJ7_copyOf_1904c_0 rfl (by first | rfl | exact isR_rf _) ?_
  refine g_iload_n C dJ7_copyOf_1904c_1 rfl ?_
  refine g_aload_n C dJ7_copyOf_1904c_2 rfl (by first | rfl | exact isR_rf _) ?_
  refine g_getC C (tf_mi C) hd w152 w724 w153 w163 dJ7_copyOf_1904c_3 (Nat.le_of_ble_eq_true rfl) (Nat.le_of_ble_eq_true rfl) ?_
  refine g_callS C ((K_J7_copyOf_6403c l Y hd hel hN hN2).K) ok_J7_copyOf_6403c w164 rfl rfl dJ7_copyOf_1904c_6 (Nat.le_of_ble_eq_true rfl) (Nat.le_of_ble_eq_true rfl) (Nat.le_of_ble_eq_true rfl) (by show _ ≤ 1; omega) (by show _ ≤ 100; omega) (ofR (fun r h2 e2 => ?_))
  exact g_aret C hr (by first | exact Or.inl ⟨_, rfl⟩ | exact Or.inr ⟨_, rfl⟩) (by first | rfl | exact isR_rf _) dJ7_copyOf_1904c_9 (by omega) (by omega) (⟨r, rfl, e2⟩)
set_option maxRecDepth 100000 in
set_option maxHeartbeats 4000000 in
theorem K_grow_full (l : Launch) (Y : YG) {t d : Nat} {md : Int32} {z : Nat} {h : AH} (ht : h t = some (.inr (0, [.int md, .ref d, .int (nI z)]))) {fd : Nat → Option Nat} (hd : h d = some (aO Y z fd)) (hel : ∀ i, i < z → ∀ y, fd i = some y → ∃ vs, h y = some (.inr (1, vs))) (hz : 10 ≤ z) (hz2 : z < 60) : MX l Y yJx4a65c_grow_92f84 cJx4a65c_grow_92f84 4 (some (.array (.object "java/lang/Object"))) 3 89 1 100 [.ref t, .int (nI (z + 1))] h (pR (fun r h' => ∃ (q' N : Nat) (fd' : Nat → Option Nat), r = some q' ∧ h q' = none ∧ h' = hup (hup h q' (aO Y N fd')) t (.inr (0, [.int md, .ref q', .int (nI z)])) ∧ (∀ j, j < z → fd' j = fd j) ∧ z < N ∧ 10 ≤ N ∧ N ≤ 100)) (noX) := by
  refine MX.of (by decide +kernel) (Nat.le_of_ble_eq_true rfl) ?_
  intro p e s m args0 below meth c C hr hout hnm
  refine g_aload_n C dJx4a65c_grow_92f84_0 rfl (by first | rfl | exact isR_rf _) ?_
  refine gf_Jx4a65c_9 C (ht) rfl dJx4a65c_grow_92f84_1 ?_
  refine g_aleno C (hd) dJx4a65c_grow_92f84_4 ?_
  refine g_istore_n C dJx4a65c_grow_92f84_5 (by decide) ?_
  refine g_iload_n C dJx4a65c_grow_92f84_6 rfl ?_
  refine g_if_gt C (tgt := 20) dJx4a65c_grow_92f84_7 (by decide) (fun q1 => ?_) (fun q1 => ?_)
  · skip
    refine g_iload_n C dJx4a65c_grow_92f84_20 rfl ?_
    refine g_iload_n C dJx4a65c_grow_92f84_21 rfl ?_
    refine g_iload_n C dJx4a65c_grow_92f84_22 rfl ?_
    refine g_isubN C (by omega) dJx4a65c_grow_92f84_23 ?_
    rw [show z + 1 - z = 1 by omega]
    refine g_iload_n C dJx4a65c_grow_92f84_24 rfl ?_
    refine g_iconst C (v := nI 1) dJx4a65c_grow_92f84_25 (by decide) ?_
    refine g_ishr C dJx4a65c_grow_92f84_26 ?_
    rw [pk_shrN (n := z) (by omega) _ 1 (by decide)]
    refine g_callS C ((K_J8_newLength_cabcc l Y (a := z) (b := 1) (g := z / 2 ^ 1) (by omega) (by omega) (by omega) (by omega)).K) ok_J8_newLength_cabcc w139 rfl rfl dJx4a65c_grow_92f84_27 (Nat.le_of_ble_eq_true rfl) (Nat.le_of_ble_eq_true rfl) (Nat.le_of_ble_eq_true rfl) (by show _ ≤ 1; omega) (by show _ ≤ 100; omega) (ofS ?_)
    refine g_istore_n C dJx4a65c_grow_92f84_30 (by decide) ?_
    refine g_aload_n C dJx4a65c_grow_92f84_31 rfl (by first | rfl | exact isR_rf _) ?_
    refine g_aload_n C dJx4a65c_grow_92f84_32 rfl (by first | rfl | exact isR_rf _) ?_
    refine gf_Jx4a65c_9 C (ht) rfl dJx4a65c_grow_92f84_33 ?_
    refine g_iload_n C dJx4a65c_grow_92f84_36 rfl ?_
    refine g_callS C ((K_J7_copyOf_1904c l Y hd hel (show z ≤ z + max 1 (z / 2 ^ 1) by omega) (by omega)).K) ok_J7_copyOf_1904c w149 rfl rfl dJx4a65c_grow_92f84_37 (Nat.le_of_ble_eq_true rfl) (Nat.le_of_ble_eq_true rfl) (Nat.le_of_ble_eq_true rfl) (by show _ ≤ 1; omega) (by show _ ≤ 100; omega) (ofR (fun r h2 e2 => ?_))
    obtain ⟨q2, rfl, hq2, rfl⟩ := e2
    rw [rf_some]
    refine g_dup_x1 C dJx4a65c_grow_92f84_40 (by first | rfl | exact cat_rf _) (by first | rfl | exact cat_rf _) ?_
    refine pf_Jx4a65c_9 C (hup_old hq2 ht) (Nat.le_of_ble_eq_true rfl) (by first | rfl | exact isR_rf _) dJx4a65c_grow_92f84_41 ?_
    exact g_aret C hr (by first | exact Or.inl ⟨_, rfl⟩ | exact Or.inr ⟨_, rfl⟩) (by first | rfl | exact isR_rf _) dJx4a65c_grow_92f84_44 (by omega) (by omega) (⟨some q2, rfl, q2, z + max 1 (z / 2 ^ 1), _, rfl, hq2, rfl, fun j hj => by rw [pk_cpy_in (Nat.zero_le _) (by omega)]; simp, by omega, by omega, by omega⟩)
  · exact absurd ((nI_ltI (a := 0) (b := z) (by decide) (by omega)).mpr (by omega)) q1
set_option maxRecDepth 100000 in
set_option maxHeartbeats 4000000 in
theorem K_grow_first (l : Launch) (Y : YG) {t : Nat} {md : Int32} {h : AH} (ht : h t = some (.inr (0, [.int md, .ref Y.tE, .int (nI 0)]))) : MX l Y yJx4a65c_grow_92f84 cJx4a65c_grow_92f84 4 (some (.array (.object "java/lang/Object"))) 3 89 1 100 [.ref t, .int (nI 1)] h (pR (fun r h' => ∃ q', r = some q' ∧ h q' = none ∧ h' = hup (hup h q' (aO Y 10 (fun _ => none))) t (.inr (0, [.int md, .ref q', .int (nI 0)])))) (noX) := by
  refine MX.of (by decide +kernel) (Nat.le_of_ble_eq_true rfl) ?_
  intro p e s m args0 below meth c C hr hout hnm
  refine g_aload_n C dJx4a65c_grow_92f84_0 rfl (by first | rfl | exact isR_rf _) ?_
  refine gf_Jx4a65c_9 C (ht) rfl dJx4a65c_grow_92f84_1 ?_
  refine g_tlenE C dJx4a65c_grow_92f84_4 ?_
  refine g_istore_n C dJx4a65c_grow_92f84_5 (by decide) ?_
  refine g_iload_n C dJx4a65c_grow_92f84_6 rfl ?_
  refine g_if_gt C (tgt := 20) dJx4a65c_grow_92f84_7 (by decide) (fun q1 => ?_) (fun q1 => ?_)
  · exact absurd q1 (by decide)
  · refine g_aload_n C dJx4a65c_grow_92f84_10 rfl (by first | rfl | exact isR_rf _) ?_
    refine gf_Jx4a65c_9 C (ht) rfl dJx4a65c_grow_92f84_11 ?_
    refine g_gets C (tf_E C).1 w103 dJx4a65c_grow_92f84_14 ?_
    refine g_acmp_eq C (rx := some Y.tE) (ry := some Y.tE) (tgt := 45) dJx4a65c_grow_92f84_17 (by decide) (fun _ => ?_) (fun q => absurd rfl q)
    refine g_aload_n C dJx4a65c_grow_92f84_45 rfl rfl ?_
    refine g_bipush C (v := nI 10) dJx4a65c_grow_92f84_46 (by decide) ?_
    refine g_iload_n C dJx4a65c_grow_92f84_48 rfl ?_
    refine g_mmax C w176 w_mmax.1 w_mmax.2.1 w_mmax.2.2 dJx4a65c_grow_92f84_49 (Nat.le_of_ble_eq_true rfl) (Nat.le_of_ble_eq_true rfl) (by show _ ≤ 1; omega) (by show _ ≤ 100; omega) ?_
    rw [if_neg (by decide)]
    refine g_newO C (N := 10) rfl (by omega) w177 (by show _ ≤ 1; omega) (by show _ ≤ 100; omega) dJx4a65c_grow_92f84_52 (fun q hq => ?_)
    refine g_dup_x1 C dJx4a65c_grow_92f84_55 (by first | rfl | exact cat_rf _) (by first | rfl | exact cat_rf _) ?_
    refine pf_Jx4a65c_9 C (hup_old hq ht) (Nat.le_of_ble_eq_true rfl) (by first | rfl | exact isR_rf _) dJx4a65c_grow_92f84_56 ?_
    exact g_aret C hr (by first | exact Or.inl ⟨_, rfl⟩ | exact Or.inr ⟨_, rfl⟩) (by first | rfl | exact isR_rf _) dJx4a65c_grow_92f84_59 (by omega) (by omega) (⟨some q, rfl, q, rfl, hq, rfl⟩)
set_option maxRecDepth 100000 in
set_option maxHeartbeats 4000000 in
theorem K_grow0_full (l : Launch) (Y : YG) {t d : Nat} {md : Int32} {z : Nat} {h : AH} (ht : h t = some (.inr (0, [.int md, .ref d, .int (nI z)]))) {fd : Nat → Option Nat} (hd : h d = some (aO Y z fd)) (hel : ∀ i, i < z → ∀ y, fd i = some y → ∃ vs, h y = some (.inr (1, vs))) (hz : 10 ≤ z) (hz2 : z < 60) : MX l Y yJx4a65c_grow_d5877 cJx4a65c_grow_d5877 1 (some (.array (.object "java/lang/Object"))) 4 112 1 100 [.ref t] h (pR (fun r h' => ∃ (q' N : Nat) (fd' : Nat → Option Nat), r = some q' ∧ h q' = none ∧ h' = hup (hup h q' (aO Y N fd')) t (.inr (0, [.int md, .ref q', .int (nI z)])) ∧ (∀ j, j < z → fd' j = fd j) ∧ z < N ∧ 10 ≤ N ∧ N ≤ 100)) (noX) := by
  refine MX.of (by decide +kernel) (Nat.le_of_ble_eq_true rfl) ?_
  intro p e s m args0 below meth c C hr hout hnm
  refine g_aload_n C dJx4a65c_grow_d5877_0 rfl (by first | rfl | exact isR_rf _) ?_
  refine g_aload_n C dJx4a65c_grow_d5877_1 rfl (by first | rfl | exact isR_rf _) ?_
  refine gf_Jx4a65c_48 C (ht) rfl dJx4a65c_grow_d5877_2 ?_
  refine g_iconst C (v := nI 1) dJx4a65c_grow_d5877_5 (by decide) ?_
  first | with_reducible refine g_iaddN C dJx4a65c_grow_d5877_6 ?_ | refine g_iadd C dJx4a65c_grow_d5877_6 ?_
  refine g_callV C ((K_grow_full l Y ht hd hel hz hz2).K) ok_Jx4a65c_grow_92f84 w135 (ht) rfl rfl rfl dJx4a65c_grow_d5877_7 (Nat.le_of_ble_eq_true rfl) (Nat.le_of_ble_eq_true rfl) (Nat.le_of_ble_eq_true rfl) (by show _ ≤ 1; omega) (by show _ ≤ 100; omega) (ofR (fun r h2 e2 => ?_))
  exact g_aret C hr (by first | exact Or.inl ⟨_, rfl⟩ | exact Or.inr ⟨_, rfl⟩) (by first | rfl | exact isR_rf _) dJx4a65c_grow_d5877_10 (by omega) (by omega) (⟨r, rfl, e2⟩)
set_option maxRecDepth 100000 in
set_option maxHeartbeats 4000000 in
theorem K_grow0_first (l : Launch) (Y : YG) {t : Nat} {md : Int32} {h : AH} (ht : h t = some (.inr (0, [.int md, .ref Y.tE, .int (nI 0)]))) : MX l Y yJx4a65c_grow_d5877 cJx4a65c_grow_d5877 1 (some (.array (.object "java/lang/Object"))) 4 112 1 100 [.ref t] h (pR (fun r h' => ∃ q', r = some q' ∧ h q' = none ∧ h' = hup (hup h q' (aO Y 10 (fun _ => none))) t (.inr (0, [.int md, .ref q', .int (nI 0)])))) (noX) := by
  refine MX.of (by decide +kernel) (Nat.le_of_ble_eq_true rfl) ?_
  intro p e s m args0 below meth c C hr hout hnm
  refine g_aload_n C dJx4a65c_grow_d5877_0 rfl (by first | rfl | exact isR_rf _) ?_
  refine g_aload_n C dJx4a65c_grow_d5877_1 rfl (by first | rfl | exact isR_rf _) ?_
  refine gf_Jx4a65c_48 C (ht) rfl dJx4a65c_grow_d5877_2 ?_
  refine g_iconst C (v := nI 1) dJx4a65c_grow_d5877_5 (by decide) ?_
  first | with_reducible refine g_iaddN C dJx4a65c_grow_d5877_6 ?_ | refine g_iadd C dJx4a65c_grow_d5877_6 ?_
  refine g_callV C ((K_grow_first l Y ht).K) ok_Jx4a65c_grow_92f84 w135 (ht) rfl rfl rfl dJx4a65c_grow_d5877_7 (Nat.le_of_ble_eq_true rfl) (Nat.le_of_ble_eq_true rfl) (Nat.le_of_ble_eq_true rfl) (by show _ ≤ 1; omega) (by show _ ≤ 100; omega) (ofR (fun r h2 e2 => ?_))
  exact g_aret C hr (by first | exact Or.inl ⟨_, rfl⟩ | exact Or.inr ⟨_, rfl⟩) (by first | rfl | exact isR_rf _) dJx4a65c_grow_d5877_10 (by omega) (by omega) (⟨r, rfl, e2⟩)
set_option maxRecDepth 100000 in
set_option maxHeartbeats 4000000 in
theorem K_Jx4a65c_add_72be8 (l : Launch) (Y : YG) {t d : Nat} {md : Int32} {z : Nat} {h : AH} (ht : h t = some (.inr (0, [.int md, .ref d, .int (nI z)]))) {cap v : Nat} {fd : Nat → Option Nat} {vs : List Value} (hd : h d = some (aO Y cap fd)) (hv : h v = some (.inr (1, vs))) (hel : ∀ i, i < z → ∀ y, fd i = some y → ∃ vs, h y = some (.inr (1, vs))) (hz2 : z < 60) (hzc : z ≤ cap) (hc10 : 10 ≤ cap) (hc100 : cap ≤ 100) : MX l Y yJx4a65c_add_72be8 cJx4a65c_add_72be8 4 none 5 132 1 100 [.ref t, .ref v, .ref d, .int (nI z)] h (pV (fun h' => ∃ (q' N : Nat) (fd' : Nat → Option Nat), h' t = some (.inr (0, [.int md, .ref q', .int (nI (z + 1))])) ∧ h' q' = some (aO Y N fd') ∧ (∀ j, j < z → fd' j = fd j) ∧ fd' z = some v ∧ z < N ∧ 10 ≤ N ∧ N ≤ 100 ∧ (q' = d ∨ h q' = none) ∧ ∀ a e, a ≠ t → a ≠ d → h a = some e → h' a = some e)) (noX) := by
  refine MX.of (by decide +kernel) (Nat.le_of_ble_eq_true rfl) ?_
  intro p e s m args0 below meth c C hr hout hnm
  have hvt : v ≠ t := fun e => by rw [e, ht] at hv; cases hv
  have hvd : v ≠ d := fun e => by rw [e, hd] at hv; cases hv
  have htd : t ≠ d := fun e => by rw [e, hd] at ht; cases ht
  refine g_iload_n C dJx4a65c_add_72be8_0 rfl ?_
  refine g_aload_n C dJx4a65c_add_72be8_1 rfl (by first | rfl | exact isR_rf _) ?_
  refine g_aleno C (hd) dJx4a65c_add_72be8_2 ?_
  refine g_icmp_neN C (tgt := 11) dJx4a65c_add_72be8_3 (by decide) (by omega) (by omega) (fun q1 => ?_) (fun q1 => ?_)
  · refine g_aload_n C dJx4a65c_add_72be8_11 rfl (by first | rfl | exact isR_rf _) ?_
    refine g_iload_n C dJx4a65c_add_72be8_12 rfl ?_
    refine g_aload_n C dJx4a65c_add_72be8_13 rfl (by first | rfl | exact isR_rf _) ?_
    refine g_oast C hd hv rfl (tf_ca_EvO C) rfl (show z < cap by omega) (by omega) dJx4a65c_add_72be8_14 ?_
    refine g_aload_n C dJx4a65c_add_72be8_15 rfl (by first | rfl | exact isR_rf _) ?_
    refine g_iload_n C dJx4a65c_add_72be8_16 rfl ?_
    refine g_iconst C (v := nI 1) dJx4a65c_add_72be8_17 (by decide) ?_
    first | with_reducible refine g_iaddN C dJx4a65c_add_72be8_18 ?_ | refine g_iadd C dJx4a65c_add_72be8_18 ?_
    refine pf_Jx4a65c_48 C ((hup_ne htd).trans ht) (Nat.le_of_ble_eq_true rfl) dJx4a65c_add_72be8_19 ?_
    exact g_vret C hr dJx4a65c_add_72be8_22 (by omega) (by omega) ⟨rfl, d, cap, _, hup_eq, (hup_ne (Ne.symm htd)).trans hup_eq, fun j hj => va_up_ne _ _ (by omega), va_up_self _ _ _, by omega, hc10, hc100, Or.inl rfl, fun a e a1 a2 he => (hup_ne a1).trans ((hup_ne a2).trans he)⟩
  · subst q1
    refine g_aload_n C dJx4a65c_add_72be8_6 rfl (by first | rfl | exact isR_rf _) ?_
    refine g_callV C ((K_grow0_full l Y ht hd hel hc10 hz2).K) ok_Jx4a65c_grow_d5877 w131 (ht) rfl rfl rfl dJx4a65c_add_72be8_7 (Nat.le_of_ble_eq_true rfl) (Nat.le_of_ble_eq_true rfl) (Nat.le_of_ble_eq_true rfl) (by show _ ≤ 1; omega) (by show _ ≤ 100; omega) (ofR (fun r h2 e2 => ?_))
    obtain ⟨q2, N, fd2, rfl, hq2, rfl, e3, e4, e5, e6⟩ := e2
    rw [rf_some]
    have hq2t : q2 ≠ t := fun e => by rw [e, ht] at hq2; cases hq2
    refine g_astore_n C dJx4a65c_add_72be8_10 (by decide) (by first | rfl | exact isR_rf _) ?_
    refine g_aload_n C dJx4a65c_add_72be8_11 rfl (by first | rfl | exact isR_rf _) ?_
    refine g_iload_n C dJx4a65c_add_72be8_12 rfl ?_
    refine g_aload_n C dJx4a65c_add_72be8_13 rfl (by first | rfl | exact isR_rf _) ?_
    refine g_oast C ((hup_ne hq2t).trans hup_eq) ((hup_ne hvt).trans (hup_old hq2 hv)) rfl (tf_ca_EvO C) rfl e4 (by omega) dJx4a65c_add_72be8_14 ?_
    refine g_aload_n C dJx4a65c_add_72be8_15 rfl (by first | rfl | exact isR_rf _) ?_
    refine g_iload_n C dJx4a65c_add_72be8_16 rfl ?_
    refine g_iconst C (v := nI 1) dJx4a65c_add_72be8_17 (by decide) ?_
    first | with_reducible refine g_iaddN C dJx4a65c_add_72be8_18 ?_ | refine g_iadd C dJx4a65c_add_72be8_18 ?_
    refine pf_Jx4a65c_48 C ((hup_ne (Ne.symm hq2t)).trans hup_eq) (Nat.le_of_ble_eq_true rfl) dJx4a65c_add_72be8_19 ?_
    exact g_vret C hr dJx4a65c_add_72be8_22 (by omega) (by omega) ⟨rfl, q2, N, _, hup_eq, (hup_ne hq2t).trans hup_eq, fun j hj => (va_up_ne _ _ (by omega)).trans (e3 j hj), va_up_self _ _ _, e4, e5, e6, Or.inr hq2, fun a e a1 a2 he => (hup_ne a1).trans ((hup_ne (fun z => by rw [z, hq2] at he; cases he)).trans ((hup_ne a1).trans (hup_old hq2 he)))⟩
set_option maxRecDepth 100000 in
set_option maxHeartbeats 4000000 in
theorem K_add3_first (l : Launch) (Y : YG) {t v : Nat} {md : Int32} {h : AH} {vs : List Value} (ht : h t = some (.inr (0, [.int md, .ref Y.tE, .int (nI 0)]))) (hv : h v = some (.inr (1, vs))) : MX l Y yJx4a65c_add_72be8 cJx4a65c_add_72be8 4 none 5 132 1 100 [.ref t, .ref v, .ref Y.tE, .int (nI 0)] h (pV (fun h' => ∃ q', h q' = none ∧ q' ≠ t ∧ h' = hup (hup h q' (aO Y 10 (va_up (fun _ => none) 0 (some v)))) t (.inr (0, [.int md, .ref q', .int (nI 1)])))) (noX) := by
  refine MX.of (by decide +kernel) (Nat.le_of_ble_eq_true rfl) ?_
  intro p e s m args0 below meth c C hr hout hnm
  have hvt : v ≠ t := fun e => by rw [e, ht] at hv; cases hv
  refine g_iload_n C dJx4a65c_add_72be8_0 rfl ?_
  refine g_aload_n C dJx4a65c_add_72be8_1 rfl (by first | rfl | exact isR_rf _) ?_
  refine g_tlenE C dJx4a65c_add_72be8_2 ?_
  refine g_icmp_neN C (tgt := 11) dJx4a65c_add_72be8_3 (by decide) (by omega) (by omega) (fun q1 => ?_) (fun q1 => ?_)
  · exact absurd rfl q1
  · refine g_aload_n C dJx4a65c_add_72be8_6 rfl (by first | rfl | exact isR_rf _) ?_
    refine g_callV C ((K_grow0_first l Y ht).K) ok_Jx4a65c_grow_d5877 w131 (ht) rfl rfl rfl dJx4a65c_add_72be8_7 (Nat.le_of_ble_eq_true rfl) (Nat.le_of_ble_eq_true rfl) (Nat.le_of_ble_eq_true rfl) (by show _ ≤ 1; omega) (by show _ ≤ 100; omega) (ofR (fun r h2 e2 => ?_))
    obtain ⟨q2, rfl, hq2, rfl⟩ := e2
    rw [rf_some]
    have hq2t : q2 ≠ t := fun e => by rw [e, ht] at hq2; cases hq2
    refine g_astore_n C dJx4a65c_add_72be8_10 (by decide) (by first | rfl | exact isR_rf _) ?_
    refine g_aload_n C dJx4a65c_add_72be8_11 rfl (by first | rfl | exact isR_rf _) ?_
    refine g_iload_n C dJx4a65c_add_72be8_12 rfl ?_
    refine g_aload_n C dJx4a65c_add_72be8_13 rfl (by first | rfl | exact isR_rf _) ?_
    refine g_oast C ((hup_ne hq2t).trans hup_eq) ((hup_ne hvt).trans (hup_old hq2 hv)) rfl (tf_ca_EvO C) rfl (show 0 < 10 by decide) (by decide) dJx4a65c_add_72be8_14 ?_
    refine g_aload_n C dJx4a65c_add_72be8_15 rfl (by first | rfl | exact isR_rf _) ?_
    refine g_iload_n C dJx4a65c_add_72be8_16 rfl ?_
    refine g_iconst C (v := nI 1) dJx4a65c_add_72be8_17 (by decide) ?_
    first | with_reducible refine g_iaddN C dJx4a65c_add_72be8_18 ?_ | refine g_iadd C dJx4a65c_add_72be8_18 ?_
    refine pf_Jx4a65c_48 C ((hup_ne (Ne.symm hq2t)).trans hup_eq) (Nat.le_of_ble_eq_true rfl) dJx4a65c_add_72be8_19 ?_
    refine g_vret C hr dJx4a65c_add_72be8_22 (by omega) (by omega) ⟨rfl, q2, hq2, hq2t, ?_⟩
    funext a
    unfold hup
    by_cases a1 : a = t
    · rw [if_pos a1, if_pos a1]; rfl
    · rw [if_neg a1, if_neg a1]
      by_cases a2 : a = q2
      · rw [if_pos a2, if_pos a2, if_neg a1]
      · simp only [if_neg a2, if_neg a1]
set_option maxRecDepth 100000 in
set_option maxHeartbeats 4000000 in
theorem K_Jx4a65c_add_9ea2d (l : Launch) (Y : YG) {t d : Nat} {md : Int32} {z : Nat} {h : AH} (ht : h t = some (.inr (0, [.int md, .ref d, .int (nI z)]))) {cap v : Nat} {fd : Nat → Option Nat} {vs : List Value} (hd : h d = some (aO Y cap fd)) (hv : h v = some (.inr (1, vs))) (hel : ∀ i, i < z → ∀ y, fd i = some y → ∃ vs, h y = some (.inr (1, vs))) (hz2 : z < 60) (hzc : z ≤ cap) (hc10 : 10 ≤ cap) (hc100 : cap ≤ 100) : MX l Y yJx4a65c_add_9ea2d cJx4a65c_add_9ea2d 2 (some .boolean) 6 155 1 100 [.ref t, .ref v] h (pI (fun r h' => r = nI 1 ∧ ∃ (q' N : Nat) (fd' : Nat → Option Nat) (md' : Int32), h' t = some (.inr (0, [.int md', .ref q', .int (nI (z + 1))])) ∧ h' q' = some (aO Y N fd') ∧ (∀ j, j < z → fd' j = fd j) ∧ fd' z = some v ∧ z < N ∧ 10 ≤ N ∧ N ≤ 100 ∧ (q' = d ∨ h q' = none) ∧ ∀ a e, a ≠ t → a ≠ d → h a = some e → h' a = some e)) (noX) := by
  refine MX.of (by decide +kernel) (Nat.le_of_ble_eq_true rfl) ?_
  intro p e s m args0 below meth c C hr hout hnm
  have hvt : v ≠ t := fun e => by rw [e, ht] at hv; cases hv
  have hvd : v ≠ d := fun e => by rw [e, hd] at hv; cases hv
  have htd : t ≠ d := fun e => by rw [e, hd] at ht; cases ht
  refine g_aload_n C dJx4a65c_add_9ea2d_0 rfl (by first | rfl | exact isR_rf _) ?_
  refine g_dup C dJx4a65c_add_9ea2d_1 (by first | rfl | exact cat_rf _) ?_
  refine gf_Jx4a65c_63 C (ht) rfl dJx4a65c_add_9ea2d_2 ?_
  refine g_iconst C (v := nI 1) dJx4a65c_add_9ea2d_5 (by decide) ?_
  first | with_reducible refine g_iaddN C dJx4a65c_add_9ea2d_6 ?_ | refine g_iadd C dJx4a65c_add_9ea2d_6 ?_
  refine pf_Jx4a65c_63 C (ht) (Nat.le_of_ble_eq_true rfl) dJx4a65c_add_9ea2d_7 ?_
  have h1d := (hup_ne (h := h) (e := .inr (0, [.int (md + nI 1), .ref d, .int (nI z)])) (Ne.symm htd)).trans hd
  refine g_aload_n C dJx4a65c_add_9ea2d_10 rfl (by first | rfl | exact isR_rf _) ?_
  refine g_aload_n C dJx4a65c_add_9ea2d_11 rfl (by first | rfl | exact isR_rf _) ?_
  refine g_aload_n C dJx4a65c_add_9ea2d_12 rfl (by first | rfl | exact isR_rf _) ?_
  refine gf_Jx4a65c_9 C (hup_eq) rfl dJx4a65c_add_9ea2d_13 ?_
  refine g_aload_n C dJx4a65c_add_9ea2d_16 rfl (by first | rfl | exact isR_rf _) ?_
  refine gf_Jx4a65c_48 C (hup_eq) rfl dJx4a65c_add_9ea2d_17 ?_
  refine g_callV C ((K_Jx4a65c_add_72be8 l Y hup_eq h1d ((hup_ne hvt).trans hv) (fun i hi y hy => by obtain ⟨vs, hvs⟩ := hel i hi y hy; exact ⟨vs, (hup_ne (fun e => by rw [e, ht] at hvs; cases hvs)).trans hvs⟩) hz2 hzc hc10 hc100).K) ok_Jx4a65c_add_72be8 w127 (hup_eq) rfl rfl rfl dJx4a65c_add_9ea2d_20 (Nat.le_of_ble_eq_true rfl) (Nat.le_of_ble_eq_true rfl) (Nat.le_of_ble_eq_true rfl) (by show _ ≤ 1; omega) (by show _ ≤ 100; omega) (ofV (fun h2 e2 => ?_))
  obtain ⟨q2, N, fd2, e3, e4, e5, e6, e7, e8, e9, e10, e11⟩ := e2
  refine g_iconst C (v := nI 1) dJx4a65c_add_9ea2d_23 (by decide) ?_
  exact g_zret C hr (Or.inr rfl) dJx4a65c_add_9ea2d_24 (by omega) (by omega) (⟨nI 1, rfl, rfl, q2, N, fd2, _, e3, e4, e5, e6, e7, e8, e9, e10.imp id (fun y => hup_none2 y), fun a e a1 a2 he => e11 a e a1 a2 ((hup_ne a1).trans he)⟩)
set_option maxRecDepth 100000 in
set_option maxHeartbeats 4000000 in
theorem K_add_first (l : Launch) (Y : YG) {t v : Nat} {md : Int32} {h : AH} {vs : List Value} (ht : h t = some (.inr (0, [.int md, .ref Y.tE, .int (nI 0)]))) (hv : h v = some (.inr (1, vs))) : MX l Y yJx4a65c_add_9ea2d cJx4a65c_add_9ea2d 2 (some .boolean) 6 155 1 100 [.ref t, .ref v] h (pI (fun r h' => r = nI 1 ∧ ∃ (q' : Nat) (md' : Int32), h q' = none ∧ q' ≠ t ∧ h' = hup (hup h q' (aO Y 10 (va_up (fun _ => none) 0 (some v)))) t (.inr (0, [.int md', .ref q', .int (nI 1)])))) (noX) := by
  refine MX.of (by decide +kernel) (Nat.le_of_ble_eq_true rfl) ?_
  intro p e s m args0 below meth c C hr hout hnm
  have hvt : v ≠ t := fun e => by rw [e, ht] at hv; cases hv
  refine g_aload_n C dJx4a65c_add_9ea2d_0 rfl (by first | rfl | exact isR_rf _) ?_
  refine g_dup C dJx4a65c_add_9ea2d_1 (by first | rfl | exact cat_rf _) ?_
  refine gf_Jx4a65c_63 C (ht) rfl dJx4a65c_add_9ea2d_2 ?_
  refine g_iconst C (v := nI 1) dJx4a65c_add_9ea2d_5 (by decide) ?_
  first | with_reducible refine g_iaddN C dJx4a65c_add_9ea2d_6 ?_ | refine g_iadd C dJx4a65c_add_9ea2d_6 ?_
  refine pf_Jx4a65c_63 C (ht) (Nat.le_of_ble_eq_true rfl) dJx4a65c_add_9ea2d_7 ?_
  refine g_aload_n C dJx4a65c_add_9ea2d_10 rfl (by first | rfl | exact isR_rf _) ?_
  refine g_aload_n C dJx4a65c_add_9ea2d_11 rfl (by first | rfl | exact isR_rf _) ?_
  refine g_aload_n C dJx4a65c_add_9ea2d_12 rfl (by first | rfl | exact isR_rf _) ?_
  refine gf_Jx4a65c_9 C (hup_eq) rfl dJx4a65c_add_9ea2d_13 ?_
  refine g_aload_n C dJx4a65c_add_9ea2d_16 rfl (by first | rfl | exact isR_rf _) ?_
  refine gf_Jx4a65c_48 C (hup_eq) rfl dJx4a65c_add_9ea2d_17 ?_
  refine g_callV C ((K_add3_first l Y hup_eq ((hup_ne hvt).trans hv)).K) ok_Jx4a65c_add_72be8 w127 (hup_eq) rfl rfl rfl dJx4a65c_add_9ea2d_20 (Nat.le_of_ble_eq_true rfl) (Nat.le_of_ble_eq_true rfl) (Nat.le_of_ble_eq_true rfl) (by show _ ≤ 1; omega) (by show _ ≤ 100; omega) (ofV (fun h2 e2 => ?_))
  obtain ⟨q2, e3, e4, rfl⟩ := e2
  refine g_iconst C (v := nI 1) dJx4a65c_add_9ea2d_23 (by decide) ?_
  refine g_zret C hr (Or.inr rfl) dJx4a65c_add_9ea2d_24 (by omega) (by omega) ⟨nI 1, rfl, rfl, q2, md + nI 1, (hup_ne e4).symm.trans e3, e4, ?_⟩
  funext a
  unfold hup
  by_cases a1 : a = t
  · rw [if_pos a1, if_pos a1]
  · rw [if_neg a1, if_neg a1]
    by_cases a2 : a = q2
    · simp only [if_pos a2, if_neg a1]
    · simp only [if_neg a2, if_neg a1]
