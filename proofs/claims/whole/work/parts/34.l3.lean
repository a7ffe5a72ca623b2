set_option maxRecDepth 100000 in
set_option maxHeartbeats 4000000 in
theorem law_loop {p : Program} {l : Launch} {e : Env} {s : State} {m : MethodId} {args : Array Value} {below : List Frame} {meth : Method} {c : Code} {Q : State → Prop} {Y : YG} (C : Cx p s m args meth c Y cL_law 9 RL) (hfl : l.stackTraces = false) {b L : Nat} {xs : Nat → Int32} (hX : va_X b L xs s s.heap) (hbl : b < s.heap.size) (hbA : ¬ Y.A b) (hL : L ≤ 1536) (endk : ∀ (h : AH) (kk nn : Nat) (lv : List (Option Value)), kk ≤ 601024 → nn ≤ 7293034 → Gd p l e room_1 s m args below meth c Q Y 9 1635 lv [.int (nI 1)] h kk nn) {x mm ob : Nat} : ∀ (d i : Nat) (g : Sg) (h : AH) (kk nn : Nat) (w5 w6 w7 w8 : Option Value), 600 - i < d → 3 * i ≤ L → LwI Y x mm ob g h → kk ≤ 40 + 61 * i → nn ≤ 2000 + 608 * i → Gd p l e room_1 s m args below meth c Q Y 9 23 (LL b x mm ob i w5 w6 w7 w8) [] h kk nn := by
  intro d
  induction d with
  | zero => intro i g h kk nn w5 w6 w7 w8 h1; omega
  | succ d ih =>
    intro i g h kk nn w5 w6 w7 w8 hd h3 I hk hn
    refine g_iload C dL_law_23 rfl ?_
    refine g_aload_n C dL_law_25 rfl rfl ?_
    refine g_slen C hX hbl hbA dL_law_26 ?_
    refine g_iconst C (v := nI 3) dL_law_27 (by decide) ?_
    refine g_isub C dL_law_28 ?_
    refine g_icmp_gt C (tgt := 1634) dL_law_29 (by decide) (fun q => ?_) (fun q => ?_)
    · refine g_iconst C (v := nI 1) dL_law_1634 (by decide) ?_
      exact endk _ _ _ _ (by omega) (by omega)
    have hi := guard_ok hL (by omega) q
    have hk61 : kk + 61 ≤ 601024 := by omega
    have hn608 : nn + 608 ≤ 7293034 := by omega
    refine g_aload_n C dL_law_32 rfl rfl ?_
    refine g_iload C dL_law_33 rfl ?_
    refine g_sld C hX hbl hbA rfl (show 3 * i < L by omega) (by omega) dL_law_35 ?_
    refine g_bipush C (v := nI 31) dL_law_36 (by decide) ?_
    refine g_iand C dL_law_38 ?_
    obtain ⟨v0, hv0, ev0⟩ := and31 (xs (3 * i))
    rw [ev0]
    have cont : ∀ (g2 : Sg) (h2 : AH) (k2 n2 : Nat) (u5 u6 u7 u8 : Option Value), LwI Y x mm ob g2 h2 → k2 ≤ kk + 61 → n2 ≤ nn + 608 → Gd p l e room_1 s m args below meth c Q Y 9 1628 (LL b x mm ob i u5 u6 u7 u8) [] h2 k2 n2 := by
      intro g2 h2 k2 n2 u5 u6 u7 u8 I2 hk2 hn2
      refine g_iinc C dL_law_1628 rfl (by decide) ?_
      refine g_goto C (tgt := 23) dL_law_1631 (by decide) ?_
      have := ih (i + 1) g2 h2 k2 n2 u5 u6 u7 u8 (by omega) (by omega) I2 (by omega) (by omega)
      rw [show nI (3 * i) + Int32.ofInt 3 = nI (3 * (i + 1)) from by
        rw [show Int32.ofInt 3 = nI 3 from rfl, nI_add]
        congr 1]
      exact this
    have h32 : v0 = 0 ∨ v0 = 1 ∨ v0 = 2 ∨ v0 = 3 ∨ v0 = 4 ∨ v0 = 5 ∨ v0 = 6 ∨ v0 = 7 ∨ v0 = 8 ∨ v0 = 9 ∨ v0 = 10 ∨ v0 = 11 ∨ v0 = 12 ∨ v0 = 13 ∨ v0 = 14 ∨ v0 = 15 ∨ v0 = 16 ∨ v0 = 17 ∨ v0 = 18 ∨ v0 = 19 ∨ v0 = 20 ∨ v0 = 21 ∨ v0 = 22 ∨ v0 = 23 ∨ v0 = 24 ∨ v0 = 25 ∨ v0 = 26 ∨ v0 = 27 ∨ v0 = 28 ∨ v0 = 29 ∨ v0 = 30 ∨ v0 = 31 := by omega
    rcases h32 with rfl | rfl | rfl | rfl | rfl | rfl | rfl | rfl | rfl | rfl | rfl | rfl | rfl | rfl | rfl | rfl | rfl | rfl | rfl | rfl | rfl | rfl | rfl | rfl | rfl | rfl | rfl | rfl | rfl | rfl | rfl | rfl
    · refine g_tsIn C (tgt := 176) dL_law_39 (by decide) (by decide) rfl (by decide) ?_
      exact LC_setPiece C hfl hX hbl hbA hL hi I hk61 hn608 cont
    · refine g_tsIn C (tgt := 244) dL_law_39 (by decide) (by decide) rfl (by decide) ?_
      exact LC_paw C hfl hX hbl hbA hL hi I hk61 hn608 cont
    · refine g_tsIn C (tgt := 312) dL_law_39 (by decide) (by decide) rfl (by decide) ?_
      exact LC_undo C hfl hX hbl hbA hL hi I hk61 hn608 cont
    · refine g_tsIn C (tgt := 368) dL_law_39 (by decide) (by decide) rfl (by decide) ?_
      exact LC_redo C hfl hX hbl hbA hL hi I hk61 hn608 cont
    · refine g_tsIn C (tgt := 424) dL_law_39 (by decide) (by decide) rfl (by decide) ?_
      exact LC_goTo C hfl hX hbl hbA hL hi I hk61 hn608 cont
    · refine g_tsIn C (tgt := 480) dL_law_39 (by decide) (by decide) rfl (by decide) ?_
      exact LC_evening C hfl hX hbl hbA hL hi I hk61 hn608 cont
    · refine g_tsIn C (tgt := 493) dL_law_39 (by decide) (by decide) rfl (by decide) ?_
      exact LC_evenings C hfl hX hbl hbA hL hi I hk61 hn608 cont
    · refine g_tsIn C (tgt := 506) dL_law_39 (by decide) (by decide) rfl (by decide) ?_
      exact LC_pieces C hfl hX hbl hbA hL hi I hk61 hn608 cont
    · refine g_tsIn C (tgt := 519) dL_law_39 (by decide) (by decide) rfl (by decide) ?_
      exact LC_catColumn C hfl hX hbl hbA hL hi I hk61 hn608 cont
    · refine g_tsIn C (tgt := 532) dL_law_39 (by decide) (by decide) rfl (by decide) ?_
      exact LC_catRow C hfl hX hbl hbA hL hi I hk61 hn608 cont
    · refine g_tsIn C (tgt := 545) dL_law_39 (by decide) (by decide) rfl (by decide) ?_
      exact LC_lying C hfl hX hbl hbA hL hi I hk61 hn608 cont
    · refine g_tsIn C (tgt := 558) dL_law_39 (by decide) (by decide) rfl (by decide) ?_
      exact LC_placeOf C hfl hX hbl hbA hL hi I hk61 hn608 cont
    · refine g_tsIn C (tgt := 614) dL_law_39 (by decide) (by decide) rfl (by decide) ?_
      exact LC_lies C hfl hX hbl hbA hL hi I hk61 hn608 cont
    · refine g_tsIn C (tgt := 677) dL_law_39 (by decide) (by decide) rfl (by decide) ?_
      exact LC_pieceAt C hfl hX hbl hbA hL hi I hk61 hn608 cont
    · refine g_tsIn C (tgt := 745) dL_law_39 (by decide) (by decide) rfl (by decide) ?_
      exact LC_canDo C hfl hX hbl hbA hL hi I hk61 hn608 cont
    · refine g_tsIn C (tgt := 820) dL_law_39 (by decide) (by decide) rfl (by decide) ?_
      exact LC_hangsOn C hfl hX hbl hbA hL hi I hk61 hn608 cont
    · refine g_tsIn C (tgt := 876) dL_law_39 (by decide) (by decide) rfl (by decide) ?_
      exact LC_kindOf C hfl hX hbl hbA hL hi I hk61 hn608 cont
    · refine g_tsIn C (tgt := 932) dL_law_39 (by decide) (by decide) rfl (by decide) ?_
      exact LC_numberOf C hfl hX hbl hbA hL hi I hk61 hn608 cont
    · refine g_tsIn C (tgt := 988) dL_law_39 (by decide) (by decide) rfl (by decide) ?_
      exact LC_depthOf C hfl hX hbl hbA hL hi I hk61 hn608 cont
    · refine g_tsIn C (tgt := 1044) dL_law_39 (by decide) (by decide) rfl (by decide) ?_
      exact LC_branches C hfl hX hbl hbA hL hi I hk61 hn608 cont
    · refine g_tsIn C (tgt := 1100) dL_law_39 (by decide) (by decide) rfl (by decide) ?_
      exact LC_behind C hfl hX hbl hbA hL hi I hk61 hn608 cont
    · refine g_tsIn C (tgt := 1156) dL_law_39 (by decide) (by decide) rfl (by decide) ?_
      exact LC_again C hfl hX hbl hbA hL hi I hk61 hn608 cont
    · refine g_tsIn C (tgt := 1212) dL_law_39 (by decide) (by decide) rfl (by decide) ?_
      exact LC_meet C hfl hX hbl hbA hL hi I hk61 hn608 cont
    · refine g_tsIn C (tgt := 1280) dL_law_39 (by decide) (by decide) rfl (by decide) ?_
      exact LC_apart C hfl hX hbl hbA hL hi I hk61 hn608 cont
    · refine g_tsIn C (tgt := 1348) dL_law_39 (by decide) (by decide) rfl (by decide) ?_
      exact LC_ends C hfl hX hbl hbA hL hi I hk61 hn608 cont
    · refine g_tsIn C (tgt := 1361) dL_law_39 (by decide) (by decide) rfl (by decide) ?_
      exact LC_placeIn C hfl hX hbl hbA hL hi I hk61 hn608 cont
    · refine g_tsIn C (tgt := 1429) dL_law_39 (by decide) (by decide) rfl (by decide) ?_
      exact LC_lyingIn C hfl hX hbl hbA hL hi I hk61 hn608 cont
    · refine g_tsIn C (tgt := 1485) dL_law_39 (by decide) (by decide) rfl (by decide) ?_
      exact LC_areAlike C hfl hX hbl hbA hL hi I hk61 hn608 cont
    · refine g_tsIn C (tgt := 1560) dL_law_39 (by decide) (by decide) rfl (by decide) ?_
      exact LC_mostKnocked C hfl hX hbl hbA hL hi I hk61 hn608 cont
    · refine g_tsIn C (tgt := 1573) dL_law_39 (by decide) (by decide) rfl (by decide) ?_
      exact LC_meanDepth C hfl hX hbl hbA hL hi I hk61 hn608 cont
    · refine g_tsIn C (tgt := 1614) dL_law_39 (by decide) (by decide) rfl (by decide) ?_
      exact LC_digest C hfl hX hbl hbA hL hi I hk61 hn608 cont
    · refine g_tsOut C (tgt := 1628) dL_law_39 (Or.inr (by decide)) (by decide) ?_
      exact cont _ _ _ _ _ _ _ _ I (by omega) (by omega)
theorem RepC.reZ {Y : YG} {x : Nat} {v : Vw} {g : Sg} {Z Z2 : Nat → Prop} {h : AH} (r : RepC Y x v g Z h) (hz : ∀ i, i < g.n → ¬ Z2 (v.pl i)) : RepC Y x v g Z2 h :=
  ⟨r.x, r.t, r.d, r.cap, fun _ hi => r.fd hi, fun _ hi => r.ev hi, fun _ hi => r.sc hi, fun _ hi => r.pl hi, fun _ _ hi hq => r.fp hi hq, fun _ _ hi hj e => r.inj hi hj e, hz⟩
set_option maxRecDepth 100000 in
set_option maxHeartbeats 4000000 in
theorem law_all {p : Program} {l : Launch} {e : Env} {s : State} {m : MethodId} {args : Array Value} {below : List Frame} {meth : Method} {c : Code} {Q : State → Prop} {Y : YG} (C : Cx p s m args meth c Y cL_law 9 RL) (hfl : l.stackTraces = false) {b L : Nat} {xs : Nat → Int32} (hX : va_X b L xs s s.heap) (hbl : b < s.heap.size) (hbA : ¬ Y.A b) (hL : L ≤ 1536) (endk : ∀ (h : AH) (kk nn : Nat) (lv : List (Option Value)), kk ≤ 601024 → nn ≤ 7293034 → Gd p l e room_1 s m args below meth c Q Y 9 1635 lv [.int (nI 1)] h kk nn) : Gd p l e room_1 s m args below meth c Q Y 9 0 (lent [.ref b] 9) [] (fun _ => none) 0 0 := by
  refine cn_L_8 C dL_law_0 (by show _ ≤ 601024; omega) (by show _ ≤ 7293034; omega) (fun x hx => ?_)
  refine g_dup C dL_law_3 (by first | rfl | exact cat_rf _) ?_
  refine g_callI C ((K_X2_init l Y (Z := fun _ => False) hup_eq (fun a z => z.elim)).K) ok_X2_init w23 rfl rfl dL_law_4 (Nat.le_of_ble_eq_true rfl) (Nat.le_of_ble_eq_true rfl) (Nat.le_of_ble_eq_true rfl) (by show _ ≤ 601024; omega) (by show _ ≤ 7293034; omega) (ofV (fun h2 e2 => ?_))
  obtain ⟨v2, rC, hfr⟩ := e2
  refine g_astore_n C dL_law_7 (by decide) (by first | rfl | exact isR_rf _) ?_
  refine cn_L_83 C dL_law_8 (by show _ ≤ 601024; omega) (by show _ ≤ 7293034; omega) (fun mm hmm => ?_)
  refine g_dup C dL_law_11 (by first | rfl | exact cat_rf _) ?_
  refine g_callI C ((K_X3_init l Y hup_eq).K) ok_X3_init w666 rfl rfl dL_law_12 (Nat.le_of_ble_eq_true rfl) (Nat.le_of_ble_eq_true rfl) (Nat.le_of_ble_eq_true rfl) (by show _ ≤ 601024; omega) (by show _ ≤ 7293034; omega) (ofV (fun h4 e4 => ?_))
  obtain ⟨ar, f, rM, hnew, hfr4⟩ := e4
  have x4 : Ext h2 h4 := fun a e he => hfr4 a e (fun q => by rw [q, hmm] at he; cases he) (hup_old hmm he)
  have rC4 := rC.ext x4
  refine g_astore_n C dL_law_15 (by decide) (by first | rfl | exact isR_rf _) ?_
  refine g_iconst C (v := nI 1) dL_law_16 (by decide) ?_
  refine g_newJ C (N := 1) rfl (by omega) w945 (by show _ ≤ 601024; omega) (by show _ ≤ 7293034; omega) dL_law_17 (fun ob hob => ?_)
  refine g_astore_n C dL_law_19 (by decide) rfl ?_
  refine g_iconst C (v := nI 0) dL_law_20 (by decide) ?_
  refine g_istore C dL_law_21 (by decide) ?_
  have x5 : Ext h4 (hup h4 ob (aJ Y 1 (fun _ => 0))) := Ext.new hob
  have rC5 := (rC4.ext x5).reZ (Z2 := ZM ar) (fun i hi ⟨k, hk, hz⟩ => by
    have := hup_old (e := .inr (4, [.int 0, .int 0, .int 0, .int 0, .null, .null, .null, .null, .null, .null, .null])) hmm (rC.pl hi)
    rw [hz, hnew k hk] at this
    cases this)
  exact law_loop C hfl hX hbl hbA hL endk 601 0 st0 _ _ _ _ _ _ _ (by omega) (by omega) ⟨inv_0, _, _, _, _, _, rC5, rM.ext x5, hup_eq⟩ (by omega) (by omega)
theorem ka_i {s : State} {args : Array Value} {ty : FieldType} (h : (Cond.arrayClass ty).before args s = true) : ∃ cA : ClassId, ArrOfT s cA ty ∧ s.vm.findClass ("[" ++ ty.toString) = some cA := by
  obtain ⟨cA, kA, comp, h1, h2, h3⟩ := Cond.arrayClass_spec h
  exact ⟨cA, fun n z => ⟨fun k h => (by cases h), kA, h2, comp, h3⟩, h1⟩
theorem ka_o {s : State} {args : Array Value} {C : String} (h : (Cond.arrayOver (.object C)).before args s = true) : ∃ cA : ClassId, ArrOfT s cA (.object C) ∧ va_RA s cA (.object C) := by
  obtain ⟨comp, cA, kA, h1, -, h2, h3, h4⟩ := Cond.arrayOver_spec h
  exact ⟨cA, fun n z => ⟨fun k h => (by cases h), kA, h2, comp, h3⟩, kA, comp, h2, h3, h1, h4⟩
theorem ks_of {s : State} {args : Array Value} {own tx : String} {k : Nat} (h1 : (Cond.stringRef own k tx).before args s = true) (h2 : (Cond.exactly (.string own k) "java/lang/String").before args s = true) : ∃ a : Nat, vk_R own k tx a s := by
  obtain ⟨a, -, -, -, h3, -⟩ := Cond.exactly_spec h2
  exact ⟨a, vk_R.of h1 h3⟩
theorem tab_of {s : State} {args : Array Value} {Cn fn : String} {f : Nat → Int32} {A : Nat → Prop} (hA : ∀ a : Nat, a < s.heap.size → ¬ A a) (hl : (Cond.laysStatic Cn fn "[I").before args s = true) (hini : (Cond.initialized Cn).before args s = true) (harr : (Cond.arrayOf (.static Cn fn "[I") .int).before args s = true) (hlen : (Cond.eq (.length (.static Cn fn "[I")) (.int 8)).before args s = true) (hel : ∀ j : Nat, j < 8 → (Cond.eq (.elem (.static Cn fn "[I") (.int (Int32.ofNat j))) (.int (f j))).before args s = true) : tab Cn fn f A s s.heap := by
  obtain ⟨t, h1, h2⟩ := va_Tof (ty := .int) (N := 8) (f := fun j => .int (f j)) (by decide) harr (va_eqt hlen) (fun j hj => va_eqt (hel j hj)) hA
  exact ⟨t, va_Zref hl hini h1 hA, h2⟩
theorem SF_of {s : State} {args : Array Value} {A : Nat → Prop} (hA : ∀ a : Nat, a < s.heap.size → ¬ A a) (hts : ∀ w ∈ lw_tbl, w.before args s = true) (hgv : (Jvm.Cond.and given_1 narrow_1).before args s = true) : ∃ (tE mi : Nat), SFh A tE s s.heap ∧ TF mi s := by
  have hs := flat_of_before _ hgv
  obtain ⟨mi, hmi⟩ := va_Mi.of (hs (Cond.isRef (.mirror "[Ljava/lang/Object;")) (by decide +kernel))
  obtain ⟨tE, hE1, hE2⟩ := va_Tof (ty := .object "java/lang/Object") (N := 0) (f := fun _ => .null) (A := A) (by decide) (hs (Cond.arrayOf (.static "java/util/ArrayList" "DEFAULTCAPACITY_EMPTY_ELEMENTDATA" "[Ljava/lang/Object;") (.object "java/lang/Object")) (by decide +kernel)) (va_eqt (hs (Cond.eq (.length (.static "java/util/ArrayList" "DEFAULTCAPACITY_EMPTY_ELEMENTDATA" "[Ljava/lang/Object;")) (.int 0)) (by decide +kernel))) (fun j hj => absurd hj (Nat.not_lt_zero j)) hA
  have t0 : tab "CatEvenings" "COLUMN_STEPS" colS A s s.heap := tab_of hA (hts _ (List.mem_append_right _ (List.mem_of_getElem? (i := 480) (by decide +kernel)))) (hts _ (List.mem_append_right _ (List.mem_of_getElem? (i := 1) (by decide +kernel)))) (hs (Cond.arrayOf (.static "CatEvenings" "COLUMN_STEPS" "[I") .int) (by decide +kernel)) (hs (Cond.eq (.length (.static "CatEvenings" "COLUMN_STEPS" "[I")) (.int 8)) (by decide +kernel)) (fun j hj => match j, hj with
    | 0, _ => hs (Cond.eq (.elem (.static "CatEvenings" "COLUMN_STEPS" "[I") (.int 0)) (.int 0)) (by decide +kernel)
    | 1, _ => hs (Cond.eq (.elem (.static "CatEvenings" "COLUMN_STEPS" "[I") (.int 1)) (.int 1)) (by decide +kernel)
    | 2, _ => hs (Cond.eq (.elem (.static "CatEvenings" "COLUMN_STEPS" "[I") (.int 2)) (.int 1)) (by decide +kernel)
    | 3, _ => hs (Cond.eq (.elem (.static "CatEvenings" "COLUMN_STEPS" "[I") (.int 3)) (.int 1)) (by decide +kernel)
    | 4, _ => hs (Cond.eq (.elem (.static "CatEvenings" "COLUMN_STEPS" "[I") (.int 4)) (.int 0)) (by decide +kernel)
    | 5, _ => hs (Cond.eq (.elem (.static "CatEvenings" "COLUMN_STEPS" "[I") (.int 5)) (.int (-1))) (by decide +kernel)
    | 6, _ => hs (Cond.eq (.elem (.static "CatEvenings" "COLUMN_STEPS" "[I") (.int 6)) (.int (-1))) (by decide +kernel)
    | 7, _ => hs (Cond.eq (.elem (.static "CatEvenings" "COLUMN_STEPS" "[I") (.int 7)) (.int (-1))) (by decide +kernel))
  have t1 : tab "CatEvenings" "ROW_STEPS" rowS A s s.heap := tab_of hA (hts _ (List.mem_append_right _ (List.mem_of_getElem? (i := 482) (by decide +kernel)))) (hts _ (List.mem_append_right _ (List.mem_of_getElem? (i := 1) (by decide +kernel)))) (hs (Cond.arrayOf (.static "CatEvenings" "ROW_STEPS" "[I") .int) (by decide +kernel)) (hs (Cond.eq (.length (.static "CatEvenings" "ROW_STEPS" "[I")) (.int 8)) (by decide +kernel)) (fun j hj => match j, hj with
    | 0, _ => hs (Cond.eq (.elem (.static "CatEvenings" "ROW_STEPS" "[I") (.int 0)) (.int 1)) (by decide +kernel)
    | 1, _ => hs (Cond.eq (.elem (.static "CatEvenings" "ROW_STEPS" "[I") (.int 1)) (.int 1)) (by decide +kernel)
    | 2, _ => hs (Cond.eq (.elem (.static "CatEvenings" "ROW_STEPS" "[I") (.int 2)) (.int 0)) (by decide +kernel)
    | 3, _ => hs (Cond.eq (.elem (.static "CatEvenings" "ROW_STEPS" "[I") (.int 3)) (.int (-1))) (by decide +kernel)
    | 4, _ => hs (Cond.eq (.elem (.static "CatEvenings" "ROW_STEPS" "[I") (.int 4)) (.int (-1))) (by decide +kernel)
    | 5, _ => hs (Cond.eq (.elem (.static "CatEvenings" "ROW_STEPS" "[I") (.int 5)) (.int (-1))) (by decide +kernel)
    | 6, _ => hs (Cond.eq (.elem (.static "CatEvenings" "ROW_STEPS" "[I") (.int 6)) (.int 0)) (by decide +kernel)
    | 7, _ => hs (Cond.eq (.elem (.static "CatEvenings" "ROW_STEPS" "[I") (.int 7)) (.int 1)) (by decide +kernel))
  have t2 : tab "CatEveningsModel" "ASIDE" colS A s s.heap := tab_of hA (hts _ (List.mem_append_right _ (List.mem_of_getElem? (i := 758) (by decide +kernel)))) (hts _ (List.mem_append_right _ (List.mem_of_getElem? (i := 11) (by decide +kernel)))) (hs (Cond.arrayOf (.static "CatEveningsModel" "ASIDE" "[I") .int) (by decide +kernel)) (hs (Cond.eq (.length (.static "CatEveningsModel" "ASIDE" "[I")) (.int 8)) (by decide +kernel)) (fun j hj => match j, hj with
    | 0, _ => hs (Cond.eq (.elem (.static "CatEveningsModel" "ASIDE" "[I") (.int 0)) (.int 0)) (by decide +kernel)
    | 1, _ => hs (Cond.eq (.elem (.static "CatEveningsModel" "ASIDE" "[I") (.int 1)) (.int 1)) (by decide +kernel)
    | 2, _ => hs (Cond.eq (.elem (.static "CatEveningsModel" "ASIDE" "[I") (.int 2)) (.int 1)) (by decide +kernel)
    | 3, _ => hs (Cond.eq (.elem (.static "CatEveningsModel" "ASIDE" "[I") (.int 3)) (.int 1)) (by decide +kernel)
    | 4, _ => hs (Cond.eq (.elem (.static "CatEveningsModel" "ASIDE" "[I") (.int 4)) (.int 0)) (by decide +kernel)
    | 5, _ => hs (Cond.eq (.elem (.static "CatEveningsModel" "ASIDE" "[I") (.int 5)) (.int (-1))) (by decide +kernel)
    | 6, _ => hs (Cond.eq (.elem (.static "CatEveningsModel" "ASIDE" "[I") (.int 6)) (.int (-1))) (by decide +kernel)
    | 7, _ => hs (Cond.eq (.elem (.static "CatEveningsModel" "ASIDE" "[I") (.int 7)) (.int (-1))) (by decide +kernel))
  have hE : sE A tE s s.heap := ⟨va_Zref (hts _ (List.mem_append_right _ (List.mem_of_getElem? (i := 104) (by decide +kernel)))) (hts _ (List.mem_append_right _ (List.mem_of_getElem? (i := 6) (by decide +kernel)))) hE1 hA, hE2⟩
  have z0 := vx_Zqof (C := "java/lang/Throwable") (n := "UNASSIGNED_STACK") (d := "[Ljava/lang/StackTraceElement;") (A := A) (hts _ (List.mem_append_right _ (List.mem_of_getElem? (i := 322) (by decide +kernel)))) (hts _ (List.mem_append_right _ (List.mem_of_getElem? (i := 12) (by decide +kernel)))) (hs (Cond.isRef (.static "java/lang/Throwable" "UNASSIGNED_STACK" "[Ljava/lang/StackTraceElement;")) (by decide +kernel)) hA
  have z1 := vx_Zqof (C := "java/lang/Throwable") (n := "SUPPRESSED_SENTINEL") (d := "Ljava/util/List;") (A := A) (hts _ (List.mem_append_right _ (List.mem_of_getElem? (i := 324) (by decide +kernel)))) (hts _ (List.mem_append_right _ (List.mem_of_getElem? (i := 12) (by decide +kernel)))) (hs (Cond.isRef (.static "java/lang/Throwable" "SUPPRESSED_SENTINEL" "Ljava/util/List;")) (by decide +kernel)) hA
  have f_add := va_Fw.of (C := RJx4a65c) (x := nL_add) (y := yJx4a65c_add_9ea2d) (hts _ (List.mem_append_right _ (List.mem_of_getElem? (i := 120) (by decide +kernel)))) (hts _ (List.mem_append_right _ (List.mem_of_getElem? (i := 119) (by decide +kernel)))) (hts _ (List.mem_append_right _ (List.mem_of_getElem? (i := 125) (by decide +kernel)))) (hts _ (List.mem_append_right _ (List.mem_of_getElem? (i := 123) (by decide +kernel)))) (hts _ (List.mem_append_right _ (List.mem_of_getElem? (i := 121) (by decide +kernel))))
  have f_size := va_Fw.of (C := RJx4a65c) (x := nL_size) (y := yJx4a65c_size_8abf5) (hts _ (List.mem_append_right _ (List.mem_of_getElem? (i := 196) (by decide +kernel)))) (hts _ (List.mem_append_right _ (List.mem_of_getElem? (i := 195) (by decide +kernel)))) (hts _ (List.mem_append_right _ (List.mem_of_getElem? (i := 200) (by decide +kernel)))) (hts _ (List.mem_append_right _ (List.mem_of_getElem? (i := 198) (by decide +kernel)))) (hts _ (List.mem_append_right _ (List.mem_of_getElem? (i := 121) (by decide +kernel))))
  have f_get := va_Fw.of (C := RJx4a65c) (x := nL_get) (y := yJx4a65c_get_915e3) (hts _ (List.mem_append_right _ (List.mem_of_getElem? (i := 235) (by decide +kernel)))) (hts _ (List.mem_append_right _ (List.mem_of_getElem? (i := 234) (by decide +kernel)))) (hts _ (List.mem_append_right _ (List.mem_of_getElem? (i := 239) (by decide +kernel)))) (hts _ (List.mem_append_right _ (List.mem_of_getElem? (i := 237) (by decide +kernel)))) (hts _ (List.mem_append_right _ (List.mem_of_getElem? (i := 121) (by decide +kernel))))
  have nw : va_Nw (.methodLinkNest RX1 57 yX2_farther RX2) s := va_Nw.of rfl (hts _ (List.mem_append_right _ (List.mem_of_getElem? (i := 476) (by decide +kernel))))
  have c0 : va_Ca "java/lang/IllegalStateException" "java/lang/IllegalStateException" s := va_Ca.of (hts _ (List.mem_append_right _ (List.mem_of_getElem? (i := 426) (by decide +kernel))))
  have c1 : va_Ca "java/lang/IllegalArgumentException" "java/lang/IllegalArgumentException" s := va_Ca.of (hts _ (List.mem_append_right _ (List.mem_of_getElem? (i := 410) (by decide +kernel))))
  have c2 : va_Ca "java/lang/IndexOutOfBoundsException" "java/lang/IndexOutOfBoundsException" s := va_Ca.of (hts _ (List.mem_append_right _ (List.mem_of_getElem? (i := 297) (by decide +kernel))))
  have c3 : va_Ca "CatEvenings$Evening" "java/lang/Object" s := va_Ca.of (hts _ (List.mem_append_right _ (List.mem_of_getElem? (i := 948) (by decide +kernel))))
  have c4 : va_Ca "[I" "java/lang/Cloneable" s := va_Ca.of (hts _ (List.mem_append_right _ (List.mem_of_getElem? (i := 513) (by decide +kernel))))
  have nc : va_Nc sIS sIA s := va_Nc.of (hs (Cond.not (.castable "java/lang/IllegalStateException" "java/lang/IllegalArgumentException")) (by decide +kernel))
  have dc : va_Dc s := va_Dc.of (hts _ (List.mem_append_right _ (List.mem_of_getElem? (i := 959) (by decide +kernel))))
  have ao : va_AO "java/lang/Object" s := va_AO.of (hts _ (List.mem_append_right _ (List.mem_of_getElem? (i := 168) (by decide +kernel))))
  have dy : ∀ y ∈ declY, va_Nw (.declares y) s := by
    intro y hy
    simp only [declY, List.mem_cons, List.not_mem_nil, or_false] at hy
    rcases hy with rfl | rfl | rfl | rfl | rfl | rfl
    · exact va_Nw.of rfl (hts _ (List.mem_append_right _ (List.mem_of_getElem? (i := 298) (by decide +kernel))))
    · exact va_Nw.of rfl (hts _ (List.mem_append_right _ (List.mem_of_getElem? (i := 299) (by decide +kernel))))
    · exact va_Nw.of rfl (hts _ (List.mem_append_right _ (List.mem_of_getElem? (i := 300) (by decide +kernel))))
    · exact va_Nw.of rfl (hts _ (List.mem_append_right _ (List.mem_of_getElem? (i := 301) (by decide +kernel))))
    · exact va_Nw.of rfl (hts _ (List.mem_append_right _ (List.mem_of_getElem? (i := 302) (by decide +kernel))))
    · exact va_Nw.of rfl (hts _ (List.mem_append_right _ (List.mem_of_getElem? (i := 303) (by decide +kernel))))
  have s50 := ks_of (tx := "no more pieces") (hts _ (List.mem_append_right _ (List.mem_of_getElem? (i := 433) (by decide +kernel)))) (hs (Cond.exactly (.string "CatEvenings" 50) "java/lang/String") (by decide +kernel))
  have s59 := ks_of (tx := "a paw was done already") (hts _ (List.mem_append_right _ (List.mem_of_getElem? (i := 440) (by decide +kernel)))) (hs (Cond.exactly (.string "CatEvenings" 59) "java/lang/String") (by decide +kernel))
  have s65 := ks_of (tx := "another piece is there") (hts _ (List.mem_append_right _ (List.mem_of_getElem? (i := 445) (by decide +kernel)))) (hs (Cond.exactly (.string "CatEvenings" 65) "java/lang/String") (by decide +kernel))
  have s75 := ks_of (tx := "the paw is refused") (hts _ (List.mem_append_right _ (List.mem_of_getElem? (i := 515) (by decide +kernel)))) (hs (Cond.exactly (.string "CatEvenings" 75) "java/lang/String") (by decide +kernel))
  have s77 := ks_of (tx := "no more evenings") (hts _ (List.mem_append_right _ (List.mem_of_getElem? (i := 516) (by decide +kernel)))) (hs (Cond.exactly (.string "CatEvenings" 77) "java/lang/String") (by decide +kernel))
  have s96 := ks_of (tx := "fewer paws were done") (hts _ (List.mem_append_right _ (List.mem_of_getElem? (i := 536) (by decide +kernel)))) (hs (Cond.exactly (.string "CatEvenings" 96) "java/lang/String") (by decide +kernel))
  have s101 := ks_of (tx := "nothing to do again") (hts _ (List.mem_append_right _ (List.mem_of_getElem? (i := 544) (by decide +kernel)))) (hs (Cond.exactly (.string "CatEvenings" 101) "java/lang/String") (by decide +kernel))
  have s127 := ks_of (tx := "no such piece") (hts _ (List.mem_append_right _ (List.mem_of_getElem? (i := 336) (by decide +kernel)))) (hs (Cond.exactly (.string "CatEvenings" 127) "java/lang/String") (by decide +kernel))
  have s213 := ks_of (tx := "no such evening") (hts _ (List.mem_append_right _ (List.mem_of_getElem? (i := 557) (by decide +kernel)))) (hs (Cond.exactly (.string "CatEvenings" 213) "java/lang/String") (by decide +kernel))
  have s221 := ks_of (tx := "no such paw") (hts _ (List.mem_append_right _ (List.mem_of_getElem? (i := 467) (by decide +kernel)))) (hs (Cond.exactly (.string "CatEvenings" 221) "java/lang/String") (by decide +kernel))
  have s227 := ks_of (tx := "many is not 1 to 60") (hts _ (List.mem_append_right _ (List.mem_of_getElem? (i := 535) (by decide +kernel)))) (hs (Cond.exactly (.string "CatEvenings" 227) "java/lang/String") (by decide +kernel))
  have s232 := ks_of (tx := "column or row is not 0 to 7") (hts _ (List.mem_append_right _ (List.mem_of_getElem? (i := 417) (by decide +kernel)))) (hs (Cond.exactly (.string "CatEvenings" 232) "java/lang/String") (by decide +kernel))
  exact ⟨tE, mi, ⟨t0, t1, t2, hE, z0, z1⟩, f_add, f_size, f_get, nw, ⟨c0, c1, c2, c3, c4⟩, nc, hmi, dc, ao, dy, s50, s59, s65, s75, s77, s96, s101, s127, s213, s221, s227, s232⟩
def R_law : String := "CatEveningsLaw"
def lw_P (b : Addr) (xs : List Int32) (args : Array Value) (s : State) : Prop := args = #[.ref b] ∧ s.IntsAt b xs ∧ xs.length ≤ 1536 ∧ (Jvm.Cond.and given_1 narrow_1).before args s = true
/-- what a walk over the start with the record d0 says of its end, said of the start itself -/
theorem lw_closed {s t : State} {o : Outcome} {d0 : Drawn} {L : List Loc} {k n : Nat} (hd0 : s.drawn.sameBut d0 lw_cs) (hv : ∃ v, o = .returned v) (hW : (s.setDrawn d0).WarmedH t.vm) (hs : (s.setDrawn d0).sameButNew ({ t with vm := s.vm } : State) L k n) : State.butDraws s t lw_cs (fun t1 => Framed s o t1 L k n) := by
  have h2 : t.drawn = d0 := congrArg State.drawn hs.1
  refine ⟨⟨hv, hW, State.sameButNew.setDrawn hs s.drawn⟩, ?_, by decide⟩
  rw [h2]
  exact hd0
def lw_Q (_ : Array Value) (s : State) (o : Outcome) (t : State) : Prop := o = .returned (some (.int 1)) ∧ State.butDraws s t lw_cs (fun t1 => Framed s o t1 [] 601024 7293034)
def lw_Z (below : List Frame) (a : Array Value) (s : State) : State → Prop := fun t => ∃ o, t.status = .running ∧ Ended t below o ∧ lw_Q a s o t
/-- the law's own end, with 1 on the stack, nothing written that was there before, its room as the claim has it; d0: the record of draws at this point (at the entry s.drawn: begin with 'refine W.base ?_' and 'have hd0 := Drawn.sameBut.refl s.drawn lw_cs') -/
theorem lw_ret {p : Program} {l : Launch} {e : Env} {s : State} {m : MethodId} {below : List Frame} {meth : Method} {c : Code} {b : Nat} {d0 : Drawn} (hd0 : s.drawn.sameBut d0 lw_cs) (hx : p.tables.exec = Jvm.exec) (hb : c.code = code) (hr : meth.sig.returnType = ret) (hlocks : meth.locks = false) {pc : Nat} {H : Heap} {ls : Array Slot} (hdg : decode code pc = .ok (.ireturn, 1)) : W p l e room_1 (s.setDrawn d0) m #[Value.ref b] below meth c H [] 601024 7293034 (lw_Z below #[Value.ref b] s) (F0 m pc ls [.int 1]) := by
  intro T hT X
  obtain ⟨fs, hret, hrun, hended, hW, hframe⟩ := X.leave (v := some (.int 1)) (hlocks := hlocks) (fun h => by rw [hr] at h; cases h)
  have hmeth' : T.vm.method? m = some meth := X.method'
  refine ⟨T.setFrames fs, ?_, .returned (some (.int 1)), hrun, hended, rfl, lw_closed hd0 ⟨_, rfl⟩ hW hframe⟩
  jvm_step X.here [X.here.top, hx, hb, hdg, hmeth', hr, ret, narrow_b1]
  (try refine ⟨rfl, ?_⟩); (try refine ⟨rfl, ?_⟩)
  first | (intro acts; rw [hret _ acts rfl rfl rfl]) | rw [hret _ _ rfl rfl rfl]
  exact Steps.refl _
/-- what holds at the law's entry: the machine, the code, the tables' words (any of lw_tbl by 'hts w (by decide +kernel)'), the script of L ints xs at the cell b, what the Statement gives of the start (any of its parts by flat_of_before) -/
def lw_At (p : Program) (s : State) (m : MethodId) (meth : Method) (c : Code) (b L : Nat) (xs : Nat → Int32) : Prop :=
  p.tables.exec = Jvm.exec ∧ c.code = code ∧ meth.sig.returnType = ret ∧ c.maxLocals = 9 ∧ s.vm.findClass R_law = some m.cls ∧ (∀ w ∈ lw_tbl, w.before #[Value.ref b] s = true) ∧ va_X b L xs s s.heap ∧ b < s.heap.size ∧ meth.locks = false ∧ (Jvm.Cond.and given_1 narrow_1).before #[Value.ref b] s = true
set_option maxRecDepth 100000 in
set_option maxHeartbeats 4000000 in
theorem whole_start {p : Program} {e : Env} {s : State} {m : MethodId} {below : List Frame} {meth : Method} {c : Code} (l : Launch) (hflags : l.flags = flags0) {b L : Nat} {xs : Nat → Int32} (hL : L ≤ 1536) (C0 : lw_At p s m meth c b L xs) : W p l e room_1 s m #[Value.ref b] below meth c s.heap [] 0 0 (lw_Z below #[Value.ref b] s) (entryFrame m ([Value.ref b] : List Value).toArray 9) := by
  obtain ⟨hx, hb, hr, hml, hown, hts, hX, hbl, hlocks, hgv⟩ := id C0
  have htsA := aw_lw hts
  have hA0 : ∀ a : Nat, a < s.heap.size → ¬ (fun q : Nat => s.heap.size ≤ q) a := fun a h => Nat.not_le.mpr h
  obtain ⟨tE, mi, hSF, hTF⟩ := SF_of hA0 hts hgv
  obtain ⟨c0, iS0, hKn0⟩ := u_known (C := RJx4a65c) (T := TJx4a65c) (N := 3) (n := 3) htsA in_Jx4a65c (htsA _ w92)
  obtain ⟨c1, iS1, hKn1⟩ := u_known (C := RX0) (T := TX0) (N := 9) (n := 9) htsA in_X0 (htsA _ w30)
  obtain ⟨c2, iS2, hKn2⟩ := u_known (C := RX1) (T := TX1) (N := 3) (n := 3) htsA in_X1 (htsA _ w32)
  obtain ⟨c3, iS3, hKn3⟩ := u_known (C := RX2) (T := TX2) (N := 2) (n := 2) htsA in_X2 (htsA _ w22)
  obtain ⟨c4, iS4, hKn4⟩ := u_known (C := RX3) (T := TX3) (N := 11) (n := 11) htsA in_X3 (htsA _ w665)
  obtain ⟨dC, dI, hKc⟩ : ∃ (dC : Nat → ClassId) (dI : Nat → Nat → Nat), ∀ (k : Nat) (q : vw_C), vwCl[k]? = some q → u_Kn s q.1 q.2.1 q.2.2 (dC k) (dI k) := by
    refine ⟨fun k => if k = 0 then c0 else if k = 1 then c1 else if k = 2 then c2 else if k = 3 then c3 else c4, fun k => if k = 0 then iS0 else if k = 1 then iS1 else if k = 2 then iS2 else if k = 3 then iS3 else iS4, ?_⟩
    intro k q hq
    match k, hq with
    | 0, hq => cases hq; exact hKn0
    | 1, hq => cases hq; exact hKn1
    | 2, hq => cases hq; exact hKn2
    | 3, hq => cases hq; exact hKn3
    | 4, hq => cases hq; exact hKn4
    | k + 5, hq => simp at hq
  obtain ⟨cI, aI1, aI2⟩ := ka_i (ty := .int) (hts _ (List.mem_append_right _ (List.mem_of_getElem? (i := 49) (by decide +kernel))))
  obtain ⟨cJ, aJ1, aJ2⟩ := ka_i (ty := .long) (hts _ (List.mem_append_right _ (List.mem_of_getElem? (i := 945) (by decide +kernel))))
  obtain ⟨cO, aO1, aO2⟩ := ka_o (C := "java/lang/Object") (hts _ (List.mem_append_right _ (List.mem_of_getElem? (i := 168) (by decide +kernel))))
  have hK : va_K (dC, dI) vwCl [(cI, .int), (cJ, .long), (cO, .object "java/lang/Object")] s := ⟨hKc, fun k q hq => by
    match k, hq with
    | 0, hq => cases hq; exact ⟨aI1, aI2⟩
    | 1, hq => cases hq; exact ⟨aJ1, aJ2⟩
    | 2, hq => cases hq; exact ⟨aO1, aO2⟩
    | k + 3, hq => simp at hq⟩
  have hfl : l.stackTraces = false := by
    first | (simp only [Launch.stackTraces, hflags]; rfl) | (unfold Launch.stackTraces; rw [hflags]; decide +kernel) | (simp [Launch.stackTraces, hflags]; decide +kernel)
  have C : Cx p s m #[Value.ref b] meth c ((dC, dI), (fun q : Nat => s.heap.size ≤ q), cI, cJ, cO, tE, mi) cL_law 9 RL := ⟨hx, hb, hml, hown, htsA, hK, ⟨hSF, hTF⟩, fun _ h => h, hlocks⟩
  rw [lg_entry_eq]
  refine law_all (Q := lw_Z below #[Value.ref b] s) C hfl hX hbl (hA0 b hbl) hL (fun h kk nn lv hk hn => ?_) s.heap [] _ ⟨[], fun k q h => by simp at h, ⟨fun i j p q h => by simp at h, fun k q h => by simp at h⟩, fun a e h => by cases h⟩ va_S.rf (lh.entry [.ref b] (Nat.le_of_ble_eq_true rfl))
  intro H locs ls hc hS hl
  refine va_forget (fun q hq => hS.2.2 q hq) ?_
  refine W.widen hk hn ?_
  exact W.base (lw_ret (Drawn.sameBut.refl s.drawn lw_cs) hx hb hr hlocks dL_law_1635)
set_option maxHeartbeats 4000000 in
theorem lw_walk (l : Launch) (hflags : l.flags = flags0) (b : Addr) (xs : List Int32) : MetFree l x (headSpec (Jvm.Cond.code x code maxLocals ret :: tables_1) room_1) (lw_P b xs) (fun _ _ _ _ _ => True) lw_Q := by
  refine MetFree.of_bodyS (code := code) (maxLocals := maxLocals) (ret := ret) (by decide) ?_ ?_
  · intro args s m h hn
    obtain ⟨meth, c, h1, h2, h3, h4, h5, h6, -, -⟩ := Cond.code_spec hn (atoms_spec (ws := Jvm.Cond.code x code maxLocals ret :: tables_1) h _ List.mem_cons_self)
    exact ⟨meth, c, h1, h2, h3, h4, h5, h6⟩
  · intro p e s m args below meth c s₁ B hml0 hP _
    obtain ⟨rfl, hx, hbd, hgv⟩ := hP
    obtain ⟨scr, harrAt, hlist, hof, hsmall⟩ := hx
    obtain ⟨hcb, hkn, -, -⟩ := State.arrayAt?_spec harrAt
    have hown : s.vm.findClass R_law = some m.cls := findClass_of_methodNamed B.named
    have hts0 : ∀ c ∈ (Jvm.Cond.code x code maxLocals ret :: tables_1), c.before #[Value.ref b] s = true := atoms_spec (ws := Jvm.Cond.code x code maxLocals ret :: tables_1) B.pre
    have hts : ∀ w ∈ lw_tbl, w.before #[Value.ref b] s = true := k2_hts_sels lw_privs (fun w hw => hts0 w (List.mem_cons_of_mem _ hw)) lw_privs_ok
    have hml : c.maxLocals = 9 := B.maxLocals_eq (hts0 _ List.mem_cons_self)
    have X₀ : Stand p l e room_1 s m #[Value.ref b] below meth c s₁ [] 0 0 := Stand.of_body B
    have hh0 : s₁.heap = s.heap := by rw [B.state]; rfl
    have hsz : scr.slots.size = xs.length := by rw [← Array.length_toList, hlist, List.length_map]
    have hval : ∀ j : Nat, j < xs.length → scr.slots[j]? = some (.int (xs.getD j 0)) := fun j hj => by
      rw [← Array.getElem?_toList, hlist]
      simp [hj]
    have hbl : b < s.heap.size := (Array.getElem?_eq_some_iff.mp hcb).1
    have hX : va_X b xs.length (fun j => xs.getD j 0) s s.heap := ⟨scr, hcb, hof, hkn, hsz, hval⟩
    have K : W p l e room_1 s m #[Value.ref b] below meth c s₁.heap [] 0 0 (lw_Z below #[Value.ref b] s) (entryFrame m ([Value.ref b] : List Value).toArray 9) := by
      rw [hh0]
      exact whole_start l hflags hbd ⟨B.exec, B.bytes, B.returns, hml, hown, hts, hX, hbl, B.notSynchronized, hgv⟩
    obtain ⟨t, a1, o, b1, b2, b3⟩ := K s₁ rfl X₀
    exact ⟨t, o, a1, b1, b2, b3⟩
theorem lw_pre_spec {args : Array Value} {s : State} (h : (Jvm.Cond.and given_1 narrow_1).before args s = true) (hr : rest_1_c.before args s = true) : ∃ (b : Addr) (xs : List Int32), lw_P b xs args s := by
  have hs := flat_of_before _ h
  have hq := flat_of_before _ hr
  have hc : (Cond.count 1).before args s = true := hs _ (by decide +kernel)
  have harr : (Cond.arrayOf (.arg 0) .int).before args s = true := hs _ (by decide +kernel)
  have hle : (Cond.le (.length (.arg 0)) (.int 1536)).before args s = true := hs _ (by decide +kernel)
  have hlen : (Cond.isInt (.length (.arg 0))).before args s = true := hq _ (by decide +kernel)
  have hall : (Cond.all (.arg 0) (.isInt (.elem (.arg 0) (.index 0)))).before args s = true := hq _ (by decide +kernel)
  obtain ⟨b, xs, hb, hx⟩ := State.ints_of_pre rfl harr hlen hall
  have hsm : xs.length < 2 ^ 31 := hx.choose_spec.2.2.2
  have hev : (Term.length (.arg 0)).eval args s none [] s = some (.int xs.length.toInt32) := hx.length_eval hb
  have hv := Cond.le_ints hev (show (Term.int 1536).eval args s none [] s = some (.int 1536) from rfl)
  have hd : xs.length.toInt32 ≤ 1536 := by
    simpa [Cond.before, Cond.holds, hv] using hle
  have hN : xs.length ≤ 1536 := (Int32.ofNat_le_ofNat hsm (by decide)).mp (show Int32.ofNat xs.length ≤ Int32.ofNat 1536 from hd)
  exact ⟨b, xs, Cond.one_arg hc (show args[0]? = some (.ref b) from hb), hx, hN, h⟩
theorem lw_comes (l : Launch) (hflags : l.flags = flags0) : Comes l x (Jvm.Cond.code x code maxLocals ret :: tables_1) room_1 (fun tb e args s => Calls_1 tb e args s ∧ rest_1 tb e args s ∧ Pre_1 tb e args s)
    (fun _ _ args s o t => lw_Q args s o t) := by
  intro p e ha hc hk s m args below hf hfit hheap happ hpre
  obtain ⟨b, xs, hP⟩ := lw_pre_spec hpre.2.2 hpre.2.1
  obtain ⟨k, o, h1, h2, h3, hQ⟩ := lw_walk l hflags b xs p e ha hc hk s m args below hf ((Spec.applies_iff_loose hf).mp happ).1 hP trivial
  exact ⟨k, o, h1, h2, h3, hQ⟩
theorem lw_frame {s t : State} {o : Outcome} {args : Array Value} (h : State.butDraws s t lw_cs (fun t1 => Framed s o t1 [] 601024 7293034)) :
    State.butDraws s t [Jvm.Choice.named "NaN.bits"] (fun t1 => Framed s o t1 (fieldLocs frame_1_writes args s ++ arrayLocs frame_1_arrays args s ++ staticLocs frame_1_statics s) 601024 7293034) := h
theorem lw_limb (L : Cond) (hL : ∀ (args : Array Value) (s t : State), L.after args s (.returned (some (.int 1))) t = true) :
    ArmFor flags0 classFile x code maxLocals ret World_1 tables_1 room_1 Calls_1 rest_1 Pre_1
      (fun tb e a s o t => postC L tb e a s o t ∧ State.butDraws s t [Jvm.Choice.named "NaN.bits"] (fun t1 => Framed s o t1 (fieldLocs frame_1_writes a s ++ arrayLocs frame_1_arrays a s ++ staticLocs frame_1_statics s) 601024 7293034)) := by
  intro l hflags _ _ p e ha hc hk s m args below hf hfit hheap happ hpre
  obtain ⟨k, o, h1, h2, h3, rfl, hF⟩ := lw_comes l hflags p e ha hc hk s m args below hf hfit hheap happ hpre
  exact ⟨k, _, h1, h2, h3, hL args s _, lw_frame hF⟩
theorem i_vc : Claimed_1_1 ∧ Claimed_1_2 := ⟨lw_limb limb_1_1 (fun args s t => by simp [limb_1_1, Cond.after, Cond.holds, Cond.value]), lw_limb limb_1_2 (fun args s t => Cond.after_iff.mpr (by
  first | (rw [show limb_1_2 = Cond.eq .result (.int 1) from rfl, Cond.eq_ints (x := 1) (y := 1) rfl rfl]; simp; done) | (simp [limb_1_2, Cond.value, Term.eval]; done)))⟩
