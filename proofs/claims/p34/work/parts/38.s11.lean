set_option maxRecDepth 100000 in
set_option maxHeartbeats 4000000 in
theorem law_all {l : Launch} {Y : YG} {p : Program} {e : Env} {s : State} {m : MethodId} {args : Array Value} {below : List Frame} {meth : Method} {c : Code} {Q : State → Prop} (C : Cx p s m args meth c Y cL_law 20 RL) (hfl : l.stackTraces = false) (hJO : Y.cJ ≠ Y.cO) (hsL : Y.sL ≤ 260) (endk : ∀ (h : AH) (kk nn : Nat) (lv : List (Option Value)), kk ≤ 600172 → nn ≤ 7300668 → Gd p l e room_1 s m args below meth c Q Y 20 1080 lv [.int (nI 1)] h kk nn) : Gd p l e room_1 s m args below meth c Q Y 20 0 (lent [.ref Y.sb] 20) [] (fun _ => none) 0 0 := by
  refine cn_L_37 C dL_law_0 (by show _ ≤ 600172; omega) (by show _ ≤ 7300668; omega) (fun x hx => ?_)
  refine g_dup C dL_law_3 (by first | rfl | exact cat_rf _) ?_
  refine g_callI C ((K_X2_init l Y (Z := fun _ => False) hup_eq (fun a z => z.elim)).K) ok_X2_init w23 rfl rfl dL_law_4 (Nat.le_of_ble_eq_true rfl) (Nat.le_of_ble_eq_true rfl) (Nat.le_of_ble_eq_true rfl) (by show _ ≤ 600172; omega) (by show _ ≤ 7300668; omega) (ofV (fun h2 e2 => ?_))
  obtain ⟨v2, rC, hfr⟩ := e2
  refine g_astore_n C dL_law_7 (by decide) (by first | rfl | exact isR_rf _) ?_
  refine g_aload_n C dL_law_8 rfl (by first | rfl | exact isR_rf _) ?_
  refine g_aload_n C dL_law_9 rfl (by first | rfl | exact isR_rf _) ?_
  refine g_callS C ((K_L_build l Y hfl hJO hsL rC).K) ok_L_build w687 rfl rfl dL_law_10 (Nat.le_of_ble_eq_true rfl) (Nat.le_of_ble_eq_true rfl) (Nat.le_of_ble_eq_true rfl) (by show _ ≤ 600172; omega) (by show _ ≤ 7300668; omega) (fun vv h3 e3 => ?_)
  obtain ⟨r3, rfl, z, g3, rfl, I3⟩ := e3
  refine g_astore_n C dL_law_13 (by decide) (by first | rfl | exact isR_rf _) ?_
  refine g_aload_n C dL_law_14 rfl (by first | rfl | exact isR_rf _) ?_
  refine g_ifnonnull C (tgt := 20) dL_law_15 (by decide) ?_
  refine g_iconst C (v := nI 0) dL_law_20 (by decide) ?_
  refine g_istore_n C dL_law_21 (by decide) ?_
  exact law_times C hfl hsL (fun g h k n w4 w5 w6 w7 w8 w9 w10 w11 w12 w13 w14 w15 w16 w17 w18 w19 I hk hn => by
      have hI := K_X3_isSame l Y hfl I (by decide)
      obtain ⟨a1, a2, v1, w1, a3, a4, a5, a6⟩ := I
      refine g_aload_n C dL_law_1075 rfl rfl ?_
      refine g_aload_n C dL_law_1076 rfl rfl ?_
      refine g_callV C hI.K ok_X3_isSame w500 a4.z rfl rfl rfl dL_law_1077 (Nat.le_of_ble_eq_true rfl) (Nat.le_of_ble_eq_true rfl) (Nat.le_of_ble_eq_true rfl) (by show _ ≤ 600172; omega) (by show _ ≤ 7300668; omega) (fun vv h2 e2 => ?_)
      subst e2
      exact endk _ _ _ _ (by omega) (by omega)) 7 0 g3 h3 _ _ _ _ _ _ _ _ _ _ _ _ _ _ _ _ _ _ (Nat.zero_le _) (by omega) (by rw [show 6000 + 700 * 0 = 6000 from rfl]; exact I3) (by omega) (by omega)
theorem ka_i {s : State} {args : Array Value} {ty : FieldType} (h : (Cond.arrayClass ty).before args s = true) : ∃ cA : ClassId, ArrOfT s cA ty ∧ s.vm.findClass ("[" ++ ty.toString) = some cA := by
  obtain ⟨cA, kA, comp, h1, h2, h3⟩ := Cond.arrayClass_spec h
  exact ⟨cA, fun n z => ⟨fun k h => (by cases h), kA, h2, comp, h3⟩, h1⟩
theorem ka_o {s : State} {args : Array Value} {C : String} (h : (Cond.arrayOver (.object C)).before args s = true) : ∃ cA : ClassId, ArrOfT s cA (.object C) ∧ va_RA s cA (.object C) := by
  obtain ⟨comp, cA, kA, h1, -, h2, h3, h4⟩ := Cond.arrayOver_spec h
  exact ⟨cA, fun n z => ⟨fun k h => (by cases h), kA, h2, comp, h3⟩, kA, comp, h2, h3, h1, h4⟩
theorem ka_a {s : State} {args : Array Value} (h : (Cond.arrayOver (.array .int)).before args s = true) : ∃ cA : ClassId, ArrOfT s cA (.array .int) ∧ va_RA s cA (.array .int) := by
  obtain ⟨comp, cA, kA, h1, -, h2, h3, h4⟩ := arrayOverA_spec h
  exact ⟨cA, fun n z => ⟨fun k h => (by cases h), kA, h2, comp, h3⟩, h4⟩
theorem ks_of {s : State} {args : Array Value} {own tx : String} {k : Nat} (h1 : (Cond.stringRef own k tx).before args s = true) (h2 : (Cond.exactly (.string own k) "java/lang/String").before args s = true) : ∃ a : Nat, vk_R own k tx a s := by
  obtain ⟨a, -, -, -, h3, -⟩ := Cond.exactly_spec h2
  exact ⟨a, vk_R.of h1 h3⟩
theorem tab_of {s : State} {args : Array Value} {Cn fn : String} {f : Nat → Int32} {A : Nat → Prop} (hA : ∀ a : Nat, a < s.heap.size → ¬ A a) (hl : (Cond.laysStatic Cn fn "[I").before args s = true) (hini : (Cond.initialized Cn).before args s = true) (harr : (Cond.arrayOf (.static Cn fn "[I") .int).before args s = true) (hlen : (Cond.eq (.length (.static Cn fn "[I")) (.int 8)).before args s = true) (hel : ∀ j : Nat, j < 8 → (Cond.eq (.elem (.static Cn fn "[I") (.int (Int32.ofNat j))) (.int (f j))).before args s = true) : tab Cn fn f A s s.heap := by
  obtain ⟨t, h1, h2⟩ := va_Tof (ty := .int) (N := 8) (f := fun j => .int (f j)) (by decide) harr (va_eqt hlen) (fun j hj => va_eqt (hel j hj)) hA
  exact ⟨t, va_Zref hl hini h1 hA, h2⟩
theorem SF_of {s : State} {args : Array Value} {A : Nat → Prop} {sb sL : Nat} (hscr : scr A sb sL s s.heap) (hA : ∀ a : Nat, a < s.heap.size → ¬ A a) (hts : ∀ w ∈ lw_tbl, w.before args s = true) (hgv : (Jvm.Cond.and given_1 narrow_1).before args s = true) : ∃ (tE mi : Nat), SFh A tE sb sL s s.heap ∧ TF mi s := by
  have hs := flat_of_before _ hgv
  obtain ⟨mi, hmi⟩ := va_Mi.of (hs (Cond.isRef (.mirror "[Ljava/lang/Object;")) (by decide +kernel))
  obtain ⟨tE, hE1, hE2⟩ := va_Tof (ty := .object "java/lang/Object") (N := 0) (f := fun _ => .null) (A := A) (by decide) (hs (Cond.arrayOf (.static "java/util/ArrayList" "DEFAULTCAPACITY_EMPTY_ELEMENTDATA" "[Ljava/lang/Object;") (.object "java/lang/Object")) (by decide +kernel)) (va_eqt (hs (Cond.eq (.length (.static "java/util/ArrayList" "DEFAULTCAPACITY_EMPTY_ELEMENTDATA" "[Ljava/lang/Object;")) (.int 0)) (by decide +kernel))) (fun j hj => absurd hj (Nat.not_lt_zero j)) hA
  have t0 : tab "CatEvenings" "COLUMN_STEPS" colS A s s.heap := tab_of hA (hts _ (List.mem_append_right _ (List.mem_of_getElem? (i := 644) (by decide +kernel)))) (hts _ (List.mem_append_right _ (List.mem_of_getElem? (i := 1) (by decide +kernel)))) (hs (Cond.arrayOf (.static "CatEvenings" "COLUMN_STEPS" "[I") .int) (by decide +kernel)) (hs (Cond.eq (.length (.static "CatEvenings" "COLUMN_STEPS" "[I")) (.int 8)) (by decide +kernel)) (fun j hj => match j, hj with
    | 0, _ => hs (Cond.eq (.elem (.static "CatEvenings" "COLUMN_STEPS" "[I") (.int 0)) (.int 0)) (by decide +kernel)
    | 1, _ => hs (Cond.eq (.elem (.static "CatEvenings" "COLUMN_STEPS" "[I") (.int 1)) (.int 1)) (by decide +kernel)
    | 2, _ => hs (Cond.eq (.elem (.static "CatEvenings" "COLUMN_STEPS" "[I") (.int 2)) (.int 1)) (by decide +kernel)
    | 3, _ => hs (Cond.eq (.elem (.static "CatEvenings" "COLUMN_STEPS" "[I") (.int 3)) (.int 1)) (by decide +kernel)
    | 4, _ => hs (Cond.eq (.elem (.static "CatEvenings" "COLUMN_STEPS" "[I") (.int 4)) (.int 0)) (by decide +kernel)
    | 5, _ => hs (Cond.eq (.elem (.static "CatEvenings" "COLUMN_STEPS" "[I") (.int 5)) (.int (-1))) (by decide +kernel)
    | 6, _ => hs (Cond.eq (.elem (.static "CatEvenings" "COLUMN_STEPS" "[I") (.int 6)) (.int (-1))) (by decide +kernel)
    | 7, _ => hs (Cond.eq (.elem (.static "CatEvenings" "COLUMN_STEPS" "[I") (.int 7)) (.int (-1))) (by decide +kernel))
  have t1 : tab "CatEvenings" "ROW_STEPS" rowS A s s.heap := tab_of hA (hts _ (List.mem_append_right _ (List.mem_of_getElem? (i := 646) (by decide +kernel)))) (hts _ (List.mem_append_right _ (List.mem_of_getElem? (i := 1) (by decide +kernel)))) (hs (Cond.arrayOf (.static "CatEvenings" "ROW_STEPS" "[I") .int) (by decide +kernel)) (hs (Cond.eq (.length (.static "CatEvenings" "ROW_STEPS" "[I")) (.int 8)) (by decide +kernel)) (fun j hj => match j, hj with
    | 0, _ => hs (Cond.eq (.elem (.static "CatEvenings" "ROW_STEPS" "[I") (.int 0)) (.int 1)) (by decide +kernel)
    | 1, _ => hs (Cond.eq (.elem (.static "CatEvenings" "ROW_STEPS" "[I") (.int 1)) (.int 1)) (by decide +kernel)
    | 2, _ => hs (Cond.eq (.elem (.static "CatEvenings" "ROW_STEPS" "[I") (.int 2)) (.int 0)) (by decide +kernel)
    | 3, _ => hs (Cond.eq (.elem (.static "CatEvenings" "ROW_STEPS" "[I") (.int 3)) (.int (-1))) (by decide +kernel)
    | 4, _ => hs (Cond.eq (.elem (.static "CatEvenings" "ROW_STEPS" "[I") (.int 4)) (.int (-1))) (by decide +kernel)
    | 5, _ => hs (Cond.eq (.elem (.static "CatEvenings" "ROW_STEPS" "[I") (.int 5)) (.int (-1))) (by decide +kernel)
    | 6, _ => hs (Cond.eq (.elem (.static "CatEvenings" "ROW_STEPS" "[I") (.int 6)) (.int 0)) (by decide +kernel)
    | 7, _ => hs (Cond.eq (.elem (.static "CatEvenings" "ROW_STEPS" "[I") (.int 7)) (.int 1)) (by decide +kernel))
  have hE : sE A tE s s.heap := ⟨va_Zref (hts _ (List.mem_append_right _ (List.mem_of_getElem? (i := 104) (by decide +kernel)))) (hts _ (List.mem_append_right _ (List.mem_of_getElem? (i := 6) (by decide +kernel)))) hE1 hA, hE2⟩
  have z0 := vx_Zqof (C := "java/lang/Throwable") (n := "UNASSIGNED_STACK") (d := "[Ljava/lang/StackTraceElement;") (A := A) (hts _ (List.mem_append_right _ (List.mem_of_getElem? (i := 219) (by decide +kernel)))) (hts _ (List.mem_append_right _ (List.mem_of_getElem? (i := 12) (by decide +kernel)))) (hs (Cond.isRef (.static "java/lang/Throwable" "UNASSIGNED_STACK" "[Ljava/lang/StackTraceElement;")) (by decide +kernel)) hA
  have z1 := vx_Zqof (C := "java/lang/Throwable") (n := "SUPPRESSED_SENTINEL") (d := "Ljava/util/List;") (A := A) (hts _ (List.mem_append_right _ (List.mem_of_getElem? (i := 221) (by decide +kernel)))) (hts _ (List.mem_append_right _ (List.mem_of_getElem? (i := 12) (by decide +kernel)))) (hs (Cond.isRef (.static "java/lang/Throwable" "SUPPRESSED_SENTINEL" "Ljava/util/List;")) (by decide +kernel)) hA
  have f_add := va_Fw.of (C := RJx4a65c) (x := nL_add) (y := yJx4a65c_add_9ea2d) (hts _ (List.mem_append_right _ (List.mem_of_getElem? (i := 120) (by decide +kernel)))) (hts _ (List.mem_append_right _ (List.mem_of_getElem? (i := 119) (by decide +kernel)))) (hts _ (List.mem_append_right _ (List.mem_of_getElem? (i := 125) (by decide +kernel)))) (hts _ (List.mem_append_right _ (List.mem_of_getElem? (i := 123) (by decide +kernel)))) (hts _ (List.mem_append_right _ (List.mem_of_getElem? (i := 121) (by decide +kernel))))
  have f_size := va_Fw.of (C := RJx4a65c) (x := nL_size) (y := yJx4a65c_size_8abf5) (hts _ (List.mem_append_right _ (List.mem_of_getElem? (i := 292) (by decide +kernel)))) (hts _ (List.mem_append_right _ (List.mem_of_getElem? (i := 291) (by decide +kernel)))) (hts _ (List.mem_append_right _ (List.mem_of_getElem? (i := 296) (by decide +kernel)))) (hts _ (List.mem_append_right _ (List.mem_of_getElem? (i := 294) (by decide +kernel)))) (hts _ (List.mem_append_right _ (List.mem_of_getElem? (i := 121) (by decide +kernel))))
  have f_get := va_Fw.of (C := RJx4a65c) (x := nL_get) (y := yJx4a65c_get_915e3) (hts _ (List.mem_append_right _ (List.mem_of_getElem? (i := 317) (by decide +kernel)))) (hts _ (List.mem_append_right _ (List.mem_of_getElem? (i := 316) (by decide +kernel)))) (hts _ (List.mem_append_right _ (List.mem_of_getElem? (i := 321) (by decide +kernel)))) (hts _ (List.mem_append_right _ (List.mem_of_getElem? (i := 319) (by decide +kernel)))) (hts _ (List.mem_append_right _ (List.mem_of_getElem? (i := 121) (by decide +kernel))))
  have nw : va_Nw (.methodLinkNest RX1 57 yX2_farther RX2) s := va_Nw.of rfl (hts _ (List.mem_append_right _ (List.mem_of_getElem? (i := 640) (by decide +kernel))))
  have nwI : va_Nw (.methodLinkNest RL 89 yX3_init RL) s := va_Nw.of rfl (hts _ (List.mem_append_right _ (List.mem_of_getElem? (i := 692) (by decide +kernel))))
  have c0 : va_Ca "java/lang/IllegalStateException" "java/lang/IllegalStateException" s := va_Ca.of (hts _ (List.mem_append_right _ (List.mem_of_getElem? (i := 262) (by decide +kernel))))
  have c1 : va_Ca "java/lang/IllegalArgumentException" "java/lang/IllegalArgumentException" s := va_Ca.of (hts _ (List.mem_append_right _ (List.mem_of_getElem? (i := 194) (by decide +kernel))))
  have c2 : va_Ca "java/lang/IndexOutOfBoundsException" "java/lang/IndexOutOfBoundsException" s := va_Ca.of (hts _ (List.mem_append_right _ (List.mem_of_getElem? (i := 300) (by decide +kernel))))
  have c3 : va_Ca "CatEvenings$Evening" "java/lang/Object" s := va_Ca.of (hts _ (List.mem_append_right _ (List.mem_of_getElem? (i := 714) (by decide +kernel))))
  have c4 : va_Ca "[I" "java/lang/Cloneable" s := va_Ca.of (hts _ (List.mem_append_right _ (List.mem_of_getElem? (i := 675) (by decide +kernel))))
  have aoA : (Cond.arrayOver (.array .int)).before #[] s = true := over_moved (Vm.Alike.refl _) (hts _ (List.mem_append_right _ (List.mem_of_getElem? (i := 596) (by decide +kernel))))
  have dc : va_Dc s := va_Dc.of (hts _ (List.mem_append_right _ (List.mem_of_getElem? (i := 725) (by decide +kernel))))
  have ao : va_AO "java/lang/Object" s := va_AO.of (hts _ (List.mem_append_right _ (List.mem_of_getElem? (i := 168) (by decide +kernel))))
  have dy : ∀ y ∈ declY, va_Nw (.declares y) s := by
    intro y hy
    simp only [declY, List.mem_cons, List.not_mem_nil, or_false] at hy
    rcases hy with rfl | rfl | rfl | rfl | rfl | rfl
    · exact va_Nw.of rfl (hts _ (List.mem_append_right _ (List.mem_of_getElem? (i := 195) (by decide +kernel))))
    · exact va_Nw.of rfl (hts _ (List.mem_append_right _ (List.mem_of_getElem? (i := 196) (by decide +kernel))))
    · exact va_Nw.of rfl (hts _ (List.mem_append_right _ (List.mem_of_getElem? (i := 197) (by decide +kernel))))
    · exact va_Nw.of rfl (hts _ (List.mem_append_right _ (List.mem_of_getElem? (i := 198) (by decide +kernel))))
    · exact va_Nw.of rfl (hts _ (List.mem_append_right _ (List.mem_of_getElem? (i := 199) (by decide +kernel))))
    · exact va_Nw.of rfl (hts _ (List.mem_append_right _ (List.mem_of_getElem? (i := 200) (by decide +kernel))))
  have s50 := ks_of (tx := "no more pieces") (hts _ (List.mem_append_right _ (List.mem_of_getElem? (i := 601) (by decide +kernel)))) (hs (Cond.exactly (.string "CatEvenings" 50) "java/lang/String") (by decide +kernel))
  have s59 := ks_of (tx := "a paw was done already") (hts _ (List.mem_append_right _ (List.mem_of_getElem? (i := 602) (by decide +kernel)))) (hs (Cond.exactly (.string "CatEvenings" 59) "java/lang/String") (by decide +kernel))
  have s65 := ks_of (tx := "another piece is there") (hts _ (List.mem_append_right _ (List.mem_of_getElem? (i := 603) (by decide +kernel)))) (hs (Cond.exactly (.string "CatEvenings" 65) "java/lang/String") (by decide +kernel))
  have s75 := ks_of (tx := "the paw is refused") (hts _ (List.mem_append_right _ (List.mem_of_getElem? (i := 681) (by decide +kernel)))) (hs (Cond.exactly (.string "CatEvenings" 75) "java/lang/String") (by decide +kernel))
  have s77 := ks_of (tx := "no more evenings") (hts _ (List.mem_append_right _ (List.mem_of_getElem? (i := 682) (by decide +kernel)))) (hs (Cond.exactly (.string "CatEvenings" 77) "java/lang/String") (by decide +kernel))
  have s96 := ks_of (tx := "fewer paws were done") (hts _ (List.mem_append_right _ (List.mem_of_getElem? (i := 269) (by decide +kernel)))) (hs (Cond.exactly (.string "CatEvenings" 96) "java/lang/String") (by decide +kernel))
  have s101 := ks_of (tx := "nothing to do again") (hts _ (List.mem_append_right _ (List.mem_of_getElem? (i := 280) (by decide +kernel)))) (hs (Cond.exactly (.string "CatEvenings" 101) "java/lang/String") (by decide +kernel))
  have s127 := ks_of (tx := "no such piece") (hts _ (List.mem_append_right _ (List.mem_of_getElem? (i := 427) (by decide +kernel)))) (hs (Cond.exactly (.string "CatEvenings" 127) "java/lang/String") (by decide +kernel))
  have s213 := ks_of (tx := "no such evening") (hts _ (List.mem_append_right _ (List.mem_of_getElem? (i := 307) (by decide +kernel)))) (hs (Cond.exactly (.string "CatEvenings" 213) "java/lang/String") (by decide +kernel))
  have s221 := ks_of (tx := "no such paw") (hts _ (List.mem_append_right _ (List.mem_of_getElem? (i := 631) (by decide +kernel)))) (hs (Cond.exactly (.string "CatEvenings" 221) "java/lang/String") (by decide +kernel))
  have s227 := ks_of (tx := "many is not 1 to 60") (hts _ (List.mem_append_right _ (List.mem_of_getElem? (i := 233) (by decide +kernel)))) (hs (Cond.exactly (.string "CatEvenings" 227) "java/lang/String") (by decide +kernel))
  have s232 := ks_of (tx := "column or row is not 0 to 7") (hts _ (List.mem_append_right _ (List.mem_of_getElem? (i := 557) (by decide +kernel)))) (hs (Cond.exactly (.string "CatEvenings" 232) "java/lang/String") (by decide +kernel))
  exact ⟨tE, mi, ⟨t0, t1, hE, z0, z1, hscr⟩, f_add, f_size, f_get, nw, ⟨c0, c1, c2, c3, c4⟩, ⟨aoA, nwI⟩, hmi, dc, ao, dy, s50, s59, s65, s75, s77, s96, s101, s127, s213, s221, s227, s232⟩
def R_law : String := "CatEveningsLaw"
def lw_P (b : Addr) (xs : List Int32) (args : Array Value) (s : State) : Prop := args = #[.ref b] ∧ s.IntsAt b xs ∧ xs.length ≤ 260 ∧ (Jvm.Cond.and given_1 narrow_1).before args s = true
/-- what a walk over the start with the record d0 says of its end, said of the start itself -/
theorem lw_closed {s t : State} {o : Outcome} {d0 : Drawn} {L : List Loc} {k n : Nat} (hd0 : s.drawn.sameBut d0 lw_cs) (hv : ∃ v, o = .returned v) (hW : (s.setDrawn d0).WarmedH t.vm) (hs : (s.setDrawn d0).sameButNew ({ t with vm := s.vm } : State) L k n) : State.butDraws s t lw_cs (fun t1 => Framed s o t1 L k n) := by
  have h2 : t.drawn = d0 := congrArg State.drawn hs.1
  refine ⟨⟨hv, hW, State.sameButNew.setDrawn hs s.drawn⟩, ?_, by decide⟩
  rw [h2]
  exact hd0
def lw_Q (_ : Array Value) (s : State) (o : Outcome) (t : State) : Prop := o = .returned (some (.int 1)) ∧ State.butDraws s t lw_cs (fun t1 => Framed s o t1 [] 600172 7300668)
def lw_Z (below : List Frame) (a : Array Value) (s : State) : State → Prop := fun t => ∃ o, t.status = .running ∧ Ended t below o ∧ lw_Q a s o t
/-- the law's own end, with 1 on the stack, nothing written that was there before, its room as the claim has it; d0: the record of draws at this point (at the entry s.drawn: begin with 'refine W.base ?_' and 'have hd0 := Drawn.sameBut.refl s.drawn lw_cs') -/
theorem lw_ret {p : Program} {l : Launch} {e : Env} {s : State} {m : MethodId} {below : List Frame} {meth : Method} {c : Code} {b : Nat} {d0 : Drawn} (hd0 : s.drawn.sameBut d0 lw_cs) (hx : p.tables.exec = Jvm.exec) (hb : c.code = code) (hr : meth.sig.returnType = ret) (hlocks : meth.locks = false) {pc : Nat} {H : Heap} {ls : Array Slot} (hdg : decode code pc = .ok (.ireturn, 1)) : W p l e room_1 (s.setDrawn d0) m #[Value.ref b] below meth c H [] 600172 7300668 (lw_Z below #[Value.ref b] s) (F0 m pc ls [.int 1]) := by
  intro T hT X
  obtain ⟨fs, hret, hrun, hended, hW, hframe⟩ := X.leave (v := some (.int 1)) (hlocks := hlocks) (fun h => by rw [hr] at h; cases h)
  have hmeth' : T.vm.method? m = some meth := X.method'
  refine ⟨T.setFrames fs, ?_, .returned (some (.int 1)), hrun, hended, rfl, lw_closed hd0 ⟨_, rfl⟩ hW hframe⟩
  jvm_step X.here [X.here.top, hx, hb, hdg, hmeth', hr, ret, narrow_b1]
  (try refine ⟨rfl, ?_⟩); (try refine ⟨rfl, ?_⟩)
  first | (intro acts; rw [hret _ acts rfl rfl rfl]) | rw [hret _ _ rfl rfl rfl]
  exact Steps.refl _
/-- what holds at the law's entry: the machine, the code, the tables' words (any of lw_tbl by 'hts w (by decide +kernel)'), the script of L ints xs at the cell b, what the Statement gives of the start (any of its parts by flat_of_before) -/
def lw_At (p : Program) (s : State) (m : MethodId) (meth : Method) (c : Code) (b L : Nat) (xs : Nat → Int32) : Prop :=
  p.tables.exec = Jvm.exec ∧ c.code = code ∧ meth.sig.returnType = ret ∧ c.maxLocals = 20 ∧ s.vm.findClass R_law = some m.cls ∧ (∀ w ∈ lw_tbl, w.before #[Value.ref b] s = true) ∧ va_X b L xs s s.heap ∧ b < s.heap.size ∧ meth.locks = false ∧ (Jvm.Cond.and given_1 narrow_1).before #[Value.ref b] s = true
set_option maxRecDepth 100000 in
set_option maxHeartbeats 4000000 in
theorem whole_start {p : Program} {e : Env} {s : State} {m : MethodId} {below : List Frame} {meth : Method} {c : Code} (l : Launch) (hflags : l.flags = flags0) {b L : Nat} {xs : Nat → Int32} (hL : L ≤ 260) (C0 : lw_At p s m meth c b L xs) : W p l e room_1 s m #[Value.ref b] below meth c s.heap [] 0 0 (lw_Z below #[Value.ref b] s) (entryFrame m ([Value.ref b] : List Value).toArray 20) := by
  obtain ⟨hx, hb, hr, hml, hown, hts, hX, hbl, hlocks, hgv⟩ := id C0
  have htsA := aw_lw hts
  have hA0 : ∀ a : Nat, a < s.heap.size → ¬ (fun q : Nat => s.heap.size ≤ q) a := fun a h => Nat.not_le.mpr h
  obtain ⟨tE, mi, hSF, hTF⟩ := SF_of (sb := b) (sL := L) ⟨hA0 b hbl, _, hX⟩ hA0 hts hgv
  obtain ⟨c0, iS0, hKn0⟩ := u_known (C := RJx4a65c) (T := TJx4a65c) (N := 3) (n := 3) htsA in_Jx4a65c (htsA _ w92)
  obtain ⟨c1, iS1, hKn1⟩ := u_known (C := RX0) (T := TX0) (N := 9) (n := 9) htsA in_X0 (htsA _ w30)
  obtain ⟨c2, iS2, hKn2⟩ := u_known (C := RX1) (T := TX1) (N := 3) (n := 3) htsA in_X1 (htsA _ w32)
  obtain ⟨c3, iS3, hKn3⟩ := u_known (C := RX2) (T := TX2) (N := 2) (n := 2) htsA in_X2 (htsA _ w22)
  obtain ⟨c4, iS4, hKn4⟩ := u_known (C := RX3) (T := TX3) (N := 4) (n := 4) htsA in_X3 (htsA _ w691)
  obtain ⟨dC, dI, hKc⟩ : ∃ (dC : Nat → ClassId) (dI : Nat → Nat → Nat), ∀ (k : Nat) (q : vw_C), vwCl[k]? = some q → u_Kn s q.1 q.2.1 q.2.2 (dC k) (dI k) := by
    refine ⟨fun k => if k = 0 then c0 else if k = 1 then c1 else if k = 2 then c2 else if k = 3 then c3 else c4, fun k => if k = 0 then iS0 else if k = 1 then iS1 else if k = 2 then iS2 else if k = 3 then iS3 else iS4, ?_⟩
    intro k q hq
    match k, hq with
    | 0, hq => cases hq; exact hKn0
    | 1, hq => cases hq; exact hKn1
    | 2, hq => cases hq; exact hKn2
    | 3, hq => cases hq; exact hKn3
    | 4, hq => cases hq; exact hKn4
    | k + 5, hq => simp at hq
  obtain ⟨cI, aI1, aI2⟩ := ka_i (ty := .int) (hts _ (List.mem_append_right _ (List.mem_of_getElem? (i := 49) (by decide +kernel))))
  obtain ⟨cJ, aJ1, aJ2⟩ := ka_a (hts _ (List.mem_append_right _ (List.mem_of_getElem? (i := 596) (by decide +kernel))))
  obtain ⟨cO, aO1, aO2⟩ := ka_o (C := "java/lang/Object") (hts _ (List.mem_append_right _ (List.mem_of_getElem? (i := 168) (by decide +kernel))))
  have hJO : cJ ≠ cO := fun e => by
    obtain ⟨-, k1, hk1, d1, q1⟩ := aJ1 0 (fun _ => .null)
    obtain ⟨-, k2, hk2, d2, q2⟩ := aO1 0 (fun _ => .null)
    subst e
    have hk3 : k1 = k2 := Option.some.inj (hk1.symm.trans hk2)
    rw [hk3, q2] at q1
    cases q1
  have hK : va_K (dC, dI) vwCl [(cI, .int), (cJ, .array .int), (cO, .object "java/lang/Object")] s := ⟨hKc, fun k q hq => by
    match k, hq with
    | 0, hq => cases hq; exact ⟨aI1, aI2⟩
    | 1, hq => cases hq; exact ⟨aJ1, aJ2⟩
    | 2, hq => cases hq; exact ⟨aO1, aO2⟩
    | k + 3, hq => simp at hq⟩
  have hfl : l.stackTraces = false := by
    first | (simp only [Launch.stackTraces, hflags]; rfl) | (unfold Launch.stackTraces; rw [hflags]; decide +kernel) | (simp [Launch.stackTraces, hflags]; decide +kernel)
  have C : Cx p s m #[Value.ref b] meth c ((dC, dI), (fun q : Nat => s.heap.size ≤ q), cI, cJ, cO, tE, mi, b, L) cL_law 20 RL := ⟨hx, hb, hml, hown, htsA, hK, ⟨hSF, hTF⟩, fun _ h => h, hlocks⟩
  rw [lg_entry_eq]
  refine law_all (Q := lw_Z below #[Value.ref b] s) C hfl hJO hL (fun h kk nn lv hk hn => ?_) s.heap [] _ ⟨[], fun k q h => by simp at h, ⟨fun i j p q h => by simp at h, fun k q h => by simp at h⟩, fun a e h => by cases h⟩ va_S.rf (lh.entry [.ref b] (Nat.le_of_ble_eq_true rfl))
  intro H locs ls hc hS hl
  refine va_forget (fun q hq => hS.2.2 q hq) ?_
  refine W.widen hk hn ?_
  exact W.base (lw_ret (Drawn.sameBut.refl s.drawn lw_cs) hx hb hr hlocks dL_law_1080)
set_option maxHeartbeats 4000000 in
theorem lw_walk (l : Launch) (hflags : l.flags = flags0) (b : Addr) (xs : List Int32) : MetFree l x (headSpec (Jvm.Cond.code x code maxLocals ret :: tables_1) room_1) (lw_P b xs) (fun _ _ _ _ _ => True) lw_Q := by
  refine MetFree.of_bodyS (code := code) (maxLocals := maxLocals) (ret := ret) (by decide) ?_ ?_
  · intro args s m h hn
    obtain ⟨meth, c, h1, h2, h3, h4, h5, h6, -, -⟩ := Cond.code_spec hn (atoms_spec (ws := Jvm.Cond.code x code maxLocals ret :: tables_1) h _ List.mem_cons_self)
    exact ⟨meth, c, h1, h2, h3, h4, h5, h6⟩
  · intro p e s m args below meth c s₁ B hml0 hP _
    obtain ⟨rfl, hx, hbd, hgv⟩ := hP
    obtain ⟨scr, harrAt, hlist, hof, hsmall⟩ := hx
    obtain ⟨hcb, hkn, -, -⟩ := State.arrayAt?_spec harrAt
    have hown : s.vm.findClass R_law = some m.cls := findClass_of_methodNamed B.named
    have hts0 : ∀ c ∈ (Jvm.Cond.code x code maxLocals ret :: tables_1), c.before #[Value.ref b] s = true := atoms_spec (ws := Jvm.Cond.code x code maxLocals ret :: tables_1) B.pre
    have hts : ∀ w ∈ lw_tbl, w.before #[Value.ref b] s = true := k2_hts_sels lw_privs (fun w hw => hts0 w (List.mem_cons_of_mem _ hw)) lw_privs_ok
    have hml : c.maxLocals = 20 := B.maxLocals_eq (hts0 _ List.mem_cons_self)
    have X₀ : Stand p l e room_1 s m #[Value.ref b] below meth c s₁ [] 0 0 := Stand.of_body B
    have hh0 : s₁.heap = s.heap := by rw [B.state]; rfl
    have hsz : scr.slots.size = xs.length := by rw [← Array.length_toList, hlist, List.length_map]
    have hval : ∀ j : Nat, j < xs.length → scr.slots[j]? = some (.int (xs.getD j 0)) := fun j hj => by
      rw [← Array.getElem?_toList, hlist]
      simp [hj]
    have hbl : b < s.heap.size := (Array.getElem?_eq_some_iff.mp hcb).1
    have hX : va_X b xs.length (fun j => xs.getD j 0) s s.heap := ⟨scr, hcb, hof, hkn, hsz, hval⟩
    have K : W p l e room_1 s m #[Value.ref b] below meth c s₁.heap [] 0 0 (lw_Z below #[Value.ref b] s) (entryFrame m ([Value.ref b] : List Value).toArray 20) := by
      rw [hh0]
      exact whole_start l hflags hbd ⟨B.exec, B.bytes, B.returns, hml, hown, hts, hX, hbl, B.notSynchronized, hgv⟩
    obtain ⟨t, a1, o, b1, b2, b3⟩ := K s₁ rfl X₀
    exact ⟨t, o, a1, b1, b2, b3⟩
theorem lw_pre_spec {args : Array Value} {s : State} (h : (Jvm.Cond.and given_1 narrow_1).before args s = true) (hr : rest_1_c.before args s = true) : ∃ (b : Addr) (xs : List Int32), lw_P b xs args s := by
  have hs := flat_of_before _ h
  have hq := flat_of_before _ hr
  have hc : (Cond.count 1).before args s = true := hs _ (by decide +kernel)
  have harr : (Cond.arrayOf (.arg 0) .int).before args s = true := hs _ (by decide +kernel)
  have hle : (Cond.le (.length (.arg 0)) (.int 260)).before args s = true := hs _ (by decide +kernel)
  have hlen : (Cond.isInt (.length (.arg 0))).before args s = true := hq _ (by decide +kernel)
  have hall : (Cond.all (.arg 0) (.isInt (.elem (.arg 0) (.index 0)))).before args s = true := hq _ (by decide +kernel)
  obtain ⟨b, xs, hb, hx⟩ := State.ints_of_pre rfl harr hlen hall
  have hsm : xs.length < 2 ^ 31 := hx.choose_spec.2.2.2
  have hev : (Term.length (.arg 0)).eval args s none [] s = some (.int xs.length.toInt32) := hx.length_eval hb
  have hv := Cond.le_ints hev (show (Term.int 260).eval args s none [] s = some (.int 260) from rfl)
  have hd : xs.length.toInt32 ≤ 260 := by
    simpa [Cond.before, Cond.holds, hv] using hle
  have hN : xs.length ≤ 260 := (Int32.ofNat_le_ofNat hsm (by decide)).mp (show Int32.ofNat xs.length ≤ Int32.ofNat 260 from hd)
  exact ⟨b, xs, Cond.one_arg hc (show args[0]? = some (.ref b) from hb), hx, hN, h⟩
theorem lw_comes (l : Launch) (hflags : l.flags = flags0) : Comes l x (Jvm.Cond.code x code maxLocals ret :: tables_1) room_1 (fun tb e args s => Calls_1 tb e args s ∧ rest_1 tb e args s ∧ Pre_1 tb e args s)
    (fun _ _ args s o t => lw_Q args s o t) := by
  intro p e ha hc hk s m args below hf hfit hheap happ hpre
  obtain ⟨b, xs, hP⟩ := lw_pre_spec hpre.2.2 hpre.2.1
  obtain ⟨k, o, h1, h2, h3, hQ⟩ := lw_walk l hflags b xs p e ha hc hk s m args below hf ((Spec.applies_iff_loose hf).mp happ).1 hP trivial
  exact ⟨k, o, h1, h2, h3, hQ⟩
theorem lw_frame {s t : State} {o : Outcome} {args : Array Value} (h : State.butDraws s t lw_cs (fun t1 => Framed s o t1 [] 600172 7300668)) :
    State.butDraws s t [Jvm.Choice.named "NaN.bits"] (fun t1 => Framed s o t1 (fieldLocs frame_1_writes args s ++ arrayLocs frame_1_arrays args s ++ staticLocs frame_1_statics s) 600172 7300668) := h
theorem lw_limb (L : Cond) (hL : ∀ (args : Array Value) (s t : State), L.after args s (.returned (some (.int 1))) t = true) :
    ArmFor flags0 classFile x code maxLocals ret World_1 tables_1 room_1 Calls_1 rest_1 Pre_1
      (fun tb e a s o t => postC L tb e a s o t ∧ State.butDraws s t [Jvm.Choice.named "NaN.bits"] (fun t1 => Framed s o t1 (fieldLocs frame_1_writes a s ++ arrayLocs frame_1_arrays a s ++ staticLocs frame_1_statics s) 600172 7300668)) := by
  intro l hflags _ _ p e ha hc hk s m args below hf hfit hheap happ hpre
  obtain ⟨k, o, h1, h2, h3, rfl, hF⟩ := lw_comes l hflags p e ha hc hk s m args below hf hfit hheap happ hpre
  exact ⟨k, _, h1, h2, h3, hL args s _, lw_frame hF⟩
theorem i_vc : Claimed_1_1 ∧ Claimed_1_2 := ⟨lw_limb limb_1_1 (fun args s t => by simp [limb_1_1, Cond.after, Cond.holds, Cond.value]), lw_limb limb_1_2 (fun args s t => Cond.after_iff.mpr (by
  first | (rw [show limb_1_2 = Cond.eq .result (.int 1) from rfl, Cond.eq_ints (x := 1) (y := 1) rfl rfl]; simp; done) | (simp [limb_1_2, Cond.value, Term.eval]; done)))⟩
