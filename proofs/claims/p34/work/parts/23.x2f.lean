def keepK (Y : YG) : va_E → Bool
  | .inl (c, _, .inr (.inr (.inr (.inr _)))) => c != Y.cO
  | .inl (_, _, .inl _) => true
  | .inl (_, _, .inr (.inl _)) => true
  | .inr (2, _) => true
  | .inr (4, _) => true
  | _ => false
/-- what the class never changes of what was there: scenes, the model's object, rows of int and long -/
def FrK (Y : YG) (h h2 : AH) : Prop := ∀ a e, h a = some e → keepK Y e = true → h2 a = some e
def Ext (h h2 : AH) : Prop := ∀ a e, h a = some e → h2 a = some e
theorem Ext.tr {h h2 h3 : AH} (a : Ext h h2) (b : Ext h2 h3) : Ext h h3 := fun q e he => b q e (a q e he)
theorem Ext.new {h : AH} {a : Nat} {e : va_E} (ha : h a = none) : Ext h (hup h a e) := fun _ _ hb => hup_old ha hb
theorem FrK.rf {Y : YG} {h : AH} : FrK Y h h := fun _ _ he _ => he
theorem FrK.tr {Y : YG} {h h2 h3 : AH} (a : FrK Y h h2) (b : FrK Y h2 h3) : FrK Y h h3 := fun q e he hk => b q e (a q e he hk) hk
theorem Ext.K {Y : YG} {h h2 : AH} (a : Ext h h2) : FrK Y h h2 := fun q e he _ => a q e he
theorem ne_of {h : AH} {a b : Nat} {e1 e2 : va_E} (ha : h a = some e1) (hb : h b = some e2) (hne : e1 ≠ e2) : a ≠ b := by
  intro z
  rw [z, hb] at ha
  exact hne (Option.some.inj ha).symm
theorem FrK.up {Y : YG} {h : AH} {a : Nat} {e0 e : va_E} (ha : h a = some e0) (hk : keepK Y e0 = false) : FrK Y h (hup h a e) := fun q c hc hkc => by
  rw [hup_ne (ne_of hc ha (fun z => by rw [z, hk] at hkc; cases hkc))]
  exact hc
theorem FrE.K {Y : YG} {N : Nat} {g : Sg} {ev sc : Nat → Nat} {L : Nat → Option Nat} {ch ds : Nat → Nat} {h h2 : AH} (f : FrE N ev h h2) (r : EvS N g ev sc L ch ds h) : FrK Y h h2 := fun q c hc hkc => by
  rw [f q (fun i hi => ne_of hc (r.1 i hi) (fun z => by rw [z] at hkc; cases hkc))]
  exact hc
theorem RepC.ext {Y : YG} {x : Nat} {v : Vw} {g : Sg} {Z : Nat → Prop} {h h2 : AH} (r : RepC Y x v g Z h) (he : Ext h h2) : RepC Y x v g Z h2 :=
  ⟨he _ _ r.x, he _ _ r.t, he _ _ r.d, r.cap, fun _ hi => r.fd hi, fun _ hi => he _ _ (r.ev hi), fun _ hi => he _ _ (r.sc hi), fun _ hi => he _ _ (r.pl hi), fun _ _ hi hq => r.fp hi hq, fun _ _ hi hj e => r.inj hi hj e, fun _ hi => r.z hi⟩
theorem RepC.evs {Y : YG} {x : Nat} {v : Vw} {g : Sg} {Z : Nat → Prop} {h : AH} (r : RepC Y x v g Z h) (iv : Inv g) : EvS g.n g v.ev v.sc g.last (chN g.par g.n) (dsN g.par g.n) h := ⟨fun _ hi => r.ev hi, fun _ _ hi hj e => r.inj hi hj e, iv.tr⟩
/-- another evening of now, other pointers -/
theorem rep_now {Y : YG} {x : Nat} {v : Vw} {g : Sg} {Z : Nat → Prop} {h h2 : AH} (r : RepC Y x v g Z h) {a : Nat} {L : Nat → Option Nat} (hE : EvS g.n g v.ev v.sc L (chN g.par g.n) (dsN g.par g.n) h2) (hF : FrE g.n v.ev h h2) : RepC Y x v (g.n, a, g.np, g.par, g.kd, g.nm, g.dp, L, g.ct, g.pos, g.lb) Z (hup h2 x (.inr (3, [.ref v.t, .ref (v.ev a)]))) := by
  have hk : ∀ b e, h b = some e → (∀ fs, e ≠ .inr (1, fs)) → h2 b = some e := fun b e hb hne => by
    rw [hF b (fun i hi => ne_of hb (r.ev hi) (hne _))]
    exact hb
  have hx := hk _ _ r.x (fun fs z => by cases z)
  have hu : ∀ b e, h2 b = some e → (∀ fs, e ≠ .inr (3, fs)) → hup h2 x (.inr (3, [.ref v.t, .ref (v.ev a)])) b = some e := fun b e hb hne => (hup_ne (ne_of hb hx (hne _))).trans hb
  exact ⟨hup_eq, hu _ _ (hk _ _ r.t (fun fs z => by cases z)) (fun fs z => by cases z), hu _ _ (hk _ _ r.d (fun fs z => by cases z)) (fun fs z => by cases z), r.cap, fun _ hi => r.fd hi, fun i hi => hu _ _ (hE.1 i hi) (fun fs z => by cases z), fun _ hi => hu _ _ (hk _ _ (r.sc hi) (fun fs z => by cases z)) (fun fs z => by cases z), fun _ hi => hu _ _ (hk _ _ (r.pl hi) (fun fs z => by cases z)) (fun fs z => by cases z), fun _ _ hi hq => r.fp hi hq, fun _ _ hi hj e => r.inj hi hj e, fun _ hi => r.z hi⟩
theorem rep_mv {Y : YG} {x : Nat} {v : Vw} {g : Sg} {Z : Nat → Prop} {h : AH} (r : RepC Y x v g Z h) (iv : Inv g) (a : Nat) : RepC Y x v (stNow g a) Z (hup h x (.inr (3, [.ref v.t, .ref (v.ev a)]))) := rep_now r (r.evs iv) FrE.rf
def nO_m1 {r : Option Nat} (h : ∀ q, r = some q → q < 2 ^ 31) (e : nO r = -1) : r = none := by
  cases r with
  | none => rfl
  | some q => exact absurd e (nI_m1 (h q rfl))
theorem rep_set {Y : YG} {x : Nat} {v : Vw} {g : Sg} {Z : Nat → Prop} {h h2 : AH} (r : RepC Y x v g Z h) (iv : Inv g) (hZ : ∀ a, Z a → h a ≠ none) (hn : g.n = 1) (he : Ext h h2) {q2 pa w : Nat} {fp2 : Nat → Int32} (e3 : h2 q2 = some (.inr (2, [.int (nI (g.ct g.now)), .ref pa, .int (nI (g.lb g.now))]))) (e4 : h2 pa = some (aI Y (g.np + 1) fp2)) (e5 : ∀ j, j < g.np → fp2 j = v.fp g.now j) (e6 : fp2 g.np = nI w) (e7 : h pa = none) : RepC Y x (v.t, v.d, v.cap, v.md, v.ev, fun _ => q2, fun _ => pa, v.fd, fun _ => fp2) (stSet g w) Z (hup h2 (v.ev g.now) (.inr (1, [va_rf (evP g v.ev g.now), .int (nI g.now), .int (g.kd g.now), .int (g.nm g.now), .int (nI (g.dp g.now)), .ref q2, va_rf ((g.last g.now).map v.ev), .int (nI (chN g.par g.n g.now)), .int (nI (dsN g.par g.n g.now))]))) := by
  have h0 := iv.now
  have hev := he _ _ (r.ev h0)
  have hk : ∀ b e e1, h2 b = some e → (∀ fs, e ≠ .inr (1, fs)) → hup h2 (v.ev g.now) e1 b = some e := fun b e e1 hb hne => (hup_ne (ne_of hb hev (hne _))).trans hb
  have one : ∀ i, i < g.n → i = g.now := fun i hi => by omega
  refine ⟨hk _ _ _ (he _ _ r.x) (fun fs z => by cases z), hk _ _ _ (he _ _ r.t) (fun fs z => by cases z), hk _ _ _ (he _ _ r.d) (fun fs z => by cases z), r.cap, fun _ hi => r.fd hi, fun i hi => ?_, fun i hi => ?_, fun i hi => hk _ _ _ e4 (fun fs z => by cases z), fun i q hi hq => ?_, fun _ _ hi hj e => r.inj hi hj e, fun i hi hz => hZ _ hz e7⟩
  · cases one i hi
    exact hup_eq
  · cases one i hi
    exact hk _ _ _ e3 (fun fs z => by cases z)
  · cases one i hi
    show fp2 q = nI (uF g.pos g.now (uN (g.pos g.now) g.np w) g.now q)
    have hq' : q < g.np + 1 := hq
    unfold uF uN
    rw [if_pos rfl]
    by_cases hqn : q = g.np
    · rw [if_pos hqn, hqn]; exact e6
    · rw [if_neg hqn, e5 q (by omega)]
      exact r.fp h0 (by omega)
section GD
variable {p : Program} {l : Launch} {e : Env} {R : Room} {s : State} {m : MethodId} {args : Array Value} {below : List Frame} {meth : Method} {c : Code} {Q : State → Prop} {Y : YG} {nL : Nat} {cc : ByteArray} {own : String} {pc : Nat} {lv : List (Option Value)} {st : List Value} {h : AH} {k n : Nat}
theorem ofBR {P : Prop} {q : Option Nat → AH → Prop} {pc2 : Nat} (kk : P → ∀ r h', q r h' → Gd p l e R s m args below meth c Q Y nL pc2 lv (va_rf r :: st) h' k n) : ∀ (v : Option Value) (h' : AH), (P ∧ pR q v h') → Gd p l e R s m args below meth c Q Y nL pc2 lv (v.toList ++ st) h' k n := by
  intro v h' z
  obtain ⟨h1, r, rfl, h3⟩ := z
  exact kk h1 r h' h3
end GD
set_option maxRecDepth 100000 in
set_option maxHeartbeats 4000000 in
theorem K_X2_setPiece (l : Launch) (Y : YG) (hfl : l.stackTraces = false) {x : Nat} {v : Vw} {g : Sg} {Z : Nat → Prop} {h : AH} (r : RepC Y x v g Z h) (iv : Inv g) (hZ : ∀ a, Z a → h a ≠ none) (c0 r0 : Int32) : MX l Y yX2_setPiece cX2_setPiece 5 (some .int) 7 111 3 26 [.ref x, .int c0, .int r0] h (fun vv h2 => onB c0 r0 = true ∧ (g.np < 16 ∧ g.n = 1 ∧ pon (g.pos g.now) (c0 * nI 8 + r0).toNatClampNeg g.np 0 = none) ∧ vv = some (.int (nI g.np)) ∧ ∃ v2, RepC Y x v2 (stSet g (c0 * nI 8 + r0).toNatClampNeg) Z h2 ∧ FrK Y h h2) (fun E h2 => h2 = h ∧ ((onB c0 r0 = false ∧ E = sIA) ∨ (onB c0 r0 = true ∧ ¬ (g.np < 16 ∧ g.n = 1 ∧ pon (g.pos g.now) (c0 * nI 8 + r0).toNatClampNeg g.np 0 = none) ∧ E = sIS))) := by
  have hn60 := iv.n60
  have hnp16 := iv.np
  have hnow := iv.now
  refine MX.of (by decide +kernel) (Nat.le_of_ble_eq_true rfl) ?_
  intro p e s m args0 below meth c C hr hout hnm
  refine g_iload_n C dX2_setPiece_0 rfl ?_
  refine g_iload_n C dX2_setPiece_1 rfl ?_
  refine g_callSX C (K_X2_boardPlace l Y hfl c0 r0) ok_X2_boardPlace w551 rfl rfl dX2_setPiece_2 (Nat.le_of_ble_eq_true rfl) (Nat.le_of_ble_eq_true rfl) (Nat.le_of_ble_eq_true rfl) (Nat.le_of_ble_eq_true rfl) (Nat.le_of_ble_eq_true rfl) (fun E h2 q => g_out C hout ⟨q.2.2, Or.inl ⟨q.1, q.2.1⟩⟩ (by omega) (by omega)) (ofBP (fun eb => ?_))
  obtain ⟨w, hw, ew, ew2⟩ := onB_N eb
  rw [ew2]
  rw [ew]
  refine g_istore_n C dX2_setPiece_5 (by decide) ?_
  refine g_aload_n C dX2_setPiece_6 rfl (by first | rfl | exact isR_rf _) ?_
  refine gf_X2_19 C (r.x) rfl dX2_setPiece_7 ?_
  refine gf_X2_40 C (r.ev hnow) rfl dX2_setPiece_10 ?_
  refine gf_X2_44 C (r.sc hnow) rfl dX2_setPiece_13 ?_
  refine g_aleni C (r.pl hnow) dX2_setPiece_16 ?_
  refine g_istore C dX2_setPiece_17 (by decide) ?_
  refine g_iload C dX2_setPiece_19 rfl ?_
  refine g_bipush C (v := nI 16) dX2_setPiece_21 (by decide) ?_
  refine g_icmp_ltN C (tgt := 36) dX2_setPiece_23 (by decide) (by omega) (by omega) (fun q1 => ?_) (fun q1 => ?_)
  · refine g_aload_n C dX2_setPiece_36 rfl (by first | rfl | exact isR_rf _) ?_
    refine gf_X2_26 C (r.x) rfl dX2_setPiece_37 ?_
    refine g_callF C (na := 0) (x := nL_size) ((K_Jx4a65c_size_8abf5 l Y r.t).K) (tf_Fsize C) w290 w293 w295 w6 w297 (by exact ⟨by decide, by decide, by decide +kernel⟩) (r.t) rfl rfl rfl dX2_setPiece_40 (Nat.le_of_ble_eq_true rfl) (Nat.le_of_ble_eq_true rfl) (Nat.le_of_ble_eq_true rfl) (Nat.le_of_ble_eq_true rfl) (Nat.le_of_ble_eq_true rfl) (ofS ?_)
    refine g_iconst C (v := nI 1) dX2_setPiece_45 (by decide) ?_
    refine g_icmp_leN C (tgt := 59) dX2_setPiece_46 (by decide) (by omega) (by omega) (fun q2 => ?_) (fun q2 => ?_)
    · refine g_aload_n C dX2_setPiece_59 rfl (by first | rfl | exact isR_rf _) ?_
      refine gf_X2_19 C (r.x) rfl dX2_setPiece_60 ?_
      refine gf_X2_40 C (r.ev hnow) rfl dX2_setPiece_63 ?_
      refine g_iload_n C dX2_setPiece_66 rfl ?_
      refine g_callV C ((K_X1_pieceOn l Y (r.sc hnow) (r.pl hnow) iv.np (fun q hq => r.fp hnow hq) (nI_posEq iv hnow hw)).K) ok_X1_pieceOn w558 (r.sc hnow) rfl rfl rfl dX2_setPiece_67 (Nat.le_of_ble_eq_true rfl) (Nat.le_of_ble_eq_true rfl) (Nat.le_of_ble_eq_true rfl) (Nat.le_of_ble_eq_true rfl) (Nat.le_of_ble_eq_true rfl) (ofS ?_)
      refine g_iconst C (v := (-1)) dX2_setPiece_70 (by decide) ?_
      refine g_icmp_eq C (tgt := 84) dX2_setPiece_71 (by decide) (fun q3 => ?_) (fun q3 => ?_)
      · refine g_aload_n C dX2_setPiece_84 rfl (by first | rfl | exact isR_rf _) ?_
        refine gf_X2_19 C (r.x) rfl dX2_setPiece_85 ?_
        refine g_aload_n C dX2_setPiece_88 rfl (by first | rfl | exact isR_rf _) ?_
        refine gf_X2_19 C (r.x) rfl dX2_setPiece_89 ?_
        refine gf_X2_40 C (r.ev hnow) rfl dX2_setPiece_92 ?_
        refine g_iload_n C dX2_setPiece_95 rfl ?_
        refine g_callV C ((K_X1_withPieceOn l Y (r.sc hnow) (r.pl hnow) iv.np (nI w)).K) ok_X1_withPieceOn w604 (r.sc hnow) rfl rfl rfl dX2_setPiece_96 (Nat.le_of_ble_eq_true rfl) (Nat.le_of_ble_eq_true rfl) (Nat.le_of_ble_eq_true rfl) (Nat.le_of_ble_eq_true rfl) (Nat.le_of_ble_eq_true rfl) (ofR (fun rr h2 e2 => ?_))
        obtain ⟨q2, pa, fp2, rfl, hq2, e3, e4, e5, e6, e7, e8⟩ := e2
        rw [rf_some]
        have hpn := nO_m1 (fun q hq => by have := pon_lt hq; omega) q3
        refine pf_X2_40 C (e8 _ _ (r.ev hnow)) (Nat.le_of_ble_eq_true rfl) (by first | rfl | exact isR_rf _) dX2_setPiece_99 ?_
        refine g_iload C dX2_setPiece_102 rfl ?_
        exact g_iret C hr dX2_setPiece_104 (Nat.le_of_ble_eq_true rfl) (Nat.le_of_ble_eq_true rfl) (⟨eb, ⟨q1, by omega, hpn⟩, rfl, _, rep_set r iv hZ (by omega) e8 e3 e4 e5 e6 e7, (Ext.K e8).tr (FrK.up (e8 _ _ (r.ev hnow)) rfl)⟩)
      · exact g_throwS C hfl hout okT_48 (tf_ca_IllegalStateException C) (tf_s65 C) dX2_setPiece_74 dX2_setPiece_77 dX2_setPiece_78 dX2_setPiece_80 dX2_setPiece_83 (Nat.le_of_ble_eq_true rfl) (Nat.le_of_ble_eq_true rfl) (Nat.le_of_ble_eq_true rfl) (Nat.le_of_ble_eq_true rfl)  (Nat.le_of_ble_eq_true rfl) (Nat.le_of_ble_eq_true rfl) (⟨rfl, Or.inr ⟨eb, fun z => q3 (by rw [z.2.2]; rfl), rfl⟩⟩)
    · exact g_throwS C hfl hout okT_48 (tf_ca_IllegalStateException C) (tf_s59 C) dX2_setPiece_49 dX2_setPiece_52 dX2_setPiece_53 dX2_setPiece_55 dX2_setPiece_58 (Nat.le_of_ble_eq_true rfl) (Nat.le_of_ble_eq_true rfl) (Nat.le_of_ble_eq_true rfl) (Nat.le_of_ble_eq_true rfl)  (Nat.le_of_ble_eq_true rfl) (Nat.le_of_ble_eq_true rfl) (⟨rfl, Or.inr ⟨eb, fun z => by omega, rfl⟩⟩)
  · exact g_throwS C hfl hout okT_48 (tf_ca_IllegalStateException C) (tf_s50 C) dX2_setPiece_26 dX2_setPiece_29 dX2_setPiece_30 dX2_setPiece_32 dX2_setPiece_35 (Nat.le_of_ble_eq_true rfl) (Nat.le_of_ble_eq_true rfl) (Nat.le_of_ble_eq_true rfl) (Nat.le_of_ble_eq_true rfl)  (Nat.le_of_ble_eq_true rfl) (Nat.le_of_ble_eq_true rfl) (⟨rfl, Or.inr ⟨eb, fun z => by omega, rfl⟩⟩)
theorem many_N {m0 : Int32} (h : nI 1 ≤ m0 ∧ m0 ≤ nI 60) : ∃ mm, m0 = nI mm ∧ 1 ≤ mm ∧ mm ≤ 60 := by
  obtain ⟨j, hj, rfl⟩ := nI_of (x := m0) (fun z => by
    have h1 := Int32.le_iff_toInt_le.mp h.1
    have h2 := Int32.lt_iff_toInt_lt.mp z
    have e1 : (nI 1).toInt = 1 := by decide
    have e2 : (0 : Int32).toInt = 0 := by decide
    rw [e1] at h1
    rw [e2] at h2
    omega)
  exact ⟨j, rfl, (nI_leI (by decide) hj).mp h.1, (nI_leI hj (by decide)).mp h.2⟩
theorem many_of {mm : Nat} (h1 : 1 ≤ mm) (h2 : mm ≤ 60) : nI 1 ≤ nI mm ∧ nI mm ≤ nI 60 := ⟨(nI_leI (by decide) (by omega)).mpr h1, (nI_leI (by omega) (by decide)).mpr h2⟩
theorem re_s (L : Nat → Option Nat) : ∀ (i a : Nat), reF L (i + 1) a = (reF L i a).bind L := by
  intro i
  induction i with
  | zero =>
    intro a
    simp only [reF]
    cases h : L a <;> simp [h, reF]
  | succ i ih =>
    intro a
    show (match L a with | none => none | some b => reF L (i + 1) b) = Option.bind (match L a with | none => none | some b => reF L i b) L
    cases h : L a with
    | none => rfl
    | some b => exact ih b
theorem re_none {L : Nat → Option Nat} {a i : Nat} (h : reF L i a = none) : ∀ {mm : Nat}, i ≤ mm → reF L mm a = none := by
  intro mm
  induction mm with
  | zero => intro hi; have : i = 0 := by omega
            rw [← this]; exact h
  | succ mm ih =>
    intro hi
    rcases Nat.lt_or_ge mm i with q | q
    · have : i = mm + 1 := by omega
      rw [← this]; exact h
    · rw [re_s, ih q]; rfl
theorem re_inv {g : Sg} (iv : Inv g) : ∀ (i : Nat) {a : Nat}, reF g.last i g.now = some a → Inv (stNow g a) := by
  intro i
  induction i with
  | zero => intro a h; cases h; exact iv
  | succ i ih =>
    intro a h
    rw [re_s] at h
    cases hz : reF g.last i g.now with
    | none => rw [hz] at h; cases h
    | some b =>
      rw [hz] at h
      exact inv_dn (ih hz) h
set_option maxRecDepth 100000 in
set_option maxHeartbeats 4000000 in
theorem K_X2_undo (l : Launch) (Y : YG) (hfl : l.stackTraces = false) {x : Nat} {v : Vw} {g : Sg} {Z : Nat → Prop} {h : AH} (r : RepC Y x v g Z h) (iv : Inv g) (m0 : Int32) : MX l Y yX2_undo cX2_undo 4 (some .int) 7 110 2 12 [.ref x, .int m0] h (fun vv h2 => ∃ mm, m0 = nI mm ∧ 1 ≤ mm ∧ mm ≤ 60 ∧ mm ≤ g.dp g.now ∧ vv = some (.int (nI (upN g.par mm g.now))) ∧ RepC Y x v (stNow g (upN g.par mm g.now)) Z h2 ∧ FrK Y h h2) (fun E h2 => h2 = h ∧ ((¬ (nI 1 ≤ m0 ∧ m0 ≤ nI 60) ∧ E = sIA) ∨ (∃ mm, m0 = nI mm ∧ 1 ≤ mm ∧ mm ≤ 60 ∧ g.dp g.now < mm ∧ E = sIS))) := by
  have hn60 := iv.n60
  have hnp16 := iv.np
  have hnow := iv.now
  refine MX.of (by decide +kernel) (Nat.le_of_ble_eq_true rfl) ?_
  intro p e s m args0 below meth c C hr hout hnm
  have lp : ∀ mm, m0 = nI mm → 1 ≤ mm → mm ≤ 60 → ∀ (d i : Nat), i ≤ mm → mm - i < d → i ≤ g.dp g.now → Gd p l e (rmO 7 110 2 12) s m args0 below meth c (vx_MQ below (Qk Y (fun vv h2 => ∃ mm, m0 = nI mm ∧ 1 ≤ mm ∧ mm ≤ 60 ∧ mm ≤ g.dp g.now ∧ vv = some (.int (nI (upN g.par mm g.now))) ∧ RepC Y x v (stNow g (upN g.par mm g.now)) Z h2 ∧ FrK Y h h2)) (Xk Y (fun E h2 => h2 = h ∧ ((¬ (nI 1 ≤ m0 ∧ m0 ≤ nI 60) ∧ E = sIA) ∨ (∃ mm, m0 = nI mm ∧ 1 ≤ mm ∧ mm ≤ 60 ∧ g.dp g.now < mm ∧ E = sIS)))) args0 s 2 12 Y.A) Y 4 11 [some (.ref x), some (.int m0), some (.ref (v.ev (upN g.par i g.now))), some (.int (nI i))] [] h 1 6 := by
    intro mm hm h1 h60 d
    induction d with
    | zero => intro i z1 z2; omega
    | succ d ih =>
      intro i hi hd hdp
      have hul := up_le iv.tr i g.now
      have hud := up_dp iv.dp i g.now hdp
      have hu : upN g.par i g.now < g.n := by omega
      subst hm
      refine g_iload_n C dX2_undo_11 rfl ?_
      refine g_iload_n C dX2_undo_12 rfl ?_
      refine g_icmp_geN C (tgt := 44) dX2_undo_13 (by decide) (by omega) (by omega) (fun q1 => ?_) (fun q1 => ?_)
      · have : i = mm := by omega
        subst this
        refine g_aload_n C dX2_undo_44 rfl (by first | rfl | exact isR_rf _) ?_
        refine g_aload_n C dX2_undo_45 rfl (by first | rfl | exact isR_rf _) ?_
        refine pf_X2_19 C (r.x) (Nat.le_of_ble_eq_true rfl) (by first | rfl | exact isR_rf _) dX2_undo_46 ?_
        refine g_aload_n C dX2_undo_49 rfl (by first | rfl | exact isR_rf _) ?_
        refine gf_X2_19 C ((rep_mv r iv _).x) rfl dX2_undo_50 ?_
        refine gf_X2_85 C ((rep_mv r iv _).ev hu) rfl dX2_undo_53 ?_
        exact g_iret C hr dX2_undo_56 (Nat.le_of_ble_eq_true rfl) (Nat.le_of_ble_eq_true rfl) (⟨i, rfl, h1, h60, hdp, rfl, rep_mv r iv _, FrK.up r.x rfl⟩)
      · refine g_aload_n C dX2_undo_16 rfl (by first | rfl | exact isR_rf _) ?_
        refine gf_X2_93 C (r.ev hu) rfl dX2_undo_17 ?_
        by_cases hu0 : upN g.par i g.now = 0
        · rw [show evP g v.ev (upN g.par i g.now) = none from if_pos hu0]
          have hd0 : g.dp g.now < mm := by rw [hu0, iv.dp.1] at hud; omega
          refine g_ifnonnullN C dX2_undo_20 ?_
          exact g_throwS C hfl hout okT_48 (tf_ca_IllegalStateException C) (tf_s96 C) dX2_undo_23 dX2_undo_26 dX2_undo_27 dX2_undo_29 dX2_undo_32 (Nat.le_of_ble_eq_true rfl) (Nat.le_of_ble_eq_true rfl) (Nat.le_of_ble_eq_true rfl) (Nat.le_of_ble_eq_true rfl) (Nat.le_of_ble_eq_true rfl) (Nat.le_of_ble_eq_true rfl) ⟨rfl, Or.inr ⟨mm, rfl, h1, h60, hd0, rfl⟩⟩
        · have e0 : evP g v.ev (upN g.par i g.now) = some (v.ev (g.par (upN g.par i g.now))) := if_neg hu0
          rw [e0]
          have hdp1 : i + 1 ≤ g.dp g.now := by
            have := iv.dp.2 _ (Nat.pos_of_ne_zero hu0)
            omega
          refine g_ifnonnull C (tgt := 33) dX2_undo_20 (by decide) ?_
          refine g_aload_n C dX2_undo_33 rfl rfl ?_
          refine gf_X2_93 C (r.ev hu) rfl dX2_undo_34 ?_
          rw [e0]
          refine g_astore_n C dX2_undo_37 (by decide) rfl ?_
          refine g_iincN C dX2_undo_38 rfl (by decide) ?_
          refine g_goto C (tgt := 11) dX2_undo_41 (by decide) ?_
          have := ih (i + 1) q1 (by omega) hdp1
          rw [up_s] at this
          exact this
  refine g_iload_n C dX2_undo_0 rfl ?_
  refine g_callSX C (K_X2_checkMany l Y hfl m0) ok_X2_checkMany w189 rfl rfl dX2_undo_1 (Nat.le_of_ble_eq_true rfl) (Nat.le_of_ble_eq_true rfl) (Nat.le_of_ble_eq_true rfl) (Nat.le_of_ble_eq_true rfl) (Nat.le_of_ble_eq_true rfl) (fun E h2 q => g_out C hout ⟨q.2.2, Or.inl ⟨q.1, q.2.1⟩⟩ (by omega) (by omega)) (ofBV (fun eb => ?_))
  obtain ⟨mm, hm, h1, h60⟩ := many_N eb
  refine g_aload_n C dX2_undo_4 rfl (by first | rfl | exact isR_rf _) ?_
  refine gf_X2_19 C (r.x) rfl dX2_undo_5 ?_
  refine g_astore_n C dX2_undo_8 (by decide) rfl ?_
  refine g_iconst C (v := nI 0) dX2_undo_9 (by decide) ?_
  refine g_istore_n C dX2_undo_10 (by decide) ?_
  exact lp mm hm h1 h60 (mm + 1) 0 (Nat.zero_le _) (by omega) (Nat.zero_le _)
set_option maxRecDepth 100000 in
set_option maxHeartbeats 4000000 in
theorem K_X2_redo (l : Launch) (Y : YG) (hfl : l.stackTraces = false) {x : Nat} {v : Vw} {g : Sg} {Z : Nat → Prop} {h : AH} (r : RepC Y x v g Z h) (iv : Inv g) (m0 : Int32) : MX l Y yX2_redo cX2_redo 4 (some .int) 7 110 2 12 [.ref x, .int m0] h (fun vv h2 => ∃ mm a, m0 = nI mm ∧ 1 ≤ mm ∧ mm ≤ 60 ∧ reF g.last mm g.now = some a ∧ vv = some (.int (nI a)) ∧ RepC Y x v (stNow g a) Z h2 ∧ FrK Y h h2) (fun E h2 => h2 = h ∧ ((¬ (nI 1 ≤ m0 ∧ m0 ≤ nI 60) ∧ E = sIA) ∨ (∃ mm, m0 = nI mm ∧ 1 ≤ mm ∧ mm ≤ 60 ∧ reF g.last mm g.now = none ∧ E = sIS))) := by
  have hn60 := iv.n60
  have hnp16 := iv.np
  have hnow := iv.now
  refine MX.of (by decide +kernel) (Nat.le_of_ble_eq_true rfl) ?_
  intro p e s m args0 below meth c C hr hout hnm
  have lp : ∀ mm, m0 = nI mm → 1 ≤ mm → mm ≤ 60 → ∀ (d i a : Nat), i ≤ mm → mm - i < d → reF g.last i g.now = some a → Gd p l e (rmO 7 110 2 12) s m args0 below meth c (vx_MQ below (Qk Y (fun vv h2 => ∃ mm a, m0 = nI mm ∧ 1 ≤ mm ∧ mm ≤ 60 ∧ reF g.last mm g.now = some a ∧ vv = some (.int (nI a)) ∧ RepC Y x v (stNow g a) Z h2 ∧ FrK Y h h2)) (Xk Y (fun E h2 => h2 = h ∧ ((¬ (nI 1 ≤ m0 ∧ m0 ≤ nI 60) ∧ E = sIA) ∨ (∃ mm, m0 = nI mm ∧ 1 ≤ mm ∧ mm ≤ 60 ∧ reF g.last mm g.now = none ∧ E = sIS)))) args0 s 2 12 Y.A) Y 4 11 [some (.ref x), some (.int m0), some (.ref (v.ev a)), some (.int (nI i))] [] h 1 6 := by
    intro mm hm h1 h60 d
    induction d with
    | zero => intro i a z1 z2; omega
    | succ d ih =>
      intro i a hi hd hre
      have hu : a < g.n := (re_inv iv i hre).now
      subst hm
      refine g_iload_n C dX2_redo_11 rfl ?_
      refine g_iload_n C dX2_redo_12 rfl ?_
      refine g_icmp_geN C (tgt := 44) dX2_redo_13 (by decide) (by omega) (by omega) (fun q1 => ?_) (fun q1 => ?_)
      · have : i = mm := by omega
        subst this
        refine g_aload_n C dX2_redo_44 rfl (by first | rfl | exact isR_rf _) ?_
        refine g_aload_n C dX2_redo_45 rfl (by first | rfl | exact isR_rf _) ?_
        refine pf_X2_19 C (r.x) (Nat.le_of_ble_eq_true rfl) (by first | rfl | exact isR_rf _) dX2_redo_46 ?_
        refine g_aload_n C dX2_redo_49 rfl (by first | rfl | exact isR_rf _) ?_
        refine gf_X2_19 C ((rep_mv r iv _).x) rfl dX2_redo_50 ?_
        refine gf_X2_85 C ((rep_mv r iv _).ev hu) rfl dX2_redo_53 ?_
        exact g_iret C hr dX2_redo_56 (Nat.le_of_ble_eq_true rfl) (Nat.le_of_ble_eq_true rfl) (⟨i, a, rfl, h1, h60, hre, rfl, rep_mv r iv _, FrK.up r.x rfl⟩)
      · refine g_aload_n C dX2_redo_16 rfl (by first | rfl | exact isR_rf _) ?_
        refine gf_X2_98 C (r.ev hu) rfl dX2_redo_17 ?_
        cases hl : g.last a with
        | none =>
          have hd0 : reF g.last mm g.now = none := re_none (i := i + 1) (by rw [re_s, hre]; exact hl) q1
          refine g_ifnonnullN C dX2_redo_20 ?_
          exact g_throwS C hfl hout okT_48 (tf_ca_IllegalStateException C) (tf_s101 C) dX2_redo_23 dX2_redo_26 dX2_redo_27 dX2_redo_29 dX2_redo_32 (Nat.le_of_ble_eq_true rfl) (Nat.le_of_ble_eq_true rfl) (Nat.le_of_ble_eq_true rfl) (Nat.le_of_ble_eq_true rfl) (Nat.le_of_ble_eq_true rfl) (Nat.le_of_ble_eq_true rfl) ⟨rfl, Or.inr ⟨mm, rfl, h1, h60, hd0, rfl⟩⟩
        | some b =>
          refine g_ifnonnull C (tgt := 33) dX2_redo_20 (by decide) ?_
          refine g_aload_n C dX2_redo_33 rfl rfl ?_
          refine gf_X2_98 C (r.ev hu) rfl dX2_redo_34 ?_
          rw [hl]
          refine g_astore_n C dX2_redo_37 (by decide) rfl ?_
          refine g_iincN C dX2_redo_38 rfl (by decide) ?_
          refine g_goto C (tgt := 11) dX2_redo_41 (by decide) ?_
          exact ih (i + 1) b q1 (by omega) (by rw [re_s, hre]; exact hl)
  refine g_iload_n C dX2_redo_0 rfl ?_
  refine g_callSX C (K_X2_checkMany l Y hfl m0) ok_X2_checkMany w189 rfl rfl dX2_redo_1 (Nat.le_of_ble_eq_true rfl) (Nat.le_of_ble_eq_true rfl) (Nat.le_of_ble_eq_true rfl) (Nat.le_of_ble_eq_true rfl) (Nat.le_of_ble_eq_true rfl) (fun E h2 q => g_out C hout ⟨q.2.2, Or.inl ⟨q.1, q.2.1⟩⟩ (by omega) (by omega)) (ofBV (fun eb => ?_))
  obtain ⟨mm, hm, h1, h60⟩ := many_N eb
  refine g_aload_n C dX2_redo_4 rfl (by first | rfl | exact isR_rf _) ?_
  refine gf_X2_19 C (r.x) rfl dX2_redo_5 ?_
  refine g_astore_n C dX2_redo_8 (by decide) rfl ?_
  refine g_iconst C (v := nI 0) dX2_redo_9 (by decide) ?_
  refine g_istore_n C dX2_redo_10 (by decide) ?_
  exact lp mm hm h1 h60 (mm + 1) 0 g.now (Nat.zero_le _) (by omega) rfl
set_option maxRecDepth 100000 in
set_option maxHeartbeats 4000000 in
theorem K_X2_goTo (l : Launch) (Y : YG) (hfl : l.stackTraces = false) {x : Nat} {v : Vw} {g : Sg} {Z : Nat → Prop} {h : AH} (r : RepC Y x v g Z h) (iv : Inv g) (i : Int32) : MX l Y yX2_goTo cX2_goTo 4 (some .int) 7 111 1 6 [.ref x, .int i] h (fun vv h2 => ∃ j, idx g.n i = some j ∧ vv = some (.int (nI (wy g g.now j))) ∧ RepC Y x v (stGo g j) Z h2 ∧ FrK Y h h2) (fun E h2 => h2 = h ∧ idx g.n i = none ∧ E = sIO) := by
  have hn60 := iv.n60
  have hnp16 := iv.np
  have hnow := iv.now
  refine MX.of (by decide +kernel) (Nat.le_of_ble_eq_true rfl) ?_
  intro p e s m args0 below meth c C hr hout hnm
  refine g_aload_n C dX2_goTo_0 rfl (by first | rfl | exact isR_rf _) ?_
  refine g_iload_n C dX2_goTo_1 rfl ?_
  refine g_callVX C (K_X2_existing l Y hfl r iv i) ok_X2_existing w285 (r.x) rfl rfl rfl dX2_goTo_2 (Nat.le_of_ble_eq_true rfl) (Nat.le_of_ble_eq_true rfl) (Nat.le_of_ble_eq_true rfl) (Nat.le_of_ble_eq_true rfl) (Nat.le_of_ble_eq_true rfl) (fun E h2 q => g_out C hout ⟨q.2.2, q.1, q.2.1⟩ (by omega) (by omega)) (ofE (fun j ej => ?_))
  obtain ⟨hj, rfl⟩ := idx_lt (by omega) ej
  refine g_astore_n C dX2_goTo_5 (by decide) (by first | rfl | exact isR_rf _) ?_
  refine g_aload_n C dX2_goTo_6 rfl (by first | rfl | exact isR_rf _) ?_
  refine gf_X2_19 C (r.x) rfl dX2_goTo_7 ?_
  refine g_aload_n C dX2_goTo_10 rfl (by first | rfl | exact isR_rf _) ?_
  refine g_callS C ((K_X2_wayLength l Y r iv hnow hj).K) ok_X2_wayLength w333 rfl rfl dX2_goTo_11 (Nat.le_of_ble_eq_true rfl) (Nat.le_of_ble_eq_true rfl) (Nat.le_of_ble_eq_true rfl) (Nat.le_of_ble_eq_true rfl) (Nat.le_of_ble_eq_true rfl) (ofS ?_)
  refine g_istore_n C dX2_goTo_14 (by decide) ?_
  refine g_aload_n C dX2_goTo_15 rfl (by first | rfl | exact isR_rf _) ?_
  refine g_callV C ((K_X0_pointToFromAbove l Y (r.evs iv) hj).K) ok_X0_pointToFromAbove w343 (r.ev hj) rfl rfl rfl dX2_goTo_16 (Nat.le_of_ble_eq_true rfl) (Nat.le_of_ble_eq_true rfl) (Nat.le_of_ble_eq_true rfl) (Nat.le_of_ble_eq_true rfl) (Nat.le_of_ble_eq_true rfl) (ofV (fun h2 e2 => ?_))
  obtain ⟨hE, hF⟩ := e2
  have hx2 : h2 x = _ := (hF x (fun q hq => ne_of r.x (r.ev hq) (fun z => by cases z))).trans r.x
  refine g_aload_n C dX2_goTo_19 rfl (by first | rfl | exact isR_rf _) ?_
  refine g_aload_n C dX2_goTo_20 rfl (by first | rfl | exact isR_rf _) ?_
  refine pf_X2_19 C (hx2) (Nat.le_of_ble_eq_true rfl) (by first | rfl | exact isR_rf _) dX2_goTo_21 ?_
  refine g_iload_n C dX2_goTo_24 rfl ?_
  exact g_iret C hr dX2_goTo_25 (Nat.le_of_ble_eq_true rfl) (Nat.le_of_ble_eq_true rfl) (⟨j, ej, rfl, rep_now r hE hF, (hF.K (r.evs iv)).tr (FrK.up hx2 rfl)⟩)
