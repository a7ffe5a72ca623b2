theorem aIO {Y : YG} {n m : Nat} {f : Nat → Int32} {f2 : Nat → Option Nat} : aI Y n f ≠ aO Y m f2 := fun z => by
  have := congrArg (keepK Y) z
  simp [keepK] at this
theorem in8_N {n : Int32} (h : in8 n = true) : ∃ j, j < 8 ∧ n = nI j := by
  unfold in8 at h
  split at h
  · cases h
  · split at h
    · cases h
    · rename_i z1 z2
      obtain ⟨a, ha, rfl⟩ := nI_of z1
      exact ⟨a, Nat.lt_of_not_le (fun q => z2 ((nI_leI (by omega) ha).mpr q)), rfl⟩
theorem in16_N {n : Int32} (h : in16 n = true) : ∃ j, j < 16 ∧ n = nI j := by
  unfold in16 at h
  split at h
  · cases h
  · split at h
    · cases h
    · rename_i z1 z2
      obtain ⟨a, ha, rfl⟩ := nI_of z1
      exact ⟨a, Nat.lt_of_not_le (fun q => z2 ((nI_leI (by omega) ha).mpr q)), rfl⟩
theorem isp_N {k0 n0 : Int32} (h : ispB k0 n0 = true) : ∃ k w, k < 4 ∧ w < 16 ∧ (k = 0 ∨ k = 3 → w < 8) ∧ k0 = nI k ∧ n0 = nI w := by
  unfold ispB at h
  split at h
  · rename_i hk
    obtain ⟨w, hw, rfl⟩ := in8_N h
    rcases hk with rfl | rfl
    · exact ⟨0, w, by decide, by omega, fun _ => hw, rfl, rfl⟩
    · exact ⟨3, w, by decide, by omega, fun _ => hw, rfl, rfl⟩
  · split at h
    · rename_i hk
      obtain ⟨w, hw, rfl⟩ := in16_N h
      rcases hk with rfl | rfl
      · exact ⟨1, w, by decide, hw, fun z => by omega, rfl, rfl⟩
      · exact ⟨2, w, by decide, hw, fun z => by omega, rfl, rfl⟩
    · cases h
def pawO (g : Sg) (k0 n0 : Int32) : Option (Nat × (Nat → Nat) × Nat) := nxt g.np (g.ct g.now) (g.pos g.now) (g.lb g.now) k0.toNatClampNeg n0.toNatClampNeg
theorem pawO_N (g : Sg) {k w : Nat} (hk : k < 4) (hw : w < 16) : pawO g (nI k) (nI w) = nxt g.np (g.ct g.now) (g.pos g.now) (g.lb g.now) k w := by
  unfold pawO
  rw [nI_clamp (by omega), nI_clamp (by omega)]
theorem pawO_ok {g : Sg} (iv : Inv g) {k0 n0 : Int32} {z : Nat × (Nat → Nat) × Nat} (h : pawO g k0 n0 = some z) : z.1 < 64 ∧ (∀ q, q < g.np → z.2.1 q < 64) ∧ z.2.2 < 2 ^ g.np := nxt_ok (iv.ct iv.now) (fun q hq => iv.pos iv.now hq) (iv.lb iv.now) h
set_option maxRecDepth 100000 in
set_option maxHeartbeats 4000000 in
theorem K_X2_sceneAfter (l : Launch) (Y : YG) (hfl : l.stackTraces = false) {x : Nat} {v : Vw} {g : Sg} {Z : Nat → Prop} {h : AH} (r : RepC Y x v g Z h) (iv : Inv g) (k0 n0 : Int32) : MX l Y yX2_sceneAfter cX2_sceneAfter 3 (some (.object "CatEvenings$Scene")) 6 106 2 19 [.ref x, .int k0, .int n0] h (fun vv h2 => ispB k0 n0 = true ∧ pR (ScR Y g.np (v.pl g.now) h (pawO g k0 n0)) vv h2) (fun E h2 => h2 = h ∧ ispB k0 n0 = false ∧ E = sIA) := by
  have hn60 := iv.n60
  have hnp16 := iv.np
  have hnow := iv.now
  refine MX.of (by decide +kernel) (Nat.le_of_ble_eq_true rfl) ?_
  intro p e s m args0 below meth c C hr hout hnm
  refine g_iload_n C dX2_sceneAfter_0 rfl ?_
  refine g_iload_n C dX2_sceneAfter_1 rfl ?_
  refine g_callS C ((K_X2_isPaw l Y k0 n0).K) ok_X2_isPaw w628 rfl rfl dX2_sceneAfter_2 (Nat.le_of_ble_eq_true rfl) (Nat.le_of_ble_eq_true rfl) (Nat.le_of_ble_eq_true rfl) (Nat.le_of_ble_eq_true rfl) (Nat.le_of_ble_eq_true rfl) (ofS ?_)
  refine g_if_neB C (tgt := 18) dX2_sceneAfter_5 (by decide) (fun q1 => ?_) (fun q1 => ?_)
  · obtain ⟨k1, w1, hk4, hw16, hw8, rfl, rfl⟩ := isp_N q1
    rw [pawO_N g hk4 hw16]
    refine g_aload_n C dX2_sceneAfter_18 rfl (by first | rfl | exact isR_rf _) ?_
    refine gf_X2_19 C (r.x) rfl dX2_sceneAfter_19 ?_
    refine gf_X2_40 C (r.ev hnow) rfl dX2_sceneAfter_22 ?_
    refine g_iload_n C dX2_sceneAfter_25 rfl ?_
    refine g_iload_n C dX2_sceneAfter_26 rfl ?_
    refine g_callV C ((K_X1_after l Y (r.sc hnow) (r.pl hnow) iv.np (fun q hq => r.fp hnow hq) (fun q hq => iv.pos hnow hq) (iv.ct hnow) (iv.lb16 hnow) hk4 hw16 hw8).K) ok_X1_after w632 (r.sc hnow) rfl rfl rfl dX2_sceneAfter_27 (Nat.le_of_ble_eq_true rfl) (Nat.le_of_ble_eq_true rfl) (Nat.le_of_ble_eq_true rfl) (Nat.le_of_ble_eq_true rfl) (Nat.le_of_ble_eq_true rfl) (ofR (fun rr h2 e2 => ?_))
    exact g_aret C hr (by first | exact Or.inl ⟨_, rfl⟩ | exact Or.inr ⟨_, rfl⟩) (by first | rfl | exact isR_rf _) dX2_sceneAfter_30 (Nat.le_of_ble_eq_true rfl) (Nat.le_of_ble_eq_true rfl) (⟨q1, rr, rfl, e2⟩)
  · exact g_throwS C hfl hout okT_219 (tf_ca_IllegalArgumentException C) (tf_s221 C) dX2_sceneAfter_8 dX2_sceneAfter_11 dX2_sceneAfter_12 dX2_sceneAfter_14 dX2_sceneAfter_17 (Nat.le_of_ble_eq_true rfl) (Nat.le_of_ble_eq_true rfl) (Nat.le_of_ble_eq_true rfl) (Nat.le_of_ble_eq_true rfl)  (Nat.le_of_ble_eq_true rfl) (Nat.le_of_ble_eq_true rfl) (⟨rfl, q1, rfl⟩)
set_option maxRecDepth 100000 in
set_option maxHeartbeats 4000000 in
theorem K_X2_canDo (l : Launch) (Y : YG) (hfl : l.stackTraces = false) {x : Nat} {v : Vw} {g : Sg} {Z : Nat → Prop} {h : AH} (r : RepC Y x v g Z h) (iv : Inv g) (k0 n0 : Int32) : MX l Y yX2_canDo cX2_canDo 3 (some .boolean) 7 128 2 19 [.ref x, .int k0, .int n0] h (fun vv h2 => ispB k0 n0 = true ∧ vv = some (bI (pawO g k0 n0).isSome) ∧ Ext h h2) (fun E h2 => h2 = h ∧ ispB k0 n0 = false ∧ E = sIA) := by
  have hn60 := iv.n60
  have hnp16 := iv.np
  have hnow := iv.now
  refine MX.of (by decide +kernel) (Nat.le_of_ble_eq_true rfl) ?_
  intro p e s m args0 below meth c C hr hout hnm
  refine g_aload_n C dX2_canDo_0 rfl (by first | rfl | exact isR_rf _) ?_
  refine g_iload_n C dX2_canDo_1 rfl ?_
  refine g_iload_n C dX2_canDo_2 rfl ?_
  refine g_callVX C (K_X2_sceneAfter l Y hfl r iv k0 n0) ok_X2_sceneAfter w624 (r.x) rfl rfl rfl dX2_canDo_3 (Nat.le_of_ble_eq_true rfl) (Nat.le_of_ble_eq_true rfl) (Nat.le_of_ble_eq_true rfl) (Nat.le_of_ble_eq_true rfl) (Nat.le_of_ble_eq_true rfl) (fun E h2 q => g_out C hout (q) (by omega) (by omega)) (ofBR (fun eb rr h2 e2 => ?_))
  cases hz : pawO g k0 n0 with
  | none =>
    rw [hz] at e2
    obtain ⟨rfl, rfl⟩ := e2
    refine g_ifnullN C (tgt := 13) dX2_canDo_6 (by decide) ?_
    refine g_iconst C (v := nI 0) dX2_canDo_13 (by decide) ?_
    exact g_zret C hr (Or.inl rfl) dX2_canDo_14 (by omega) (by omega) ⟨eb, rfl, fun _ _ z => z⟩
  | some z =>
    rw [hz] at e2
    obtain ⟨q2, pa, fp2, rfl, hq2, e3, e4, e5, e6, e7⟩ := e2
    refine g_ifnull C dX2_canDo_6 ?_
    refine g_iconst C (v := nI 1) dX2_canDo_9 (by decide) ?_
    refine g_goto C (tgt := 14) dX2_canDo_10 (by decide) ?_
    exact g_zret C hr (Or.inr rfl) dX2_canDo_14 (by omega) (by omega) ⟨eb, rfl, e7⟩
theorem paw_ch {g : Sg} (iv : Inv g) {i : Nat} (hi : i < g.n + 1) : uN (uN (chN g.par g.n) g.n 0) g.now (uN (chN g.par g.n) g.n 0 g.now + 1) i = chN (ppF g) (g.n + 1) i := by
  have h2 := iv.now
  rcases Nat.lt_succ_iff_lt_or_eq.mp hi with q | q
  · rw [ch_pp iv q]
    unfold uN
    by_cases hin : i = g.now
    · rw [if_pos hin, if_pos hin, if_neg (by omega)]
    · rw [if_neg hin, if_neg hin, if_neg (by omega)]
  · rw [q, ch_ppn iv]
    unfold uN
    rw [if_neg (by omega), if_pos rfl]
theorem paw_ds {g : Sg} (iv : Inv g) {i : Nat} (hi : i < g.n + 1) : dsF (ppF g) g.n g.n (uN (dsN g.par g.n) g.n 0) i = dsN (ppF g) (g.n + 1) i := by
  rw [dsF_at (pp_tr iv) g.n g.n _ (Nat.le_refl _) i]
  rcases Nat.lt_succ_iff_lt_or_eq.mp hi with q | q
  · rw [ds_pp iv q]
    unfold uN
    rw [if_neg (by omega)]
  · rw [q, ds_ppn]
    unfold uN
    rw [if_pos rfl, decide_eq_false (Nat.lt_irrefl _)]
    rfl
/-- the evenings' cells behind the new one -/
theorem paw_evs {Y : YG} {x : Nat} {v : Vw} {g : Sg} {Z : Nat → Prop} {h4 h5 : AH} (r : RepC Y x v g Z h4) (iv : Inv g) {k0 n0 : Int32} {z : Nat × (Nat → Nat) × Nat} {z1 q2 : Nat}
    (ez : h4 z1 = some (.inr (1, [.ref (v.ev g.now), .int (nI g.n), .int k0, .int n0, .int (nI (g.dp g.now + 1)), .ref q2, .null, .int 0, .int 0]))) (hzn : ∀ i, i < g.n → v.ev i ≠ z1)
    (hk : ∀ a e, a ≠ v.t → a ≠ v.d → h4 a = some e → h5 a = some e) :
    EvS (g.n + 1) (stPaw g k0 n0 z) (uN v.ev g.n z1) (uN v.sc g.n q2) (uO g.last g.n none) (uN (chN g.par g.n) g.n 0) (uN (dsN g.par g.n) g.n 0) h5 := by
  have h1 := iv.n1
  have h2 := iv.now
  have e1 : ∀ fs b, h4 b = some (.inr (1, fs)) → h5 b = some (.inr (1, fs)) := fun fs b hb => hk b _ (ne_of hb r.t (fun z => by cases z)) (ne_of hb r.d (fun z => by cases z)) hb
  have u1 : ∀ i, i < g.n → uN v.ev g.n z1 i = v.ev i := fun i hi => if_neg (by omega)
  have u2 : uN v.ev g.n z1 g.n = z1 := if_pos rfl
  refine ⟨fun i hi => ?_, fun i j hi hj e => ?_, pp_tr iv⟩
  · rcases Nat.lt_succ_iff_lt_or_eq.mp hi with q | q
    · rw [u1 i q, e1 _ _ (r.ev q)]
      have hni : i ≠ g.n := by omega
      unfold evG
      rw [show evP (stPaw g k0 n0 z) (uN v.ev g.n z1) i = evP g v.ev i from by
        show (if i = 0 then none else some (uN v.ev g.n z1 (ppF g i))) = (if i = 0 then none else some (v.ev (g.par i)))
        rw [pp_lt q, u1 _ (iv.par q)]]
      rw [show (stPaw g k0 n0 z).kd i = g.kd i from if_neg hni, show (stPaw g k0 n0 z).nm i = g.nm i from if_neg hni, show (stPaw g k0 n0 z).dp i = g.dp i from dd_lt q, show uN v.sc g.n q2 i = v.sc i from if_neg hni, show uO g.last g.n none i = g.last i from if_neg hni, show uN (chN g.par g.n) g.n 0 i = chN g.par g.n i from if_neg hni, show uN (dsN g.par g.n) g.n 0 i = dsN g.par g.n i from if_neg hni]
      rw [show (g.last i).map (uN v.ev g.n z1) = (g.last i).map v.ev from by
        cases hl : g.last i with
        | none => rfl
        | some j => exact congrArg some (u1 j (iv.last q hl).2.1)]
    · subst q
      rw [u2, e1 _ _ ez]
      unfold evG
      rw [show evP (stPaw g k0 n0 z) (uN v.ev g.n z1) g.n = some (v.ev g.now) from by
        show (if g.n = 0 then none else some (uN v.ev g.n z1 (ppF g g.n))) = _
        rw [if_neg (by omega), pp_n, u1 _ h2]]
      rw [show (stPaw g k0 n0 z).kd g.n = k0 from if_pos rfl, show (stPaw g k0 n0 z).nm g.n = n0 from if_pos rfl, show (stPaw g k0 n0 z).dp g.n = g.dp g.now + 1 from dd_n, show uN v.sc g.n q2 g.n = q2 from if_pos rfl, show uO g.last g.n none g.n = none from if_pos rfl, show uN (chN g.par g.n) g.n 0 g.n = 0 from if_pos rfl, show uN (dsN g.par g.n) g.n 0 g.n = 0 from if_pos rfl]
      rfl
  · rcases Nat.lt_succ_iff_lt_or_eq.mp hi with q | q
    · rcases Nat.lt_succ_iff_lt_or_eq.mp hj with w | w
      · rw [u1 i q, u1 j w] at e
        exact r.inj q w e
      · rw [w, u1 i q, u2] at e
        exact absurd e (hzn i q)
    · rcases Nat.lt_succ_iff_lt_or_eq.mp hj with w | w
      · rw [q, u1 j w, u2] at e
        exact absurd e.symm (hzn j w)
      · omega
theorem paw_rep {Y : YG} {x : Nat} {v : Vw} {g : Sg} {Z : Nat → Prop} {h4 h5 h7 : AH} (r : RepC Y x v g Z h4) (iv : Inv g) {k0 n0 : Int32} {z : Nat × (Nat → Nat) × Nat} {z1 q2 pa : Nat} {fp2 : Nat → Int32}
    (hk : ∀ a e, a ≠ v.t → a ≠ v.d → h4 a = some e → h5 a = some e)
    (es : h4 q2 = some (.inr (2, [.int (nI z.1), .ref pa, .int (nI z.2.2)]))) (ep : h4 pa = some (aI Y g.np fp2)) (ef : ∀ j, j < g.np → fp2 j = nI (z.2.1 j)) (hZ : ¬ Z pa)
    (hpd : pa ≠ v.d)
    {q5 N : Nat} {fd5 : Nat → Option Nat} {md5 : Int32} (et : h5 v.t = some (.inr (0, [.int md5, .ref q5, .int (nI (g.n + 1))]))) (ed : h5 q5 = some (aO Y N fd5)) (hf : ∀ j, j < g.n → fd5 j = v.fd j) (hfn : fd5 g.n = some z1) (hN : g.n < N ∧ 10 ≤ N ∧ N ≤ 100)
    {L : Nat → Option Nat} {ch ds : Nat → Nat} (hL : L = llF g) (hch : ∀ i, i < g.n + 1 → ch i = chN (ppF g) (g.n + 1) i) (hds : ∀ i, i < g.n + 1 → ds i = dsN (ppF g) (g.n + 1) i)
    (hE : EvS (g.n + 1) (stPaw g k0 n0 z) (uN v.ev g.n z1) (uN v.sc g.n q2) L ch ds h7) (hF : FrE (g.n + 1) (uN v.ev g.n z1) h5 h7) (hE5 : ∀ i, i < g.n + 1 → ∃ fs, h5 (uN v.ev g.n z1 i) = some (.inr (1, fs))) :
    RepC Y x (v.t, q5, N, md5, uN v.ev g.n z1, uN v.sc g.n q2, uN v.pl g.n pa, fd5, fun i => if i = g.n then fp2 else v.fp i) (stPaw g k0 n0 z) Z (hup h7 x (.inr (3, [.ref v.t, .ref z1]))) := by
  have h1 := iv.n1
  have h2 := iv.now
  have hk7 : ∀ b e, h5 b = some e → (∀ fs, e ≠ .inr (1, fs)) → h7 b = some e := fun b e hb hne => by
    rw [hF b (fun i hi => by
      obtain ⟨fs, hfs⟩ := hE5 i hi
      exact ne_of hb hfs (hne _))]
    exact hb
  have hx5 : h5 x = some (.inr (3, [.ref v.t, .ref (v.ev g.now)])) := hk _ _ (ne_of r.x r.t (fun z => by cases z)) (ne_of r.x r.d (fun z => by cases z)) r.x
  have hx := hk7 _ _ hx5 (fun fs z => by cases z)
  have hu : ∀ b e, h7 b = some e → (∀ fs, e ≠ .inr (3, fs)) → hup h7 x (.inr (3, [.ref v.t, .ref z1])) b = some e := fun b e hb hne => (hup_ne (ne_of hb hx (hne _))).trans hb
  have sc5 : ∀ fs b, h4 b = some (.inr (2, fs)) → hup h7 x (.inr (3, [.ref v.t, .ref z1])) b = some (.inr (2, fs)) := fun fs b hb => hu _ _ (hk7 _ _ (hk b _ (ne_of hb r.t (fun z => by cases z)) (ne_of hb r.d (fun z => by cases z)) hb) (fun fs z => by cases z)) (fun fs z => by cases z)
  have pl5 : ∀ n f b, b ≠ v.d → h4 b = some (aI Y n f) → hup h7 x (.inr (3, [.ref v.t, .ref z1])) b = some (aI Y n f) := fun n f b hbd hb => hu _ _ (hk7 _ _ (hk b _ (ne_of hb r.t (fun z => by cases z)) hbd hb) (fun fs z => by cases z)) (fun fs z => by cases z)
  refine ⟨?_, hu _ _ (hk7 _ _ et (fun fs z => by cases z)) (fun fs z => by cases z), hu _ _ (hk7 _ _ ed (fun fs z => by cases z)) (fun fs z => by cases z), ⟨by show g.n + 1 ≤ N; omega, hN.2⟩, fun i hi => ?_, fun i hi => ?_, fun i hi => ?_, fun i hi => ?_, fun i q hi hq => ?_, fun i j hi hj e => hE.2.1 i j hi hj e, fun i hi => ?_⟩
  · show hup h7 x _ x = some (.inr (3, [.ref v.t, .ref (uN v.ev g.n z1 g.n)]))
    rw [hup_eq, show uN v.ev g.n z1 g.n = z1 from if_pos rfl]
  · have hi' : i < g.n + 1 := hi
    show fd5 i = some (uN v.ev g.n z1 i)
    rcases Nat.lt_succ_iff_lt_or_eq.mp hi' with q | q
    · rw [hf i q, r.fd q, show uN v.ev g.n z1 i = v.ev i from if_neg (by omega)]
    · rw [q, hfn, show uN v.ev g.n z1 g.n = z1 from if_pos rfl]
  · refine hu _ _ ?_ (fun fs z => by cases z)
    have hi' : i < g.n + 1 := hi
    have := hE.1 i hi'
    unfold evG at this
    rw [hch i hi', hds i hi', hL] at this
    exact this
  · have hi' : i < g.n + 1 := hi
    show hup h7 x _ (uN v.sc g.n q2 i) = some (.inr (2, [.int (nI (uN g.ct g.n z.1 i)), .ref (uN v.pl g.n pa i), .int (nI (uN g.lb g.n z.2.2 i))]))
    unfold uN
    rcases Nat.lt_succ_iff_lt_or_eq.mp hi' with q | q
    · simp only [if_neg (show ¬ i = g.n by omega)]
      exact sc5 _ _ (r.sc q)
    · simp only [if_pos q]
      exact sc5 _ _ es
  · have hi' : i < g.n + 1 := hi
    show hup h7 x _ (uN v.pl g.n pa i) = some (aI Y g.np (if i = g.n then fp2 else v.fp i))
    unfold uN
    rcases Nat.lt_succ_iff_lt_or_eq.mp hi' with q | q
    · simp only [if_neg (show ¬ i = g.n by omega)]
      exact pl5 _ _ _ (ne_of (r.pl q) r.d aIO) (r.pl q)
    · simp only [if_pos q]
      exact pl5 _ _ _ hpd ep
  · have hi' : i < g.n + 1 := hi
    show (if i = g.n then fp2 else v.fp i) q = nI (uF g.pos g.n z.2.1 i q)
    unfold uF
    rcases Nat.lt_succ_iff_lt_or_eq.mp hi' with w | w
    · simp only [if_neg (show ¬ i = g.n by omega)]
      exact r.fp w hq
    · simp only [if_pos w]
      exact ef q hq
  · have hi' : i < g.n + 1 := hi
    show ¬ Z (uN v.pl g.n pa i)
    unfold uN
    rcases Nat.lt_succ_iff_lt_or_eq.mp hi' with w | w
    · rw [if_neg (by omega)]; exact r.z w
    · rw [if_pos w]; exact hZ
set_option maxRecDepth 100000 in
set_option maxHeartbeats 4000000 in
theorem K_X2_paw (l : Launch) (Y : YG) (hfl : l.stackTraces = false) {x : Nat} {v : Vw} {g : Sg} {Z : Nat → Prop} {h : AH} (r : RepC Y x v g Z h) (iv : Inv g) (hZ : ∀ a, Z a → h a ≠ none) (k0 n0 : Int32) : MX l Y yX2_paw cX2_paw 5 (some .int) 7 176 4 140 [.ref x, .int k0, .int n0] h (fun vv h2 => ispB k0 n0 = true ∧ g.n < 60 ∧ vv = some (.int (nI g.n)) ∧ ∃ z v2, pawO g k0 n0 = some z ∧ RepC Y x v2 (stPaw g k0 n0 z) Z h2 ∧ FrK Y h h2) (fun E h2 => Ext h h2 ∧ ((ispB k0 n0 = false ∧ E = sIA) ∨ (ispB k0 n0 = true ∧ (pawO g k0 n0 = none ∨ g.n = 60) ∧ E = sIS))) := by
  have hn60 := iv.n60
  have hnp16 := iv.np
  have hnow := iv.now
  refine MX.of (by decide +kernel) (Nat.le_of_ble_eq_true rfl) ?_
  intro p e s m args0 below meth c C hr hout hnm
  refine g_aload_n C dX2_paw_0 rfl (by first | rfl | exact isR_rf _) ?_
  refine g_iload_n C dX2_paw_1 rfl ?_
  refine g_iload_n C dX2_paw_2 rfl ?_
  refine g_callVX C (K_X2_sceneAfter l Y hfl r iv k0 n0) ok_X2_sceneAfter w624 (r.x) rfl rfl rfl dX2_paw_3 (Nat.le_of_ble_eq_true rfl) (Nat.le_of_ble_eq_true rfl) (Nat.le_of_ble_eq_true rfl) (Nat.le_of_ble_eq_true rfl) (Nat.le_of_ble_eq_true rfl) (fun E h2 q => g_out C hout (⟨fun a e he => by rw [q.1]; exact he, Or.inl q.2⟩) (by omega) (by omega)) (ofBR (fun eb rr h2 e2 => ?_))
  rcases hz : pawO g k0 n0 with _ | z
  · rw [hz] at e2
    obtain ⟨rfl, rfl⟩ := e2
    refine g_astore_n C dX2_paw_6 (by decide) rfl ?_
    refine g_aload_n C dX2_paw_7 rfl rfl ?_
    refine g_ifnonnullN C dX2_paw_8 ?_
    exact g_throwS C hfl hout okT_48 (tf_ca_IllegalStateException C) (tf_s75 C) dX2_paw_11 dX2_paw_14 dX2_paw_15 dX2_paw_17 dX2_paw_20 (Nat.le_of_ble_eq_true rfl) (Nat.le_of_ble_eq_true rfl) (Nat.le_of_ble_eq_true rfl) (Nat.le_of_ble_eq_true rfl) (Nat.le_of_ble_eq_true rfl) (Nat.le_of_ble_eq_true rfl) (⟨fun _ _ z => z, Or.inr ⟨eb, Or.inl rfl, rfl⟩⟩)
  rw [hz] at e2
  obtain ⟨q2, pa, fp2, rfl, hq2, e3, e4, e5, e6, e7⟩ := e2
  rw [rf_some]
  have r2 := r.ext e7
  refine g_astore_n C dX2_paw_6 (by decide) (by first | rfl | exact isR_rf _) ?_
  refine g_aload_n C dX2_paw_7 rfl (by first | rfl | exact isR_rf _) ?_
  refine g_ifnonnull C (tgt := 21) dX2_paw_8 (by decide) ?_
  refine g_aload_n C dX2_paw_21 rfl (by first | rfl | exact isR_rf _) ?_
  refine gf_X2_26 C (r2.x) rfl dX2_paw_22 ?_
  refine g_callF C (na := 0) (x := nL_size) ((K_Jx4a65c_size_8abf5 l Y r2.t).K) (tf_Fsize C) w290 w293 w295 w6 w297 (by exact ⟨by decide, by decide, by decide +kernel⟩) (r2.t) rfl rfl rfl dX2_paw_25 (Nat.le_of_ble_eq_true rfl) (Nat.le_of_ble_eq_true rfl) (Nat.le_of_ble_eq_true rfl) (Nat.le_of_ble_eq_true rfl) (Nat.le_of_ble_eq_true rfl) (ofS ?_)
  refine g_bipush C (v := nI 60) dX2_paw_30 (by decide) ?_
  refine g_icmp_ltN C (tgt := 45) dX2_paw_32 (by decide) (by omega) (by omega) (fun q1 => ?_) (fun q1 => ?_)
  · refine cn_X2_7 C dX2_paw_45 (Nat.le_of_ble_eq_true rfl) (Nat.le_of_ble_eq_true rfl) (fun z1 hz1 => ?_)
    have r3 := r2.ext (Ext.new (e := .inr (1, [.null, .int 0, .int 0, .int 0, .int 0, .null, .null, .int 0, .int 0])) hz1)
    refine g_dup C dX2_paw_48 (by first | rfl | exact cat_rf _) ?_
    refine g_aload_n C dX2_paw_49 rfl (by first | rfl | exact isR_rf _) ?_
    refine gf_X2_19 C (r3.x) rfl dX2_paw_50 ?_
    refine g_aload_n C dX2_paw_53 rfl (by first | rfl | exact isR_rf _) ?_
    refine gf_X2_26 C (r3.x) rfl dX2_paw_54 ?_
    refine g_callF C (na := 0) (x := nL_size) ((K_Jx4a65c_size_8abf5 l Y r3.t).K) (tf_Fsize C) w290 w293 w295 w6 w297 (by exact ⟨by decide, by decide, by decide +kernel⟩) (r3.t) rfl rfl rfl dX2_paw_57 (Nat.le_of_ble_eq_true rfl) (Nat.le_of_ble_eq_true rfl) (Nat.le_of_ble_eq_true rfl) (Nat.le_of_ble_eq_true rfl) (Nat.le_of_ble_eq_true rfl) (ofS ?_)
    refine g_iload_n C dX2_paw_62 rfl ?_
    refine g_iload_n C dX2_paw_63 rfl ?_
    refine g_aload_n C dX2_paw_64 rfl (by first | rfl | exact isR_rf _) ?_
    refine g_callI C ((K_X0_init_new l Y hup_eq (r3.ev hnow) (fun q => by have := r2.ev hnow; rw [q, hz1] at this; cases this)).K) ok_X0_init w50 rfl rfl dX2_paw_65 (Nat.le_of_ble_eq_true rfl) (Nat.le_of_ble_eq_true rfl) (Nat.le_of_ble_eq_true rfl) (Nat.le_of_ble_eq_true rfl) (Nat.le_of_ble_eq_true rfl) (ofV (fun h4 e4x => ?_))
    rw [hup_hup] at e4x
    have r4 : RepC Y x v g Z h4 := r2.ext (by rw [e4x]; exact Ext.new hz1)
    have hz4 : h4 z1 = some (.inr (1, [.ref (v.ev g.now), .int (nI g.n), .int k0, .int n0, .int (nI (g.dp g.now + 1)), .ref q2, .null, .int 0, .int 0])) := by rw [e4x]; exact hup_eq
    have x4 : Ext h2 h4 := by rw [e4x]; exact Ext.new hz1
    have hzn : ∀ i, i < g.n → v.ev i ≠ z1 := fun i hi q => by have := r2.ev hi; rw [q, hz1] at this; cases this
    refine g_astore C dX2_paw_68 (by decide) (by first | rfl | exact isR_rf _) ?_
    refine g_aload_n C dX2_paw_70 rfl (by first | rfl | exact isR_rf _) ?_
    refine gf_X2_26 C (r4.x) rfl dX2_paw_71 ?_
    refine g_aload C dX2_paw_74 rfl (by first | rfl | exact isR_rf _) ?_
    refine g_callF C (na := 1) (x := nL_add) ((K_Jx4a65c_add_9ea2d l Y r4.t r4.d hz4 (fun i hi y hy => by rw [r4.fd hi] at hy; cases hy; exact ⟨_, r4.ev hi⟩) q1 r4.cap.1 r4.cap.2.1 r4.cap.2.2).K) (tf_Fadd C) w118 w122 w124 w6 w126 (by exact ⟨by decide, by decide, by decide +kernel⟩) (r4.t) rfl rfl rfl dX2_paw_76 (Nat.le_of_ble_eq_true rfl) (Nat.le_of_ble_eq_true rfl) (Nat.le_of_ble_eq_true rfl) (Nat.le_of_ble_eq_true rfl) (Nat.le_of_ble_eq_true rfl) (ofI (fun rr h5 e5x => ?_))
    obtain ⟨-, q5, N, fd5, md5, f1, f2, f3, f4, f5, f6, f7, f8, f9⟩ := e5x
    have hE := paw_evs r4 iv (z := z) hz4 hzn f9
    have hn1 : g.n < g.n + 1 := Nat.lt_succ_self _
    have hzz : uN v.ev g.n z1 g.n = z1 := if_pos rfl
    have hpn : 0 < g.n := by omega
    have K6 := K_X0_countAbove l Y hE hn1 hpn
    rw [hzz] at K6
    have hE6 := hE.1 g.n hn1
    rw [hzz] at hE6
    refine g_pop C dX2_paw_81 (by first | rfl | exact cat_rf _) ?_
    refine g_aload C dX2_paw_82 rfl (by first | rfl | exact isR_rf _) ?_
    refine g_callV C (K6.K) ok_X0_countAbove w683 (hE6) rfl rfl rfl dX2_paw_84 (Nat.le_of_ble_eq_true rfl) (Nat.le_of_ble_eq_true rfl) (Nat.le_of_ble_eq_true rfl) (Nat.le_of_ble_eq_true rfl) (Nat.le_of_ble_eq_true rfl) (ofV (fun h6 e6x => ?_))
    obtain ⟨hE6', hF6⟩ := e6x
    have K7 := K_X0_pointToFromAbove l Y hE6' hn1
    rw [hzz] at K7
    have hE7 := hE6'.1 g.n hn1
    rw [hzz] at hE7
    refine g_aload C dX2_paw_87 rfl (by first | rfl | exact isR_rf _) ?_
    refine g_callV C (K7.K) ok_X0_pointToFromAbove w343 (hE7) rfl rfl rfl dX2_paw_89 (Nat.le_of_ble_eq_true rfl) (Nat.le_of_ble_eq_true rfl) (Nat.le_of_ble_eq_true rfl) (Nat.le_of_ble_eq_true rfl) (Nat.le_of_ble_eq_true rfl) (ofV (fun h7 e7x => ?_))
    obtain ⟨hE7', hF7⟩ := e7x
    have hF := hF6.tr hF7
    have hE5 : ∀ i, i < g.n + 1 → ∃ fs, h5 (uN v.ev g.n z1 i) = some (.inr (1, fs)) := fun i hi => ⟨_, hE.1 i hi⟩
    have hfr : FrK Y h h7 := (Ext.K (Ext.tr e7 x4)).tr (FrK.tr (fun a e he hk => f9 a e (ne_of he r4.t (fun z => by rw [z] at hk; cases hk)) (ne_of he r4.d (fun z => by rw [z] at hk; exact absurd hk (by simp [keepK]))) he) (hF.K hE))
    have hx7 : h7 x = some (.inr (3, [.ref v.t, .ref (v.ev g.now)])) := by
      have hx5 := f9 _ _ (ne_of r4.x r4.t (fun z => by cases z)) (ne_of r4.x r4.d (fun z => by cases z)) r4.x
      rw [hF x (fun i hi => by
        obtain ⟨fs, hfs⟩ := hE5 i hi
        exact ne_of hx5 hfs (fun z => by cases z))]
      exact hx5
    have hz7 := hE7'.1 g.n hn1
    rw [hzz] at hz7
    have hpd : pa ≠ v.d := ne_of (x4 _ _ e4) r4.d aIO
    have hZp : ¬ Z pa := fun q => by
      rcases e6 with e6 | e6
      · rw [e6] at q; exact r.z hnow q
      · exact hZ _ q e6
    have hrep := paw_rep (k0 := k0) (n0 := n0) (z := z) r4 iv f9 (x4 _ _ e3) (x4 _ _ e4) e5 hZp hpd f1 f2 f3 f4 ⟨f5, f6, f7⟩ (pt_new iv) (fun i hi => by rw [show (stPaw g k0 n0 z).par g.n = g.now from pp_n]; exact paw_ch iv hi) (fun i hi => paw_ds iv hi) hE7' hF hE5
    refine g_aload_n C dX2_paw_92 rfl (by first | rfl | exact isR_rf _) ?_
    refine g_aload C dX2_paw_93 rfl (by first | rfl | exact isR_rf _) ?_
    refine pf_X2_19 C (hx7) (Nat.le_of_ble_eq_true rfl) (by first | rfl | exact isR_rf _) dX2_paw_95 ?_
    refine g_aload C dX2_paw_98 rfl (by first | rfl | exact isR_rf _) ?_
    refine gf_X2_85 C ((hup_ne (ne_of hz7 hx7 (fun z => by cases z))).trans hz7) rfl dX2_paw_100 ?_
    exact g_iret C hr dX2_paw_103 (Nat.le_of_ble_eq_true rfl) (Nat.le_of_ble_eq_true rfl) (⟨eb, q1, rfl, z, _, rfl, hrep, hfr.tr (FrK.up hx7 rfl)⟩)
  · exact g_throwS C hfl hout okT_48 (tf_ca_IllegalStateException C) (tf_s77 C) dX2_paw_35 dX2_paw_38 dX2_paw_39 dX2_paw_41 dX2_paw_44 (Nat.le_of_ble_eq_true rfl) (Nat.le_of_ble_eq_true rfl) (Nat.le_of_ble_eq_true rfl) (Nat.le_of_ble_eq_true rfl) (Nat.le_of_ble_eq_true rfl) (Nat.le_of_ble_eq_true rfl) (⟨e7, Or.inr ⟨eb, Or.inr (by omega), rfl⟩⟩)
set_option maxRecDepth 100000 in
set_option maxHeartbeats 4000000 in
theorem K_X2_init (l : Launch) (Y : YG) {x : Nat} {Z : Nat → Prop} {h : AH} (hx : h x = some (.inr (3, [.null, .null]))) (hZ : ∀ a, Z a → h a ≠ none) : MX l Y yX2_init cX2_init 1 none 7 176 5 120 [.ref x] h (pV (fun h2 => ∃ v2, RepC Y x v2 st0 Z h2 ∧ ∀ a e, a ≠ x → h a = some e → h2 a = some e)) (noX) := by
  refine MX.of (by decide +kernel) (Nat.le_of_ble_eq_true rfl) ?_
  intro p e s m args0 below meth c C hr hout hnm
  refine g_aload_n C dX2_init_0 rfl (by first | rfl | exact isR_rf _) ?_
  refine g_objinit C w26 w27 w_oi dX2_init_1 (Nat.le_of_ble_eq_true rfl) (Nat.le_of_ble_eq_true rfl) ?_
  refine g_aload_n C dX2_init_4 rfl (by first | rfl | exact isR_rf _) ?_
  refine cn_X2_7 C dX2_init_5 (by show _ ≤ 5; omega) (by show _ ≤ 120; omega) (fun ev hev => ?_)
  skip
  refine g_dup C dX2_init_8 (by first | rfl | exact cat_rf _) ?_
  refine g_null C dX2_init_9 ?_
  refine g_iconst C (v := nI 0) dX2_init_10 (by decide) ?_
  refine g_iconst C (v := (-1)) dX2_init_11 (by decide) ?_
  refine g_iconst C (v := (-1)) dX2_init_12 (by decide) ?_
  refine cn_X2_11 C dX2_init_13 (by show _ ≤ 5; omega) (by show _ ≤ 120; omega) (fun sc hsc => ?_)
  refine g_dup C dX2_init_16 (by first | rfl | exact cat_rf _) ?_
  refine g_iconst C (v := nI 0) dX2_init_17 (by decide) ?_
  refine g_iconst C (v := nI 0) dX2_init_18 (by decide) ?_
  refine g_newI C (N := 0) rfl (by omega) w49 (by show _ ≤ 5; omega) (by show _ ≤ 120; omega) dX2_init_19 (fun pl hpl => ?_)
  refine g_iconst C (v := nI 0) dX2_init_21 (by decide) ?_
  refine g_callI C ((K_X1_init l Y (hup_old hpl hup_eq)).K) ok_X1_init w33 rfl rfl dX2_init_22 (Nat.le_of_ble_eq_true rfl) (Nat.le_of_ble_eq_true rfl) (Nat.le_of_ble_eq_true rfl) (by show _ ≤ 5; omega) (by show _ ≤ 120; omega) (ofV (fun h2 e2 => ?_))
  refine g_callI C ((K_X0_init_root l Y (by rw [e2]; exact (hup_ne (fun q => by rw [q, hup_eq] at hsc; cases hsc)).trans (hup_old hpl (hup_old hsc hup_eq)))).K) ok_X0_init w50 rfl rfl dX2_init_25 (Nat.le_of_ble_eq_true rfl) (Nat.le_of_ble_eq_true rfl) (Nat.le_of_ble_eq_true rfl) (by show _ ≤ 5; omega) (by show _ ≤ 120; omega) (ofV (fun h3 e3 => ?_))
  have hxe : x ≠ ev := fun q => by rw [q, hev] at hx; cases hx
  have n1 : ∀ a e, h a = some e → h3 a = some e := fun a e he => by
    rw [e3, hup_ne (fun q => by rw [q, hev] at he; cases he), e2, hup_ne (fun q => by have := hup_old (e := .inr (1, [.null, .int 0, .int 0, .int 0, .int 0, .null, .null, .int 0, .int 0])) hev he; rw [q, hsc] at this; cases this)]
    exact hup_old hpl (hup_old hsc (hup_old hev he))
  have hes : ev ≠ sc := fun q => by rw [← q, hup_eq] at hsc; cases hsc
  have c3 : h3 ev = some (.inr (1, [.null, .int (nI 0), .int (-1), .int (-1), .int (nI 0), .ref sc, .null, .int 0, .int 0])) := by rw [e3]; exact hup_eq
  have s3 : h3 sc = some (.inr (2, [.int (nI 0), .ref pl, .int (nI 0)])) := by rw [e3, hup_ne (Ne.symm hes), e2]; exact hup_eq
  have hpe : pl ≠ ev := fun q => by rw [q] at hpl; rw [hup_old hsc hup_eq] at hpl; cases hpl
  have hps : pl ≠ sc := fun q => by rw [q, hup_eq] at hpl; cases hpl
  have p3 : h3 pl = some (aI Y 0 (fun _ => 0)) := by rw [e3, hup_ne hpe, e2, hup_ne hps]; exact hup_eq
  have hpn : h pl = none := by
    cases hq : h pl with
    | none => rfl
    | some w =>
      have := hup_old (e := .inr (2, [.int 0, .null, .int 0])) hsc (hup_old (e := .inr (1, [.null, .int 0, .int 0, .int 0, .int 0, .null, .null, .int 0, .int 0])) hev hq)
      rw [hpl] at this
      cases this
  refine pf_X2_19 C (n1 _ _ hx) (Nat.le_of_ble_eq_true rfl) (by first | rfl | exact isR_rf _) dX2_init_28 ?_
  refine g_aload_n C dX2_init_31 rfl (by first | rfl | exact isR_rf _) ?_
  refine cn_X2_23 C dX2_init_32 (by show _ ≤ 5; omega) (by show _ ≤ 120; omega) (fun tt htt => ?_)
  have x4 := (hup_eq (h := h3) (a := x) (e := .inr (3, [.null, .ref ev])))
  have hx3 := n1 _ _ hx
  have hxtt : x ≠ tt := fun q => by have : hup h3 x (.inr (3, [.null, .ref ev])) x = none := by rw [q] at htt ⊢; exact htt
                                    rw [hup_eq] at this; cases this
  refine g_dup C dX2_init_35 (by first | rfl | exact cat_rf _) ?_
  refine g_callI C ((K_Jx4a65c_init_da8c8 l Y hup_eq).K) ok_Jx4a65c_init_da8c8 w93 rfl rfl dX2_init_36 (Nat.le_of_ble_eq_true rfl) (Nat.le_of_ble_eq_true rfl) (Nat.le_of_ble_eq_true rfl) (by show _ ≤ 5; omega) (by show _ ≤ 120; omega) (ofSv ?_)
  rw [hup_hup]
  refine pf_X2_26 C hnm ((hup_ne hxtt).trans hup_eq) (Nat.le_of_ble_eq_true rfl) (by first | rfl | exact isR_rf _) dX2_init_39 ?_
  refine g_aload_n C dX2_init_42 rfl (by first | rfl | exact isR_rf _) ?_
  refine gf_X2_26 C (hup_eq) rfl dX2_init_43 ?_
  refine g_aload_n C dX2_init_46 rfl (by first | rfl | exact isR_rf _) ?_
  refine gf_X2_19 C (hup_eq) rfl dX2_init_47 ?_
  have k5 : ∀ a e, a ≠ x → h3 a = some e → hup (hup (hup h3 x (.inr (3, [.null, .ref ev]))) tt (.inr (0, [.int 0, .ref Y.tE, .int 0]))) x (.inr (3, [.ref tt, .ref ev])) a = some e := fun a e ha he => (hup_ne ha).trans (hup_old htt ((hup_ne ha).trans he))
  have hex3 : ev ≠ x := Ne.symm hxe
  refine g_callF C (na := 1) (x := nL_add) ((K_add_first l Y ((hup_ne (Ne.symm hxtt)).trans hup_eq) (k5 _ _ hex3 c3)).K) (tf_Fadd C) w118 w122 w124 w6 w126 (by exact ⟨by decide, by decide, by decide +kernel⟩) ((hup_ne (Ne.symm hxtt)).trans hup_eq) rfl rfl rfl dX2_init_50 (Nat.le_of_ble_eq_true rfl) (Nat.le_of_ble_eq_true rfl) (Nat.le_of_ble_eq_true rfl) (by show _ ≤ 5; omega) (by show _ ≤ 120; omega) (ofI (fun rr h6 e6 => ?_))
  obtain ⟨-, d6, md6, g1, g2, g3⟩ := e6
  have hdx : d6 ≠ x := fun q => by rw [q, hup_eq] at g1; cases g1
  have hxd : x ≠ d6 := Ne.symm hdx
  have k6 : ∀ a e, a ≠ x → h3 a = some e → h6 a = some e := fun a e ha he => by
    have h5 := k5 a e ha he
    rw [g3, hup_ne (fun q => by have := (hup_ne (h := h3) (e := .inr (3, [.null, .ref ev])) ha).trans he; rw [q] at this; cases (this.symm.trans htt))]
    exact hup_old g1 h5
  have x6 : h6 x = some (.inr (3, [.ref tt, .ref ev])) := by rw [g3, hup_ne hxtt, hup_ne hxd]; exact hup_eq
  have t6 : h6 tt = some (.inr (0, [.int md6, .ref d6, .int (nI 1)])) := by rw [g3]; exact hup_eq
  have dd6 : h6 d6 = some (aO Y 10 (va_up (fun _ => none) 0 (some ev))) := by rw [g3, hup_ne g2]; exact hup_eq
  have hsx : sc ≠ x := ne_of s3 hx3 (fun z => by cases z)
  have hpx : pl ≠ x := ne_of p3 hx3 (fun z => by cases z)
  refine g_pop C dX2_init_55 (by first | rfl | exact cat_rf _) ?_
  exact g_vret C hr dX2_init_56 (by omega) (by omega) (⟨rfl, (tt, d6, 10, md6, fun _ => ev, fun _ => sc, fun _ => pl, va_up (fun _ => none) 0 (some ev), fun _ _ => 0), ⟨x6, t6, dd6, ⟨(show 1 ≤ 10 by decide), (show 10 ≤ 10 by decide), (show 10 ≤ 100 by decide)⟩, fun i hi => by
      have : i = 0 := Nat.lt_one_iff.mp hi
      rw [this]
      show va_up (fun _ => none) 0 (some ev) 0 = some ev
      exact va_up_self _ _ _, fun i hi => by
      have : i = 0 := Nat.lt_one_iff.mp hi
      rw [this]; exact k6 _ _ hex3 c3, fun i hi => k6 _ _ hsx s3, fun i hi => k6 _ _ hpx p3, fun i q hi hq => absurd hq (Nat.not_lt_zero q), fun i j hi hj e => (Nat.lt_one_iff.mp hi).trans (Nat.lt_one_iff.mp hj).symm, fun i hi hz => hZ _ hz hpn⟩, fun a e ha he => k6 a e ha (n1 a e he)⟩)
