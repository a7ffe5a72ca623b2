/-- an evening's cell, whatever the counts and pointers are -/
abbrev evG (g : Sg) (ev sc : Nat → Nat) (L : Nat → Option Nat) (ch ds : Nat → Nat) (i : Nat) : va_E := .inr (1, [va_rf (evP g ev i), .int (nI i), .int (g.kd i), .int (g.nm i), .int (nI (g.dp i)), .ref (sc i), va_rf ((L i).map ev), .int (nI (ch i)), .int (nI (ds i))])
def EvS (N : Nat) (g : Sg) (ev sc : Nat → Nat) (L : Nat → Option Nat) (ch ds : Nat → Nat) (h : AH) : Prop := (∀ i, i < N → h (ev i) = some (evG g ev sc L ch ds i)) ∧ (∀ i j, i < N → j < N → ev i = ev j → i = j) ∧ Tr g.par
theorem EvS.set {N : Nat} {g : Sg} {ev sc : Nat → Nat} {L L2 : Nat → Option Nat} {ch ds ch2 ds2 : Nat → Nat} {h : AH} (r : EvS N g ev sc L ch ds h) {j : Nat} (hj : j < N) {e : va_E} (he : e = evG g ev sc L2 ch2 ds2 j) (h1 : ∀ i, i ≠ j → L2 i = L i) (h2 : ∀ i, i ≠ j → ch2 i = ch i) (h3 : ∀ i, i ≠ j → ds2 i = ds i) : EvS N g ev sc L2 ch2 ds2 (hup h (ev j) e) := by
  refine ⟨fun i hi => ?_, r.2⟩
  by_cases hij : i = j
  · rw [hij, hup_eq, he]
  · rw [hup_ne (fun z => hij (r.2.1 i j hi hj z)), r.1 i hi]
    unfold evG
    rw [h1 i hij, h2 i hij, h3 i hij]
/-- nothing but evenings' cells changed -/
def FrE (N : Nat) (ev : Nat → Nat) (h h2 : AH) : Prop := ∀ a, (∀ i, i < N → a ≠ ev i) → h2 a = h a
theorem FrE.rf {N : Nat} {ev : Nat → Nat} {h : AH} : FrE N ev h h := fun _ _ => rfl
theorem FrE.set {N : Nat} {ev : Nat → Nat} {h h2 : AH} (r : FrE N ev h h2) {j : Nat} {e : va_E} (hj : j < N) : FrE N ev h (hup h2 (ev j) e) := fun a ha => (hup_ne (ha j hj)).trans (r a ha)
theorem FrE.tr {N : Nat} {ev : Nat → Nat} {h h2 h3 : AH} (r : FrE N ev h h2) (q : FrE N ev h2 h3) : FrE N ev h h3 := fun a ha => (q a ha).trans (r a ha)
def dsF (par : Nat → Nat) : Nat → Nat → (Nat → Nat) → (Nat → Nat)
  | 0, _, D => D
  | f + 1, e, D => if e = 0 then D else dsF par f (par e) (uN D (par e) (D (par e) + 1))
theorem dsF_at {par : Nat → Nat} (ht : Tr par) : ∀ (f e : Nat) (D : Nat → Nat), e ≤ f → ∀ i, dsF par f e D i = D i + (if decide (i < e) && an par i e then 1 else 0) := by
  intro f
  induction f with
  | zero =>
    intro e D h i
    have : e = 0 := by omega
    subst this
    simp [dsF]
  | succ f ih =>
    intro e D h i
    simp only [dsF]
    by_cases h0 : e = 0
    · subst h0
      simp
    · have hp := ht.2 e (by omega)
      rw [if_neg h0, ih (par e) _ (by omega) i]
      by_cases hi : i = par e
      · subst hi
        simp [uN, hp, an_par ht e]
      · have e1 : an par i e = (e == i || an par i (par e)) := an_up ht i (by omega)
        by_cases hie : i < e
        · have e2 : (e == i) = false := by simp; omega
          rw [e1, e2, Bool.false_or]
          simp only [uN, hi, if_false, hie, decide_true, Bool.true_and]
          by_cases hz : an par i (par e) = true
          · have := an_le ht hz
            rw [hz, decide_eq_true (by omega : i < par e)]
            rfl
          · rw [Bool.eq_false_iff.mpr hz, Bool.and_false]
        · have hz : an par i (par e) = false := by
            cases hz : an par i (par e) with
            | false => rfl
            | true =>
              have := an_le ht hz
              omega
          simp [uN, hi, hie, hz]
set_option maxRecDepth 100000 in
set_option maxHeartbeats 4000000 in
theorem K_X0_init_root (l : Launch) (Y : YG) {z q : Nat} {a b c : Int32} {h : AH} (hz : h z = some (.inr (1, [.null, .int 0, .int 0, .int 0, .int 0, .null, .null, .int 0, .int 0]))) : MX l Y yX0_init cX0_init 6 none 1 20 0 0 [.ref z, .null, .int a, .int b, .int c, .ref q] h (pV (fun h' => h' = hup h z (.inr (1, [.null, .int a, .int b, .int c, .int (nI 0), .ref q, .null, .int 0, .int 0])))) (noX) := by
  refine MX.of (by decide +kernel) (Nat.le_of_ble_eq_true rfl) ?_
  intro p e s m args0 below meth c C hr hout hnm
  refine g_aload_n C dX0_init_0 rfl (by first | rfl | exact isR_rf _) ?_
  refine g_objinit C w53 w27 w_oi dX0_init_1 (Nat.le_of_ble_eq_true rfl) (Nat.le_of_ble_eq_true rfl) ?_
  refine g_aload_n C dX0_init_4 rfl (by first | rfl | exact isR_rf _) ?_
  refine g_aload_n C dX0_init_5 rfl (by first | rfl | exact isR_rf _) ?_
  refine pf_X0_7 C hnm (hz) (Nat.le_of_ble_eq_true rfl) (by first | rfl | exact isR_rf _) dX0_init_6 ?_
  refine g_aload_n C dX0_init_9 rfl (by first | rfl | exact isR_rf _) ?_
  refine g_iload_n C dX0_init_10 rfl ?_
  refine pf_X0_13 C hnm (hup_eq) (Nat.le_of_ble_eq_true rfl) dX0_init_11 ?_
  refine g_aload_n C dX0_init_14 rfl (by first | rfl | exact isR_rf _) ?_
  refine g_iload_n C dX0_init_15 rfl ?_
  refine pf_X0_17 C hnm (hup_eq) (Nat.le_of_ble_eq_true rfl) dX0_init_16 ?_
  refine g_aload_n C dX0_init_19 rfl (by first | rfl | exact isR_rf _) ?_
  refine g_iload C dX0_init_20 rfl ?_
  refine pf_X0_20 C hnm (hup_eq) (Nat.le_of_ble_eq_true rfl) dX0_init_22 ?_
  refine g_aload_n C dX0_init_25 rfl (by first | rfl | exact isR_rf _) ?_
  refine g_aload_n C dX0_init_26 rfl (by first | rfl | exact isR_rf _) ?_
  refine g_ifnonnullN C dX0_init_27 ?_
  refine g_iconst C (v := nI 0) dX0_init_30 (by decide) ?_
  refine g_goto C (tgt := 40) dX0_init_31 (by decide) ?_
  refine pf_X0_23 C hnm (hup_eq) (Nat.le_of_ble_eq_true rfl) dX0_init_40 ?_
  refine g_aload_n C dX0_init_43 rfl (by first | rfl | exact isR_rf _) ?_
  refine g_aload C dX0_init_44 rfl (by first | rfl | exact isR_rf _) ?_
  refine pf_X0_26 C (hup_eq) (Nat.le_of_ble_eq_true rfl) (by first | rfl | exact isR_rf _) dX0_init_46 ?_
  exact g_vret C hr dX0_init_49 (Nat.le_of_ble_eq_true rfl) (Nat.le_of_ble_eq_true rfl) (⟨rfl, by simp only [hup_hup]; rfl⟩)
set_option maxRecDepth 100000 in
set_option maxHeartbeats 4000000 in
theorem K_X0_init_new (l : Launch) (Y : YG) {z q r d : Nat} {a b c : Int32} {h : AH} {l0 k0 n0 c0 e0 : Int32} {s0 p0 q0 : Value} (hz : h z = some (.inr (1, [.null, .int 0, .int 0, .int 0, .int 0, .null, .null, .int 0, .int 0]))) (hr0 : h r = some (.inr (1, [p0, .int l0, .int k0, .int n0, .int (nI d), s0, q0, .int c0, .int e0]))) (hrz : r ≠ z) : MX l Y yX0_init cX0_init 6 none 1 20 0 0 [.ref z, .ref r, .int a, .int b, .int c, .ref q] h (pV (fun h' => h' = hup h z (.inr (1, [.ref r, .int a, .int b, .int c, .int (nI (d + 1)), .ref q, .null, .int 0, .int 0])))) (noX) := by
  refine MX.of (by decide +kernel) (Nat.le_of_ble_eq_true rfl) ?_
  intro p e s m args0 below meth c C hr hout hnm
  refine g_aload_n C dX0_init_0 rfl (by first | rfl | exact isR_rf _) ?_
  refine g_objinit C w53 w27 w_oi dX0_init_1 (Nat.le_of_ble_eq_true rfl) (Nat.le_of_ble_eq_true rfl) ?_
  refine g_aload_n C dX0_init_4 rfl (by first | rfl | exact isR_rf _) ?_
  refine g_aload_n C dX0_init_5 rfl (by first | rfl | exact isR_rf _) ?_
  refine pf_X0_7 C hnm (hz) (Nat.le_of_ble_eq_true rfl) (by first | rfl | exact isR_rf _) dX0_init_6 ?_
  refine g_aload_n C dX0_init_9 rfl (by first | rfl | exact isR_rf _) ?_
  refine g_iload_n C dX0_init_10 rfl ?_
  refine pf_X0_13 C hnm (hup_eq) (Nat.le_of_ble_eq_true rfl) dX0_init_11 ?_
  refine g_aload_n C dX0_init_14 rfl (by first | rfl | exact isR_rf _) ?_
  refine g_iload_n C dX0_init_15 rfl ?_
  refine pf_X0_17 C hnm (hup_eq) (Nat.le_of_ble_eq_true rfl) dX0_init_16 ?_
  refine g_aload_n C dX0_init_19 rfl (by first | rfl | exact isR_rf _) ?_
  refine g_iload C dX0_init_20 rfl ?_
  refine pf_X0_20 C hnm (hup_eq) (Nat.le_of_ble_eq_true rfl) dX0_init_22 ?_
  refine g_aload_n C dX0_init_25 rfl (by first | rfl | exact isR_rf _) ?_
  refine g_aload_n C dX0_init_26 rfl (by first | rfl | exact isR_rf _) ?_
  refine g_ifnonnull C (tgt := 34) dX0_init_27 (by decide) ?_
  refine g_aload_n C dX0_init_34 rfl (by first | rfl | exact isR_rf _) ?_
  refine gf_X0_23 C ((hup_ne hrz).trans ((hup_ne hrz).trans ((hup_ne hrz).trans ((hup_ne hrz).trans (hr0))))) rfl dX0_init_35 ?_
  refine g_iconst C (v := nI 1) dX0_init_38 (by decide) ?_
  first | with_reducible refine g_iaddN C dX0_init_39 ?_ | refine g_iadd C dX0_init_39 ?_
  refine pf_X0_23 C hnm (hup_eq) (Nat.le_of_ble_eq_true rfl) dX0_init_40 ?_
  refine g_aload_n C dX0_init_43 rfl (by first | rfl | exact isR_rf _) ?_
  refine g_aload C dX0_init_44 rfl (by first | rfl | exact isR_rf _) ?_
  refine pf_X0_26 C (hup_eq) (Nat.le_of_ble_eq_true rfl) (by first | rfl | exact isR_rf _) dX0_init_46 ?_
  exact g_vret C hr dX0_init_49 (Nat.le_of_ble_eq_true rfl) (Nat.le_of_ble_eq_true rfl) (⟨rfl, by simp only [hup_hup]; rfl⟩)
set_option maxRecDepth 100000 in
set_option maxHeartbeats 4000000 in
theorem K_X0_above (l : Launch) (Y : YG) {z : Nat} {r : Option Nat} {h : AH} {l0 k0 n0 d0 c0 e0 : Int32} {s0 : Value} {q0 : Value} (hz : h z = some (.inr (1, [va_rf r, .int l0, .int k0, .int n0, .int d0, s0, q0, .int c0, .int e0]))) : MX l Y yX0_above cX0_above 1 (some (.object "CatEvenings$Evening")) 0 0 0 0 [.ref z] h (pS (some (.ref (r.getD z))) h) (noX) := by
  refine MX.of (by decide +kernel) (Nat.le_of_ble_eq_true rfl) ?_
  intro p e s m args0 below meth c C hr hout hnm
  cases r with
  | none =>
    refine g_aload_n C dX0_above_0 rfl (by first | rfl | exact isR_rf _) ?_
    refine gf_X0_7 C (hz) rfl dX0_above_1 ?_
    refine g_ifnonnullN C dX0_above_4 ?_
    refine g_aload_n C dX0_above_7 rfl (by first | rfl | exact isR_rf _) ?_
    refine g_goto C (tgt := 15) dX0_above_8 (by decide) ?_
    exact g_aret C hr (by first | exact Or.inl ⟨_, rfl⟩ | exact Or.inr ⟨_, rfl⟩) (by first | rfl | exact isR_rf _) dX0_above_15 (Nat.le_of_ble_eq_true rfl) (Nat.le_of_ble_eq_true rfl) (⟨rfl, rfl⟩)
  | some r =>
    refine g_aload_n C dX0_above_0 rfl (by first | rfl | exact isR_rf _) ?_
    refine gf_X0_7 C (hz) rfl dX0_above_1 ?_
    refine g_ifnonnull C (tgt := 11) dX0_above_4 (by decide) ?_
    refine g_aload_n C dX0_above_11 rfl (by first | rfl | exact isR_rf _) ?_
    refine gf_X0_7 C (hz) rfl dX0_above_12 ?_
    exact g_aret C hr (by first | exact Or.inl ⟨_, rfl⟩ | exact Or.inr ⟨_, rfl⟩) (by first | rfl | exact isR_rf _) dX0_above_15 (Nat.le_of_ble_eq_true rfl) (Nat.le_of_ble_eq_true rfl) (⟨rfl, rfl⟩)
set_option maxRecDepth 100000 in
set_option maxHeartbeats 4000000 in
theorem K_X0_isEnd (l : Launch) (Y : YG) {z : Nat} {r : Option Nat} {h : AH} {l0 k0 n0 d0 c0 e0 : Int32} {s0 : Value} {q0 : Value} (hz : h z = some (.inr (1, [q0, .int l0, .int k0, .int n0, .int d0, s0, va_rf r, .int c0, .int e0]))) : MX l Y yX0_isEnd cX0_isEnd 1 (some .boolean) 0 0 0 0 [.ref z] h (pS (some (bI r.isNone)) h) (noX) := by
  refine MX.of (by decide +kernel) (Nat.le_of_ble_eq_true rfl) ?_
  intro p e s m args0 below meth c C hr hout hnm
  cases r with
  | none =>
    refine g_aload_n C dX0_isEnd_0 rfl (by first | rfl | exact isR_rf _) ?_
    refine gf_X0_30 C (hz) rfl dX0_isEnd_1 ?_
    refine g_ifnonnullN C dX0_isEnd_4 ?_
    refine g_iconst C (v := nI 1) dX0_isEnd_7 (by decide) ?_
    refine g_goto C (tgt := 12) dX0_isEnd_8 (by decide) ?_
    exact g_zret C hr (by first | exact Or.inl rfl | exact Or.inr rfl) dX0_isEnd_12 (Nat.le_of_ble_eq_true rfl) (Nat.le_of_ble_eq_true rfl) (⟨rfl, rfl⟩)
  | some r =>
    refine g_aload_n C dX0_isEnd_0 rfl (by first | rfl | exact isR_rf _) ?_
    refine gf_X0_30 C (hz) rfl dX0_isEnd_1 ?_
    refine g_ifnonnull C (tgt := 11) dX0_isEnd_4 (by decide) ?_
    refine g_iconst C (v := nI 0) dX0_isEnd_11 (by decide) ?_
    exact g_zret C hr (by first | exact Or.inl rfl | exact Or.inr rfl) dX0_isEnd_12 (Nat.le_of_ble_eq_true rfl) (Nat.le_of_ble_eq_true rfl) (⟨rfl, rfl⟩)
set_option maxRecDepth 100000 in
set_option maxHeartbeats 4000000 in
theorem K_X0_countAbove (l : Launch) (Y : YG) {N : Nat} {g : Sg} {ev sc : Nat → Nat} {L : Nat → Option Nat} {ch ds : Nat → Nat} {h : AH} (hE : EvS N g ev sc L ch ds h) {k : Nat} (hk : k < N) (h0 : 0 < k) : MX l Y yX0_countAbove cX0_countAbove 2 none 0 0 0 0 [.ref (ev k)] h (pV (fun h' => EvS N g ev sc L (uN ch (g.par k) (ch (g.par k) + 1)) (dsF g.par k k ds) h' ∧ FrE N ev h h')) (noX) := by
  refine MX.of (by decide +kernel) (Nat.le_of_ble_eq_true rfl) ?_
  intro p e s m args0 below meth c C hr hout hnm
  have hT := hE.2.2
  have hpk := hT.2 k h0
  have lp : ∀ (f i : Nat) (h2 : AH) (D : Nat → Nat), i ≤ f → i < N → EvS N g ev sc L (uN ch (g.par k) (ch (g.par k) + 1)) D h2 → FrE N ev h h2 → dsF g.par f i D = dsF g.par k k ds → Gd p l e (rmO 0 0 0 0) s m args0 below meth c (vx_MQ below (Qk Y (pV (fun h' => EvS N g ev sc L (uN ch (g.par k) (ch (g.par k) + 1)) (dsF g.par k k ds) h' ∧ FrE N ev h h'))) (Xk Y (noX)) args0 s 0 0 Y.A) Y 2 25 [some (.ref (ev k)), some (va_rf (evP g ev i))] [] h2 0 0 := by
    intro f
    induction f with
    | zero =>
      intro i h2 D hi hN hE2 hF hS
      have : i = 0 := by omega
      subst this
      refine g_aload_n C dX0_countAbove_25 rfl (by first | rfl | exact isR_rf _) ?_
      refine g_ifnullN C (tgt := 47) dX0_countAbove_26 (by decide) ?_
      have e9 : D = dsF g.par k k ds := hS
      rw [e9] at hE2
      exact g_vret C hr dX0_countAbove_47 (Nat.le_of_ble_eq_true rfl) (Nat.le_of_ble_eq_true rfl) (⟨rfl, hE2, hF⟩)
    | succ f ih =>
      intro i h2 D hi hN hE2 hF hS
      by_cases hi0 : i = 0
      · subst hi0
        refine g_aload_n C dX0_countAbove_25 rfl (by first | rfl | exact isR_rf _) ?_
        refine g_ifnullN C (tgt := 47) dX0_countAbove_26 (by decide) ?_
        have e9 : D = dsF g.par k k ds := hS
        rw [e9] at hE2
        exact g_vret C hr dX0_countAbove_47 (Nat.le_of_ble_eq_true rfl) (Nat.le_of_ble_eq_true rfl) (⟨rfl, hE2, hF⟩)
      · have hp := hT.2 i (by omega)
        rw [show evP g ev i = some (ev (g.par i)) from if_neg hi0]
        have hc := hE2.1 (g.par i) (by omega)
        refine g_aload_n C dX0_countAbove_25 rfl (by first | rfl | exact isR_rf _) ?_
        refine g_ifnull C dX0_countAbove_26 ?_
        refine g_aload_n C dX0_countAbove_29 rfl (by first | rfl | exact isR_rf _) ?_
        refine g_dup C dX0_countAbove_30 (by first | rfl | exact cat_rf _) ?_
        refine gf_X0_36 C (hc) rfl dX0_countAbove_31 ?_
        refine g_iconst C (v := nI 1) dX0_countAbove_34 (by decide) ?_
        first | with_reducible refine g_iaddN C dX0_countAbove_35 ?_ | refine g_iadd C dX0_countAbove_35 ?_
        refine pf_X0_36 C (hc) (Nat.le_of_ble_eq_true rfl) dX0_countAbove_36 ?_
        refine g_aload_n C dX0_countAbove_39 rfl (by first | rfl | exact isR_rf _) ?_
        refine gf_X0_7 C (hup_eq) rfl dX0_countAbove_40 ?_
        refine g_astore_n C dX0_countAbove_43 (by decide) (isR_rf _) ?_
        refine g_goto C (tgt := 25) dX0_countAbove_44 (by decide) ?_
        refine ih (g.par i) _ (uN D (g.par i) (D (g.par i) + 1)) (by omega) (by omega) (hE2.set (by omega) ?_ (fun _ _ => rfl) (fun _ _ => rfl) (fun j hj => if_neg hj)) (hF.set (by omega)) ?_
        · unfold evG
          rw [show uN D (g.par i) (D (g.par i) + 1) (g.par i) = D (g.par i) + 1 from if_pos rfl]
          rfl
        · rw [← hS]
          simp only [dsF, if_neg hi0]
  have hk0 := hE.1 k hk
  unfold evG at hk0
  rw [show evP g ev k = some (ev (g.par k)) from if_neg (by omega)] at hk0
  have hc := hE.1 (g.par k) (by omega)
  have hne : ev k ≠ ev (g.par k) := fun z => by have := hE.2.1 k (g.par k) hk (by omega) z; omega
  refine g_aload_n C dX0_countAbove_0 rfl (by first | rfl | exact isR_rf _) ?_
  refine gf_X0_7 C (hk0) rfl dX0_countAbove_1 ?_
  refine g_ifnull C dX0_countAbove_4 ?_
  refine g_aload_n C dX0_countAbove_7 rfl (by first | rfl | exact isR_rf _) ?_
  refine gf_X0_7 C (hk0) rfl dX0_countAbove_8 ?_
  refine g_dup C dX0_countAbove_11 (by first | rfl | exact cat_rf _) ?_
  refine gf_X0_33 C (hc) rfl dX0_countAbove_12 ?_
  refine g_iconst C (v := nI 1) dX0_countAbove_15 (by decide) ?_
  first | with_reducible refine g_iaddN C dX0_countAbove_16 ?_ | refine g_iadd C dX0_countAbove_16 ?_
  refine pf_X0_33 C (hc) (Nat.le_of_ble_eq_true rfl) dX0_countAbove_17 ?_
  refine g_aload_n C dX0_countAbove_20 rfl (by first | rfl | exact isR_rf _) ?_
  refine gf_X0_7 C ((hup_ne hne).trans hk0) rfl dX0_countAbove_21 ?_
  refine g_astore_n C dX0_countAbove_24 (by decide) rfl ?_
  rw [show some (ev (g.par k)) = evP g ev k from (if_neg (by omega)).symm]
  refine lp k k _ ds (Nat.le_refl _) hk (hE.set (ch2 := uN ch (g.par k) (ch (g.par k) + 1)) (ds2 := ds) (L2 := L) (j := g.par k) (by omega) ?_ (fun _ _ => rfl) (fun j hj => if_neg hj) (fun _ _ => rfl)) (FrE.rf.set (by omega)) rfl
  unfold evG
  rw [show uN ch (g.par k) (ch (g.par k) + 1) (g.par k) = ch (g.par k) + 1 from if_pos rfl]
  rfl
set_option maxRecDepth 100000 in
set_option maxHeartbeats 4000000 in
theorem K_X0_pointToFromAbove (l : Launch) (Y : YG) {N : Nat} {g : Sg} {ev sc : Nat → Nat} {L : Nat → Option Nat} {ch ds : Nat → Nat} {h : AH} (hE : EvS N g ev sc L ch ds h) {k : Nat} (hk : k < N) : MX l Y yX0_pointToFromAbove cX0_pointToFromAbove 3 none 0 0 0 0 [.ref (ev k)] h (pV (fun h' => EvS N g ev sc (ptF g.par k k L) ch ds h' ∧ FrE N ev h h')) (noX) := by
  refine MX.of (by decide +kernel) (Nat.le_of_ble_eq_true rfl) ?_
  intro p e s m args0 below meth c C hr hout hnm
  have hT := hE.2.2
  have lp : ∀ (f i : Nat) (h2 : AH) (M : Nat → Option Nat), i ≤ f → i < N → EvS N g ev sc M ch ds h2 → FrE N ev h h2 → ptF g.par f i M = ptF g.par k k L → Gd p l e (rmO 0 0 0 0) s m args0 below meth c (vx_MQ below (Qk Y (pV (fun h' => EvS N g ev sc (ptF g.par k k L) ch ds h' ∧ FrE N ev h h'))) (Xk Y (noX)) args0 s 0 0 Y.A) Y 3 7 [some (.ref (ev k)), some (.ref (ev i)), some (va_rf (evP g ev i))] [] h2 0 0 := by
    intro f
    induction f with
    | zero =>
      intro i h2 M hi hN hE2 hF hS
      have : i = 0 := by omega
      subst this
      refine g_aload_n C dX0_pointToFromAbove_7 rfl (by first | rfl | exact isR_rf _) ?_
      refine g_ifnullN C (tgt := 26) dX0_pointToFromAbove_8 (by decide) ?_
      have e9 : M = ptF g.par k k L := hS
      rw [e9] at hE2
      exact g_vret C hr dX0_pointToFromAbove_26 (Nat.le_of_ble_eq_true rfl) (Nat.le_of_ble_eq_true rfl) (⟨rfl, hE2, hF⟩)
    | succ f ih =>
      intro i h2 M hi hN hE2 hF hS
      by_cases hi0 : i = 0
      · subst hi0
        refine g_aload_n C dX0_pointToFromAbove_7 rfl (by first | rfl | exact isR_rf _) ?_
        refine g_ifnullN C (tgt := 26) dX0_pointToFromAbove_8 (by decide) ?_
        have e9 : M = ptF g.par k k L := hS
        rw [e9] at hE2
        exact g_vret C hr dX0_pointToFromAbove_26 (Nat.le_of_ble_eq_true rfl) (Nat.le_of_ble_eq_true rfl) (⟨rfl, hE2, hF⟩)
      · have hp := hT.2 i (by omega)
        rw [show evP g ev i = some (ev (g.par i)) from if_neg hi0]
        have hc := hE2.1 (g.par i) (by omega)
        refine g_aload_n C dX0_pointToFromAbove_7 rfl (by first | rfl | exact isR_rf _) ?_
        refine g_ifnull C dX0_pointToFromAbove_8 ?_
        refine g_aload_n C dX0_pointToFromAbove_11 rfl (by first | rfl | exact isR_rf _) ?_
        refine g_aload_n C dX0_pointToFromAbove_12 rfl (by first | rfl | exact isR_rf _) ?_
        refine pf_X0_30 C (hc) (Nat.le_of_ble_eq_true rfl) (by first | rfl | exact isR_rf _) dX0_pointToFromAbove_13 ?_
        refine g_aload_n C dX0_pointToFromAbove_16 rfl (by first | rfl | exact isR_rf _) ?_
        refine g_astore_n C dX0_pointToFromAbove_17 (by decide) (by first | rfl | exact isR_rf _) ?_
        refine g_aload_n C dX0_pointToFromAbove_18 rfl (by first | rfl | exact isR_rf _) ?_
        refine gf_X0_7 C (hup_eq) rfl dX0_pointToFromAbove_19 ?_
        refine g_astore_n C dX0_pointToFromAbove_22 (by decide) (isR_rf _) ?_
        refine g_goto C (tgt := 7) dX0_pointToFromAbove_23 (by decide) ?_
        refine ih (g.par i) _ (uO M (g.par i) (some i)) (by omega) (by omega) (hE2.set (by omega) ?_ (fun j hj => if_neg hj) (fun _ _ => rfl) (fun _ _ => rfl)) (hF.set (by omega)) ?_
        · unfold evG
          rw [show uO M (g.par i) (some i) (g.par i) = some i from if_pos rfl]
          rfl
        · rw [← hS]
          simp only [ptF, if_neg hi0]
  have hk0 := hE.1 k hk
  refine g_aload_n C dX0_pointToFromAbove_0 rfl (by first | rfl | exact isR_rf _) ?_
  refine g_astore_n C dX0_pointToFromAbove_1 (by decide) (by first | rfl | exact isR_rf _) ?_
  refine g_aload_n C dX0_pointToFromAbove_2 rfl (by first | rfl | exact isR_rf _) ?_
  refine gf_X0_7 C (hk0) rfl dX0_pointToFromAbove_3 ?_
  refine g_astore_n C dX0_pointToFromAbove_6 (by decide) (isR_rf _) ?_
  exact lp k k h L (Nat.le_refl _) hk hE FrE.rf rfl
