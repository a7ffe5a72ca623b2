/-- set, evenings, what lies there, the rows of pieces and evenings, when each was entered, the clock -/
abbrev Sv : Type := Nat × Nat × (Nat → Option Nat) × (Nat → Option Nat) × (Nat → Nat) × (Nat → Nat) × (Nat → Nat) × Nat
abbrev Sv.sr (w : Sv) : Nat := w.1
abbrev Sv.er (w : Sv) : Nat := w.2.1
abbrev Sv.fs (w : Sv) : Nat → Option Nat := w.2.2.1
abbrev Sv.fe (w : Sv) : Nat → Option Nat := w.2.2.2.1
abbrev Sv.sp (w : Sv) : Nat → Nat := w.2.2.2.2.1
abbrev Sv.se (w : Sv) : Nat → Nat := w.2.2.2.2.2.1
abbrev Sv.tm (w : Sv) : Nat → Nat := w.2.2.2.2.2.2.1
abbrev Sv.clk (w : Sv) : Nat := w.2.2.2.2.2.2.2
def RepS (Y : YG) (z : Nat) (w : Sv) (g : Sg) (h : AH) : Prop :=
  Y.cJ ≠ Y.cO ∧ h z = some (.inr (4, [.ref w.sr, .ref w.er, .int (nI g.now), .int (nI w.clk)])) ∧ h w.sr = some (aA Y g.np w.fs) ∧ h w.er = some (aA Y g.n w.fe) ∧
  (∀ q, q < g.np → w.fs q = some (w.sp q) ∧ ∃ f, h (w.sp q) = some (aI Y 2 f) ∧ f 0 = nI (g.pos 0 q / 8) ∧ f 1 = nI (g.pos 0 q % 8)) ∧
  (∀ e, e < g.n → w.fe e = some (w.se e) ∧ ∃ f, h (w.se e) = some (aI Y 4 f) ∧ f 0 = nO (parO g e) ∧ f 1 = g.kd e ∧ f 2 = g.nm e ∧ f 3 = nI (w.tm e)) ∧
  (∀ i j, i < g.n → j < g.n → w.se i = w.se j → i = j)
section RS
variable {Y : YG} {zq : Nat} {w : Sv} {g : Sg} {h : AH}
theorem RepS.z (r : RepS Y zq w g h) : h zq = some (.inr (4, [.ref w.sr, .ref w.er, .int (nI g.now), .int (nI w.clk)])) := r.2.1
theorem RepS.sr (r : RepS Y zq w g h) : h w.sr = some (aA Y g.np w.fs) := r.2.2.1
theorem RepS.er (r : RepS Y zq w g h) : h w.er = some (aA Y g.n w.fe) := r.2.2.2.1
theorem RepS.sp (r : RepS Y zq w g h) {q : Nat} (hq : q < g.np) : w.fs q = some (w.sp q) ∧ ∃ f, h (w.sp q) = some (aI Y 2 f) ∧ f 0 = nI (g.pos 0 q / 8) ∧ f 1 = nI (g.pos 0 q % 8) := r.2.2.2.2.1 q hq
theorem RepS.ev (r : RepS Y zq w g h) {e : Nat} (he : e < g.n) : w.fe e = some (w.se e) ∧ ∃ f, h (w.se e) = some (aI Y 4 f) ∧ f 0 = nO (parO g e) ∧ f 1 = g.kd e ∧ f 2 = g.nm e ∧ f 3 = nI (w.tm e) := r.2.2.2.2.2.1 e he
theorem RepS.inj (r : RepS Y zq w g h) {i j : Nat} (hi : i < g.n) (hj : j < g.n) (e : w.se i = w.se j) : i = j := r.2.2.2.2.2.2 i j hi hj e
theorem RepS.ext {h2 : AH} (r : RepS Y zq w g h) (he : Ext h h2) : RepS Y zq w g h2 :=
  ⟨r.1, he _ _ r.z, he _ _ r.sr, he _ _ r.er, fun q hq => by obtain ⟨a, f, b, c⟩ := r.sp hq; exact ⟨a, f, he _ _ b, c⟩, fun e hq => by obtain ⟨a, f, b, c⟩ := r.ev hq; exact ⟨a, f, he _ _ b, c⟩, r.2.2.2.2.2.2⟩
theorem RepS.krk {h2 : AH} (r : RepS Y zq w g h) (he : FrK Y h h2) : RepS Y zq w g h2 := by
  have hc : ∀ n f, keepK Y (aA Y n f) = true := fun n f => by
    show (Y.cJ != Y.cO) = true
    exact bne_iff_ne.mpr r.1
  exact ⟨r.1, he _ _ r.z rfl, he _ _ r.sr (hc _ _), he _ _ r.er (hc _ _), fun q hq => by obtain ⟨a, f, b, c⟩ := r.sp hq; exact ⟨a, f, he _ _ b rfl, c⟩, fun e hq => by obtain ⟨a, f, b, c⟩ := r.ev hq; exact ⟨a, f, he _ _ b rfl, c⟩, r.2.2.2.2.2.2⟩
end RS
/-- the rows of the evenings -/
def ZS (w : Sv) (n : Nat) : Nat → Prop := fun a => ∃ e, e < n ∧ a = w.se e
def FrZ (Z : Nat → Prop) (h h2 : AH) : Prop := ∀ a c, h a = some c → (∀ fs, c ≠ .inr (4, fs)) → ¬ Z a → h2 a = some c
theorem FrZ.rf {Z : Nat → Prop} {h : AH} : FrZ Z h h := fun _ _ hc _ _ => hc
theorem FrZ.tr {Z : Nat → Prop} {h h2 h3 : AH} (a : FrZ Z h h2) (b : FrZ Z h2 h3) : FrZ Z h h3 := fun q c h1 h2 h3 => b q c (a q c h1 h2 h3) h2 h3
theorem Ext.Z {Z : Nat → Prop} {h h2 : AH} (a : Ext h h2) : FrZ Z h h2 := fun q c h1 _ _ => a q c h1
theorem FrZ.obj {Z : Nat → Prop} {h : AH} {a : Nat} {fs : List Value} {c : va_E} (ha : h a = some (.inr (4, fs))) : FrZ Z h (hup h a c) := fun q d h1 h2 _ => by
  rw [hup_ne (ne_of h1 ha (h2 _))]
  exact h1
theorem FrZ.row {Z : Nat → Prop} {h : AH} {a : Nat} {c : va_E} (ha : Z a) : FrZ Z h (hup h a c) := fun q d h1 _ h3 => by
  rw [hup_ne (fun e => h3 (by rw [e]; exact ha))]
  exact h1
theorem zs_nn {Y : YG} {z : Nat} {w : Sv} {g : Sg} {h : AH} (r : RepS Y z w g h) : ∀ a, ZS w g.n a → h a ≠ none := fun a ⟨e, he, hq⟩ => by
  obtain ⟨-, f, hf, -⟩ := r.ev he
  rw [hq, hf]
  exact fun q => by cases q
theorem RepC.frz {Y : YG} {x z : Nat} {v : Vw} {w : Sv} {g g0 : Sg} {h h2 : AH} (r : RepS Y z w g h) (rC : RepC Y x v g0 (ZS w g.n) h) (fr : FrZ (ZS w g.n) h h2) : RepC Y x v g0 (ZS w g.n) h2 := by
  have hz : ∀ a c, h a = some c → (∀ n f, c ≠ aI Y n f) → ¬ ZS w g.n a := fun a c h1 h3 ⟨e, he, hq⟩ => by
    obtain ⟨-, f, hf, -⟩ := r.ev he
    rw [hq, hf] at h1
    cases h1
    exact h3 _ _ rfl
  have k : ∀ a c, h a = some c → (∀ fs, c ≠ .inr (4, fs)) → (∀ n f, c ≠ aI Y n f) → h2 a = some c := fun a c h1 h3 h4 => fr a c h1 h3 (hz a c h1 h4)
  exact ⟨k _ _ rC.x (fun fs q => by cases q) (fun n f q => by cases q), k _ _ rC.t (fun fs q => by cases q) (fun n f q => by cases q), k _ _ rC.d (fun fs q => by cases q) (fun n f q => aIO q.symm), rC.cap, fun _ hi => rC.fd hi,
    fun _ hi => k _ _ (rC.ev hi) (fun fs q => by cases q) (fun n f q => by cases q), fun _ hi => k _ _ (rC.sc hi) (fun fs q => by cases q) (fun n f q => by cases q), fun i hi => fr _ _ (rC.pl hi) (fun fs q => by cases q) (rC.z hi), fun _ _ hi hq => rC.fp hi hq, fun _ _ hi hj e => rC.inj hi hj e, fun _ hi => rC.z hi⟩
theorem parO_0 (g : Sg) : parO g 0 = none := if_pos rfl
theorem parO_p {g : Sg} {a : Nat} (h : 0 < a) : parO g a = some (g.par a) := if_neg (by omega)
def beV (w : Sv) (e : Nat) : Sv := (w.sr, w.er, w.fs, w.fe, w.sp, w.se, uN w.tm e (w.clk + 1), w.clk + 1)
def rowN : va_E → Nat
  | .inl (_, n, .inl _) => n + 1
  | _ => 0
theorem aAI {Y : YG} {n m : Nat} {f : Nat → Option Nat} {f2 : Nat → Int32} : aA Y n f ≠ aI Y m f2 := fun q => absurd (congrArg rowN q) (Nat.succ_ne_zero m).symm
set_option maxRecDepth 100000 in
set_option maxHeartbeats 4000000 in
theorem K_X3_be (l : Launch) (Y : YG) {z : Nat} {w : Sv} {g : Sg} {h : AH} (r : RepS Y z w g h) {e0 : Nat} (he : e0 < g.n) (hn60 : g.n ≤ 60) : MX l Y yX3_be cX3_be 2 none 0 0 0 0 [.ref z, .int (nI e0)] h (pV (fun h2 => (∀ L, RepS Y z (beV w e0) (stM g e0 L) h2) ∧ FrZ (ZS w g.n) h h2)) (noX) := by
  obtain ⟨ef, f, hf, f0, f1, f2, f3⟩ := r.ev he
  refine MX.of (by decide +kernel) (Nat.le_of_ble_eq_true rfl) ?_
  intro p e s m args0 below meth c C hr hout hnm
  refine g_aload_n C dX3_be_0 rfl (by first | rfl | exact isR_rf _) ?_
  refine g_iload_n C dX3_be_1 rfl ?_
  refine pf_X3_18 C (r.z) (Nat.le_of_ble_eq_true rfl) dX3_be_2 ?_
  refine g_aload_n C dX3_be_5 rfl (by first | rfl | exact isR_rf _) ?_
  refine g_dup C dX3_be_6 (by first | rfl | exact cat_rf _) ?_
  refine gf_X3_22 C (hup_eq) rfl dX3_be_7 ?_
  refine g_iconst C (v := nI 1) dX3_be_10 (by decide) ?_
  refine g_iaddN C dX3_be_11 ?_
  refine pf_X3_22 C (hup_eq) (Nat.le_of_ble_eq_true rfl) dX3_be_12 ?_
  rw [hup_hup]
  have hne : ∀ (a : Nat) (c : va_E), h a = some c → (∀ fs, c ≠ .inr (4, fs)) → a ≠ z := fun a c h1 h2 => ne_of h1 r.z (h2 _)
  have hk : ∀ (a : Nat) (c : va_E), h a = some c → (∀ fs, c ≠ .inr (4, fs)) → hup h z (.inr (4, [.ref w.sr, .ref w.er, .int (nI e0), .int (nI (w.clk + 1))])) a = some c := fun a c h1 h2 => (hup_ne (hne a c h1 h2)).trans h1
  show Gd p l e (rmO 0 0 0 0) s m args0 below meth c (vx_MQ below (Qk Y (pV (fun h2 => (∀ L, RepS Y z (beV w e0) (stM g e0 L) h2) ∧ FrZ (ZS w g.n) h h2))) (Xk Y (noX)) args0 s 0 0 Y.A) Y 2 15 [some (.ref z), some (.int (nI e0))] [] (hup h z (.inr (4, [.ref w.sr, .ref w.er, .int (nI e0), .int (nI (w.clk + 1))]))) 0 0
  refine g_aload_n C dX3_be_15 rfl (by first | rfl | exact isR_rf _) ?_
  refine gf_X3_15 C (hup_eq) rfl dX3_be_16 ?_
  refine g_iload_n C dX3_be_19 rfl ?_
  refine g_aald C (hk _ _ r.er (fun fs q => by cases q)) rfl he (by omega) dX3_be_20 ?_
  rw [ef]
  refine g_iconst C (v := nI 3) dX3_be_21 (by decide) ?_
  refine g_aload_n C dX3_be_22 rfl (by first | rfl | exact isR_rf _) ?_
  refine gf_X3_22 C (hup_eq) rfl dX3_be_23 ?_
  refine g_iast C (hk _ _ hf (fun fs q => by cases q)) rfl (show 3 < 4 by decide) (by decide) dX3_be_26 ?_
  refine g_vret C hr dX3_be_27 (Nat.le_of_ble_eq_true rfl) (Nat.le_of_ble_eq_true rfl) (⟨rfl, fun L => ⟨r.1, (hup_ne (ne_of r.z hf (fun q => by cases q))).trans hup_eq, ?_, ?_, fun q hq => ?_, fun e hq => ?_, r.2.2.2.2.2.2⟩, (FrZ.obj r.z).tr (FrZ.row ⟨e0, he, rfl⟩)⟩)
  · exact (hup_ne (ne_of r.sr hf (fun q => aAI q))).trans (hk _ _ r.sr (fun fs q => by cases q))
  · exact (hup_ne (ne_of r.er hf (fun q => aAI q))).trans (hk _ _ r.er (fun fs q => by cases q))
  · obtain ⟨a, f9, b, c⟩ := r.sp hq
    refine ⟨a, f9, (hup_ne (ne_of b hf (fun q => ?_))).trans (hk _ _ b (fun fs q => by cases q)), c⟩
    have : (2 + 1 : Nat) = 4 + 1 := congrArg rowN q
    exact absurd this (by decide)
  · obtain ⟨a, f9, b, c0, c1, c2, c3⟩ := r.ev hq
    by_cases hee : e = e0
    · subst hee
      rw [hf] at b
      cases b
      refine ⟨ef, _, hup_eq, ?_, ?_, ?_, ?_⟩
      · rw [pk_un (by decide)]; exact c0
      · rw [pk_un (by decide)]; exact c1
      · rw [pk_un (by decide)]; exact c2
      · rw [pk_us]
        show nI (w.clk + 1) = nI (uN w.tm e (w.clk + 1) e)
        unfold uN
        rw [if_pos rfl]
    · have hse : w.se e ≠ w.se e0 := fun q => hee (r.inj hq he q)
      refine ⟨a, f9, (hup_ne hse).trans (hk _ _ b (fun fs q => by cases q)), c0, c1, c2, ?_⟩
      rw [c3]
      show nI (w.tm e) = nI (uN w.tm e0 (w.clk + 1) e)
      unfold uN
      rw [if_neg hee]
set_option maxRecDepth 100000 in
set_option maxHeartbeats 4000000 in
theorem K_X3_depth (l : Launch) (Y : YG) {z : Nat} {w : Sv} {g : Sg} {h : AH} (r : RepS Y z w g h) (iv : Inv g) {e0 : Nat} (he : e0 < g.n) : MX l Y yX3_depth cX3_depth 4 (some .int) 0 0 0 0 [.ref z, .int (nI e0)] h (pS (some (.int (nI (g.dp e0)))) h) (noX) := by
  have hn60 := iv.n60
  have hnp16 := iv.np
  have hnow := iv.now
  have hn1 := iv.n1
  refine MX.of (by decide +kernel) (Nat.le_of_ble_eq_true rfl) ?_
  intro p e s m args0 below meth c C hr hout hnm
  have lp : ∀ (d a i : Nat), a < d → a < g.n → g.dp a + i = g.dp e0 → Gd p l e (rmO 0 0 0 0) s m args0 below meth c (vx_MQ below (Qk Y (pS (some (.int (nI (g.dp e0)))) h)) (Xk Y (noX)) args0 s 0 0 Y.A) Y 4 4 [some (.ref z), some (.int (nI e0)), some (.int (nI i)), some (.int (nI a))] [] h 0 0 := by
    intro d
    induction d with
    | zero => intro a i h1; omega
    | succ d ih =>
      intro a i hd ha hS
      rcases Nat.eq_zero_or_pos a with h0 | h0
      · subst h0
        refine g_aload_n C dX3_depth_4 rfl (by first | rfl | exact isR_rf _) ?_
        refine gf_X3_15 C (r.z) rfl dX3_depth_5 ?_
        refine g_iload_n C dX3_depth_8 rfl ?_
        refine g_aald C r.er rfl (ha) (by omega) dX3_depth_9 ?_
        obtain ⟨ef, f, hf, f0, f1, f2, f3⟩ := r.ev (ha)
        rw [ef]
        refine g_iconst C (v := nI 0) dX3_depth_10 (by decide) ?_
        refine g_iald C hf rfl (show 0 < 4 by decide) (by decide) dX3_depth_11 ?_
        rw [f0]
        rw [parO_0]
        refine g_if_lt C (tgt := 30) dX3_depth_12 (by decide) (fun q1 => ?_) (fun q1 => ?_)
        · refine g_iload_n C dX3_depth_30 rfl ?_
          exact g_iret C hr dX3_depth_31 (Nat.le_of_ble_eq_true rfl) (Nat.le_of_ble_eq_true rfl) (⟨by rw [← hS, iv.dp.1, Nat.zero_add], rfl⟩)
        · exact absurd (by decide) q1
      · have hp := iv.tr.2 a h0
        have hdp := iv.dp.2 a h0
        refine g_aload_n C dX3_depth_4 rfl (by first | rfl | exact isR_rf _) ?_
        refine gf_X3_15 C (r.z) rfl dX3_depth_5 ?_
        refine g_iload_n C dX3_depth_8 rfl ?_
        refine g_aald C r.er rfl (ha) (by omega) dX3_depth_9 ?_
        obtain ⟨ef, f, hf, f0, f1, f2, f3⟩ := r.ev (ha)
        rw [ef]
        refine g_iconst C (v := nI 0) dX3_depth_10 (by decide) ?_
        refine g_iald C hf rfl (show 0 < 4 by decide) (by decide) dX3_depth_11 ?_
        rw [f0]
        rw [parO_p h0]
        refine g_if_lt C (tgt := 30) dX3_depth_12 (by decide) (fun q1 => ?_) (fun q1 => ?_)
        · exact absurd q1 (nI_pos (show g.par a < 2 ^ 31 by omega))
        · refine g_iincN C dX3_depth_15 rfl (by decide) ?_
          refine g_aload_n C dX3_depth_18 rfl (by first | rfl | exact isR_rf _) ?_
          refine gf_X3_15 C (r.z) rfl dX3_depth_19 ?_
          refine g_iload_n C dX3_depth_22 rfl ?_
          refine g_aald C r.er rfl (ha) (by omega) dX3_depth_23 ?_
          obtain ⟨ef9, f9, hf9, f09, f19, f29, f39⟩ := r.ev (ha)
          rw [ef9]
          refine g_iconst C (v := nI 0) dX3_depth_24 (by decide) ?_
          refine g_iald C hf9 rfl (show 0 < 4 by decide) (by decide) dX3_depth_25 ?_
          rw [f09]
          rw [parO_p h0]
          refine g_istore_n C dX3_depth_26 (by decide) ?_
          refine g_goto C (tgt := 4) dX3_depth_27 (by decide) ?_
          exact ih (g.par a) (i + 1) (by omega) (by omega) (by omega)
  refine g_iconst C (v := nI 0) dX3_depth_0 (by decide) ?_
  refine g_istore_n C dX3_depth_1 (by decide) ?_
  refine g_iload_n C dX3_depth_2 rfl ?_
  refine g_istore_n C dX3_depth_3 (by decide) ?_
  exact lp (e0 + 1) e0 0 (Nat.lt_succ_self _) he rfl
set_option maxRecDepth 100000 in
set_option maxHeartbeats 4000000 in
theorem K_X3_isBelow (l : Launch) (Y : YG) {z : Nat} {w : Sv} {g : Sg} {h : AH} (r : RepS Y z w g h) (iv : Inv g) {e0 u : Nat} (he : e0 < g.n) (hu : u < 2 ^ 31) : MX l Y yX3_isBelow cX3_isBelow 4 (some .boolean) 0 0 0 0 [.ref z, .int (nI e0), .int (nI u)] h (pS (some (bI (an g.par u e0))) h) (noX) := by
  have hn60 := iv.n60
  have hnp16 := iv.np
  have hnow := iv.now
  have hn1 := iv.n1
  refine MX.of (by decide +kernel) (Nat.le_of_ble_eq_true rfl) ?_
  intro p e s m args0 below meth c C hr hout hnm
  have lp : ∀ (d a : Nat), a < d → a < g.n → an g.par u a = an g.par u e0 → Gd p l e (rmO 0 0 0 0) s m args0 below meth c (vx_MQ below (Qk Y (pS (some (bI (an g.par u e0))) h)) (Xk Y (noX)) args0 s 0 0 Y.A) Y 4 2 [some (.ref z), some (.int (nI e0)), some (.int (nI u)), some (.int (nI a))] [] h 0 0 := by
    intro d
    induction d with
    | zero => intro a h1; omega
    | succ d ih =>
      intro a hd ha hS
      rcases Nat.eq_zero_or_pos a with h0 | h0
      · subst h0
        refine g_iload_n C dX3_isBelow_2 rfl ?_
        refine g_if_lt C (tgt := 25) dX3_isBelow_3 (by decide) (fun q1 => ?_) (fun q1 => ?_)
        · exact absurd q1 (by decide)
        · refine g_iload_n C dX3_isBelow_6 rfl ?_
          refine g_iload_n C dX3_isBelow_7 rfl ?_
          refine g_icmp_neN C (tgt := 13) dX3_isBelow_8 (by decide) (by omega) (by omega) (fun q2 => ?_) (fun q2 => ?_)
          · refine g_aload_n C dX3_isBelow_13 rfl (by first | rfl | exact isR_rf _) ?_
            refine gf_X3_15 C (r.z) rfl dX3_isBelow_14 ?_
            refine g_iload_n C dX3_isBelow_17 rfl ?_
            refine g_aald C r.er rfl (ha) (by omega) dX3_isBelow_18 ?_
            obtain ⟨ef, f, hf, f0, f1, f2, f3⟩ := r.ev (ha)
            rw [ef]
            refine g_iconst C (v := nI 0) dX3_isBelow_19 (by decide) ?_
            refine g_iald C hf rfl (show 0 < 4 by decide) (by decide) dX3_isBelow_20 ?_
            rw [f0]
            rw [parO_0]
            refine g_istore_n C dX3_isBelow_21 (by decide) ?_
            refine g_goto C (tgt := 2) dX3_isBelow_22 (by decide) ?_
            refine g_iload_n C dX3_isBelow_2 rfl ?_
            refine g_if_lt C (tgt := 25) dX3_isBelow_3 (by decide) (fun q3 => ?_) (fun q3 => ?_)
            · refine g_iconst C (v := nI 0) dX3_isBelow_25 (by decide) ?_
              exact g_zret C hr (by first | exact Or.inl rfl | exact Or.inr rfl) dX3_isBelow_26 (Nat.le_of_ble_eq_true rfl) (Nat.le_of_ble_eq_true rfl) (⟨by rw [← hS, an_0, show (0 == u) = false from by simpa using q2]; rfl, rfl⟩)
            · exact absurd (by decide) q3
          · refine g_iconst C (v := nI 1) dX3_isBelow_11 (by decide) ?_
            exact g_zret C hr (by first | exact Or.inl rfl | exact Or.inr rfl) dX3_isBelow_12 (Nat.le_of_ble_eq_true rfl) (Nat.le_of_ble_eq_true rfl) (⟨by rw [← hS, ← q2, an_rf]; rfl, rfl⟩)
      · have hp := iv.tr.2 a h0
        have hua := an_up iv.tr u h0
        refine g_iload_n C dX3_isBelow_2 rfl ?_
        refine g_if_lt C (tgt := 25) dX3_isBelow_3 (by decide) (fun q1 => ?_) (fun q1 => ?_)
        · exact absurd q1 (nI_pos (show a < 2 ^ 31 by omega))
        · refine g_iload_n C dX3_isBelow_6 rfl ?_
          refine g_iload_n C dX3_isBelow_7 rfl ?_
          refine g_icmp_neN C (tgt := 13) dX3_isBelow_8 (by decide) (by omega) (by omega) (fun q2 => ?_) (fun q2 => ?_)
          · refine g_aload_n C dX3_isBelow_13 rfl (by first | rfl | exact isR_rf _) ?_
            refine gf_X3_15 C (r.z) rfl dX3_isBelow_14 ?_
            refine g_iload_n C dX3_isBelow_17 rfl ?_
            refine g_aald C r.er rfl (ha) (by omega) dX3_isBelow_18 ?_
            obtain ⟨ef, f, hf, f0, f1, f2, f3⟩ := r.ev (ha)
            rw [ef]
            refine g_iconst C (v := nI 0) dX3_isBelow_19 (by decide) ?_
            refine g_iald C hf rfl (show 0 < 4 by decide) (by decide) dX3_isBelow_20 ?_
            rw [f0]
            rw [parO_p h0]
            refine g_istore_n C dX3_isBelow_21 (by decide) ?_
            refine g_goto C (tgt := 2) dX3_isBelow_22 (by decide) ?_
            exact ih (g.par a) (by omega) (by omega) (by rw [← hS, hua, show (a == u) = false from by simpa using q2, Bool.false_or])
          · refine g_iconst C (v := nI 1) dX3_isBelow_11 (by decide) ?_
            exact g_zret C hr (by first | exact Or.inl rfl | exact Or.inr rfl) dX3_isBelow_12 (Nat.le_of_ble_eq_true rfl) (Nat.le_of_ble_eq_true rfl) (⟨by rw [← hS, ← q2, an_rf]; rfl, rfl⟩)
  refine g_iload_n C dX3_isBelow_0 rfl ?_
  refine g_istore_n C dX3_isBelow_1 (by decide) ?_
  exact lp (e0 + 1) e0 (Nat.lt_succ_self _) he rfl
set_option maxRecDepth 100000 in
set_option maxHeartbeats 4000000 in
theorem K_X3_meet (l : Launch) (Y : YG) {z : Nat} {w : Sv} {g : Sg} {h : AH} (r : RepS Y z w g h) (iv : Inv g) {a0 b0 : Nat} (ha0 : a0 < g.n) (hb0 : b0 < g.n) : MX l Y yX3_meet cX3_meet 4 (some .int) 1 23 0 0 [.ref z, .int (nI a0), .int (nI b0)] h (pS (some (.int (nI (lc g.par a0 b0)))) h) (noX) := by
  have hn60 := iv.n60
  have hnp16 := iv.np
  have hnow := iv.now
  have hn1 := iv.n1
  have hT := iv.tr
  have hla := lc_an hT a0 b0
  refine MX.of (by decide +kernel) (Nat.le_of_ble_eq_true rfl) ?_
  intro p e s m args0 below meth c C hr hout hnm
  have lp : ∀ (d a : Nat), a < d → a < g.n → an g.par (lc g.par a0 b0) a = true → an g.par a a0 = true → Gd p l e (rmO 1 23 0 0) s m args0 below meth c (vx_MQ below (Qk Y (pS (some (.int (nI (lc g.par a0 b0)))) h)) (Xk Y (noX)) args0 s 0 0 Y.A) Y 4 2 [some (.ref z), some (.int (nI a0)), some (.int (nI b0)), some (.int (nI a))] [] h 0 0 := by
    intro d
    induction d with
    | zero => intro a h1; omega
    | succ d ih =>
      intro a hd ha hl haa
      refine g_aload_n C dX3_meet_2 rfl (by first | rfl | exact isR_rf _) ?_
      refine g_iload_n C dX3_meet_3 rfl ?_
      refine g_iload_n C dX3_meet_4 rfl ?_
      refine g_callV C ((K_X3_isBelow l Y r iv hb0 (show a < 2 ^ 31 by omega)).K) ok_X3_isBelow w499 (r.z) rfl rfl rfl dX3_meet_5 (Nat.le_of_ble_eq_true rfl) (Nat.le_of_ble_eq_true rfl) (Nat.le_of_ble_eq_true rfl) (Nat.le_of_ble_eq_true rfl) (Nat.le_of_ble_eq_true rfl) (ofS ?_)
      refine g_if_neB C (tgt := 23) dX3_meet_8 (by decide) (fun q1 => ?_) (fun q1 => ?_)
      · have e1 : lc g.par a0 b0 = a := by
          have h1 := ((lc_mt hT a0 b0) a).mpr ⟨haa, q1⟩
          have h2 := an_le hT h1
          have h3 := an_le hT hl
          omega
        refine g_iload_n C dX3_meet_23 rfl ?_
        exact g_iret C hr dX3_meet_24 (Nat.le_of_ble_eq_true rfl) (Nat.le_of_ble_eq_true rfl) (⟨by rw [e1], rfl⟩)
      · have hne : lc g.par a0 b0 ≠ a := fun z => by rw [← z, hla.2] at q1; cases q1
        have h2 := an_ne hT hl hne
        have h0 : 0 < a := by
          have := an_le hT hl
          omega
        have hp := hT.2 a h0
        refine g_aload_n C dX3_meet_11 rfl (by first | rfl | exact isR_rf _) ?_
        refine gf_X3_15 C (r.z) rfl dX3_meet_12 ?_
        refine g_iload_n C dX3_meet_15 rfl ?_
        refine g_aald C r.er rfl (ha) (by omega) dX3_meet_16 ?_
        obtain ⟨ef, f, hf, f0, f1, f2, f3⟩ := r.ev (ha)
        rw [ef]
        refine g_iconst C (v := nI 0) dX3_meet_17 (by decide) ?_
        refine g_iald C hf rfl (show 0 < 4 by decide) (by decide) dX3_meet_18 ?_
        rw [f0]
        rw [parO_p h0]
        refine g_istore_n C dX3_meet_19 (by decide) ?_
        refine g_goto C (tgt := 2) dX3_meet_20 (by decide) ?_
        exact ih (g.par a) (by omega) (by omega) h2 (an_tr hT (an_par hT a) haa)
  refine g_iload_n C dX3_meet_0 rfl ?_
  refine g_istore_n C dX3_meet_1 (by decide) ?_
  exact lp (a0 + 1) a0 (Nat.lt_succ_self _) ha0 hla.1 (an_rf _ _)
set_option maxRecDepth 100000 in
set_option maxHeartbeats 4000000 in
theorem K_X3_apart (l : Launch) (Y : YG) {z : Nat} {w : Sv} {g : Sg} {h : AH} (r : RepS Y z w g h) (iv : Inv g) {a0 b0 : Nat} (ha0 : a0 < g.n) (hb0 : b0 < g.n) : MX l Y yX3_apart cX3_apart 3 (some .int) 2 46 0 0 [.ref z, .int (nI a0), .int (nI b0)] h (pS (some (.int (nI (wy g a0 b0)))) h) (noX) := by
  have hn60 := iv.n60
  have hnp16 := iv.np
  have hnow := iv.now
  have hn1 := iv.n1
  have hT := iv.tr
  have hll := lc_le hT a0 b0
  have hdl := dp_lc iv a0 b0
  refine MX.of (by decide +kernel) (Nat.le_of_ble_eq_true rfl) ?_
  intro p e s m args0 below meth c C hr hout hnm
  refine g_aload_n C dX3_apart_0 rfl (by first | rfl | exact isR_rf _) ?_
  refine g_iload_n C dX3_apart_1 rfl ?_
  refine g_callV C ((K_X3_depth l Y r iv ha0).K) ok_X3_depth w527 (r.z) rfl rfl rfl dX3_apart_2 (Nat.le_of_ble_eq_true rfl) (Nat.le_of_ble_eq_true rfl) (Nat.le_of_ble_eq_true rfl) (Nat.le_of_ble_eq_true rfl) (Nat.le_of_ble_eq_true rfl) (ofS ?_)
  refine g_aload_n C dX3_apart_5 rfl (by first | rfl | exact isR_rf _) ?_
  refine g_iload_n C dX3_apart_6 rfl ?_
  refine g_callV C ((K_X3_depth l Y r iv hb0).K) ok_X3_depth w527 (r.z) rfl rfl rfl dX3_apart_7 (Nat.le_of_ble_eq_true rfl) (Nat.le_of_ble_eq_true rfl) (Nat.le_of_ble_eq_true rfl) (Nat.le_of_ble_eq_true rfl) (Nat.le_of_ble_eq_true rfl) (ofS ?_)
  first | with_reducible refine g_iaddN C dX3_apart_10 ?_ | refine g_iadd C dX3_apart_10 ?_
  refine g_iconst C (v := nI 2) dX3_apart_11 (by decide) ?_
  refine g_aload_n C dX3_apart_12 rfl (by first | rfl | exact isR_rf _) ?_
  refine g_aload_n C dX3_apart_13 rfl (by first | rfl | exact isR_rf _) ?_
  refine g_iload_n C dX3_apart_14 rfl ?_
  refine g_iload_n C dX3_apart_15 rfl ?_
  refine g_callV C ((K_X3_meet l Y r iv ha0 hb0).K) ok_X3_meet w617 (r.z) rfl rfl rfl dX3_apart_16 (Nat.le_of_ble_eq_true rfl) (Nat.le_of_ble_eq_true rfl) (Nat.le_of_ble_eq_true rfl) (Nat.le_of_ble_eq_true rfl) (Nat.le_of_ble_eq_true rfl) (ofS ?_)
  refine g_callV C ((K_X3_depth l Y r iv (show lc g.par a0 b0 < g.n by omega)).K) ok_X3_depth w527 (r.z) rfl rfl rfl dX3_apart_19 (Nat.le_of_ble_eq_true rfl) (Nat.le_of_ble_eq_true rfl) (Nat.le_of_ble_eq_true rfl) (Nat.le_of_ble_eq_true rfl) (Nat.le_of_ble_eq_true rfl) (ofS ?_)
  refine g_imulN C dX3_apart_22 ?_
  refine g_isubN C (by omega) dX3_apart_23 ?_
  exact g_iret C hr dX3_apart_24 (Nat.le_of_ble_eq_true rfl) (Nat.le_of_ble_eq_true rfl) (⟨rfl, rfl⟩)
set_option maxRecDepth 100000 in
set_option maxHeartbeats 4000000 in
theorem K_X3_again (l : Launch) (Y : YG) {z : Nat} {w : Sv} {g : Sg} {h : AH} (r : RepS Y z w g h) (iv : Inv g) (T : TmO g w.tm w.clk) (hck : w.clk < 2 ^ 30) {e0 : Nat} (he : e0 < g.n) : MX l Y yX3_again cX3_again 4 (some .int) 0 0 0 0 [.ref z, .int (nI e0)] h (pS (some (.int (nO (g.last e0)))) h) (noX) := by
  have hn60 := iv.n60
  have hnp16 := iv.np
  have hnow := iv.now
  have hn1 := iv.n1
  have hT := iv.tr
  refine MX.of (by decide +kernel) (Nat.le_of_ble_eq_true rfl) ?_
  intro p e s m args0 below meth c C hr hout hnm
  have lp : ∀ (d k : Nat), k ≤ g.n → 0 < k → g.n - k < d → Gd p l e (rmO 0 0 0 0) s m args0 below meth c (vx_MQ below (Qk Y (pS (some (.int (nO (g.last e0)))) h)) (Xk Y (noX)) args0 s 0 0 Y.A) Y 4 4 [some (.ref z), some (.int (nI e0)), some (.int (nO (agF g.par w.tm e0 k))), some (.int (nI k))] [] h 0 0 := by
    intro d
    induction d with
    | zero => intro k h1 h2 h3; omega
    | succ d ih =>
      intro k hk h0 hd
      refine g_iload_n C dX3_again_4 rfl ?_
      refine g_aload_n C dX3_again_5 rfl (by first | rfl | exact isR_rf _) ?_
      refine gf_X3_15 C (r.z) rfl dX3_again_6 ?_
      refine g_alena C (r.er) dX3_again_9 ?_
      refine g_icmp_geN C (tgt := 56) dX3_again_10 (by decide) (by omega) (by omega) (fun q1 => ?_) (fun q1 => ?_)
      · have : k = g.n := by omega
        subst this
        refine g_iload_n C dX3_again_56 rfl ?_
        exact g_iret C hr dX3_again_57 (Nat.le_of_ble_eq_true rfl) (Nat.le_of_ble_eq_true rfl) (⟨by rw [agF_last T iv he], rfl⟩)
      · have nx : Gd p l e (rmO 0 0 0 0) s m args0 below meth c (vx_MQ below (Qk Y (pS (some (.int (nO (g.last e0)))) h)) (Xk Y (noX)) args0 s 0 0 Y.A) Y 4 50 [some (.ref z), some (.int (nI e0)), some (.int (nO (agF g.par w.tm e0 (k + 1)))), some (.int (nI k))] [] h 0 0 := by
          refine g_iincN C dX3_again_50 rfl (by decide) ?_
          refine g_goto C (tgt := 4) dX3_again_53 (by decide) ?_
          exact ih (k + 1) (by omega) (by omega) (by omega)
        have keep : ¬ (0 < k ∧ g.par k = e0 ∧ lat w.tm (agF g.par w.tm e0 k) k = true) → Gd p l e (rmO 0 0 0 0) s m args0 below meth c (vx_MQ below (Qk Y (pS (some (.int (nO (g.last e0)))) h)) (Xk Y (noX)) args0 s 0 0 Y.A) Y 4 50 [some (.ref z), some (.int (nI e0)), some (.int (nO (agF g.par w.tm e0 k))), some (.int (nI k))] [] h 0 0 := by
          intro hno
          have e1 : agF g.par w.tm e0 (k + 1) = agF g.par w.tm e0 k := by simp only [agF]; rw [if_neg hno]
          rw [e1] at nx
          exact nx
        have take : (0 < k ∧ g.par k = e0 ∧ lat w.tm (agF g.par w.tm e0 k) k = true) → Gd p l e (rmO 0 0 0 0) s m args0 below meth c (vx_MQ below (Qk Y (pS (some (.int (nO (g.last e0)))) h)) (Xk Y (noX)) args0 s 0 0 Y.A) Y 4 48 [some (.ref z), some (.int (nI e0)), some (.int (nO (agF g.par w.tm e0 k))), some (.int (nI k))] [] h 0 0 := by
          intro hyes
          have e1 : agF g.par w.tm e0 (k + 1) = some k := by simp only [agF]; rw [if_pos hyes]
          rw [e1] at nx
          refine g_iload_n C dX3_again_48 rfl ?_
          refine g_istore_n C dX3_again_49 (by decide) ?_
          exact nx
        have hp := hT.2 k h0
        refine g_aload_n C dX3_again_13 rfl (by first | rfl | exact isR_rf _) ?_
        refine gf_X3_15 C (r.z) rfl dX3_again_14 ?_
        refine g_iload_n C dX3_again_17 rfl ?_
        refine g_aald C r.er rfl (q1) (by omega) dX3_again_18 ?_
        obtain ⟨ef, f, hf, f0, f1, f2, f3⟩ := r.ev (q1)
        rw [ef]
        refine g_iconst C (v := nI 0) dX3_again_19 (by decide) ?_
        refine g_iald C hf rfl (show 0 < 4 by decide) (by decide) dX3_again_20 ?_
        rw [f0]
        rw [parO_p h0]
        refine g_iload_n C dX3_again_21 rfl ?_
        refine g_icmp_neN C (tgt := 50) dX3_again_22 (by decide) (by omega) (by omega) (fun q2 => ?_) (fun q2 => ?_)
        · exact keep (fun z => q2 z.2.1)
        · cases hb : agF g.par w.tm e0 k with
          | none =>
            rw [hb] at take
            refine g_iload_n C dX3_again_25 rfl ?_
            refine g_if_lt C (tgt := 48) dX3_again_26 (by decide) (fun q => ?_) (fun q => absurd (by decide) q)
            exact take ⟨h0, q2, rfl⟩
          | some b =>
            obtain ⟨b1, b2, b3, b4⟩ := agF_in.2 b hb
            have hbn : b < g.n := by omega
            have t1 := T.1 b hbn
            have t2 := T.1 k q1
            rw [hb] at take keep
            refine g_iload_n C dX3_again_25 rfl ?_
            refine g_if_lt C (tgt := 48) dX3_again_26 (by decide) (fun q => absurd q (nI_pos (show b < 2 ^ 31 by omega))) (fun q => ?_)
            show Gd p l e (rmO 0 0 0 0) s m args0 below meth c (vx_MQ below (Qk Y (pS (some (.int (nO (g.last e0)))) h)) (Xk Y (noX)) args0 s 0 0 Y.A) Y 4 29 [some (.ref z), some (.int (nI e0)), some (.int (nI b)), some (.int (nI k))] [] h 0 0
            refine g_aload_n C dX3_again_29 rfl (by first | rfl | exact isR_rf _) ?_
            refine gf_X3_15 C (r.z) rfl dX3_again_30 ?_
            refine g_iload_n C dX3_again_33 rfl ?_
            refine g_aald C r.er rfl (q1) (by omega) dX3_again_34 ?_
            obtain ⟨ef8, f8, hf8, f08, f18, f28, f38⟩ := r.ev (q1)
            rw [ef8]
            refine g_iconst C (v := nI 3) dX3_again_35 (by decide) ?_
            refine g_iald C hf8 rfl (show 3 < 4 by decide) (by decide) dX3_again_36 ?_
            rw [f38]
            refine g_aload_n C dX3_again_37 rfl (by first | rfl | exact isR_rf _) ?_
            refine gf_X3_15 C (r.z) rfl dX3_again_38 ?_
            refine g_iload_n C dX3_again_41 rfl ?_
            refine g_aald C r.er rfl (hbn) (by omega) dX3_again_42 ?_
            obtain ⟨ef9, f9, hf9, f09, f19, f29, f39⟩ := r.ev (hbn)
            rw [ef9]
            refine g_iconst C (v := nI 3) dX3_again_43 (by decide) ?_
            refine g_iald C hf9 rfl (show 3 < 4 by decide) (by decide) dX3_again_44 ?_
            rw [f39]
            refine g_icmp_leN C (tgt := 50) dX3_again_45 (by decide) (by omega) (by omega) (fun q3 => ?_) (fun q3 => ?_)
            · exact keep (fun z => by have := of_decide_eq_true z.2.2; omega)
            · exact take ⟨h0, q2, decide_eq_true q3⟩
  refine g_iconst C (v := -1) dX3_again_0 (by decide) ?_
  refine g_istore_n C dX3_again_1 (by decide) ?_
  refine g_iconst C (v := nI 1) dX3_again_2 (by decide) ?_
  refine g_istore_n C dX3_again_3 (by decide) ?_
  exact lp (g.n + 1) 1 (by omega) (by decide) (by omega)
