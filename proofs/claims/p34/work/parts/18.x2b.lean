theorem hasP_of2 {n : Nat} {i : Int32} (hn : n ≤ 1000) (h : hasP n i = true) : ∃ j, j < n ∧ i = nI j := by
  unfold hasP at h
  simp only [Bool.and_eq_true, decide_eq_true_eq] at h
  obtain ⟨j, hj, rfl⟩ := nI_of (x := i) (Int32.not_lt.mpr h.1)
  exact ⟨j, (nI_ltI hj (by omega)).mp h.2, rfl⟩
/-- the evening, or the piece, of a number, if there is one -/
def idx (n : Nat) (i : Int32) : Option Nat := if hasP n i = true then some i.toNatClampNeg else none
theorem idx_t {n : Nat} {i : Int32} (hn : n ≤ 1000) (h : hasP n i = true) : ∃ j, j < n ∧ i = nI j ∧ idx n i = some j := by
  obtain ⟨j, h1, h2⟩ := hasP_of2 hn h
  refine ⟨j, h1, h2, ?_⟩
  unfold idx
  rw [if_pos h, h2, nI_clamp (by omega)]
theorem idx_f {n : Nat} {i : Int32} (h : hasP n i = false) : idx n i = none := by
  unfold idx
  rw [h]
  rfl
theorem idx_lt {n j : Nat} {i : Int32} (hn : n ≤ 1000) (h : idx n i = some j) : j < n ∧ i = nI j := by
  cases hz : hasP n i with
  | false => rw [idx_f hz] at h; cases h
  | true =>
    obtain ⟨k, h1, h2, h3⟩ := idx_t hn hz
    rw [h3] at h
    cases h
    exact ⟨h1, h2⟩
theorem idx_nI {n j : Nat} (hn : n ≤ 1000) (hj : j < n) : idx n (nI j) = some j := by
  have : hasP n (nI j) = true := by
    unfold hasP
    rw [decide_eq_true (nI_pos' (by omega)), decide_eq_true ((nI_ltI (by omega) (by omega)).mpr hj)]
    rfl
  obtain ⟨k, h1, h2, h3⟩ := idx_t hn this
  rw [h3]
  have := (nI_eq (a := j) (b := k) (by omega) (by omega)).mp h2
  rw [this]
/-! what is asked, in terms of the state -/
def parO (g : Sg) (j : Nat) : Option Nat := if j = 0 then none else some (g.par j)
theorem evP_map (g : Sg) (ev : Nat → Nat) (j : Nat) : evP g ev j = (parO g j).map ev := by
  unfold parO
  by_cases h : j = 0
  · rw [show evP g ev j = none from if_pos h, if_pos h]; rfl
  · rw [show evP g ev j = some (ev (g.par j)) from if_neg h, if_neg h]; rfl
def wy (g : Sg) (a b : Nat) : Nat := g.dp a + g.dp b - 2 * g.dp (lc g.par a b)
theorem dp_lc {g : Sg} (iv : Inv g) (a b : Nat) : g.dp (lc g.par a b) ≤ g.dp a ∧ g.dp (lc g.par a b) ≤ g.dp b := by
  obtain ⟨h1, h2⟩ := lc_an iv.tr a b
  exact ⟨(dp_an iv.tr iv.dp h1).elim (fun z => by rw [z]; exact Nat.le_refl _) Nat.le_of_lt, (dp_an iv.tr iv.dp h2).elim (fun z => by rw [z]; exact Nat.le_refl _) Nat.le_of_lt⟩
theorem lc_step {par : Nat → Nat} (ht : Tr par) {a b : Nat} (h : b < a) : lc par (par a) b = lc par a b := by
  refine (lc_of ht (mt_up ht ?_ (lc_mt ht (par a) b))).symm
  cases hz : an par a b with
  | false => rfl
  | true =>
    have := an_le ht hz
    omega
theorem lc_step2 {par : Nat → Nat} (ht : Tr par) {a b : Nat} (h : a < b) : lc par a (par b) = lc par a b := by
  refine (lc_of ht (mt_sym (mt_up ht ?_ (mt_sym (lc_mt ht a (par b)))))).symm
  cases hz : an par b a with
  | false => rfl
  | true =>
    have := an_le ht hz
    omega
theorem lc_rf {par : Nat → Nat} (ht : Tr par) (a : Nat) : lc par a a = a := lc_of ht (mt_self par a)
def lyN (g : Sg) (j : Nat) : Nat := popc g.np (g.lb j)
def lkB (g : Sg) (a b : Nat) : Bool := aliB (g.ct a) (g.ct b) (g.lb a) (g.lb b) g.np (g.pos a) (g.pos b)
def enB (g : Sg) (j : Nat) : Bool := (g.last j).isNone
def enN (g : Sg) : Nat := cnt (enB g) g.n
def knB (g : Sg) (q j : Nat) : Bool := decide (g.kd j = nI 1) && decide (g.nm j = nI q)
def knN (g : Sg) (q : Nat) : Nat := cnt (knB g q) g.n
def mkF (K : Nat → Nat) : Nat → Option Nat
  | 0 => none
  | k + 1 => match mkF K k with
    | none => some k
    | some b => if K b < K k then some k else some b
def smF (P : Nat → Bool) (f : Nat → Nat) : Nat → Nat
  | 0 => 0
  | k + 1 => smF P f k + (if P k then f k else 0)
def smN (g : Sg) : Nat := smF (enB g) g.dp g.n
def evL (g : Sg) (j : Nat) : List Int32 := [nO (parO g j), g.kd j, g.nm j, nI (g.dp j), nI (chN g.par g.n j), nI (dsN g.par g.n j), nO (g.last j), nI (lyN g j), nI (wy g j g.now), if lkB g j g.now then 1 else 0]
def hdL (g : Sg) : List Int32 := [nI g.now, nI g.n, nI g.np, nI (g.ct g.now / 8), nI (g.ct g.now % 8), nI (lyN g g.now), nI (enN g), nO (mkF (knN g) g.np)]
def pcL (g : Sg) (q : Nat) : List Int32 := [nI (g.pos g.now q), if (g.lb g.now).testBit q then 1 else 0]
def dgF (L : List Int32) (d : Int64) : Int64 := L.foldl (fun d x => d * 31 + x.toInt64) d
def itF (f : Nat → List Int32) : Nat → Int64 → Int64
  | 0, d => d
  | k + 1, d => dgF (f k) (itF f k d)
def digV (g : Sg) : Int64 := itF (evL g) g.n (itF (pcL g) g.np (dgF (hdL g) 2251))
/-! what an asking gives back: a number and the same heap, or the throw -/
def pO (o : Option Int32) (h : AH) : Option Value → AH → Prop := fun v h2 => ∃ w, o = some w ∧ v = some (.int w) ∧ h2 = h
def xO (E : String) (o : Option Int32) (h : AH) : String → AH → Prop := fun X h2 => o = none ∧ X = E ∧ h2 = h
def pE (o : Option Nat) (ev : Nat → Nat) (h : AH) : Option Value → AH → Prop := fun v h2 => ∃ j, o = some j ∧ v = some (.ref (ev j)) ∧ h2 = h
def xE (E : String) (o : Option Nat) (h : AH) : String → AH → Prop := fun X h2 => o = none ∧ X = E ∧ h2 = h
section GD
variable {p : Program} {l : Launch} {e : Env} {R : Room} {s : State} {m : MethodId} {args : Array Value} {below : List Frame} {meth : Method} {c : Code} {Q : State → Prop} {Y : YG} {nL : Nat} {cc : ByteArray} {own : String} {pc : Nat} {lv : List (Option Value)} {st : List Value} {h : AH} {k n : Nat}
theorem ofE {o : Option Nat} {ev : Nat → Nat} {h0 : AH} {pc2 : Nat} (kk : ∀ j, o = some j → Gd p l e R s m args below meth c Q Y nL pc2 lv (.ref (ev j) :: st) h0 k n) : ∀ (v : Option Value) (h' : AH), pE o ev h0 v h' → Gd p l e R s m args below meth c Q Y nL pc2 lv (v.toList ++ st) h' k n := by
  intro v h' q
  obtain ⟨j, h1, rfl, rfl⟩ := q
  exact kk j h1
theorem ofO {o : Option Int32} {h0 : AH} {pc2 : Nat} (kk : ∀ w, o = some w → Gd p l e R s m args below meth c Q Y nL pc2 lv (.int w :: st) h0 k n) : ∀ (v : Option Value) (h' : AH), pO o h0 v h' → Gd p l e R s m args below meth c Q Y nL pc2 lv (v.toList ++ st) h' k n := by
  intro v h' q
  obtain ⟨j, h1, rfl, rfl⟩ := q
  exact kk j h1
end GD
set_option maxRecDepth 100000 in
set_option maxHeartbeats 4000000 in
theorem K_X2_existing (l : Launch) (Y : YG) (hfl : l.stackTraces = false) {x : Nat} {v : Vw} {g : Sg} {Z : Nat → Prop} {h : AH} (r : RepC Y x v g Z h) (iv : Inv g) (i : Int32) : MX l Y yX2_existing cX2_existing 2 (some (.object "CatEvenings$Evening")) 6 90 1 6 [.ref x, .int i] h (pE (idx g.n i) v.ev h) (xE sIO (idx g.n i) h) := by
  have hn60 := iv.n60
  have hnp16 := iv.np
  have hnow := iv.now
  refine MX.of (by decide +kernel) (Nat.le_of_ble_eq_true rfl) ?_
  intro p e s m args0 below meth c C hr hout hnm
  refine g_iload_n C dX2_existing_0 rfl ?_
  refine g_if_lt C (tgt := 17) dX2_existing_1 (by decide) (fun q1 => ?_) (fun q1 => ?_)
  · exact g_throwS C hfl hout okT_125 (tf_ca_IndexOutOfBoundsException C) (tf_s213 C) dX2_existing_17 dX2_existing_20 dX2_existing_21 dX2_existing_23 dX2_existing_26 (Nat.le_of_ble_eq_true rfl) (Nat.le_of_ble_eq_true rfl) (Nat.le_of_ble_eq_true rfl) (Nat.le_of_ble_eq_true rfl)  (Nat.le_of_ble_eq_true rfl) (Nat.le_of_ble_eq_true rfl) (⟨idx_f (by unfold hasP; rw [decide_eq_false (Int32.not_le.mpr q1), Bool.false_and]), rfl, rfl⟩)
  · refine g_iload_n C dX2_existing_4 rfl ?_
    refine g_aload_n C dX2_existing_5 rfl (by first | rfl | exact isR_rf _) ?_
    refine gf_X2_26 C (r.x) rfl dX2_existing_6 ?_
    refine g_callF C (na := 0) (x := nL_size) ((K_Jx4a65c_size_8abf5 l Y r.t).K) (tf_Fsize C) w290 w293 w295 w6 w297 (by exact ⟨by decide, by decide, by decide +kernel⟩) (r.t) rfl rfl rfl dX2_existing_9 (Nat.le_of_ble_eq_true rfl) (Nat.le_of_ble_eq_true rfl) (Nat.le_of_ble_eq_true rfl) (Nat.le_of_ble_eq_true rfl) (Nat.le_of_ble_eq_true rfl) (ofS ?_)
    refine g_icmp_lt C (tgt := 27) dX2_existing_14 (by decide) (fun q2 => ?_) (fun q2 => ?_)
    · refine g_aload_n C dX2_existing_27 rfl (by first | rfl | exact isR_rf _) ?_
      refine gf_X2_26 C (r.x) rfl dX2_existing_28 ?_
      obtain ⟨j, hj, rfl, ej⟩ := idx_t (n := g.n) (i := i) (by omega) (by unfold hasP; rw [decide_eq_true (Int32.not_lt.mp q1), decide_eq_true q2]; rfl)
      refine g_iload_n C dX2_existing_31 rfl ?_
      refine g_callF C (na := 1) (x := nL_get) ((K_Jx4a65c_get_915e3 l Y r.t r.d hj r.cap.1 (by have := r.cap; omega)).K) (tf_Fget C) w315 w318 w320 w6 w322 (by exact ⟨by decide, by decide, by decide +kernel⟩) (r.t) rfl rfl rfl dX2_existing_32 (Nat.le_of_ble_eq_true rfl) (Nat.le_of_ble_eq_true rfl) (Nat.le_of_ble_eq_true rfl) (Nat.le_of_ble_eq_true rfl) (Nat.le_of_ble_eq_true rfl) (ofS ?_)
      rw [r.fd hj, rf_some]
      refine cc_X2_7 C (r.ev hj) dX2_existing_37 ?_
      exact g_aret C hr (by first | exact Or.inl ⟨_, rfl⟩ | exact Or.inr ⟨_, rfl⟩) (by first | rfl | exact isR_rf _) dX2_existing_40 (Nat.le_of_ble_eq_true rfl) (Nat.le_of_ble_eq_true rfl) (⟨j, ej, rfl, rfl⟩)
    · exact g_throwS C hfl hout okT_125 (tf_ca_IndexOutOfBoundsException C) (tf_s213 C) dX2_existing_17 dX2_existing_20 dX2_existing_21 dX2_existing_23 dX2_existing_26 (Nat.le_of_ble_eq_true rfl) (Nat.le_of_ble_eq_true rfl) (Nat.le_of_ble_eq_true rfl) (Nat.le_of_ble_eq_true rfl)  (Nat.le_of_ble_eq_true rfl) (Nat.le_of_ble_eq_true rfl) (⟨idx_f (by unfold hasP; rw [decide_eq_false q2, Bool.and_false]), rfl, rfl⟩)
set_option maxRecDepth 100000 in
set_option maxHeartbeats 4000000 in
theorem K_X2_labelOf (l : Launch) (Y : YG) {v : Vw} {g : Sg} {h : AH} {a : Option Nat} (ha : ∀ j, a = some j → h (v.ev j) = some (evC g v.ev v.sc j)) : MX l Y yX2_labelOf cX2_labelOf 1 (some .int) 0 0 0 0 [va_rf (a.map v.ev)] h (pS (some (.int (nO a))) h) (noX) := by
  cases a with
  | none =>
    refine MX.of (by decide +kernel) (Nat.le_of_ble_eq_true rfl) ?_
    intro p e s m args0 below meth c C hr hout hnm
    refine g_aload_n C dX2_labelOf_0 rfl (by first | rfl | exact isR_rf _) ?_
    refine g_ifnonnullN C dX2_labelOf_1 ?_
    refine g_iconst C (v := (-1)) dX2_labelOf_4 (by decide) ?_
    refine g_goto C (tgt := 12) dX2_labelOf_5 (by decide) ?_
    exact g_iret C hr dX2_labelOf_12 (Nat.le_of_ble_eq_true rfl) (Nat.le_of_ble_eq_true rfl) (⟨rfl, rfl⟩)
  | some j =>
    refine MX.of (by decide +kernel) (Nat.le_of_ble_eq_true rfl) ?_
    intro p e s m args0 below meth c C hr hout hnm
    refine g_aload_n C dX2_labelOf_0 rfl (by first | rfl | exact isR_rf _) ?_
    refine g_ifnonnull C (tgt := 8) dX2_labelOf_1 (by decide) ?_
    refine g_aload_n C dX2_labelOf_8 rfl (by first | rfl | exact isR_rf _) ?_
    refine gf_X2_85 C (ha j rfl) rfl dX2_labelOf_9 ?_
    exact g_iret C hr dX2_labelOf_12 (Nat.le_of_ble_eq_true rfl) (Nat.le_of_ble_eq_true rfl) (⟨rfl, rfl⟩)
set_option maxRecDepth 100000 in
set_option maxHeartbeats 4000000 in
theorem K_X2_meetingOf (l : Launch) (Y : YG) {x : Nat} {v : Vw} {g : Sg} {Z : Nat → Prop} {h : AH} (r : RepC Y x v g Z h) (iv : Inv g) {a b : Nat} (ha : a < g.n) (hb : b < g.n) : MX l Y yX2_meetingOf cX2_meetingOf 5 (some (.object "CatEvenings$Evening")) 1 20 0 0 [.ref (v.ev a), .ref (v.ev b)] h (pS (some (.ref (v.ev (lc g.par a b)))) h) (noX) := by
  have hn60 := iv.n60
  have hnp16 := iv.np
  have hnow := iv.now
  have hT := iv.tr
  refine MX.of (by decide +kernel) (Nat.le_of_ble_eq_true rfl) ?_
  intro p e s m args0 below meth c C hr hout hnm
  have lp : ∀ (d a1 b1 c1 : Nat), a1 + b1 < d → a1 ≤ a → b1 ≤ b → c1 + a1 + b1 ≤ a + b → lc g.par a1 b1 = lc g.par a b → Gd p l e (rmO 1 20 0 0) s m args0 below meth c (vx_MQ below (Qk Y (pS (some (.ref (v.ev (lc g.par a b)))) h)) (Xk Y (noX)) args0 s 0 0 Y.A) Y 5 7 [some (.ref (v.ev a)), some (.ref (v.ev b)), some (.ref (v.ev a1)), some (.ref (v.ev b1)), some (.int (nI c1))] [] h 0 0 := by
    intro d
    induction d with
    | zero => intro a1 b1 c1 h1; omega
    | succ d ih =>
      intro a1 b1 c1 hd h1 h2 h3 hS
      have e1 := r.ev (i := a1) (by omega)
      have e2 := r.ev (i := b1) (by omega)
      refine g_aload_n C dX2_meetingOf_7 rfl rfl ?_
      refine g_aload_n C dX2_meetingOf_8 rfl rfl ?_
      refine g_acmp_eq C (rx := some (v.ev a1)) (ry := some (v.ev b1)) (tgt := 49) dX2_meetingOf_9 (by decide) (fun q1 => ?_) (fun q1 => ?_)
      · have hab : a1 = b1 := r.inj (by omega) (by omega) (Option.some.inj q1)
        subst hab
        rw [lc_rf hT] at hS
        refine g_aload_n C dX2_meetingOf_49 rfl (by first | rfl | exact isR_rf _) ?_
        exact g_aret C hr (by first | exact Or.inl ⟨_, rfl⟩ | exact Or.inr ⟨_, rfl⟩) (by first | rfl | exact isR_rf _) dX2_meetingOf_50 (Nat.le_of_ble_eq_true rfl) (Nat.le_of_ble_eq_true rfl) (⟨by rw [hS], rfl⟩)
      · have hne : a1 ≠ b1 := fun z => q1 (by rw [z])
        refine g_iload C dX2_meetingOf_12 rfl ?_
        refine g_bipush C (v := nI 120) dX2_meetingOf_14 (by decide) ?_
        refine g_icmp_geN C (tgt := 49) dX2_meetingOf_16 (by decide) (by omega) (by omega) (fun q2 => ?_) (fun q2 => ?_)
        · omega
        · refine g_aload_n C dX2_meetingOf_19 rfl (by first | rfl | exact isR_rf _) ?_
          refine gf_X2_85 C (e1) rfl dX2_meetingOf_20 ?_
          refine g_aload_n C dX2_meetingOf_23 rfl (by first | rfl | exact isR_rf _) ?_
          refine gf_X2_85 C (e2) rfl dX2_meetingOf_24 ?_
          refine g_icmp_leN C (tgt := 38) dX2_meetingOf_27 (by decide) (by omega) (by omega) (fun q3 => ?_) (fun q3 => ?_)
          · have hlt : a1 < b1 := by omega
            refine g_aload_n C dX2_meetingOf_38 rfl (by first | rfl | exact isR_rf _) ?_
            refine g_callV C ((K_X0_above l Y e2).K) ok_X0_above w339 (e2) rfl rfl rfl dX2_meetingOf_39 (Nat.le_of_ble_eq_true rfl) (Nat.le_of_ble_eq_true rfl) (Nat.le_of_ble_eq_true rfl) (Nat.le_of_ble_eq_true rfl) (Nat.le_of_ble_eq_true rfl) (ofS ?_)
            rw [show (evP g v.ev b1).getD (v.ev b1) = v.ev (g.par b1) from by rw [show evP g v.ev b1 = some (v.ev (g.par b1)) from if_neg (by omega)]; rfl]
            have hp := hT.2 b1 (by omega)
            refine g_astore_n C dX2_meetingOf_42 (by decide) rfl ?_
            refine g_iincN C dX2_meetingOf_43 rfl (by decide) ?_
            refine g_goto C (tgt := 7) dX2_meetingOf_46 (by decide) ?_
            exact ih a1 (g.par b1) (c1 + 1) (by omega) h1 (by omega) (by omega) ((lc_step2 hT hlt).trans hS)
          · refine g_aload_n C dX2_meetingOf_30 rfl (by first | rfl | exact isR_rf _) ?_
            refine g_callV C ((K_X0_above l Y e1).K) ok_X0_above w339 (e1) rfl rfl rfl dX2_meetingOf_31 (Nat.le_of_ble_eq_true rfl) (Nat.le_of_ble_eq_true rfl) (Nat.le_of_ble_eq_true rfl) (Nat.le_of_ble_eq_true rfl) (Nat.le_of_ble_eq_true rfl) (ofS ?_)
            rw [show (evP g v.ev a1).getD (v.ev a1) = v.ev (g.par a1) from by rw [show evP g v.ev a1 = some (v.ev (g.par a1)) from if_neg (by omega)]; rfl]
            have hp := hT.2 a1 (by omega)
            refine g_astore_n C dX2_meetingOf_34 (by decide) rfl ?_
            refine g_goto C (tgt := 43) dX2_meetingOf_35 (by decide) ?_
            refine g_iincN C dX2_meetingOf_43 rfl (by decide) ?_
            refine g_goto C (tgt := 7) dX2_meetingOf_46 (by decide) ?_
            exact ih (g.par a1) b1 (c1 + 1) (by omega) (by omega) h2 (by omega) ((lc_step hT q3).trans hS)
  refine g_aload_n C dX2_meetingOf_0 rfl rfl ?_
  refine g_astore_n C dX2_meetingOf_1 (by decide) rfl ?_
  refine g_aload_n C dX2_meetingOf_2 rfl rfl ?_
  refine g_astore_n C dX2_meetingOf_3 (by decide) rfl ?_
  refine g_iconst C (v := nI 0) dX2_meetingOf_4 (by decide) ?_
  refine g_istore C dX2_meetingOf_5 (by decide) ?_
  exact lp (a + b + 1) a b 0 (by omega) (Nat.le_refl _) (Nat.le_refl _) (by omega) rfl
set_option maxRecDepth 100000 in
set_option maxHeartbeats 4000000 in
theorem K_X2_wayLength (l : Launch) (Y : YG) {x : Nat} {v : Vw} {g : Sg} {Z : Nat → Prop} {h : AH} (r : RepC Y x v g Z h) (iv : Inv g) {a b : Nat} (ha : a < g.n) (hb : b < g.n) : MX l Y yX2_wayLength cX2_wayLength 2 (some .int) 2 44 0 0 [.ref (v.ev a), .ref (v.ev b)] h (pS (some (.int (nI (wy g a b)))) h) (noX) := by
  have hn60 := iv.n60
  have hnp16 := iv.np
  have hnow := iv.now
  have e1 := r.ev ha
  have e2 := r.ev hb
  have hl := lc_le iv.tr a b
  have e3 := r.ev (i := lc g.par a b) (by omega)
  have hd := dp_lc iv a b
  refine MX.of (by decide +kernel) (Nat.le_of_ble_eq_true rfl) ?_
  intro p e s m args0 below meth c C hr hout hnm
  refine g_aload_n C dX2_wayLength_0 rfl (by first | rfl | exact isR_rf _) ?_
  refine gf_X2_143 C (e1) rfl dX2_wayLength_1 ?_
  refine g_aload_n C dX2_wayLength_4 rfl (by first | rfl | exact isR_rf _) ?_
  refine gf_X2_143 C (e2) rfl dX2_wayLength_5 ?_
  first | with_reducible refine g_iaddN C dX2_wayLength_8 ?_ | refine g_iadd C dX2_wayLength_8 ?_
  refine g_iconst C (v := nI 2) dX2_wayLength_9 (by decide) ?_
  refine g_aload_n C dX2_wayLength_10 rfl (by first | rfl | exact isR_rf _) ?_
  refine g_aload_n C dX2_wayLength_11 rfl (by first | rfl | exact isR_rf _) ?_
  refine g_callS C ((K_X2_meetingOf l Y r iv ha hb).K) ok_X2_meetingOf w336 rfl rfl dX2_wayLength_12 (Nat.le_of_ble_eq_true rfl) (Nat.le_of_ble_eq_true rfl) (Nat.le_of_ble_eq_true rfl) (Nat.le_of_ble_eq_true rfl) (Nat.le_of_ble_eq_true rfl) (ofS ?_)
  refine gf_X2_143 C (e3) rfl dX2_wayLength_15 ?_
  first | with_reducible refine g_imulN C dX2_wayLength_18 ?_ | refine g_imul C dX2_wayLength_18 ?_
  refine g_isubN C (by omega) dX2_wayLength_19 ?_
  exact g_iret C hr dX2_wayLength_20 (Nat.le_of_ble_eq_true rfl) (Nat.le_of_ble_eq_true rfl) (⟨rfl, rfl⟩)
set_option maxRecDepth 100000 in
set_option maxHeartbeats 4000000 in
theorem K_X2_placeInScene (l : Launch) (Y : YG) (hfl : l.stackTraces = false) {q pa np ct lb : Nat} {fp : Nat → Int32} {h : AH} (hq : h q = some (.inr (2, [.int (nI ct), .ref pa, .int (nI lb)]))) (hp : h pa = some (aI Y np fp)) (hnp : np ≤ 16) {pos : Nat → Nat} (hfp : ∀ j, j < np → fp j = nI (pos j)) (i : Int32) : MX l Y yX2_placeInScene cX2_placeInScene 2 (some .int) 6 90 1 6 [.ref q, .int i] h (pO ((idx np i).map (fun j => nI (pos j))) h) (xO sIO ((idx np i).map (fun j => nI (pos j))) h) := by
  refine MX.of (by decide +kernel) (Nat.le_of_ble_eq_true rfl) ?_
  intro p e s m args0 below meth c C hr hout hnm
  refine g_aload_n C dX2_placeInScene_0 rfl (by first | rfl | exact isR_rf _) ?_
  refine g_iload_n C dX2_placeInScene_1 rfl ?_
  refine g_callV C ((K_X1_has l Y hq hp hnp i).K) ok_X1_has w423 (hq) rfl rfl rfl dX2_placeInScene_2 (Nat.le_of_ble_eq_true rfl) (Nat.le_of_ble_eq_true rfl) (Nat.le_of_ble_eq_true rfl) (Nat.le_of_ble_eq_true rfl) (Nat.le_of_ble_eq_true rfl) (ofS ?_)
  refine g_if_neB C (tgt := 18) dX2_placeInScene_5 (by decide) (fun q1 => ?_) (fun q1 => ?_)
  · obtain ⟨j, hj, rfl, ej⟩ := idx_t (n := np) (i := i) (by omega) q1
    refine g_aload_n C dX2_placeInScene_18 rfl (by first | rfl | exact isR_rf _) ?_
    refine gf_X2_44 C (hq) rfl dX2_placeInScene_19 ?_
    refine g_iload_n C dX2_placeInScene_22 rfl ?_
    refine g_iald C hp rfl hj (by omega) dX2_placeInScene_23 ?_
    exact g_iret C hr dX2_placeInScene_24 (Nat.le_of_ble_eq_true rfl) (Nat.le_of_ble_eq_true rfl) (⟨_, by rw [ej]; rfl, by rw [hfp j hj], rfl⟩)
  · exact g_throwS C hfl hout okT_125 (tf_ca_IndexOutOfBoundsException C) (tf_s127 C) dX2_placeInScene_8 dX2_placeInScene_11 dX2_placeInScene_12 dX2_placeInScene_14 dX2_placeInScene_17 (Nat.le_of_ble_eq_true rfl) (Nat.le_of_ble_eq_true rfl) (Nat.le_of_ble_eq_true rfl) (Nat.le_of_ble_eq_true rfl)  (Nat.le_of_ble_eq_true rfl) (Nat.le_of_ble_eq_true rfl) (⟨by rw [idx_f q1]; rfl, rfl, rfl⟩)
theorem K_lyN (l : Launch) (Y : YG) {x : Nat} {v : Vw} {g : Sg} {Z : Nat → Prop} {h : AH} (r : RepC Y x v g Z h) (iv : Inv g) {j : Nat} (hj : j < g.n) : MX l Y yX1_countLying cX1_countLying 1 (some .int) 1 20 0 0 [.ref (v.sc j)] h (pS (some (.int (nI (lyN g j)))) h) noX := by
  have := K_X1_countLying l Y (r.sc hj) (r.pl hj) iv.np
  rw [bc_of iv.np (iv.lb hj)] at this
  exact this
theorem K_has (l : Launch) (Y : YG) {x : Nat} {v : Vw} {g : Sg} {Z : Nat → Prop} {h : AH} (r : RepC Y x v g Z h) (iv : Inv g) {j : Nat} (hj : j < g.n) (i : Int32) : MX l Y yX1_has cX1_has 2 (some .boolean) 0 0 0 0 [.ref (v.sc j), .int i] h (pS (some (bI (hasP g.np i))) h) noX := K_X1_has l Y (r.sc hj) (r.pl hj) iv.np i
theorem K_lk (l : Launch) (Y : YG) {x : Nat} {v : Vw} {g : Sg} {Z : Nat → Prop} {h : AH} (r : RepC Y x v g Z h) (iv : Inv g)  {a b : Nat} (ha : a < g.n) (hb : b < g.n) : MX l Y yX1_isLike cX1_isLike 3 (some .boolean) 0 0 0 0 [.ref (v.sc a), .ref (v.sc b)] h (pS (some (bI (lkB g a b))) h) noX := K_X1_isLike l Y (r.sc ha) (r.pl ha) iv.np (fun q hq => r.fp ha hq) (fun q hq => iv.pos ha hq) (iv.ct ha) (iv.lb16 ha) (r.sc hb) (r.pl hb) (fun q hq => r.fp hb hq) (fun q hq => iv.pos hb hq) (iv.ct hb) (iv.lb16 hb)
theorem K_ly (l : Launch) (Y : YG) {x : Nat} {v : Vw} {g : Sg} {Z : Nat → Prop} {h : AH} (r : RepC Y x v g Z h) (iv : Inv g) {a j : Nat} (ha : a < g.n) (hj : j < g.np) : MX l Y yX1_isLying cX1_isLying 2 (some .boolean) 1 21 0 0 [.ref (v.sc a), .int (nI j)] h (pS (some (bI ((g.lb a).testBit j))) h) noX := by
  have h16 := iv.np
  have := K_X1_isLying l Y (r.sc ha) (r.pl ha) iv.np (iv.lb16 ha) (j := j) (by omega)
  rw [show lyB g.np (g.lb a) j = (g.lb a).testBit j from by unfold lyB; rw [decide_eq_true hj, Bool.true_and]] at this
  exact this
