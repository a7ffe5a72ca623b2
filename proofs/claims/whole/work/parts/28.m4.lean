def NxM (np : Nat) (z : Nat × (Nat → Nat) × Nat) (v : Nat → Int32) : Prop := v 0 = nI z.1 ∧ ∀ q, q < np → v (1 + q) = nI (z.2.1 q + if z.2.2.testBit q then 100 else 0)
theorem RepM.ne {Y : YG} {xx : Nat} {t0 : Int32} {ar : Nat → Nat} {f : Nat → Nat → Int32} {g : Sg} {h : AH} (r : RepM Y xx t0 ar f g h) {k : Nat} (hk : k < 7) : xx ≠ ar k := ne_of r.x (r.2.1.1 k hk) (fun z => by cases z)
theorem RepM.nx {Y : YG} {xx : Nat} {t0 : Int32} {ar : Nat → Nat} {f : Nat → Nat → Int32} {g : Sg} {h : AH} (r : RepM Y xx t0 ar f g h) (v : Nat → Int32) : RepM Y xx t0 ar (fU f 6 v) g (hup h (ar 6) (aI Y 17 v)) := ⟨(hup_ne (r.ne (by decide))).trans r.x, r.2.1.row (by decide) v rfl, r.2.2⟩
abbrev nxG (g : Sg) (k v : Nat) : Option (Nat × (Nat → Nat) × Nat) := nxt g.np (g.ct g.now) (g.pos g.now) (g.lb g.now) k v
abbrev nowZ (g : Sg) : Nat × (Nat → Nat) × Nat := (g.ct g.now, g.pos g.now, g.lb g.now)
/-- whether, and what is in next behind it -/
def pNx (Y : YG) (ar : Nat → Nat) (np : Nat) (h : AH) (res : Option (Nat × (Nat → Nat) × Nat)) : Option Value → AH → Prop := fun vv h2 => ∃ v6, vv = some (bI res.isSome) ∧ h2 = hup h (ar 6) (aI Y 17 v6) ∧ ∀ z, res = some z → NxM np z v6
theorem hup_same {h : AH} {a : Nat} {e : va_E} (ha : h a = some e) : hup h a e = h := by
  funext b
  unfold hup
  by_cases q : b = a
  · rw [if_pos q, q, ha]
  · rw [if_neg q]
theorem pNx_none {Y : YG} {ar : Nat → Nat} {np : Nat} {h : AH} {v6 : Nat → Int32} (h6 : h (ar 6) = some (aI Y 17 v6)) {res : Option (Nat × (Nat → Nat) × Nat)} (hr : res = none) : pNx Y ar np h res (some (.int (nI 0))) h := ⟨v6, by rw [hr]; rfl, (hup_same h6).symm, fun z hz => by rw [hr] at hz; cases hz⟩
theorem nI_100 (a : Nat) : nI (a + 100) + (-100) = nI a := by
  rw [← nI_add, Int32.add_assoc, show nI 100 + (-100) = 0 by decide, Int32.add_zero]
def lbx (up : Bool) (lb v : Nat) : Nat := if up = true then lb ^^^ 2 ^ v else lb ||| 2 ^ v
theorem nxt_turn {np ct lb k v : Nat} {pos : Nat → Nat} {up : Bool} (hk : (k = 1 ∧ up = false) ∨ (k = 2 ∧ up = true)) : nxt np ct pos lb k v = if v < np ∧ lb.testBit v = up ∧ bes ct (pos v) = true then some (ct, pos, lbx up lb v) else none := by
  rcases hk with ⟨rfl, rfl⟩ | ⟨rfl, rfl⟩ <;> rfl
theorem lbx_bit {up : Bool} {lb v : Nat} (hb : lb.testBit v = up) (q : Nat) : (lbx up lb v).testBit q = if q = v then !up else lb.testBit q := by
  unfold lbx
  cases up
  · rw [if_neg (by decide), Nat.testBit_or, Nat.testBit_two_pow]
    by_cases h : q = v
    · rw [if_pos h, h, hb]; simp
    · rw [if_neg h, decide_eq_false (fun z => h z.symm), Bool.or_false]
  · rw [if_pos rfl, Nat.testBit_xor, Nat.testBit_two_pow]
    by_cases h : q = v
    · rw [if_pos h, h, hb]; simp
    · rw [if_neg h, decide_eq_false (fun z => h z.symm), Bool.xor_false]
set_option maxRecDepth 100000 in
set_option maxHeartbeats 4000000 in
theorem K_X3_steps (l : Launch) (Y : YG) {x : Nat} {th : Int32} {ar : Nat → Nat} {f : Nat → Nat → Int32} {g : Sg} {h : AH} (r : RepM Y x th ar f g h) (iv : Inv g) (hN : NxM g.np (nowZ g) (f 6)) {d : Nat} (hd8 : d < 8) : MX l Y yX3_steps cX3_steps 2 (some .boolean) 3 65 0 0 [.ref x, .int (nI d)] h (pNx Y ar g.np h (nxG g 0 d)) (noX) := by
  have hn60 := iv.n60
  have hnp16 := iv.np
  have hnow := iv.now
  have hn1 := iv.n1
  have hct := iv.ct hnow
  refine MX.of (by decide +kernel) (Nat.le_of_ble_eq_true rfl) ?_
  intro p e s m args0 below meth c C hr hout hnm
  refine g_aload_n C dX3_steps_0 rfl (by first | rfl | exact isR_rf _) ?_
  refine gf_X3_32 C (r.x) rfl dX3_steps_1 ?_
  refine g_iconst C (v := nI 0) dX3_steps_4 (by decide) ?_
  refine g_aload_n C dX3_steps_5 rfl (by first | rfl | exact isR_rf _) ?_
  refine g_callV C ((K_X3_cat l Y r iv).K) ok_X3_cat w750 (r.x) rfl rfl rfl dX3_steps_6 (Nat.le_of_ble_eq_true rfl) (Nat.le_of_ble_eq_true rfl) (Nat.le_of_ble_eq_true rfl) (Nat.le_of_ble_eq_true rfl) (Nat.le_of_ble_eq_true rfl) (ofS ?_)
  refine g_iload_n C dX3_steps_9 rfl ?_
  refine g_callS C ((K_X3_farther l Y hct hd8).K) ok_X3_farther w754 rfl rfl dX3_steps_10 (Nat.le_of_ble_eq_true rfl) (Nat.le_of_ble_eq_true rfl) (Nat.le_of_ble_eq_true rfl) (Nat.le_of_ble_eq_true rfl) (Nat.le_of_ble_eq_true rfl) (ofS ?_)
  refine g_iast C r.a6 rfl (show 0 < 17 by decide) (by decide) dX3_steps_13 ?_
  have r6 := r.nx (upd (f 6) 0 (nO (fa (g.ct g.now) d)))
  refine g_aload_n C dX3_steps_14 rfl (by first | rfl | exact isR_rf _) ?_
  refine gf_X3_32 C (r6.x) rfl dX3_steps_15 ?_
  refine g_iconst C (v := nI 0) dX3_steps_18 (by decide) ?_
  refine g_iald C hup_eq rfl (show 0 < 17 by decide) (by decide) dX3_steps_19 ?_
  have en : nxG g 0 d = (match fa (g.ct g.now) d with
    | none => none
    | some c => some (c, g.pos g.now, g.lb g.now)) := rfl
  rw [show upd (f 6) 0 (nO (fa (g.ct g.now) d)) 0 = nO (fa (g.ct g.now) d) from if_pos rfl]
  cases hf : fa (g.ct g.now) d with
  | none =>
    rw [hf] at en
    refine g_iconst C (v := -1) dX3_steps_20 (by decide) ?_
    refine g_icmp_eq C (tgt := 28) dX3_steps_21 (by decide) (fun q => ?_) (fun q => absurd rfl q)
    refine g_iconst C (v := nI 0) dX3_steps_28 (by decide) ?_
    exact g_zret C hr (Or.inl rfl) dX3_steps_29 (by omega) (by omega) ⟨_, by rw [en]; rfl, rfl, fun z hz => by rw [en] at hz; cases hz⟩
  | some c1 =>
    rw [hf] at en
    have hc1 := fa_lt hf
    refine g_iconst C (v := -1) dX3_steps_20 (by decide) ?_
    refine g_icmp_eq C (tgt := 28) dX3_steps_21 (by decide) (fun q => absurd q (nI_m1 (c := c1) (by omega))) (fun q => ?_)
    refine g_iconst C (v := nI 1) dX3_steps_24 (by decide) ?_
    refine g_goto C (tgt := 29) dX3_steps_25 (by decide) ?_
    exact g_zret C hr (Or.inr rfl) dX3_steps_29 (by omega) (by omega) ⟨_, by rw [en]; rfl, rfl, fun z hz => by
      rw [en] at hz
      cases hz
      refine ⟨if_pos rfl, fun q hq => ?_⟩
      show upd (f 6) 0 (nO (some c1)) (1 + q) = _
      rw [show upd (f 6) 0 (nO (some c1)) (1 + q) = f 6 (1 + q) from if_neg (by omega)]
      exact hN.2 q hq⟩
set_option maxRecDepth 100000 in
set_option maxHeartbeats 4000000 in
theorem K_X3_turns (l : Launch) (Y : YG) {x : Nat} {th : Int32} {ar : Nat → Nat} {f : Nat → Nat → Int32} {g : Sg} {h : AH} (r : RepM Y x th ar f g h) (iv : Inv g) (hN : NxM g.np (nowZ g) (f 6)) {v k : Nat} {up : Bool} (hv : v < 16) (hk : (k = 1 ∧ up = false) ∨ (k = 2 ∧ up = true)) : MX l Y yX3_turns cX3_turns 3 (some .boolean) 2 44 0 0 [.ref x, .int (nI v), bI up] h (pNx Y ar g.np h (nxG g k v)) (noX) := by
  have hn60 := iv.n60
  have hnp16 := iv.np
  have hnow := iv.now
  have hn1 := iv.n1
  have hct := iv.ct hnow
  have en : nxG g k v = _ := nxt_turn hk
  refine MX.of (by decide +kernel) (Nat.le_of_ble_eq_true rfl) ?_
  intro p e s m args0 below meth c C hr hout hnm
  have nul : nxG g k v = none → Gd p l e (rmO 2 44 0 0) s m args0 below meth c (vx_MQ below (Qk Y (pNx Y ar g.np h (nxG g k v))) (Xk Y (noX)) args0 s 0 0 Y.A) Y 3 53 [some (.ref x), some (.int (nI v)), some (bI up)] [] h 0 0 := by
    intro hz
    refine g_iconst C (v := nI 0) dX3_turns_53 (by decide) ?_
    exact g_zret C hr (by exact Or.inl rfl) dX3_turns_54 (Nat.le_of_ble_eq_true rfl) (Nat.le_of_ble_eq_true rfl) (pNx_none r.a6 hz)
  have main : v < g.np → (g.lb g.now).testBit v = up → Gd p l e (rmO 2 44 0 0) s m args0 below meth c (vx_MQ below (Qk Y (pNx Y ar g.np h (nxG g k v))) (Xk Y (noX)) args0 s 0 0 Y.A) Y 3 31 [some (.ref x), some (.int (nI v)), some (bI up)] [] h 0 0 := by
    intro hvn hbit
    obtain ⟨z1, z2, z3⟩ := pq_mod iv hnow hvn
    have hP := iv.pos hnow hvn
    refine g_aload_n C dX3_turns_31 rfl (by first | rfl | exact isR_rf _) ?_
    refine g_callV C ((K_X3_cat l Y r iv).K) ok_X3_cat w750 (r.x) rfl rfl rfl dX3_turns_32 (Nat.le_of_ble_eq_true rfl) (Nat.le_of_ble_eq_true rfl) (Nat.le_of_ble_eq_true rfl) (Nat.le_of_ble_eq_true rfl) (Nat.le_of_ble_eq_true rfl) (ofS ?_)
    refine g_aload_n C dX3_turns_35 rfl (by first | rfl | exact isR_rf _) ?_
    refine g_aload_n C dX3_turns_36 rfl (by first | rfl | exact isR_rf _) ?_
    refine gf_X3_45 C (r.x) rfl dX3_turns_37 ?_
    refine g_iload_n C dX3_turns_40 rfl ?_
    refine g_callV C ((K_X3_piece l Y r iv hnow hvn).K) ok_X3_piece w726 (r.x) rfl rfl rfl dX3_turns_41 (Nat.le_of_ble_eq_true rfl) (Nat.le_of_ble_eq_true rfl) (Nat.le_of_ble_eq_true rfl) (Nat.le_of_ble_eq_true rfl) (Nat.le_of_ble_eq_true rfl) (ofS ?_)
    refine g_bipush C (v := nI 100) dX3_turns_44 (by decide) ?_
    refine g_iremN C dX3_turns_46 z2 (by decide) ?_
    rw [z1]
    refine g_callS C ((K_X3_isBeside l Y hct hP).K) ok_X3_isBeside w771 rfl rfl dX3_turns_47 (Nat.le_of_ble_eq_true rfl) (Nat.le_of_ble_eq_true rfl) (Nat.le_of_ble_eq_true rfl) (Nat.le_of_ble_eq_true rfl) (Nat.le_of_ble_eq_true rfl) (ofS ?_)
    cases hb : bes (g.ct g.now) (g.pos g.now v)
    · refine g_if_neB C (tgt := 55) dX3_turns_50 (by decide) (fun q => absurd q (by decide)) (fun q => ?_)
      exact nul (en.trans (if_neg (fun w => by rw [hb] at w; exact absurd w.2.2 (by decide))))
    · have en2 : nxG g k v = some (g.ct g.now, g.pos g.now, lbx up (g.lb g.now) v) := en.trans (if_pos ⟨hvn, hbit, hb⟩)
      refine g_if_neB C (tgt := 55) dX3_turns_50 (by decide) (fun q => ?_) (fun q => absurd q (by decide))
      have h6 := hN.2 v hvn
      have fin : ∀ w : Int32, f 6 (1 + v) + w = nI (g.pos g.now v + if (!up) = true then 100 else 0) → NxM g.np (g.ct g.now, g.pos g.now, lbx up (g.lb g.now) v) (upd (f 6) (1 + v) (f 6 (1 + v) + w)) := by
        intro w hw
        refine ⟨(if_neg (by omega)).trans hN.1, fun q hq => ?_⟩
        show upd (f 6) (1 + v) (f 6 (1 + v) + w) (1 + q) = nI (g.pos g.now q + if (lbx up (g.lb g.now) v).testBit q = true then 100 else 0)
        rw [lbx_bit hbit]
        unfold upd
        by_cases hqv : q = v
        · rw [if_pos (by omega), hw, if_pos hqv, hqv]
        · rw [if_neg (by omega), if_neg hqv]
          exact hN.2 q hq
      refine g_aload_n C dX3_turns_55 rfl (by first | rfl | exact isR_rf _) ?_
      refine gf_X3_32 C (r.x) rfl dX3_turns_56 ?_
      refine g_iconst C (v := nI 1) dX3_turns_59 (by decide) ?_
      refine g_iload_n C dX3_turns_60 rfl ?_
      first | with_reducible refine g_iaddN C dX3_turns_61 ?_ | refine g_iadd C dX3_turns_61 ?_
      refine g_dup2 C dX3_turns_62 (by first | rfl | exact cat_rf _) (by first | rfl | exact cat_rf _) ?_
      refine g_iald C r.a6 rfl (show 1 + v < 17 by omega) (by decide) dX3_turns_63 ?_
      cases up
      · refine g_iload_n C dX3_turns_64 rfl ?_
        refine g_if_eqB C (tgt := 73) dX3_turns_65 (by decide) (fun q => ?_) (fun q => absurd q (by decide))
        refine g_bipush C (v := nI 100) dX3_turns_73 (by decide) ?_
        refine g_iadd C dX3_turns_75 ?_
        refine g_iast C r.a6 rfl (show 1 + v < 17 by omega) (by decide) dX3_turns_76 ?_
        refine g_iconst C (v := nI 1) dX3_turns_77 (by decide) ?_
        exact g_zret C hr (Or.inr rfl) dX3_turns_78 (by omega) (by omega) ⟨_, by rw [en2]; rfl, rfl, fun z hz => by
          rw [en2] at hz
          cases hz
          refine fin _ ?_
          rw [h6, hbit]
          exact nI_add _ 100⟩
      · refine g_iload_n C dX3_turns_64 rfl ?_
        refine g_if_eqB C (tgt := 73) dX3_turns_65 (by decide) (fun q => absurd q (by decide)) (fun q => ?_)
        refine g_bipush C (v := -100) dX3_turns_68 (by decide) ?_
        refine g_goto C (tgt := 75) dX3_turns_70 (by decide) ?_
        refine g_iadd C dX3_turns_75 ?_
        refine g_iast C r.a6 rfl (show 1 + v < 17 by omega) (by decide) dX3_turns_76 ?_
        refine g_iconst C (v := nI 1) dX3_turns_77 (by decide) ?_
        exact g_zret C hr (Or.inr rfl) dX3_turns_78 (by omega) (by omega) ⟨_, by rw [en2]; rfl, rfl, fun z hz => by
          rw [en2] at hz
          cases hz
          refine fin _ ?_
          rw [h6, hbit]
          exact nI_100 _⟩
  refine g_aload_n C dX3_turns_0 rfl (by first | rfl | exact isR_rf _) ?_
  refine g_iload_n C dX3_turns_1 rfl ?_
  refine g_callV C ((K_X3_isPiece l Y r iv _).K) ok_X3_isPiece w767 (r.x) rfl rfl rfl dX3_turns_2 (Nat.le_of_ble_eq_true rfl) (Nat.le_of_ble_eq_true rfl) (Nat.le_of_ble_eq_true rfl) (Nat.le_of_ble_eq_true rfl) (Nat.le_of_ble_eq_true rfl) (ofS ?_)
  rw [hasP_N iv.np (by omega)]
  by_cases hvn : v < g.np
  · rw [decide_eq_true hvn]
    refine g_if_eqB C (tgt := 53) dX3_turns_5 (by decide) (fun q => absurd q (by decide)) (fun q => ?_)
    obtain ⟨z1, z2, z3⟩ := pq_mod iv hnow hvn
    refine g_aload_n C dX3_turns_8 rfl (by first | rfl | exact isR_rf _) ?_
    refine g_aload_n C dX3_turns_9 rfl (by first | rfl | exact isR_rf _) ?_
    refine gf_X3_45 C (r.x) rfl dX3_turns_10 ?_
    refine g_iload_n C dX3_turns_13 rfl ?_
    refine g_callV C ((K_X3_piece l Y r iv hnow hvn).K) ok_X3_piece w726 (r.x) rfl rfl rfl dX3_turns_14 (Nat.le_of_ble_eq_true rfl) (Nat.le_of_ble_eq_true rfl) (Nat.le_of_ble_eq_true rfl) (Nat.le_of_ble_eq_true rfl) (Nat.le_of_ble_eq_true rfl) (ofS ?_)
    refine g_bipush C (v := nI 100) dX3_turns_17 (by decide) ?_
    refine g_icmp_ltN C (tgt := 26) dX3_turns_19 (by decide) z2 (by decide) (fun q1 => ?_) (fun q1 => ?_)
    · have hb : (g.lb g.now).testBit v = false := by cases hz : (g.lb g.now).testBit v with | false => rfl | true => (have := z3.mpr hz; omega)
      refine g_iconst C (v := nI 0) dX3_turns_26 (by decide) ?_
      refine g_iload_n C dX3_turns_27 rfl ?_
      cases up
      · refine g_icmp_ne C (tgt := 53) dX3_turns_28 (by decide) (fun q => absurd rfl q) (fun q => main hvn hb)
      · refine g_icmp_ne C (tgt := 53) dX3_turns_28 (by decide) (fun q => nul (en.trans (if_neg (fun w => by rw [hb] at w; exact absurd w.2.1 (by decide))))) (fun q => absurd q (by decide))
    · have hb := z3.mp q1
      refine g_iconst C (v := nI 1) dX3_turns_22 (by decide) ?_
      refine g_goto C (tgt := 27) dX3_turns_23 (by decide) ?_
      refine g_iload_n C dX3_turns_27 rfl ?_
      cases up
      · refine g_icmp_ne C (tgt := 53) dX3_turns_28 (by decide) (fun q => nul (en.trans (if_neg (fun w => by rw [hb] at w; exact absurd w.2.1 (by decide))))) (fun q => absurd q (by decide))
      · refine g_icmp_ne C (tgt := 53) dX3_turns_28 (by decide) (fun q => absurd rfl q) (fun q => main hvn hb)
  · rw [decide_eq_false hvn]
    refine g_if_eqB C (tgt := 53) dX3_turns_5 (by decide) (fun q => ?_) (fun q => absurd q (by decide))
    exact nul (en.trans (if_neg (fun w => hvn w.1)))
set_option maxRecDepth 100000 in
set_option maxHeartbeats 4000000 in
theorem K_X3_pushes (l : Launch) (Y : YG) {x : Nat} {th : Int32} {ar : Nat → Nat} {f : Nat → Nat → Int32} {g : Sg} {h : AH} (r : RepM Y x th ar f g h) (iv : Inv g) (hN : NxM g.np (nowZ g) (f 6)) {d : Nat} (hd8 : d < 8) : MX l Y yX3_pushes cX3_pushes 5 (some .boolean) 3 66 0 0 [.ref x, .int (nI d)] h (pNx Y ar g.np h (nxG g 3 d)) (noX) := by
  have hn60 := iv.n60
  have hnp16 := iv.np
  have hnow := iv.now
  have hn1 := iv.n1
  have hct := iv.ct hnow
  have en : nxG g 3 d = (match fa (g.ct g.now) d with
      | none => none
      | some a => match pon (g.pos g.now) a g.np 0 with
        | none => none
        | some q => if (g.lb g.now).testBit q = true then none else match fa a d with
          | none => none
          | some b => match pon (g.pos g.now) b g.np 0 with
            | none => some (a, uN (g.pos g.now) q b, g.lb g.now)
            | some _ => none) := rfl
  refine MX.of (by decide +kernel) (Nat.le_of_ble_eq_true rfl) ?_
  intro p e s m args0 below meth c C hr hout hnm
  have nul43 : nxG g 3 d = none → ∀ u1 u2 u3, Gd p l e (rmO 3 66 0 0) s m args0 below meth c (vx_MQ below (Qk Y (pNx Y ar g.np h (nxG g 3 d))) (Xk Y (noX)) args0 s 0 0 Y.A) Y 5 43 [some (.ref x), some (.int (nI d)), u1, u2, u3] [] h 0 0 := by
    intro hz u1 u2 u3
    refine g_iconst C (v := nI 0) dX3_pushes_43 (by decide) ?_
    exact g_zret C hr (by exact Or.inl rfl) dX3_pushes_44 (Nat.le_of_ble_eq_true rfl) (Nat.le_of_ble_eq_true rfl) (pNx_none r.a6 hz)
  have nul68 : nxG g 3 d = none → ∀ u1 u2 u3, Gd p l e (rmO 3 66 0 0) s m args0 below meth c (vx_MQ below (Qk Y (pNx Y ar g.np h (nxG g 3 d))) (Xk Y (noX)) args0 s 0 0 Y.A) Y 5 68 [some (.ref x), some (.int (nI d)), u1, u2, u3] [] h 0 0 := by
    intro hz u1 u2 u3
    refine g_iconst C (v := nI 0) dX3_pushes_68 (by decide) ?_
    exact g_zret C hr (by exact Or.inl rfl) dX3_pushes_69 (Nat.le_of_ble_eq_true rfl) (Nat.le_of_ble_eq_true rfl) (pNx_none r.a6 hz)
  refine g_aload_n C dX3_pushes_0 rfl (by first | rfl | exact isR_rf _) ?_
  refine g_callV C ((K_X3_cat l Y r iv).K) ok_X3_cat w750 (r.x) rfl rfl rfl dX3_pushes_1 (Nat.le_of_ble_eq_true rfl) (Nat.le_of_ble_eq_true rfl) (Nat.le_of_ble_eq_true rfl) (Nat.le_of_ble_eq_true rfl) (Nat.le_of_ble_eq_true rfl) (ofS ?_)
  refine g_iload_n C dX3_pushes_4 rfl ?_
  refine g_callS C ((K_X3_farther l Y hct hd8).K) ok_X3_farther w754 rfl rfl dX3_pushes_5 (Nat.le_of_ble_eq_true rfl) (Nat.le_of_ble_eq_true rfl) (Nat.le_of_ble_eq_true rfl) (Nat.le_of_ble_eq_true rfl) (Nat.le_of_ble_eq_true rfl) (ofS ?_)
  cases hf : fa (g.ct g.now) d with
  | none =>
    rw [hf] at en
    refine g_istore_n C dX3_pushes_8 (by decide) ?_
    refine g_iload_n C dX3_pushes_9 rfl ?_
    refine g_iconst C (v := -1) dX3_pushes_10 (by decide) ?_
    refine g_icmp_ne C (tgt := 18) dX3_pushes_11 (by decide) (fun q => absurd rfl q) (fun q => ?_)
    refine g_iconst C (v := -1) dX3_pushes_14 (by decide) ?_
    refine g_goto C (tgt := 23) dX3_pushes_15 (by decide) ?_
    refine g_istore_n C dX3_pushes_23 (by decide) ?_
    refine g_iload_n C dX3_pushes_24 rfl ?_
    refine g_iconst C (v := -1) dX3_pushes_25 (by decide) ?_
    refine g_icmp_eq C (tgt := 43) dX3_pushes_26 (by decide) (fun q => nul43 en _ _ _) (fun q => absurd rfl q)
  | some a =>
    rw [hf] at en
    dsimp only at en
    have ha := fa_lt hf
    refine g_istore_n C dX3_pushes_8 (by decide) ?_
    refine g_iload_n C dX3_pushes_9 rfl ?_
    refine g_iconst C (v := -1) dX3_pushes_10 (by decide) ?_
    refine g_icmp_ne C (tgt := 18) dX3_pushes_11 (by decide) (fun q => ?_) (fun q => absurd q (nI_m1 (c := a) (by omega)))
    refine g_aload_n C dX3_pushes_18 rfl rfl ?_
    refine g_iload_n C dX3_pushes_19 rfl ?_
    refine g_callV C (K_X3_pieceOn l Y r iv (nI_posEq2 iv ha)).K ok_X3_pieceOn w722 r.x rfl rfl rfl dX3_pushes_20 (Nat.le_of_ble_eq_true rfl) (Nat.le_of_ble_eq_true rfl) (Nat.le_of_ble_eq_true rfl) (Nat.le_of_ble_eq_true rfl) (Nat.le_of_ble_eq_true rfl) (ofS ?_)
    refine g_istore_n C dX3_pushes_23 (by decide) ?_
    refine g_iload_n C dX3_pushes_24 rfl ?_
    refine g_iconst C (v := -1) dX3_pushes_25 (by decide) ?_
    cases hp : pon (g.pos g.now) a g.np 0 with
    | none =>
      rw [hp] at en
      refine g_icmp_eq C (tgt := 43) dX3_pushes_26 (by decide) (fun q => nul43 en _ _ _) (fun q => absurd rfl q)
    | some p1 =>
      rw [hp] at en
      dsimp only at en
      have hpl := (pon_lt hp).2.1
      have hp1 : p1 < g.np := by omega
      obtain ⟨z1, z2, z3⟩ := pq_mod iv hnow hp1
      refine g_icmp_eq C (tgt := 43) dX3_pushes_26 (by decide) (fun q => absurd q (nI_m1 (c := p1) (by omega))) (fun q => ?_)
      refine g_aload_n C dX3_pushes_29 rfl rfl ?_
      refine g_aload_n C dX3_pushes_30 rfl rfl ?_
      refine gf_X3_45 C r.x rfl dX3_pushes_31 ?_
      refine g_iload_n C dX3_pushes_34 rfl ?_
      refine g_callV C (K_X3_piece l Y r iv hnow hp1).K ok_X3_piece w726 r.x rfl rfl rfl dX3_pushes_35 (Nat.le_of_ble_eq_true rfl) (Nat.le_of_ble_eq_true rfl) (Nat.le_of_ble_eq_true rfl) (Nat.le_of_ble_eq_true rfl) (Nat.le_of_ble_eq_true rfl) (ofS ?_)
      refine g_bipush C (v := nI 100) dX3_pushes_38 (by decide) ?_
      refine g_icmp_ltN C (tgt := 45) dX3_pushes_40 (by decide) z2 (by decide) (fun q2 => ?_) (fun q2 => nul43 (en.trans (if_pos (z3.mp q2))) _ _ _)
      have hb : ¬ (g.lb g.now).testBit p1 = true := fun w => by have := z3.mpr w; omega
      rw [if_neg hb] at en
      refine g_iload_n C dX3_pushes_45 rfl ?_
      refine g_iload_n C dX3_pushes_46 rfl ?_
      refine g_callS C (K_X3_farther l Y ha hd8).K ok_X3_farther w754 rfl rfl dX3_pushes_47 (Nat.le_of_ble_eq_true rfl) (Nat.le_of_ble_eq_true rfl) (Nat.le_of_ble_eq_true rfl) (Nat.le_of_ble_eq_true rfl) (Nat.le_of_ble_eq_true rfl) (ofS ?_)
      refine g_istore C dX3_pushes_50 (by decide) ?_
      refine g_iload C dX3_pushes_52 rfl ?_
      refine g_iconst C (v := -1) dX3_pushes_54 (by decide) ?_
      cases hf2 : fa a d with
      | none =>
        rw [hf2] at en
        refine g_icmp_eq C (tgt := 68) dX3_pushes_55 (by decide) (fun q => nul68 en _ _ _) (fun q => absurd rfl q)
      | some b =>
        rw [hf2] at en
        dsimp only at en
        have hb2 := fa_lt hf2
        refine g_icmp_eq C (tgt := 68) dX3_pushes_55 (by decide) (fun q => absurd q (nI_m1 (c := b) (by omega))) (fun q => ?_)
        refine g_aload_n C dX3_pushes_58 rfl rfl ?_
        refine g_iload C dX3_pushes_59 rfl ?_
        refine g_callV C (K_X3_pieceOn l Y r iv (nI_posEq2 iv hb2)).K ok_X3_pieceOn w722 r.x rfl rfl rfl dX3_pushes_61 (Nat.le_of_ble_eq_true rfl) (Nat.le_of_ble_eq_true rfl) (Nat.le_of_ble_eq_true rfl) (Nat.le_of_ble_eq_true rfl) (Nat.le_of_ble_eq_true rfl) (ofS ?_)
        refine g_iconst C (v := -1) dX3_pushes_64 (by decide) ?_
        cases hp2 : pon (g.pos g.now) b g.np 0 with
        | some p2 =>
          rw [hp2] at en
          have hpl2 := (pon_lt hp2).2.1
          refine g_icmp_eq C (tgt := 70) dX3_pushes_65 (by decide) (fun q => absurd q (nI_m1 (c := p2) (by omega))) (fun q => nul68 en _ _ _)
        | none =>
          rw [hp2] at en
          dsimp only at en
          refine g_icmp_eq C (tgt := 70) dX3_pushes_65 (by decide) (fun q => ?_) (fun q => absurd rfl q)
          refine g_aload_n C dX3_pushes_70 rfl rfl ?_
          refine gf_X3_32 C r.x rfl dX3_pushes_71 ?_
          refine g_iconst C (v := nI 0) dX3_pushes_74 (by decide) ?_
          refine g_iload_n C dX3_pushes_75 rfl ?_
          refine g_iast C r.a6 rfl (show 0 < 17 by decide) (by decide) dX3_pushes_76 ?_
          have r6 := r.nx (upd (f 6) 0 (nI a))
          refine g_aload_n C dX3_pushes_77 rfl rfl ?_
          refine gf_X3_32 C r6.x rfl dX3_pushes_78 ?_
          refine g_iconst C (v := nI 1) dX3_pushes_81 (by decide) ?_
          refine g_iload_n C dX3_pushes_82 rfl ?_
          refine g_iaddN C dX3_pushes_83 ?_
          refine g_iload C dX3_pushes_84 rfl ?_
          refine g_iast C hup_eq rfl (show 1 + p1 < 17 by omega) (by decide) dX3_pushes_86 ?_
          rw [hup_hup]
          refine g_iconst C (v := nI 1) dX3_pushes_87 (by decide) ?_
          exact g_zret C hr (Or.inr rfl) dX3_pushes_88 (by omega) (by omega) ⟨_, by rw [en]; rfl, rfl, fun z hz => by
            rw [en] at hz
            cases hz
            refine ⟨?_, fun q hq => ?_⟩
            · show upd (upd (f 6) 0 (nI a)) (1 + p1) (nI b) 0 = nI a
              unfold upd
              rw [if_neg (by omega), if_pos rfl]
            · show upd (upd (f 6) 0 (nI a)) (1 + p1) (nI b) (1 + q) = nI (uN (g.pos g.now) p1 b q + if (g.lb g.now).testBit q = true then 100 else 0)
              unfold upd uN
              by_cases hqp : q = p1
              · rw [if_pos (by omega), if_pos hqp, hqp, if_neg hb]
                rfl
              · rw [if_neg (by omega), if_neg (by omega), if_neg hqp]
                exact hN.2 q hq⟩
set_option maxRecDepth 100000 in
set_option maxHeartbeats 4000000 in
theorem K_X3_does (l : Launch) (Y : YG) {x : Nat} {th : Int32} {ar : Nat → Nat} {f : Nat → Nat → Int32} {g : Sg} {h : AH} (r : RepM Y x th ar f g h) (iv : Inv g) {k v : Nat} (hk4 : k < 4) (hv16 : v < 16) (hv8 : k = 0 ∨ k = 3 → v < 8) : MX l Y yX3_does cX3_does 3 (some .boolean) 4 90 0 0 [.ref x, .int (nI k), .int (nI v)] h (pNx Y ar g.np h (nxG g k v)) (noX) := by
  have hn60 := iv.n60
  have hnp16 := iv.np
  have hnow := iv.now
  have hn1 := iv.n1
  refine MX.of (by decide +kernel) (Nat.le_of_ble_eq_true rfl) ?_
  intro p e s m args0 below meth c C hr hout hnm
  refine g_aload_n C dX3_does_0 rfl (by first | rfl | exact isR_rf _) ?_
  refine gf_X3_29 C (r.x) rfl dX3_does_1 ?_
  skip
  refine g_bipush C (v := nI 17) dX3_does_4 (by decide) ?_
  refine g_aload_n C dX3_does_6 rfl (by first | rfl | exact isR_rf _) ?_
  refine gf_X3_45 C (r.x) rfl dX3_does_7 ?_
  first | with_reducible refine g_imulN C dX3_does_10 ?_ | refine g_imul C dX3_does_10 ?_
  refine g_aload_n C dX3_does_11 rfl (by first | rfl | exact isR_rf _) ?_
  refine gf_X3_32 C (r.x) rfl dX3_does_12 ?_
  refine g_iconst C (v := nI 0) dX3_does_15 (by decide) ?_
  refine g_bipush C (v := nI 17) dX3_does_16 (by decide) ?_
  refine g_copyI C r.a5 r.a6 w745 w175 w174 w10 (show 17 * g.now + 17 ≤ 1020 by omega) (by decide) (by decide) dX3_does_18 (Nat.le_of_ble_eq_true rfl) (Nat.le_of_ble_eq_true rfl) ?_
  generalize hC : va_cpy (f 5) (f 6) (17 * g.now) 0 17 = cp
  have r6 := r.nx cp
  have hN : NxM g.np (nowZ g) (fU f 6 cp 6) := by
    show NxM g.np (nowZ g) cp
    subst hC
    refine ⟨?_, fun q hq => ?_⟩
    · rw [pk_cpy_in (Nat.le_refl _) (by omega)]
      exact r.rw.ct hnow
    · rw [pk_cpy_in (Nat.zero_le _) (by omega), show 17 * g.now + (1 + q - 0) = 17 * g.now + (1 + q) by omega]
      exact r.rw.pc hnow hq
  have done : ∀ (vv : Option Value) (h2 : AH), pNx Y ar g.np (hup h (ar 6) (aI Y 17 cp)) (nxG g k v) vv h2 → pNx Y ar g.np h (nxG g k v) vv h2 := by
    intro vv h2 ⟨v6, a1, a2, a3⟩
    exact ⟨v6, a1, by rw [a2, hup_hup], a3⟩
  have ret : ∀ (vv : Option Value) (h2 : AH), pNx Y ar g.np (hup h (ar 6) (aI Y 17 cp)) (nxG g k v) vv h2 → Gd p l e (rmO 4 90 0 0) s m args0 below meth c (vx_MQ below (Qk Y (pNx Y ar g.np h (nxG g k v))) (Xk Y (noX)) args0 s 0 0 Y.A) Y 3 61 [some (.ref x), some (.int (nI k)), some (.int (nI v))] (vv.toList ++ []) h2 0 0 := by
    intro vv h2 hq
    have hq2 := done vv h2 hq
    obtain ⟨v6, rfl, a2, a3⟩ := hq
    refine g_zret C hr ?_ dX3_does_61 (by omega) (by omega) hq2
    cases (nxG g k v).isSome <;> first | exact Or.inl rfl | exact Or.inr rfl
  refine g_iload_n C dX3_does_21 rfl ?_
  refine g_if_neN C (tgt := 33) dX3_does_22 (by decide) (by omega) (fun q1 => ?_) (fun q1 => ?_)
  · refine g_iload_n C dX3_does_33 rfl ?_
    refine g_iconst C (v := nI 3) dX3_does_34 (by decide) ?_
    refine g_icmp_neN C (tgt := 46) dX3_does_35 (by decide) (by omega) (by decide) (fun q2 => ?_) (fun q2 => ?_)
    · refine g_aload_n C dX3_does_46 rfl rfl ?_
      refine g_iload_n C dX3_does_47 rfl ?_
      refine g_iload_n C dX3_does_48 rfl ?_
      refine g_iconst C (v := nI 2) dX3_does_49 (by decide) ?_
      refine g_icmp_neN C (tgt := 57) dX3_does_50 (by decide) (by omega) (by decide) (fun q3 => ?_) (fun q3 => ?_)
      · refine g_iconst C (v := nI 0) dX3_does_57 (by decide) ?_
        exact g_callV C (K_X3_turns l Y r6 iv hN (k := k) (up := false) hv16 (Or.inl ⟨by omega, rfl⟩)).K ok_X3_turns w763 r6.x rfl rfl rfl dX3_does_58 (Nat.le_of_ble_eq_true rfl) (Nat.le_of_ble_eq_true rfl) (Nat.le_of_ble_eq_true rfl) (Nat.le_of_ble_eq_true rfl) (Nat.le_of_ble_eq_true rfl) ret
      · refine g_iconst C (v := nI 1) dX3_does_53 (by decide) ?_
        refine g_goto C (tgt := 58) dX3_does_54 (by decide) ?_
        exact g_callV C (K_X3_turns l Y r6 iv hN (k := k) (up := true) hv16 (Or.inr ⟨q3, rfl⟩)).K ok_X3_turns w763 r6.x rfl rfl rfl dX3_does_58 (Nat.le_of_ble_eq_true rfl) (Nat.le_of_ble_eq_true rfl) (Nat.le_of_ble_eq_true rfl) (Nat.le_of_ble_eq_true rfl) (Nat.le_of_ble_eq_true rfl) ret
    · subst q2
      refine g_aload_n C dX3_does_38 rfl rfl ?_
      refine g_iload_n C dX3_does_39 rfl ?_
      refine g_callV C (K_X3_pushes l Y r6 iv hN (hv8 (Or.inr rfl))).K ok_X3_pushes w759 r6.x rfl rfl rfl dX3_does_40 (Nat.le_of_ble_eq_true rfl) (Nat.le_of_ble_eq_true rfl) (Nat.le_of_ble_eq_true rfl) (Nat.le_of_ble_eq_true rfl) (Nat.le_of_ble_eq_true rfl) (fun vv h2 hq => ?_)
      refine g_goto C (tgt := 61) dX3_does_43 (by decide) ?_
      exact ret vv h2 hq
  · subst q1
    refine g_aload_n C dX3_does_25 rfl rfl ?_
    refine g_iload_n C dX3_does_26 rfl ?_
    refine g_callV C (K_X3_steps l Y r6 iv hN (hv8 (Or.inl rfl))).K ok_X3_steps w746 r6.x rfl rfl rfl dX3_does_27 (Nat.le_of_ble_eq_true rfl) (Nat.le_of_ble_eq_true rfl) (Nat.le_of_ble_eq_true rfl) (Nat.le_of_ble_eq_true rfl) (Nat.le_of_ble_eq_true rfl) (fun vv h2 hq => ?_)
    refine g_goto C (tgt := 61) dX3_does_30 (by decide) ?_
    exact ret vv h2 hq
