set_option maxRecDepth 100000 in
set_option maxHeartbeats 4000000 in
theorem act_no {l : Launch} {Y : YG} {p : Program} {e : Env} {s : State} {m : MethodId} {args : Array Value} {below : List Frame} {meth : Method} {c : Code} {Q : State → Prop} (C : Cx p s m args meth c Y cL_act 10 RL) (hfl : l.stackTraces = false) (htab : c.exceptionTable.toList = tableOf [(120, 246, 695, 87), (247, 361, 695, 87), (362, 490, 695, 87), (491, 608, 695, 87), (609, 694, 695, 87)]) {x z : Nat} {xi : Int32} {g : Sg} {h : AH} {ck : Nat} {v : Vw} {w : Sv} (iv : Inv g) (P : Pld g) (rC : RepC Y x v g (ZS w g.n) h) (rS : RepS Y z w g h) (T : TmO g w.tm w.clk) (hck : w.clk ≤ ck) (hck2 : ck + 200 < 2 ^ 30) (endk : ∀ (g2 : Sg) (h2 : AH) (k2 n2 : Nat) (lv : List (Option Value)) (pc : Nat), (pc = 73 ∨ pc = 116 ∨ pc = 246 ∨ pc = 361 ∨ pc = 490 ∨ pc = 694 ∨ pc = 707) → LwS Y x z g2 (ck + 130) h2 → k2 ≤ 12 → n2 ≤ 400 → Gd p l e (rmO 63 1453 12 400) s m args below meth c Q Y 10 pc lv [.int (nI 1)] h2 k2 n2) {q k2 n2 : Nat} {h2 : AH} (w6 w7 w8 w9 : Option Value) (I : LwS Y x z g ck h2) (hk : k2 ≤ 12) (hn : n2 ≤ 400) : Gd p l e (rmO 63 1453 12 400) s m args below meth c Q Y 10 695 [some (.ref x), some (.ref z), some (.int xi), some (.int (nI g.n)), some (.int (nI g.np)), some (.int (nI 0)), w6, w7, w8, w9] [.ref q] h2 k2 n2 := by
  refine g_astore C dL_act_695 (by decide) (by first | rfl | exact isR_rf _) ?_
  refine g_iload C dL_act_697 rfl ?_
  refine g_if_ne C (tgt := 706) dL_act_699 (by decide) (fun q1 => ?_) (fun q1 => ?_)
  · exact absurd rfl q1
  · refine g_iconst C (v := nI 1) dL_act_702 (by decide) ?_
    refine g_goto C (tgt := 707) dL_act_703 (by decide) ?_
    obtain ⟨a1, a2, v1, w1, a3, a4, a5, a6⟩ := I
    exact endk _ _ _ _ _ 707 (by decide) ⟨a1, a2, v1, w1, a3, a4, a5, by omega⟩ hk hn
set_option maxRecDepth 100000 in
set_option maxHeartbeats 4000000 in
theorem act_undo {l : Launch} {Y : YG} {p : Program} {e : Env} {s : State} {m : MethodId} {args : Array Value} {below : List Frame} {meth : Method} {c : Code} {Q : State → Prop} (C : Cx p s m args meth c Y cL_act 10 RL) (hfl : l.stackTraces = false) (htab : c.exceptionTable.toList = tableOf [(120, 246, 695, 87), (247, 361, 695, 87), (362, 490, 695, 87), (491, 608, 695, 87), (609, 694, 695, 87)]) {x z : Nat} {xi : Int32} {g : Sg} {h : AH} {ck : Nat} {v : Vw} {w : Sv} (iv : Inv g) (P : Pld g) (rC : RepC Y x v g (ZS w g.n) h) (rS : RepS Y z w g h) (T : TmO g w.tm w.clk) (hck : w.clk ≤ ck) (hck2 : ck + 200 < 2 ^ 30) (endk : ∀ (g2 : Sg) (h2 : AH) (k2 n2 : Nat) (lv : List (Option Value)) (pc : Nat), (pc = 73 ∨ pc = 116 ∨ pc = 246 ∨ pc = 361 ∨ pc = 490 ∨ pc = 694 ∨ pc = 707) → LwS Y x z g2 (ck + 130) h2 → k2 ≤ 12 → n2 ≤ 400 → Gd p l e (rmO 63 1453 12 400) s m args below meth c Q Y 10 pc lv [.int (nI 1)] h2 k2 n2) (w6 w7 w8 w9 : Option Value) : Gd p l e (rmO 63 1453 12 400) s m args below meth c Q Y 10 156 [some (.ref x), some (.ref z), some (.int xi), some (.int (nI g.n)), some (.int (nI g.np)), some (.int (nI 1)), w6, w7, w8, w9] [] h 0 0 := by
  have hn60 := iv.n60
  have hnp16 := iv.np
  have hnow := iv.now
  have hn1 := iv.n1
  have hT := iv.tr
  have hI0 : LwS Y x z g ck h := ⟨iv, P, v, w, rC, rS, T, hck⟩
  have hdn := iv.dp60 hnow
  refine g_iconst C (v := nI 1) dL_act_156 (by decide) ?_
  refine g_iload_n C dL_act_157 rfl ?_
  refine g_iconst C (v := nI 4) dL_act_158 (by decide) ?_
  refine g_ishr C dL_act_159 ?_
  refine g_iconst C (v := nI 3) dL_act_160 (by decide) ?_
  refine g_callS C ((K_L_below l Y _ (N := 3) (by decide)).K) ok_L_below w578 rfl rfl dL_act_161 (Nat.le_of_ble_eq_true rfl) (Nat.le_of_ble_eq_true rfl) (Nat.le_of_ble_eq_true rfl) (by show _ ≤ 12; omega) (by show _ ≤ 400; omega) (fun vv h9 e9 => ?_)
  obtain ⟨u, hu, rfl, eh9⟩ := e9
  have eh9 := eh9.symm
  subst eh9
  refine g_iaddN C dL_act_164 ?_
  refine g_istore C dL_act_165 (by decide) ?_
  refine g_aload_n C dL_act_167 rfl (by first | rfl | exact isR_rf _) ?_
  refine g_aload_n C dL_act_168 rfl (by first | rfl | exact isR_rf _) ?_
  refine gf_L_41 C (rS.z) rfl dL_act_169 ?_
  refine g_callV C ((K_X3_depth l Y rS iv hnow).K) ok_X3_depth w611 (rS.z) rfl rfl rfl dL_act_172 (Nat.le_of_ble_eq_true rfl) (Nat.le_of_ble_eq_true rfl) (Nat.le_of_ble_eq_true rfl) (by show _ ≤ 12; omega) (by show _ ≤ 400; omega) (ofS ?_)
  refine g_iload C dL_act_175 rfl ?_
  refine g_icmp_ltN C (tgt := 184) dL_act_177 (by decide) (by omega) (by omega) (fun q1 => ?_) (fun q1 => ?_)
  · have kx : ∀ (E : String) (h2 : AH), (h2 = h ∧ E = sIS) → Gx p l e (rmO 63 1453 12 400) s m args below meth c Q Y 10 226 [some (.ref x), some (.ref z), some (.int xi), some (.int (nI g.n)), some (.int (nI g.np)), some (.int (nI 0)), some (.int (nI (1 + u))), some (.int (nI 0)), w8, w9] [] h2 2 12 E := by
      rintro E h2 ⟨rfl, rfl⟩
      refine g_catch C [] ⟨120, 246, 695, 87⟩ [⟨247, 361, 695, 87⟩, ⟨362, 490, 695, 87⟩, ⟨491, 608, 695, 87⟩, ⟨609, 694, 695, 87⟩] htab (fun z hz => absurd hz List.not_mem_nil) (by decide) (show 87 ≠ 0 by decide) w589 (tf_ca_IllegalStateException C) (fun q => ?_)
      exact act_no C hfl htab iv P rC rS T hck hck2 endk _ _ _ _ hI0 (by omega) (by omega)
    refine g_iconst C (v := nI 0) dL_act_184 (by decide) ?_
    refine g_istore C dL_act_185 (by decide) ?_
    refine g_iconst C (v := nI 0) dL_act_187 (by decide) ?_
    refine g_istore C dL_act_188 (by decide) ?_
    refine g_iload C dL_act_190 rfl ?_
    refine g_iload C dL_act_192 rfl ?_
    refine g_icmp_geN C (tgt := 223) dL_act_194 (by decide) (by omega) (by omega) (fun q2 => ?_) (fun q2 => ?_)
    · omega
    · refine g_iload C dL_act_197 rfl ?_
      refine g_if_eq C (tgt := 223) dL_act_199 (by decide) (fun q3 => ?_) (fun q3 => ?_)
      · refine g_aload_n C dL_act_223 rfl (by first | rfl | exact isR_rf _) ?_
        refine g_iload C dL_act_224 rfl ?_
        refine g_callVX C (U_undoX l Y hfl rC iv (mm := 1 + u) (by omega) (by omega) (by omega)) ok_X2_undo w185 (rC.x) rfl rfl rfl dL_act_226 (Nat.le_of_ble_eq_true rfl) (Nat.le_of_ble_eq_true rfl) (Nat.le_of_ble_eq_true rfl) (by show _ ≤ 12; omega) (by show _ ≤ 400; omega) (kx) (fun vv h2 e2 => e2.elim)
      · exact absurd rfl q3
  · refine g_iconst C (v := nI 1) dL_act_180 (by decide) ?_
    refine g_goto C (tgt := 185) dL_act_181 (by decide) ?_
    have lp : ∀ (d i : Nat) (h1 : AH) (w1 : Sv), i ≤ 1 + u → 1 + u - i < d → RepC Y x v g (ZS w1 g.n) h1 → RepS Y z w1 (stNow g (upN g.par i g.now)) h1 → TmO (stNow g (upN g.par i g.now)) w1.tm w1.clk → w1.clk ≤ w.clk + i → Gd p l e (rmO 63 1453 12 400) s m args below meth c Q Y 10 190 [some (.ref x), some (.ref z), some (.int xi), some (.int (nI g.n)), some (.int (nI g.np)), some (.int (nI 1)), some (.int (nI (1 + u))), some (.int (nI i)), w8, w9] [] h1 0 0 := by
      intro d
      induction d with
      | zero => intro i h1 w1 z1 z2; omega
      | succ d ih =>
        intro i h1 w1 hi hd rC1 rS1 T1 hc1
        have hcur := up_le hT i g.now
        have hcn : upN g.par i g.now < g.n := by omega
        have hcd := up_dp iv.dp i g.now (by omega)
        refine g_iload C dL_act_190 rfl ?_
        refine g_iload C dL_act_192 rfl ?_
        refine g_icmp_geN C (tgt := 223) dL_act_194 (by decide) (by omega) (by omega) (fun q2 => ?_) (fun q2 => ?_)
        · have : i = 1 + u := by omega
          subst this
          refine g_aload_n C dL_act_223 rfl (by first | rfl | exact isR_rf _) ?_
          refine g_iload C dL_act_224 rfl ?_
          refine g_callV C ((U_undo l Y hfl rC1 iv (mm := 1 + u) (by omega) (by omega)).K) ok_X2_undo w185 (rC1.x) rfl rfl rfl dL_act_226 (Nat.le_of_ble_eq_true rfl) (Nat.le_of_ble_eq_true rfl) (Nat.le_of_ble_eq_true rfl) (by show _ ≤ 12; omega) (by show _ ≤ 400; omega) (fun vv h2 e2 => ?_)
          obtain ⟨rfl, ⟨v2, rC2⟩, fr⟩ := e2
          have rS2 := rS1.krk fr
          refine g_aload_n C dL_act_229 rfl (by first | rfl | exact isR_rf _) ?_
          refine gf_L_41 C ((show h2 z = some (.inr (4, [.ref w1.sr, .ref w1.er, .int (nI (upN g.par (1 + u) g.now)), .int (nI w1.clk)])) from rS2.z)) rfl dL_act_230 ?_
          refine g_icmp_neN C (tgt := 245) dL_act_233 (by decide) (by omega) (by omega) (fun q3 => ?_) (fun q3 => ?_)
          · exact absurd rfl q3
          · refine g_iload C dL_act_236 rfl ?_
            refine g_if_eq C (tgt := 245) dL_act_238 (by decide) (fun q4 => ?_) (fun q4 => ?_)
            · exact absurd q4 (by decide)
            · refine g_iconst C (v := nI 1) dL_act_241 (by decide) ?_
              refine g_goto C (tgt := 246) dL_act_242 (by decide) ?_
              exact endk _ _ _ _ _ 246 (by decide) ⟨inv_up iv (up_an hT _ _), pld_M P _ _, v2, w1, rC2, rS2, T1, by omega⟩ (by omega) (by omega)
        · refine g_iload C dL_act_197 rfl ?_
          refine g_if_eq C (tgt := 223) dL_act_199 (by decide) (fun q3 => ?_) (fun q3 => ?_)
          · exact absurd q3 (by decide)
          · refine g_aload_n C dL_act_202 rfl (by first | rfl | exact isR_rf _) ?_
            refine g_aload_n C dL_act_203 rfl (by first | rfl | exact isR_rf _) ?_
            refine gf_L_9 C ((show h1 z = some (.inr (4, [.ref w1.sr, .ref w1.er, .int (nI (upN g.par i g.now)), .int (nI w1.clk)])) from rS1.z)) rfl dL_act_204 ?_
            refine g_aload_n C dL_act_207 rfl (by first | rfl | exact isR_rf _) ?_
            refine gf_L_41 C ((show h1 z = some (.inr (4, [.ref w1.sr, .ref w1.er, .int (nI (upN g.par i g.now)), .int (nI w1.clk)])) from rS1.z)) rfl dL_act_208 ?_
            refine g_aald C (show h1 w1.er = some (aA Y g.n w1.fe) from rS1.er) rfl (show upN g.par i g.now < g.n by omega) (by omega) dL_act_211 ?_
            have hpos : 0 < upN g.par i g.now := by
              rcases Nat.eq_zero_or_pos (upN g.par i g.now) with y | y
              · rw [y, iv.dp.1] at hcd; omega
              · exact y
            have hpn := iv.par hcn
            obtain ⟨ef, f, hf, f0, -⟩ := rS1.ev (show upN g.par i g.now < (stNow g (upN g.par i g.now)).n from hcn)
            rw [ef]
            refine g_iconst C (v := nI 0) dL_act_212 (by decide) ?_
            refine g_iald C hf rfl (show 0 < 4 by decide) (by decide) dL_act_213 ?_
            rw [f0, parO_p hpos]
            show Gd p l e (rmO 63 1453 12 400) s m args below meth c Q Y 10 214 [some (.ref x), some (.ref z), some (.int xi), some (.int (nI g.n)), some (.int (nI g.np)), some (.int (nI 1)), some (.int (nI (1 + u))), some (.int (nI i)), w8, w9] [.int (nI (g.par (upN g.par i g.now))), .ref z] h1 0 0
            refine g_callV C ((K_X3_be l Y rS1 (e0 := g.par (upN g.par i g.now)) hpn hn60).K) ok_X3_be w487 (rS1.z) rfl rfl rfl dL_act_214 (Nat.le_of_ble_eq_true rfl) (Nat.le_of_ble_eq_true rfl) (Nat.le_of_ble_eq_true rfl) (by show _ ≤ 12; omega) (by show _ ≤ 400; omega) (ofV (fun h2 e2 => ?_))
            obtain ⟨rS2, fr⟩ := e2
            have rC2 := rC1.frz rS1 fr
            have T2 := tmo_st T1 (e := g.par (upN g.par i g.now)) hpn (fun y => (inv_up iv (up_an hT i g.now)).path y (an_par hT _))
            refine g_iincN C dL_act_217 rfl (by decide) ?_
            refine g_goto C (tgt := 190) dL_act_220 (by decide) ?_
            have e5 := up_s g.par i g.now
            refine ih (i + 1) h2 (beV w1 (g.par (upN g.par i g.now))) (by omega) (by omega) rC2 ?_ ?_ ?_
            · rw [e5]; exact rS2 g.last
            · rw [e5]; exact T2
            · show w1.clk + 1 ≤ _; omega
    refine g_istore C dL_act_185 (by decide) ?_
    refine g_iconst C (v := nI 0) dL_act_187 (by decide) ?_
    refine g_istore C dL_act_188 (by decide) ?_
    exact lp (1 + u + 1) 0 h w (Nat.zero_le _) (by omega) rC rS T (Nat.le_refl _)
set_option maxRecDepth 100000 in
set_option maxHeartbeats 4000000 in
theorem act_redo {l : Launch} {Y : YG} {p : Program} {e : Env} {s : State} {m : MethodId} {args : Array Value} {below : List Frame} {meth : Method} {c : Code} {Q : State → Prop} (C : Cx p s m args meth c Y cL_act 10 RL) (hfl : l.stackTraces = false) (htab : c.exceptionTable.toList = tableOf [(120, 246, 695, 87), (247, 361, 695, 87), (362, 490, 695, 87), (491, 608, 695, 87), (609, 694, 695, 87)]) {x z : Nat} {xi : Int32} {g : Sg} {h : AH} {ck : Nat} {v : Vw} {w : Sv} (iv : Inv g) (P : Pld g) (rC : RepC Y x v g (ZS w g.n) h) (rS : RepS Y z w g h) (T : TmO g w.tm w.clk) (hck : w.clk ≤ ck) (hck2 : ck + 200 < 2 ^ 30) (endk : ∀ (g2 : Sg) (h2 : AH) (k2 n2 : Nat) (lv : List (Option Value)) (pc : Nat), (pc = 73 ∨ pc = 116 ∨ pc = 246 ∨ pc = 361 ∨ pc = 490 ∨ pc = 694 ∨ pc = 707) → LwS Y x z g2 (ck + 130) h2 → k2 ≤ 12 → n2 ≤ 400 → Gd p l e (rmO 63 1453 12 400) s m args below meth c Q Y 10 pc lv [.int (nI 1)] h2 k2 n2) (w6 w7 w8 w9 : Option Value) : Gd p l e (rmO 63 1453 12 400) s m args below meth c Q Y 10 247 [some (.ref x), some (.ref z), some (.int xi), some (.int (nI g.n)), some (.int (nI g.np)), some (.int (nI 1)), w6, w7, w8, w9] [] h 0 0 := by
  have hn60 := iv.n60
  have hnp16 := iv.np
  have hnow := iv.now
  have hn1 := iv.n1
  have hT := iv.tr
  have hI0 : LwS Y x z g ck h := ⟨iv, P, v, w, rC, rS, T, hck⟩
  refine g_iconst C (v := nI 1) dL_act_247 (by decide) ?_
  refine g_iload_n C dL_act_248 rfl ?_
  refine g_iconst C (v := nI 4) dL_act_249 (by decide) ?_
  refine g_ishr C dL_act_250 ?_
  refine g_iconst C (v := nI 3) dL_act_251 (by decide) ?_
  refine g_callS C ((K_L_below l Y _ (N := 3) (by decide)).K) ok_L_below w578 rfl rfl dL_act_252 (Nat.le_of_ble_eq_true rfl) (Nat.le_of_ble_eq_true rfl) (Nat.le_of_ble_eq_true rfl) (by show _ ≤ 12; omega) (by show _ ≤ 400; omega) (fun vv h9 e9 => ?_)
  obtain ⟨u, hu, rfl, eh9⟩ := e9
  have eh9 := eh9.symm
  subst eh9
  refine g_iaddN C dL_act_255 ?_
  have a305 : ∀ (b : Nat) (w8 : Option Value), reF g.last (1 + u) g.now = some b → Gd p l e (rmO 63 1453 12 400) s m args below meth c Q Y 10 305 [some (.ref x), some (.ref z), some (.int xi), some (.int (nI g.n)), some (.int (nI g.np)), some (.int (nI 1)), some (.int (nI (1 + u))), some (.int (nO (some b))), w8, w9] [] h 0 0 := by
    intro b w8 hb
    have lp : ∀ (d i a : Nat) (h1 : AH) (w1 : Sv), i ≤ 1 + u → 1 + u - i < d → reF g.last i g.now = some a → RepC Y x v g (ZS w1 g.n) h1 → RepS Y z w1 (stNow g a) h1 → TmO (stNow g a) w1.tm w1.clk → w1.clk ≤ w.clk + i → Gd p l e (rmO 63 1453 12 400) s m args below meth c Q Y 10 308 [some (.ref x), some (.ref z), some (.int xi), some (.int (nI g.n)), some (.int (nI g.np)), some (.int (nI 1)), some (.int (nI (1 + u))), some (.int (nO (some b))), some (.int (nI i)), w9] [] h1 0 0 := by
      intro d
      induction d with
      | zero => intro i a h1 w1 z1 z2; omega
      | succ d ih =>
        intro i a h1 w1 hi hd hre rC1 rS1 T1 hc1
        have iva := re_inv iv i hre
        have han : a < g.n := iva.now
        refine g_iload C dL_act_308 rfl ?_
        refine g_iload C dL_act_310 rfl ?_
        refine g_icmp_geN C (tgt := 338) dL_act_312 (by decide) (by omega) (by omega) (fun q2 => ?_) (fun q2 => ?_)
        · have : i = 1 + u := by omega
          subst this
          have eab : a = b := Option.some.inj (hre.symm.trans hb)
          subst eab
          refine g_aload_n C dL_act_338 rfl (by first | rfl | exact isR_rf _) ?_
          refine g_iload C dL_act_339 rfl ?_
          refine g_callV C ((U_redo l Y hfl rC1 iv (mm := 1 + u) (by omega) (by omega) hb).K) ok_X2_redo w276 (rC1.x) rfl rfl rfl dL_act_341 (Nat.le_of_ble_eq_true rfl) (Nat.le_of_ble_eq_true rfl) (Nat.le_of_ble_eq_true rfl) (by show _ ≤ 12; omega) (by show _ ≤ 400; omega) (fun vv h2 e2 => ?_)
          obtain ⟨rfl, ⟨v2, rC2⟩, fr⟩ := e2
          have rS2 := rS1.krk fr
          refine g_aload_n C dL_act_344 rfl (by first | rfl | exact isR_rf _) ?_
          refine gf_L_41 C ((show h2 z = some (.inr (4, [.ref w1.sr, .ref w1.er, .int (nI (a)), .int (nI w1.clk)])) from rS2.z)) rfl dL_act_345 ?_
          refine g_icmp_neN C (tgt := 360) dL_act_348 (by decide) (by omega) (by omega) (fun q3 => ?_) (fun q3 => ?_)
          · exact absurd rfl q3
          · refine g_iload C dL_act_351 rfl ?_
            refine g_if_eq C (tgt := 360) dL_act_353 (by decide) (fun q4 => ?_) (fun q4 => ?_)
            · exact absurd q4 (by decide)
            · refine g_iconst C (v := nI 1) dL_act_356 (by decide) ?_
              refine g_goto C (tgt := 361) dL_act_357 (by decide) ?_
              exact endk _ _ _ _ _ 361 (by decide) ⟨iva, pld_M P _ _, v2, w1, rC2, rS2, T1, by omega⟩ (by omega) (by omega)
        · refine g_iload C dL_act_315 rfl ?_
          refine g_if_eq C (tgt := 338) dL_act_317 (by decide) (fun q3 => ?_) (fun q3 => ?_)
          · exact absurd q3 (by decide)
          · refine g_aload_n C dL_act_320 rfl (by first | rfl | exact isR_rf _) ?_
            refine g_aload_n C dL_act_321 rfl (by first | rfl | exact isR_rf _) ?_
            refine g_aload_n C dL_act_322 rfl (by first | rfl | exact isR_rf _) ?_
            refine gf_L_41 C ((show h1 z = some (.inr (4, [.ref w1.sr, .ref w1.er, .int (nI (a)), .int (nI w1.clk)])) from rS1.z)) rfl dL_act_323 ?_
            refine g_callV C ((K_X3_again l Y rS1 iva T1 (by omega) (e0 := a) han).K) ok_X3_again w612 (rS1.z) rfl rfl rfl dL_act_326 (Nat.le_of_ble_eq_true rfl) (Nat.le_of_ble_eq_true rfl) (Nat.le_of_ble_eq_true rfl) (by show _ ≤ 12; omega) (by show _ ≤ 400; omega) (ofS ?_)
            show Gd p l e (rmO 63 1453 12 400) s m args below meth c Q Y 10 329 [some (.ref x), some (.ref z), some (.int xi), some (.int (nI g.n)), some (.int (nI g.np)), some (.int (nI 1)), some (.int (nI (1 + u))), some (.int (nO (some b))), some (.int (nI i)), w9] [.int (nO (g.last a)), .ref z] h1 0 0
            have hrs := re_s g.last i g.now
            rw [hre, Option.bind_some] at hrs
            cases hl : g.last a with
            | none =>
              exfalso
              rw [hl] at hrs
              rw [re_none hrs (show i + 1 ≤ 1 + u by omega)] at hb
              cases hb
            | some c2 =>
              obtain ⟨l1, l2, l3⟩ := iv.last han hl
              rw [hl] at hrs
              show Gd p l e (rmO 63 1453 12 400) s m args below meth c Q Y 10 329 [some (.ref x), some (.ref z), some (.int xi), some (.int (nI g.n)), some (.int (nI g.np)), some (.int (nI 1)), some (.int (nI (1 + u))), some (.int (nO (some b))), some (.int (nI i)), w9] [.int (nI c2), .ref z] h1 0 0
              refine g_callV C ((K_X3_be l Y rS1 (e0 := c2) l2 hn60).K) ok_X3_be w487 (rS1.z) rfl rfl rfl dL_act_329 (Nat.le_of_ble_eq_true rfl) (Nat.le_of_ble_eq_true rfl) (Nat.le_of_ble_eq_true rfl) (by show _ ≤ 12; omega) (by show _ ≤ 400; omega) (ofV (fun h2 e2 => ?_))
              obtain ⟨rS2, fr⟩ := e2
              have rC2 := rC1.frz rS1 fr
              have T2 := tmo_st T1 (e := c2) l2 (fun y => (show g.last (g.par c2) = some c2 from by rw [l3]; exact hl))
              refine g_iincN C dL_act_332 rfl (by decide) ?_
              refine g_goto C (tgt := 308) dL_act_335 (by decide) ?_
              exact ih (i + 1) c2 h2 (beV w1 c2) (by omega) (by omega) hrs rC2 (rS2 g.last) T2 (by show w1.clk + 1 ≤ _; omega)
    refine g_iconst C (v := nI 0) dL_act_305 (by decide) ?_
    refine g_istore C dL_act_306 (by decide) ?_
    exact lp (1 + u + 1) 0 g.now h w (Nat.zero_le _) (by omega) rfl rC rS T (Nat.le_refl _)
  have a293 : ∀ (w8 : Option Value), Gd p l e (rmO 63 1453 12 400) s m args below meth c Q Y 10 293 [some (.ref x), some (.ref z), some (.int xi), some (.int (nI g.n)), some (.int (nI g.np)), some (.int (nI 1)), some (.int (nI (1 + u))), some (.int (nO (reF g.last (1 + u) g.now))), w8, w9] [] h 0 0 := by
    intro w8
    cases hb : reF g.last (1 + u) g.now with
    | some b =>
      have hbn : b < g.n := (re_inv iv _ hb).now
      refine g_iload C dL_act_293 rfl ?_
      refine g_if_lt C (tgt := 302) dL_act_295 (by decide) (fun q => absurd q (nI_pos (show b < 2 ^ 31 by omega))) (fun q => ?_)
      refine g_iconst C (v := nI 1) dL_act_298 (by decide) ?_
      refine g_goto C (tgt := 303) dL_act_299 (by decide) ?_
      refine g_istore C dL_act_303 (by decide) ?_
      exact a305 b w8 hb
    | none =>
      have kx : ∀ (E : String) (h2 : AH), (h2 = h ∧ E = sIS) → Gx p l e (rmO 63 1453 12 400) s m args below meth c Q Y 10 341 [some (.ref x), some (.ref z), some (.int xi), some (.int (nI g.n)), some (.int (nI g.np)), some (.int (nI 0)), some (.int (nI (1 + u))), some (.int (nO (none))), some (.int (nI 0)), w9] [] h2 2 12 E := by
        rintro E h2 ⟨rfl, rfl⟩
        refine g_catch C [⟨120, 246, 695, 87⟩] ⟨247, 361, 695, 87⟩ [⟨362, 490, 695, 87⟩, ⟨491, 608, 695, 87⟩, ⟨609, 694, 695, 87⟩] htab (fun z hz => Or.inl (by
            simp only [List.mem_cons, List.not_mem_nil, or_false] at hz
            rcases hz with rfl <;> decide)) (by decide) (show 87 ≠ 0 by decide) w589 (tf_ca_IllegalStateException C) (fun q => ?_)
        exact act_no C hfl htab iv P rC rS T hck hck2 endk _ _ _ _ hI0 (by omega) (by omega)
      refine g_iload C dL_act_293 rfl ?_
      refine g_if_lt C (tgt := 302) dL_act_295 (by decide) (fun q1 => ?_) (fun q1 => ?_)
      · refine g_iconst C (v := nI 0) dL_act_302 (by decide) ?_
        refine g_istore C dL_act_303 (by decide) ?_
        refine g_iconst C (v := nI 0) dL_act_305 (by decide) ?_
        refine g_istore C dL_act_306 (by decide) ?_
        refine g_iload C dL_act_308 rfl ?_
        refine g_iload C dL_act_310 rfl ?_
        refine g_icmp_geN C (tgt := 338) dL_act_312 (by decide) (by omega) (by omega) (fun q2 => ?_) (fun q2 => ?_)
        · omega
        · refine g_iload C dL_act_315 rfl ?_
          refine g_if_eq C (tgt := 338) dL_act_317 (by decide) (fun q3 => ?_) (fun q3 => ?_)
          · refine g_aload_n C dL_act_338 rfl (by first | rfl | exact isR_rf _) ?_
            refine g_iload C dL_act_339 rfl ?_
            refine g_callVX C (U_redoX l Y hfl rC iv (mm := 1 + u) (by omega) (by omega) hb) ok_X2_redo w276 (rC.x) rfl rfl rfl dL_act_341 (Nat.le_of_ble_eq_true rfl) (Nat.le_of_ble_eq_true rfl) (Nat.le_of_ble_eq_true rfl) (by show _ ≤ 12; omega) (by show _ ≤ 400; omega) (kx) (fun vv h2 e2 => e2.elim)
          · exact absurd rfl q3
      · exact absurd (by decide) q1
  have lp0 : ∀ (d i : Nat), i ≤ 1 + u → 1 + u - i < d → Gd p l e (rmO 63 1453 12 400) s m args below meth c Q Y 10 267 [some (.ref x), some (.ref z), some (.int xi), some (.int (nI g.n)), some (.int (nI g.np)), some (.int (nI 1)), some (.int (nI (1 + u))), some (.int (nO (reF g.last i g.now))), some (.int (nI i)), w9] [] h 0 0 := by
    intro d
    induction d with
    | zero => intro i z1 z2; omega
    | succ d ih =>
      intro i hi hd
      refine g_iload C dL_act_267 rfl ?_
      refine g_iload C dL_act_269 rfl ?_
      refine g_icmp_geN C (tgt := 293) dL_act_271 (by decide) (by omega) (by omega) (fun q1 => ?_) (fun q1 => ?_)
      · have : i = 1 + u := by omega
        subst this
        exact a293 _
      · cases hb : reF g.last i g.now with
        | none =>
          have a293' := a293 (some (.int (nI i)))
          rw [re_none hb hi] at a293'
          refine g_iload C dL_act_274 rfl ?_
          refine g_if_lt C (tgt := 293) dL_act_276 (by decide) (fun q => a293') (fun q => absurd (by decide) q)
        | some a =>
          have han : a < g.n := (re_inv iv _ hb).now
          have hrs := re_s g.last i g.now
          rw [hb, Option.bind_some] at hrs
          refine g_iload C dL_act_274 rfl ?_
          refine g_if_lt C (tgt := 293) dL_act_276 (by decide) (fun q => absurd q (nI_pos (show a < 2 ^ 31 by omega))) (fun q => ?_)
          show Gd p l e (rmO 63 1453 12 400) s m args below meth c Q Y 10 279 [some (.ref x), some (.ref z), some (.int xi), some (.int (nI g.n)), some (.int (nI g.np)), some (.int (nI 1)), some (.int (nI (1 + u))), some (.int (nI a)), some (.int (nI i)), w9] [] h 0 0
          refine g_aload_n C dL_act_279 rfl (by first | rfl | exact isR_rf _) ?_
          refine g_iload C dL_act_280 rfl ?_
          refine g_callV C ((K_X3_again l Y rS iv T (by omega) (e0 := a) han).K) ok_X3_again w612 (rS.z) rfl rfl rfl dL_act_282 (Nat.le_of_ble_eq_true rfl) (Nat.le_of_ble_eq_true rfl) (Nat.le_of_ble_eq_true rfl) (by show _ ≤ 12; omega) (by show _ ≤ 400; omega) (ofS ?_)
          refine g_istore C dL_act_285 (by decide) ?_
          refine g_iincN C dL_act_287 rfl (by decide) ?_
          refine g_goto C (tgt := 267) dL_act_290 (by decide) ?_
          have := ih (i + 1) (by omega) (by omega)
          rw [hrs] at this
          exact this
  refine g_istore C dL_act_256 (by decide) ?_
  refine g_aload_n C dL_act_258 rfl (by first | rfl | exact isR_rf _) ?_
  refine gf_L_41 C (rS.z) rfl dL_act_259 ?_
  refine g_istore C dL_act_262 (by decide) ?_
  refine g_iconst C (v := nI 0) dL_act_264 (by decide) ?_
  refine g_istore C dL_act_265 (by decide) ?_
  exact lp0 (1 + u + 1) 0 (Nat.zero_le _) (by omega)
