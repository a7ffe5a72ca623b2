set_option maxRecDepth 100000 in
set_option maxHeartbeats 4000000 in
theorem law_e1 {l : Launch} {Y : YG} {p : Program} {e : Env} {s : State} {m : MethodId} {args : Array Value} {below : List Frame} {meth : Method} {c : Code} {Q : State → Prop} (C : Cx p s m args meth c Y cL_law 20 RL) (hfl : l.stackTraces = false) {x z ti : Nat} {xi : Int32} {dg : Int64} {g : Sg} {h : AH} {v : Vw} {Z : Nat → Prop} (iv : Inv g) (P : Pld g) (r : RepC Y x v g Z h) {ee : Nat} (he : ee < g.n) {w12 w13 w14 w15 w16 w17 w18 w19 : Option Value} {k n : Nat} (hk : k + 20 ≤ 600172) (hn : n + 120 ≤ 7300668) (cont : ∀ k2 n2, k2 ≤ k + 16 → n2 ≤ n + 96 → Gd p l e room_1 s m args below meth c Q Y 20 305 [some (.ref Y.sb), some (.ref x), some (.ref z), some (.int (nI ti)), some (.int xi), some (.long dg), none, some (.int (nI g.n)), some (.int (nI g.np)), some (.int (nI (sm (fun e => chN g.par g.n e) (ee + 1)))), some (.int (nI (cnt (fun e => decide (chN g.par g.n e = 0)) (ee + 1)))), some (.int (nI (ee))), some (.int (nO (parO g ee))), some (.int (nO (g.last ee))), w14, w15, w16, w17, w18, w19] [] h k2 n2) : Gd p l e room_1 s m args below meth c Q Y 20 116 [some (.ref Y.sb), some (.ref x), some (.ref z), some (.int (nI ti)), some (.int xi), some (.long dg), none, some (.int (nI g.n)), some (.int (nI g.np)), some (.int (nI (sm (fun e => chN g.par g.n e) ee))), some (.int (nI (cnt (fun e => decide (chN g.par g.n e = 0)) ee))), some (.int (nI (ee))), w12, w13, w14, w15, w16, w17, w18, w19] [] h k n := by
  have hn60 := iv.n60
  have hnp16 := iv.np
  have hnow := iv.now
  have hn1 := iv.n1
  have hT := iv.tr
  have hch : chN g.par g.n ee ≤ g.n := cnt_le _ _
  have hly := ly_le g ee
  have hds := ch_ds iv ee
  have hds2 : dsN g.par g.n ee ≤ g.n := cnt_le _ _
  have j257 : ∀ k2 n2, k2 ≤ k + 10 → n2 ≤ n + 60 → Gd p l e room_1 s m args below meth c Q Y 20 257 [some (.ref Y.sb), some (.ref x), some (.ref z), some (.int (nI ti)), some (.int xi), some (.long dg), none, some (.int (nI g.n)), some (.int (nI g.np)), some (.int (nI (sm (fun e => chN g.par g.n e) (ee + 1)))), some (.int (nI (cnt (fun e => decide (chN g.par g.n e = 0)) (ee + 1)))), some (.int (nI (ee))), some (.int (nO (parO g ee))), some (.int (nO (g.last ee))), w14, w15, w16, w17, w18, w19] [] h k2 n2 := by
    intro k2 n2 hk2 hn2
    refine g_aload_n C dL_law_257 rfl (by first | rfl | exact isR_rf _) ?_
    refine g_iload C dL_law_258 rfl ?_
    refine g_callV C ((V_behind l Y hfl r iv he).K) ok_X2_behind w392 (r.x) rfl rfl rfl dL_law_260 (Nat.le_of_ble_eq_true rfl) (Nat.le_of_ble_eq_true rfl) (Nat.le_of_ble_eq_true rfl) (by show _ ≤ 600172; omega) (by show _ ≤ 7300668; omega) (ofS ?_)
    refine g_aload_n C dL_law_263 rfl (by first | rfl | exact isR_rf _) ?_
    refine g_iload C dL_law_264 rfl ?_
    refine g_callV C ((V_branches l Y hfl r iv he).K) ok_X2_branches w388 (r.x) rfl rfl rfl dL_law_266 (Nat.le_of_ble_eq_true rfl) (Nat.le_of_ble_eq_true rfl) (Nat.le_of_ble_eq_true rfl) (by show _ ≤ 600172; omega) (by show _ ≤ 7300668; omega) (ofS ?_)
    refine g_icmp_ltN C (tgt := 303) dL_law_269 (by decide) (by omega) (by omega) (fun q1 => ?_) (fun q1 => ?_)
    · omega
    · refine g_aload_n C dL_law_272 rfl (by first | rfl | exact isR_rf _) ?_
      refine g_iload C dL_law_273 rfl ?_
      refine g_callV C ((V_lyingIn l Y hfl r iv he).K) ok_X2_lyingIn w433 (r.x) rfl rfl rfl dL_law_275 (Nat.le_of_ble_eq_true rfl) (Nat.le_of_ble_eq_true rfl) (Nat.le_of_ble_eq_true rfl) (by show _ ≤ 600172; omega) (by show _ ≤ 7300668; omega) (ofS ?_)
      refine g_if_lt C (tgt := 303) dL_law_278 (by decide) (fun q2 => ?_) (fun q2 => ?_)
      · exact absurd q2 (nI_pos (by omega))
      · refine g_aload_n C dL_law_281 rfl (by first | rfl | exact isR_rf _) ?_
        refine g_iload C dL_law_282 rfl ?_
        refine g_callV C ((V_lyingIn l Y hfl r iv he).K) ok_X2_lyingIn w433 (r.x) rfl rfl rfl dL_law_284 (Nat.le_of_ble_eq_true rfl) (Nat.le_of_ble_eq_true rfl) (Nat.le_of_ble_eq_true rfl) (by show _ ≤ 600172; omega) (by show _ ≤ 7300668; omega) (ofS ?_)
        refine g_iload C dL_law_287 rfl ?_
        refine g_icmp_gtN C (tgt := 303) dL_law_289 (by decide) (by omega) (by omega) (fun q3 => ?_) (fun q3 => ?_)
        · omega
        · refine g_aload_n C dL_law_292 rfl (by first | rfl | exact isR_rf _) ?_
          refine g_iload C dL_law_293 rfl ?_
          refine g_iload C dL_law_295 rfl ?_
          refine g_callV C ((V_areAlike l Y hfl r iv he he).K) ok_X2_areAlike w437 (r.x) rfl rfl rfl dL_law_297 (Nat.le_of_ble_eq_true rfl) (Nat.le_of_ble_eq_true rfl) (Nat.le_of_ble_eq_true rfl) (by show _ ≤ 600172; omega) (by show _ ≤ 7300668; omega) (ofS ?_)
          rw [lk_rf, if_pos rfl]
          refine g_if_ne C (tgt := 305) dL_law_300 (by decide) (fun q => ?_) (fun q => ?_)
          · exact cont _ _ (by omega) (by omega)
          · first | exact absurd (by decide) q | exact absurd q (by decide)
  have j214 : ∀ k2 n2, k2 ≤ k + 6 → n2 ≤ n + 36 → Gd p l e room_1 s m args below meth c Q Y 20 214 [some (.ref Y.sb), some (.ref x), some (.ref z), some (.int (nI ti)), some (.int xi), some (.long dg), none, some (.int (nI g.n)), some (.int (nI g.np)), some (.int (nI (sm (fun e => chN g.par g.n e) (ee + 1)))), some (.int (nI (cnt (fun e => decide (chN g.par g.n e = 0)) (ee + 1)))), some (.int (nI (ee))), some (.int (nO (parO g ee))), some (.int (nO (g.last ee))), w14, w15, w16, w17, w18, w19] [] h k2 n2 := by
    intro k2 n2 hk2 hn2
    have hc0 := ch_0 iv he
    cases hl : g.last ee with
    | none =>
      rw [hl] at j257
      have hc1 := hc0.mp hl
      refine g_iload C dL_law_214 rfl ?_
      refine g_if_ge C (tgt := 223) dL_law_216 (by decide) (fun q => ?_) (fun q => ?_)
      · exact absurd q (by decide)
      · refine g_iconst C (v := nI 1) dL_law_219 (by decide) ?_
        refine g_goto C (tgt := 224) dL_law_220 (by decide) ?_
        refine g_aload_n C dL_law_224 rfl (by first | rfl | exact isR_rf _) ?_
        refine g_iload C dL_law_225 rfl ?_
        refine g_callV C ((V_branches l Y hfl r iv he).K) ok_X2_branches w388 (r.x) rfl rfl rfl dL_law_227 (Nat.le_of_ble_eq_true rfl) (Nat.le_of_ble_eq_true rfl) (Nat.le_of_ble_eq_true rfl) (by show _ ≤ 600172; omega) (by show _ ≤ 7300668; omega) (ofS ?_)
        rw [hc1]
        refine g_if_ne C (tgt := 237) dL_law_230 (by decide) (fun q => ?_) (fun q => ?_)
        · exact absurd q (by decide)
        · refine g_iconst C (v := nI 1) dL_law_233 (by decide) ?_
          refine g_goto C (tgt := 238) dL_law_234 (by decide) ?_
          refine g_icmp_ne C (tgt := 303) dL_law_238 (by decide) (fun q => ?_) (fun q => ?_)
          · exact absurd q (by decide)
          · refine g_iload C dL_law_241 rfl ?_
            refine g_if_lt C (tgt := 257) dL_law_243 (by decide) (fun q => ?_) (fun q => ?_)
            · exact j257 _ _ (by omega) (by omega)
            · first | exact absurd (by decide) q | exact absurd q (by decide)
    | some j =>
      rw [hl] at j257
      obtain ⟨l1, l2, l3⟩ := iv.last he hl
      have hc1 : 0 < chN g.par g.n ee := Nat.pos_of_ne_zero (fun q => by rw [hc0.mpr q] at hl; cases hl)
      refine g_iload C dL_law_214 rfl ?_
      refine g_if_ge C (tgt := 223) dL_law_216 (by decide) (fun q0 => ?_) (fun q0 => ?_)
      · refine g_iconst C (v := nI 0) dL_law_223 (by decide) ?_
        refine g_aload_n C dL_law_224 rfl (by first | rfl | exact isR_rf _) ?_
        refine g_iload C dL_law_225 rfl ?_
        refine g_callV C ((V_branches l Y hfl r iv he).K) ok_X2_branches w388 (r.x) rfl rfl rfl dL_law_227 (Nat.le_of_ble_eq_true rfl) (Nat.le_of_ble_eq_true rfl) (Nat.le_of_ble_eq_true rfl) (by show _ ≤ 600172; omega) (by show _ ≤ 7300668; omega) (ofS ?_)
        refine g_if_neN C (tgt := 237) dL_law_230 (by decide) (by omega) (fun q1 => ?_) (fun q1 => ?_)
        · refine g_iconst C (v := nI 0) dL_law_237 (by decide) ?_
          refine g_icmp_ne C (tgt := 303) dL_law_238 (by decide) (fun q => ?_) (fun q => ?_)
          · exact absurd q (by decide)
          · refine g_iload C dL_law_241 rfl ?_
            refine g_if_lt C (tgt := 257) dL_law_243 (by decide) (fun q2 => ?_) (fun q2 => ?_)
            · exact absurd q2 (nI_pos (show j < 2 ^ 31 by omega))
            · refine g_aload_n C dL_law_246 rfl (by first | rfl | exact isR_rf _) ?_
              refine g_iload C dL_law_247 rfl ?_
              refine g_callV C ((V_hangsOn l Y hfl r iv l2).K) ok_X2_hangsOn w373 (r.x) rfl rfl rfl dL_law_249 (Nat.le_of_ble_eq_true rfl) (Nat.le_of_ble_eq_true rfl) (Nat.le_of_ble_eq_true rfl) (by show _ ≤ 600172; omega) (by show _ ≤ 7300668; omega) (ofS ?_)
              rw [parO_p l1, l3]
              refine g_iload C dL_law_252 rfl ?_
              refine g_icmp_neN C (tgt := 303) dL_law_254 (by decide) (by omega) (by omega) (fun q3 => ?_) (fun q3 => ?_)
              · exact absurd rfl q3
              · exact j257 _ _ (by omega) (by omega)
        · omega
      · exact absurd (nI_pos' (show j < 2 ^ 31 by omega)) q0
  have j162 : ∀ k2 n2, k2 ≤ k + 4 → n2 ≤ n + 24 → Gd p l e room_1 s m args below meth c Q Y 20 162 [some (.ref Y.sb), some (.ref x), some (.ref z), some (.int (nI ti)), some (.int xi), some (.long dg), none, some (.int (nI g.n)), some (.int (nI g.np)), some (.int (nI (sm (fun e => chN g.par g.n e) (ee + 1)))), some (.int (nI (cnt (fun e => decide (chN g.par g.n e = 0)) (ee + 1)))), some (.int (nI (ee))), some (.int (nO (parO g ee))), some (.int (nO (g.last ee))), w14, w15, w16, w17, w18, w19] [] h k2 n2 := by
    intro k2 n2 hk2 hn2
    rcases Nat.eq_zero_or_pos ee with h0 | h0
    · subst h0
      rw [parO_0] at j214 ⊢
      refine g_iload C dL_law_162 rfl ?_
      refine g_if_ge C (tgt := 171) dL_law_164 (by decide) (fun q => ?_) (fun q => ?_)
      · exact absurd q (by decide)
      · refine g_iconst C (v := nI 1) dL_law_167 (by decide) ?_
        refine g_goto C (tgt := 172) dL_law_168 (by decide) ?_
        refine g_iload C dL_law_172 rfl ?_
        refine g_if_neN C (tgt := 181) dL_law_174 (by decide) (by omega) (fun q1 => ?_) (fun q1 => ?_)
        · omega
        · refine g_iconst C (v := nI 1) dL_law_177 (by decide) ?_
          refine g_goto C (tgt := 182) dL_law_178 (by decide) ?_
          refine g_icmp_ne C (tgt := 303) dL_law_182 (by decide) (fun q => ?_) (fun q => ?_)
          · exact absurd q (by decide)
          · refine g_iload C dL_law_185 rfl ?_
            refine g_iload C dL_law_187 rfl ?_
            refine g_icmp_ge C (tgt := 303) dL_law_189 (by decide) (fun q => ?_) (fun q => ?_)
            · exact absurd q (by decide)
            · refine g_iload C dL_law_192 rfl ?_
              refine g_if_le C (tgt := 214) dL_law_194 (by decide) (fun q => ?_) (fun q => ?_)
              · exact j214 _ _ (by omega) (by omega)
              · first | exact absurd (by decide) q | exact absurd q (by decide)
    · have hp := hT.2 ee h0
      have hpn := iv.par he
      have hdp := iv.dp.2 ee h0
      have hd60 := iv.dp60 he
      rw [parO_p h0] at j214 ⊢
      refine g_iload C dL_law_162 rfl ?_
      refine g_if_ge C (tgt := 171) dL_law_164 (by decide) (fun q0 => ?_) (fun q0 => ?_)
      · refine g_iconst C (v := nI 0) dL_law_171 (by decide) ?_
        refine g_iload C dL_law_172 rfl ?_
        refine g_if_neN C (tgt := 181) dL_law_174 (by decide) (by omega) (fun q1 => ?_) (fun q1 => ?_)
        · refine g_iconst C (v := nI 0) dL_law_181 (by decide) ?_
          refine g_icmp_ne C (tgt := 303) dL_law_182 (by decide) (fun q => ?_) (fun q => ?_)
          · exact absurd q (by decide)
          · refine g_iload C dL_law_185 rfl ?_
            refine g_iload C dL_law_187 rfl ?_
            refine g_icmp_geN C (tgt := 303) dL_law_189 (by decide) (by omega) (by omega) (fun q2 => ?_) (fun q2 => ?_)
            · omega
            · refine g_iload C dL_law_192 rfl ?_
              refine g_if_le C (tgt := 214) dL_law_194 (by decide) (fun q3 => ?_) (fun q3 => ?_)
              · exact absurd q3 (fun w => by have := (nI_leI (b := 0) (by omega) (by decide)).mp w; omega)
              · refine g_aload_n C dL_law_197 rfl (by first | rfl | exact isR_rf _) ?_
                refine g_iload C dL_law_198 rfl ?_
                refine g_callV C ((V_depthOf l Y hfl r iv he).K) ok_X2_depthOf w384 (r.x) rfl rfl rfl dL_law_200 (Nat.le_of_ble_eq_true rfl) (Nat.le_of_ble_eq_true rfl) (Nat.le_of_ble_eq_true rfl) (by show _ ≤ 600172; omega) (by show _ ≤ 7300668; omega) (ofS ?_)
                refine g_aload_n C dL_law_203 rfl (by first | rfl | exact isR_rf _) ?_
                refine g_iload C dL_law_204 rfl ?_
                refine g_callV C ((V_depthOf l Y hfl r iv hpn).K) ok_X2_depthOf w384 (r.x) rfl rfl rfl dL_law_206 (Nat.le_of_ble_eq_true rfl) (Nat.le_of_ble_eq_true rfl) (Nat.le_of_ble_eq_true rfl) (by show _ ≤ 600172; omega) (by show _ ≤ 7300668; omega) (ofS ?_)
                refine g_iconst C (v := nI 1) dL_law_209 (by decide) ?_
                refine g_iaddN C dL_law_210 ?_
                refine g_icmp_neN C (tgt := 303) dL_law_211 (by decide) (by omega) (by omega) (fun q4 => ?_) (fun q4 => ?_)
                · exact absurd hdp q4
                · exact j214 _ _ (by omega) (by omega)
        · omega
      · exact absurd (nI_pos' (show g.par ee < 2 ^ 31 by omega)) q0
  have j159 : ∀ (k2 n2 : Nat) (bb : Nat), bb = (if decide (chN g.par g.n ee = 0) = true then 1 else 0) → k2 ≤ k + 4 → n2 ≤ n + 24 → Gd p l e room_1 s m args below meth c Q Y 20 159 [some (.ref Y.sb), some (.ref x), some (.ref z), some (.int (nI ti)), some (.int xi), some (.long dg), none, some (.int (nI g.n)), some (.int (nI g.np)), some (.int (nI (sm (fun e => chN g.par g.n e) (ee + 1)))), some (.int (nI (cnt (fun e => decide (chN g.par g.n e = 0)) ee))), some (.int (nI (ee))), some (.int (nO (parO g ee))), some (.int (nO (g.last ee))), w14, w15, w16, w17, w18, w19] [.int (nI bb), .int (nI (cnt (fun e => decide (chN g.par g.n e = 0)) ee))] h k2 n2 := by
    intro k2 n2 bb hbb hk2 hn2
    subst hbb
    refine g_iaddN C dL_law_159 ?_
    refine g_istore C dL_law_160 (by decide) ?_
    exact j162 _ _ hk2 hn2
  refine g_aload_n C dL_law_116 rfl (by first | rfl | exact isR_rf _) ?_
  refine g_iload C dL_law_117 rfl ?_
  refine g_callV C ((V_hangsOn l Y hfl r iv he).K) ok_X2_hangsOn w373 (r.x) rfl rfl rfl dL_law_119 (Nat.le_of_ble_eq_true rfl) (Nat.le_of_ble_eq_true rfl) (Nat.le_of_ble_eq_true rfl) (by show _ ≤ 600172; omega) (by show _ ≤ 7300668; omega) (ofS ?_)
  refine g_istore C dL_law_122 (by decide) ?_
  refine g_aload_n C dL_law_124 rfl (by first | rfl | exact isR_rf _) ?_
  refine g_iload C dL_law_125 rfl ?_
  refine g_callV C ((V_again l Y hfl r iv he).K) ok_X2_again w396 (r.x) rfl rfl rfl dL_law_127 (Nat.le_of_ble_eq_true rfl) (Nat.le_of_ble_eq_true rfl) (Nat.le_of_ble_eq_true rfl) (by show _ ≤ 600172; omega) (by show _ ≤ 7300668; omega) (ofS ?_)
  refine g_istore C dL_law_130 (by decide) ?_
  refine g_iload C dL_law_132 rfl ?_
  refine g_aload_n C dL_law_134 rfl (by first | rfl | exact isR_rf _) ?_
  refine g_iload C dL_law_135 rfl ?_
  refine g_callV C ((V_branches l Y hfl r iv he).K) ok_X2_branches w388 (r.x) rfl rfl rfl dL_law_137 (Nat.le_of_ble_eq_true rfl) (Nat.le_of_ble_eq_true rfl) (Nat.le_of_ble_eq_true rfl) (by show _ ≤ 600172; omega) (by show _ ≤ 7300668; omega) (ofS ?_)
  refine g_iaddN C dL_law_140 ?_
  refine g_istore C dL_law_141 (by decide) ?_
  refine g_iload C dL_law_143 rfl ?_
  refine g_aload_n C dL_law_145 rfl (by first | rfl | exact isR_rf _) ?_
  refine g_iload C dL_law_146 rfl ?_
  refine g_callV C ((V_branches l Y hfl r iv he).K) ok_X2_branches w388 (r.x) rfl rfl rfl dL_law_148 (Nat.le_of_ble_eq_true rfl) (Nat.le_of_ble_eq_true rfl) (Nat.le_of_ble_eq_true rfl) (by show _ ≤ 600172; omega) (by show _ ≤ 7300668; omega) (ofS ?_)
  refine g_if_neN C (tgt := 158) dL_law_151 (by decide) (by omega) (fun q1 => ?_) (fun q1 => ?_)
  · refine g_iconst C (v := nI 0) dL_law_158 (by decide) ?_
    exact j159 _ _ 0 (by rw [if_neg (by rw [decide_eq_true_eq]; omega)]) (by omega) (by omega)
  · refine g_iconst C (v := nI 1) dL_law_154 (by decide) ?_
    refine g_goto C (tgt := 159) dL_law_155 (by decide) ?_
    exact j159 _ _ 1 (by rw [if_pos (by rw [decide_eq_true_eq]; omega)]) (by omega) (by omega)
def mvE (g : Sg) (ee i : Nat) : Nat := if ee = 0 then 0 else mvN g ee i
def tnE (g : Sg) (ee i : Nat) : Nat := if ee = 0 then 0 else tnN g ee i
theorem mvE_le (g : Sg) (ee i : Nat) : mvE g ee i ≤ i := by
  unfold mvE
  split
  · exact Nat.zero_le _
  · exact cnt_le _ _
theorem tnE_le (g : Sg) (ee i : Nat) : tnE g ee i ≤ i := by
  unfold tnE
  split
  · exact Nat.zero_le _
  · exact cnt_le _ _
theorem pl_mod {a : Nat} {b : Bool} (h : a < 64) : (a + if b = true then 100 else 0) % 100 = a := by
  split <;> omega
theorem pl_div {a : Nat} {b : Bool} (h : a < 64) : (a + if b = true then 100 else 0) / 100 = (if b = true then 1 else 0) := by
  split <;> omega
theorem pl_lt {a : Nat} {b : Bool} (h : a < 64) : (a + if b = true then 100 else 0) < 2 ^ 31 := by
  split <;> omega
theorem bit_eq {a b : Bool} (h : (if a = true then 1 else 0) = (if b = true then 1 else 0)) : (!(a == b)) = false := by
  cases a <;> cases b <;> first | rfl | exact absurd h (by decide)
theorem bit_ne {a b : Bool} (h : (if a = true then 1 else 0) ≠ (if b = true then 1 else 0)) : (!(a == b)) = true := by
  cases a <;> cases b <;> first | rfl | exact absurd rfl h
set_option maxRecDepth 100000 in
set_option maxHeartbeats 4000000 in
theorem law_e2 {l : Launch} {Y : YG} {p : Program} {e : Env} {s : State} {m : MethodId} {args : Array Value} {below : List Frame} {meth : Method} {c : Code} {Q : State → Prop} (C : Cx p s m args meth c Y cL_law 20 RL) (hfl : l.stackTraces = false) {x z ti : Nat} {xi : Int32} {dg : Int64} {g : Sg} {h : AH} {v : Vw} {Z : Nat → Prop} (iv : Inv g) (P : Pld g) (r : RepC Y x v g Z h) {ee : Nat} (he : ee < g.n) {w14 w15 w16 w17 w18 w19 : Option Value} {k n : Nat} (hk : k + 200 ≤ 600172) (hn : n + 1200 ≤ 7300668) (cont : ∀ (q : Nat) (f1 : Nat → Int32) (w18 : Option Value) (k2 n2 : Nat), h q = none → k2 ≤ k + 1 + 10 * g.np → n2 ≤ n + g.np + 60 * g.np → Gd p l e room_1 s m args below meth c Q Y 20 452 [some (.ref Y.sb), some (.ref x), some (.ref z), some (.int (nI ti)), some (.int xi), some (.long dg), none, some (.int (nI g.n)), some (.int (nI g.np)), some (.int (nI (sm (fun e => chN g.par g.n e) (ee + 1)))), some (.int (nI (cnt (fun e => decide (chN g.par g.n e = 0)) (ee + 1)))), some (.int (nI (ee))), some (.int (nO (parO g ee))), some (.int (nO (g.last ee))), some (.ref q), some (.int (nI (mvE g ee g.np))), some (.int (nI (tnE g ee g.np))), some (.int (nI (g.np))), w18, w19] [] (hup h q (aI Y g.np f1)) k2 n2) : Gd p l e room_1 s m args below meth c Q Y 20 305 [some (.ref Y.sb), some (.ref x), some (.ref z), some (.int (nI ti)), some (.int xi), some (.long dg), none, some (.int (nI g.n)), some (.int (nI g.np)), some (.int (nI (sm (fun e => chN g.par g.n e) (ee + 1)))), some (.int (nI (cnt (fun e => decide (chN g.par g.n e = 0)) (ee + 1)))), some (.int (nI (ee))), some (.int (nO (parO g ee))), some (.int (nO (g.last ee))), w14, w15, w16, w17, w18, w19] [] h k n := by
  have hn60 := iv.n60
  have hnp16 := iv.np
  have hnow := iv.now
  have hn1 := iv.n1
  have hT := iv.tr
  refine g_iload C dL_law_305 rfl ?_
  refine g_newI C (N := g.np) rfl (by omega) w49 (by show _ ≤ 600172; omega) (by show _ ≤ 7300668; omega) dL_law_307 (fun q hq => ?_)
  refine g_astore C dL_law_309 (by decide) (by first | rfl | exact isR_rf _) ?_
  refine g_iconst C (v := nI 0) dL_law_311 (by decide) ?_
  refine g_istore C dL_law_312 (by decide) ?_
  refine g_iconst C (v := nI 0) dL_law_314 (by decide) ?_
  refine g_istore C dL_law_315 (by decide) ?_
  refine g_iconst C (v := nI 0) dL_law_317 (by decide) ?_
  refine g_istore C dL_law_318 (by decide) ?_
  have lp : ∀ (d i : Nat) (f1 : Nat → Int32) (w18 : Option Value) (k2 n2 : Nat), i ≤ g.np → g.np - i < d → (∀ j, j < i → f1 j = nI (g.pos ee j)) → k2 ≤ k + 1 + 10 * i → n2 ≤ n + g.np + 60 * i → Gd p l e room_1 s m args below meth c Q Y 20 320 [some (.ref Y.sb), some (.ref x), some (.ref z), some (.int (nI ti)), some (.int xi), some (.long dg), none, some (.int (nI g.n)), some (.int (nI g.np)), some (.int (nI (sm (fun e => chN g.par g.n e) (ee + 1)))), some (.int (nI (cnt (fun e => decide (chN g.par g.n e = 0)) (ee + 1)))), some (.int (nI (ee))), some (.int (nO (parO g ee))), some (.int (nO (g.last ee))), some (.ref q), some (.int (nI (mvE g ee i))), some (.int (nI (tnE g ee i))), some (.int (nI (i))), w18, w19] [] (hup h q (aI Y g.np f1)) k2 n2 := by
    intro d
    induction d with
    | zero => intro i f1 w18 k2 n2 z1 z2; omega
    | succ d ih =>
      intro i f1 w18 k2 n2 hi hd hf hk2 hn2
      have r1 := r.ext (Ext.new hq (e := aI Y g.np f1))
      have hposi : i < g.np → g.pos ee i < 64 := fun y => iv.pos he y
      refine g_iload C dL_law_320 rfl ?_
      refine g_iload C dL_law_322 rfl ?_
      refine g_icmp_geN C (tgt := 452) dL_law_324 (by decide) (by omega) (by omega) (fun q1 => ?_) (fun q1 => ?_)
      · have : i = g.np := by omega
        subst this
        exact cont q f1 w18 k2 n2 hq hk2 hn2
      · have hpi := hposi q1
        refine g_aload C dL_law_327 rfl (by first | rfl | exact isR_rf _) ?_
        refine g_iload C dL_law_329 rfl ?_
        refine g_aload_n C dL_law_331 rfl (by first | rfl | exact isR_rf _) ?_
        refine g_iload C dL_law_332 rfl ?_
        refine g_iload C dL_law_334 rfl ?_
        refine g_callV C ((V_placeIn l Y hfl r1 iv he q1).K) ok_X2_placeIn w416 (r1.x) rfl rfl rfl dL_law_336 (Nat.le_of_ble_eq_true rfl) (Nat.le_of_ble_eq_true rfl) (Nat.le_of_ble_eq_true rfl) (by show _ ≤ 600172; omega) (by show _ ≤ 7300668; omega) (ofS ?_)
        refine g_bipush C (v := nI 100) dL_law_339 (by decide) ?_
        refine g_iremN C dL_law_341 (pl_lt hpi) (by decide) ?_
        rw [pl_mod hpi]
        refine g_iast C hup_eq rfl q1 (by omega) dL_law_342 ?_
        rw [hup_hup]
        have r2 := r.ext (Ext.new hq (e := aI Y g.np (upd f1 i (nI (g.pos ee i)))))
        have hf2 : ∀ j, j < i + 1 → (upd f1 i (nI (g.pos ee i))) j = nI (g.pos ee j) := by
          intro j hj
          by_cases c1 : j = i
          · rw [c1, pk_us]
          · rw [pk_un c1]; exact hf j (by omega)
        have nx : ∀ (k3 n3 : Nat) (w18 : Option Value), k3 ≤ k2 + 10 → n3 ≤ n2 + 60 → Gd p l e room_1 s m args below meth c Q Y 20 446 [some (.ref Y.sb), some (.ref x), some (.ref z), some (.int (nI ti)), some (.int xi), some (.long dg), none, some (.int (nI g.n)), some (.int (nI g.np)), some (.int (nI (sm (fun e => chN g.par g.n e) (ee + 1)))), some (.int (nI (cnt (fun e => decide (chN g.par g.n e = 0)) (ee + 1)))), some (.int (nI (ee))), some (.int (nO (parO g ee))), some (.int (nO (g.last ee))), some (.ref q), some (.int (nI (mvE g ee (i + 1)))), some (.int (nI (tnE g ee (i + 1)))), some (.int (nI (i))), w18, w19] [] (hup h q (aI Y g.np (upd f1 i (nI (g.pos ee i))))) k3 n3 := by
          intro k3 n3 w18 hk3 hn3
          refine g_iincN C dL_law_446 rfl (by decide) ?_
          refine g_goto C (tgt := 320) dL_law_449 (by decide) ?_
          exact ih (i + 1) _ _ _ _ (by omega) (by omega) hf2 (by omega) (by omega)
        have a374 : ∀ (w18 : Option Value), Gd p l e room_1 s m args below meth c Q Y 20 374 [some (.ref Y.sb), some (.ref x), some (.ref z), some (.int (nI ti)), some (.int xi), some (.long dg), none, some (.int (nI g.n)), some (.int (nI g.np)), some (.int (nI (sm (fun e => chN g.par g.n e) (ee + 1)))), some (.int (nI (cnt (fun e => decide (chN g.par g.n e = 0)) (ee + 1)))), some (.int (nI (ee))), some (.int (nO (parO g ee))), some (.int (nO (g.last ee))), some (.ref q), some (.int (nI (mvE g ee i))), some (.int (nI (tnE g ee i))), some (.int (nI (i))), w18, w19] [] (hup h q (aI Y g.np (upd f1 i (nI (g.pos ee i))))) (k2 + 2) (n2 + 12) := by
          intro w18
          have hml := mvE_le g ee i
          have htl := tnE_le g ee i
          rcases Nat.eq_zero_or_pos ee with h0 | h0
          · subst h0
            have e1 : mvE g 0 (i + 1) = mvE g 0 i := rfl
            have e2 : tnE g 0 (i + 1) = tnE g 0 i := rfl
            rw [e1, e2] at nx
            refine g_iload C dL_law_374 rfl ?_
            refine g_if_neN C (tgt := 382) dL_law_376 (by decide) (by omega) (fun q3 => ?_) (fun q3 => ?_)
            · omega
            · refine g_goto C (tgt := 446) dL_law_379 (by decide) ?_
              exact nx _ _ _ (by omega) (by omega)
          · have hpn := iv.par he
            have hpp := iv.pos hpn q1
            have e1 : mvE g ee (i + 1) = mvE g ee i + (if (!decide (g.pos (g.par ee) i = g.pos ee i)) = true then 1 else 0) := by
              unfold mvE
              rw [if_neg (by omega), if_neg (by omega)]
              rfl
            have e2 : tnE g ee (i + 1) = tnE g ee i + (if (!((g.lb (g.par ee)).testBit i == (g.lb ee).testBit i)) = true then 1 else 0) := by
              unfold tnE
              rw [if_neg (by omega), if_neg (by omega)]
              rfl
            have j443 : ∀ bb : Nat, tnE g ee (i + 1) = tnE g ee i + bb → Gd p l e room_1 s m args below meth c Q Y 20 443 [some (.ref Y.sb), some (.ref x), some (.ref z), some (.int (nI ti)), some (.int xi), some (.long dg), none, some (.int (nI g.n)), some (.int (nI g.np)), some (.int (nI (sm (fun e => chN g.par g.n e) (ee + 1)))), some (.int (nI (cnt (fun e => decide (chN g.par g.n e = 0)) (ee + 1)))), some (.int (nI (ee))), some (.int (nO (parO g ee))), some (.int (nO (g.last ee))), some (.ref q), some (.int (nI (mvE g ee (i + 1)))), some (.int (nI (tnE g ee i))), some (.int (nI (i))), w18, w19] [.int (nI bb), .int (nI (tnE g ee i))] (hup h q (aI Y g.np (upd f1 i (nI (g.pos ee i))))) (k2 + 8) (n2 + 48) := by
              intro bb hb
              refine g_iaddN C dL_law_443 ?_
              refine g_istore C dL_law_444 (by decide) ?_
              rw [← hb]
              exact nx _ _ _ (by omega) (by omega)
            have j408 : ∀ bb : Nat, mvE g ee (i + 1) = mvE g ee i + bb → Gd p l e room_1 s m args below meth c Q Y 20 408 [some (.ref Y.sb), some (.ref x), some (.ref z), some (.int (nI ti)), some (.int xi), some (.long dg), none, some (.int (nI g.n)), some (.int (nI g.np)), some (.int (nI (sm (fun e => chN g.par g.n e) (ee + 1)))), some (.int (nI (cnt (fun e => decide (chN g.par g.n e = 0)) (ee + 1)))), some (.int (nI (ee))), some (.int (nO (parO g ee))), some (.int (nO (g.last ee))), some (.ref q), some (.int (nI (mvE g ee i))), some (.int (nI (tnE g ee i))), some (.int (nI (i))), w18, w19] [.int (nI bb), .int (nI (mvE g ee i))] (hup h q (aI Y g.np (upd f1 i (nI (g.pos ee i))))) (k2 + 4) (n2 + 24) := by
              intro bb hb
              refine g_iaddN C dL_law_408 ?_
              refine g_istore C dL_law_409 (by decide) ?_
              rw [← hb]
              rw [parO_p h0] at j443 ⊢
              refine g_iload C dL_law_411 rfl ?_
              refine g_aload_n C dL_law_413 rfl (by first | rfl | exact isR_rf _) ?_
              refine g_iload C dL_law_414 rfl ?_
              refine g_iload C dL_law_416 rfl ?_
              refine g_callV C ((V_placeIn l Y hfl r2 iv hpn q1).K) ok_X2_placeIn w416 (r2.x) rfl rfl rfl dL_law_418 (Nat.le_of_ble_eq_true rfl) (Nat.le_of_ble_eq_true rfl) (Nat.le_of_ble_eq_true rfl) (by show _ ≤ 600172; omega) (by show _ ≤ 7300668; omega) (ofS ?_)
              refine g_bipush C (v := nI 100) dL_law_421 (by decide) ?_
              refine g_idivN C dL_law_423 (pl_lt hpp) (by decide) ?_
              rw [pl_div hpp]
              refine g_aload_n C dL_law_424 rfl (by first | rfl | exact isR_rf _) ?_
              refine g_iload C dL_law_425 rfl ?_
              refine g_iload C dL_law_427 rfl ?_
              refine g_callV C ((V_placeIn l Y hfl r2 iv he q1).K) ok_X2_placeIn w416 (r2.x) rfl rfl rfl dL_law_429 (Nat.le_of_ble_eq_true rfl) (Nat.le_of_ble_eq_true rfl) (Nat.le_of_ble_eq_true rfl) (by show _ ≤ 600172; omega) (by show _ ≤ 7300668; omega) (ofS ?_)
              refine g_bipush C (v := nI 100) dL_law_432 (by decide) ?_
              refine g_idivN C dL_law_434 (pl_lt hpi) (by decide) ?_
              rw [pl_div hpi]
              refine g_icmp_eqN C (tgt := 442) dL_law_435 (by decide) (by split <;> omega) (by split <;> omega) (fun q2 => ?_) (fun q2 => ?_)
              · refine g_iconst C (v := nI 0) dL_law_442 (by decide) ?_
                exact j443 0 (by rw [e2, if_neg (by rw [bit_eq q2]; decide)])
              · refine g_iconst C (v := nI 1) dL_law_438 (by decide) ?_
                refine g_goto C (tgt := 443) dL_law_439 (by decide) ?_
                exact j443 1 (by rw [e2, if_pos (by rw [bit_ne q2])])
            rw [parO_p h0] at j408 ⊢
            refine g_iload C dL_law_374 rfl ?_
            refine g_if_neN C (tgt := 382) dL_law_376 (by decide) (by omega) (fun q3 => ?_) (fun q3 => ?_)
            · refine g_iload C dL_law_382 rfl ?_
              refine g_aload_n C dL_law_384 rfl (by first | rfl | exact isR_rf _) ?_
              refine g_iload C dL_law_385 rfl ?_
              refine g_iload C dL_law_387 rfl ?_
              refine g_callV C ((V_placeIn l Y hfl r2 iv hpn q1).K) ok_X2_placeIn w416 (r2.x) rfl rfl rfl dL_law_389 (Nat.le_of_ble_eq_true rfl) (Nat.le_of_ble_eq_true rfl) (Nat.le_of_ble_eq_true rfl) (by show _ ≤ 600172; omega) (by show _ ≤ 7300668; omega) (ofS ?_)
              refine g_bipush C (v := nI 100) dL_law_392 (by decide) ?_
              refine g_iremN C dL_law_394 (pl_lt hpp) (by decide) ?_
              rw [pl_mod hpp]
              refine g_aload C dL_law_395 rfl (by first | rfl | exact isR_rf _) ?_
              refine g_iload C dL_law_397 rfl ?_
              refine g_iald C hup_eq rfl q1 (by omega) dL_law_399 ?_
              rw [pk_us]
              refine g_icmp_eqN C (tgt := 407) dL_law_400 (by decide) (by omega) (by omega) (fun q4 => ?_) (fun q4 => ?_)
              · refine g_iconst C (v := nI 0) dL_law_407 (by decide) ?_
                exact j408 0 (by rw [e1, if_neg (by rw [decide_eq_true q4]; decide)])
              · refine g_iconst C (v := nI 1) dL_law_403 (by decide) ?_
                refine g_goto C (tgt := 408) dL_law_404 (by decide) ?_
                exact j408 1 (by rw [e1, if_pos (by rw [decide_eq_false q4]; rfl)])
            · omega
        have lo : ∀ (d2 j : Nat), j ≤ i → i - j < d2 → Gd p l e room_1 s m args below meth c Q Y 20 346 [some (.ref Y.sb), some (.ref x), some (.ref z), some (.int (nI ti)), some (.int xi), some (.long dg), none, some (.int (nI g.n)), some (.int (nI g.np)), some (.int (nI (sm (fun e => chN g.par g.n e) (ee + 1)))), some (.int (nI (cnt (fun e => decide (chN g.par g.n e = 0)) (ee + 1)))), some (.int (nI (ee))), some (.int (nO (parO g ee))), some (.int (nO (g.last ee))), some (.ref q), some (.int (nI (mvE g ee i))), some (.int (nI (tnE g ee i))), some (.int (nI (i))), some (.int (nI (j))), w19] [] (hup h q (aI Y g.np (upd f1 i (nI (g.pos ee i))))) (k2 + 2) (n2 + 12) := by
          intro d2
          induction d2 with
          | zero => intro j z1 z2; omega
          | succ d2 ih2 =>
            intro j hj hd2
            refine g_iload C dL_law_346 rfl ?_
            refine g_iload C dL_law_348 rfl ?_
            refine g_icmp_geN C (tgt := 374) dL_law_350 (by decide) (by omega) (by omega) (fun q3 => ?_) (fun q3 => ?_)
            · exact a374 _
            · refine g_aload C dL_law_353 rfl (by first | rfl | exact isR_rf _) ?_
              refine g_iload C dL_law_355 rfl ?_
              refine g_iald C hup_eq rfl (show j < g.np by omega) (by omega) dL_law_357 ?_
              rw [hf2 j (by omega)]
              refine g_aload C dL_law_358 rfl (by first | rfl | exact isR_rf _) ?_
              refine g_iload C dL_law_360 rfl ?_
              refine g_iald C hup_eq rfl q1 (by omega) dL_law_362 ?_
              rw [hf2 i (by omega)]
              have hpj := iv.pos he (show j < g.np by omega)
              refine g_icmp_neN C (tgt := 368) dL_law_363 (by decide) (by omega) (by omega) (fun q4 => ?_) (fun q4 => ?_)
              · refine g_iincN C dL_law_368 rfl (by decide) ?_
                refine g_goto C (tgt := 346) dL_law_371 (by decide) ?_
                exact ih2 (j + 1) (by omega) (by omega)
              · have := pos_inj iv P ee he j i (by omega) q1 q4
                omega
        refine g_iconst C (v := nI 0) dL_law_343 (by decide) ?_
        refine g_istore C dL_law_344 (by decide) ?_
        exact lo (i + 1) 0 (Nat.zero_le _) (by omega)
  have m0 : mvE g ee 0 = 0 := by have := mvE_le g ee 0; omega
  have t0 : tnE g ee 0 = 0 := by have := tnE_le g ee 0; omega
  have := lp (g.np + 1) 0 (fun _ => 0) w18 (k + 1) (n + g.np) (Nat.zero_le _) (by omega) (fun j hj => absurd hj (Nat.not_lt_zero j)) (by omega) (by omega)
  rw [m0, t0] at this
  exact this
theorem sub_m1 (b : Nat) : nI b - nI (b + 1) = -1 := by
  have : ∀ x : Int32, x - (x + 1) = -1 := by
    intro x
    apply Int32.toBitVec_inj.1
    show x.toBitVec - (x.toBitVec + 1#32) = -1#32
    generalize x.toBitVec = b
    bv_omega
  rw [nI_succ]
  exact this _
theorem sub_p1 (b : Nat) : nI (b + 1) - nI b = nI 1 := by rw [pk_sub (by omega), show b + 1 - b = 1 by omega]
theorem sub_00 (b : Nat) : nI b - nI b = nI 0 := by rw [pk_sub (Nat.le_refl b), Nat.sub_self]
set_option maxRecDepth 100000 in
set_option maxHeartbeats 4000000 in
theorem law_e3 {l : Launch} {Y : YG} {p : Program} {e : Env} {s : State} {m : MethodId} {args : Array Value} {below : List Frame} {meth : Method} {c : Code} {Q : State → Prop} (C : Cx p s m args meth c Y cL_law 20 RL) (hfl : l.stackTraces = false) {x z ti : Nat} {xi : Int32} {dg : Int64} {g : Sg} {h : AH} {v : Vw} {Z : Nat → Prop} (iv : Inv g) (P : Pld g) (r : RepC Y x v g Z h) {ee : Nat} (he : ee < g.n) {w13 w14 w17 w18 w19 : Option Value} {k n : Nat} (hk : k + 200 ≤ 600172) (hn : n + 1200 ≤ 7300668) (cont : ∀ (w17 w18 : Option Value) (k2 n2 : Nat), k2 ≤ k + 3 → n2 ≤ n + 18 → Gd p l e room_1 s m args below meth c Q Y 20 549 [some (.ref Y.sb), some (.ref x), some (.ref z), some (.int (nI ti)), some (.int xi), some (.long dg), none, some (.int (nI g.n)), some (.int (nI g.np)), some (.int (nI (sm (fun e => chN g.par g.n e) (ee + 1)))), some (.int (nI (cnt (fun e => decide (chN g.par g.n e = 0)) (ee + 1)))), some (.int (nI (ee))), some (.int (nO (parO g ee))), w13, w14, some (.int (nI (mvE g ee g.np))), some (.int (nI (tnE g ee g.np))), w17, w18, w19] [] h k2 n2) : Gd p l e room_1 s m args below meth c Q Y 20 452 [some (.ref Y.sb), some (.ref x), some (.ref z), some (.int (nI ti)), some (.int xi), some (.long dg), none, some (.int (nI g.n)), some (.int (nI g.np)), some (.int (nI (sm (fun e => chN g.par g.n e) (ee + 1)))), some (.int (nI (cnt (fun e => decide (chN g.par g.n e = 0)) (ee + 1)))), some (.int (nI (ee))), some (.int (nO (parO g ee))), w13, w14, some (.int (nI (mvE g ee g.np))), some (.int (nI (tnE g ee g.np))), w17, w18, w19] [] h k n := by
  have hn60 := iv.n60
  have hnp16 := iv.np
  have hnow := iv.now
  have hn1 := iv.n1
  have hT := iv.tr
  rcases Nat.eq_zero_or_pos ee with h0 | h0
  · subst h0
    refine g_iload C dL_law_452 rfl ?_
    refine g_if_neN C (tgt := 460) dL_law_454 (by decide) (by omega) (fun q3 => ?_) (fun q3 => ?_)
    · omega
    · refine g_goto C (tgt := 549) dL_law_457 (by decide) ?_
      exact cont _ _ _ _ (by omega) (by omega)
  · obtain ⟨kd, hkd, ek, em, et, el, eb⟩ := paw_cnt P h0 he
    have hpn := iv.par he
    have hly := ly_le g (g.par ee)
    have em2 : mvE g ee g.np = mvN g ee g.np := by unfold mvE; rw [if_neg (by omega)]
    have et2 : tnE g ee g.np = tnN g ee g.np := by unfold tnE; rw [if_neg (by omega)]
    rw [em2, et2] at cont ⊢
    rw [em, et] at cont ⊢
    clear em et em2 et2
    rw [parO_p h0] at cont ⊢
    have : kd = 0 ∨ kd = 1 ∨ kd = 2 ∨ kd = 3 := by omega
    rcases this with rfl | rfl | rfl | rfl
    · refine g_iload C dL_law_452 rfl ?_
      refine g_if_neN C (tgt := 460) dL_law_454 (by decide) (by omega) (fun q9 => ?_) (fun q9 => ?_)
      · refine g_aload_n C dL_law_460 rfl (by first | rfl | exact isR_rf _) ?_
        refine g_iload C dL_law_461 rfl ?_
        refine g_callV C ((V_kindOf l Y hfl r iv he).K) ok_X2_kindOf w380 (r.x) rfl rfl rfl dL_law_463 (Nat.le_of_ble_eq_true rfl) (Nat.le_of_ble_eq_true rfl) (Nat.le_of_ble_eq_true rfl) (by show _ ≤ 600172; omega) (by show _ ≤ 7300668; omega) (ofS ?_)
        rw [ek]
        refine g_istore C dL_law_466 (by decide) ?_
        refine g_aload_n C dL_law_468 rfl (by first | rfl | exact isR_rf _) ?_
        refine g_iload C dL_law_469 rfl ?_
        refine g_callV C ((V_lyingIn l Y hfl r iv he).K) ok_X2_lyingIn w433 (r.x) rfl rfl rfl dL_law_471 (Nat.le_of_ble_eq_true rfl) (Nat.le_of_ble_eq_true rfl) (Nat.le_of_ble_eq_true rfl) (by show _ ≤ 600172; omega) (by show _ ≤ 7300668; omega) (ofS ?_)
        refine g_aload_n C dL_law_474 rfl (by first | rfl | exact isR_rf _) ?_
        refine g_iload C dL_law_475 rfl ?_
        refine g_callV C ((V_lyingIn l Y hfl r iv hpn).K) ok_X2_lyingIn w433 (r.x) rfl rfl rfl dL_law_477 (Nat.le_of_ble_eq_true rfl) (Nat.le_of_ble_eq_true rfl) (Nat.le_of_ble_eq_true rfl) (by show _ ≤ 600172; omega) (by show _ ≤ 7300668; omega) (ofS ?_)
        have el2 : lyN g ee = lyN g (g.par ee) := el
        rw [el2]
        refine g_isub C dL_law_480 ?_
        rw [sub_00]
        refine g_istore C dL_law_481 (by decide) ?_
        refine g_iload C dL_law_483 rfl ?_
        refine g_iload C dL_law_485 rfl ?_
        refine g_iconst C (v := nI 1) dL_law_487 (by decide) ?_
        refine g_icmp_ne C (tgt := 495) dL_law_488 (by decide) (fun q => ?_) (fun q => ?_)
        · refine g_iload C dL_law_495 rfl ?_
          refine g_iconst C (v := nI 2) dL_law_497 (by decide) ?_
          refine g_icmp_ne C (tgt := 505) dL_law_498 (by decide) (fun q => ?_) (fun q => ?_)
          · refine g_iconst C (v := nI 0) dL_law_505 (by decide) ?_
            refine g_icmp_ne C (tgt := 547) dL_law_506 (by decide) (fun q => ?_) (fun q => ?_)
            · exact absurd q (by decide)
            · refine g_iload C dL_law_509 rfl ?_
              refine g_iload C dL_law_511 rfl ?_
              refine g_iconst C (v := nI 3) dL_law_513 (by decide) ?_
              refine g_icmp_ne C (tgt := 521) dL_law_514 (by decide) (fun q => ?_) (fun q => ?_)
              · refine g_iconst C (v := nI 0) dL_law_521 (by decide) ?_
                refine g_icmp_ne C (tgt := 547) dL_law_522 (by decide) (fun q => ?_) (fun q => ?_)
                · exact absurd q (by decide)
                · refine g_iload C dL_law_525 rfl ?_
                  refine g_iload C dL_law_527 rfl ?_
                  refine g_iconst C (v := nI 1) dL_law_529 (by decide) ?_
                  refine g_icmp_eq C (tgt := 539) dL_law_530 (by decide) (fun q => ?_) (fun q => ?_)
                  · exact absurd q (by decide)
                  · refine g_iload C dL_law_533 rfl ?_
                    refine g_iconst C (v := nI 2) dL_law_535 (by decide) ?_
                    refine g_icmp_ne C (tgt := 543) dL_law_536 (by decide) (fun q => ?_) (fun q => ?_)
                    · refine g_iconst C (v := nI 0) dL_law_543 (by decide) ?_
                      refine g_icmp_eq C (tgt := 549) dL_law_544 (by decide) (fun q => ?_) (fun q => ?_)
                      · exact cont _ _ _ _ (by omega) (by omega)
                      · first | exact absurd (by decide) q | exact absurd q (by decide)
                    · first | exact absurd (by decide) q | exact absurd q (by decide)
              · first | exact absurd (by decide) q | exact absurd q (by decide)
          · first | exact absurd (by decide) q | exact absurd q (by decide)
        · first | exact absurd (by decide) q | exact absurd q (by decide)
      · omega
    · refine g_iload C dL_law_452 rfl ?_
      refine g_if_neN C (tgt := 460) dL_law_454 (by decide) (by omega) (fun q9 => ?_) (fun q9 => ?_)
      · refine g_aload_n C dL_law_460 rfl (by first | rfl | exact isR_rf _) ?_
        refine g_iload C dL_law_461 rfl ?_
        refine g_callV C ((V_kindOf l Y hfl r iv he).K) ok_X2_kindOf w380 (r.x) rfl rfl rfl dL_law_463 (Nat.le_of_ble_eq_true rfl) (Nat.le_of_ble_eq_true rfl) (Nat.le_of_ble_eq_true rfl) (by show _ ≤ 600172; omega) (by show _ ≤ 7300668; omega) (ofS ?_)
        rw [ek]
        refine g_istore C dL_law_466 (by decide) ?_
        refine g_aload_n C dL_law_468 rfl (by first | rfl | exact isR_rf _) ?_
        refine g_iload C dL_law_469 rfl ?_
        refine g_callV C ((V_lyingIn l Y hfl r iv he).K) ok_X2_lyingIn w433 (r.x) rfl rfl rfl dL_law_471 (Nat.le_of_ble_eq_true rfl) (Nat.le_of_ble_eq_true rfl) (Nat.le_of_ble_eq_true rfl) (by show _ ≤ 600172; omega) (by show _ ≤ 7300668; omega) (ofS ?_)
        refine g_aload_n C dL_law_474 rfl (by first | rfl | exact isR_rf _) ?_
        refine g_iload C dL_law_475 rfl ?_
        refine g_callV C ((V_lyingIn l Y hfl r iv hpn).K) ok_X2_lyingIn w433 (r.x) rfl rfl rfl dL_law_477 (Nat.le_of_ble_eq_true rfl) (Nat.le_of_ble_eq_true rfl) (Nat.le_of_ble_eq_true rfl) (by show _ ≤ 600172; omega) (by show _ ≤ 7300668; omega) (ofS ?_)
        have el2 : lyN g ee = lyN g (g.par ee) + 1 := el
        rw [el2]
        refine g_isub C dL_law_480 ?_
        rw [sub_p1]
        refine g_istore C dL_law_481 (by decide) ?_
        refine g_iload C dL_law_483 rfl ?_
        refine g_iload C dL_law_485 rfl ?_
        refine g_iconst C (v := nI 1) dL_law_487 (by decide) ?_
        refine g_icmp_ne C (tgt := 495) dL_law_488 (by decide) (fun q => ?_) (fun q => ?_)
        · exact absurd q (by decide)
        · refine g_iconst C (v := nI 1) dL_law_491 (by decide) ?_
          refine g_goto C (tgt := 506) dL_law_492 (by decide) ?_
          refine g_icmp_ne C (tgt := 547) dL_law_506 (by decide) (fun q => ?_) (fun q => ?_)
          · exact absurd q (by decide)
          · refine g_iload C dL_law_509 rfl ?_
            refine g_iload C dL_law_511 rfl ?_
            refine g_iconst C (v := nI 3) dL_law_513 (by decide) ?_
            refine g_icmp_ne C (tgt := 521) dL_law_514 (by decide) (fun q => ?_) (fun q => ?_)
            · refine g_iconst C (v := nI 0) dL_law_521 (by decide) ?_
              refine g_icmp_ne C (tgt := 547) dL_law_522 (by decide) (fun q => ?_) (fun q => ?_)
              · exact absurd q (by decide)
              · refine g_iload C dL_law_525 rfl ?_
                refine g_iload C dL_law_527 rfl ?_
                refine g_iconst C (v := nI 1) dL_law_529 (by decide) ?_
                refine g_icmp_eq C (tgt := 539) dL_law_530 (by decide) (fun q => ?_) (fun q => ?_)
                · refine g_iconst C (v := nI 1) dL_law_539 (by decide) ?_
                  refine g_goto C (tgt := 544) dL_law_540 (by decide) ?_
                  refine g_icmp_eq C (tgt := 549) dL_law_544 (by decide) (fun q => ?_) (fun q => ?_)
                  · exact cont _ _ _ _ (by omega) (by omega)
                  · first | exact absurd (by decide) q | exact absurd q (by decide)
                · first | exact absurd (by decide) q | exact absurd q (by decide)
            · first | exact absurd (by decide) q | exact absurd q (by decide)
      · omega
    · refine g_iload C dL_law_452 rfl ?_
      refine g_if_neN C (tgt := 460) dL_law_454 (by decide) (by omega) (fun q9 => ?_) (fun q9 => ?_)
      · refine g_aload_n C dL_law_460 rfl (by first | rfl | exact isR_rf _) ?_
        refine g_iload C dL_law_461 rfl ?_
        refine g_callV C ((V_kindOf l Y hfl r iv he).K) ok_X2_kindOf w380 (r.x) rfl rfl rfl dL_law_463 (Nat.le_of_ble_eq_true rfl) (Nat.le_of_ble_eq_true rfl) (Nat.le_of_ble_eq_true rfl) (by show _ ≤ 600172; omega) (by show _ ≤ 7300668; omega) (ofS ?_)
        rw [ek]
        refine g_istore C dL_law_466 (by decide) ?_
        refine g_aload_n C dL_law_468 rfl (by first | rfl | exact isR_rf _) ?_
        refine g_iload C dL_law_469 rfl ?_
        refine g_callV C ((V_lyingIn l Y hfl r iv he).K) ok_X2_lyingIn w433 (r.x) rfl rfl rfl dL_law_471 (Nat.le_of_ble_eq_true rfl) (Nat.le_of_ble_eq_true rfl) (Nat.le_of_ble_eq_true rfl) (by show _ ≤ 600172; omega) (by show _ ≤ 7300668; omega) (ofS ?_)
        refine g_aload_n C dL_law_474 rfl (by first | rfl | exact isR_rf _) ?_
        refine g_iload C dL_law_475 rfl ?_
        refine g_callV C ((V_lyingIn l Y hfl r iv hpn).K) ok_X2_lyingIn w433 (r.x) rfl rfl rfl dL_law_477 (Nat.le_of_ble_eq_true rfl) (Nat.le_of_ble_eq_true rfl) (Nat.le_of_ble_eq_true rfl) (by show _ ≤ 600172; omega) (by show _ ≤ 7300668; omega) (ofS ?_)
        have el2 : lyN g ee = lyN g (g.par ee) - 1 := el
        rw [el2]
        refine g_isub C dL_law_480 ?_
        have eb0 := eb rfl
        obtain ⟨b9, hb9⟩ : ∃ b9, lyN g (g.par ee) = b9 + 1 := ⟨lyN g (g.par ee) - 1, by omega⟩
        rw [hb9, show b9 + 1 - 1 = b9 by omega, sub_m1]
        refine g_istore C dL_law_481 (by decide) ?_
        refine g_iload C dL_law_483 rfl ?_
        refine g_iload C dL_law_485 rfl ?_
        refine g_iconst C (v := nI 1) dL_law_487 (by decide) ?_
        refine g_icmp_ne C (tgt := 495) dL_law_488 (by decide) (fun q => ?_) (fun q => ?_)
        · refine g_iload C dL_law_495 rfl ?_
          refine g_iconst C (v := nI 2) dL_law_497 (by decide) ?_
          refine g_icmp_ne C (tgt := 505) dL_law_498 (by decide) (fun q => ?_) (fun q => ?_)
          · exact absurd q (by decide)
          · refine g_iconst C (v := (-1)) dL_law_501 (by decide) ?_
            refine g_goto C (tgt := 506) dL_law_502 (by decide) ?_
            refine g_icmp_ne C (tgt := 547) dL_law_506 (by decide) (fun q => ?_) (fun q => ?_)
            · exact absurd q (by decide)
            · refine g_iload C dL_law_509 rfl ?_
              refine g_iload C dL_law_511 rfl ?_
              refine g_iconst C (v := nI 3) dL_law_513 (by decide) ?_
              refine g_icmp_ne C (tgt := 521) dL_law_514 (by decide) (fun q => ?_) (fun q => ?_)
              · refine g_iconst C (v := nI 0) dL_law_521 (by decide) ?_
                refine g_icmp_ne C (tgt := 547) dL_law_522 (by decide) (fun q => ?_) (fun q => ?_)
                · exact absurd q (by decide)
                · refine g_iload C dL_law_525 rfl ?_
                  refine g_iload C dL_law_527 rfl ?_
                  refine g_iconst C (v := nI 1) dL_law_529 (by decide) ?_
                  refine g_icmp_eq C (tgt := 539) dL_law_530 (by decide) (fun q => ?_) (fun q => ?_)
                  · exact absurd q (by decide)
                  · refine g_iload C dL_law_533 rfl ?_
                    refine g_iconst C (v := nI 2) dL_law_535 (by decide) ?_
                    refine g_icmp_ne C (tgt := 543) dL_law_536 (by decide) (fun q => ?_) (fun q => ?_)
                    · exact absurd q (by decide)
                    · refine g_iconst C (v := nI 1) dL_law_539 (by decide) ?_
                      refine g_goto C (tgt := 544) dL_law_540 (by decide) ?_
                      refine g_icmp_eq C (tgt := 549) dL_law_544 (by decide) (fun q => ?_) (fun q => ?_)
                      · exact cont _ _ _ _ (by omega) (by omega)
                      · first | exact absurd (by decide) q | exact absurd q (by decide)
              · first | exact absurd (by decide) q | exact absurd q (by decide)
        · first | exact absurd (by decide) q | exact absurd q (by decide)
      · omega
    · refine g_iload C dL_law_452 rfl ?_
      refine g_if_neN C (tgt := 460) dL_law_454 (by decide) (by omega) (fun q9 => ?_) (fun q9 => ?_)
      · refine g_aload_n C dL_law_460 rfl (by first | rfl | exact isR_rf _) ?_
        refine g_iload C dL_law_461 rfl ?_
        refine g_callV C ((V_kindOf l Y hfl r iv he).K) ok_X2_kindOf w380 (r.x) rfl rfl rfl dL_law_463 (Nat.le_of_ble_eq_true rfl) (Nat.le_of_ble_eq_true rfl) (Nat.le_of_ble_eq_true rfl) (by show _ ≤ 600172; omega) (by show _ ≤ 7300668; omega) (ofS ?_)
        rw [ek]
        refine g_istore C dL_law_466 (by decide) ?_
        refine g_aload_n C dL_law_468 rfl (by first | rfl | exact isR_rf _) ?_
        refine g_iload C dL_law_469 rfl ?_
        refine g_callV C ((V_lyingIn l Y hfl r iv he).K) ok_X2_lyingIn w433 (r.x) rfl rfl rfl dL_law_471 (Nat.le_of_ble_eq_true rfl) (Nat.le_of_ble_eq_true rfl) (Nat.le_of_ble_eq_true rfl) (by show _ ≤ 600172; omega) (by show _ ≤ 7300668; omega) (ofS ?_)
        refine g_aload_n C dL_law_474 rfl (by first | rfl | exact isR_rf _) ?_
        refine g_iload C dL_law_475 rfl ?_
        refine g_callV C ((V_lyingIn l Y hfl r iv hpn).K) ok_X2_lyingIn w433 (r.x) rfl rfl rfl dL_law_477 (Nat.le_of_ble_eq_true rfl) (Nat.le_of_ble_eq_true rfl) (Nat.le_of_ble_eq_true rfl) (by show _ ≤ 600172; omega) (by show _ ≤ 7300668; omega) (ofS ?_)
        have el2 : lyN g ee = lyN g (g.par ee) := el
        rw [el2]
        refine g_isub C dL_law_480 ?_
        rw [sub_00]
        refine g_istore C dL_law_481 (by decide) ?_
        refine g_iload C dL_law_483 rfl ?_
        refine g_iload C dL_law_485 rfl ?_
        refine g_iconst C (v := nI 1) dL_law_487 (by decide) ?_
        refine g_icmp_ne C (tgt := 495) dL_law_488 (by decide) (fun q => ?_) (fun q => ?_)
        · refine g_iload C dL_law_495 rfl ?_
          refine g_iconst C (v := nI 2) dL_law_497 (by decide) ?_
          refine g_icmp_ne C (tgt := 505) dL_law_498 (by decide) (fun q => ?_) (fun q => ?_)
          · refine g_iconst C (v := nI 0) dL_law_505 (by decide) ?_
            refine g_icmp_ne C (tgt := 547) dL_law_506 (by decide) (fun q => ?_) (fun q => ?_)
            · exact absurd q (by decide)
            · refine g_iload C dL_law_509 rfl ?_
              refine g_iload C dL_law_511 rfl ?_
              refine g_iconst C (v := nI 3) dL_law_513 (by decide) ?_
              refine g_icmp_ne C (tgt := 521) dL_law_514 (by decide) (fun q => ?_) (fun q => ?_)
              · exact absurd q (by decide)
              · refine g_iconst C (v := nI 1) dL_law_517 (by decide) ?_
                refine g_goto C (tgt := 522) dL_law_518 (by decide) ?_
                refine g_icmp_ne C (tgt := 547) dL_law_522 (by decide) (fun q => ?_) (fun q => ?_)
                · exact absurd q (by decide)
                · refine g_iload C dL_law_525 rfl ?_
                  refine g_iload C dL_law_527 rfl ?_
                  refine g_iconst C (v := nI 1) dL_law_529 (by decide) ?_
                  refine g_icmp_eq C (tgt := 539) dL_law_530 (by decide) (fun q => ?_) (fun q => ?_)
                  · exact absurd q (by decide)
                  · refine g_iload C dL_law_533 rfl ?_
                    refine g_iconst C (v := nI 2) dL_law_535 (by decide) ?_
                    refine g_icmp_ne C (tgt := 543) dL_law_536 (by decide) (fun q => ?_) (fun q => ?_)
                    · refine g_iconst C (v := nI 0) dL_law_543 (by decide) ?_
                      refine g_icmp_eq C (tgt := 549) dL_law_544 (by decide) (fun q => ?_) (fun q => ?_)
                      · exact cont _ _ _ _ (by omega) (by omega)
                      · first | exact absurd (by decide) q | exact absurd q (by decide)
                    · first | exact absurd (by decide) q | exact absurd q (by decide)
          · first | exact absurd (by decide) q | exact absurd q (by decide)
        · first | exact absurd (by decide) q | exact absurd q (by decide)
      · omega
set_option maxRecDepth 100000 in
set_option maxHeartbeats 4000000 in
theorem law_eloop {l : Launch} {Y : YG} {p : Program} {e : Env} {s : State} {m : MethodId} {args : Array Value} {below : List Frame} {meth : Method} {c : Code} {Q : State → Prop} (C : Cx p s m args meth c Y cL_law 20 RL) (hfl : l.stackTraces = false) {x z ti : Nat} {xi : Int32} {dg : Int64} {g : Sg} {h : AH} {v : Vw} {Z : Nat → Prop} (iv : Inv g) (P : Pld g) (r : RepC Y x v g Z h) {w12 w13 w14 w15 w16 w17 w18 w19 : Option Value} {k n : Nat} (hk : k + 13000 ≤ 600172) (hn : n + 75000 ≤ 7300668) (cont : ∀ (h2 : AH) (w12 w13 w14 w15 w16 w17 w18 w19 : Option Value) (k2 n2 : Nat), Ext h h2 → k2 ≤ k + 200 * g.n → n2 ≤ n + 1200 * g.n → Gd p l e room_1 s m args below meth c Q Y 20 555 [some (.ref Y.sb), some (.ref x), some (.ref z), some (.int (nI ti)), some (.int xi), some (.long dg), none, some (.int (nI g.n)), some (.int (nI g.np)), some (.int (nI (sm (fun e => chN g.par g.n e) g.n))), some (.int (nI (cnt (fun e => decide (chN g.par g.n e = 0)) g.n))), some (.int (nI (g.n))), w12, w13, w14, w15, w16, w17, w18, w19] [] h2 k2 n2) : Gd p l e room_1 s m args below meth c Q Y 20 109 [some (.ref Y.sb), some (.ref x), some (.ref z), some (.int (nI ti)), some (.int xi), some (.long dg), none, some (.int (nI g.n)), some (.int (nI g.np)), some (.int (nI (sm (fun e => chN g.par g.n e) 0))), some (.int (nI (cnt (fun e => decide (chN g.par g.n e = 0)) 0))), some (.int (nI (0))), w12, w13, w14, w15, w16, w17, w18, w19] [] h k n := by
  have hn60 := iv.n60
  have hnp16 := iv.np
  have hnow := iv.now
  have hn1 := iv.n1
  have hT := iv.tr
  have lp : ∀ (d ee : Nat) (h1 : AH) (w12 w13 w14 w15 w16 w17 w18 w19 : Option Value) (k2 n2 : Nat), ee ≤ g.n → g.n - ee < d → Ext h h1 → k2 ≤ k + 200 * ee → n2 ≤ n + 1200 * ee → Gd p l e room_1 s m args below meth c Q Y 20 109 [some (.ref Y.sb), some (.ref x), some (.ref z), some (.int (nI ti)), some (.int xi), some (.long dg), none, some (.int (nI g.n)), some (.int (nI g.np)), some (.int (nI (sm (fun e => chN g.par g.n e) ee))), some (.int (nI (cnt (fun e => decide (chN g.par g.n e = 0)) ee))), some (.int (nI (ee))), w12, w13, w14, w15, w16, w17, w18, w19] [] h1 k2 n2 := by
    intro d
    induction d with
    | zero => intro ee h1 w12 w13 w14 w15 w16 w17 w18 w19 k2 n2 z1 z2; omega
    | succ d ih =>
      intro ee h1 w12 w13 w14 w15 w16 w17 w18 w19 k2 n2 hee hd hx hk2 hn2
      refine g_iload C dL_law_109 rfl ?_
      refine g_iload C dL_law_111 rfl ?_
      refine g_icmp_geN C (tgt := 555) dL_law_113 (by decide) (by omega) (by omega) (fun q1 => ?_) (fun q1 => ?_)
      · have : ee = g.n := by omega
        subst this
        exact cont h1 w12 w13 w14 w15 w16 w17 w18 w19 k2 n2 hx hk2 hn2
      · refine law_e1 C hfl iv P (r.ext hx) q1 (by omega) (by omega) (fun k3 n3 hk3 hn3 => ?_)
        refine law_e2 C hfl iv P (r.ext hx) q1 (by omega) (by omega) (fun q f1 w18 k4 n4 hq hk4 hn4 => ?_)
        have hx2 : Ext h (hup h1 q (aI Y g.np f1)) := hx.tr (Ext.new hq)
        refine law_e3 C hfl iv P (r.ext hx2) q1 (by omega) (by omega) (fun w17 w18 k5 n5 hk5 hn5 => ?_)
        refine g_iincN C dL_law_549 rfl (by decide) ?_
        refine g_goto C (tgt := 109) dL_law_552 (by decide) ?_
        exact ih (ee + 1) _ _ _ _ _ _ _ _ _ _ _ (by omega) (by omega) hx2 (by omega) (by omega)
  exact lp (g.n + 1) 0 h _ _ _ _ _ _ _ _ _ _ (Nat.zero_le _) (by omega) (fun _ _ e => e) (by omega) (by omega)
