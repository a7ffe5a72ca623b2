theorem dg_take {L : List Int32} {i : Nat} {w : Int32} (h : L[i]? = some w) (d : Int64) : dgF (L.take (i + 1)) d = dgF (L.take i) d * 31 + w.toInt64 := by
  unfold dgF
  rw [List.take_add_one, h, List.foldl_append]
  rfl
theorem dg2 (a b : Int32) (d : Int64) : dgF [a, b] d = (d * 31 + a.toInt64) * 31 + b.toInt64 := rfl
theorem dg_all {L : List Int32} {i : Nat} (h : L.length ≤ i) (d : Int64) : dgF (L.take i) d = dgF L d := by
  rw [List.take_of_length_le h]
set_option maxRecDepth 100000 in
set_option maxHeartbeats 4000000 in
theorem K_X3_digest (l : Launch) (Y : YG) {x : Nat} {th : Int32} {ar : Nat → Nat} {f : Nat → Nat → Int32} {g : Sg} {h : AH} (r : RepM Y x th ar f g h) (iv : Inv g) : MX l Y yX3_digest cX3_digest 10 (some .long) 3 68 61 608 [.ref x] h (fun vv h2 => vv = some (.long (digV g)) ∧ RepM Y x (nI 0) ar f g h2 ∧ FrM x ar h h2) (noX) := by
  have hn60 := iv.n60
  have hnp16 := iv.np
  have hnow := iv.now
  have hn1 := iv.n1
  have hct := iv.ct hnow
  refine MX.of (by decide +kernel) (Nat.le_of_ble_eq_true rfl) ?_
  intro p e s m args0 below meth c C hr hout hnm
  generalize hD1 : itF (pcL g) g.np (dgF (hdL g) 2251) = D1
  have lpE : ∀ (d i : Nat) (H : AH) (u1 : Nat) (w5 w6 w7 w8 w9 : Option Value) (kk nn : Nat), i ≤ g.n → g.n - i < d → RepM Y x (nI 0) ar f g H → FrM x ar h H → kk = 1 + i → nn = 8 + 10 * i → Gd p l e (rmO 3 68 61 608) s m args0 below meth c (vx_MQ below (Qk Y (fun vv h2 => vv = some (.long (digV g)) ∧ RepM Y x (nI 0) ar f g h2 ∧ FrM x ar h h2)) (Xk Y (noX)) args0 s 61 608 Y.A) Y 10 195 [some (.ref x), some (.ref u1), some (.long (itF (evL g) i D1)), none, some (.int (nI i)), w5, w6, w7, w8, w9] [] H kk nn := by
    intro d
    induction d with
    | zero => intro i H u1 w5 w6 w7 w8 w9 kk nn h1 h2; omega
    | succ d ih =>
      intro i H u1 w5 w6 w7 w8 w9 kk nn hi hd r hF hk hn
      refine g_iload C dX3_digest_195 rfl ?_
      refine g_aload_n C dX3_digest_197 rfl (by first | rfl | exact isR_rf _) ?_
      refine gf_X3_9 C (r.x) rfl dX3_digest_198 ?_
      refine g_icmp_geN C (tgt := 377) dX3_digest_201 (by decide) (by omega) (by omega) (fun q1 => ?_) (fun q1 => ?_)
      · have hin : i = g.n := by omega
        subst hin
        refine g_lload_n C dX3_digest_377 rfl ?_
        exact g_lret C hr dX3_digest_378 (by omega) (by omega) (⟨by unfold digV; rw [hD1], r, hF⟩)
      · refine g_bipush C (v := nI 10) dX3_digest_204 (by decide) ?_
        refine g_newI C (N := 10) rfl (by omega) w49 (by show _ ≤ 61; omega) (by show _ ≤ 608; omega) dX3_digest_206 (fun q2 hq2 => ?_)
        have r2 := fun fv => r.ext (Ext.new (e := aI Y 10 fv) hq2)
        refine g_dup C dX3_digest_208 (by first | rfl | exact cat_rf _) ?_
        refine g_iconst C (v := nI 0) dX3_digest_209 (by decide) ?_
        refine g_aload_n C dX3_digest_210 rfl (by first | rfl | exact isR_rf _) ?_
        refine gf_X3_13 C ((r2 _).x) rfl dX3_digest_211 ?_
        refine g_iload C dX3_digest_214 rfl ?_
        refine g_iald C (r2 _).a0 rfl (show i < 60 by omega) (by decide) dX3_digest_216 ?_
        rw [r.rw.on q1]
        refine g_iast C hup_eq rfl (show 0 < 10 by decide) (by decide) dX3_digest_217 ?_
        rw [hup_hup]
        refine g_dup C dX3_digest_218 (by first | rfl | exact cat_rf _) ?_
        refine g_iconst C (v := nI 1) dX3_digest_219 (by decide) ?_
        refine g_aload_n C dX3_digest_220 rfl (by first | rfl | exact isR_rf _) ?_
        refine gf_X3_17 C ((r2 _).x) rfl dX3_digest_221 ?_
        refine g_iload C dX3_digest_224 rfl ?_
        refine g_iald C (r2 _).a1 rfl (show i < 60 by omega) (by decide) dX3_digest_226 ?_
        rw [r.rw.kd q1]
        refine g_iast C hup_eq rfl (show 1 < 10 by decide) (by decide) dX3_digest_227 ?_
        rw [hup_hup]
        refine g_dup C dX3_digest_228 (by first | rfl | exact cat_rf _) ?_
        refine g_iconst C (v := nI 2) dX3_digest_229 (by decide) ?_
        refine g_aload_n C dX3_digest_230 rfl (by first | rfl | exact isR_rf _) ?_
        refine gf_X3_20 C ((r2 _).x) rfl dX3_digest_231 ?_
        refine g_iload C dX3_digest_234 rfl ?_
        refine g_iald C (r2 _).a2 rfl (show i < 60 by omega) (by decide) dX3_digest_236 ?_
        rw [r.rw.nm q1]
        refine g_iast C hup_eq rfl (show 2 < 10 by decide) (by decide) dX3_digest_237 ?_
        rw [hup_hup]
        refine g_dup C dX3_digest_238 (by first | rfl | exact cat_rf _) ?_
        refine g_iconst C (v := nI 3) dX3_digest_239 (by decide) ?_
        refine g_aload_n C dX3_digest_240 rfl (by first | rfl | exact isR_rf _) ?_
        refine gf_X3_23 C ((r2 _).x) rfl dX3_digest_241 ?_
        refine g_iload C dX3_digest_244 rfl ?_
        refine g_iald C (r2 _).a3 rfl (show i < 60 by omega) (by decide) dX3_digest_246 ?_
        rw [r.rw.dp q1]
        refine g_iast C hup_eq rfl (show 3 < 10 by decide) (by decide) dX3_digest_247 ?_
        rw [hup_hup]
        refine g_dup C dX3_digest_248 (by first | rfl | exact cat_rf _) ?_
        refine g_iconst C (v := nI 4) dX3_digest_249 (by decide) ?_
        refine g_aload_n C dX3_digest_250 rfl (by first | rfl | exact isR_rf _) ?_
        refine g_iload C dX3_digest_251 rfl ?_
        refine g_callV C ((K_X3_below l Y (r2 _) iv q1).K) ok_X3_below w879 ((r2 _).x) rfl rfl rfl dX3_digest_253 (Nat.le_of_ble_eq_true rfl) (Nat.le_of_ble_eq_true rfl) (Nat.le_of_ble_eq_true rfl) (by show _ ≤ 61; omega) (by show _ ≤ 608; omega) (ofS ?_)
        refine g_iast C hup_eq rfl (show 4 < 10 by decide) (by decide) dX3_digest_256 ?_
        rw [hup_hup]
        refine g_dup C dX3_digest_257 (by first | rfl | exact cat_rf _) ?_
        refine g_iconst C (v := nI 5) dX3_digest_258 (by decide) ?_
        refine g_aload_n C dX3_digest_259 rfl (by first | rfl | exact isR_rf _) ?_
        refine g_iload C dX3_digest_260 rfl ?_
        refine g_callV C ((K_X3_allBelow l Y (r2 _) iv q1).K) ok_X3_allBelow w887 ((r2 _).x) rfl rfl rfl dX3_digest_262 (Nat.le_of_ble_eq_true rfl) (Nat.le_of_ble_eq_true rfl) (Nat.le_of_ble_eq_true rfl) (by show _ ≤ 61; omega) (by show _ ≤ 608; omega) (ofS ?_)
        refine g_iast C hup_eq rfl (show 5 < 10 by decide) (by decide) dX3_digest_265 ?_
        rw [hup_hup]
        refine g_dup C dX3_digest_266 (by first | rfl | exact cat_rf _) ?_
        refine g_bipush C (v := nI 6) dX3_digest_267 (by decide) ?_
        refine g_aload_n C dX3_digest_269 rfl (by first | rfl | exact isR_rf _) ?_
        refine gf_X3_26 C ((r2 _).x) rfl dX3_digest_270 ?_
        refine g_iload C dX3_digest_273 rfl ?_
        refine g_iald C (r2 _).a4 rfl (show i < 60 by omega) (by decide) dX3_digest_275 ?_
        rw [r.rw.ls q1]
        refine g_iast C hup_eq rfl (show 6 < 10 by decide) (by decide) dX3_digest_276 ?_
        rw [hup_hup]
        refine g_dup C dX3_digest_277 (by first | rfl | exact cat_rf _) ?_
        refine g_bipush C (v := nI 7) dX3_digest_278 (by decide) ?_
        refine g_aload_n C dX3_digest_280 rfl (by first | rfl | exact isR_rf _) ?_
        refine g_iload C dX3_digest_281 rfl ?_
        refine g_aload_n C dX3_digest_283 rfl (by first | rfl | exact isR_rf _) ?_
        refine gf_X3_42 C ((r2 _).x) rfl dX3_digest_284 ?_
        refine g_callV C ((K_X3_down l Y (r2 _) iv q1).K) ok_X3_down w827 ((r2 _).x) rfl rfl rfl dX3_digest_287 (Nat.le_of_ble_eq_true rfl) (Nat.le_of_ble_eq_true rfl) (Nat.le_of_ble_eq_true rfl) (by show _ ≤ 61; omega) (by show _ ≤ 608; omega) (ofS ?_)
        refine g_iast C hup_eq rfl (show 7 < 10 by decide) (by decide) dX3_digest_290 ?_
        rw [hup_hup]
        refine g_dup C dX3_digest_291 (by first | rfl | exact cat_rf _) ?_
        refine g_bipush C (v := nI 8) dX3_digest_292 (by decide) ?_
        refine g_aload_n C dX3_digest_294 rfl (by first | rfl | exact isR_rf _) ?_
        refine g_iload C dX3_digest_295 rfl ?_
        refine g_aload_n C dX3_digest_297 rfl (by first | rfl | exact isR_rf _) ?_
        refine gf_X3_45 C ((r2 _).x) rfl dX3_digest_298 ?_
        refine g_callV C ((K_X3_way l Y (r2 _) iv q1 hnow).K) ok_X3_way w791 ((r2 _).x) rfl rfl rfl dX3_digest_301 (Nat.le_of_ble_eq_true rfl) (Nat.le_of_ble_eq_true rfl) (Nat.le_of_ble_eq_true rfl) (by show _ ≤ 61; omega) (by show _ ≤ 608; omega) (ofS ?_)
        refine g_iast C hup_eq rfl (show 8 < 10 by decide) (by decide) dX3_digest_304 ?_
        rw [hup_hup]
        refine g_dup C dX3_digest_305 (by first | rfl | exact cat_rf _) ?_
        refine g_bipush C (v := nI 9) dX3_digest_306 (by decide) ?_
        refine g_aload_n C dX3_digest_308 rfl (by first | rfl | exact isR_rf _) ?_
        refine g_iload C dX3_digest_309 rfl ?_
        refine g_aload_n C dX3_digest_311 rfl (by first | rfl | exact isR_rf _) ?_
        refine gf_X3_45 C ((r2 _).x) rfl dX3_digest_312 ?_
        refine g_callV C ((K_X3_isLike l Y (r2 _) iv q1 hnow).K) ok_X3_isLike w919 ((r2 _).x) rfl rfl rfl dX3_digest_315 (Nat.le_of_ble_eq_true rfl) (Nat.le_of_ble_eq_true rfl) (Nat.le_of_ble_eq_true rfl) (by show _ ≤ 61; omega) (by show _ ≤ 608; omega) (ofS ?_)
        have e326 : Gd p l e (rmO 3 68 61 608) s m args0 below meth c (vx_MQ below (Qk Y (fun vv h2 => vv = some (.long (digV g)) ∧ RepM Y x (nI 0) ar f g h2 ∧ FrM x ar h h2)) (Xk Y (noX)) args0 s 61 608 Y.A) Y 10 326 [some (.ref x), some (.ref u1), some (.long (itF (evL g) i D1)), none, some (.int (nI i)), w5, w6, w7, w8, w9] [.int (if lkB g i g.now = true then 1 else 0), .int (nI 9), .ref q2, .ref q2] (hup H q2 (aI Y 10 (upd (upd (upd (upd (upd (upd (upd (upd (upd (fun _ => 0) 0 (nO (parO g i))) 1 (g.kd i)) 2 (g.nm i)) 3 (nI (g.dp i))) 4 (nI (chN g.par g.n i))) 5 (nI (dsN g.par g.n i))) 6 (nO (g.last i))) 7 (nI (lyN g i))) 8 (nI (wy g i g.now))))) (kk + 1) (nn + 10) := by
          refine g_iast C hup_eq rfl (show 9 < 10 by decide) (by decide) dX3_digest_326 ?_
          rw [hup_hup]
          have hT : ∀ j, j < 10 → (evL g i)[j]? = some ((upd (upd (upd (upd (upd (upd (upd (upd (upd (upd (fun _ => 0) 0 (nO (parO g i))) 1 (g.kd i)) 2 (g.nm i)) 3 (nI (g.dp i))) 4 (nI (chN g.par g.n i))) 5 (nI (dsN g.par g.n i))) 6 (nO (g.last i))) 7 (nI (lyN g i))) 8 (nI (wy g i g.now))) 9 ((if lkB g i g.now = true then 1 else 0))) j) := fun j hj => match j, hj with
            | 0, _ => rfl
            | 1, _ => rfl
            | 2, _ => rfl
            | 3, _ => rfl
            | 4, _ => rfl
            | 5, _ => rfl
            | 6, _ => rfl
            | 7, _ => rfl
            | 8, _ => rfl
            | 9, _ => rfl
          generalize (upd (upd (upd (upd (upd (upd (upd (upd (upd (upd (fun _ => 0) 0 (nO (parO g i))) 1 (g.kd i)) 2 (g.nm i)) 3 (nI (g.dp i))) 4 (nI (chN g.par g.n i))) 5 (nI (dsN g.par g.n i))) 6 (nO (g.last i))) 7 (nI (lyN g i))) 8 (nI (wy g i g.now))) 9 ((if lkB g i g.now = true then 1 else 0))) = F10 at hT
          have lpI : ∀ (d2 j : Nat) (w9 : Option Value), j ≤ 10 → 10 - j < d2 → Gd p l e (rmO 3 68 61 608) s m args0 below meth c (vx_MQ below (Qk Y (fun vv h2 => vv = some (.long (digV g)) ∧ RepM Y x (nI 0) ar f g h2 ∧ FrM x ar h h2)) (Xk Y (noX)) args0 s 61 608 Y.A) Y 10 341 [some (.ref x), some (.ref u1), some (.long (dgF ((evL g i).take j) (itF (evL g) i D1))), none, some (.int (nI i)), some (.ref q2), some (.ref q2), some (.int (nI 10)), some (.int (nI j)), w9] [] (hup H q2 (aI Y 10 F10)) (kk + 1) (nn + 10) := by
            intro d2
            induction d2 with
            | zero => intro j w9 z1 z2; omega
            | succ d2 ih2 =>
              intro j w9 hj hd2
              refine g_iload C dX3_digest_341 rfl ?_
              refine g_iload C dX3_digest_343 rfl ?_
              refine g_icmp_geN C (tgt := 371) dX3_digest_345 (by decide) (by omega) (by omega) (fun q3 => ?_) (fun q3 => ?_)
              · have hj10 : j = 10 := by omega
                subst hj10
                rw [dg_all (show (evL g i).length ≤ 10 from Nat.le_refl _)]
                refine g_iincN C dX3_digest_371 rfl (by decide) ?_
                refine g_goto C (tgt := 195) dX3_digest_374 (by decide) ?_
                exact ih (i + 1) _ _ _ _ _ _ _ _ _ (by omega) (by omega) (r2 F10) (hF.tr (FrM.ext (Ext.new hq2))) (by omega) (by omega)
              · refine g_aload C dX3_digest_348 rfl (by first | rfl | exact isR_rf _) ?_
                refine g_iload C dX3_digest_350 rfl ?_
                refine g_iald C hup_eq rfl q3 (by decide) dX3_digest_352 ?_
                refine g_istore C dX3_digest_353 (by decide) ?_
                refine g_lload_n C dX3_digest_355 rfl ?_
                refine g_ldc2 C dX3_digest_356 w944 ?_
                refine g_lmul C dX3_digest_359 ?_
                refine g_iload C dX3_digest_360 rfl ?_
                refine g_i2l C dX3_digest_362 ?_
                refine g_ladd C dX3_digest_363 ?_
                refine g_lstore_n C dX3_digest_364 (by decide) ?_
                refine g_iincN C dX3_digest_365 rfl (by decide) ?_
                refine g_goto C (tgt := 341) dX3_digest_368 (by decide) ?_
                have := ih2 (j + 1) (some (.int (F10 j))) q3 (by omega)
                rw [dg_take (hT j q3)] at this
                exact this
          skip
          refine g_astore C dX3_digest_327 (by decide) (by first | rfl | exact isR_rf _) ?_
          refine g_aload C dX3_digest_329 rfl (by first | rfl | exact isR_rf _) ?_
          refine g_astore C dX3_digest_331 (by decide) (by first | rfl | exact isR_rf _) ?_
          refine g_aload C dX3_digest_333 rfl (by first | rfl | exact isR_rf _) ?_
          refine g_aleni C (hup_eq) dX3_digest_335 ?_
          refine g_istore C dX3_digest_336 (by decide) ?_
          refine g_iconst C (v := nI 0) dX3_digest_338 (by decide) ?_
          refine g_istore C dX3_digest_339 (by decide) ?_
          exact lpI 11 0 _ (Nat.zero_le _) (by decide)
        cases ez : lkB g i g.now
        · rw [ez] at e326
          refine g_if_eqB C (tgt := 325) dX3_digest_318 (by decide) (fun q => ?_) (fun q => absurd q (by decide))
          refine g_iconst C (v := nI 0) dX3_digest_325 (by decide) ?_
          exact e326
        · rw [ez] at e326
          refine g_if_eqB C (tgt := 325) dX3_digest_318 (by decide) (fun q => absurd q (by decide)) (fun q => ?_)
          refine g_iconst C (v := nI 1) dX3_digest_321 (by decide) ?_
          refine g_goto C (tgt := 326) dX3_digest_322 (by decide) ?_
          exact e326
  have lpP : ∀ (d i : Nat) (H : AH) (u1 : Nat) (w5 w6 w7 : Option Value), i ≤ g.np → g.np - i < d → RepM Y x (nI 0) ar f g H → FrM x ar h H → Gd p l e (rmO 3 68 61 608) s m args0 below meth c (vx_MQ below (Qk Y (fun vv h2 => vv = some (.long (digV g)) ∧ RepM Y x (nI 0) ar f g h2 ∧ FrM x ar h h2)) (Xk Y (noX)) args0 s 61 608 Y.A) Y 10 130 [some (.ref x), some (.ref u1), some (.long (itF (pcL g) i (dgF (hdL g) 2251))), none, some (.int (nI i)), w5, w6, w7, none, none] [] H 1 8 := by
    intro d
    induction d with
    | zero => intro i H u1 w5 w6 w7 h1 h2; omega
    | succ d ih =>
      intro i H u1 w5 w6 w7 hi hd r hF
      refine g_iload C dX3_digest_130 rfl ?_
      refine g_aload_n C dX3_digest_132 rfl (by first | rfl | exact isR_rf _) ?_
      refine gf_X3_42 C (r.x) rfl dX3_digest_133 ?_
      refine g_icmp_geN C (tgt := 192) dX3_digest_136 (by decide) (by omega) (by omega) (fun q1 => ?_) (fun q1 => ?_)
      · have hin : i = g.np := by omega
        subst hin
        rw [hD1]
        refine g_iconst C (v := nI 0) dX3_digest_192 (by decide) ?_
        refine g_istore C dX3_digest_193 (by decide) ?_
        exact lpE (g.n + 1) 0 H _ _ _ _ _ _ _ _ (Nat.zero_le _) (by omega) r hF rfl rfl
      · obtain ⟨z1, z2, z3⟩ := pq_mod iv hnow q1
        refine g_lload_n C dX3_digest_139 rfl ?_
        refine g_ldc2 C dX3_digest_140 w944 ?_
        refine g_lmul C dX3_digest_143 ?_
        refine g_aload_n C dX3_digest_144 rfl (by first | rfl | exact isR_rf _) ?_
        refine g_aload_n C dX3_digest_145 rfl (by first | rfl | exact isR_rf _) ?_
        refine gf_X3_45 C (r.x) rfl dX3_digest_146 ?_
        refine g_iload C dX3_digest_149 rfl ?_
        refine g_callV C ((K_X3_piece l Y r iv hnow q1).K) ok_X3_piece w726 (r.x) rfl rfl rfl dX3_digest_151 (Nat.le_of_ble_eq_true rfl) (Nat.le_of_ble_eq_true rfl) (Nat.le_of_ble_eq_true rfl) (by show _ ≤ 61; omega) (by show _ ≤ 608; omega) (ofS ?_)
        refine g_bipush C (v := nI 100) dX3_digest_154 (by decide) ?_
        refine g_iremN C dX3_digest_156 z2 (by decide) ?_
        rw [z1]
        refine g_i2l C dX3_digest_157 ?_
        refine g_ladd C dX3_digest_158 ?_
        refine g_ldc2 C dX3_digest_159 w944 ?_
        refine g_lmul C dX3_digest_162 ?_
        refine g_aload_n C dX3_digest_163 rfl (by first | rfl | exact isR_rf _) ?_
        refine g_aload_n C dX3_digest_164 rfl (by first | rfl | exact isR_rf _) ?_
        refine gf_X3_45 C (r.x) rfl dX3_digest_165 ?_
        refine g_iload C dX3_digest_168 rfl ?_
        refine g_callV C ((K_X3_piece l Y r iv hnow q1).K) ok_X3_piece w726 (r.x) rfl rfl rfl dX3_digest_170 (Nat.le_of_ble_eq_true rfl) (Nat.le_of_ble_eq_true rfl) (Nat.le_of_ble_eq_true rfl) (by show _ ≤ 61; omega) (by show _ ≤ 608; omega) (ofS ?_)
        refine g_bipush C (v := nI 100) dX3_digest_173 (by decide) ?_
        refine g_icmp_ltN C (tgt := 182) dX3_digest_175 (by decide) z2 (by decide) (fun q3 => ?_) (fun q3 => ?_)
        · refine g_iconst C (v := nI 0) dX3_digest_182 (by decide) ?_
          refine g_i2l C dX3_digest_183 ?_
          refine g_ladd C dX3_digest_184 ?_
          refine g_lstore_n C dX3_digest_185 (by decide) ?_
          refine g_iincN C dX3_digest_186 rfl (by decide) ?_
          refine g_goto C (tgt := 130) dX3_digest_189 (by decide) ?_
          have := ih (i + 1) H u1 w5 w6 w7 q1 (by omega) r hF
          rw [show itF (pcL g) (i + 1) (dgF (hdL g) 2251) = dgF [nI (g.pos g.now i), nI 0] (itF (pcL g) i (dgF (hdL g) 2251)) from by show dgF (pcL g i) _ = _; unfold pcL; rw [if_neg (fun w => by have := z3.mpr w; omega)]; rfl] at this
          rw [dg2] at this
          exact this
        · refine g_iconst C (v := nI 1) dX3_digest_178 (by decide) ?_
          refine g_goto C (tgt := 183) dX3_digest_179 (by decide) ?_
          refine g_i2l C dX3_digest_183 ?_
          refine g_ladd C dX3_digest_184 ?_
          refine g_lstore_n C dX3_digest_185 (by decide) ?_
          refine g_iincN C dX3_digest_186 rfl (by decide) ?_
          refine g_goto C (tgt := 130) dX3_digest_189 (by decide) ?_
          have := ih (i + 1) H u1 w5 w6 w7 q1 (by omega) r hF
          rw [show itF (pcL g) (i + 1) (dgF (hdL g) 2251) = dgF [nI (g.pos g.now i), nI 1] (itF (pcL g) i (dgF (hdL g) 2251)) from by show dgF (pcL g i) _ = _; unfold pcL; rw [if_pos (z3.mp q3)]; rfl] at this
          rw [dg2] at this
          exact this
  refine g_aload_n C dX3_digest_0 rfl (by first | rfl | exact isR_rf _) ?_
  refine g_iconst C (v := nI 0) dX3_digest_1 (by decide) ?_
  refine pf_X3_35 C (r.x) (Nat.le_of_ble_eq_true rfl) dX3_digest_2 ?_
  have r1 := r.th (nI 0)
  refine g_bipush C (v := nI 8) dX3_digest_5 (by decide) ?_
  refine g_newI C (N := 8) rfl (by omega) w49 (by show _ ≤ 61; omega) (by show _ ≤ 608; omega) dX3_digest_7 (fun q1 hq1 => ?_)
  have r2 := fun fv => r1.ext (Ext.new (e := aI Y 8 fv) hq1)
  refine g_dup C dX3_digest_9 (by first | rfl | exact cat_rf _) ?_
  refine g_iconst C (v := nI 0) dX3_digest_10 (by decide) ?_
  refine g_aload_n C dX3_digest_11 rfl (by first | rfl | exact isR_rf _) ?_
  refine gf_X3_45 C ((r2 _).x) rfl dX3_digest_12 ?_
  refine g_iast C hup_eq rfl (show 0 < 8 by decide) (by decide) dX3_digest_15 ?_
  rw [hup_hup]
  refine g_dup C dX3_digest_16 (by first | rfl | exact cat_rf _) ?_
  refine g_iconst C (v := nI 1) dX3_digest_17 (by decide) ?_
  refine g_aload_n C dX3_digest_18 rfl (by first | rfl | exact isR_rf _) ?_
  refine gf_X3_9 C ((r2 _).x) rfl dX3_digest_19 ?_
  refine g_iast C hup_eq rfl (show 1 < 8 by decide) (by decide) dX3_digest_22 ?_
  rw [hup_hup]
  refine g_dup C dX3_digest_23 (by first | rfl | exact cat_rf _) ?_
  refine g_iconst C (v := nI 2) dX3_digest_24 (by decide) ?_
  refine g_aload_n C dX3_digest_25 rfl (by first | rfl | exact isR_rf _) ?_
  refine gf_X3_42 C ((r2 _).x) rfl dX3_digest_26 ?_
  refine g_iast C hup_eq rfl (show 2 < 8 by decide) (by decide) dX3_digest_29 ?_
  rw [hup_hup]
  refine g_dup C dX3_digest_30 (by first | rfl | exact cat_rf _) ?_
  refine g_iconst C (v := nI 3) dX3_digest_31 (by decide) ?_
  refine g_aload_n C dX3_digest_32 rfl (by first | rfl | exact isR_rf _) ?_
  refine g_callV C ((K_X3_cat l Y (r2 _) iv).K) ok_X3_cat w750 ((r2 _).x) rfl rfl rfl dX3_digest_33 (Nat.le_of_ble_eq_true rfl) (Nat.le_of_ble_eq_true rfl) (Nat.le_of_ble_eq_true rfl) (by show _ ≤ 61; omega) (by show _ ≤ 608; omega) (ofS ?_)
  refine g_bipush C (v := nI 8) dX3_digest_36 (by decide) ?_
  first | with_reducible refine g_idivN C dX3_digest_38 (by omega) (by decide) ?_ | refine g_idiv C dX3_digest_38 (by decide) ?_
  refine g_iast C hup_eq rfl (show 3 < 8 by decide) (by decide) dX3_digest_39 ?_
  rw [hup_hup]
  refine g_dup C dX3_digest_40 (by first | rfl | exact cat_rf _) ?_
  refine g_iconst C (v := nI 4) dX3_digest_41 (by decide) ?_
  refine g_aload_n C dX3_digest_42 rfl (by first | rfl | exact isR_rf _) ?_
  refine g_callV C ((K_X3_cat l Y (r2 _) iv).K) ok_X3_cat w750 ((r2 _).x) rfl rfl rfl dX3_digest_43 (Nat.le_of_ble_eq_true rfl) (Nat.le_of_ble_eq_true rfl) (Nat.le_of_ble_eq_true rfl) (by show _ ≤ 61; omega) (by show _ ≤ 608; omega) (ofS ?_)
  refine g_bipush C (v := nI 8) dX3_digest_46 (by decide) ?_
  first | with_reducible refine g_iremN C dX3_digest_48 (by omega) (by decide) ?_ | refine g_irem C dX3_digest_48 (by decide) ?_
  refine g_iast C hup_eq rfl (show 4 < 8 by decide) (by decide) dX3_digest_49 ?_
  rw [hup_hup]
  refine g_dup C dX3_digest_50 (by first | rfl | exact cat_rf _) ?_
  refine g_iconst C (v := nI 5) dX3_digest_51 (by decide) ?_
  refine g_aload_n C dX3_digest_52 rfl (by first | rfl | exact isR_rf _) ?_
  refine g_aload_n C dX3_digest_53 rfl (by first | rfl | exact isR_rf _) ?_
  refine gf_X3_45 C ((r2 _).x) rfl dX3_digest_54 ?_
  refine g_aload_n C dX3_digest_57 rfl (by first | rfl | exact isR_rf _) ?_
  refine gf_X3_42 C ((r2 _).x) rfl dX3_digest_58 ?_
  refine g_callV C ((K_X3_down l Y (r2 _) iv hnow).K) ok_X3_down w827 ((r2 _).x) rfl rfl rfl dX3_digest_61 (Nat.le_of_ble_eq_true rfl) (Nat.le_of_ble_eq_true rfl) (Nat.le_of_ble_eq_true rfl) (by show _ ≤ 61; omega) (by show _ ≤ 608; omega) (ofS ?_)
  refine g_iast C hup_eq rfl (show 5 < 8 by decide) (by decide) dX3_digest_64 ?_
  rw [hup_hup]
  refine g_dup C dX3_digest_65 (by first | rfl | exact cat_rf _) ?_
  refine g_bipush C (v := nI 6) dX3_digest_66 (by decide) ?_
  refine g_aload_n C dX3_digest_68 rfl (by first | rfl | exact isR_rf _) ?_
  refine g_callV C ((K_X3_leaves l Y (r2 _) iv).K) ok_X3_leaves w903 ((r2 _).x) rfl rfl rfl dX3_digest_69 (Nat.le_of_ble_eq_true rfl) (Nat.le_of_ble_eq_true rfl) (Nat.le_of_ble_eq_true rfl) (by show _ ≤ 61; omega) (by show _ ≤ 608; omega) (ofS ?_)
  refine g_iast C hup_eq rfl (show 6 < 8 by decide) (by decide) dX3_digest_72 ?_
  rw [hup_hup]
  refine g_dup C dX3_digest_73 (by first | rfl | exact cat_rf _) ?_
  refine g_bipush C (v := nI 7) dX3_digest_74 (by decide) ?_
  refine g_aload_n C dX3_digest_76 rfl (by first | rfl | exact isR_rf _) ?_
  refine g_callV C ((K_X3_mostDown l Y (r2 _) iv).K) ok_X3_mostDown w927 ((r2 _).x) rfl rfl rfl dX3_digest_77 (Nat.le_of_ble_eq_true rfl) (Nat.le_of_ble_eq_true rfl) (Nat.le_of_ble_eq_true rfl) (by show _ ≤ 61; omega) (by show _ ≤ 608; omega) (ofS ?_)
  refine g_iast C hup_eq rfl (show 7 < 8 by decide) (by decide) dX3_digest_80 ?_
  rw [hup_hup]
  have hT : ∀ j, j < 8 → (hdL g)[j]? = some ((upd (upd (upd (upd (upd (upd (upd (upd (fun _ => 0) 0 (nI g.now)) 1 (nI g.n)) 2 (nI g.np)) 3 (nI (g.ct g.now / 8))) 4 (nI (g.ct g.now % 8))) 5 (nI (lyN g g.now))) 6 (nI (enN g))) 7 (nO (mkF (knN g) g.np))) j) := fun j hj => match j, hj with
    | 0, _ => rfl
    | 1, _ => rfl
    | 2, _ => rfl
    | 3, _ => rfl
    | 4, _ => rfl
    | 5, _ => rfl
    | 6, _ => rfl
    | 7, _ => rfl
  generalize (upd (upd (upd (upd (upd (upd (upd (upd (fun _ => 0) 0 (nI g.now)) 1 (nI g.n)) 2 (nI g.np)) 3 (nI (g.ct g.now / 8))) 4 (nI (g.ct g.now % 8))) 5 (nI (lyN g g.now))) 6 (nI (enN g))) 7 (nO (mkF (knN g) g.np))) = F8 at hT ⊢
  refine g_astore_n C dX3_digest_81 (by decide) (by first | rfl | exact isR_rf _) ?_
  refine g_ldc2 C dX3_digest_82 w943 ?_
  refine g_lstore_n C dX3_digest_85 (by decide) ?_
  refine g_aload_n C dX3_digest_86 rfl (by first | rfl | exact isR_rf _) ?_
  refine g_astore C dX3_digest_87 (by decide) (by first | rfl | exact isR_rf _) ?_
  refine g_aload C dX3_digest_89 rfl (by first | rfl | exact isR_rf _) ?_
  refine g_aleni C (hup_eq) dX3_digest_91 ?_
  refine g_istore C dX3_digest_92 (by decide) ?_
  refine g_iconst C (v := nI 0) dX3_digest_94 (by decide) ?_
  refine g_istore C dX3_digest_95 (by decide) ?_
  have lpH : ∀ (d2 j : Nat) (w7 : Option Value), j ≤ 8 → 8 - j < d2 → Gd p l e (rmO 3 68 61 608) s m args0 below meth c (vx_MQ below (Qk Y (fun vv h2 => vv = some (.long (digV g)) ∧ RepM Y x (nI 0) ar f g h2 ∧ FrM x ar h h2)) (Xk Y (noX)) args0 s 61 608 Y.A) Y 10 97 [some (.ref x), some (.ref q1), some (.long (dgF ((hdL g).take j) 2251)), none, some (.ref q1), some (.int (nI 8)), some (.int (nI j)), w7, none, none] [] (hup (hup h x (mC g ar (nI 0))) q1 (aI Y 8 F8)) 1 8 := by
    intro d2
    induction d2 with
    | zero => intro j w7 z1 z2; omega
    | succ d2 ih2 =>
      intro j w7 hj hd2
      refine g_iload C dX3_digest_97 rfl ?_
      refine g_iload C dX3_digest_99 rfl ?_
      refine g_icmp_geN C (tgt := 127) dX3_digest_101 (by decide) (by omega) (by omega) (fun q3 => ?_) (fun q3 => ?_)
      · have hj8 : j = 8 := by omega
        subst hj8
        rw [dg_all (show (hdL g).length ≤ 8 from Nat.le_refl _)]
        refine g_iconst C (v := nI 0) dX3_digest_127 (by decide) ?_
        refine g_istore C dX3_digest_128 (by decide) ?_
        exact lpP (g.np + 1) 0 _ _ _ _ _ (Nat.zero_le _) (by omega) (r2 F8) (FrM.x.tr (FrM.ext (Ext.new hq1)))
      · refine g_aload C dX3_digest_104 rfl (by first | rfl | exact isR_rf _) ?_
        refine g_iload C dX3_digest_106 rfl ?_
        refine g_iald C hup_eq rfl q3 (by decide) dX3_digest_108 ?_
        refine g_istore C dX3_digest_109 (by decide) ?_
        refine g_lload_n C dX3_digest_111 rfl ?_
        refine g_ldc2 C dX3_digest_112 w944 ?_
        refine g_lmul C dX3_digest_115 ?_
        refine g_iload C dX3_digest_116 rfl ?_
        refine g_i2l C dX3_digest_118 ?_
        refine g_ladd C dX3_digest_119 ?_
        refine g_lstore_n C dX3_digest_120 (by decide) ?_
        refine g_iincN C dX3_digest_121 rfl (by decide) ?_
        refine g_goto C (tgt := 97) dX3_digest_124 (by decide) ?_
        have := ih2 (j + 1) (some (.int (F8 j))) q3 (by omega)
        rw [dg_take (hT j q3)] at this
        exact this
  exact lpH 9 0 _ (Nat.zero_le _) (by decide)
