theorem dec_ne {x : UInt64} (h : vf_n64 x) : FP.Core.decode FP.Core.b64 x.toNat ≠ .nan := by
  have h2 : x.toNat % 2 ^ 63 ≤ 2047 * 2 ^ 52 := by
    have h3 := h
    unfold vf_n64 at h3
    rw [UInt64.le_iff_toNat_le, UInt64.toNat_and, show (0x7fffffffffffffff : UInt64).toNat = 2 ^ 63 - 1 from rfl, Nat.and_two_pow_sub_one_eq_mod, show (0x7ff0000000000000 : UInt64).toNat = 2047 * 2 ^ 52 from rfl] at h3
    exact h3
  intro hn
  unfold FP.Core.decode at hn
  split at hn
  · rename_i hE
    split at hn
    · cases hn
    · rename_i hT
      have e1 : x.toNat / 2 ^ 52 % 2048 = 2047 := hE
      have e2 : ¬ x.toNat % 2 ^ 52 = 0 := hT
      omega
  · split at hn <;> cases hn
theorem order_rf : ∀ D : FP.Core.Datum, D ≠ .nan → FP.Core.order D D = some .eq
  | .nan, h => absurd rfl h
  | .inf s, _ => by simp [FP.Core.order, compare, compareOfLessAndEq]
  | .fin s c q, _ => by simp [FP.Core.order, compare, compareOfLessAndEq]
theorem dcmp_rf {x : UInt64} (h : vf_n64 x) (op : CmpOp) : Op.cmpValue (FP.dcmp x x) op = 0 := by
  rw [show FP.dcmp x x = some .eq from order_rf _ (dec_ne h)]
  cases op <;> rfl
theorem en_pos {g : Sg} (iv : Inv g) : 0 < enN g := by
  have h1 := iv.n1
  refine Nat.pos_of_ne_zero (fun hz => ?_)
  have h2 := cnt_0.mp hz (g.n - 1) (by omega)
  have h3 : g.last (g.n - 1) = none := by
    refine (ch_0 iv (by omega)).mpr (cnt_0.mpr (fun k hk => ?_))
    unfold isCh
    rcases Nat.eq_zero_or_pos k with q | q
    · subst q; rfl
    · have h4 := iv.tr.2 k q
      have : (g.par k == g.n - 1) = false := by simp; omega
      rw [this, Bool.and_false]
  unfold enB at h2
  rw [h3] at h2
  cases h2
theorem pon_self {f : Nat → Nat} {np p : Nat} (hp : p < np) (hi : ∀ a b, a < np → b < np → f a = f b → a = b) : pon f (f p) np 0 = some p := by
  cases hz : pon f (f p) np 0 with
  | none => exact absurd rfl (pon_none_of hz p (Nat.zero_le _) (by omega))
  | some q =>
    obtain ⟨-, h2, h3⟩ := pon_lt hz
    rw [hi q p (by omega) hp h3]
theorem smF_congr {P Q : Nat → Bool} {f : Nat → Nat} : ∀ {n : Nat}, (∀ k, k < n → P k = Q k) → smF P f n = smF Q f n := by
  intro n
  induction n with
  | zero => intro _; rfl
  | succ n ih =>
    intro h
    simp only [smF]
    rw [ih (fun k hk => h k (by omega)), h n (Nat.lt_succ_self n)]
def ch0 (g : Sg) (e : Nat) : Bool := decide (chN g.par g.n e = 0)
theorem ch0_en {g : Sg} (iv : Inv g) {e : Nat} (he : e < g.n) : ch0 g e = enB g e := by
  have := ch_0 iv he
  unfold ch0 enB
  cases hl : g.last e with
  | none => exact decide_eq_true (this.mp hl)
  | some j => exact decide_eq_false (fun z => by rw [this.mpr z] at hl; cases hl)
theorem kn_np {g : Sg} (P : Pld g) {e : Nat} (h0 : 0 < e) (he : e < g.n) (hk : g.kd e = nI 1) : ∃ w, w < g.np ∧ g.nm e = nI w := by
  obtain ⟨k, w, hk4, -, -, h1, h2, hn⟩ := P.2 e h0 he
  have : k = 1 := (nI_eq (by omega) (by decide)).mp (h1.symm.trans hk)
  subst this
  unfold nxt at hn
  rw [if_neg (by decide), if_pos rfl] at hn
  split at hn
  · rename_i hc
    exact ⟨w, hc.1, h2⟩
  · cases hn
set_option maxRecDepth 100000 in
set_option maxHeartbeats 4000000 in
theorem same_in {l : Launch} {Y : YG} {p : Program} {e : Env} {s : State} {m : MethodId} {args : Array Value} {below : List Frame} {meth : Method} {c : Code} {Q : State → Prop} (C : Cx p s m args meth c Y cX3_isSame 12 RX3) (hfl : l.stackTraces = false) {x z q kn : Nat} {g : Sg} {h : AH} {v : Vw} {w : Sv} {Z : Nat → Prop} (iv : Inv g) (P : Pld g) (rC : RepC Y x v g Z h) (rS : RepS Y z w g h) {ee : Nat} (he : ee < g.n) {w5 w6 w7 w9 w10 w11 : Option Value} {k n : Nat} (hk : k + 1 ≤ 1000) (hn : n + 1 ≤ 8000) (cont : Gd p l e (rmO 64 1477 1000 8000) s m args below meth c Q Y 12 127 [some (.ref z), some (.ref x), some (.ref q), some (.int (nI g.n)), some (.ref kn), w5, w6, w7, some (.int (nI (ee))), some (.int (nI (chN g.par g.n ee))), some (.int (nI (dsN g.par g.n ee))), some (.int (nI (g.n)))] [] h k n) : Gd p l e (rmO 64 1477 1000 8000) s m args below meth c Q Y 12 54 [some (.ref z), some (.ref x), some (.ref q), some (.int (nI g.n)), some (.ref kn), w5, w6, w7, some (.int (nI (ee))), w9, w10, w11] [] h k n := by
  have hn60 := iv.n60
  have hnp16 := iv.np
  have hnow := iv.now
  have hn1 := iv.n1
  have hT := iv.tr
  have lp : ∀ (d j : Nat), 0 < j → j ≤ g.n → g.n - j < d → Gd p l e (rmO 64 1477 1000 8000) s m args below meth c Q Y 12 63 [some (.ref z), some (.ref x), some (.ref q), some (.int (nI g.n)), some (.ref kn), w5, w6, w7, some (.int (nI (ee))), some (.int (nI (cnt (isCh g.par ee) (j)))), some (.int (nI (cnt (isDs g.par ee) (j)))), some (.int (nI (j)))] [] h k n := by
    intro d
    induction d with
    | zero => intro j z1 z2 z3; omega
    | succ d ih =>
      intro j h0 hj hd
      refine g_iload C dX3_isSame_63 rfl ?_
      refine g_iload_n C dX3_isSame_65 rfl ?_
      refine g_icmp_geN C (tgt := 127) dX3_isSame_66 (by decide) (by omega) (by omega) (fun q1 => ?_) (fun q1 => ?_)
      · have : j = g.n := by omega
        subst this
        exact cont
      · have hp := hT.2 j h0
        have j118 : ∀ bb : Nat, bb = (if isDs g.par ee j = true then 1 else 0) → Gd p l e (rmO 64 1477 1000 8000) s m args below meth c Q Y 12 118 [some (.ref z), some (.ref x), some (.ref q), some (.int (nI g.n)), some (.ref kn), w5, w6, w7, some (.int (nI (ee))), some (.int (nI (cnt (isCh g.par ee) (j + 1)))), some (.int (nI (cnt (isDs g.par ee) (j)))), some (.int (nI (j)))] [.int (nI bb), .int (nI (cnt (isDs g.par ee) j))] h k n := by
          intro bb hb
          subst hb
          refine g_iaddN C dX3_isSame_118 ?_
          refine g_istore C dX3_isSame_119 (by decide) ?_
          refine g_iincN C dX3_isSame_121 rfl (by decide) ?_
          refine g_goto C (tgt := 63) dX3_isSame_124 (by decide) ?_
          exact ih (j + 1) (by omega) (by omega) (by omega)
        have j90 : ∀ bb : Nat, bb = (if isCh g.par ee j = true then 1 else 0) → Gd p l e (rmO 64 1477 1000 8000) s m args below meth c Q Y 12 90 [some (.ref z), some (.ref x), some (.ref q), some (.int (nI g.n)), some (.ref kn), w5, w6, w7, some (.int (nI (ee))), some (.int (nI (cnt (isCh g.par ee) (j)))), some (.int (nI (cnt (isDs g.par ee) (j)))), some (.int (nI (j)))] [.int (nI bb), .int (nI (cnt (isCh g.par ee) j))] h k n := by
          intro bb hb
          subst hb
          refine g_iaddN C dX3_isSame_90 ?_
          refine g_istore C dX3_isSame_91 (by decide) ?_
          refine g_iload C dX3_isSame_93 rfl ?_
          refine g_iload C dX3_isSame_95 rfl ?_
          refine g_iload C dX3_isSame_97 rfl ?_
          refine g_icmp_eqN C (tgt := 117) dX3_isSame_99 (by decide) (by omega) (by omega) (fun q2 => ?_) (fun q2 => ?_)
          · refine g_iconst C (v := nI 0) dX3_isSame_117 (by decide) ?_
            exact j118 0 (by rw [if_neg (by unfold isDs; rw [decide_eq_false (by omega), Bool.false_and]; decide)])
          · refine g_aload_n C dX3_isSame_102 rfl (by first | rfl | exact isR_rf _) ?_
            refine g_iload C dX3_isSame_103 rfl ?_
            refine g_iload C dX3_isSame_105 rfl ?_
            refine g_callV C ((K_X3_isBelow l Y rS iv q1 (show ee < 2 ^ 31 by omega)).K) ok_X3_isBelow w499 (rS.z) rfl rfl rfl dX3_isSame_107 (Nat.le_of_ble_eq_true rfl) (Nat.le_of_ble_eq_true rfl) (Nat.le_of_ble_eq_true rfl) (by show _ ≤ 1000; omega) (by show _ ≤ 8000; omega) (ofS ?_)
            refine g_if_eqB C (tgt := 117) dX3_isSame_110 (by decide) (fun q3 => ?_) (fun q3 => ?_)
            · refine g_iconst C (v := nI 0) dX3_isSame_117 (by decide) ?_
              exact j118 0 (by rw [if_neg (by unfold isDs; rw [q3, Bool.and_false]; decide)])
            · have hle := an_le hT q3
              refine g_iconst C (v := nI 1) dX3_isSame_113 (by decide) ?_
              refine g_goto C (tgt := 118) dX3_isSame_114 (by decide) ?_
              exact j118 1 (by rw [if_pos (by unfold isDs; rw [q3, decide_eq_true (by omega)]; rfl)])
        refine g_iload C dX3_isSame_69 rfl ?_
        refine g_aload_n C dX3_isSame_71 rfl (by first | rfl | exact isR_rf _) ?_
        refine gf_X3_15 C (rS.z) rfl dX3_isSame_72 ?_
        refine g_iload C dX3_isSame_75 rfl ?_
        refine g_aald C rS.er rfl (q1) (by omega) dX3_isSame_77 ?_
        obtain ⟨ef, f, hf, f0, f1, f2, f3⟩ := rS.ev (q1)
        rw [ef]
        refine g_iconst C (v := nI 0) dX3_isSame_78 (by decide) ?_
        refine g_iald C hf rfl (show 0 < 4 by decide) (by decide) dX3_isSame_79 ?_
        rw [f0]
        rw [parO_p h0]
        refine g_iload C dX3_isSame_80 rfl ?_
        refine g_icmp_neN C (tgt := 89) dX3_isSame_82 (by decide) (by omega) (by omega) (fun q2 => ?_) (fun q2 => ?_)
        · refine g_iconst C (v := nI 0) dX3_isSame_89 (by decide) ?_
          exact j90 0 (by rw [if_neg (by unfold isCh; rw [show (g.par j == ee) = false from by simpa using q2, Bool.and_false]; decide)])
        · refine g_iconst C (v := nI 1) dX3_isSame_85 (by decide) ?_
          refine g_goto C (tgt := 90) dX3_isSame_86 (by decide) ?_
          exact j90 1 (by rw [if_pos (by unfold isCh; rw [decide_eq_true h0, q2, beq_self_eq_true]; rfl)])
  have c1 : cnt (isCh g.par ee) 1 = 0 := by simp [cnt, isCh]
  have d1 : cnt (isDs g.par ee) 1 = 0 := by simp [cnt, isDs]
  have := lp (g.n + 1) 1 (by decide) hn1 (by omega)
  rw [c1, d1] at this
  refine g_iconst C (v := nI 0) dX3_isSame_54 (by decide) ?_
  refine g_istore C dX3_isSame_55 (by decide) ?_
  refine g_iconst C (v := nI 0) dX3_isSame_57 (by decide) ?_
  refine g_istore C dX3_isSame_58 (by decide) ?_
  refine g_iconst C (v := nI 1) dX3_isSame_60 (by decide) ?_
  refine g_istore C dX3_isSame_61 (by decide) ?_
  exact this
set_option maxRecDepth 100000 in
set_option maxHeartbeats 4000000 in
theorem same_e {l : Launch} {Y : YG} {p : Program} {e : Env} {s : State} {m : MethodId} {args : Array Value} {below : List Frame} {meth : Method} {c : Code} {Q : State → Prop} (C : Cx p s m args meth c Y cX3_isSame 12 RX3) (hfl : l.stackTraces = false) {x z q kn : Nat} {g : Sg} {h0 : AH} {v : Vw} {w : Sv} {Z : Nat → Prop} (iv : Inv g) (P : Pld g) (rC0 : RepC Y x v g Z h0) (rS0 : RepS Y z w g h0) (T : TmO g w.tm w.clk) (hck : w.clk < 2 ^ 30) (hkn : h0 kn = none) {fk : Nat → Int32} {ee : Nat} (he : ee < g.n) (hfk : ∀ j, j < g.np → fk j = nI (cnt (knB g j) ee)) {y5 : Int32} {w11 : Option Value} {k n : Nat} (hk : k + 10 ≤ 1000) (hn : n + 60 ≤ 8000) (cont : ∀ (fk2 : Nat → Int32) (k2 n2 : Nat), (∀ j, j < g.np → fk2 j = nI (cnt (knB g j) (ee + 1))) → k2 ≤ k + 8 → n2 ≤ n + 48 → Gd p l e (rmO 64 1477 1000 8000) s m args below meth c Q Y 12 283 [some (.ref z), some (.ref x), some (.ref q), some (.int (nI g.n)), some (.ref kn), some (.int y5), some (.int (nI (cnt (ch0 g) (ee + 1)))), some (.int (nI (smF (ch0 g) g.dp (ee + 1)))), some (.int (nI (ee))), some (.int (nI (chN g.par g.n ee))), some (.int (nI (dsN g.par g.n ee))), w11] [] (hup h0 kn (aI Y g.np fk2)) k2 n2) : Gd p l e (rmO 64 1477 1000 8000) s m args below meth c Q Y 12 127 [some (.ref z), some (.ref x), some (.ref q), some (.int (nI g.n)), some (.ref kn), some (.int y5), some (.int (nI (cnt (ch0 g) (ee)))), some (.int (nI (smF (ch0 g) g.dp (ee)))), some (.int (nI (ee))), some (.int (nI (chN g.par g.n ee))), some (.int (nI (dsN g.par g.n ee))), w11] [] (hup h0 kn (aI Y g.np fk)) k n := by
  have hn60 := iv.n60
  have hnp16 := iv.np
  have hnow := iv.now
  have hn1 := iv.n1
  have hT := iv.tr
  have hch : chN g.par g.n ee ≤ g.n := cnt_le _ _
  have hds : dsN g.par g.n ee ≤ g.n := cnt_le _ _
  have hdp := iv.dp60 he
  have hcc : cnt (ch0 g) ee ≤ ee := cnt_le _ _
  have j175 : ∀ (fk2 : Nat → Int32), (∀ j, j < g.np → fk2 j = nI (cnt (knB g j) (ee + 1))) → Gd p l e (rmO 64 1477 1000 8000) s m args below meth c Q Y 12 175 [some (.ref z), some (.ref x), some (.ref q), some (.int (nI g.n)), some (.ref kn), some (.int y5), some (.int (nI (cnt (ch0 g) (ee + 1)))), some (.int (nI (smF (ch0 g) g.dp (ee + 1)))), some (.int (nI (ee))), some (.int (nI (chN g.par g.n ee))), some (.int (nI (dsN g.par g.n ee))), w11] [] (hup h0 kn (aI Y g.np fk2)) k n := by
    intro fk2 hfq
    have rC := rC0.ext (Ext.new hkn (e := aI Y g.np fk2))
    have rS := rS0.ext (Ext.new hkn (e := aI Y g.np fk2))
    refine g_aload_n C dX3_isSame_175 rfl (by first | rfl | exact isR_rf _) ?_
    refine g_iload C dX3_isSame_176 rfl ?_
    refine g_callV C ((V_hangsOn l Y hfl rC iv he).K) ok_X2_hangsOn w531 (rC.x) rfl rfl rfl dX3_isSame_178 (Nat.le_of_ble_eq_true rfl) (Nat.le_of_ble_eq_true rfl) (Nat.le_of_ble_eq_true rfl) (by show _ ≤ 1000; omega) (by show _ ≤ 8000; omega) (ofS ?_)
    refine g_aload_n C dX3_isSame_181 rfl (by first | rfl | exact isR_rf _) ?_
    refine gf_X3_15 C (rS.z) rfl dX3_isSame_182 ?_
    refine g_iload C dX3_isSame_185 rfl ?_
    refine g_aald C rS.er rfl (he) (by omega) dX3_isSame_187 ?_
    obtain ⟨ef1, f1, hf1, f01, f11, f21, f31⟩ := rS.ev (he)
    rw [ef1]
    refine g_iconst C (v := nI 0) dX3_isSame_188 (by decide) ?_
    refine g_iald C hf1 rfl (show 0 < 4 by decide) (by decide) dX3_isSame_189 ?_
    rw [f01]
    refine g_icmp_ne C (tgt := 281) dX3_isSame_190 (by decide) (fun q1 => ?_) (fun q1 => ?_)
    · exact absurd rfl q1
    · refine g_aload_n C dX3_isSame_193 rfl (by first | rfl | exact isR_rf _) ?_
      refine g_iload C dX3_isSame_194 rfl ?_
      refine g_callV C ((V_kindOf l Y hfl rC iv he).K) ok_X2_kindOf w532 (rC.x) rfl rfl rfl dX3_isSame_196 (Nat.le_of_ble_eq_true rfl) (Nat.le_of_ble_eq_true rfl) (Nat.le_of_ble_eq_true rfl) (by show _ ≤ 1000; omega) (by show _ ≤ 8000; omega) (ofS ?_)
      refine g_aload_n C dX3_isSame_199 rfl (by first | rfl | exact isR_rf _) ?_
      refine gf_X3_15 C (rS.z) rfl dX3_isSame_200 ?_
      refine g_iload C dX3_isSame_203 rfl ?_
      refine g_aald C rS.er rfl (he) (by omega) dX3_isSame_205 ?_
      obtain ⟨ef2, f2, hf2, f02, f12, f22, f32⟩ := rS.ev (he)
      rw [ef2]
      refine g_iconst C (v := nI 1) dX3_isSame_206 (by decide) ?_
      refine g_iald C hf2 rfl (show 1 < 4 by decide) (by decide) dX3_isSame_207 ?_
      rw [f12]
      refine g_icmp_ne C (tgt := 281) dX3_isSame_208 (by decide) (fun q2 => ?_) (fun q2 => ?_)
      · exact absurd rfl q2
      · refine g_aload_n C dX3_isSame_211 rfl (by first | rfl | exact isR_rf _) ?_
        refine g_iload C dX3_isSame_212 rfl ?_
        refine g_callV C ((V_numberOf l Y hfl rC iv he).K) ok_X2_numberOf w533 (rC.x) rfl rfl rfl dX3_isSame_214 (Nat.le_of_ble_eq_true rfl) (Nat.le_of_ble_eq_true rfl) (Nat.le_of_ble_eq_true rfl) (by show _ ≤ 1000; omega) (by show _ ≤ 8000; omega) (ofS ?_)
        refine g_aload_n C dX3_isSame_217 rfl (by first | rfl | exact isR_rf _) ?_
        refine gf_X3_15 C (rS.z) rfl dX3_isSame_218 ?_
        refine g_iload C dX3_isSame_221 rfl ?_
        refine g_aald C rS.er rfl (he) (by omega) dX3_isSame_223 ?_
        obtain ⟨ef3, f3, hf3, f03, f13, f23, f33⟩ := rS.ev (he)
        rw [ef3]
        refine g_iconst C (v := nI 2) dX3_isSame_224 (by decide) ?_
        refine g_iald C hf3 rfl (show 2 < 4 by decide) (by decide) dX3_isSame_225 ?_
        rw [f23]
        refine g_icmp_ne C (tgt := 281) dX3_isSame_226 (by decide) (fun q3 => ?_) (fun q3 => ?_)
        · exact absurd rfl q3
        · refine g_aload_n C dX3_isSame_229 rfl (by first | rfl | exact isR_rf _) ?_
          refine g_iload C dX3_isSame_230 rfl ?_
          refine g_callV C ((V_depthOf l Y hfl rC iv he).K) ok_X2_depthOf w537 (rC.x) rfl rfl rfl dX3_isSame_232 (Nat.le_of_ble_eq_true rfl) (Nat.le_of_ble_eq_true rfl) (Nat.le_of_ble_eq_true rfl) (by show _ ≤ 1000; omega) (by show _ ≤ 8000; omega) (ofS ?_)
          refine g_aload_n C dX3_isSame_235 rfl (by first | rfl | exact isR_rf _) ?_
          refine g_iload C dX3_isSame_236 rfl ?_
          refine g_callV C ((K_X3_depth l Y rS iv he).K) ok_X3_depth w527 (rS.z) rfl rfl rfl dX3_isSame_238 (Nat.le_of_ble_eq_true rfl) (Nat.le_of_ble_eq_true rfl) (Nat.le_of_ble_eq_true rfl) (by show _ ≤ 1000; omega) (by show _ ≤ 8000; omega) (ofS ?_)
          refine g_icmp_ne C (tgt := 281) dX3_isSame_241 (by decide) (fun q4 => ?_) (fun q4 => ?_)
          · exact absurd rfl q4
          · refine g_aload_n C dX3_isSame_244 rfl (by first | rfl | exact isR_rf _) ?_
            refine g_iload C dX3_isSame_245 rfl ?_
            refine g_callV C ((V_branches l Y hfl rC iv he).K) ok_X2_branches w538 (rC.x) rfl rfl rfl dX3_isSame_247 (Nat.le_of_ble_eq_true rfl) (Nat.le_of_ble_eq_true rfl) (Nat.le_of_ble_eq_true rfl) (by show _ ≤ 1000; omega) (by show _ ≤ 8000; omega) (ofS ?_)
            refine g_iload C dX3_isSame_250 rfl ?_
            refine g_icmp_ne C (tgt := 281) dX3_isSame_252 (by decide) (fun q5 => ?_) (fun q5 => ?_)
            · exact absurd rfl q5
            · refine g_aload_n C dX3_isSame_255 rfl (by first | rfl | exact isR_rf _) ?_
              refine g_iload C dX3_isSame_256 rfl ?_
              refine g_callV C ((V_behind l Y hfl rC iv he).K) ok_X2_behind w539 (rC.x) rfl rfl rfl dX3_isSame_258 (Nat.le_of_ble_eq_true rfl) (Nat.le_of_ble_eq_true rfl) (Nat.le_of_ble_eq_true rfl) (by show _ ≤ 1000; omega) (by show _ ≤ 8000; omega) (ofS ?_)
              refine g_iload C dX3_isSame_261 rfl ?_
              refine g_icmp_ne C (tgt := 281) dX3_isSame_263 (by decide) (fun q6 => ?_) (fun q6 => ?_)
              · exact absurd rfl q6
              · refine g_aload_n C dX3_isSame_266 rfl (by first | rfl | exact isR_rf _) ?_
                refine g_iload C dX3_isSame_267 rfl ?_
                refine g_callV C ((V_again l Y hfl rC iv he).K) ok_X2_again w540 (rC.x) rfl rfl rfl dX3_isSame_269 (Nat.le_of_ble_eq_true rfl) (Nat.le_of_ble_eq_true rfl) (Nat.le_of_ble_eq_true rfl) (by show _ ≤ 1000; omega) (by show _ ≤ 8000; omega) (ofS ?_)
                refine g_aload_n C dX3_isSame_272 rfl (by first | rfl | exact isR_rf _) ?_
                refine g_iload C dX3_isSame_273 rfl ?_
                refine g_callV C ((K_X3_again l Y rS iv T hck he).K) ok_X3_again w541 (rS.z) rfl rfl rfl dX3_isSame_275 (Nat.le_of_ble_eq_true rfl) (Nat.le_of_ble_eq_true rfl) (Nat.le_of_ble_eq_true rfl) (by show _ ≤ 1000; omega) (by show _ ≤ 8000; omega) (ofS ?_)
                refine g_icmp_eq C (tgt := 283) dX3_isSame_278 (by decide) (fun q7 => ?_) (fun q7 => ?_)
                · exact cont fk2 _ _ hfq (by omega) (by omega)
                · exact absurd rfl q7
  have j146 : Gd p l e (rmO 64 1477 1000 8000) s m args below meth c Q Y 12 146 [some (.ref z), some (.ref x), some (.ref q), some (.int (nI g.n)), some (.ref kn), some (.int y5), some (.int (nI (cnt (ch0 g) (ee + 1)))), some (.int (nI (smF (ch0 g) g.dp (ee + 1)))), some (.int (nI (ee))), some (.int (nI (chN g.par g.n ee))), some (.int (nI (dsN g.par g.n ee))), w11] [] (hup h0 kn (aI Y g.np fk)) k n := by
    have rC := rC0.ext (Ext.new hkn (e := aI Y g.np fk))
    have rS := rS0.ext (Ext.new hkn (e := aI Y g.np fk))
    refine g_aload_n C dX3_isSame_146 rfl (by first | rfl | exact isR_rf _) ?_
    refine gf_X3_15 C (rS.z) rfl dX3_isSame_147 ?_
    refine g_iload C dX3_isSame_150 rfl ?_
    refine g_aald C rS.er rfl (he) (by omega) dX3_isSame_152 ?_
    obtain ⟨ef1, f1, hf1, f01, f11, f21, f31⟩ := rS.ev (he)
    rw [ef1]
    refine g_iconst C (v := nI 1) dX3_isSame_153 (by decide) ?_
    refine g_iald C hf1 rfl (show 1 < 4 by decide) (by decide) dX3_isSame_154 ?_
    rw [f11]
    refine g_iconst C (v := nI 1) dX3_isSame_155 (by decide) ?_
    refine g_icmp_ne C (tgt := 175) dX3_isSame_156 (by decide) (fun q1 => ?_) (fun q1 => ?_)
    · refine j175 fk (fun j hj => ?_)
      rw [hfk j hj]
      simp only [cnt]
      rw [if_neg (by unfold knB; rw [decide_eq_false q1, Bool.false_and]; decide)]
      rfl
    · have hk1 : g.kd ee = nI 1 := q1
      have h0e : 0 < ee := by
        rcases Nat.eq_zero_or_pos ee with y | y
        · rw [y, iv.2.2.2.1.1] at hk1
          exact absurd hk1 (by decide)
        · exact y
      obtain ⟨u, hu, eu⟩ := kn_np P h0e he hk1
      refine g_aload C dX3_isSame_159 rfl (by first | rfl | exact isR_rf _) ?_
      refine g_aload_n C dX3_isSame_161 rfl (by first | rfl | exact isR_rf _) ?_
      refine gf_X3_15 C (rS.z) rfl dX3_isSame_162 ?_
      refine g_iload C dX3_isSame_165 rfl ?_
      refine g_aald C rS.er rfl (he) (by omega) dX3_isSame_167 ?_
      obtain ⟨ef2, f2, hf2, f02, f12, f22, f32⟩ := rS.ev (he)
      rw [ef2]
      refine g_iconst C (v := nI 2) dX3_isSame_168 (by decide) ?_
      refine g_iald C hf2 rfl (show 2 < 4 by decide) (by decide) dX3_isSame_169 ?_
      rw [f22]
      rw [eu]
      refine g_dup2 C dX3_isSame_170 rfl rfl ?_
      refine g_iald C hup_eq rfl hu (by omega) dX3_isSame_171 ?_
      rw [hfk u hu]
      refine g_iconst C (v := nI 1) dX3_isSame_172 (by decide) ?_
      refine g_iaddN C dX3_isSame_173 ?_
      refine g_iast C hup_eq rfl hu (by omega) dX3_isSame_174 ?_
      rw [hup_hup]
      refine j175 _ (fun j hj => ?_)
      by_cases c1 : j = u
      · rw [c1, pk_us]
        simp only [cnt]
        rw [if_pos (by unfold knB; rw [decide_eq_true hk1, decide_eq_true eu]; rfl)]
      · rw [pk_un c1, hfk j hj]
        simp only [cnt]
        rw [if_neg (by unfold knB; rw [eu, decide_eq_false (fun y => c1 ((nI_eq (by omega) (by omega)).mp y).symm), Bool.and_false]; decide)]
        rfl
  have rC := rC0.ext (Ext.new hkn (e := aI Y g.np fk))
  have rS := rS0.ext (Ext.new hkn (e := aI Y g.np fk))
  have ec : cnt (ch0 g) (ee + 1) = cnt (ch0 g) ee + (if ch0 g ee = true then 1 else 0) := rfl
  have es : smF (ch0 g) g.dp (ee + 1) = smF (ch0 g) g.dp ee + (if ch0 g ee = true then g.dp ee else 0) := rfl
  refine g_iload C dX3_isSame_127 rfl ?_
  refine g_if_neN C (tgt := 146) dX3_isSame_129 (by decide) (by omega) (fun q1 => ?_) (fun q1 => ?_)
  · have hf : ch0 g ee = false := decide_eq_false (by omega)
    rw [hf] at ec es
    rw [ec, es] at j146
    exact j146
  · have hf : ch0 g ee = true := decide_eq_true (by omega)
    rw [hf, if_pos rfl] at ec es
    rw [ec, es] at j146
    refine g_iincN C dX3_isSame_132 rfl (by decide) ?_
    refine g_iload C dX3_isSame_135 rfl ?_
    refine g_aload_n C dX3_isSame_137 rfl (by first | rfl | exact isR_rf _) ?_
    refine g_iload C dX3_isSame_138 rfl ?_
    refine g_callV C ((K_X3_depth l Y rS iv he).K) ok_X3_depth w527 (rS.z) rfl rfl rfl dX3_isSame_140 (Nat.le_of_ble_eq_true rfl) (Nat.le_of_ble_eq_true rfl) (Nat.le_of_ble_eq_true rfl) (by show _ ≤ 1000; omega) (by show _ ≤ 8000; omega) (ofS ?_)
    refine g_iaddN C dX3_isSame_143 ?_
    refine g_istore C dX3_isSame_144 (by decide) ?_
    exact j146
theorem mkF_lt {K : Nat → Nat} : ∀ {i b : Nat}, mkF K i = some b → b < i := by
  intro i
  induction i with
  | zero => intro b h; cases h
  | succ i ih =>
    intro b h
    simp only [mkF] at h
    split at h
    · cases h; exact Nat.lt_succ_self _
    · rename_i b2 hb2
      have := ih hb2
      split at h
      · cases h; exact Nat.lt_succ_self _
      · cases h; omega
set_option maxRecDepth 100000 in
set_option maxHeartbeats 4000000 in
theorem same_p {l : Launch} {Y : YG} {p : Program} {e : Env} {s : State} {m : MethodId} {args : Array Value} {below : List Frame} {meth : Method} {c : Code} {Q : State → Prop} (C : Cx p s m args meth c Y cX3_isSame 12 RX3) (hfl : l.stackTraces = false) {x z q kn : Nat} {g : Sg} {h : AH} {v : Vw} {w : Sv} {Z : Nat → Prop} (iv : Inv g) (P : Pld g) (rC : RepC Y x v g Z h) (rS : RepS Y z w g h) {fs fk : Nat → Int32} (hq : h q = some (aI Y (2 + 3 * g.np) fs)) (sr : StR g.np (g.ct g.now) (g.pos g.now) (g.lb g.now) fs) (hk0 : h kn = some (aI Y g.np fk)) (hfk : ∀ j, j < g.np → fk j = nI (knN g j)) {w6 w7 w8 w9 w10 w11 : Option Value} {k n : Nat} (hk : k + 100 ≤ 1000) (hn : n + 600 ≤ 8000) (cont : ∀ (w8 : Option Value) (k2 n2 : Nat), k2 ≤ k + 3 * g.np → n2 ≤ n + 18 * g.np → Gd p l e (rmO 64 1477 1000 8000) s m args below meth c Q Y 12 407 [some (.ref z), some (.ref x), some (.ref q), some (.int (nI g.n)), some (.ref kn), some (.int (nO (mkF (knN g) g.np))), w6, w7, w8, w9, w10, w11] [] h k2 n2) : ∀ y7 : Int32, w7 = some (.int y7) → Gd p l e (rmO 64 1477 1000 8000) s m args below meth c Q Y 12 289 [some (.ref z), some (.ref x), some (.ref q), some (.int (nI g.n)), some (.ref kn), some (.int (if g.np = 0 then -1 else nI 0)), w6, w7, w8, w9, w10, w11] [] h k n := by
  intro y7 hy7
  subst hy7
  have hn60 := iv.n60
  have hnp16 := iv.np
  have hnow := iv.now
  have hn1 := iv.n1
  have hT := iv.tr
  have hK : ∀ j, knN g j < 2 ^ 31 := knN_lt iv
  have lp : ∀ (d i : Nat) (a : Int32) (k2 n2 : Nat), i ≤ g.np → g.np - i < d → (0 < i → a = nO (mkF (knN g) i)) → (i = 0 → a = (if g.np = 0 then -1 else nI 0)) → k2 ≤ k + 3 * i → n2 ≤ n + 18 * i → Gd p l e (rmO 64 1477 1000 8000) s m args below meth c Q Y 12 292 [some (.ref z), some (.ref x), some (.ref q), some (.int (nI g.n)), some (.ref kn), some (.int a), w6, some (.int y7), some (.int (nI (i))), w9, w10, w11] [] h k2 n2 := by
    intro d
    induction d with
    | zero => intro i a k2 n2 z1 z2; omega
    | succ d ih =>
      intro i a k2 n2 hi hd ha1 ha0 hk2 hn2
      refine g_iload C dX3_isSame_292 rfl ?_
      refine g_aload_n C dX3_isSame_294 rfl (by first | rfl | exact isR_rf _) ?_
      refine gf_X3_9 C (rS.z) rfl dX3_isSame_295 ?_
      refine g_alena C (rS.sr) dX3_isSame_298 ?_
      refine g_icmp_geN C (tgt := 407) dX3_isSame_299 (by decide) (by omega) (by omega) (fun q1 => ?_) (fun q1 => ?_)
      · have : i = g.np := by omega
        subst this
        have ea : a = nO (mkF (knN g) g.np) := by
          rcases Nat.eq_zero_or_pos g.np with y | y
          · rw [ha0 y, if_pos y, y]; rfl
          · exact ha1 y
        rw [ea]
        exact cont _ _ _ hk2 hn2
      · have hpi := iv.pos hnow q1
        obtain ⟨s0, s1, s2⟩ := sr.2.2 i q1
        obtain ⟨b, hb, eb, em⟩ : ∃ b, b < g.np ∧ a = nI b ∧ (mkF (knN g) (i + 1) = some (if knN g b < knN g i then i else b)) := by
          rcases Nat.eq_zero_or_pos i with y | y
          · subst y
            refine ⟨0, q1, by rw [ha0 rfl, if_neg (by omega)], ?_⟩
            rw [if_neg (Nat.lt_irrefl _)]
            rfl
          · have hm := ha1 y
            cases hz : mkF (knN g) i with
            | none =>
              exfalso
              obtain ⟨j, rfl⟩ : ∃ j, i = j + 1 := ⟨i - 1, by omega⟩
              simp only [mkF] at hz
              split at hz
              · cases hz
              · split at hz <;> cases hz
            | some b =>
              rw [hz] at hm
              refine ⟨b, ?_, hm, ?_⟩
              · have := mkF_lt hz
                omega
              · simp only [mkF, hz]
                split <;> rfl
        subst eb
        have j319 : Gd p l e (rmO 64 1477 1000 8000) s m args below meth c Q Y 12 319 [some (.ref z), some (.ref x), some (.ref q), some (.int (nI g.n)), some (.ref kn), some (.int (nO (mkF (knN g) (i + 1)))), w6, some (.int y7), some (.int (nI (i))), w9, w10, w11] [] h k2 n2 := by
          refine g_aload_n C dX3_isSame_319 rfl (by first | rfl | exact isR_rf _) ?_
          refine g_iload C dX3_isSame_320 rfl ?_
          refine g_callV C ((V_placeOf l Y hfl rC iv q1).K) ok_X2_placeOf w545 (rC.x) rfl rfl rfl dX3_isSame_322 (Nat.le_of_ble_eq_true rfl) (Nat.le_of_ble_eq_true rfl) (Nat.le_of_ble_eq_true rfl) (by show _ ≤ 1000; omega) (by show _ ≤ 8000; omega) (ofS ?_)
          refine g_bipush C (v := nI 8) dX3_isSame_325 (by decide) ?_
          refine g_aload_n C dX3_isSame_327 rfl (by first | rfl | exact isR_rf _) ?_
          refine g_iconst C (v := nI 2) dX3_isSame_328 (by decide) ?_
          refine g_iconst C (v := nI 3) dX3_isSame_329 (by decide) ?_
          refine g_iload C dX3_isSame_330 rfl ?_
          first | with_reducible refine g_imulN C dX3_isSame_332 ?_ | refine g_imul C dX3_isSame_332 ?_
          first | with_reducible refine g_iaddN C dX3_isSame_333 ?_ | refine g_iadd C dX3_isSame_333 ?_
          refine g_iald C hq rfl (show 2 + 3 * i < 2 + 3 * g.np by omega) (by omega) dX3_isSame_334 ?_
          rw [s0]
          refine g_imulN C dX3_isSame_335 ?_
          refine g_aload_n C dX3_isSame_336 rfl (by first | rfl | exact isR_rf _) ?_
          refine g_iconst C (v := nI 3) dX3_isSame_337 (by decide) ?_
          refine g_iconst C (v := nI 3) dX3_isSame_338 (by decide) ?_
          refine g_iload C dX3_isSame_339 rfl ?_
          first | with_reducible refine g_imulN C dX3_isSame_341 ?_ | refine g_imul C dX3_isSame_341 ?_
          first | with_reducible refine g_iaddN C dX3_isSame_342 ?_ | refine g_iadd C dX3_isSame_342 ?_
          refine g_iald C hq rfl (show 3 + 3 * i < 2 + 3 * g.np by omega) (by omega) dX3_isSame_343 ?_
          rw [s1]
          refine g_iaddN C dX3_isSame_344 ?_
          refine g_icmp_neN C (tgt := 399) dX3_isSame_345 (by decide) (by omega) (by omega) (fun q2 => ?_) (fun q2 => ?_)
          · omega
          · refine g_aload_n C dX3_isSame_348 rfl (by first | rfl | exact isR_rf _) ?_
            refine g_iload C dX3_isSame_349 rfl ?_
            refine g_callV C ((V_lies l Y hfl rC iv q1).K) ok_X2_lies w546 (rC.x) rfl rfl rfl dX3_isSame_351 (Nat.le_of_ble_eq_true rfl) (Nat.le_of_ble_eq_true rfl) (Nat.le_of_ble_eq_true rfl) (by show _ ≤ 1000; omega) (by show _ ≤ 8000; omega) (ofS ?_)
            refine g_aload_n C dX3_isSame_354 rfl (by first | rfl | exact isR_rf _) ?_
            refine g_iconst C (v := nI 4) dX3_isSame_355 (by decide) ?_
            refine g_iconst C (v := nI 3) dX3_isSame_356 (by decide) ?_
            refine g_iload C dX3_isSame_357 rfl ?_
            first | with_reducible refine g_imulN C dX3_isSame_359 ?_ | refine g_imul C dX3_isSame_359 ?_
            first | with_reducible refine g_iaddN C dX3_isSame_360 ?_ | refine g_iadd C dX3_isSame_360 ?_
            refine g_iald C hq rfl (show 4 + 3 * i < 2 + 3 * g.np by omega) (by omega) dX3_isSame_361 ?_
            rw [s2]
            have j371 : ∀ bb : Nat, bb = (if (g.lb g.now).testBit i = true then 1 else 0) → Gd p l e (rmO 64 1477 1000 8000) s m args below meth c Q Y 12 371 [some (.ref z), some (.ref x), some (.ref q), some (.int (nI g.n)), some (.ref kn), some (.int (nO (mkF (knN g) (i + 1)))), w6, some (.int y7), some (.int (nI (i))), w9, w10, w11] [.int (nI bb), .int (if (g.lb g.now).testBit i = true then 1 else 0)] h (k2 + 1 + 0 + 1) (n2 + 6 + 0 + 6) := by
              intro bb hbb
              have e9 : (if (g.lb g.now).testBit i = true then (1 : Int32) else 0) = nI bb := by
                rw [hbb]; split <;> rfl
              rw [e9]
              refine g_icmp_ne C (tgt := 399) dX3_isSame_371 (by decide) (fun y => absurd rfl y) (fun _ => ?_)
              refine g_aload_n C dX3_isSame_374 rfl (by first | rfl | exact isR_rf _) ?_
              refine g_aload_n C dX3_isSame_375 rfl (by first | rfl | exact isR_rf _) ?_
              refine g_iconst C (v := nI 2) dX3_isSame_376 (by decide) ?_
              refine g_iconst C (v := nI 3) dX3_isSame_377 (by decide) ?_
              refine g_iload C dX3_isSame_378 rfl ?_
              first | with_reducible refine g_imulN C dX3_isSame_380 ?_ | refine g_imul C dX3_isSame_380 ?_
              first | with_reducible refine g_iaddN C dX3_isSame_381 ?_ | refine g_iadd C dX3_isSame_381 ?_
              refine g_iald C hq rfl (show 2 + 3 * i < 2 + 3 * g.np by omega) (by omega) dX3_isSame_382 ?_
              rw [s0]
              refine g_aload_n C dX3_isSame_383 rfl (by first | rfl | exact isR_rf _) ?_
              refine g_iconst C (v := nI 3) dX3_isSame_384 (by decide) ?_
              refine g_iconst C (v := nI 3) dX3_isSame_385 (by decide) ?_
              refine g_iload C dX3_isSame_386 rfl ?_
              first | with_reducible refine g_imulN C dX3_isSame_388 ?_ | refine g_imul C dX3_isSame_388 ?_
              first | with_reducible refine g_iaddN C dX3_isSame_389 ?_ | refine g_iadd C dX3_isSame_389 ?_
              refine g_iald C hq rfl (show 3 + 3 * i < 2 + 3 * g.np by omega) (by omega) dX3_isSame_390 ?_
              rw [s1]
              refine g_callV C ((V_pieceAt l Y hfl rC iv hpi).K) ok_X2_pieceAt w547 (rC.x) rfl rfl rfl dX3_isSame_391 (Nat.le_of_ble_eq_true rfl) (Nat.le_of_ble_eq_true rfl) (Nat.le_of_ble_eq_true rfl) (by show _ ≤ 1000; omega) (by show _ ≤ 8000; omega) (ofS ?_)
              rw [pon_self q1 (pos_inj iv P g.now hnow)]
              refine g_iload C dX3_isSame_394 rfl ?_
              refine g_icmp_eq C (tgt := 401) dX3_isSame_396 (by decide) (fun q5 => ?_) (fun q5 => ?_)
              · refine g_iincN C dX3_isSame_401 rfl (by decide) ?_
                refine g_goto C (tgt := 292) dX3_isSame_404 (by decide) ?_
                exact ih (i + 1) _ _ _ (by omega) (by omega) (fun _ => rfl) (fun y => absurd y (by omega)) (by omega) (by omega)
              · exact absurd rfl q5
            refine g_iconst C (v := nI 1) dX3_isSame_362 (by decide) ?_
            refine g_icmp_neN C (tgt := 370) dX3_isSame_363 (by decide) (by split <;> omega) (by omega) (fun q3 => ?_) (fun q3 => ?_)
            · refine g_iconst C (v := nI 0) dX3_isSame_370 (by decide) ?_
              exact j371 0 (by split at q3 <;> first | omega | (split <;> first | rfl | contradiction))
            · refine g_iconst C (v := nI 1) dX3_isSame_366 (by decide) ?_
              refine g_goto C (tgt := 371) dX3_isSame_367 (by decide) ?_
              exact j371 1 (by split at q3 <;> first | omega | (split <;> first | rfl | contradiction))
        rw [em] at j319
        refine g_aload C dX3_isSame_302 rfl (by first | rfl | exact isR_rf _) ?_
        refine g_iload C dX3_isSame_304 rfl ?_
        refine g_iald C hk0 rfl q1 (by omega) dX3_isSame_306 ?_
        rw [hfk i q1]
        refine g_aload C dX3_isSame_307 rfl (by first | rfl | exact isR_rf _) ?_
        refine g_iload C dX3_isSame_309 rfl ?_
        refine g_iald C hk0 rfl hb (by omega) dX3_isSame_311 ?_
        rw [hfk b hb]
        refine g_icmp_leN C (tgt := 319) dX3_isSame_312 (by decide) (hK _) (hK _) (fun q2 => ?_) (fun q2 => ?_)
        · rw [if_neg (by omega)] at j319
          exact j319
        · rw [if_pos q2] at j319
          refine g_iload C dX3_isSame_315 rfl ?_
          refine g_istore C dX3_isSame_317 (by decide) ?_
          exact j319
  refine g_iconst C (v := nI 0) dX3_isSame_289 (by decide) ?_
  refine g_istore C dX3_isSame_290 (by decide) ?_
  exact lp (g.np + 1) 0 _ _ _ (Nat.zero_le _) (by omega) (fun y => absurd y (Nat.lt_irrefl 0)) (fun _ => rfl) (by omega) (by omega)
set_option maxRecDepth 100000 in
set_option maxHeartbeats 4000000 in
theorem K_X3_isSame (l : Launch) (Y : YG) (hfl : l.stackTraces = false) {x z ck : Nat} {g : Sg} {h : AH} (I : LwS Y x z g ck h) (hck2 : ck < 2 ^ 30) : MX l Y yX3_isSame cX3_isSame 12 (some .boolean) 64 1477 1000 8000 [.ref z, .ref x] h (fun vv _ => vv = some (.int (nI 1))) (noX) := by
  obtain ⟨iv, P, v, w, rC, rS, T, hck⟩ := I
  have hn60 := iv.n60
  have hnp16 := iv.np
  have hnow := iv.now
  have hn1 := iv.n1
  have hT := iv.tr
  refine MX.of (by decide +kernel) (Nat.le_of_ble_eq_true rfl) ?_
  intro p e s m args0 below meth c C hr hout hnm
  refine g_aload_n C dX3_isSame_0 rfl (by first | rfl | exact isR_rf _) ?_
  refine g_aload_n C dX3_isSame_1 rfl (by first | rfl | exact isR_rf _) ?_
  refine gf_X3_18 C (rS.z) rfl dX3_isSame_2 ?_
  refine g_callV C ((K_X3_state l Y rS iv P (e0 := g.now) hnow).K) ok_X3_state w504 (rS.z) rfl rfl rfl dX3_isSame_5 (Nat.le_of_ble_eq_true rfl) (Nat.le_of_ble_eq_true rfl) (Nat.le_of_ble_eq_true rfl) (by show _ ≤ 1000; omega) (by show _ ≤ 8000; omega) (fun vv h2 e2 => ?_)
  obtain ⟨r0, rfl, q, fs, rfl, hq, rfl, sr⟩ := e2
  have x1 : Ext h (hup h q (aI Y (2 + 3 * g.np) fs)) := Ext.new hq
  have rC1 := rC.ext x1
  have rS1 := rS.ext x1
  have hq1 : hup h q (aI Y (2 + 3 * g.np) fs) q = some (aI Y (2 + 3 * g.np) fs) := hup_eq
  generalize hup h q (aI Y (2 + 3 * g.np) fs) = h1 at *
  clear hq x1
  refine g_astore_n C dX3_isSame_8 (by decide) (by first | rfl | exact isR_rf _) ?_
  refine g_aload_n C dX3_isSame_9 rfl (by first | rfl | exact isR_rf _) ?_
  refine gf_X3_15 C (rS1.z) rfl dX3_isSame_10 ?_
  refine g_alena C (rS1.er) dX3_isSame_13 ?_
  refine g_istore_n C dX3_isSame_14 (by decide) ?_
  refine g_aload_n C dX3_isSame_15 rfl (by first | rfl | exact isR_rf _) ?_
  refine gf_X3_9 C (rS1.z) rfl dX3_isSame_16 ?_
  refine g_alena C (rS1.sr) dX3_isSame_19 ?_
  refine g_newI C (N := g.np) rfl (by omega) w49 (by show _ ≤ 1000; omega) (by show _ ≤ 8000; omega) dX3_isSame_20 (fun kn hkn => ?_)
  have rS2 := rS1.ext (Ext.new hkn (e := aI Y g.np (fun _ => 0)))
  refine g_astore C dX3_isSame_22 (by decide) (by first | rfl | exact isR_rf _) ?_
  refine g_aload_n C dX3_isSame_24 rfl (by first | rfl | exact isR_rf _) ?_
  refine gf_X3_9 C (rS2.z) rfl dX3_isSame_25 ?_
  refine g_alena C (rS2.sr) dX3_isSame_28 ?_
  have endk : ∀ (fk : Nat → Int32) (w8 w9 w10 w11 : Option Value) (k2 n2 : Nat), k2 ≤ 900 → n2 ≤ 7000 → Gd p l e (rmO 64 1477 1000 8000) s m args0 below meth c (vx_MQ below (Qk Y (fun vv _ => vv = some (.int (nI 1)))) (Xk Y (noX)) args0 s 1000 8000 Y.A) Y 12 407 [some (.ref z), some (.ref x), some (.ref q), some (.int (nI g.n)), some (.ref kn), some (.int (nO (mkF (knN g) g.np))), some (.int (nI (enN g))), some (.int (nI (smN g))), w8, w9, w10, w11] [] (hup h1 kn (aI Y g.np fk)) k2 n2 := by
    intro fk w8 w9 w10 w11 k2 n2 hk2 hn2
    have rC3 := rC1.ext (Ext.new hkn (e := aI Y g.np fk))
    have rS3 := rS1.ext (Ext.new hkn (e := aI Y g.np fk))
    have hq3 := hup_old (e := aI Y g.np fk) hkn hq1
    have hep := en_pos iv
    have hen : enN g ≤ g.n := cnt_le _ _
    refine g_aload_n C dX3_isSame_407 rfl (by first | rfl | exact isR_rf _) ?_
    refine g_callV C ((K_X2_evening l Y rC3 iv).K) ok_X2_evening w562 (rC3.x) rfl rfl rfl dX3_isSame_408 (Nat.le_of_ble_eq_true rfl) (Nat.le_of_ble_eq_true rfl) (Nat.le_of_ble_eq_true rfl) (by show _ ≤ 1000; omega) (by show _ ≤ 8000; omega) (ofS ?_)
    refine g_aload_n C dX3_isSame_411 rfl (by first | rfl | exact isR_rf _) ?_
    refine gf_X3_18 C (rS3.z) rfl dX3_isSame_412 ?_
    refine g_icmp_ne C (tgt := 510) dX3_isSame_415 (by decide) (fun q1 => ?_) (fun q1 => ?_)
    · exact absurd rfl q1
    · refine g_aload_n C dX3_isSame_418 rfl (by first | rfl | exact isR_rf _) ?_
      refine g_callV C ((K_X2_evenings l Y rC3 iv).K) ok_X2_evenings w563 (rC3.x) rfl rfl rfl dX3_isSame_419 (Nat.le_of_ble_eq_true rfl) (Nat.le_of_ble_eq_true rfl) (Nat.le_of_ble_eq_true rfl) (by show _ ≤ 1000; omega) (by show _ ≤ 8000; omega) (ofS ?_)
      refine g_iload_n C dX3_isSame_422 rfl ?_
      refine g_icmp_ne C (tgt := 510) dX3_isSame_423 (by decide) (fun q2 => ?_) (fun q2 => ?_)
      · exact absurd rfl q2
      · refine g_aload_n C dX3_isSame_426 rfl (by first | rfl | exact isR_rf _) ?_
        refine g_callV C ((K_X2_pieces l Y rC3 iv).K) ok_X2_pieces w564 (rC3.x) rfl rfl rfl dX3_isSame_427 (Nat.le_of_ble_eq_true rfl) (Nat.le_of_ble_eq_true rfl) (Nat.le_of_ble_eq_true rfl) (by show _ ≤ 1000; omega) (by show _ ≤ 8000; omega) (ofS ?_)
        refine g_aload_n C dX3_isSame_430 rfl (by first | rfl | exact isR_rf _) ?_
        refine gf_X3_9 C (rS3.z) rfl dX3_isSame_431 ?_
        refine g_alena C (rS3.sr) dX3_isSame_434 ?_
        refine g_icmp_ne C (tgt := 510) dX3_isSame_435 (by decide) (fun q3 => ?_) (fun q3 => ?_)
        · exact absurd rfl q3
        · refine g_aload_n C dX3_isSame_438 rfl (by first | rfl | exact isR_rf _) ?_
          refine g_callV C ((K_X2_catColumn l Y rC3 iv).K) ok_X2_catColumn w565 (rC3.x) rfl rfl rfl dX3_isSame_439 (Nat.le_of_ble_eq_true rfl) (Nat.le_of_ble_eq_true rfl) (Nat.le_of_ble_eq_true rfl) (by show _ ≤ 1000; omega) (by show _ ≤ 8000; omega) (ofS ?_)
          refine g_aload_n C dX3_isSame_442 rfl (by first | rfl | exact isR_rf _) ?_
          refine g_iconst C (v := nI 0) dX3_isSame_443 (by decide) ?_
          refine g_iald C hq3 rfl (show 0 < 2 + 3 * g.np by omega) (by omega) dX3_isSame_444 ?_
          rw [sr.1]
          refine g_icmp_ne C (tgt := 510) dX3_isSame_445 (by decide) (fun q4 => ?_) (fun q4 => ?_)
          · exact absurd rfl q4
          · refine g_aload_n C dX3_isSame_448 rfl (by first | rfl | exact isR_rf _) ?_
            refine g_callV C ((K_X2_catRow l Y rC3 iv).K) ok_X2_catRow w566 (rC3.x) rfl rfl rfl dX3_isSame_449 (Nat.le_of_ble_eq_true rfl) (Nat.le_of_ble_eq_true rfl) (Nat.le_of_ble_eq_true rfl) (by show _ ≤ 1000; omega) (by show _ ≤ 8000; omega) (ofS ?_)
            refine g_aload_n C dX3_isSame_452 rfl (by first | rfl | exact isR_rf _) ?_
            refine g_iconst C (v := nI 1) dX3_isSame_453 (by decide) ?_
            refine g_iald C hq3 rfl (show 1 < 2 + 3 * g.np by omega) (by omega) dX3_isSame_454 ?_
            rw [sr.2.1]
            refine g_icmp_ne C (tgt := 510) dX3_isSame_455 (by decide) (fun q5 => ?_) (fun q5 => ?_)
            · exact absurd rfl q5
            · refine g_aload_n C dX3_isSame_458 rfl (by first | rfl | exact isR_rf _) ?_
              refine g_callV C ((K_X2_lying l Y rC3 iv).K) ok_X2_lying w567 (rC3.x) rfl rfl rfl dX3_isSame_459 (Nat.le_of_ble_eq_true rfl) (Nat.le_of_ble_eq_true rfl) (Nat.le_of_ble_eq_true rfl) (by show _ ≤ 1000; omega) (by show _ ≤ 8000; omega) (ofS ?_)
              refine g_aload_n C dX3_isSame_462 rfl (by first | rfl | exact isR_rf _) ?_
              refine g_aload_n C dX3_isSame_463 rfl (by first | rfl | exact isR_rf _) ?_
              refine gf_X3_18 C (rS3.z) rfl dX3_isSame_464 ?_
              refine g_callV C ((K_X3_lying l Y rS3 iv P hnow).K) ok_X3_lying w568 (rS3.z) rfl rfl rfl dX3_isSame_467 (Nat.le_of_ble_eq_true rfl) (Nat.le_of_ble_eq_true rfl) (Nat.le_of_ble_eq_true rfl) (by show _ ≤ 1000; omega) (by show _ ≤ 8000; omega) (fun vv h4 e4 => ?_)
              obtain ⟨rfl, x4⟩ := e4
              have rC4 := rC3.ext x4
              refine g_icmp_ne C (tgt := 510) dX3_isSame_470 (by decide) (fun q6 => ?_) (fun q6 => ?_)
              · exact absurd rfl q6
              · refine g_aload_n C dX3_isSame_473 rfl (by first | rfl | exact isR_rf _) ?_
                refine g_callV C ((K_X2_ends l Y rC4 iv).K) ok_X2_ends w572 (rC4.x) rfl rfl rfl dX3_isSame_474 (Nat.le_of_ble_eq_true rfl) (Nat.le_of_ble_eq_true rfl) (Nat.le_of_ble_eq_true rfl) (by show _ ≤ 1000; omega) (by show _ ≤ 8000; omega) (ofS ?_)
                refine g_iload C dX3_isSame_477 rfl ?_
                refine g_icmp_ne C (tgt := 510) dX3_isSame_479 (by decide) (fun q7 => ?_) (fun q7 => ?_)
                · exact absurd rfl q7
                · refine g_aload_n C dX3_isSame_482 rfl (by first | rfl | exact isR_rf _) ?_
                  refine g_callV C ((K_X2_mostKnocked l Y rC4 iv).K) ok_X2_mostKnocked w573 (rC4.x) rfl rfl rfl dX3_isSame_483 (Nat.le_of_ble_eq_true rfl) (Nat.le_of_ble_eq_true rfl) (Nat.le_of_ble_eq_true rfl) (by show _ ≤ 1000; omega) (by show _ ≤ 8000; omega) (ofS ?_)
                  refine g_iload C dX3_isSame_486 rfl ?_
                  refine g_icmp_ne C (tgt := 510) dX3_isSame_488 (by decide) (fun q8 => ?_) (fun q8 => ?_)
                  · exact absurd rfl q8
                  · refine g_aload_n C dX3_isSame_491 rfl (by first | rfl | exact isR_rf _) ?_
                    refine g_callV C ((K_X2_meanDepth l Y rC4 iv).K) ok_X2_meanDepth w574 (rC4.x) rfl rfl rfl dX3_isSame_492 (Nat.le_of_ble_eq_true rfl) (Nat.le_of_ble_eq_true rfl) (Nat.le_of_ble_eq_true rfl) (by show _ ≤ 1000; omega) (by show _ ≤ 8000; omega) (ofS ?_)
                    refine g_iload C dX3_isSame_495 rfl ?_
                    refine g_i2d C dX3_isSame_497 ?_
                    refine g_iload C dX3_isSame_498 rfl ?_
                    refine g_i2d C dX3_isSame_500 ?_
                    have hne : nI (enN g) ≠ 0 := nI_ne0 hep (by omega)
                    refine g_ddiv C dX3_isSame_501 (mean_ok hne) ?_
                    have emv : meanV g = FP.ddiv (FP.i2d (nI (smN g))) (FP.i2d (nI (enN g))) := by unfold meanV; rw [if_neg (by omega)]
                    rw [emv]
                    refine g_dcmp C dX3_isSame_502 ?_
                    rw [dcmp_rf (mean_ok hne)]
                    refine g_if_ne C (tgt := 510) dX3_isSame_503 (by decide) (fun y => absurd rfl y) (fun _ => ?_)
                    refine g_iconst C (v := nI 1) dX3_isSame_506 (by decide) ?_
                    refine g_goto C (tgt := 511) dX3_isSame_507 (by decide) ?_
                    exact g_zret C hr (by exact Or.inr rfl) dX3_isSame_511 (by omega) (by omega) (rfl)
  have le : ∀ (d ee : Nat) (fk : Nat → Int32) (w9 w10 w11 : Option Value) (k2 n2 : Nat), ee ≤ g.n → g.n - ee < d → (∀ j, j < g.np → fk j = nI (cnt (knB g j) ee)) → k2 ≤ 2 + 8 * ee → n2 ≤ 100 + 48 * ee → Gd p l e (rmO 64 1477 1000 8000) s m args0 below meth c (vx_MQ below (Qk Y (fun vv _ => vv = some (.int (nI 1)))) (Xk Y (noX)) args0 s 1000 8000 Y.A) Y 12 48 [some (.ref z), some (.ref x), some (.ref q), some (.int (nI g.n)), some (.ref kn), some (.int (if g.np = 0 then -1 else nI 0)), some (.int (nI (cnt (ch0 g) (ee)))), some (.int (nI (smF (ch0 g) g.dp (ee)))), some (.int (nI (ee))), w9, w10, w11] [] (hup h1 kn (aI Y g.np fk)) k2 n2 := by
    intro d
    induction d with
    | zero => intro ee fk w9 w10 w11 k2 n2 z1 z2; omega
    | succ d ih =>
      intro ee fk w9 w10 w11 k2 n2 hee hd hfk hk2 hn2
      refine g_iload C dX3_isSame_48 rfl ?_
      refine g_iload_n C dX3_isSame_50 rfl ?_
      refine g_icmp_geN C (tgt := 289) dX3_isSame_51 (by decide) (by omega) (by omega) (fun q1 => ?_) (fun q1 => ?_)
      · have : ee = g.n := by omega
        subst this
        have e1 : cnt (ch0 g) g.n = enN g := cnt_congr (fun j hj => ch0_en iv hj)
        have e2 : smF (ch0 g) g.dp g.n = smN g := smF_congr (fun j hj => ch0_en iv hj)
        rw [e1, e2]
        exact same_p C hfl iv P (rC1.ext (Ext.new hkn)) (rS1.ext (Ext.new hkn)) (hup_old hkn hq1) sr hup_eq hfk (by omega) (by omega) (fun w8 k3 n3 hk3 hn3 => endk fk w8 _ _ _ k3 n3 (by omega) (by omega)) _ rfl
      · refine same_in C hfl iv P (rC1.ext (Ext.new hkn)) (rS1.ext (Ext.new hkn)) q1 (by omega) (by omega) ?_
        refine same_e C hfl iv P rC1 rS1 T (by omega) hkn q1 hfk (by omega) (by omega) (fun fk2 k3 n3 hf2 hk3 hn3 => ?_)
        refine g_iincN C dX3_isSame_283 rfl (by decide) ?_
        refine g_goto C (tgt := 48) dX3_isSame_286 (by decide) ?_
        exact ih (ee + 1) fk2 _ _ _ _ _ (by omega) (by omega) hf2 (by omega) (by omega)
  have j37 : Gd p l e (rmO 64 1477 1000 8000) s m args0 below meth c (vx_MQ below (Qk Y (fun vv _ => vv = some (.int (nI 1)))) (Xk Y (noX)) args0 s 1000 8000 Y.A) Y 12 37 [some (.ref z), some (.ref x), some (.ref q), some (.int (nI g.n)), some (.ref kn), none, none, none, none, none, none, none] [.int (if g.np = 0 then -1 else nI 0)] (hup h1 kn (aI Y g.np (fun _ => 0))) 2 100 := by
    refine g_istore C dX3_isSame_37 (by decide) ?_
    refine g_iconst C (v := nI 0) dX3_isSame_39 (by decide) ?_
    refine g_istore C dX3_isSame_40 (by decide) ?_
    refine g_iconst C (v := nI 0) dX3_isSame_42 (by decide) ?_
    refine g_istore C dX3_isSame_43 (by decide) ?_
    refine g_iconst C (v := nI 0) dX3_isSame_45 (by decide) ?_
    refine g_istore C dX3_isSame_46 (by decide) ?_
    exact le (g.n + 1) 0 _ _ _ _ _ _ (Nat.zero_le _) (by omega) (fun j _ => rfl) (by omega) (by omega)
  refine Gd.wide (k2 := 2) (n2 := 100) (by omega) (by omega) ?_
  by_cases hz : g.np = 0
  · rw [if_pos hz] at j37
    refine g_if_neN C (tgt := 36) dX3_isSame_29 (by decide) (by omega) (fun y => absurd hz (by omega)) (fun y => ?_)
    refine g_iconst C (v := -1) dX3_isSame_32 (by decide) ?_
    refine g_goto C (tgt := 37) dX3_isSame_33 (by decide) ?_
    exact j37
  · rw [if_neg hz] at j37
    refine g_if_neN C (tgt := 36) dX3_isSame_29 (by decide) (by omega) (fun y => ?_) (fun y => absurd y hz)
    refine g_iconst C (v := nI 0) dX3_isSame_36 (by decide) ?_
    exact j37
