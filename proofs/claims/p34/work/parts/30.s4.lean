theorem MW.of {l : Launch} {Y : YG} {y : MethodName} {cc : ByteArray} {maxL : Nat} {ret : Option FieldType} {hh : List (Nat × Nat × Nat × Nat)} {f L mc ms : Nat} {As : List Value} {h : AH} {post : Option Value → AH → Prop} (hy : plainName y.cls = true) (hLL : (lg_sl As).length ≤ maxL)
    (body : ∀ p e s m args below meth c, Cx p s m args meth c Y cc maxL y.cls → meth.sig.returnType = ret → c.exceptionTable.toList = tableOf hh → Gd p l e (rmO f L mc ms) s m args below meth c (vx_MQ below (Qk Y post) (Xk Y noX) args s mc ms Y.A) Y maxL 0 (lent As maxL) [] h 0 0) : MW l Y y cc maxL ret hh f L mc ms As h post := by
  refine met_of_vx (XC := Xk Y noX) (fun E st t hx => by obtain ⟨⟨h', hf, -⟩, -⟩ := hx; exact hf) (vx_ofWH (cc := cc) (maxL := maxL) (ret := ret) (hh := hh) hy rfl ?_)
  intro p e s m args below meth c s₁ B hml hv
  obtain ⟨rfl, hc, hA, hK, hF⟩ := hv
  have hts0 := atoms_spec (ws := Cond.codeWith y cc maxL ret hh :: AllW) B.pre
  have htb := vx_table (x := y) B (hts0 _ List.mem_cons_self)
  rw [lg_entry_eq]
  exact body p e s m _ below meth c ⟨B.exec, B.bytes, hml, findClass_of_methodNamed B.named, fun w hw => hts0 w (List.mem_cons_of_mem _ hw), hK, hF, hA, B.notSynchronized⟩ B.returns htb s.heap [] _ hc va_S.rf (lh.entry As hLL)
section GD
variable {p : Program} {l : Launch} {e : Env} {R : Room} {s : State} {m : MethodId} {args : Array Value} {below : List Frame} {meth : Method} {c : Code} {Q : State → Prop} {Y : YG} {nL : Nat} {cc : ByteArray} {own : String} {pc : Nat} {lv : List (Option Value)} {st : List Value} {h : AH} {k n : Nat}
theorem g_catch (C : Cx p s m args meth c Y cc nL own) {E nm : String} (pre : List ExceptionTableEntry) (x : ExceptionTableEntry) (suf : List ExceptionTableEntry) (hsplit : c.exceptionTable.toList = pre ++ x :: suf)
    (hpass : ∀ z ∈ pre, covers z pc = false ∨ (z.catchType ≠ 0 ∧ ∃ nm : String, Cond.classLink own z.catchType nm ∈ AllW ∧ va_Nc E nm s)) (hx : covers x pc = true) (h0 : x.catchType ≠ 0) (hlink : Cond.classLink own x.catchType nm ∈ AllW) (hca : va_Ca E nm s)
    (kk : ∀ q, Gd p l e R s m args below meth c Q Y nL x.handlerPc lv [.ref q] h k n) : Gx p l e R s m args below meth c Q Y nL pc lv st h k n E := by
  obtain ⟨hxx, hb, hml, hown, hts, hK, -, hA, -⟩ := C
  intro H locs ls q ce hc hS hl hq hv hcl
  exact vx_catch hown pre x suf hsplit (fun z hz => (hpass z hz).imp id (fun ⟨a, nm, b1, b2⟩ => ⟨a, nm, hts _ b1, b2⟩)) hx h0 (hts _ hlink) (va_Ca.use (A := args) hca) hq hv hcl (kk q H locs ls hc hS hl)
theorem g_widen {k2 n2 : Nat} (h1 : k ≤ k2) (h2 : n ≤ n2) (kk : Gd p l e R s m args below meth c Q Y nL pc lv st h k2 n2) : Gd p l e R s m args below meth c Q Y nL pc lv st h k n := fun H locs ls hc hS hl => W.widen h1 h2 (kk H locs ls hc hS hl)
end GD
/-- both hold the state; the clock is not over ck -/
def LwS (Y : YG) (x z : Nat) (g : Sg) (ck : Nat) (h : AH) : Prop := Inv g ∧ Pld g ∧ ∃ v w, RepC Y x v g (ZS w g.n) h ∧ RepS Y z w g h ∧ TmO g w.tm w.clk ∧ w.clk ≤ ck
theorem RepC.reZ {Y : YG} {x : Nat} {v : Vw} {g : Sg} {Z Z2 : Nat → Prop} {h : AH} (r : RepC Y x v g Z h) (hz : ∀ i, i < g.n → ¬ Z2 (v.pl i)) : RepC Y x v g Z2 h :=
  ⟨r.x, r.t, r.d, r.cap, fun _ hi => r.fd hi, fun _ hi => r.ev hi, fun _ hi => r.sc hi, fun _ hi => r.pl hi, fun _ _ hi hq => r.fp hi hq, fun _ _ hi hj e => r.inj hi hj e, hz⟩
/-- one more piece -/
def setV (w : Sv) (np q a : Nat) (f2 : Nat → Option Nat) : Sv := (q, w.er, f2, w.fe, uN w.sp np a, w.se, w.tm, w.clk)
theorem RepS.set {Y : YG} {z : Nat} {w : Sv} {g : Sg} {h h2 : AH} (r : RepS Y z w g h) (hn : g.n = 1) (hnow : g.now = 0) {u q a : Nat} {f2 : Nat → Option Nat} {fr : Nat → Int32} (he : Ext h h2) (hq : h2 q = some (aA Y (g.np + 1) f2)) (ha : h2 a = some (aI Y 2 fr)) (f0 : fr 0 = nI (u / 8)) (f1 : fr 1 = nI (u % 8)) (e1 : ∀ i, i < g.np → f2 i = w.fs i) (e2 : f2 g.np = some a) : RepS Y z (setV w g.np q a f2) (stSet g u) (hup h2 z (.inr (4, [.ref q, .ref w.er, .int (nI g.now), .int (nI w.clk)]))) := by
  have hz := he _ _ r.z
  have k : ∀ b c, h2 b = some c → (∀ fs, c ≠ .inr (4, fs)) → hup h2 z (.inr (4, [.ref q, .ref w.er, .int (nI g.now), .int (nI w.clk)])) b = some c := fun b c hb hc => (hup_ne (ne_of hb hz (hc _))).trans hb
  refine ⟨r.1, hup_eq, k _ _ hq (fun fs q => by cases q), k _ _ (he _ _ r.er) (fun fs q => by cases q), fun j hj => ?_, fun e hj => ?_, r.2.2.2.2.2.2⟩
  · have hj' : j < g.np + 1 := hj
    show f2 j = some (uN w.sp g.np a j) ∧ ∃ f, hup h2 z _ (uN w.sp g.np a j) = some (aI Y 2 f) ∧ f 0 = nI (uF g.pos g.now (uN (g.pos g.now) g.np u) 0 j / 8) ∧ f 1 = nI (uF g.pos g.now (uN (g.pos g.now) g.np u) 0 j % 8)
    unfold uF uN
    rw [if_pos hnow.symm]
    by_cases c : j = g.np
    · rw [if_pos c, if_pos c, c]
      exact ⟨e2, fr, k _ _ ha (fun fs q => by cases q), f0, f1⟩
    · rw [if_neg c, if_neg c]
      obtain ⟨a1, f, a2, a3⟩ := r.sp (show j < g.np by omega)
      exact ⟨(e1 j (by omega)).trans a1, f, k _ _ (he _ _ a2) (fun fs q => by cases q), by rw [hnow]; exact a3⟩
  · obtain ⟨a1, f, a2, a3⟩ := r.ev (show e < g.n from hj)
    exact ⟨a1, f, k _ _ (he _ _ a2) (fun fs q => by cases q), a3⟩
/-- one more evening, not yet entered -/
def pshV (w : Sv) (n q a : Nat) (f2 : Nat → Option Nat) : Sv := (w.sr, q, w.fs, f2, w.sp, uN w.se n a, uN w.tm n 0, w.clk)
theorem RepS.psh {Y : YG} {z : Nat} {w : Sv} {g : Sg} {h h2 : AH} (r : RepS Y z w g h) (iv : Inv g) {k0 v0 : Int32} {zz : Nat × (Nat → Nat) × Nat} {q a : Nat} {f2 : Nat → Option Nat} {fr : Nat → Int32} (he : Ext h h2) (hq : h2 q = some (aA Y (g.n + 1) f2)) (han : h a = none) (ha : h2 a = some (aI Y 4 fr)) (f0 : fr 0 = nI g.now) (f1 : fr 1 = k0) (f2' : fr 2 = v0) (f3 : fr 3 = nI 0) (e1 : ∀ i, i < g.n → f2 i = w.fe i) (e2 : f2 g.n = some a) (L : Nat → Option Nat) : RepS Y z (pshV w g.n q a f2) (stM (stPaw g k0 v0 zz) g.now L) (hup h2 z (.inr (4, [.ref w.sr, .ref q, .int (nI g.now), .int (nI w.clk)]))) := by
  have hz := he _ _ r.z
  have hn1 := iv.n1
  have hnow := iv.now
  have k : ∀ b c, h2 b = some c → (∀ fs, c ≠ .inr (4, fs)) → hup h2 z (.inr (4, [.ref w.sr, .ref q, .int (nI g.now), .int (nI w.clk)])) b = some c := fun b c hb hc => (hup_ne (ne_of hb hz (hc _))).trans hb
  have hsa : ∀ e, e < g.n → w.se e ≠ a := fun e hj z2 => by
    obtain ⟨-, f, a2, -⟩ := r.ev hj
    rw [z2, han] at a2
    cases a2
  refine ⟨r.1, hup_eq, k _ _ (he _ _ r.sr) (fun fs q => by cases q), k _ _ hq (fun fs q => by cases q), fun j hj => ?_, fun e hj => ?_, fun i j hi hj => ?_⟩
  · obtain ⟨a1, f, a2, a3, a4⟩ := r.sp (show j < g.np from hj)
    refine ⟨a1, f, k _ _ (he _ _ a2) (fun fs q => by cases q), ?_, ?_⟩
    · show f 0 = nI (uF g.pos g.n zz.2.1 0 j / 8)
      unfold uF
      rw [if_neg (by omega)]
      exact a3
    · show f 1 = nI (uF g.pos g.n zz.2.1 0 j % 8)
      unfold uF
      rw [if_neg (by omega)]
      exact a4
  · have hj' : e < g.n + 1 := hj
    show f2 e = some (uN w.se g.n a e) ∧ ∃ f, hup h2 z _ (uN w.se g.n a e) = some (aI Y 4 f) ∧ f 0 = nO (parO (stPaw g k0 v0 zz) e) ∧ f 1 = uI g.kd g.n k0 e ∧ f 2 = uI g.nm g.n v0 e ∧ f 3 = nI (uN w.tm g.n 0 e)
    unfold uN uI
    by_cases c : e = g.n
    · rw [if_pos c, if_pos c, if_pos c, if_pos c, c]
      refine ⟨e2, fr, k _ _ ha (fun fs q => by cases q), ?_, f1, f2', f3⟩
      rw [f0, parO_p (show 0 < g.n by omega)]
      show nI g.now = nI (ppF g g.n)
      rw [pp_n]
    · rw [if_neg c, if_neg c, if_neg c, if_neg c]
      obtain ⟨a1, f, a2, a3, a4, a5, a6⟩ := r.ev (show e < g.n by omega)
      refine ⟨(e1 e (by omega)).trans a1, f, k _ _ (he _ _ a2) (fun fs q => by cases q), ?_, a4, a5, a6⟩
      rw [a3]
      unfold parO
      split
      · rfl
      · show nI (g.par e) = nI (ppF g e)
        rw [pp_lt (by omega)]
  · have hi' : i < g.n + 1 := hi
    have hj' : j < g.n + 1 := hj
    show uN w.se g.n a i = uN w.se g.n a j → i = j
    unfold uN
    by_cases c1 : i = g.n
    · by_cases c2 : j = g.n
      · intro _; rw [c1, c2]
      · rw [if_pos c1, if_neg c2]
        intro e
        exact absurd e.symm (hsa j (by omega))
    · by_cases c2 : j = g.n
      · rw [if_neg c1, if_pos c2]
        intro e
        exact absurd e (hsa i (by omega))
      · rw [if_neg c1, if_neg c2]
        exact r.inj (by omega) (by omega)
theorem U_undo (l : Launch) (Y : YG) (hfl : l.stackTraces = false) {x : Nat} {v : Vw} {g : Sg} {Z : Nat → Prop} {h : AH} (r : RepC Y x v g Z h) (iv : Inv g) {mm : Nat} (h1 : 1 ≤ mm) (h2 : mm ≤ g.dp g.now) : MX l Y yX2_undo cX2_undo 4 (some .int) 7 110 2 12 [.ref x, .int (nI mm)] h (fun vv h2 => vv = some (.int (nI (upN g.par mm g.now))) ∧ (∃ v2, RepC Y x v2 (stNow g (upN g.par mm g.now)) Z h2) ∧ FrK Y h h2) (noX) := by
  have hD := iv.dp60 iv.now
  refine (K_X2_undo l Y hfl r iv (nI mm)).imp (fun vv h2 hq => ?_) (fun E h2 hq => ?_)
  · obtain ⟨m2, q0, q1, q2, q3, rfl, q4, q5⟩ := hq
    have := (nI_eq (show mm < 2 ^ 31 by omega) (show m2 < 2 ^ 31 by omega)).mp q0
    subst this
    exact ⟨rfl, ⟨v, q4⟩, q5⟩
  · obtain ⟨-, ⟨q1, -⟩ | ⟨m2, q0, q1, q2, q3, -⟩⟩ := hq
    · exact absurd (many_of h1 (by omega)) q1
    · have := (nI_eq (show mm < 2 ^ 31 by omega) (show m2 < 2 ^ 31 by omega)).mp q0
      omega
theorem U_undoX (l : Launch) (Y : YG) (hfl : l.stackTraces = false) {x : Nat} {v : Vw} {g : Sg} {Z : Nat → Prop} {h : AH} (r : RepC Y x v g Z h) (iv : Inv g) {mm : Nat} (h1 : 1 ≤ mm) (h60 : mm ≤ 60) (h2 : g.dp g.now < mm) : MX l Y yX2_undo cX2_undo 4 (some .int) 7 110 2 12 [.ref x, .int (nI mm)] h (fun _ _ => False) (fun E h2 => h2 = h ∧ E = sIS) := by
  refine (K_X2_undo l Y hfl r iv (nI mm)).imp (fun vv h2 hq => ?_) (fun E h2 hq => ?_)
  · obtain ⟨m2, q0, q1, q2, q3, -⟩ := hq
    have := (nI_eq (show mm < 2 ^ 31 by omega) (show m2 < 2 ^ 31 by omega)).mp q0
    omega
  · obtain ⟨q9, ⟨q1, -⟩ | ⟨m2, q0, q1, q2, q3, q4⟩⟩ := hq
    · exact absurd (many_of h1 h60) q1
    · exact ⟨q9, q4⟩
theorem U_redo (l : Launch) (Y : YG) (hfl : l.stackTraces = false) {x : Nat} {v : Vw} {g : Sg} {Z : Nat → Prop} {h : AH} (r : RepC Y x v g Z h) (iv : Inv g) {mm b : Nat} (h1 : 1 ≤ mm) (h60 : mm ≤ 60) (h2 : reF g.last mm g.now = some b) : MX l Y yX2_redo cX2_redo 4 (some .int) 7 110 2 12 [.ref x, .int (nI mm)] h (fun vv h2 => vv = some (.int (nI b)) ∧ (∃ v2, RepC Y x v2 (stNow g b) Z h2) ∧ FrK Y h h2) (noX) := by
  refine (K_X2_redo l Y hfl r iv (nI mm)).imp (fun vv h3 hq => ?_) (fun E h3 hq => ?_)
  · obtain ⟨m2, a, q0, q1, q2, q3, rfl, q4, q5⟩ := hq
    have := (nI_eq (show mm < 2 ^ 31 by omega) (show m2 < 2 ^ 31 by omega)).mp q0
    subst this
    have := Option.some.inj (h2.symm.trans q3)
    subst this
    exact ⟨rfl, ⟨v, q4⟩, q5⟩
  · obtain ⟨-, ⟨q1, -⟩ | ⟨m2, q0, q1, q2, q3, -⟩⟩ := hq
    · exact absurd (many_of h1 h60) q1
    · have := (nI_eq (show mm < 2 ^ 31 by omega) (show m2 < 2 ^ 31 by omega)).mp q0
      subst this
      rw [h2] at q3
      cases q3
theorem U_redoX (l : Launch) (Y : YG) (hfl : l.stackTraces = false) {x : Nat} {v : Vw} {g : Sg} {Z : Nat → Prop} {h : AH} (r : RepC Y x v g Z h) (iv : Inv g) {mm : Nat} (h1 : 1 ≤ mm) (h60 : mm ≤ 60) (hno : reF g.last mm g.now = none) : MX l Y yX2_redo cX2_redo 4 (some .int) 7 110 2 12 [.ref x, .int (nI mm)] h (fun _ _ => False) (fun E h2 => h2 = h ∧ E = sIS) := by
  refine (K_X2_redo l Y hfl r iv (nI mm)).imp (fun vv h2 hq => ?_) (fun E h2 hq => ?_)
  · obtain ⟨m2, a, q0, q1, q2, q3, -⟩ := hq
    have := (nI_eq (show mm < 2 ^ 31 by omega) (show m2 < 2 ^ 31 by omega)).mp q0
    subst this
    rw [hno] at q3
    cases q3
  · obtain ⟨q9, ⟨q1, -⟩ | ⟨m2, q0, q1, q2, q3, q4⟩⟩ := hq
    · exact absurd (many_of h1 h60) q1
    · exact ⟨q9, q4⟩
theorem U_goTo (l : Launch) (Y : YG) (hfl : l.stackTraces = false) {x : Nat} {v : Vw} {g : Sg} {Z : Nat → Prop} {h : AH} (r : RepC Y x v g Z h) (iv : Inv g) {j : Nat} (hj : j < g.n) : MX l Y yX2_goTo cX2_goTo 4 (some .int) 7 111 1 6 [.ref x, .int (nI j)] h (fun vv h2 => vv = some (.int (nI (wy g g.now j))) ∧ (∃ v2, RepC Y x v2 (stGo g j) Z h2) ∧ FrK Y h h2) (noX) := by
  have hn60 := iv.n60
  have ej := idx_nI (n := g.n) (by omega) hj
  refine (K_X2_goTo l Y hfl r iv (nI j)).imp (fun vv h2 hq => ?_) (fun E h2 hq => ?_)
  · obtain ⟨j2, q1, rfl, q4, q5⟩ := hq
    rw [ej] at q1
    cases q1
    exact ⟨rfl, ⟨v, q4⟩, q5⟩
  · obtain ⟨-, q1, -⟩ := hq
    rw [ej] at q1
    cases q1
theorem onB_lt {c r : Nat} (hc : c < 8) (hr : r < 8) : onB (nI c) (nI r) = true ∧ (nI c * nI 8 + nI r).toNatClampNeg = 8 * c + r := by
  have h : ∀ c, c < 8 → ∀ r, r < 8 → onB (nI c) (nI r) = true := by decide +kernel
  refine ⟨h c hc r hr, ?_⟩
  rw [pk_mul, nI_add, nI_clamp (by omega)]
  omega
theorem U_set (l : Launch) (Y : YG) (hfl : l.stackTraces = false) {x : Nat} {v : Vw} {g : Sg} {Z : Nat → Prop} {h : AH} (r : RepC Y x v g Z h) (iv : Inv g) (hZ : ∀ a, Z a → h a ≠ none) {u : Nat} (hu : u < 64) (hnp : g.np < 16) (hn : g.n = 1) (hp : pon (g.pos g.now) u g.np 0 = none) : MX l Y yX2_setPiece cX2_setPiece 5 (some .int) 7 111 3 26 [.ref x, .int (nI (u / 8)), .int (nI (u % 8))] h (fun vv h2 => vv = some (.int (nI g.np)) ∧ (∃ v2, RepC Y x v2 (stSet g u) Z h2) ∧ FrK Y h h2) (noX) := by
  obtain ⟨o1, o2⟩ := onB_lt (c := u / 8) (r := u % 8) (by omega) (by omega)
  have o3 : (nI (u / 8) * nI 8 + nI (u % 8)).toNatClampNeg = u := by omega
  refine (K_X2_setPiece l Y hfl r iv hZ (nI (u / 8)) (nI (u % 8))).imp (fun vv h2 hq => ?_) (fun E h2 hq => ?_)
  · rw [o3] at hq
    obtain ⟨q1, q2, rfl, v2, q4, q5⟩ := hq
    exact ⟨rfl, ⟨v2, q4⟩, q5⟩
  · rw [o3] at hq
    obtain ⟨-, ⟨q1, -⟩ | ⟨q1, q2, -⟩⟩ := hq
    · rw [o1] at q1; cases q1
    · exact q2 ⟨hnp, hn, hp⟩
theorem isp_of {k w : Nat} (hk : k < 4) (hw : w < 16) (hw8 : k = 0 ∨ k = 3 → w < 8) : ispB (nI k) (nI w) = true := by
  have h8 : ∀ w, w < 8 → in8 (nI w) = true := by decide +kernel
  have h16 : ∀ w, w < 16 → in16 (nI w) = true := by decide +kernel
  have : k = 0 ∨ k = 1 ∨ k = 2 ∨ k = 3 := by omega
  rcases this with rfl | rfl | rfl | rfl
  · exact h8 w (hw8 (Or.inl rfl))
  · exact h16 w hw
  · exact h16 w hw
  · exact h8 w (hw8 (Or.inr rfl))
theorem U_can (l : Launch) (Y : YG) (hfl : l.stackTraces = false) {x : Nat} {v : Vw} {g : Sg} {Z : Nat → Prop} {h : AH} (r : RepC Y x v g Z h) (iv : Inv g) {k w : Nat} (hk : k < 4) (hw : w < 16) (hw8 : k = 0 ∨ k = 3 → w < 8) : MX l Y yX2_canDo cX2_canDo 3 (some .boolean) 7 128 2 19 [.ref x, .int (nI k), .int (nI w)] h (fun vv h2 => vv = some (bI (nxt g.np (g.ct g.now) (g.pos g.now) (g.lb g.now) k w).isSome) ∧ Ext h h2) (noX) := by
  have e1 := isp_of hk hw hw8
  refine (K_X2_canDo l Y hfl r iv (nI k) (nI w)).imp (fun vv h2 hq => ?_) (fun E h2 hq => ?_)
  · obtain ⟨-, q2, q3⟩ := hq
    rw [pawO_N g hk hw] at q2
    exact ⟨q2, q3⟩
  · obtain ⟨-, q1, -⟩ := hq
    rw [e1] at q1
    cases q1
theorem U_paw (l : Launch) (Y : YG) (hfl : l.stackTraces = false) {x : Nat} {v : Vw} {g : Sg} {Z : Nat → Prop} {h : AH} (r : RepC Y x v g Z h) (iv : Inv g) (hZ : ∀ a, Z a → h a ≠ none) {k w : Nat} (hk : k < 4) (hw : w < 16) (hw8 : k = 0 ∨ k = 3 → w < 8) {zz : Nat × (Nat → Nat) × Nat} (hz : nxt g.np (g.ct g.now) (g.pos g.now) (g.lb g.now) k w = some zz) (hn : g.n < 60) : MX l Y yX2_paw cX2_paw 5 (some .int) 7 176 4 140 [.ref x, .int (nI k), .int (nI w)] h (fun vv h2 => vv = some (.int (nI g.n)) ∧ (∃ v2, RepC Y x v2 (stPaw g (nI k) (nI w) zz) Z h2) ∧ FrK Y h h2) (noX) := by
  have e1 := isp_of hk hw hw8
  have e2 := (pawO_N g hk hw).trans hz
  refine (K_X2_paw l Y hfl r iv hZ (nI k) (nI w)).imp (fun vv h2 hq => ?_) (fun E h2 hq => ?_)
  · obtain ⟨-, -, rfl, z1, v2, q3, q4, q5⟩ := hq
    rw [e2] at q3
    cases q3
    exact ⟨rfl, ⟨v2, q4⟩, q5⟩
  · obtain ⟨-, ⟨q1, -⟩ | ⟨-, q2 | q2, -⟩⟩ := hq
    · rw [e1] at q1; cases q1
    · rw [e2] at q2; cases q2
    · omega
theorem U_pawX (l : Launch) (Y : YG) (hfl : l.stackTraces = false) {x : Nat} {v : Vw} {g : Sg} {Z : Nat → Prop} {h : AH} (r : RepC Y x v g Z h) (iv : Inv g) (hZ : ∀ a, Z a → h a ≠ none) {k w : Nat} (hk : k < 4) (hw : w < 16) (hw8 : k = 0 ∨ k = 3 → w < 8) (hz : nxt g.np (g.ct g.now) (g.pos g.now) (g.lb g.now) k w = none ∨ g.n = 60) : MX l Y yX2_paw cX2_paw 5 (some .int) 7 176 4 140 [.ref x, .int (nI k), .int (nI w)] h (fun _ _ => False) (fun E h2 => Ext h h2 ∧ E = sIS) := by
  have e1 := isp_of hk hw hw8
  refine (K_X2_paw l Y hfl r iv hZ (nI k) (nI w)).imp (fun vv h2 hq => ?_) (fun E h2 hq => ?_)
  · obtain ⟨-, q1, -, z1, v2, q3, -⟩ := hq
    rw [pawO_N g hk hw] at q3
    rcases hz with hz | hz
    · rw [hz] at q3; cases q3
    · omega
  · obtain ⟨q9, ⟨q1, -⟩ | ⟨-, -, q3⟩⟩ := hq
    · rw [e1] at q1; cases q1
    · exact ⟨q9, q3⟩
