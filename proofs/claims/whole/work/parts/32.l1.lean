def qR (g : Sg) (o : Option Int32) : Res := match o with
  | some w => (nI 0, w, g)
  | none => (nI 1, nI 0, g)
def okC (Y : YG) (x : Nat) (Z : Nat → Prop) (h : AH) (g2 : Sg) : AH → Prop := fun h2 => (∃ v2, RepC Y x v2 g2 Z h2) ∧ FrK h h2
def cP (Y : YG) (x : Nat) (Z : Nat → Prop) (h : AH) (R : Res) : Option Value → AH → Prop := fun vv h2 => R.1 = nI 0 ∧ vv = some (.int R.2.1) ∧ okC Y x Z h R.2.2 h2
def cX (Y : YG) (x : Nat) (Z : Nat → Prop) (h : AH) (R : Res) (E1 : String) : String → AH → Prop := fun E h2 => ((R.1 = nI 1 ∧ E = E1) ∨ (R.1 = nI 2 ∧ E = sIS)) ∧ okC Y x Z h R.2.2 h2
/-- behind a try: its number, out, the state -/
def pW (Y : YG) (x : Nat) (Z : Nat → Prop) (ob : Nat) (h : AH) (R : Res) : Option Value → AH → Prop := fun vv h2 => vv = some (.int R.1) ∧ ∃ h1 fo2, okC Y x Z h R.2.2 h1 ∧ h2 = hup h1 ob (aJ Y 1 fo2) ∧ (R.1 = nI 0 → fo2 0 = R.2.1.toInt64)
theorem MX.q {l : Launch} {Y : YG} {y : MethodName} {cc : ByteArray} {maxL : Nat} {ret : Option FieldType} {f L mc ms : Nat} {As : List Value} {x : Nat} {v : Vw} {g : Sg} {Z : Nat → Prop} {h : AH} (r : RepC Y x v g Z h) {o : Option Int32} {E1 : String} (hM : MX l Y y cc maxL ret f L mc ms As h (pO o h) (xO E1 o h)) : MX l Y y cc maxL ret f L mc ms As h (cP Y x Z h (qR g o)) (cX Y x Z h (qR g o) E1) := by
  refine hM.imp (fun vv h2 hq => ?_) (fun E h2 hq => ?_)
  · obtain ⟨w, rfl, rfl, rfl⟩ := hq
    exact ⟨rfl, rfl, ⟨v, r⟩, FrK.rf⟩
  · obtain ⟨rfl, rfl, rfl⟩ := hq
    exact ⟨Or.inl ⟨rfl, rfl⟩, ⟨v, r⟩, FrK.rf⟩
theorem MX.mq {l : Launch} {Y : YG} {y : MethodName} {cc : ByteArray} {maxL : Nat} {ret : Option FieldType} {f L mc ms : Nat} {As : List Value} {x : Nat} {th : Int32} {ar : Nat → Nat} {f0 : Nat → Nat → Int32} {g : Sg} {h : AH} (r : RepM Y x th ar f0 g h) {o : Option Int32} (hM : MX l Y y cc maxL ret f L mc ms As h (pM x ar g h o) noX) : MX l Y y cc maxL ret f L mc ms As h (pMu Y x ar h (qR g o)) noX := by
  refine hM.imp (fun vv h2 hq => ?_) (fun E h2 hq => hq)
  obtain ⟨rfl, rfl⟩ := hq
  cases o with
  | none => exact ⟨rfl, f0, r.th _, FrM.x⟩
  | some w => exact ⟨rfl, f0, r.th _, FrM.x⟩
theorem MX.mc {l : Launch} {Y : YG} {y : MethodName} {cc : ByteArray} {maxL : Nat} {ret : Option FieldType} {f L mc ms : Nat} {As : List Value} {x : Nat} {ar : Nat → Nat} {g : Sg} {h : AH} {o : Option Int32} (hM : MX l Y y cc maxL ret f L mc ms As h (pCd Y x ar g h o) noX) : MX l Y y cc maxL ret f L mc ms As h (pMu Y x ar h (qR g o)) noX := by
  refine hM.imp (fun vv h2 hq => ?_) (fun E h2 hq => hq)
  obtain ⟨rfl, hr⟩ := hq
  cases o with
  | none => exact ⟨rfl, hr⟩
  | some w => exact ⟨rfl, hr⟩
/-- a body with a table -/
theorem MW.of {l : Launch} {Y : YG} {y : MethodName} {cc : ByteArray} {maxL : Nat} {ret : Option FieldType} {hh : List (Nat × Nat × Nat × Nat)} {f L mc ms : Nat} {As : List Value} {h : AH} {post : Option Value → AH → Prop} (hy : plainName y.cls = true) (hLL : (lg_sl As).length ≤ maxL)
    (body : ∀ p e s m args below meth c, Cx p s m args meth c Y cc maxL y.cls → meth.sig.returnType = ret → c.exceptionTable.toList = tableOf hh → Gd p l e (rmO f L mc ms) s m args below meth c (vx_MQ below (Qk Y post) (Xk Y noX) args s mc ms Y.A) Y maxL 0 (lent As maxL) [] h 0 0) : MW l Y y cc maxL ret hh f L mc ms As h post := by
  refine met_of_vx (XC := Xk Y noX) (fun E st t hx => by obtain ⟨⟨h', hf, -⟩, -⟩ := hx; exact hf) (vx_ofWH (cc := cc) (maxL := maxL) (ret := ret) (hh := hh) hy rfl ?_)
  intro p e s m args below meth c s₁ B hml hv
  obtain ⟨rfl, hc, hA, hK, hF⟩ := hv
  have hts0 := atoms_spec (ws := Cond.codeWith y cc maxL ret hh :: AllW) B.pre
  have htb := vx_table (x := y) B (hts0 _ List.mem_cons_self)
  rw [lg_entry_eq]
  exact body p e s m _ below meth c ⟨B.exec, B.bytes, hml, findClass_of_methodNamed B.named, fun w hw => hts0 w (List.mem_cons_of_mem _ hw), hK, hF, hA, B.notSynchronized⟩ B.returns htb s.heap [] _ hc va_S.rf (lh.entry As hLL)
section GD
variable {p : Program} {l : Launch} {e : Env} {R : Room} {s : State} {m : MethodId} {args : Array Value} {below : List Frame} {meth : Method} {c : Code} {Q : State → Prop} {Y : YG} {nL : Nat} {cc : ByteArray} {own : String} {pc : Nat} {lv : List (Option Value)} {st : List Value} {h : AH} {k n : Nat}
theorem g_catch (C : Cx p s m args meth c Y cc nL own) {E nm : String} (pre : List ExceptionTableEntry) (x : ExceptionTableEntry) (suf : List ExceptionTableEntry) (hsplit : c.exceptionTable.toList = pre ++ x :: suf)
    (hpass : ∀ z ∈ pre, covers z pc = false ∨ (z.catchType ≠ 0 ∧ ∃ nm : String, Cond.classLink own z.catchType nm ∈ AllW ∧ va_Nc E nm s)) (hx : covers x pc = true) (h0 : x.catchType ≠ 0) (hlink : Cond.classLink own x.catchType nm ∈ AllW) (hca : va_Ca E nm s)
    (kk : ∀ q, Gd p l e R s m args below meth c Q Y nL x.handlerPc lv [.ref q] h k n) : Gx p l e R s m args below meth c Q Y nL pc lv st h k n E := by
  obtain ⟨hxx, hb, hml, hown, hts, hK, -, hA, -⟩ := C
  intro H locs ls q ce hc hS hl hq hv hcl
  exact vx_catch hown pre x suf hsplit (fun z hz => (hpass z hz).imp id (fun ⟨a, nm, b1, b2⟩ => ⟨a, nm, hts _ b1, b2⟩)) hx h0 (hts _ hlink) (va_Ca.use (A := args) hca) hq hv hcl (kk q H locs ls hc hS hl)
end GD
theorem C_placeOf (l : Launch) (Y : YG) (hfl : l.stackTraces = false) {x : Nat} {v : Vw} {g : Sg} {Z : Nat → Prop} {h : AH} (r : RepC Y x v g Z h) (iv : Inv g) (hZ : ∀ a, Z a → h a ≠ none) (i : Int32) : MX l Y yX2_placeOf cX2_placeOf 2 (some .int) 7 111 1 6 [.ref x, .int i] h (cP Y x Z h (qR g ((idx g.np i).map (fun q => nI (g.pos g.now q))))) (cX Y x Z h (qR g ((idx g.np i).map (fun q => nI (g.pos g.now q)))) sIO) := MX.q r (K_X2_placeOf l Y hfl r iv i)
theorem C_lies (l : Launch) (Y : YG) (hfl : l.stackTraces = false) {x : Nat} {v : Vw} {g : Sg} {Z : Nat → Prop} {h : AH} (r : RepC Y x v g Z h) (iv : Inv g) (hZ : ∀ a, Z a → h a ≠ none) (i : Int32) : MX l Y yX2_lies cX2_lies 2 (some .boolean) 6 90 1 6 [.ref x, .int i] h (cP Y x Z h (qR g ((idx g.np i).map (fun q => if (g.lb g.now).testBit q then 1 else 0)))) (cX Y x Z h (qR g ((idx g.np i).map (fun q => if (g.lb g.now).testBit q then 1 else 0))) sIO) := MX.q r (K_X2_lies l Y hfl r iv i)
theorem C_pieceAt (l : Launch) (Y : YG) (hfl : l.stackTraces = false) {x : Nat} {v : Vw} {g : Sg} {Z : Nat → Prop} {h : AH} (r : RepC Y x v g Z h) (iv : Inv g) (hZ : ∀ a, Z a → h a ≠ none) (i j : Int32) : MX l Y yX2_pieceAt cX2_pieceAt 3 (some .int) 7 111 1 6 [.ref x, .int i, .int j] h (cP Y x Z h (qR g (if onB i j = true then some (nO (pon (g.pos g.now) ((i * nI 8 + j).toNatClampNeg) g.np 0)) else none))) (cX Y x Z h (qR g (if onB i j = true then some (nO (pon (g.pos g.now) ((i * nI 8 + j).toNatClampNeg) g.np 0)) else none)) sIA) := MX.q r (K_X2_pieceAt l Y hfl r iv i j)
theorem C_hangsOn (l : Launch) (Y : YG) (hfl : l.stackTraces = false) {x : Nat} {v : Vw} {g : Sg} {Z : Nat → Prop} {h : AH} (r : RepC Y x v g Z h) (iv : Inv g) (hZ : ∀ a, Z a → h a ≠ none) (i : Int32) : MX l Y yX2_hangsOn cX2_hangsOn 2 (some .int) 7 111 1 6 [.ref x, .int i] h (cP Y x Z h (qR g ((idx g.n i).map (fun j => nO (parO g j))))) (cX Y x Z h (qR g ((idx g.n i).map (fun j => nO (parO g j)))) sIO) := MX.q r (K_X2_hangsOn l Y hfl r iv i)
theorem C_kindOf (l : Launch) (Y : YG) (hfl : l.stackTraces = false) {x : Nat} {v : Vw} {g : Sg} {Z : Nat → Prop} {h : AH} (r : RepC Y x v g Z h) (iv : Inv g) (hZ : ∀ a, Z a → h a ≠ none) (i : Int32) : MX l Y yX2_kindOf cX2_kindOf 2 (some .int) 7 111 1 6 [.ref x, .int i] h (cP Y x Z h (qR g ((idx g.n i).map (fun j => g.kd j)))) (cX Y x Z h (qR g ((idx g.n i).map (fun j => g.kd j))) sIO) := MX.q r (K_X2_kindOf l Y hfl r iv i)
theorem C_numberOf (l : Launch) (Y : YG) (hfl : l.stackTraces = false) {x : Nat} {v : Vw} {g : Sg} {Z : Nat → Prop} {h : AH} (r : RepC Y x v g Z h) (iv : Inv g) (hZ : ∀ a, Z a → h a ≠ none) (i : Int32) : MX l Y yX2_numberOf cX2_numberOf 2 (some .int) 7 111 1 6 [.ref x, .int i] h (cP Y x Z h (qR g ((idx g.n i).map (fun j => g.nm j)))) (cX Y x Z h (qR g ((idx g.n i).map (fun j => g.nm j))) sIO) := MX.q r (K_X2_numberOf l Y hfl r iv i)
theorem C_depthOf (l : Launch) (Y : YG) (hfl : l.stackTraces = false) {x : Nat} {v : Vw} {g : Sg} {Z : Nat → Prop} {h : AH} (r : RepC Y x v g Z h) (iv : Inv g) (hZ : ∀ a, Z a → h a ≠ none) (i : Int32) : MX l Y yX2_depthOf cX2_depthOf 2 (some .int) 7 111 1 6 [.ref x, .int i] h (cP Y x Z h (qR g ((idx g.n i).map (fun j => nI (g.dp j))))) (cX Y x Z h (qR g ((idx g.n i).map (fun j => nI (g.dp j)))) sIO) := MX.q r (K_X2_depthOf l Y hfl r iv i)
theorem C_branches (l : Launch) (Y : YG) (hfl : l.stackTraces = false) {x : Nat} {v : Vw} {g : Sg} {Z : Nat → Prop} {h : AH} (r : RepC Y x v g Z h) (iv : Inv g) (hZ : ∀ a, Z a → h a ≠ none) (i : Int32) : MX l Y yX2_branches cX2_branches 2 (some .int) 7 111 1 6 [.ref x, .int i] h (cP Y x Z h (qR g ((idx g.n i).map (fun j => nI (chN g.par g.n j))))) (cX Y x Z h (qR g ((idx g.n i).map (fun j => nI (chN g.par g.n j)))) sIO) := MX.q r (K_X2_branches l Y hfl r iv i)
theorem C_behind (l : Launch) (Y : YG) (hfl : l.stackTraces = false) {x : Nat} {v : Vw} {g : Sg} {Z : Nat → Prop} {h : AH} (r : RepC Y x v g Z h) (iv : Inv g) (hZ : ∀ a, Z a → h a ≠ none) (i : Int32) : MX l Y yX2_behind cX2_behind 2 (some .int) 7 111 1 6 [.ref x, .int i] h (cP Y x Z h (qR g ((idx g.n i).map (fun j => nI (dsN g.par g.n j))))) (cX Y x Z h (qR g ((idx g.n i).map (fun j => nI (dsN g.par g.n j)))) sIO) := MX.q r (K_X2_behind l Y hfl r iv i)
theorem C_again (l : Launch) (Y : YG) (hfl : l.stackTraces = false) {x : Nat} {v : Vw} {g : Sg} {Z : Nat → Prop} {h : AH} (r : RepC Y x v g Z h) (iv : Inv g) (hZ : ∀ a, Z a → h a ≠ none) (i : Int32) : MX l Y yX2_again cX2_again 2 (some .int) 7 111 1 6 [.ref x, .int i] h (cP Y x Z h (qR g ((idx g.n i).map (fun j => nO (g.last j))))) (cX Y x Z h (qR g ((idx g.n i).map (fun j => nO (g.last j)))) sIO) := MX.q r (K_X2_again l Y hfl r iv i)
theorem C_meet (l : Launch) (Y : YG) (hfl : l.stackTraces = false) {x : Nat} {v : Vw} {g : Sg} {Z : Nat → Prop} {h : AH} (r : RepC Y x v g Z h) (iv : Inv g) (hZ : ∀ a, Z a → h a ≠ none) (i j : Int32) : MX l Y yX2_meet cX2_meet 3 (some .int) 7 111 2 12 [.ref x, .int i, .int j] h (cP Y x Z h (qR g ((idx g.n i).bind (fun a => (idx g.n j).map (fun b => nI (lc g.par a b)))))) (cX Y x Z h (qR g ((idx g.n i).bind (fun a => (idx g.n j).map (fun b => nI (lc g.par a b))))) sIO) := MX.q r (K_X2_meet l Y hfl r iv i j)
theorem C_apart (l : Launch) (Y : YG) (hfl : l.stackTraces = false) {x : Nat} {v : Vw} {g : Sg} {Z : Nat → Prop} {h : AH} (r : RepC Y x v g Z h) (iv : Inv g) (hZ : ∀ a, Z a → h a ≠ none) (i j : Int32) : MX l Y yX2_apart cX2_apart 3 (some .int) 7 111 2 12 [.ref x, .int i, .int j] h (cP Y x Z h (qR g ((idx g.n i).bind (fun a => (idx g.n j).map (fun b => nI (wy g a b)))))) (cX Y x Z h (qR g ((idx g.n i).bind (fun a => (idx g.n j).map (fun b => nI (wy g a b))))) sIO) := MX.q r (K_X2_apart l Y hfl r iv i j)
theorem C_placeIn (l : Launch) (Y : YG) (hfl : l.stackTraces = false) {x : Nat} {v : Vw} {g : Sg} {Z : Nat → Prop} {h : AH} (r : RepC Y x v g Z h) (iv : Inv g) (hZ : ∀ a, Z a → h a ≠ none) (i j : Int32) : MX l Y yX2_placeIn cX2_placeIn 5 (some .int) 7 111 2 12 [.ref x, .int i, .int j] h (cP Y x Z h (qR g ((idx g.n i).bind (fun a => (idx g.np j).map (fun q => nI (g.pos a q + if (g.lb a).testBit q then 100 else 0)))))) (cX Y x Z h (qR g ((idx g.n i).bind (fun a => (idx g.np j).map (fun q => nI (g.pos a q + if (g.lb a).testBit q then 100 else 0))))) sIO) := MX.q r (K_X2_placeIn l Y hfl r iv i j)
theorem C_lyingIn (l : Launch) (Y : YG) (hfl : l.stackTraces = false) {x : Nat} {v : Vw} {g : Sg} {Z : Nat → Prop} {h : AH} (r : RepC Y x v g Z h) (iv : Inv g) (hZ : ∀ a, Z a → h a ≠ none) (i : Int32) : MX l Y yX2_lyingIn cX2_lyingIn 2 (some .int) 7 111 1 6 [.ref x, .int i] h (cP Y x Z h (qR g ((idx g.n i).map (fun j => nI (lyN g j))))) (cX Y x Z h (qR g ((idx g.n i).map (fun j => nI (lyN g j)))) sIO) := MX.q r (K_X2_lyingIn l Y hfl r iv i)
theorem C_areAlike (l : Launch) (Y : YG) (hfl : l.stackTraces = false) {x : Nat} {v : Vw} {g : Sg} {Z : Nat → Prop} {h : AH} (r : RepC Y x v g Z h) (iv : Inv g) (hZ : ∀ a, Z a → h a ≠ none) (i j : Int32) : MX l Y yX2_areAlike cX2_areAlike 5 (some .boolean) 7 111 2 12 [.ref x, .int i, .int j] h (cP Y x Z h (qR g ((idx g.n i).bind (fun a => (idx g.n j).map (fun b => (if lkB g a b then 1 else 0)))))) (cX Y x Z h (qR g ((idx g.n i).bind (fun a => (idx g.n j).map (fun b => (if lkB g a b then 1 else 0))))) sIO) := MX.q r (K_X2_areAlike l Y hfl r iv i j)
theorem C_canDo (l : Launch) (Y : YG) (hfl : l.stackTraces = false) {x : Nat} {v : Vw} {g : Sg} {Z : Nat → Prop} {h : AH} (r : RepC Y x v g Z h) (iv : Inv g) (hZ : ∀ a, Z a → h a ≠ none) (i j : Int32) : MX l Y yX2_canDo cX2_canDo 3 (some .boolean) 7 128 2 19 [.ref x, .int i, .int j] h (cP Y x Z h (qR g (cdO g i j))) (cX Y x Z h (qR g (cdO g i j)) sIA) := by
  refine (K_X2_canDo l Y hfl r iv i j).imp (fun vv h2 hq => ?_) (fun E h2 hq => ?_)
  · obtain ⟨q1, rfl, q3⟩ := hq
    rw [show cdO g i j = some (if (pawO g i j).isSome = true then 1 else 0) from if_pos q1]
    exact ⟨rfl, rfl, ⟨v, r.ext q3⟩, Ext.K q3⟩
  · obtain ⟨rfl, q1, rfl⟩ := hq
    rw [show cdO g i j = none from if_neg (by rw [q1]; decide)]
    exact ⟨Or.inl ⟨rfl, rfl⟩, ⟨v, r⟩, FrK.rf⟩
theorem C_setPiece (l : Launch) (Y : YG) (hfl : l.stackTraces = false) {x : Nat} {v : Vw} {g : Sg} {Z : Nat → Prop} {h : AH} (r : RepC Y x v g Z h) (iv : Inv g) (hZ : ∀ a, Z a → h a ≠ none) (i j : Int32) : MX l Y yX2_setPiece cX2_setPiece 5 (some .int) 7 111 3 26 [.ref x, .int i, .int j] h (cP Y x Z h (rSet g i j)) (cX Y x Z h (rSet g i j) sIA) := by
  refine (K_X2_setPiece l Y hfl r iv hZ i j).imp (fun vv h2 hq => ?_) (fun E h2 hq => ?_)
  · obtain ⟨q1, q2, rfl, v2, q4, q5⟩ := hq
    rw [show rSet g i j = (nI 0, nI g.np, stSet g (i * nI 8 + j).toNatClampNeg) from by unfold rSet; rw [if_pos q1, if_pos q2]]
    exact ⟨rfl, rfl, ⟨v2, q4⟩, q5⟩
  · obtain ⟨rfl, ⟨q1, rfl⟩ | ⟨q1, q2, rfl⟩⟩ := hq
    · rw [show rSet g i j = (nI 1, nI 0, g) from by unfold rSet; rw [if_neg (by rw [q1]; decide)]]
      exact ⟨Or.inl ⟨rfl, rfl⟩, ⟨v, r⟩, FrK.rf⟩
    · rw [show rSet g i j = (nI 2, nI 0, g) from by unfold rSet; rw [if_pos q1, if_neg q2]]
      exact ⟨Or.inr ⟨rfl, rfl⟩, ⟨v, r⟩, FrK.rf⟩
theorem C_paw (l : Launch) (Y : YG) (hfl : l.stackTraces = false) {x : Nat} {v : Vw} {g : Sg} {Z : Nat → Prop} {h : AH} (r : RepC Y x v g Z h) (iv : Inv g) (hZ : ∀ a, Z a → h a ≠ none) (i j : Int32) : MX l Y yX2_paw cX2_paw 5 (some .int) 7 176 4 140 [.ref x, .int i, .int j] h (cP Y x Z h (rPaw g i j)) (cX Y x Z h (rPaw g i j) sIA) := by
  refine (K_X2_paw l Y hfl r iv hZ i j).imp (fun vv h2 hq => ?_) (fun E h2 hq => ?_)
  · obtain ⟨q1, q2, rfl, z, v2, q3, q4, q5⟩ := hq
    rw [show rPaw g i j = (nI 0, nI g.n, stPaw g i j z) from by unfold rPaw; rw [if_pos q1, q3]; exact if_pos q2]
    exact ⟨rfl, rfl, ⟨v2, q4⟩, q5⟩
  · obtain ⟨qe, ⟨q1, rfl⟩ | ⟨q1, q2, rfl⟩⟩ := hq
    · rw [show rPaw g i j = (nI 1, nI 0, g) from by unfold rPaw; rw [if_neg (by rw [q1]; decide)]]
      exact ⟨Or.inl ⟨rfl, rfl⟩, ⟨v, r.ext qe⟩, Ext.K qe⟩
    · rw [show rPaw g i j = (nI 2, nI 0, g) from by
        unfold rPaw
        rw [if_pos q1]
        rcases q2 with q2 | q2
        · rw [q2]
        · cases pawO g i j with
          | none => rfl
          | some z => exact if_neg (by omega)]
      exact ⟨Or.inr ⟨rfl, rfl⟩, ⟨v, r.ext qe⟩, Ext.K qe⟩
theorem C_undo (l : Launch) (Y : YG) (hfl : l.stackTraces = false) {x : Nat} {v : Vw} {g : Sg} {Z : Nat → Prop} {h : AH} (r : RepC Y x v g Z h) (iv : Inv g) (hZ : ∀ a, Z a → h a ≠ none) (i : Int32) : MX l Y yX2_undo cX2_undo 4 (some .int) 7 110 2 12 [.ref x, .int i] h (cP Y x Z h (rUndo g i)) (cX Y x Z h (rUndo g i) sIA) := by
  have hD := iv.dp60 iv.now
  refine (K_X2_undo l Y hfl r iv i).imp (fun vv h2 hq => ?_) (fun E h2 hq => ?_)
  · obtain ⟨mm, rfl, q1, q2, q3, rfl, q4, q5⟩ := hq
    rw [show rUndo g (nI mm) = (nI 0, nI (upN g.par mm g.now), stNow g (upN g.par mm g.now)) from by unfold rUndo; rw [if_pos (many_of q1 q2), nI_clamp (by omega), if_pos q3]]
    exact ⟨rfl, rfl, ⟨v, q4⟩, q5⟩
  · obtain ⟨rfl, ⟨q1, rfl⟩ | ⟨mm, rfl, q1, q2, q3, rfl⟩⟩ := hq
    · rw [show rUndo g i = (nI 1, nI 0, g) from by unfold rUndo; rw [if_neg q1]]
      exact ⟨Or.inl ⟨rfl, rfl⟩, ⟨v, r⟩, FrK.rf⟩
    · rw [show rUndo g (nI mm) = (nI 2, nI 0, g) from by unfold rUndo; rw [if_pos (many_of q1 q2), nI_clamp (by omega), if_neg (by omega)]]
      exact ⟨Or.inr ⟨rfl, rfl⟩, ⟨v, r⟩, FrK.rf⟩
theorem C_redo (l : Launch) (Y : YG) (hfl : l.stackTraces = false) {x : Nat} {v : Vw} {g : Sg} {Z : Nat → Prop} {h : AH} (r : RepC Y x v g Z h) (iv : Inv g) (hZ : ∀ a, Z a → h a ≠ none) (i : Int32) : MX l Y yX2_redo cX2_redo 4 (some .int) 7 110 2 12 [.ref x, .int i] h (cP Y x Z h (rRedo g i)) (cX Y x Z h (rRedo g i) sIA) := by
  refine (K_X2_redo l Y hfl r iv i).imp (fun vv h2 hq => ?_) (fun E h2 hq => ?_)
  · obtain ⟨mm, a, rfl, q1, q2, q3, rfl, q4, q5⟩ := hq
    rw [show rRedo g (nI mm) = (nI 0, nI a, stNow g a) from by unfold rRedo; rw [if_pos (many_of q1 q2), nI_clamp (by omega), q3]]
    exact ⟨rfl, rfl, ⟨v, q4⟩, q5⟩
  · obtain ⟨rfl, ⟨q1, rfl⟩ | ⟨mm, rfl, q1, q2, q3, rfl⟩⟩ := hq
    · rw [show rRedo g i = (nI 1, nI 0, g) from by unfold rRedo; rw [if_neg q1]]
      exact ⟨Or.inl ⟨rfl, rfl⟩, ⟨v, r⟩, FrK.rf⟩
    · rw [show rRedo g (nI mm) = (nI 2, nI 0, g) from by unfold rRedo; rw [if_pos (many_of q1 q2), nI_clamp (by omega), q3]]
      exact ⟨Or.inr ⟨rfl, rfl⟩, ⟨v, r⟩, FrK.rf⟩
theorem C_goTo (l : Launch) (Y : YG) (hfl : l.stackTraces = false) {x : Nat} {v : Vw} {g : Sg} {Z : Nat → Prop} {h : AH} (r : RepC Y x v g Z h) (iv : Inv g) (hZ : ∀ a, Z a → h a ≠ none) (i : Int32) : MX l Y yX2_goTo cX2_goTo 4 (some .int) 7 111 1 6 [.ref x, .int i] h (cP Y x Z h (rGo g i)) (cX Y x Z h (rGo g i) sIO) := by
  refine (K_X2_goTo l Y hfl r iv i).imp (fun vv h2 hq => ?_) (fun E h2 hq => ?_)
  · obtain ⟨j, q1, rfl, q4, q5⟩ := hq
    rw [show rGo g i = (nI 0, nI (wy g g.now j), stGo g j) from by unfold rGo; rw [q1]]
    exact ⟨rfl, rfl, ⟨v, q4⟩, q5⟩
  · obtain ⟨rfl, q1, rfl⟩ := hq
    rw [show rGo g i = (nI 1, nI 0, g) from by unfold rGo; rw [q1]]
    exact ⟨Or.inl ⟨rfl, rfl⟩, ⟨v, r⟩, FrK.rf⟩
theorem nq2 {g : Sg} {o : Option Int32} : ¬ (qR g o).1 = nI 2 := by
  cases o
  · show ¬ nI 1 = nI 2
    decide
  · show ¬ nI 0 = nI 2
    decide
theorem ng2 {g : Sg} {i : Int32} : ¬ (rGo g i).1 = nI 2 := by
  unfold rGo
  cases idx g.n i
  · show ¬ nI 1 = nI 2
    decide
  · show ¬ nI 0 = nI 2
    decide
theorem bo_1 {g : Sg} {o : Option Nat} {P : Nat → Bool} : (qR g (o.map (fun q => if P q = true then 1 else 0))).2.1 = 0 ∨ (qR g (o.map (fun q => if P q = true then 1 else 0))).2.1 = 1 := by
  cases o with
  | none => exact Or.inl rfl
  | some q =>
    show (if P q = true then (1 : Int32) else 0) = 0 ∨ (if P q = true then (1 : Int32) else 0) = 1
    cases P q
    · exact Or.inl rfl
    · exact Or.inr rfl
theorem bo_2 {g : Sg} {o o2 : Option Nat} {P : Nat → Nat → Bool} : (qR g (o.bind (fun a => o2.map (fun b => if P a b = true then 1 else 0)))).2.1 = 0 ∨ (qR g (o.bind (fun a => o2.map (fun b => if P a b = true then 1 else 0)))).2.1 = 1 := by
  cases o with
  | none => exact Or.inl rfl
  | some a => exact bo_1 (g := g) (o := o2) (P := P a)
theorem bo_3 {g : Sg} {i j : Int32} : (qR g (cdO g i j)).2.1 = 0 ∨ (qR g (cdO g i j)).2.1 = 1 := by
  unfold cdO
  split
  · show (if (pawO g i j).isSome = true then (1 : Int32) else 0) = 0 ∨ (if (pawO g i j).isSome = true then (1 : Int32) else 0) = 1
    cases (pawO g i j).isSome
    · exact Or.inl rfl
    · exact Or.inr rfl
  · exact Or.inl rfl
set_option maxRecDepth 100000 in
set_option maxHeartbeats 4000000 in
theorem W_placeOf (l : Launch) (Y : YG) (hfl : l.stackTraces = false) {x : Nat} {v : Vw} {g : Sg} {Z : Nat → Prop} {h : AH} (r : RepC Y x v g Z h) (iv : Inv g) (hZ : ∀ a, Z a → h a ≠ none) {ob : Nat} {fo : Nat → Int64} (ho : h ob = some (aJ Y 1 fo)) (i : Int32) : MW l Y yL_placeOf cL_placeOf 4 (some .int) [(0, 9, 12, 30)] 8 132 1 6 [.ref x, .int i, .ref ob] h (pW Y x Z ob h (qR g ((idx g.np i).map (fun q => nI (g.pos g.now q))))) := by
  refine MW.of (by decide +kernel) (Nat.le_of_ble_eq_true rfl) ?_
  intro p e s m args0 below meth c C hr htab
  have kx : ∀ (E : String) (h2 : AH), cX Y x Z h (qR g ((idx g.np i).map (fun q => nI (g.pos g.now q)))) sIO E h2 → Gx p l e (rmO 8 132 1 6) s m args0 below meth c (vx_MQ below (Qk Y (pW Y x Z ob h (qR g ((idx g.np i).map (fun q => nI (g.pos g.now q)))))) (Xk Y (noX)) args0 s 1 6 Y.A) Y 4 4 [some (.ref x), some (.int i), some (.ref ob), none] [.int (nI 0), .ref ob] h2 1 6 E := by
    intro E h2 ⟨hE, hok⟩
    have ho2 := hok.2 _ _ ho rfl
    rcases hE with ⟨h1, rfl⟩ | ⟨h1, rfl⟩
    · refine g_catch C [] ⟨0, 9, 12, 30⟩ [] htab (fun z hz => absurd hz List.not_mem_nil) rfl (show 30 ≠ 0 by decide) w548 (tf_ca_IndexOutOfBoundsException C) (fun q => ?_)
      refine g_astore_n C dL_placeOf_12 (by decide) rfl ?_
      refine g_iconst C (v := nI 1) dL_placeOf_13 (by decide) ?_
      exact g_iret C hr dL_placeOf_14 (by omega) (by omega) ⟨by rw [h1], h2, fo, hok, (hup_same ho2).symm, fun z => absurd (h1.symm.trans z) (by decide)⟩
    · exact absurd h1 (by first | exact nq2 | exact ng2)
  refine g_aload_n C dL_placeOf_0 rfl (by first | rfl | exact isR_rf _) ?_
  refine g_iconst C (v := nI 0) dL_placeOf_1 (by decide) ?_
  refine g_aload_n C dL_placeOf_2 rfl (by first | rfl | exact isR_rf _) ?_
  refine g_iload_n C dL_placeOf_3 rfl ?_
  refine g_callVX C (C_placeOf l Y hfl r iv hZ i) ok_X2_placeOf w561 (r.x) rfl rfl rfl dL_placeOf_4 (Nat.le_of_ble_eq_true rfl) (Nat.le_of_ble_eq_true rfl) (Nat.le_of_ble_eq_true rfl) (Nat.le_of_ble_eq_true rfl) (Nat.le_of_ble_eq_true rfl) (kx) (fun vv h2 e2 => ?_)
  obtain ⟨e3, rfl, hok⟩ := e2
  have ho2 := hok.2 _ _ ho rfl
  refine g_i2l C dL_placeOf_7 ?_
  refine g_last C ho2 rfl (by decide) (by decide) dL_placeOf_8 ?_
  refine g_goto C (tgt := 15) dL_placeOf_9 (by decide) ?_
  refine g_iconst C (v := nI 0) dL_placeOf_15 (by decide) ?_
  exact g_iret C hr dL_placeOf_16 (by omega) (by omega) ⟨by rw [e3], h2, _, hok, rfl, fun _ => if_pos rfl⟩
set_option maxRecDepth 100000 in
set_option maxHeartbeats 4000000 in
theorem W_lies (l : Launch) (Y : YG) (hfl : l.stackTraces = false) {x : Nat} {v : Vw} {g : Sg} {Z : Nat → Prop} {h : AH} (r : RepC Y x v g Z h) (iv : Inv g) (hZ : ∀ a, Z a → h a ≠ none) {ob : Nat} {fo : Nat → Int64} (ho : h ob = some (aJ Y 1 fo)) (i : Int32) : MW l Y yL_lies cL_lies 4 (some .int) [(0, 16, 19, 30)] 7 111 1 6 [.ref x, .int i, .ref ob] h (pW Y x Z ob h (qR g ((idx g.np i).map (fun q => if (g.lb g.now).testBit q then 1 else 0)))) := by
  have hb : (qR g ((idx g.np i).map (fun q => if (g.lb g.now).testBit q then 1 else 0))).2.1 = 0 ∨ (qR g ((idx g.np i).map (fun q => if (g.lb g.now).testBit q then 1 else 0))).2.1 = 1 := by
    first | exact bo_1 | exact bo_2 | exact bo_3
  refine MW.of (by decide +kernel) (Nat.le_of_ble_eq_true rfl) ?_
  intro p e s m args0 below meth c C hr htab
  have kx : ∀ (E : String) (h2 : AH), cX Y x Z h (qR g ((idx g.np i).map (fun q => if (g.lb g.now).testBit q then 1 else 0))) sIO E h2 → Gx p l e (rmO 7 111 1 6) s m args0 below meth c (vx_MQ below (Qk Y (pW Y x Z ob h (qR g ((idx g.np i).map (fun q => if (g.lb g.now).testBit q then 1 else 0))))) (Xk Y (noX)) args0 s 1 6 Y.A) Y 4 4 [some (.ref x), some (.int i), some (.ref ob), none] [.int (nI 0), .ref ob] h2 1 6 E := by
    intro E h2 ⟨hE, hok⟩
    have ho2 := hok.2 _ _ ho rfl
    rcases hE with ⟨h1, rfl⟩ | ⟨h1, rfl⟩
    · refine g_catch C [] ⟨0, 16, 19, 30⟩ [] htab (fun z hz => absurd hz List.not_mem_nil) rfl (show 30 ≠ 0 by decide) w548 (tf_ca_IndexOutOfBoundsException C) (fun q => ?_)
      refine g_astore_n C dL_lies_19 (by decide) rfl ?_
      refine g_iconst C (v := nI 1) dL_lies_20 (by decide) ?_
      exact g_iret C hr dL_lies_21 (by omega) (by omega) ⟨by rw [h1], h2, fo, hok, (hup_same ho2).symm, fun z => absurd (h1.symm.trans z) (by decide)⟩
    · exact absurd h1 (by first | exact nq2 | exact ng2)
  refine g_aload_n C dL_lies_0 rfl (by first | rfl | exact isR_rf _) ?_
  refine g_iconst C (v := nI 0) dL_lies_1 (by decide) ?_
  refine g_aload_n C dL_lies_2 rfl (by first | rfl | exact isR_rf _) ?_
  refine g_iload_n C dL_lies_3 rfl ?_
  refine g_callVX C (C_lies l Y hfl r iv hZ i) ok_X2_lies w565 (r.x) rfl rfl rfl dL_lies_4 (Nat.le_of_ble_eq_true rfl) (Nat.le_of_ble_eq_true rfl) (Nat.le_of_ble_eq_true rfl) (Nat.le_of_ble_eq_true rfl) (Nat.le_of_ble_eq_true rfl) (kx) (fun vv h2 e2 => ?_)
  obtain ⟨e3, rfl, hok⟩ := e2
  have ho2 := hok.2 _ _ ho rfl
  rcases hb with hb | hb
  · rw [hb]
    refine g_if_eq C (tgt := 14) dL_lies_7 (by decide) (fun q => ?_) (fun q => absurd rfl q)
    refine g_lconst C dL_lies_14 rfl ?_
    refine g_last C ho2 rfl (by decide) (by decide) dL_lies_15 ?_
    refine g_goto C (tgt := 22) dL_lies_16 (by decide) ?_
    refine g_iconst C (v := nI 0) dL_lies_22 (by decide) ?_
    exact g_iret C hr dL_lies_23 (by omega) (by omega) ⟨by rw [e3], h2, _, hok, rfl, fun _ => (by rw [hb]; exact if_pos rfl)⟩
  · rw [hb]
    refine g_if_eq C (tgt := 14) dL_lies_7 (by decide) (fun q => absurd q (by decide)) (fun q => ?_)
    refine g_lconst C dL_lies_10 rfl ?_
    refine g_goto C (tgt := 15) dL_lies_11 (by decide) ?_
    refine g_last C ho2 rfl (by decide) (by decide) dL_lies_15 ?_
    refine g_goto C (tgt := 22) dL_lies_16 (by decide) ?_
    refine g_iconst C (v := nI 0) dL_lies_22 (by decide) ?_
    exact g_iret C hr dL_lies_23 (by omega) (by omega) ⟨by rw [e3], h2, _, hok, rfl, fun _ => (by rw [hb]; exact if_pos rfl)⟩
set_option maxRecDepth 100000 in
set_option maxHeartbeats 4000000 in
theorem W_pieceAt (l : Launch) (Y : YG) (hfl : l.stackTraces = false) {x : Nat} {v : Vw} {g : Sg} {Z : Nat → Prop} {h : AH} (r : RepC Y x v g Z h) (iv : Inv g) (hZ : ∀ a, Z a → h a ≠ none) {ob : Nat} {fo : Nat → Int64} (ho : h ob = some (aJ Y 1 fo)) (i j : Int32) : MW l Y yL_pieceAt cL_pieceAt 5 (some .int) [(0, 10, 13, 13)] 8 133 1 6 [.ref x, .int i, .int j, .ref ob] h (pW Y x Z ob h (qR g (if onB i j = true then some (nO (pon (g.pos g.now) ((i * nI 8 + j).toNatClampNeg) g.np 0)) else none))) := by
  refine MW.of (by decide +kernel) (Nat.le_of_ble_eq_true rfl) ?_
  intro p e s m args0 below meth c C hr htab
  have kx : ∀ (E : String) (h2 : AH), cX Y x Z h (qR g (if onB i j = true then some (nO (pon (g.pos g.now) ((i * nI 8 + j).toNatClampNeg) g.np 0)) else none)) sIA E h2 → Gx p l e (rmO 8 133 1 6) s m args0 below meth c (vx_MQ below (Qk Y (pW Y x Z ob h (qR g (if onB i j = true then some (nO (pon (g.pos g.now) ((i * nI 8 + j).toNatClampNeg) g.np 0)) else none)))) (Xk Y (noX)) args0 s 1 6 Y.A) Y 5 5 [some (.ref x), some (.int i), some (.int j), some (.ref ob), none] [.int (nI 0), .ref ob] h2 1 6 E := by
    intro E h2 ⟨hE, hok⟩
    have ho2 := hok.2 _ _ ho rfl
    rcases hE with ⟨h1, rfl⟩ | ⟨h1, rfl⟩
    · refine g_catch C [] ⟨0, 10, 13, 13⟩ [] htab (fun z hz => absurd hz List.not_mem_nil) rfl (show 13 ≠ 0 by decide) w396 (tf_ca_IllegalArgumentException C) (fun q => ?_)
      refine g_astore C dL_pieceAt_13 (by decide) rfl ?_
      refine g_iconst C (v := nI 1) dL_pieceAt_15 (by decide) ?_
      exact g_iret C hr dL_pieceAt_16 (by omega) (by omega) ⟨by rw [h1], h2, fo, hok, (hup_same ho2).symm, fun z => absurd (h1.symm.trans z) (by decide)⟩
    · exact absurd h1 (by first | exact nq2 | exact ng2)
  refine g_aload_n C dL_pieceAt_0 rfl (by first | rfl | exact isR_rf _) ?_
  refine g_iconst C (v := nI 0) dL_pieceAt_1 (by decide) ?_
  refine g_aload_n C dL_pieceAt_2 rfl (by first | rfl | exact isR_rf _) ?_
  refine g_iload_n C dL_pieceAt_3 rfl ?_
  refine g_iload_n C dL_pieceAt_4 rfl ?_
  refine g_callVX C (C_pieceAt l Y hfl r iv hZ i j) ok_X2_pieceAt w569 (r.x) rfl rfl rfl dL_pieceAt_5 (Nat.le_of_ble_eq_true rfl) (Nat.le_of_ble_eq_true rfl) (Nat.le_of_ble_eq_true rfl) (Nat.le_of_ble_eq_true rfl) (Nat.le_of_ble_eq_true rfl) (kx) (fun vv h2 e2 => ?_)
  obtain ⟨e3, rfl, hok⟩ := e2
  have ho2 := hok.2 _ _ ho rfl
  refine g_i2l C dL_pieceAt_8 ?_
  refine g_last C ho2 rfl (by decide) (by decide) dL_pieceAt_9 ?_
  refine g_goto C (tgt := 17) dL_pieceAt_10 (by decide) ?_
  refine g_iconst C (v := nI 0) dL_pieceAt_17 (by decide) ?_
  exact g_iret C hr dL_pieceAt_18 (by omega) (by omega) ⟨by rw [e3], h2, _, hok, rfl, fun _ => if_pos rfl⟩
set_option maxRecDepth 100000 in
set_option maxHeartbeats 4000000 in
theorem W_hangsOn (l : Launch) (Y : YG) (hfl : l.stackTraces = false) {x : Nat} {v : Vw} {g : Sg} {Z : Nat → Prop} {h : AH} (r : RepC Y x v g Z h) (iv : Inv g) (hZ : ∀ a, Z a → h a ≠ none) {ob : Nat} {fo : Nat → Int64} (ho : h ob = some (aJ Y 1 fo)) (i : Int32) : MW l Y yL_hangsOn cL_hangsOn 4 (some .int) [(0, 9, 12, 30)] 8 132 1 6 [.ref x, .int i, .ref ob] h (pW Y x Z ob h (qR g ((idx g.n i).map (fun j => nO (parO g j))))) := by
  refine MW.of (by decide +kernel) (Nat.le_of_ble_eq_true rfl) ?_
  intro p e s m args0 below meth c C hr htab
  have kx : ∀ (E : String) (h2 : AH), cX Y x Z h (qR g ((idx g.n i).map (fun j => nO (parO g j)))) sIO E h2 → Gx p l e (rmO 8 132 1 6) s m args0 below meth c (vx_MQ below (Qk Y (pW Y x Z ob h (qR g ((idx g.n i).map (fun j => nO (parO g j)))))) (Xk Y (noX)) args0 s 1 6 Y.A) Y 4 4 [some (.ref x), some (.int i), some (.ref ob), none] [.int (nI 0), .ref ob] h2 1 6 E := by
    intro E h2 ⟨hE, hok⟩
    have ho2 := hok.2 _ _ ho rfl
    rcases hE with ⟨h1, rfl⟩ | ⟨h1, rfl⟩
    · refine g_catch C [] ⟨0, 9, 12, 30⟩ [] htab (fun z hz => absurd hz List.not_mem_nil) rfl (show 30 ≠ 0 by decide) w548 (tf_ca_IndexOutOfBoundsException C) (fun q => ?_)
      refine g_astore_n C dL_hangsOn_12 (by decide) rfl ?_
      refine g_iconst C (v := nI 1) dL_hangsOn_13 (by decide) ?_
      exact g_iret C hr dL_hangsOn_14 (by omega) (by omega) ⟨by rw [h1], h2, fo, hok, (hup_same ho2).symm, fun z => absurd (h1.symm.trans z) (by decide)⟩
    · exact absurd h1 (by first | exact nq2 | exact ng2)
  refine g_aload_n C dL_hangsOn_0 rfl (by first | rfl | exact isR_rf _) ?_
  refine g_iconst C (v := nI 0) dL_hangsOn_1 (by decide) ?_
  refine g_aload_n C dL_hangsOn_2 rfl (by first | rfl | exact isR_rf _) ?_
  refine g_iload_n C dL_hangsOn_3 rfl ?_
  refine g_callVX C (C_hangsOn l Y hfl r iv hZ i) ok_X2_hangsOn w583 (r.x) rfl rfl rfl dL_hangsOn_4 (Nat.le_of_ble_eq_true rfl) (Nat.le_of_ble_eq_true rfl) (Nat.le_of_ble_eq_true rfl) (Nat.le_of_ble_eq_true rfl) (Nat.le_of_ble_eq_true rfl) (kx) (fun vv h2 e2 => ?_)
  obtain ⟨e3, rfl, hok⟩ := e2
  have ho2 := hok.2 _ _ ho rfl
  refine g_i2l C dL_hangsOn_7 ?_
  refine g_last C ho2 rfl (by decide) (by decide) dL_hangsOn_8 ?_
  refine g_goto C (tgt := 15) dL_hangsOn_9 (by decide) ?_
  refine g_iconst C (v := nI 0) dL_hangsOn_15 (by decide) ?_
  exact g_iret C hr dL_hangsOn_16 (by omega) (by omega) ⟨by rw [e3], h2, _, hok, rfl, fun _ => if_pos rfl⟩
set_option maxRecDepth 100000 in
set_option maxHeartbeats 4000000 in
theorem W_kindOf (l : Launch) (Y : YG) (hfl : l.stackTraces = false) {x : Nat} {v : Vw} {g : Sg} {Z : Nat → Prop} {h : AH} (r : RepC Y x v g Z h) (iv : Inv g) (hZ : ∀ a, Z a → h a ≠ none) {ob : Nat} {fo : Nat → Int64} (ho : h ob = some (aJ Y 1 fo)) (i : Int32) : MW l Y yL_kindOf cL_kindOf 4 (some .int) [(0, 9, 12, 30)] 8 132 1 6 [.ref x, .int i, .ref ob] h (pW Y x Z ob h (qR g ((idx g.n i).map (fun j => g.kd j)))) := by
  refine MW.of (by decide +kernel) (Nat.le_of_ble_eq_true rfl) ?_
  intro p e s m args0 below meth c C hr htab
  have kx : ∀ (E : String) (h2 : AH), cX Y x Z h (qR g ((idx g.n i).map (fun j => g.kd j))) sIO E h2 → Gx p l e (rmO 8 132 1 6) s m args0 below meth c (vx_MQ below (Qk Y (pW Y x Z ob h (qR g ((idx g.n i).map (fun j => g.kd j))))) (Xk Y (noX)) args0 s 1 6 Y.A) Y 4 4 [some (.ref x), some (.int i), some (.ref ob), none] [.int (nI 0), .ref ob] h2 1 6 E := by
    intro E h2 ⟨hE, hok⟩
    have ho2 := hok.2 _ _ ho rfl
    rcases hE with ⟨h1, rfl⟩ | ⟨h1, rfl⟩
    · refine g_catch C [] ⟨0, 9, 12, 30⟩ [] htab (fun z hz => absurd hz List.not_mem_nil) rfl (show 30 ≠ 0 by decide) w548 (tf_ca_IndexOutOfBoundsException C) (fun q => ?_)
      refine g_astore_n C dL_kindOf_12 (by decide) rfl ?_
      refine g_iconst C (v := nI 1) dL_kindOf_13 (by decide) ?_
      exact g_iret C hr dL_kindOf_14 (by omega) (by omega) ⟨by rw [h1], h2, fo, hok, (hup_same ho2).symm, fun z => absurd (h1.symm.trans z) (by decide)⟩
    · exact absurd h1 (by first | exact nq2 | exact ng2)
  refine g_aload_n C dL_kindOf_0 rfl (by first | rfl | exact isR_rf _) ?_
  refine g_iconst C (v := nI 0) dL_kindOf_1 (by decide) ?_
  refine g_aload_n C dL_kindOf_2 rfl (by first | rfl | exact isR_rf _) ?_
  refine g_iload_n C dL_kindOf_3 rfl ?_
  refine g_callVX C (C_kindOf l Y hfl r iv hZ i) ok_X2_kindOf w590 (r.x) rfl rfl rfl dL_kindOf_4 (Nat.le_of_ble_eq_true rfl) (Nat.le_of_ble_eq_true rfl) (Nat.le_of_ble_eq_true rfl) (Nat.le_of_ble_eq_true rfl) (Nat.le_of_ble_eq_true rfl) (kx) (fun vv h2 e2 => ?_)
  obtain ⟨e3, rfl, hok⟩ := e2
  have ho2 := hok.2 _ _ ho rfl
  refine g_i2l C dL_kindOf_7 ?_
  refine g_last C ho2 rfl (by decide) (by decide) dL_kindOf_8 ?_
  refine g_goto C (tgt := 15) dL_kindOf_9 (by decide) ?_
  refine g_iconst C (v := nI 0) dL_kindOf_15 (by decide) ?_
  exact g_iret C hr dL_kindOf_16 (by omega) (by omega) ⟨by rw [e3], h2, _, hok, rfl, fun _ => if_pos rfl⟩
set_option maxRecDepth 100000 in
set_option maxHeartbeats 4000000 in
theorem W_numberOf (l : Launch) (Y : YG) (hfl : l.stackTraces = false) {x : Nat} {v : Vw} {g : Sg} {Z : Nat → Prop} {h : AH} (r : RepC Y x v g Z h) (iv : Inv g) (hZ : ∀ a, Z a → h a ≠ none) {ob : Nat} {fo : Nat → Int64} (ho : h ob = some (aJ Y 1 fo)) (i : Int32) : MW l Y yL_numberOf cL_numberOf 4 (some .int) [(0, 9, 12, 30)] 8 132 1 6 [.ref x, .int i, .ref ob] h (pW Y x Z ob h (qR g ((idx g.n i).map (fun j => g.nm j)))) := by
  refine MW.of (by decide +kernel) (Nat.le_of_ble_eq_true rfl) ?_
  intro p e s m args0 below meth c C hr htab
  have kx : ∀ (E : String) (h2 : AH), cX Y x Z h (qR g ((idx g.n i).map (fun j => g.nm j))) sIO E h2 → Gx p l e (rmO 8 132 1 6) s m args0 below meth c (vx_MQ below (Qk Y (pW Y x Z ob h (qR g ((idx g.n i).map (fun j => g.nm j))))) (Xk Y (noX)) args0 s 1 6 Y.A) Y 4 4 [some (.ref x), some (.int i), some (.ref ob), none] [.int (nI 0), .ref ob] h2 1 6 E := by
    intro E h2 ⟨hE, hok⟩
    have ho2 := hok.2 _ _ ho rfl
    rcases hE with ⟨h1, rfl⟩ | ⟨h1, rfl⟩
    · refine g_catch C [] ⟨0, 9, 12, 30⟩ [] htab (fun z hz => absurd hz List.not_mem_nil) rfl (show 30 ≠ 0 by decide) w548 (tf_ca_IndexOutOfBoundsException C) (fun q => ?_)
      refine g_astore_n C dL_numberOf_12 (by decide) rfl ?_
      refine g_iconst C (v := nI 1) dL_numberOf_13 (by decide) ?_
      exact g_iret C hr dL_numberOf_14 (by omega) (by omega) ⟨by rw [h1], h2, fo, hok, (hup_same ho2).symm, fun z => absurd (h1.symm.trans z) (by decide)⟩
    · exact absurd h1 (by first | exact nq2 | exact ng2)
  refine g_aload_n C dL_numberOf_0 rfl (by first | rfl | exact isR_rf _) ?_
  refine g_iconst C (v := nI 0) dL_numberOf_1 (by decide) ?_
  refine g_aload_n C dL_numberOf_2 rfl (by first | rfl | exact isR_rf _) ?_
  refine g_iload_n C dL_numberOf_3 rfl ?_
  refine g_callVX C (C_numberOf l Y hfl r iv hZ i) ok_X2_numberOf w597 (r.x) rfl rfl rfl dL_numberOf_4 (Nat.le_of_ble_eq_true rfl) (Nat.le_of_ble_eq_true rfl) (Nat.le_of_ble_eq_true rfl) (Nat.le_of_ble_eq_true rfl) (Nat.le_of_ble_eq_true rfl) (kx) (fun vv h2 e2 => ?_)
  obtain ⟨e3, rfl, hok⟩ := e2
  have ho2 := hok.2 _ _ ho rfl
  refine g_i2l C dL_numberOf_7 ?_
  refine g_last C ho2 rfl (by decide) (by decide) dL_numberOf_8 ?_
  refine g_goto C (tgt := 15) dL_numberOf_9 (by decide) ?_
  refine g_iconst C (v := nI 0) dL_numberOf_15 (by decide) ?_
  exact g_iret C hr dL_numberOf_16 (by omega) (by omega) ⟨by rw [e3], h2, _, hok, rfl, fun _ => if_pos rfl⟩
set_option maxRecDepth 100000 in
set_option maxHeartbeats 4000000 in
theorem W_depthOf (l : Launch) (Y : YG) (hfl : l.stackTraces = false) {x : Nat} {v : Vw} {g : Sg} {Z : Nat → Prop} {h : AH} (r : RepC Y x v g Z h) (iv : Inv g) (hZ : ∀ a, Z a → h a ≠ none) {ob : Nat} {fo : Nat → Int64} (ho : h ob = some (aJ Y 1 fo)) (i : Int32) : MW l Y yL_depthOf cL_depthOf 4 (some .int) [(0, 9, 12, 30)] 8 132 1 6 [.ref x, .int i, .ref ob] h (pW Y x Z ob h (qR g ((idx g.n i).map (fun j => nI (g.dp j))))) := by
  refine MW.of (by decide +kernel) (Nat.le_of_ble_eq_true rfl) ?_
  intro p e s m args0 below meth c C hr htab
  have kx : ∀ (E : String) (h2 : AH), cX Y x Z h (qR g ((idx g.n i).map (fun j => nI (g.dp j)))) sIO E h2 → Gx p l e (rmO 8 132 1 6) s m args0 below meth c (vx_MQ below (Qk Y (pW Y x Z ob h (qR g ((idx g.n i).map (fun j => nI (g.dp j)))))) (Xk Y (noX)) args0 s 1 6 Y.A) Y 4 4 [some (.ref x), some (.int i), some (.ref ob), none] [.int (nI 0), .ref ob] h2 1 6 E := by
    intro E h2 ⟨hE, hok⟩
    have ho2 := hok.2 _ _ ho rfl
    rcases hE with ⟨h1, rfl⟩ | ⟨h1, rfl⟩
    · refine g_catch C [] ⟨0, 9, 12, 30⟩ [] htab (fun z hz => absurd hz List.not_mem_nil) rfl (show 30 ≠ 0 by decide) w548 (tf_ca_IndexOutOfBoundsException C) (fun q => ?_)
      refine g_astore_n C dL_depthOf_12 (by decide) rfl ?_
      refine g_iconst C (v := nI 1) dL_depthOf_13 (by decide) ?_
      exact g_iret C hr dL_depthOf_14 (by omega) (by omega) ⟨by rw [h1], h2, fo, hok, (hup_same ho2).symm, fun z => absurd (h1.symm.trans z) (by decide)⟩
    · exact absurd h1 (by first | exact nq2 | exact ng2)
  refine g_aload_n C dL_depthOf_0 rfl (by first | rfl | exact isR_rf _) ?_
  refine g_iconst C (v := nI 0) dL_depthOf_1 (by decide) ?_
  refine g_aload_n C dL_depthOf_2 rfl (by first | rfl | exact isR_rf _) ?_
  refine g_iload_n C dL_depthOf_3 rfl ?_
  refine g_callVX C (C_depthOf l Y hfl r iv hZ i) ok_X2_depthOf w604 (r.x) rfl rfl rfl dL_depthOf_4 (Nat.le_of_ble_eq_true rfl) (Nat.le_of_ble_eq_true rfl) (Nat.le_of_ble_eq_true rfl) (Nat.le_of_ble_eq_true rfl) (Nat.le_of_ble_eq_true rfl) (kx) (fun vv h2 e2 => ?_)
  obtain ⟨e3, rfl, hok⟩ := e2
  have ho2 := hok.2 _ _ ho rfl
  refine g_i2l C dL_depthOf_7 ?_
  refine g_last C ho2 rfl (by decide) (by decide) dL_depthOf_8 ?_
  refine g_goto C (tgt := 15) dL_depthOf_9 (by decide) ?_
  refine g_iconst C (v := nI 0) dL_depthOf_15 (by decide) ?_
  exact g_iret C hr dL_depthOf_16 (by omega) (by omega) ⟨by rw [e3], h2, _, hok, rfl, fun _ => if_pos rfl⟩
set_option maxRecDepth 100000 in
set_option maxHeartbeats 4000000 in
theorem W_branches (l : Launch) (Y : YG) (hfl : l.stackTraces = false) {x : Nat} {v : Vw} {g : Sg} {Z : Nat → Prop} {h : AH} (r : RepC Y x v g Z h) (iv : Inv g) (hZ : ∀ a, Z a → h a ≠ none) {ob : Nat} {fo : Nat → Int64} (ho : h ob = some (aJ Y 1 fo)) (i : Int32) : MW l Y yL_branches cL_branches 4 (some .int) [(0, 9, 12, 30)] 8 132 1 6 [.ref x, .int i, .ref ob] h (pW Y x Z ob h (qR g ((idx g.n i).map (fun j => nI (chN g.par g.n j))))) := by
  refine MW.of (by decide +kernel) (Nat.le_of_ble_eq_true rfl) ?_
  intro p e s m args0 below meth c C hr htab
  have kx : ∀ (E : String) (h2 : AH), cX Y x Z h (qR g ((idx g.n i).map (fun j => nI (chN g.par g.n j)))) sIO E h2 → Gx p l e (rmO 8 132 1 6) s m args0 below meth c (vx_MQ below (Qk Y (pW Y x Z ob h (qR g ((idx g.n i).map (fun j => nI (chN g.par g.n j)))))) (Xk Y (noX)) args0 s 1 6 Y.A) Y 4 4 [some (.ref x), some (.int i), some (.ref ob), none] [.int (nI 0), .ref ob] h2 1 6 E := by
    intro E h2 ⟨hE, hok⟩
    have ho2 := hok.2 _ _ ho rfl
    rcases hE with ⟨h1, rfl⟩ | ⟨h1, rfl⟩
    · refine g_catch C [] ⟨0, 9, 12, 30⟩ [] htab (fun z hz => absurd hz List.not_mem_nil) rfl (show 30 ≠ 0 by decide) w548 (tf_ca_IndexOutOfBoundsException C) (fun q => ?_)
      refine g_astore_n C dL_branches_12 (by decide) rfl ?_
      refine g_iconst C (v := nI 1) dL_branches_13 (by decide) ?_
      exact g_iret C hr dL_branches_14 (by omega) (by omega) ⟨by rw [h1], h2, fo, hok, (hup_same ho2).symm, fun z => absurd (h1.symm.trans z) (by decide)⟩
    · exact absurd h1 (by first | exact nq2 | exact ng2)
  refine g_aload_n C dL_branches_0 rfl (by first | rfl | exact isR_rf _) ?_
  refine g_iconst C (v := nI 0) dL_branches_1 (by decide) ?_
  refine g_aload_n C dL_branches_2 rfl (by first | rfl | exact isR_rf _) ?_
  refine g_iload_n C dL_branches_3 rfl ?_
  refine g_callVX C (C_branches l Y hfl r iv hZ i) ok_X2_branches w611 (r.x) rfl rfl rfl dL_branches_4 (Nat.le_of_ble_eq_true rfl) (Nat.le_of_ble_eq_true rfl) (Nat.le_of_ble_eq_true rfl) (Nat.le_of_ble_eq_true rfl) (Nat.le_of_ble_eq_true rfl) (kx) (fun vv h2 e2 => ?_)
  obtain ⟨e3, rfl, hok⟩ := e2
  have ho2 := hok.2 _ _ ho rfl
  refine g_i2l C dL_branches_7 ?_
  refine g_last C ho2 rfl (by decide) (by decide) dL_branches_8 ?_
  refine g_goto C (tgt := 15) dL_branches_9 (by decide) ?_
  refine g_iconst C (v := nI 0) dL_branches_15 (by decide) ?_
  exact g_iret C hr dL_branches_16 (by omega) (by omega) ⟨by rw [e3], h2, _, hok, rfl, fun _ => if_pos rfl⟩
set_option maxRecDepth 100000 in
set_option maxHeartbeats 4000000 in
theorem W_behind (l : Launch) (Y : YG) (hfl : l.stackTraces = false) {x : Nat} {v : Vw} {g : Sg} {Z : Nat → Prop} {h : AH} (r : RepC Y x v g Z h) (iv : Inv g) (hZ : ∀ a, Z a → h a ≠ none) {ob : Nat} {fo : Nat → Int64} (ho : h ob = some (aJ Y 1 fo)) (i : Int32) : MW l Y yL_behind cL_behind 4 (some .int) [(0, 9, 12, 30)] 8 132 1 6 [.ref x, .int i, .ref ob] h (pW Y x Z ob h (qR g ((idx g.n i).map (fun j => nI (dsN g.par g.n j))))) := by
  refine MW.of (by decide +kernel) (Nat.le_of_ble_eq_true rfl) ?_
  intro p e s m args0 below meth c C hr htab
  have kx : ∀ (E : String) (h2 : AH), cX Y x Z h (qR g ((idx g.n i).map (fun j => nI (dsN g.par g.n j)))) sIO E h2 → Gx p l e (rmO 8 132 1 6) s m args0 below meth c (vx_MQ below (Qk Y (pW Y x Z ob h (qR g ((idx g.n i).map (fun j => nI (dsN g.par g.n j)))))) (Xk Y (noX)) args0 s 1 6 Y.A) Y 4 4 [some (.ref x), some (.int i), some (.ref ob), none] [.int (nI 0), .ref ob] h2 1 6 E := by
    intro E h2 ⟨hE, hok⟩
    have ho2 := hok.2 _ _ ho rfl
    rcases hE with ⟨h1, rfl⟩ | ⟨h1, rfl⟩
    · refine g_catch C [] ⟨0, 9, 12, 30⟩ [] htab (fun z hz => absurd hz List.not_mem_nil) rfl (show 30 ≠ 0 by decide) w548 (tf_ca_IndexOutOfBoundsException C) (fun q => ?_)
      refine g_astore_n C dL_behind_12 (by decide) rfl ?_
      refine g_iconst C (v := nI 1) dL_behind_13 (by decide) ?_
      exact g_iret C hr dL_behind_14 (by omega) (by omega) ⟨by rw [h1], h2, fo, hok, (hup_same ho2).symm, fun z => absurd (h1.symm.trans z) (by decide)⟩
    · exact absurd h1 (by first | exact nq2 | exact ng2)
  refine g_aload_n C dL_behind_0 rfl (by first | rfl | exact isR_rf _) ?_
  refine g_iconst C (v := nI 0) dL_behind_1 (by decide) ?_
  refine g_aload_n C dL_behind_2 rfl (by first | rfl | exact isR_rf _) ?_
  refine g_iload_n C dL_behind_3 rfl ?_
  refine g_callVX C (C_behind l Y hfl r iv hZ i) ok_X2_behind w618 (r.x) rfl rfl rfl dL_behind_4 (Nat.le_of_ble_eq_true rfl) (Nat.le_of_ble_eq_true rfl) (Nat.le_of_ble_eq_true rfl) (Nat.le_of_ble_eq_true rfl) (Nat.le_of_ble_eq_true rfl) (kx) (fun vv h2 e2 => ?_)
  obtain ⟨e3, rfl, hok⟩ := e2
  have ho2 := hok.2 _ _ ho rfl
  refine g_i2l C dL_behind_7 ?_
  refine g_last C ho2 rfl (by decide) (by decide) dL_behind_8 ?_
  refine g_goto C (tgt := 15) dL_behind_9 (by decide) ?_
  refine g_iconst C (v := nI 0) dL_behind_15 (by decide) ?_
  exact g_iret C hr dL_behind_16 (by omega) (by omega) ⟨by rw [e3], h2, _, hok, rfl, fun _ => if_pos rfl⟩
set_option maxRecDepth 100000 in
set_option maxHeartbeats 4000000 in
theorem W_again (l : Launch) (Y : YG) (hfl : l.stackTraces = false) {x : Nat} {v : Vw} {g : Sg} {Z : Nat → Prop} {h : AH} (r : RepC Y x v g Z h) (iv : Inv g) (hZ : ∀ a, Z a → h a ≠ none) {ob : Nat} {fo : Nat → Int64} (ho : h ob = some (aJ Y 1 fo)) (i : Int32) : MW l Y yL_again cL_again 4 (some .int) [(0, 9, 12, 30)] 8 132 1 6 [.ref x, .int i, .ref ob] h (pW Y x Z ob h (qR g ((idx g.n i).map (fun j => nO (g.last j))))) := by
  refine MW.of (by decide +kernel) (Nat.le_of_ble_eq_true rfl) ?_
  intro p e s m args0 below meth c C hr htab
  have kx : ∀ (E : String) (h2 : AH), cX Y x Z h (qR g ((idx g.n i).map (fun j => nO (g.last j)))) sIO E h2 → Gx p l e (rmO 8 132 1 6) s m args0 below meth c (vx_MQ below (Qk Y (pW Y x Z ob h (qR g ((idx g.n i).map (fun j => nO (g.last j)))))) (Xk Y (noX)) args0 s 1 6 Y.A) Y 4 4 [some (.ref x), some (.int i), some (.ref ob), none] [.int (nI 0), .ref ob] h2 1 6 E := by
    intro E h2 ⟨hE, hok⟩
    have ho2 := hok.2 _ _ ho rfl
    rcases hE with ⟨h1, rfl⟩ | ⟨h1, rfl⟩
    · refine g_catch C [] ⟨0, 9, 12, 30⟩ [] htab (fun z hz => absurd hz List.not_mem_nil) rfl (show 30 ≠ 0 by decide) w548 (tf_ca_IndexOutOfBoundsException C) (fun q => ?_)
      refine g_astore_n C dL_again_12 (by decide) rfl ?_
      refine g_iconst C (v := nI 1) dL_again_13 (by decide) ?_
      exact g_iret C hr dL_again_14 (by omega) (by omega) ⟨by rw [h1], h2, fo, hok, (hup_same ho2).symm, fun z => absurd (h1.symm.trans z) (by decide)⟩
    · exact absurd h1 (by first | exact nq2 | exact ng2)
  refine g_aload_n C dL_again_0 rfl (by first | rfl | exact isR_rf _) ?_
  refine g_iconst C (v := nI 0) dL_again_1 (by decide) ?_
  refine g_aload_n C dL_again_2 rfl (by first | rfl | exact isR_rf _) ?_
  refine g_iload_n C dL_again_3 rfl ?_
  refine g_callVX C (C_again l Y hfl r iv hZ i) ok_X2_again w625 (r.x) rfl rfl rfl dL_again_4 (Nat.le_of_ble_eq_true rfl) (Nat.le_of_ble_eq_true rfl) (Nat.le_of_ble_eq_true rfl) (Nat.le_of_ble_eq_true rfl) (Nat.le_of_ble_eq_true rfl) (kx) (fun vv h2 e2 => ?_)
  obtain ⟨e3, rfl, hok⟩ := e2
  have ho2 := hok.2 _ _ ho rfl
  refine g_i2l C dL_again_7 ?_
  refine g_last C ho2 rfl (by decide) (by decide) dL_again_8 ?_
  refine g_goto C (tgt := 15) dL_again_9 (by decide) ?_
  refine g_iconst C (v := nI 0) dL_again_15 (by decide) ?_
  exact g_iret C hr dL_again_16 (by omega) (by omega) ⟨by rw [e3], h2, _, hok, rfl, fun _ => if_pos rfl⟩
set_option maxRecDepth 100000 in
set_option maxHeartbeats 4000000 in
theorem W_meet (l : Launch) (Y : YG) (hfl : l.stackTraces = false) {x : Nat} {v : Vw} {g : Sg} {Z : Nat → Prop} {h : AH} (r : RepC Y x v g Z h) (iv : Inv g) (hZ : ∀ a, Z a → h a ≠ none) {ob : Nat} {fo : Nat → Int64} (ho : h ob = some (aJ Y 1 fo)) (i j : Int32) : MW l Y yL_meet cL_meet 5 (some .int) [(0, 10, 13, 30)] 8 133 2 12 [.ref x, .int i, .int j, .ref ob] h (pW Y x Z ob h (qR g ((idx g.n i).bind (fun a => (idx g.n j).map (fun b => nI (lc g.par a b)))))) := by
  refine MW.of (by decide +kernel) (Nat.le_of_ble_eq_true rfl) ?_
  intro p e s m args0 below meth c C hr htab
  have kx : ∀ (E : String) (h2 : AH), cX Y x Z h (qR g ((idx g.n i).bind (fun a => (idx g.n j).map (fun b => nI (lc g.par a b))))) sIO E h2 → Gx p l e (rmO 8 133 2 12) s m args0 below meth c (vx_MQ below (Qk Y (pW Y x Z ob h (qR g ((idx g.n i).bind (fun a => (idx g.n j).map (fun b => nI (lc g.par a b))))))) (Xk Y (noX)) args0 s 2 12 Y.A) Y 5 5 [some (.ref x), some (.int i), some (.int j), some (.ref ob), none] [.int (nI 0), .ref ob] h2 2 12 E := by
    intro E h2 ⟨hE, hok⟩
    have ho2 := hok.2 _ _ ho rfl
    rcases hE with ⟨h1, rfl⟩ | ⟨h1, rfl⟩
    · refine g_catch C [] ⟨0, 10, 13, 30⟩ [] htab (fun z hz => absurd hz List.not_mem_nil) rfl (show 30 ≠ 0 by decide) w548 (tf_ca_IndexOutOfBoundsException C) (fun q => ?_)
      refine g_astore C dL_meet_13 (by decide) rfl ?_
      refine g_iconst C (v := nI 1) dL_meet_15 (by decide) ?_
      exact g_iret C hr dL_meet_16 (by omega) (by omega) ⟨by rw [h1], h2, fo, hok, (hup_same ho2).symm, fun z => absurd (h1.symm.trans z) (by decide)⟩
    · exact absurd h1 (by first | exact nq2 | exact ng2)
  refine g_aload_n C dL_meet_0 rfl (by first | rfl | exact isR_rf _) ?_
  refine g_iconst C (v := nI 0) dL_meet_1 (by decide) ?_
  refine g_aload_n C dL_meet_2 rfl (by first | rfl | exact isR_rf _) ?_
  refine g_iload_n C dL_meet_3 rfl ?_
  refine g_iload_n C dL_meet_4 rfl ?_
  refine g_callVX C (C_meet l Y hfl r iv hZ i j) ok_X2_meet w632 (r.x) rfl rfl rfl dL_meet_5 (Nat.le_of_ble_eq_true rfl) (Nat.le_of_ble_eq_true rfl) (Nat.le_of_ble_eq_true rfl) (Nat.le_of_ble_eq_true rfl) (Nat.le_of_ble_eq_true rfl) (kx) (fun vv h2 e2 => ?_)
  obtain ⟨e3, rfl, hok⟩ := e2
  have ho2 := hok.2 _ _ ho rfl
  refine g_i2l C dL_meet_8 ?_
  refine g_last C ho2 rfl (by decide) (by decide) dL_meet_9 ?_
  refine g_goto C (tgt := 17) dL_meet_10 (by decide) ?_
  refine g_iconst C (v := nI 0) dL_meet_17 (by decide) ?_
  exact g_iret C hr dL_meet_18 (by omega) (by omega) ⟨by rw [e3], h2, _, hok, rfl, fun _ => if_pos rfl⟩
set_option maxRecDepth 100000 in
set_option maxHeartbeats 4000000 in
theorem W_apart (l : Launch) (Y : YG) (hfl : l.stackTraces = false) {x : Nat} {v : Vw} {g : Sg} {Z : Nat → Prop} {h : AH} (r : RepC Y x v g Z h) (iv : Inv g) (hZ : ∀ a, Z a → h a ≠ none) {ob : Nat} {fo : Nat → Int64} (ho : h ob = some (aJ Y 1 fo)) (i j : Int32) : MW l Y yL_apart cL_apart 5 (some .int) [(0, 10, 13, 30)] 8 133 2 12 [.ref x, .int i, .int j, .ref ob] h (pW Y x Z ob h (qR g ((idx g.n i).bind (fun a => (idx g.n j).map (fun b => nI (wy g a b)))))) := by
  refine MW.of (by decide +kernel) (Nat.le_of_ble_eq_true rfl) ?_
  intro p e s m args0 below meth c C hr htab
  have kx : ∀ (E : String) (h2 : AH), cX Y x Z h (qR g ((idx g.n i).bind (fun a => (idx g.n j).map (fun b => nI (wy g a b))))) sIO E h2 → Gx p l e (rmO 8 133 2 12) s m args0 below meth c (vx_MQ below (Qk Y (pW Y x Z ob h (qR g ((idx g.n i).bind (fun a => (idx g.n j).map (fun b => nI (wy g a b))))))) (Xk Y (noX)) args0 s 2 12 Y.A) Y 5 5 [some (.ref x), some (.int i), some (.int j), some (.ref ob), none] [.int (nI 0), .ref ob] h2 2 12 E := by
    intro E h2 ⟨hE, hok⟩
    have ho2 := hok.2 _ _ ho rfl
    rcases hE with ⟨h1, rfl⟩ | ⟨h1, rfl⟩
    · refine g_catch C [] ⟨0, 10, 13, 30⟩ [] htab (fun z hz => absurd hz List.not_mem_nil) rfl (show 30 ≠ 0 by decide) w548 (tf_ca_IndexOutOfBoundsException C) (fun q => ?_)
      refine g_astore C dL_apart_13 (by decide) rfl ?_
      refine g_iconst C (v := nI 1) dL_apart_15 (by decide) ?_
      exact g_iret C hr dL_apart_16 (by omega) (by omega) ⟨by rw [h1], h2, fo, hok, (hup_same ho2).symm, fun z => absurd (h1.symm.trans z) (by decide)⟩
    · exact absurd h1 (by first | exact nq2 | exact ng2)
  refine g_aload_n C dL_apart_0 rfl (by first | rfl | exact isR_rf _) ?_
  refine g_iconst C (v := nI 0) dL_apart_1 (by decide) ?_
  refine g_aload_n C dL_apart_2 rfl (by first | rfl | exact isR_rf _) ?_
  refine g_iload_n C dL_apart_3 rfl ?_
  refine g_iload_n C dL_apart_4 rfl ?_
  refine g_callVX C (C_apart l Y hfl r iv hZ i j) ok_X2_apart w639 (r.x) rfl rfl rfl dL_apart_5 (Nat.le_of_ble_eq_true rfl) (Nat.le_of_ble_eq_true rfl) (Nat.le_of_ble_eq_true rfl) (Nat.le_of_ble_eq_true rfl) (Nat.le_of_ble_eq_true rfl) (kx) (fun vv h2 e2 => ?_)
  obtain ⟨e3, rfl, hok⟩ := e2
  have ho2 := hok.2 _ _ ho rfl
  refine g_i2l C dL_apart_8 ?_
  refine g_last C ho2 rfl (by decide) (by decide) dL_apart_9 ?_
  refine g_goto C (tgt := 17) dL_apart_10 (by decide) ?_
  refine g_iconst C (v := nI 0) dL_apart_17 (by decide) ?_
  exact g_iret C hr dL_apart_18 (by omega) (by omega) ⟨by rw [e3], h2, _, hok, rfl, fun _ => if_pos rfl⟩
set_option maxRecDepth 100000 in
set_option maxHeartbeats 4000000 in
theorem W_placeIn (l : Launch) (Y : YG) (hfl : l.stackTraces = false) {x : Nat} {v : Vw} {g : Sg} {Z : Nat → Prop} {h : AH} (r : RepC Y x v g Z h) (iv : Inv g) (hZ : ∀ a, Z a → h a ≠ none) {ob : Nat} {fo : Nat → Int64} (ho : h ob = some (aJ Y 1 fo)) (i j : Int32) : MW l Y yL_placeIn cL_placeIn 5 (some .int) [(0, 10, 13, 30)] 8 135 2 12 [.ref x, .int i, .int j, .ref ob] h (pW Y x Z ob h (qR g ((idx g.n i).bind (fun a => (idx g.np j).map (fun q => nI (g.pos a q + if (g.lb a).testBit q then 100 else 0)))))) := by
  refine MW.of (by decide +kernel) (Nat.le_of_ble_eq_true rfl) ?_
  intro p e s m args0 below meth c C hr htab
  have kx : ∀ (E : String) (h2 : AH), cX Y x Z h (qR g ((idx g.n i).bind (fun a => (idx g.np j).map (fun q => nI (g.pos a q + if (g.lb a).testBit q then 100 else 0))))) sIO E h2 → Gx p l e (rmO 8 135 2 12) s m args0 below meth c (vx_MQ below (Qk Y (pW Y x Z ob h (qR g ((idx g.n i).bind (fun a => (idx g.np j).map (fun q => nI (g.pos a q + if (g.lb a).testBit q then 100 else 0))))))) (Xk Y (noX)) args0 s 2 12 Y.A) Y 5 5 [some (.ref x), some (.int i), some (.int j), some (.ref ob), none] [.int (nI 0), .ref ob] h2 2 12 E := by
    intro E h2 ⟨hE, hok⟩
    have ho2 := hok.2 _ _ ho rfl
    rcases hE with ⟨h1, rfl⟩ | ⟨h1, rfl⟩
    · refine g_catch C [] ⟨0, 10, 13, 30⟩ [] htab (fun z hz => absurd hz List.not_mem_nil) rfl (show 30 ≠ 0 by decide) w548 (tf_ca_IndexOutOfBoundsException C) (fun q => ?_)
      refine g_astore C dL_placeIn_13 (by decide) rfl ?_
      refine g_iconst C (v := nI 1) dL_placeIn_15 (by decide) ?_
      exact g_iret C hr dL_placeIn_16 (by omega) (by omega) ⟨by rw [h1], h2, fo, hok, (hup_same ho2).symm, fun z => absurd (h1.symm.trans z) (by decide)⟩
    · exact absurd h1 (by first | exact nq2 | exact ng2)
  refine g_aload_n C dL_placeIn_0 rfl (by first | rfl | exact isR_rf _) ?_
  refine g_iconst C (v := nI 0) dL_placeIn_1 (by decide) ?_
  refine g_aload_n C dL_placeIn_2 rfl (by first | rfl | exact isR_rf _) ?_
  refine g_iload_n C dL_placeIn_3 rfl ?_
  refine g_iload_n C dL_placeIn_4 rfl ?_
  refine g_callVX C (C_placeIn l Y hfl r iv hZ i j) ok_X2_placeIn w646 (r.x) rfl rfl rfl dL_placeIn_5 (Nat.le_of_ble_eq_true rfl) (Nat.le_of_ble_eq_true rfl) (Nat.le_of_ble_eq_true rfl) (Nat.le_of_ble_eq_true rfl) (Nat.le_of_ble_eq_true rfl) (kx) (fun vv h2 e2 => ?_)
  obtain ⟨e3, rfl, hok⟩ := e2
  have ho2 := hok.2 _ _ ho rfl
  refine g_i2l C dL_placeIn_8 ?_
  refine g_last C ho2 rfl (by decide) (by decide) dL_placeIn_9 ?_
  refine g_goto C (tgt := 17) dL_placeIn_10 (by decide) ?_
  refine g_iconst C (v := nI 0) dL_placeIn_17 (by decide) ?_
  exact g_iret C hr dL_placeIn_18 (by omega) (by omega) ⟨by rw [e3], h2, _, hok, rfl, fun _ => if_pos rfl⟩
set_option maxRecDepth 100000 in
set_option maxHeartbeats 4000000 in
theorem W_lyingIn (l : Launch) (Y : YG) (hfl : l.stackTraces = false) {x : Nat} {v : Vw} {g : Sg} {Z : Nat → Prop} {h : AH} (r : RepC Y x v g Z h) (iv : Inv g) (hZ : ∀ a, Z a → h a ≠ none) {ob : Nat} {fo : Nat → Int64} (ho : h ob = some (aJ Y 1 fo)) (i : Int32) : MW l Y yL_lyingIn cL_lyingIn 4 (some .int) [(0, 9, 12, 30)] 8 132 1 6 [.ref x, .int i, .ref ob] h (pW Y x Z ob h (qR g ((idx g.n i).map (fun j => nI (lyN g j))))) := by
  refine MW.of (by decide +kernel) (Nat.le_of_ble_eq_true rfl) ?_
  intro p e s m args0 below meth c C hr htab
  have kx : ∀ (E : String) (h2 : AH), cX Y x Z h (qR g ((idx g.n i).map (fun j => nI (lyN g j)))) sIO E h2 → Gx p l e (rmO 8 132 1 6) s m args0 below meth c (vx_MQ below (Qk Y (pW Y x Z ob h (qR g ((idx g.n i).map (fun j => nI (lyN g j)))))) (Xk Y (noX)) args0 s 1 6 Y.A) Y 4 4 [some (.ref x), some (.int i), some (.ref ob), none] [.int (nI 0), .ref ob] h2 1 6 E := by
    intro E h2 ⟨hE, hok⟩
    have ho2 := hok.2 _ _ ho rfl
    rcases hE with ⟨h1, rfl⟩ | ⟨h1, rfl⟩
    · refine g_catch C [] ⟨0, 9, 12, 30⟩ [] htab (fun z hz => absurd hz List.not_mem_nil) rfl (show 30 ≠ 0 by decide) w548 (tf_ca_IndexOutOfBoundsException C) (fun q => ?_)
      refine g_astore_n C dL_lyingIn_12 (by decide) rfl ?_
      refine g_iconst C (v := nI 1) dL_lyingIn_13 (by decide) ?_
      exact g_iret C hr dL_lyingIn_14 (by omega) (by omega) ⟨by rw [h1], h2, fo, hok, (hup_same ho2).symm, fun z => absurd (h1.symm.trans z) (by decide)⟩
    · exact absurd h1 (by first | exact nq2 | exact ng2)
  refine g_aload_n C dL_lyingIn_0 rfl (by first | rfl | exact isR_rf _) ?_
  refine g_iconst C (v := nI 0) dL_lyingIn_1 (by decide) ?_
  refine g_aload_n C dL_lyingIn_2 rfl (by first | rfl | exact isR_rf _) ?_
  refine g_iload_n C dL_lyingIn_3 rfl ?_
  refine g_callVX C (C_lyingIn l Y hfl r iv hZ i) ok_X2_lyingIn w653 (r.x) rfl rfl rfl dL_lyingIn_4 (Nat.le_of_ble_eq_true rfl) (Nat.le_of_ble_eq_true rfl) (Nat.le_of_ble_eq_true rfl) (Nat.le_of_ble_eq_true rfl) (Nat.le_of_ble_eq_true rfl) (kx) (fun vv h2 e2 => ?_)
  obtain ⟨e3, rfl, hok⟩ := e2
  have ho2 := hok.2 _ _ ho rfl
  refine g_i2l C dL_lyingIn_7 ?_
  refine g_last C ho2 rfl (by decide) (by decide) dL_lyingIn_8 ?_
  refine g_goto C (tgt := 15) dL_lyingIn_9 (by decide) ?_
  refine g_iconst C (v := nI 0) dL_lyingIn_15 (by decide) ?_
  exact g_iret C hr dL_lyingIn_16 (by omega) (by omega) ⟨by rw [e3], h2, _, hok, rfl, fun _ => if_pos rfl⟩
set_option maxRecDepth 100000 in
set_option maxHeartbeats 4000000 in
theorem W_areAlike (l : Launch) (Y : YG) (hfl : l.stackTraces = false) {x : Nat} {v : Vw} {g : Sg} {Z : Nat → Prop} {h : AH} (r : RepC Y x v g Z h) (iv : Inv g) (hZ : ∀ a, Z a → h a ≠ none) {ob : Nat} {fo : Nat → Int64} (ho : h ob = some (aJ Y 1 fo)) (i j : Int32) : MW l Y yL_areAlike cL_areAlike 5 (some .int) [(0, 17, 20, 30)] 8 135 2 12 [.ref x, .int i, .int j, .ref ob] h (pW Y x Z ob h (qR g ((idx g.n i).bind (fun a => (idx g.n j).map (fun b => (if lkB g a b then 1 else 0)))))) := by
  have hb : (qR g ((idx g.n i).bind (fun a => (idx g.n j).map (fun b => (if lkB g a b then 1 else 0))))).2.1 = 0 ∨ (qR g ((idx g.n i).bind (fun a => (idx g.n j).map (fun b => (if lkB g a b then 1 else 0))))).2.1 = 1 := by
    first | exact bo_1 | exact bo_2 | exact bo_3
  refine MW.of (by decide +kernel) (Nat.le_of_ble_eq_true rfl) ?_
  intro p e s m args0 below meth c C hr htab
  have kx : ∀ (E : String) (h2 : AH), cX Y x Z h (qR g ((idx g.n i).bind (fun a => (idx g.n j).map (fun b => (if lkB g a b then 1 else 0))))) sIO E h2 → Gx p l e (rmO 8 135 2 12) s m args0 below meth c (vx_MQ below (Qk Y (pW Y x Z ob h (qR g ((idx g.n i).bind (fun a => (idx g.n j).map (fun b => (if lkB g a b then 1 else 0))))))) (Xk Y (noX)) args0 s 2 12 Y.A) Y 5 5 [some (.ref x), some (.int i), some (.int j), some (.ref ob), none] [.int (nI 0), .ref ob] h2 2 12 E := by
    intro E h2 ⟨hE, hok⟩
    have ho2 := hok.2 _ _ ho rfl
    rcases hE with ⟨h1, rfl⟩ | ⟨h1, rfl⟩
    · refine g_catch C [] ⟨0, 17, 20, 30⟩ [] htab (fun z hz => absurd hz List.not_mem_nil) rfl (show 30 ≠ 0 by decide) w548 (tf_ca_IndexOutOfBoundsException C) (fun q => ?_)
      refine g_astore C dL_areAlike_20 (by decide) rfl ?_
      refine g_iconst C (v := nI 1) dL_areAlike_22 (by decide) ?_
      exact g_iret C hr dL_areAlike_23 (by omega) (by omega) ⟨by rw [h1], h2, fo, hok, (hup_same ho2).symm, fun z => absurd (h1.symm.trans z) (by decide)⟩
    · exact absurd h1 (by first | exact nq2 | exact ng2)
  refine g_aload_n C dL_areAlike_0 rfl (by first | rfl | exact isR_rf _) ?_
  refine g_iconst C (v := nI 0) dL_areAlike_1 (by decide) ?_
  refine g_aload_n C dL_areAlike_2 rfl (by first | rfl | exact isR_rf _) ?_
  refine g_iload_n C dL_areAlike_3 rfl ?_
  refine g_iload_n C dL_areAlike_4 rfl ?_
  refine g_callVX C (C_areAlike l Y hfl r iv hZ i j) ok_X2_areAlike w660 (r.x) rfl rfl rfl dL_areAlike_5 (Nat.le_of_ble_eq_true rfl) (Nat.le_of_ble_eq_true rfl) (Nat.le_of_ble_eq_true rfl) (Nat.le_of_ble_eq_true rfl) (Nat.le_of_ble_eq_true rfl) (kx) (fun vv h2 e2 => ?_)
  obtain ⟨e3, rfl, hok⟩ := e2
  have ho2 := hok.2 _ _ ho rfl
  rcases hb with hb | hb
  · rw [hb]
    refine g_if_eq C (tgt := 15) dL_areAlike_8 (by decide) (fun q => ?_) (fun q => absurd rfl q)
    refine g_lconst C dL_areAlike_15 rfl ?_
    refine g_last C ho2 rfl (by decide) (by decide) dL_areAlike_16 ?_
    refine g_goto C (tgt := 24) dL_areAlike_17 (by decide) ?_
    refine g_iconst C (v := nI 0) dL_areAlike_24 (by decide) ?_
    exact g_iret C hr dL_areAlike_25 (by omega) (by omega) ⟨by rw [e3], h2, _, hok, rfl, fun _ => (by rw [hb]; exact if_pos rfl)⟩
  · rw [hb]
    refine g_if_eq C (tgt := 15) dL_areAlike_8 (by decide) (fun q => absurd q (by decide)) (fun q => ?_)
    refine g_lconst C dL_areAlike_11 rfl ?_
    refine g_goto C (tgt := 16) dL_areAlike_12 (by decide) ?_
    refine g_last C ho2 rfl (by decide) (by decide) dL_areAlike_16 ?_
    refine g_goto C (tgt := 24) dL_areAlike_17 (by decide) ?_
    refine g_iconst C (v := nI 0) dL_areAlike_24 (by decide) ?_
    exact g_iret C hr dL_areAlike_25 (by omega) (by omega) ⟨by rw [e3], h2, _, hok, rfl, fun _ => (by rw [hb]; exact if_pos rfl)⟩
set_option maxRecDepth 100000 in
set_option maxHeartbeats 4000000 in
theorem W_canDo (l : Launch) (Y : YG) (hfl : l.stackTraces = false) {x : Nat} {v : Vw} {g : Sg} {Z : Nat → Prop} {h : AH} (r : RepC Y x v g Z h) (iv : Inv g) (hZ : ∀ a, Z a → h a ≠ none) {ob : Nat} {fo : Nat → Int64} (ho : h ob = some (aJ Y 1 fo)) (i j : Int32) : MW l Y yL_canDo cL_canDo 5 (some .int) [(0, 17, 20, 13)] 8 150 2 19 [.ref x, .int i, .int j, .ref ob] h (pW Y x Z ob h (qR g (cdO g i j))) := by
  have hb : (qR g (cdO g i j)).2.1 = 0 ∨ (qR g (cdO g i j)).2.1 = 1 := by
    first | exact bo_1 | exact bo_2 | exact bo_3
  refine MW.of (by decide +kernel) (Nat.le_of_ble_eq_true rfl) ?_
  intro p e s m args0 below meth c C hr htab
  have kx : ∀ (E : String) (h2 : AH), cX Y x Z h (qR g (cdO g i j)) sIA E h2 → Gx p l e (rmO 8 150 2 19) s m args0 below meth c (vx_MQ below (Qk Y (pW Y x Z ob h (qR g (cdO g i j)))) (Xk Y (noX)) args0 s 2 19 Y.A) Y 5 5 [some (.ref x), some (.int i), some (.int j), some (.ref ob), none] [.int (nI 0), .ref ob] h2 2 19 E := by
    intro E h2 ⟨hE, hok⟩
    have ho2 := hok.2 _ _ ho rfl
    rcases hE with ⟨h1, rfl⟩ | ⟨h1, rfl⟩
    · refine g_catch C [] ⟨0, 17, 20, 13⟩ [] htab (fun z hz => absurd hz List.not_mem_nil) rfl (show 13 ≠ 0 by decide) w396 (tf_ca_IllegalArgumentException C) (fun q => ?_)
      refine g_astore C dL_canDo_20 (by decide) rfl ?_
      refine g_iconst C (v := nI 1) dL_canDo_22 (by decide) ?_
      exact g_iret C hr dL_canDo_23 (by omega) (by omega) ⟨by rw [h1], h2, fo, hok, (hup_same ho2).symm, fun z => absurd (h1.symm.trans z) (by decide)⟩
    · exact absurd h1 (by first | exact nq2 | exact ng2)
  refine g_aload_n C dL_canDo_0 rfl (by first | rfl | exact isR_rf _) ?_
  refine g_iconst C (v := nI 0) dL_canDo_1 (by decide) ?_
  refine g_aload_n C dL_canDo_2 rfl (by first | rfl | exact isR_rf _) ?_
  refine g_iload_n C dL_canDo_3 rfl ?_
  refine g_iload_n C dL_canDo_4 rfl ?_
  refine g_callVX C (C_canDo l Y hfl r iv hZ i j) ok_X2_canDo w576 (r.x) rfl rfl rfl dL_canDo_5 (Nat.le_of_ble_eq_true rfl) (Nat.le_of_ble_eq_true rfl) (Nat.le_of_ble_eq_true rfl) (Nat.le_of_ble_eq_true rfl) (Nat.le_of_ble_eq_true rfl) (kx) (fun vv h2 e2 => ?_)
  obtain ⟨e3, rfl, hok⟩ := e2
  have ho2 := hok.2 _ _ ho rfl
  rcases hb with hb | hb
  · rw [hb]
    refine g_if_eq C (tgt := 15) dL_canDo_8 (by decide) (fun q => ?_) (fun q => absurd rfl q)
    refine g_lconst C dL_canDo_15 rfl ?_
    refine g_last C ho2 rfl (by decide) (by decide) dL_canDo_16 ?_
    refine g_goto C (tgt := 24) dL_canDo_17 (by decide) ?_
    refine g_iconst C (v := nI 0) dL_canDo_24 (by decide) ?_
    exact g_iret C hr dL_canDo_25 (by omega) (by omega) ⟨by rw [e3], h2, _, hok, rfl, fun _ => (by rw [hb]; exact if_pos rfl)⟩
  · rw [hb]
    refine g_if_eq C (tgt := 15) dL_canDo_8 (by decide) (fun q => absurd q (by decide)) (fun q => ?_)
    refine g_lconst C dL_canDo_11 rfl ?_
    refine g_goto C (tgt := 16) dL_canDo_12 (by decide) ?_
    refine g_last C ho2 rfl (by decide) (by decide) dL_canDo_16 ?_
    refine g_goto C (tgt := 24) dL_canDo_17 (by decide) ?_
    refine g_iconst C (v := nI 0) dL_canDo_24 (by decide) ?_
    exact g_iret C hr dL_canDo_25 (by omega) (by omega) ⟨by rw [e3], h2, _, hok, rfl, fun _ => (by rw [hb]; exact if_pos rfl)⟩
set_option maxRecDepth 100000 in
set_option maxHeartbeats 4000000 in
theorem W_setPiece (l : Launch) (Y : YG) (hfl : l.stackTraces = false) {x : Nat} {v : Vw} {g : Sg} {Z : Nat → Prop} {h : AH} (r : RepC Y x v g Z h) (iv : Inv g) (hZ : ∀ a, Z a → h a ≠ none) {ob : Nat} {fo : Nat → Int64} (ho : h ob = some (aJ Y 1 fo)) (i j : Int32) : MW l Y yL_setPiece cL_setPiece 5 (some .int) [(0, 10, 13, 13), (0, 10, 17, 15) ] 8 135 3 26 [.ref x, .int i, .int j, .ref ob] h (pW Y x Z ob h (rSet g i j)) := by
  refine MW.of (by decide +kernel) (Nat.le_of_ble_eq_true rfl) ?_
  intro p e s m args0 below meth c C hr htab
  have kx : ∀ (E : String) (h2 : AH), cX Y x Z h (rSet g i j) sIA E h2 → Gx p l e (rmO 8 135 3 26) s m args0 below meth c (vx_MQ below (Qk Y (pW Y x Z ob h (rSet g i j))) (Xk Y (noX)) args0 s 3 26 Y.A) Y 5 5 [some (.ref x), some (.int i), some (.int j), some (.ref ob), none] [.int (nI 0), .ref ob] h2 3 26 E := by
    intro E h2 ⟨hE, hok⟩
    have ho2 := hok.2 _ _ ho rfl
    rcases hE with ⟨h1, rfl⟩ | ⟨h1, rfl⟩
    · refine g_catch C [] ⟨0, 10, 13, 13⟩ [⟨0, 10, 17, 15⟩] htab (fun z hz => absurd hz List.not_mem_nil) rfl (show 13 ≠ 0 by decide) w396 (tf_ca_IllegalArgumentException C) (fun q => ?_)
      refine g_astore C dL_setPiece_13 (by decide) rfl ?_
      refine g_iconst C (v := nI 1) dL_setPiece_15 (by decide) ?_
      exact g_iret C hr dL_setPiece_16 (by omega) (by omega) ⟨by rw [h1], h2, fo, hok, (hup_same ho2).symm, fun z => absurd (h1.symm.trans z) (by decide)⟩
    · refine g_catch C [⟨0, 10, 13, 13⟩] ⟨0, 10, 17, 15⟩ [] htab (fun z hz => Or.inr ?_) rfl (show 15 ≠ 0 by decide) w397 (tf_ca_IllegalStateException C) (fun q => ?_)
      · cases List.mem_singleton.mp hz
        exact ⟨(show 13 ≠ 0 by decide), _, w396, tf_ncISIA C⟩
      · refine g_astore C dL_setPiece_17 (by decide) rfl ?_
        refine g_iconst C (v := nI 2) dL_setPiece_19 (by decide) ?_
        exact g_iret C hr dL_setPiece_20 (by omega) (by omega) ⟨by rw [h1], h2, fo, hok, (hup_same ho2).symm, fun z => absurd (h1.symm.trans z) (by decide)⟩
  refine g_aload_n C dL_setPiece_0 rfl (by first | rfl | exact isR_rf _) ?_
  refine g_iconst C (v := nI 0) dL_setPiece_1 (by decide) ?_
  refine g_aload_n C dL_setPiece_2 rfl (by first | rfl | exact isR_rf _) ?_
  refine g_iload_n C dL_setPiece_3 rfl ?_
  refine g_iload_n C dL_setPiece_4 rfl ?_
  refine g_callVX C (C_setPiece l Y hfl r iv hZ i j) ok_X2_setPiece w398 (r.x) rfl rfl rfl dL_setPiece_5 (Nat.le_of_ble_eq_true rfl) (Nat.le_of_ble_eq_true rfl) (Nat.le_of_ble_eq_true rfl) (Nat.le_of_ble_eq_true rfl) (Nat.le_of_ble_eq_true rfl) (kx) (fun vv h2 e2 => ?_)
  obtain ⟨e3, rfl, hok⟩ := e2
  have ho2 := hok.2 _ _ ho rfl
  refine g_i2l C dL_setPiece_8 ?_
  refine g_last C ho2 rfl (by decide) (by decide) dL_setPiece_9 ?_
  refine g_goto C (tgt := 21) dL_setPiece_10 (by decide) ?_
  refine g_iconst C (v := nI 0) dL_setPiece_21 (by decide) ?_
  exact g_iret C hr dL_setPiece_22 (by omega) (by omega) ⟨by rw [e3], h2, _, hok, rfl, fun _ => if_pos rfl⟩
set_option maxRecDepth 100000 in
set_option maxHeartbeats 4000000 in
theorem W_paw (l : Launch) (Y : YG) (hfl : l.stackTraces = false) {x : Nat} {v : Vw} {g : Sg} {Z : Nat → Prop} {h : AH} (r : RepC Y x v g Z h) (iv : Inv g) (hZ : ∀ a, Z a → h a ≠ none) {ob : Nat} {fo : Nat → Int64} (ho : h ob = some (aJ Y 1 fo)) (i j : Int32) : MW l Y yL_paw cL_paw 5 (some .int) [(0, 10, 13, 13), (0, 10, 17, 15) ] 8 200 4 140 [.ref x, .int i, .int j, .ref ob] h (pW Y x Z ob h (rPaw g i j)) := by
  refine MW.of (by decide +kernel) (Nat.le_of_ble_eq_true rfl) ?_
  intro p e s m args0 below meth c C hr htab
  have kx : ∀ (E : String) (h2 : AH), cX Y x Z h (rPaw g i j) sIA E h2 → Gx p l e (rmO 8 200 4 140) s m args0 below meth c (vx_MQ below (Qk Y (pW Y x Z ob h (rPaw g i j))) (Xk Y (noX)) args0 s 4 140 Y.A) Y 5 5 [some (.ref x), some (.int i), some (.int j), some (.ref ob), none] [.int (nI 0), .ref ob] h2 4 140 E := by
    intro E h2 ⟨hE, hok⟩
    have ho2 := hok.2 _ _ ho rfl
    rcases hE with ⟨h1, rfl⟩ | ⟨h1, rfl⟩
    · refine g_catch C [] ⟨0, 10, 13, 13⟩ [⟨0, 10, 17, 15⟩] htab (fun z hz => absurd hz List.not_mem_nil) rfl (show 13 ≠ 0 by decide) w396 (tf_ca_IllegalArgumentException C) (fun q => ?_)
      refine g_astore C dL_paw_13 (by decide) rfl ?_
      refine g_iconst C (v := nI 1) dL_paw_15 (by decide) ?_
      exact g_iret C hr dL_paw_16 (by omega) (by omega) ⟨by rw [h1], h2, fo, hok, (hup_same ho2).symm, fun z => absurd (h1.symm.trans z) (by decide)⟩
    · refine g_catch C [⟨0, 10, 13, 13⟩] ⟨0, 10, 17, 15⟩ [] htab (fun z hz => Or.inr ?_) rfl (show 15 ≠ 0 by decide) w397 (tf_ca_IllegalStateException C) (fun q => ?_)
      · cases List.mem_singleton.mp hz
        exact ⟨(show 13 ≠ 0 by decide), _, w396, tf_ncISIA C⟩
      · refine g_astore C dL_paw_17 (by decide) rfl ?_
        refine g_iconst C (v := nI 2) dL_paw_19 (by decide) ?_
        exact g_iret C hr dL_paw_20 (by omega) (by omega) ⟨by rw [h1], h2, fo, hok, (hup_same ho2).symm, fun z => absurd (h1.symm.trans z) (by decide)⟩
  refine g_aload_n C dL_paw_0 rfl (by first | rfl | exact isR_rf _) ?_
  refine g_iconst C (v := nI 0) dL_paw_1 (by decide) ?_
  refine g_aload_n C dL_paw_2 rfl (by first | rfl | exact isR_rf _) ?_
  refine g_iload_n C dL_paw_3 rfl ?_
  refine g_iload_n C dL_paw_4 rfl ?_
  refine g_callVX C (C_paw l Y hfl r iv hZ i j) ok_X2_paw w456 (r.x) rfl rfl rfl dL_paw_5 (Nat.le_of_ble_eq_true rfl) (Nat.le_of_ble_eq_true rfl) (Nat.le_of_ble_eq_true rfl) (Nat.le_of_ble_eq_true rfl) (Nat.le_of_ble_eq_true rfl) (kx) (fun vv h2 e2 => ?_)
  obtain ⟨e3, rfl, hok⟩ := e2
  have ho2 := hok.2 _ _ ho rfl
  refine g_i2l C dL_paw_8 ?_
  refine g_last C ho2 rfl (by decide) (by decide) dL_paw_9 ?_
  refine g_goto C (tgt := 21) dL_paw_10 (by decide) ?_
  refine g_iconst C (v := nI 0) dL_paw_21 (by decide) ?_
  exact g_iret C hr dL_paw_22 (by omega) (by omega) ⟨by rw [e3], h2, _, hok, rfl, fun _ => if_pos rfl⟩
set_option maxRecDepth 100000 in
set_option maxHeartbeats 4000000 in
theorem W_undo (l : Launch) (Y : YG) (hfl : l.stackTraces = false) {x : Nat} {v : Vw} {g : Sg} {Z : Nat → Prop} {h : AH} (r : RepC Y x v g Z h) (iv : Inv g) (hZ : ∀ a, Z a → h a ≠ none) {ob : Nat} {fo : Nat → Int64} (ho : h ob = some (aJ Y 1 fo)) (i : Int32) : MW l Y yL_undo cL_undo 4 (some .int) [(0, 9, 12, 13), (0, 9, 15, 15) ] 8 133 2 12 [.ref x, .int i, .ref ob] h (pW Y x Z ob h (rUndo g i)) := by
  refine MW.of (by decide +kernel) (Nat.le_of_ble_eq_true rfl) ?_
  intro p e s m args0 below meth c C hr htab
  have kx : ∀ (E : String) (h2 : AH), cX Y x Z h (rUndo g i) sIA E h2 → Gx p l e (rmO 8 133 2 12) s m args0 below meth c (vx_MQ below (Qk Y (pW Y x Z ob h (rUndo g i))) (Xk Y (noX)) args0 s 2 12 Y.A) Y 4 4 [some (.ref x), some (.int i), some (.ref ob), none] [.int (nI 0), .ref ob] h2 2 12 E := by
    intro E h2 ⟨hE, hok⟩
    have ho2 := hok.2 _ _ ho rfl
    rcases hE with ⟨h1, rfl⟩ | ⟨h1, rfl⟩
    · refine g_catch C [] ⟨0, 9, 12, 13⟩ [⟨0, 9, 15, 15⟩] htab (fun z hz => absurd hz List.not_mem_nil) rfl (show 13 ≠ 0 by decide) w396 (tf_ca_IllegalArgumentException C) (fun q => ?_)
      refine g_astore_n C dL_undo_12 (by decide) rfl ?_
      refine g_iconst C (v := nI 1) dL_undo_13 (by decide) ?_
      exact g_iret C hr dL_undo_14 (by omega) (by omega) ⟨by rw [h1], h2, fo, hok, (hup_same ho2).symm, fun z => absurd (h1.symm.trans z) (by decide)⟩
    · refine g_catch C [⟨0, 9, 12, 13⟩] ⟨0, 9, 15, 15⟩ [] htab (fun z hz => Or.inr ?_) rfl (show 15 ≠ 0 by decide) w397 (tf_ca_IllegalStateException C) (fun q => ?_)
      · cases List.mem_singleton.mp hz
        exact ⟨(show 13 ≠ 0 by decide), _, w396, tf_ncISIA C⟩
      · refine g_astore_n C dL_undo_15 (by decide) rfl ?_
        refine g_iconst C (v := nI 2) dL_undo_16 (by decide) ?_
        exact g_iret C hr dL_undo_17 (by omega) (by omega) ⟨by rw [h1], h2, fo, hok, (hup_same ho2).symm, fun z => absurd (h1.symm.trans z) (by decide)⟩
  refine g_aload_n C dL_undo_0 rfl (by first | rfl | exact isR_rf _) ?_
  refine g_iconst C (v := nI 0) dL_undo_1 (by decide) ?_
  refine g_aload_n C dL_undo_2 rfl (by first | rfl | exact isR_rf _) ?_
  refine g_iload_n C dL_undo_3 rfl ?_
  refine g_callVX C (C_undo l Y hfl r iv hZ i) ok_X2_undo w528 (r.x) rfl rfl rfl dL_undo_4 (Nat.le_of_ble_eq_true rfl) (Nat.le_of_ble_eq_true rfl) (Nat.le_of_ble_eq_true rfl) (Nat.le_of_ble_eq_true rfl) (Nat.le_of_ble_eq_true rfl) (kx) (fun vv h2 e2 => ?_)
  obtain ⟨e3, rfl, hok⟩ := e2
  have ho2 := hok.2 _ _ ho rfl
  refine g_i2l C dL_undo_7 ?_
  refine g_last C ho2 rfl (by decide) (by decide) dL_undo_8 ?_
  refine g_goto C (tgt := 18) dL_undo_9 (by decide) ?_
  refine g_iconst C (v := nI 0) dL_undo_18 (by decide) ?_
  exact g_iret C hr dL_undo_19 (by omega) (by omega) ⟨by rw [e3], h2, _, hok, rfl, fun _ => if_pos rfl⟩
set_option maxRecDepth 100000 in
set_option maxHeartbeats 4000000 in
theorem W_redo (l : Launch) (Y : YG) (hfl : l.stackTraces = false) {x : Nat} {v : Vw} {g : Sg} {Z : Nat → Prop} {h : AH} (r : RepC Y x v g Z h) (iv : Inv g) (hZ : ∀ a, Z a → h a ≠ none) {ob : Nat} {fo : Nat → Int64} (ho : h ob = some (aJ Y 1 fo)) (i : Int32) : MW l Y yL_redo cL_redo 4 (some .int) [(0, 9, 12, 13), (0, 9, 15, 15) ] 8 133 2 12 [.ref x, .int i, .ref ob] h (pW Y x Z ob h (rRedo g i)) := by
  refine MW.of (by decide +kernel) (Nat.le_of_ble_eq_true rfl) ?_
  intro p e s m args0 below meth c C hr htab
  have kx : ∀ (E : String) (h2 : AH), cX Y x Z h (rRedo g i) sIA E h2 → Gx p l e (rmO 8 133 2 12) s m args0 below meth c (vx_MQ below (Qk Y (pW Y x Z ob h (rRedo g i))) (Xk Y (noX)) args0 s 2 12 Y.A) Y 4 4 [some (.ref x), some (.int i), some (.ref ob), none] [.int (nI 0), .ref ob] h2 2 12 E := by
    intro E h2 ⟨hE, hok⟩
    have ho2 := hok.2 _ _ ho rfl
    rcases hE with ⟨h1, rfl⟩ | ⟨h1, rfl⟩
    · refine g_catch C [] ⟨0, 9, 12, 13⟩ [⟨0, 9, 15, 15⟩] htab (fun z hz => absurd hz List.not_mem_nil) rfl (show 13 ≠ 0 by decide) w396 (tf_ca_IllegalArgumentException C) (fun q => ?_)
      refine g_astore_n C dL_redo_12 (by decide) rfl ?_
      refine g_iconst C (v := nI 1) dL_redo_13 (by decide) ?_
      exact g_iret C hr dL_redo_14 (by omega) (by omega) ⟨by rw [h1], h2, fo, hok, (hup_same ho2).symm, fun z => absurd (h1.symm.trans z) (by decide)⟩
    · refine g_catch C [⟨0, 9, 12, 13⟩] ⟨0, 9, 15, 15⟩ [] htab (fun z hz => Or.inr ?_) rfl (show 15 ≠ 0 by decide) w397 (tf_ca_IllegalStateException C) (fun q => ?_)
      · cases List.mem_singleton.mp hz
        exact ⟨(show 13 ≠ 0 by decide), _, w396, tf_ncISIA C⟩
      · refine g_astore_n C dL_redo_15 (by decide) rfl ?_
        refine g_iconst C (v := nI 2) dL_redo_16 (by decide) ?_
        exact g_iret C hr dL_redo_17 (by omega) (by omega) ⟨by rw [h1], h2, fo, hok, (hup_same ho2).symm, fun z => absurd (h1.symm.trans z) (by decide)⟩
  refine g_aload_n C dL_redo_0 rfl (by first | rfl | exact isR_rf _) ?_
  refine g_iconst C (v := nI 0) dL_redo_1 (by decide) ?_
  refine g_aload_n C dL_redo_2 rfl (by first | rfl | exact isR_rf _) ?_
  refine g_iload_n C dL_redo_3 rfl ?_
  refine g_callVX C (C_redo l Y hfl r iv hZ i) ok_X2_redo w540 (r.x) rfl rfl rfl dL_redo_4 (Nat.le_of_ble_eq_true rfl) (Nat.le_of_ble_eq_true rfl) (Nat.le_of_ble_eq_true rfl) (Nat.le_of_ble_eq_true rfl) (Nat.le_of_ble_eq_true rfl) (kx) (fun vv h2 e2 => ?_)
  obtain ⟨e3, rfl, hok⟩ := e2
  have ho2 := hok.2 _ _ ho rfl
  refine g_i2l C dL_redo_7 ?_
  refine g_last C ho2 rfl (by decide) (by decide) dL_redo_8 ?_
  refine g_goto C (tgt := 18) dL_redo_9 (by decide) ?_
  refine g_iconst C (v := nI 0) dL_redo_18 (by decide) ?_
  exact g_iret C hr dL_redo_19 (by omega) (by omega) ⟨by rw [e3], h2, _, hok, rfl, fun _ => if_pos rfl⟩
set_option maxRecDepth 100000 in
set_option maxHeartbeats 4000000 in
theorem W_goTo (l : Launch) (Y : YG) (hfl : l.stackTraces = false) {x : Nat} {v : Vw} {g : Sg} {Z : Nat → Prop} {h : AH} (r : RepC Y x v g Z h) (iv : Inv g) (hZ : ∀ a, Z a → h a ≠ none) {ob : Nat} {fo : Nat → Int64} (ho : h ob = some (aJ Y 1 fo)) (i : Int32) : MW l Y yL_goTo cL_goTo 4 (some .int) [(0, 9, 12, 30)] 8 134 1 6 [.ref x, .int i, .ref ob] h (pW Y x Z ob h (rGo g i)) := by
  refine MW.of (by decide +kernel) (Nat.le_of_ble_eq_true rfl) ?_
  intro p e s m args0 below meth c C hr htab
  have kx : ∀ (E : String) (h2 : AH), cX Y x Z h (rGo g i) sIO E h2 → Gx p l e (rmO 8 134 1 6) s m args0 below meth c (vx_MQ below (Qk Y (pW Y x Z ob h (rGo g i))) (Xk Y (noX)) args0 s 1 6 Y.A) Y 4 4 [some (.ref x), some (.int i), some (.ref ob), none] [.int (nI 0), .ref ob] h2 1 6 E := by
    intro E h2 ⟨hE, hok⟩
    have ho2 := hok.2 _ _ ho rfl
    rcases hE with ⟨h1, rfl⟩ | ⟨h1, rfl⟩
    · refine g_catch C [] ⟨0, 9, 12, 30⟩ [] htab (fun z hz => absurd hz List.not_mem_nil) rfl (show 30 ≠ 0 by decide) w548 (tf_ca_IndexOutOfBoundsException C) (fun q => ?_)
      refine g_astore_n C dL_goTo_12 (by decide) rfl ?_
      refine g_iconst C (v := nI 1) dL_goTo_13 (by decide) ?_
      exact g_iret C hr dL_goTo_14 (by omega) (by omega) ⟨by rw [h1], h2, fo, hok, (hup_same ho2).symm, fun z => absurd (h1.symm.trans z) (by decide)⟩
    · exact absurd h1 (by first | exact nq2 | exact ng2)
  refine g_aload_n C dL_goTo_0 rfl (by first | rfl | exact isR_rf _) ?_
  refine g_iconst C (v := nI 0) dL_goTo_1 (by decide) ?_
  refine g_aload_n C dL_goTo_2 rfl (by first | rfl | exact isR_rf _) ?_
  refine g_iload_n C dL_goTo_3 rfl ?_
  refine g_callVX C (C_goTo l Y hfl r iv hZ i) ok_X2_goTo w549 (r.x) rfl rfl rfl dL_goTo_4 (Nat.le_of_ble_eq_true rfl) (Nat.le_of_ble_eq_true rfl) (Nat.le_of_ble_eq_true rfl) (Nat.le_of_ble_eq_true rfl) (Nat.le_of_ble_eq_true rfl) (kx) (fun vv h2 e2 => ?_)
  obtain ⟨e3, rfl, hok⟩ := e2
  have ho2 := hok.2 _ _ ho rfl
  refine g_i2l C dL_goTo_7 ?_
  refine g_last C ho2 rfl (by decide) (by decide) dL_goTo_8 ?_
  refine g_goto C (tgt := 15) dL_goTo_9 (by decide) ?_
  refine g_iconst C (v := nI 0) dL_goTo_15 (by decide) ?_
  exact g_iret C hr dL_goTo_16 (by omega) (by omega) ⟨by rw [e3], h2, _, hok, rfl, fun _ => if_pos rfl⟩
