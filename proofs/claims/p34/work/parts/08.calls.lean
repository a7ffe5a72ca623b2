/-! ===== contracts ===== -/
def Qk (Y : YG) (post : Option Value → AH → Prop) : Array Value → State → Outcome → State → Prop := fun _ st o t => (∃ (v : Option Value) (h' : AH), o = .returned v ∧ post v h' ∧ cw Y h' t.heap) ∧ va_F Y.A st t
def Xk (Y : YG) (px : String → AH → Prop) : String → State → State → Prop := fun E st t => (∃ h' : AH, px E h' ∧ cw Y h' t.heap) ∧ va_F Y.A st t
abbrev rmO (f L mc ms : Nat) : Room := { frames := f, cells := mc, slots := ms, locals := L }
def MK (l : Launch) (Y : YG) (y : MethodName) (cc : ByteArray) (maxL : Nat) (ret : Option FieldType) (f L mc ms : Nat) (As : List Value) (h : AH) (post : Option Value → AH → Prop) : Prop :=
  Met l y (Cond.code y cc maxL ret :: AllW) (rmO f L mc ms) (va_Pc As (WD Y h)) (Qk Y post) mc ms Y.A
def MX (l : Launch) (Y : YG) (y : MethodName) (cc : ByteArray) (maxL : Nat) (ret : Option FieldType) (f L mc ms : Nat) (As : List Value) (h : AH) (post : Option Value → AH → Prop) (px : String → AH → Prop) : Prop :=
  vx_Met l y (Cond.code y cc maxL ret :: AllW) (rmO f L mc ms) (va_Pc As (WD Y h)) (Qk Y post) (Xk Y px) mc ms Y.A
/-- a method with a table of its own -/
def MW (l : Launch) (Y : YG) (y : MethodName) (cc : ByteArray) (maxL : Nat) (ret : Option FieldType) (hh : List (Nat × Nat × Nat × Nat)) (f L mc ms : Nat) (As : List Value) (h : AH) (post : Option Value → AH → Prop) : Prop :=
  Met l y (Cond.codeWith y cc maxL ret hh :: AllW) (rmO f L mc ms) (va_Pc As (WD Y h)) (Qk Y post) mc ms Y.A
def noX : String → AH → Prop := fun _ _ => False
theorem met_of_vx {l : Launch} {y : MethodName} {ws : List Cond} {rm : Room} {Pc : Array Value → State → Prop} {Qc : Array Value → State → Outcome → State → Prop} {XC : String → State → State → Prop} {mc ms : Nat} {free : Addr → Prop} (hX : ∀ E st t, ¬ XC E st t) (h : vx_Met l y ws rm Pc Qc XC mc ms free) : Met l y ws rm Pc Qc mc ms free := by
  intro p e ha hc hk s m args below hf happ hP hK
  obtain ⟨n, o, h1, h2, h3, h4⟩ := h p e ha hc hk s m args below hf happ hP hK
  refine ⟨n, o, h1, h2, h3, ?_⟩
  rcases h4 with h4 | ⟨q, -, E, ce, L, hx, -⟩
  · exact h4
  · exact absurd hx (hX _ _ _)
theorem MX.K {l : Launch} {Y : YG} {y : MethodName} {cc : ByteArray} {maxL : Nat} {ret : Option FieldType} {f L mc ms : Nat} {As : List Value} {h : AH} {post : Option Value → AH → Prop} (hM : MX l Y y cc maxL ret f L mc ms As h post noX) : MK l Y y cc maxL ret f L mc ms As h post :=
  met_of_vx (fun E st t hx => by obtain ⟨⟨h', hf, -⟩, -⟩ := hx; exact hf) hM
def pI (q : Int32 → AH → Prop) : Option Value → AH → Prop := fun v h => ∃ r, v = some (.int r) ∧ q r h
def pL (q : Int64 → AH → Prop) : Option Value → AH → Prop := fun v h => ∃ r, v = some (.long r) ∧ q r h
def pD (q : UInt64 → AH → Prop) : Option Value → AH → Prop := fun v h => ∃ r, v = some (.double r) ∧ q r h
def pR (q : Option Nat → AH → Prop) : Option Value → AH → Prop := fun v h => ∃ r, v = some (va_rf r) ∧ q r h
def pV (q : AH → Prop) : Option Value → AH → Prop := fun v h => v = none ∧ q h
/-- one answer, the heap as it was -/
def pS (x : Option Value) (h0 : AH) : Option Value → AH → Prop := fun v h => v = x ∧ h = h0
abbrev bI (b : Bool) : Value := .int (if b then 1 else 0)
theorem MX.imp {l : Launch} {Y : YG} {y : MethodName} {cc : ByteArray} {maxL : Nat} {ret : Option FieldType} {f L mc ms : Nat} {As : List Value} {h : AH} {post post2 : Option Value → AH → Prop} {px px2 : String → AH → Prop} (hM : MX l Y y cc maxL ret f L mc ms As h post px) (h1 : ∀ v h', post v h' → post2 v h') (h2 : ∀ E h', px E h' → px2 E h') : MX l Y y cc maxL ret f L mc ms As h post2 px2 := by
  intro p e ha hc hk s m args below hf happ hP hK
  obtain ⟨n, o, g1, g2, g3, g4⟩ := hM p e ha hc hk s m args below hf happ hP hK
  refine ⟨n, o, g1, g2, g3, ?_⟩
  rcases g4 with ⟨⟨⟨v, h', e1, e2, e3⟩, e4⟩, e5⟩ | ⟨q, e0, E, ce, L, ⟨⟨h', e1, e2⟩, e3⟩, e4⟩
  · exact Or.inl ⟨⟨⟨v, h', e1, h1 v h' e2, e3⟩, e4⟩, e5⟩
  · exact Or.inr ⟨q, e0, E, ce, L, ⟨⟨h', h2 E h' e1, e2⟩, e3⟩, e4⟩
theorem MK.imp {l : Launch} {Y : YG} {y : MethodName} {cc : ByteArray} {maxL : Nat} {ret : Option FieldType} {f L mc ms : Nat} {As : List Value} {h : AH} {post post2 : Option Value → AH → Prop} (hM : MK l Y y cc maxL ret f L mc ms As h post) (h1 : ∀ v h', post v h' → post2 v h') : MK l Y y cc maxL ret f L mc ms As h post2 := by
  intro p e ha hc hk s m args below hf happ hP hK
  obtain ⟨n, o, g1, g2, g3, ⟨⟨v, h', e1, e2, e3⟩, e4⟩, e5⟩ := hM p e ha hc hk s m args below hf happ hP hK
  exact ⟨n, o, g1, g2, g3, ⟨⟨v, h', e1, h1 v h' e2, e3⟩, e4⟩, e5⟩
def Gx (p : Program) (l : Launch) (e : Env) (R : Room) (s : State) (m : MethodId) (args : Array Value) (below : List Frame) (meth : Method) (c : Code) (Q : State → Prop) (Y : YG) (nL : Nat) (pc : Nat) (lv : List (Option Value)) (st : List Value) (h : AH) (k n : Nat) (E : String) : Prop :=
  ∀ (H : Heap) (locs : List Loc) (ls : Array Slot) (q : Nat) (ce : Cell), cw Y h H → va_S Y.A s.heap H locs → lh ls nL lv → H[q]? = some ce → ce.vm = .none → s.vm.findClass E = some ce.cls → vx_W p l e R s m args below meth c H locs k n Q (F0 m pc ls st) q
theorem gi_V {own : String} {i : Nat} {y : MethodName} {cy : ByteArray} {maxL : Nat} {ret : Option FieldType} (h1 : Cond.methodLink own i y ∈ AllW) (h2 : Cond.instanceMethod y ∈ AllW) (h3 : Cond.selects y.cls y y ∈ AllW) (h4 : Cond.initialized y.cls ∈ AllW) (h5 : Cond.code y cy maxL ret ∈ AllW) : GoodIn AllW (wsV own i y.cls y (Cond.code y cy maxL ret :: AllW)) := by
  intro w hw
  have hm : w ∈ AllW := by
    simp only [wsV, List.cons_append, List.nil_append, List.mem_cons] at hw
    rcases hw with rfl | rfl | rfl | rfl | rfl | hw
    · exact h1
    · exact h2
    · exact h3
    · exact h4
    · exact h5
    · exact hw
  exact ⟨hm, aw_good w hm⟩
theorem gi_S {own : String} {i : Nat} {y : MethodName} {cy : ByteArray} {maxL : Nat} {ret : Option FieldType} (h1 : Cond.methodLink own i y ∈ AllW) (h2 : Cond.static y ∈ AllW) (h4 : Cond.initialized y.cls ∈ AllW) (h5 : Cond.code y cy maxL ret ∈ AllW) : GoodIn AllW (va_wsS own i y (Cond.code y cy maxL ret :: AllW)) := by
  intro w hw
  have hm : w ∈ AllW := by
    simp only [va_wsS, List.cons_append, List.nil_append, List.mem_cons] at hw
    rcases hw with rfl | rfl | rfl | rfl | hw
    · exact h1
    · exact h2
    · exact h4
    · exact h5
    · exact hw
  exact ⟨hm, aw_good w hm⟩
theorem gi_W {own : String} {i : Nat} {y : MethodName} {cy : ByteArray} {maxL : Nat} {ret : Option FieldType} {hh : List (Nat × Nat × Nat × Nat)} (h1 : Cond.methodLink own i y ∈ AllW) (h2 : Cond.static y ∈ AllW) (h4 : Cond.initialized y.cls ∈ AllW) (h5 : Cond.codeWith y cy maxL ret hh ∈ AllW) : GoodIn AllW (va_wsS own i y (Cond.codeWith y cy maxL ret hh :: AllW)) := by
  intro w hw
  have hm : w ∈ AllW := by
    simp only [va_wsS, List.cons_append, List.nil_append, List.mem_cons] at hw
    rcases hw with rfl | rfl | rfl | rfl | hw
    · exact h1
    · exact h2
    · exact h4
    · exact h5
    · exact hw
  exact ⟨hm, aw_good w hm⟩
theorem gi_F {own C : String} {i : Nat} {x y : MethodName} {cy : ByteArray} {maxL : Nat} {ret : Option FieldType} (h1 : Cond.methodLink own i x ∈ AllW) (h2 : Cond.selects C x y ∈ AllW) (h3 : Cond.instanceMethod y ∈ AllW) (h4 : Cond.initialized y.cls ∈ AllW) (h5 : Cond.code y cy maxL ret ∈ AllW) : GoodIn AllW (va_wsF own i C x y (Cond.code y cy maxL ret :: AllW)) := by
  intro w hw
  have hm : w ∈ AllW := by
    simp only [va_wsF, List.cons_append, List.nil_append, List.mem_cons] at hw
    rcases hw with rfl | rfl | rfl | rfl | rfl | hw
    · exact h1
    · exact h2
    · exact h3
    · exact h4
    · exact h5
    · exact hw
  exact ⟨hm, aw_good w hm⟩
theorem gi_c {y : MethodName} {cy : ByteArray} {maxL : Nat} {ret : Option FieldType} (h5 : Cond.code y cy maxL ret ∈ AllW) : GoodIn AllW (Cond.code y cy maxL ret :: AllW) := by
  intro w hw
  have hm : w ∈ AllW := (List.mem_cons.mp hw).elim (fun z => by rw [z]; exact h5) id
  exact ⟨hm, aw_good w hm⟩
/-- words of a callee: virtual; static; a constructor -/
def okV (y : MethodName) (cy : ByteArray) (maxL : Nat) (ret : Option FieldType) (n : Nat) : Prop := Cond.instanceMethod y ∈ AllW ∧ Cond.selects y.cls y y ∈ AllW ∧ Cond.initialized y.cls ∈ AllW ∧ Cond.code y cy maxL ret ∈ AllW ∧ y.cls ≠ "java/lang/invoke/MethodHandle" ∧ y.cls ≠ "java/lang/invoke/VarHandle" ∧ (parseMethodDescriptor y.desc).map (fun d => d.parameters.length) = some n
def okS (y : MethodName) (cy : ByteArray) (maxL : Nat) (ret : Option FieldType) (n : Nat) : Prop := Cond.static y ∈ AllW ∧ Cond.initialized y.cls ∈ AllW ∧ Cond.code y cy maxL ret ∈ AllW ∧ y.cls ≠ "java/lang/invoke/MethodHandle" ∧ y.cls ≠ "java/lang/invoke/VarHandle" ∧ (parseMethodDescriptor y.desc).map (fun d => d.parameters.length) = some n
def okI (y : MethodName) (cy : ByteArray) (maxL : Nat) (n : Nat) : Prop := Cond.instanceMethod y ∈ AllW ∧ Cond.initialized y.cls ∈ AllW ∧ Cond.code y cy maxL none ∈ AllW ∧ y.name = "<init>" ∧ y.cls ≠ "java/lang/invoke/MethodHandle" ∧ y.cls ≠ "java/lang/invoke/VarHandle" ∧ (parseMethodDescriptor y.desc).map (fun d => d.parameters.length) = some n
section GD
variable {p : Program} {l : Launch} {e : Env} {R : Room} {s : State} {m : MethodId} {args : Array Value} {below : List Frame} {meth : Method} {c : Code} {Q : State → Prop} {Y : YG} {nL : Nat} {cc : ByteArray} {own : String} {pc : Nat} {lv : List (Option Value)} {st : List Value} {h : AH} {k n : Nat}
theorem ofS {x : Value} {h0 : AH} {pc2 : Nat} (kk : Gd p l e R s m args below meth c Q Y nL pc2 lv (x :: st) h0 k n) : ∀ (v : Option Value) (h' : AH), pS (some x) h0 v h' → Gd p l e R s m args below meth c Q Y nL pc2 lv (v.toList ++ st) h' k n := fun v h' q => by
  obtain ⟨rfl, rfl⟩ := q
  exact kk
theorem ofSv {h0 : AH} {pc2 : Nat} (kk : Gd p l e R s m args below meth c Q Y nL pc2 lv st h0 k n) : ∀ (v : Option Value) (h' : AH), pS none h0 v h' → Gd p l e R s m args below meth c Q Y nL pc2 lv (v.toList ++ st) (h') k n := fun v h' q => by
  obtain ⟨rfl, rfl⟩ := q
  exact kk
theorem ofI {q : Int32 → AH → Prop} {pc2 : Nat} (kk : ∀ (r : Int32) (h' : AH), q r h' → Gd p l e R s m args below meth c Q Y nL pc2 lv (.int r :: st) (h') k n) : ∀ (v : Option Value) (h' : AH), pI q v h' → Gd p l e R s m args below meth c Q Y nL pc2 lv (v.toList ++ st) (h') k n := fun v h' z => by
  obtain ⟨r, rfl, z⟩ := z
  exact kk r h' z
theorem ofL {q : Int64 → AH → Prop} {pc2 : Nat} (kk : ∀ (r : Int64) (h' : AH), q r h' → Gd p l e R s m args below meth c Q Y nL pc2 lv (.long r :: st) (h') k n) : ∀ (v : Option Value) (h' : AH), pL q v h' → Gd p l e R s m args below meth c Q Y nL pc2 lv (v.toList ++ st) (h') k n := fun v h' z => by
  obtain ⟨r, rfl, z⟩ := z
  exact kk r h' z
theorem ofD {q : UInt64 → AH → Prop} {pc2 : Nat} (kk : ∀ (r : UInt64) (h' : AH), q r h' → Gd p l e R s m args below meth c Q Y nL pc2 lv (.double r :: st) (h') k n) : ∀ (v : Option Value) (h' : AH), pD q v h' → Gd p l e R s m args below meth c Q Y nL pc2 lv (v.toList ++ st) (h') k n := fun v h' z => by
  obtain ⟨r, rfl, z⟩ := z
  exact kk r h' z
theorem ofR {q : Option Nat → AH → Prop} {pc2 : Nat} (kk : ∀ (r : Option Nat) (h' : AH), q r h' → Gd p l e R s m args below meth c Q Y nL pc2 lv (va_rf r :: st) (h') k n) : ∀ (v : Option Value) (h' : AH), pR q v h' → Gd p l e R s m args below meth c Q Y nL pc2 lv (v.toList ++ st) (h') k n := fun v h' z => by
  obtain ⟨r, rfl, z⟩ := z
  exact kk r h' z
theorem ofV {q : AH → Prop} {pc2 : Nat} (kk : ∀ (h' : AH), q h' → Gd p l e R s m args below meth c Q Y nL pc2 lv st (h') k n) : ∀ (v : Option Value) (h' : AH), pV q v h' → Gd p l e R s m args below meth c Q Y nL pc2 lv (v.toList ++ st) (h') k n := fun v h' z => by
  obtain ⟨rfl, z⟩ := z
  exact kk h' z
theorem g_getf (C : Cx p s m args meth c Y cc nL own) {ci j idx : Nat} {Cn ref : String} {T : u_T} {N a : Nat} {fs : List Value} (hci : vwCl[ci]? = some (Cn, T, N)) (hin : ∀ w ∈ u_ws Cn T N, w ∈ AllW) (hj : j < N) (hlink : Cond.fieldLink own idx ref (T j).2.1 (T j).2.2.1 ∈ AllW) (hsame : ∀ x, s.fieldFound? (T j).1 (T j).2.1 (T j).2.2.1 = some x → s.fieldFound? ref (T j).2.1 (T j).2.2.1 = some x) {v : Value} (ha : h a = some (.inr (ci, fs))) (hv : fs[j]? = some v) (hd : decode cc pc = .ok (.getfield idx, 3)) (kk : Gd p l e R s m args below meth c Q Y nL (pc + 3) lv (v :: st) h k n) : Gd p l e R s m args below meth c Q Y nL pc lv (.ref a :: st) h k n := by
  obtain ⟨hx, hb, -, hown, hts, hK, -, hA, -⟩ := C
  intro H locs ls hc hS hl
  obtain ⟨ws, hP, hD, hw⟩ := id hc
  obtain ⟨q0, hq⟩ := hw a _ ha
  exact va_get hx hb hts hin hown hK hP q0 hq hci j hj (hts _ hlink) hsame hv hd (kk H locs ls hc hS hl)
theorem g_putf (C : Cx p s m args meth c Y cc nL own) {ci j idx : Nat} {Cn ref : String} {T : u_T} {N a : Nat} {fs : List Value} (hci : vwCl[ci]? = some (Cn, T, N)) (hin : ∀ w ∈ u_ws Cn T N, w ∈ AllW) (hj : j < N) (hlink : Cond.fieldLink own idx ref (T j).2.1 (T j).2.2.1 ∈ AllW) (hsame : ∀ x, s.fieldFound? (T j).1 (T j).2.1 (T j).2.2.1 = some x → s.fieldFound? ref (T j).2.1 (T j).2.2.1 = some x) (ty0 : Nat → FieldType) (hty : ∀ k, k < N → parseFieldDescriptor (T k).2.2.1 = some (ty0 k)) (hnm : ∀ a, a < N → ∀ b, b < N → a ≠ b → (T a).2.1 ≠ (T b).2.1) {ty : FieldType} {v : Value} (hdt : parseFieldDescriptor (T j).2.2.1 = some ty) (hnw : narrow ty v = v) (hft : fits ty v = true) (ha : h a = some (.inr (ci, fs))) (hjl : j < fs.length) (hd : decode cc pc = .ok (.putfield idx, 3)) (hfin : (T j).2.2.2 = false) (kk : Gd p l e R s m args below meth c Q Y nL (pc + 3) lv st (hup h a (.inr (ci, fs.set j v))) k n) : Gd p l e R s m args below meth c Q Y nL pc lv (v :: .ref a :: st) h k n := by
  obtain ⟨hx, hb, -, hown, hts, hK, -, hA, -⟩ := C
  intro H locs ls hc hS hl
  obtain ⟨ws, hP, hD, hw⟩ := id hc
  obtain ⟨q0, hq⟩ := hw a _ ha
  exact va_put hx hb hts hin ty0 hty hnm hown hK hP hD hS q0 hq hci j hj (hts _ hlink) hsame hfin hdt hnw hft hjl hd (fun H1 locs1 hP1 hD1 hS1 => kk H1 locs1 ls (cw_set hD hw hq hP1 hD1) hS1 hl)
theorem g_putF (C : Cx p s m args meth c Y cc nL own) {ci j idx : Nat} {Cn ref : String} {T : u_T} {N a : Nat} {fs : List Value} (hci : vwCl[ci]? = some (Cn, T, N)) (hin : ∀ w ∈ u_ws Cn T N, w ∈ AllW) (hj : j < N) (hlink : Cond.fieldLink own idx ref (T j).2.1 (T j).2.2.1 ∈ AllW) (hsame : ∀ x, s.fieldFound? (T j).1 (T j).2.1 (T j).2.2.1 = some x → s.fieldFound? ref (T j).2.1 (T j).2.2.1 = some x) (ty0 : Nat → FieldType) (hty : ∀ k, k < N → parseFieldDescriptor (T k).2.2.1 = some (ty0 k)) (hnm : ∀ a, a < N → ∀ b, b < N → a ≠ b → (T a).2.1 ≠ (T b).2.1) {ty : FieldType} {v : Value} (hdt : parseFieldDescriptor (T j).2.2.1 = some ty) (hnw : narrow ty v = v) (hft : fits ty v = true) (ha : h a = some (.inr (ci, fs))) (hjl : j < fs.length) (hd : decode cc pc = .ok (.putfield idx, 3)) (hfin : (T j).2.2.2 = true) (hnm2 : meth.name = "<init>") (hdecl : (T j).1 = own) (kk : Gd p l e R s m args below meth c Q Y nL (pc + 3) lv st (hup h a (.inr (ci, fs.set j v))) k n) : Gd p l e R s m args below meth c Q Y nL pc lv (v :: .ref a :: st) h k n := by
  obtain ⟨hx, hb, -, hown, hts, hK, -, hA, -⟩ := C
  intro H locs ls hc hS hl
  obtain ⟨ws, hP, hD, hw⟩ := id hc
  obtain ⟨q0, hq⟩ := hw a _ ha
  exact va_putF hx hb hts hin ty0 hty hnm hown hK hP hD hS q0 hq hci j hj (hts _ hlink) hsame hfin hnm2 hdecl hdt hnw hft hjl hd (fun H1 locs1 hP1 hD1 hS1 => kk H1 locs1 ls (cw_set hD hw hq hP1 hD1) hS1 hl)
theorem g_new (C : Cx p s m args meth c Y cc nL own) {ci idx : Nat} {Cn : String} {T : u_T} {N : Nat} {fs : List Value} (hci : vwCl[ci]? = some (Cn, T, N)) (hin : ∀ w ∈ u_ws Cn T N, w ∈ AllW) (ty0 : Nat → FieldType) (hty : ∀ k, k < N → parseFieldDescriptor (T k).2.2.1 = some (ty0 k)) (hcl : Cond.classLink own idx Cn ∈ AllW) (hins : Cond.instantiable Cn N ∈ AllW) (hini : Cond.initialized Cn ∈ AllW) (hfs : ∀ j, j < N → defaultValue (ty0 j) = vp_V fs j) (hk : k + 1 ≤ R.cells) (hn : n + N ≤ R.slots) (hd : decode cc pc = .ok (.new idx, 3)) (kk : ∀ q : Nat, h q = none → Gd p l e R s m args below meth c Q Y nL (pc + 3) lv (.ref q :: st) (hup h q (.inr (ci, fs))) (k + 1) (n + N)) : Gd p l e R s m args below meth c Q Y nL pc lv st h k n := by
  obtain ⟨hx, hb, -, hown, hts, hK, -, hA, -⟩ := C
  intro H locs ls hc hS hl
  obtain ⟨ws, hP, hD, hw⟩ := id hc
  exact va_new hx hb hts hin ty0 hty hown (hts _ hcl) (hts _ hins) (hts _ hini) hK hP hD hS hA hci hfs hk hn hd (fun q H1 hP1 hD1 hS1 => by obtain ⟨z1, z2⟩ := cw_push hw hP1 hD1; exact kk q z1 H1 locs ls z2 hS1 hl)
theorem g_iald (C : Cx p s m args meth c Y cc nL own) {a N j : Nat} {f : Nat → Int32} {i : Int32} (ha : h a = some (aI Y N f)) (hi : i = nI j) (hj : j < N) (hN : N < 2 ^ 31) (hd : decode cc pc = .ok (.iaload, 1)) (kk : Gd p l e R s m args below meth c Q Y nL (pc + 1) lv (.int (f j) :: st) h k n) : Gd p l e R s m args below meth c Q Y nL pc lv (.int i :: .ref a :: st) h k n := by
  obtain ⟨hx, hb, -, hown, hts, hK, -, hA, -⟩ := C
  intro H locs ls hc hS hl
  obtain ⟨ws, hP, hD, hw⟩ := id hc
  obtain ⟨q0, hq⟩ := hw a _ ha
  subst hi
  have z := kk H locs ls hc hS hl
  rw [← nI_clamp (n := j) (by omega)] at z
  exact va_iald hx hb hK hP q0 0 hq rfl (vp_in_nI hj hN) hd z
theorem g_iast (C : Cx p s m args meth c Y cc nL own) {a N j : Nat} {f : Nat → Int32} {i : Int32} {x : Int32} (ha : h a = some (aI Y N f)) (hi : i = nI j) (hj : j < N) (hN : N < 2 ^ 31) (hd : decode cc pc = .ok (.iastore, 1)) (kk : Gd p l e R s m args below meth c Q Y nL (pc + 1) lv st (hup h a (aI Y N (upd f j x))) k n) : Gd p l e R s m args below meth c Q Y nL pc lv (.int x :: .int i :: .ref a :: st) h k n := by
  obtain ⟨hx, hb, -, hown, hts, hK, -, hA, -⟩ := C
  intro H locs ls hc hS hl
  obtain ⟨ws, hP, hD, hw⟩ := id hc
  obtain ⟨q0, hq⟩ := hw a _ ha
  subst hi
  refine va_iast hx hb hK hP hD hS q0 0 hq rfl (vp_in_nI hj hN) hd (fun H1 locs1 hP1 hD1 hS1 => ?_)
  rw [nI_clamp (by omega)] at hP1 hD1
  exact kk H1 locs1 ls (cw_set hD hw hq hP1 hD1) hS1 hl
theorem g_aleni (C : Cx p s m args meth c Y cc nL own) {a N : Nat} {f : Nat → Int32} (ha : h a = some (aI Y N f)) (hd : decode cc pc = .ok (.arraylength, 1)) (kk : Gd p l e R s m args below meth c Q Y nL (pc + 1) lv (.int (nI N) :: st) h k n) : Gd p l e R s m args below meth c Q Y nL pc lv (.ref a :: st) h k n := by
  obtain ⟨hx, hb, -, hown, hts, hK, -, hA, -⟩ := C
  intro H locs ls hc hS hl
  obtain ⟨ws, hP, hD, hw⟩ := id hc
  obtain ⟨q0, hq⟩ := hw a _ ha
  exact va_alen hx hb hK hP q0 0 hq rfl rfl hd (kk H locs ls hc hS hl)
theorem g_alena (C : Cx p s m args meth c Y cc nL own) {a N : Nat} {f : Nat → Option Nat} (ha : h a = some (aA Y N f)) (hd : decode cc pc = .ok (.arraylength, 1)) (kk : Gd p l e R s m args below meth c Q Y nL (pc + 1) lv (.int (nI N) :: st) h k n) : Gd p l e R s m args below meth c Q Y nL pc lv (.ref a :: st) h k n := by
  obtain ⟨hx, hb, -, hown, hts, hK, -, hA, -⟩ := C
  intro H locs ls hc hS hl
  obtain ⟨ws, hP, hD, hw⟩ := id hc
  obtain ⟨q0, hq⟩ := hw a _ ha
  exact va_alen hx hb hK hP q0 1 hq rfl rfl hd (kk H locs ls hc hS hl)
theorem g_aleno (C : Cx p s m args meth c Y cc nL own) {a N : Nat} {f : Nat → Option Nat} (ha : h a = some (aO Y N f)) (hd : decode cc pc = .ok (.arraylength, 1)) (kk : Gd p l e R s m args below meth c Q Y nL (pc + 1) lv (.int (nI N) :: st) h k n) : Gd p l e R s m args below meth c Q Y nL pc lv (.ref a :: st) h k n := by
  obtain ⟨hx, hb, -, hown, hts, hK, -, hA, -⟩ := C
  intro H locs ls hc hS hl
  obtain ⟨ws, hP, hD, hw⟩ := id hc
  obtain ⟨q0, hq⟩ := hw a _ ha
  exact va_alen hx hb hK hP q0 2 hq rfl rfl hd (kk H locs ls hc hS hl)
theorem g_oald (C : Cx p s m args meth c Y cc nL own) {a N j : Nat} {f : Nat → Option Nat} {i : Int32} (ha : h a = some (aO Y N f)) (hi : i = nI j) (hj : j < N) (hN : N < 2 ^ 31) (hd : decode cc pc = .ok (.aaload, 1)) (kk : Gd p l e R s m args below meth c Q Y nL (pc + 1) lv (va_rf (f j) :: st) h k n) : Gd p l e R s m args below meth c Q Y nL pc lv (.int i :: .ref a :: st) h k n := by
  obtain ⟨hx, hb, -, hown, hts, hK, -, hA, -⟩ := C
  intro H locs ls hc hS hl
  obtain ⟨ws, hP, hD, hw⟩ := id hc
  obtain ⟨q0, hq⟩ := hw a _ ha
  subst hi
  have z := kk H locs ls hc hS hl
  rw [← nI_clamp (n := j) (by omega)] at z
  exact va_aldq hx hb hK hP q0 2 hq rfl (vp_in_nI hj hN) hd z
theorem cls_one {D : va_G} {cl : List vw_C} {tys : List (ClassId × FieldType)} {cA cB : ClassId} {ty : FieldType} {t : Nat} {s : State} (hK : va_K D cl tys s) (ht : tys[t]? = some (cB, ty)) (h1 : va_RA s cA ty) : cA = cB := by
  have h2 := (hK.2 t _ ht).2
  cases ty with
  | object C =>
    obtain ⟨k1, c1, -, -, -, e1⟩ := h1
    obtain ⟨k2, c2, -, -, -, e2⟩ := h2
    exact Option.some.inj (e1.symm.trans e2)
  | _ => exact Option.some.inj (h1.symm.trans h2)
theorem K_last {D : va_G} {cl : List vw_C} {tys : List (ClassId × FieldType)} {q : ClassId × FieldType} {s : State} (hK : va_K D cl (tys ++ [q]) s) : va_RA s q.1 q.2 := (hK.2 tys.length q (by rw [List.getElem?_append_right (Nat.le_refl _), Nat.sub_self]; rfl)).2
theorem g_newI (C : Cx p s m args meth c Y cc nL own) {N : Nat} {i : Int32} (hi : i = nI N) (hN : N ≤ 60000000) (hac : Cond.arrayClass (newarray.typeOf .int) ∈ AllW) (hk : k + 1 ≤ R.cells) (hn : n + N ≤ R.slots) (hd : decode cc pc = .ok (.newarray .int, 2)) (kk : ∀ q : Nat, h q = none → Gd p l e R s m args below meth c Q Y nL (pc + 2) lv (.ref q :: st) (hup h q (aI Y N (fun _ => 0))) (k + 1) (n + N)) : Gd p l e R s m args below meth c Q Y nL pc lv (.int i :: st) h k n := by
  obtain ⟨hx, hb, -, hown, hts, hK, -, hA, -⟩ := C
  intro H locs ls hc hS hl
  obtain ⟨ws, hP, hD, hw⟩ := id hc
  subst hi
  refine va_newa (atype := .int) (ty := .int) (a0 := (N, .inl (fun _ => 0))) hx hb (hts _ hac) rfl hK hP hD hS hA (fun cA => rfl) (nI_pos (by omega)) (nI_clamp (by omega)) (by show N * 4 ≤ 536870912; omega) hk hn hd (fun q cA H1 hK1 hP1 hD1 hS1 => ?_)
  have e1 : cA = Y.cI := cls_one hK (t := 0) rfl (K_last hK1)
  subst e1
  obtain ⟨z1, z2⟩ := cw_push hw hP1 hD1
  exact kk q z1 H1 locs ls z2 hS1 hl
theorem g_gettab (C : Cx p s m args meth c Y cc nL own) {idx : Nat} {Cn fn : String} {f : Nat → Int32} (ht : tab Cn fn f Y.A s s.heap) (hlink : Cond.fieldLink own idx Cn fn "[I" ∈ AllW) (hd : decode cc pc = .ok (.getstatic idx, 3)) (kk : ∀ t : Nat, va_T .int t 8 (fun j => .int (f j)) Y.A s s.heap → Gd p l e R s m args below meth c Q Y nL (pc + 3) lv (.ref t :: st) h k n) : Gd p l e R s m args below meth c Q Y nL pc lv st h k n := by
  obtain ⟨hx, hb, -, hown, hts, hK, -, hA, -⟩ := C
  intro H locs ls hc hS hl
  obtain ⟨t, h1, h2⟩ := ht
  exact va_gets hx hb h1 hS hown (hts _ hlink) (fun _ z => z) hd (kk t h2 H locs ls hc hS hl)
theorem g_tald (C : Cx p s m args meth c Y cc nL own) {t j : Nat} {f : Nat → Int32} {i : Int32} (ht : va_T .int t 8 (fun j => .int (f j)) Y.A s s.heap) (hi : i = nI j) (hj : j < 8) (hd : decode cc pc = .ok (.iaload, 1)) (kk : Gd p l e R s m args below meth c Q Y nL (pc + 1) lv (.int (f j) :: st) h k n) : Gd p l e R s m args below meth c Q Y nL pc lv (.int i :: .ref t :: st) h k n := by
  obtain ⟨hx, hb, -, hown, hts, hK, -, hA, -⟩ := C
  intro H locs ls hc hS hl
  subst hi
  exact va_ti hx hb ht hS (vp_in_nI hj (by decide)) (by rw [nI_clamp (by omega)]) hd (kk H locs ls hc hS hl)
theorem g_tlen (C : Cx p s m args meth c Y cc nL own) {t : Nat} {f : Nat → Int32} (ht : va_T .int t 8 (fun j => .int (f j)) Y.A s s.heap) (hd : decode cc pc = .ok (.arraylength, 1)) (kk : Gd p l e R s m args below meth c Q Y nL (pc + 1) lv (.int (nI 8) :: st) h k n) : Gd p l e R s m args below meth c Q Y nL pc lv (.ref t :: st) h k n := by
  obtain ⟨hx, hb, -, hown, hts, hK, -, hA, -⟩ := C
  intro H locs ls hc hS hl
  exact va_tlen hx hb ht hS rfl hd (kk H locs ls hc hS hl)
theorem g_castS (C : Cx p s m args meth c Y cc nL own) {idx ci a : Nat} {Cn : String} {T : u_T} {N : Nat} {fs : List Value} (hci : vwCl[ci]? = some (Cn, T, N)) (hlink : Cond.classLink own idx Cn ∈ AllW) (ha : h a = some (.inr (ci, fs))) (hd : decode cc pc = .ok (.checkcast idx, 3)) (kk : Gd p l e R s m args below meth c Q Y nL (pc + 3) lv (.ref a :: st) h k n) : Gd p l e R s m args below meth c Q Y nL pc lv (.ref a :: st) h k n := by
  obtain ⟨hx, hb, -, hown, hts, hK, -, hA, -⟩ := C
  intro H locs ls hc hS hl
  obtain ⟨ws, hP, hD, hw⟩ := id hc
  obtain ⟨q0, hq⟩ := hw a _ ha
  exact va_castS hx hb hown (hts _ hlink) (hK.1 ci _ hci).2 (va_recv hK hP hci hq) hd (kk H locs ls hc hS hl)
theorem g_objinit (C : Cx p s m args meth c Y cc nL own) {idx a : Nat} (hlink : Cond.methodLink own idx objectInit ∈ AllW) (hi : Cond.instanceMethod objectInit ∈ AllW) (hcd : Cond.code objectInit ⟨#[0xb1]⟩ 1 none ∈ AllW) (hd : decode cc pc = .ok (.invokespecial idx, 3)) (hR : 1 ≤ R.frames) (hR2 : (st.map fun v => v.category).sum + 12 ≤ R.locals) (kk : Gd p l e R s m args below meth c Q Y nL (pc + 3) lv st h k n) : Gd p l e R s m args below meth c Q Y nL pc lv (.ref a :: st) h k n := by
  obtain ⟨hx, hb, hml, hown, hts, -⟩ := C
  intro H locs ls hc hS hl
  exact W.objInit hx hb hown (hts _ hlink) (hts _ hi) (hts _ hcd) rfl (by rw [hml]; exact hl.1) rfl hd hR (by show 2 * 0 + _ + 12 ≤ _; omega) (kk H locs ls hc hS hl)
theorem g_mabs (C : Cx p s m args meth c Y cc nL own) {idx : Nat} {x : Int32} (hlink : Cond.methodLink own idx Lib.Math.abs.name ∈ AllW) (h2 : Cond.static Lib.Math.abs.name ∈ AllW) (h3 : Cond.initialized "java/lang/Math" ∈ AllW) (h4 : Cond.code Lib.Math.abs.name Lib.Math.abs.code 1 (some .int) ∈ AllW) (hd : decode cc pc = .ok (.invokestatic idx, 3)) (hR : 1 ≤ R.frames) (hR2 : (st.map fun v => v.category).sum + 13 ≤ R.locals) (hk : k ≤ R.cells) (hn : n ≤ R.slots) (kk : Gd p l e R s m args below meth c Q Y nL (pc + 3) lv (.int (if 0 ≤ x then x else 0 - x) :: st) h k n) : Gd p l e R s m args below meth c Q Y nL pc lv (.int x :: st) h k n := by
  obtain ⟨hx, hb, hml, hown, hts, -⟩ := C
  intro H locs ls hc hS hl
  exact va_mabs hx hb (by rw [hml]; exact hl.1.symm) hown (hts _ hlink) (hts _ h2) (hts _ h3) (hts _ h4) hR hR2 hk hn hd (kk H locs ls hc hS hl)
theorem g_mmax (C : Cx p s m args meth c Y cc nL own) {idx : Nat} {x y : Int32} (hlink : Cond.methodLink own idx Lib.Math.max.name ∈ AllW) (h2 : Cond.static Lib.Math.max.name ∈ AllW) (h3 : Cond.initialized "java/lang/Math" ∈ AllW) (h4 : Cond.code Lib.Math.max.name Lib.Math.max.code 2 (some .int) ∈ AllW) (hd : decode cc pc = .ok (.invokestatic idx, 3)) (hR : 1 ≤ R.frames) (hR2 : (st.map fun v => v.category).sum + 13 ≤ R.locals) (hk : k ≤ R.cells) (hn : n ≤ R.slots) (kk : Gd p l e R s m args below meth c Q Y nL (pc + 3) lv (.int (if x < y then y else x) :: st) h k n) : Gd p l e R s m args below meth c Q Y nL pc lv (.int y :: .int x :: st) h k n := by
  obtain ⟨hx, hb, hml, hown, hts, -⟩ := C
  intro H locs ls hc hS hl
  exact va_mmax hx hb (by rw [hml]; exact hl.1.symm) hown (hts _ hlink) (hts _ h2) (hts _ h3) (hts _ h4) hR hR2 hk hn hd (kk H locs ls hc hS hl)
theorem g_mmin (C : Cx p s m args meth c Y cc nL own) {idx : Nat} {x y : Int32} (hlink : Cond.methodLink own idx Lib.Math.min.name ∈ AllW) (h2 : Cond.static Lib.Math.min.name ∈ AllW) (h3 : Cond.initialized "java/lang/Math" ∈ AllW) (h4 : Cond.code Lib.Math.min.name Lib.Math.min.code 2 (some .int) ∈ AllW) (hd : decode cc pc = .ok (.invokestatic idx, 3)) (hR : 1 ≤ R.frames) (hR2 : (st.map fun v => v.category).sum + 13 ≤ R.locals) (hk : k ≤ R.cells) (hn : n ≤ R.slots) (kk : Gd p l e R s m args below meth c Q Y nL (pc + 3) lv (.int (if y < x then y else x) :: st) h k n) : Gd p l e R s m args below meth c Q Y nL pc lv (.int y :: .int x :: st) h k n := by
  obtain ⟨hx, hb, hml, hown, hts, -⟩ := C
  intro H locs ls hc hS hl
  exact va_mmin hx hb (by rw [hml]; exact hl.1.symm) hown (hts _ hlink) (hts _ h2) (hts _ h3) (hts _ h4) hR hR2 hk hn hd (kk H locs ls hc hS hl)
theorem g_run {mc ms : Nat} {st0 : List Value} {post : Option Value → AH → Prop} {av : Array Value}
    (hr : ∀ (H : Heap) (locs : List Loc) (ls : Array Slot), cw Y h H → va_S Y.A s.heap H locs → lh ls nL lv → va_Run p l e R s m args below meth c H locs k n mc ms (F0 m pc ls st0) st (Qk Y post av) Y.A)
    (kk : ∀ (v : Option Value) (h' : AH), post v h' → Gd p l e R s m args below meth c Q Y nL (pc + 3) lv (v.toList ++ st) (h') (k + mc) (n + ms)) : Gd p l e R s m args below meth c Q Y nL pc lv st0 h k n := by
  intro H locs ls hc hS hl T hT X
  obtain ⟨v, st₀, t, T', L, h0, X', hL, e1, e2, ⟨⟨v2, h', hv, hp, hc2⟩, hz, hk⟩, stp⟩ := hr H locs ls hc hS hl T hT X
  cases hv
  rw [h0] at hz hk
  obtain ⟨t2, a1, b1⟩ := kk v h' hp T'.heap (locs ++ L) ls (by rw [e1]; exact hc2)
    ⟨Nat.le_trans hS.1 (by rw [e1]; exact hz), fun q h1 h2 => by rw [e1, hk q (Nat.lt_of_lt_of_le h1 hS.1) h2]; exact hS.2.1 q h1 h2, fun q hq => by
      rcases List.mem_append.mp hq with h | h
      · exact hS.2.2 q h
      · exact hL q h⟩ hl T' rfl X'
  exact ⟨t2, stp t2 a1, b1⟩
theorem g_run5 {mc ms : Nat} {st0 : List Value} {post : Option Value → AH → Prop} {av : Array Value}
    (hr : ∀ (H : Heap) (locs : List Loc) (ls : Array Slot), cw Y h H → va_S Y.A s.heap H locs → lh ls nL lv → va_Run5 p l e R s m args below meth c H locs k n mc ms (F0 m pc ls st0) st (Qk Y post av) Y.A)
    (kk : ∀ (v : Option Value) (h' : AH), post v h' → Gd p l e R s m args below meth c Q Y nL (pc + 5) lv (v.toList ++ st) (h') (k + mc) (n + ms)) : Gd p l e R s m args below meth c Q Y nL pc lv st0 h k n := by
  intro H locs ls hc hS hl T hT X
  obtain ⟨v, st₀, t, T', L, h0, X', hL, e1, e2, ⟨⟨v2, h', hv, hp, hc2⟩, hz, hk⟩, stp⟩ := hr H locs ls hc hS hl T hT X
  cases hv
  rw [h0] at hz hk
  obtain ⟨t2, a1, b1⟩ := kk v h' hp T'.heap (locs ++ L) ls (by rw [e1]; exact hc2)
    ⟨Nat.le_trans hS.1 (by rw [e1]; exact hz), fun q h1 h2 => by rw [e1, hk q (Nat.lt_of_lt_of_le h1 hS.1) h2]; exact hS.2.1 q h1 h2, fun q hq => by
      rcases List.mem_append.mp hq with h | h
      · exact hS.2.2 q h
      · exact hL q h⟩ hl T' rfl X'
  exact ⟨t2, stp t2 a1, b1⟩
theorem g_runX {mc ms : Nat} {st0 : List Value} {post : Option Value → AH → Prop} {px : String → AH → Prop} {av : Array Value}
    (hr : ∀ (H : Heap) (locs : List Loc) (ls : Array Slot), cw Y h H → va_S Y.A s.heap H locs → lh ls nL lv → vx_Run p l e R s m args below meth c H locs k n mc ms (F0 m pc ls st0) st (Qk Y post av) (Xk Y px) Y.A)
    (kx : ∀ (E : String) (h' : AH), px E h' → Gx p l e R s m args below meth c Q Y nL pc lv st (h') (k + mc) (n + ms) E)
    (kk : ∀ (v : Option Value) (h' : AH), post v h' → Gd p l e R s m args below meth c Q Y nL (pc + 3) lv (v.toList ++ st) (h') (k + mc) (n + ms)) : Gd p l e R s m args below meth c Q Y nL pc lv st0 h k n := by
  intro H locs ls hc hS hl T hT X
  rcases hr H locs ls hc hS hl T hT X with ⟨v, st₀, t, T', L, h0, X', hL, e1, e2, ⟨⟨v2, h', hv, hp, hc2⟩, hz, hk⟩, stp⟩ | ⟨q, st₀, t, T', L, E, ce, h0, X', hL, e1, e2, ⟨⟨h', hp, hc2⟩, hz, hk⟩, hce, hcv, hcl, stp⟩
  · cases hv
    rw [h0] at hz hk
    obtain ⟨t2, a1, b1⟩ := kk v h' hp T'.heap (locs ++ L) ls (by rw [e1]; exact hc2)
      ⟨Nat.le_trans hS.1 (by rw [e1]; exact hz), fun q h1 h2 => by rw [e1, hk q (Nat.lt_of_lt_of_le h1 hS.1) h2]; exact hS.2.1 q h1 h2, fun q hq => by
        rcases List.mem_append.mp hq with h | h
        · exact hS.2.2 q h
        · exact hL q h⟩ hl T' rfl X'
    exact ⟨t2, stp t2 a1, b1⟩
  · rw [h0] at hz hk
    obtain ⟨t2, a1, b1⟩ := kx E h' hp T'.heap (locs ++ L) ls q ce (by rw [e1]; exact hc2)
      ⟨Nat.le_trans hS.1 (by rw [e1]; exact hz), fun q h1 h2 => by rw [e1, hk q (Nat.lt_of_lt_of_le h1 hS.1) h2]; exact hS.2.1 q h1 h2, fun q hq => by
        rcases List.mem_append.mp hq with h | h
        · exact hS.2.2 q h
        · exact hL q h⟩ hl (by rw [e1]; exact hce) hcv hcl T' rfl X'
    exact ⟨t2, stp.trans a1, b1⟩
theorem g_callV (C : Cx p s m args meth c Y cc nL own) {y : MethodName} {cy : ByteArray} {maxL : Nat} {ret : Option FieldType} {f L mc ms idx na : Nat} {As st0 : List Value} {post : Option Value → AH → Prop} {b ci : Nat} {T : u_T} {N : Nat} {fs : List Value} (hM : MK l Y y cy maxL ret f L mc ms (.ref b :: As) h post) (hy : okV y cy maxL ret na) (hlink : Cond.methodLink own idx y ∈ AllW) (ha : h b = some (.inr (ci, fs))) (hci : vwCl[ci]? = some (y.cls, T, N)) (hsk : st0 = As.reverse ++ .ref b :: st) (hna : As.length = na) (hd : decode cc pc = .ok (.invokevirtual idx, 3)) (hst : (st.map fun v => v.category).sum ≤ 8) (hf : f + 1 ≤ R.frames) (hL : 8 + (maxL + 11) + L ≤ R.locals) (hkc : k + mc ≤ R.cells) (hns : n + ms ≤ R.slots) (kk : ∀ (v : Option Value) (h' : AH), post v h' → Gd p l e R s m args below meth c Q Y nL (pc + 3) lv (v.toList ++ st) (h') (k + mc) (n + ms)) : Gd p l e R s m args below meth c Q Y nL pc lv st0 h k n := by
  have hC := C
  obtain ⟨hx, hb, hml, hown, hts, hK, -, hA, -⟩ := C
  obtain ⟨y1, y2, y3, y4, y5, y6, y7⟩ := hy
  refine g_run (av := (Value.ref b :: As).toArray) (post := post) (st0 := st0) (mc := mc) (ms := ms) (fun H locs ls hc hS hl => ?_) kk
  obtain ⟨ws, hP, hD, hw⟩ := id hc
  obtain ⟨q0, hq⟩ := hw b _ ha
  exact va_runV (As := As) (rest := st) (C := y.cls) ⟨hx, hb, hml, hown, hts⟩ hM (cwV na hts (gi_V hlink y1 y2 y3 y4) rfl rfl rfl ⟨rfl, y5, y6, y7⟩ ⟨hf, hL⟩) ⟨WD.blind, va_recv hK hP hci hq, fun U hU hW => ⟨rfl, hC.wd hc hS U hU hW⟩⟩ rfl hna hl.1 hsk (lv_room hst) hd ⟨hkc, hns⟩
theorem g_callS (C : Cx p s m args meth c Y cc nL own) {y : MethodName} {cy : ByteArray} {maxL : Nat} {ret : Option FieldType} {f L mc ms idx na : Nat} {As st0 : List Value} {post : Option Value → AH → Prop} (hM : MK l Y y cy maxL ret f L mc ms As h post) (hy : okS y cy maxL ret na) (hlink : Cond.methodLink own idx y ∈ AllW) (hsk : st0 = As.reverse ++ st) (hna : As.length = na) (hd : decode cc pc = .ok (.invokestatic idx, 3)) (hst : (st.map fun v => v.category).sum ≤ 8) (hf : f + 1 ≤ R.frames) (hL : 8 + (maxL + 11) + L ≤ R.locals) (hkc : k + mc ≤ R.cells) (hns : n + ms ≤ R.slots) (kk : ∀ (v : Option Value) (h' : AH), post v h' → Gd p l e R s m args below meth c Q Y nL (pc + 3) lv (v.toList ++ st) (h') (k + mc) (n + ms)) : Gd p l e R s m args below meth c Q Y nL pc lv st0 h k n := by
  have hC := C
  obtain ⟨hx, hb, hml, hown, hts, hK, -, hA, -⟩ := C
  obtain ⟨y1, y3, y4, y5, y6, y7⟩ := hy
  refine g_run (av := As.toArray) (post := post) (st0 := st0) (mc := mc) (ms := ms) (fun H locs ls hc hS hl => ?_) kk
  exact va_runS (As := As) (rest := st) ⟨hx, hb, hml, hown, hts⟩ hM (va_cwS na hts (gi_S hlink y1 y3 y4) rfl rfl rfl ⟨y5, y6, y7⟩ ⟨hf, hL⟩) ⟨WD.blind, fun U hU hW => ⟨rfl, hC.wd hc hS U hU hW⟩⟩ rfl hna hl.1 hsk (lv_room hst) hd ⟨hkc, hns⟩
theorem g_callVX (C : Cx p s m args meth c Y cc nL own) {y : MethodName} {cy : ByteArray} {maxL : Nat} {ret : Option FieldType} {f L mc ms idx na : Nat} {As st0 : List Value} {post : Option Value → AH → Prop} {px : String → AH → Prop} {b ci : Nat} {T : u_T} {N : Nat} {fs : List Value} (hM : MX l Y y cy maxL ret f L mc ms (.ref b :: As) h post px) (hy : okV y cy maxL ret na) (hlink : Cond.methodLink own idx y ∈ AllW) (ha : h b = some (.inr (ci, fs))) (hci : vwCl[ci]? = some (y.cls, T, N)) (hsk : st0 = As.reverse ++ .ref b :: st) (hna : As.length = na) (hd : decode cc pc = .ok (.invokevirtual idx, 3)) (hst : (st.map fun v => v.category).sum ≤ 8) (hf : f + 1 ≤ R.frames) (hL : 8 + (maxL + 11) + L ≤ R.locals) (hkc : k + mc ≤ R.cells) (hns : n + ms ≤ R.slots) (kx : ∀ (E : String) (h' : AH), px E h' → Gx p l e R s m args below meth c Q Y nL pc lv st (h') (k + mc) (n + ms) E) (kk : ∀ (v : Option Value) (h' : AH), post v h' → Gd p l e R s m args below meth c Q Y nL (pc + 3) lv (v.toList ++ st) (h') (k + mc) (n + ms)) : Gd p l e R s m args below meth c Q Y nL pc lv st0 h k n := by
  have hC := C
  obtain ⟨hx, hb, hml, hown, hts, hK, -, hA, -⟩ := C
  obtain ⟨y1, y2, y3, y4, y5, y6, y7⟩ := hy
  refine g_runX (av := (Value.ref b :: As).toArray) (post := post) (st0 := st0) (mc := mc) (ms := ms) (fun H locs ls hc hS hl => ?_) kx kk
  obtain ⟨ws, hP, hD, hw⟩ := id hc
  obtain ⟨q0, hq⟩ := hw b _ ha
  exact vx_runV (As := As) (rest := st) (C := y.cls) ⟨hx, hb, hml, hown, hts⟩ hM (cwV na hts (gi_V hlink y1 y2 y3 y4) rfl rfl rfl ⟨rfl, y5, y6, y7⟩ ⟨hf, hL⟩) ⟨WD.blind, va_recv hK hP hci hq, fun U hU hW => ⟨rfl, hC.wd hc hS U hU hW⟩⟩ rfl hna hl.1 hsk (lv_room hst) hd ⟨hkc, hns⟩
theorem g_callSX (C : Cx p s m args meth c Y cc nL own) {y : MethodName} {cy : ByteArray} {maxL : Nat} {ret : Option FieldType} {f L mc ms idx na : Nat} {As st0 : List Value} {post : Option Value → AH → Prop} {px : String → AH → Prop} (hM : MX l Y y cy maxL ret f L mc ms As h post px) (hy : okS y cy maxL ret na) (hlink : Cond.methodLink own idx y ∈ AllW) (hsk : st0 = As.reverse ++ st) (hna : As.length = na) (hd : decode cc pc = .ok (.invokestatic idx, 3)) (hst : (st.map fun v => v.category).sum ≤ 8) (hf : f + 1 ≤ R.frames) (hL : 8 + (maxL + 11) + L ≤ R.locals) (hkc : k + mc ≤ R.cells) (hns : n + ms ≤ R.slots) (kx : ∀ (E : String) (h' : AH), px E h' → Gx p l e R s m args below meth c Q Y nL pc lv st (h') (k + mc) (n + ms) E) (kk : ∀ (v : Option Value) (h' : AH), post v h' → Gd p l e R s m args below meth c Q Y nL (pc + 3) lv (v.toList ++ st) (h') (k + mc) (n + ms)) : Gd p l e R s m args below meth c Q Y nL pc lv st0 h k n := by
  have hC := C
  obtain ⟨hx, hb, hml, hown, hts, hK, -, hA, -⟩ := C
  obtain ⟨y1, y3, y4, y5, y6, y7⟩ := hy
  refine g_runX (av := As.toArray) (post := post) (st0 := st0) (mc := mc) (ms := ms) (fun H locs ls hc hS hl => ?_) kx kk
  exact vx_runS (As := As) (rest := st) ⟨hx, hb, hml, hown, hts⟩ hM (va_cwS na hts (gi_S hlink y1 y3 y4) rfl rfl rfl ⟨y5, y6, y7⟩ ⟨hf, hL⟩) ⟨WD.blind, fun U hU hW => ⟨rfl, hC.wd hc hS U hU hW⟩⟩ rfl hna hl.1 hsk (lv_room hst) hd ⟨hkc, hns⟩
theorem g_callI (C : Cx p s m args meth c Y cc nL own) {y : MethodName} {cy : ByteArray} {maxL : Nat} {f L mc ms idx na : Nat} {As st0 : List Value} {post : Option Value → AH → Prop} {b : Nat} (hM : MK l Y y cy maxL none f L mc ms (.ref b :: As) h post) (hy : okI y cy maxL na) (hlink : Cond.methodLink own idx y ∈ AllW) (hsk : st0 = As.reverse ++ .ref b :: st) (hna : As.length = na) (hd : decode cc pc = .ok (.invokespecial idx, 3)) (hst : (st.map fun v => v.category).sum ≤ 8) (hf : f + 1 ≤ R.frames) (hL : 8 + (maxL + 11) + L ≤ R.locals) (hkc : k + mc ≤ R.cells) (hns : n + ms ≤ R.slots) (kk : ∀ (v : Option Value) (h' : AH), post v h' → Gd p l e R s m args below meth c Q Y nL (pc + 3) lv (v.toList ++ st) (h') (k + mc) (n + ms)) : Gd p l e R s m args below meth c Q Y nL pc lv st0 h k n := by
  have hC := C
  obtain ⟨hx, hb, hml, hown, hts, hK, -, hA, -⟩ := C
  obtain ⟨y1, y3, y4, y8, y5, y6, y7⟩ := hy
  refine g_run (av := (Value.ref b :: As).toArray) (post := post) (st0 := st0) (mc := mc) (ms := ms) (fun H locs ls hc hS hl => ?_) kk
  exact va_runI (As := As) (rest := st) ⟨hx, hb, hml, hown, hts⟩ hM (cwI na hts (gi_c y4) rfl rfl rfl (hts _ y3) (hts _ hlink) (hts _ y1) y8 ⟨y5, y6, y7⟩ ⟨hf, hL⟩) ⟨WD.blind, fun U hU hW => ⟨rfl, hC.wd hc hS U hU hW⟩⟩ rfl hna hl.1 hsk (lv_room hst) hd ⟨hkc, hns⟩
theorem g_callSN (C : Cx p s m args meth c Y cc nL own) {y : MethodName} {cy : ByteArray} {maxL : Nat} {ret : Option FieldType} {f L mc ms idx na : Nat} {As st0 : List Value} {post : Option Value → AH → Prop} {host : String} (hM : MK l Y y cy maxL ret f L mc ms As h post) (hy : okS y cy maxL ret na) (hlink : va_Nw (.methodLinkNest own idx y host) s) (hsk : st0 = As.reverse ++ st) (hna : As.length = na) (hd : decode cc pc = .ok (.invokestatic idx, 3)) (hst : (st.map fun v => v.category).sum ≤ 8) (hf : f + 1 ≤ R.frames) (hL : 8 + (maxL + 11) + L ≤ R.locals) (hkc : k + mc ≤ R.cells) (hns : n + ms ≤ R.slots) (kk : ∀ (v : Option Value) (h' : AH), post v h' → Gd p l e R s m args below meth c Q Y nL (pc + 3) lv (v.toList ++ st) (h') (k + mc) (n + ms)) : Gd p l e R s m args below meth c Q Y nL pc lv st0 h k n := by
  have hC := C
  obtain ⟨hx, hb, hml, hown, hts, hK, -, hA, -⟩ := C
  obtain ⟨y1, y3, y4, y5, y6, y7⟩ := hy
  refine g_run (av := As.toArray) (post := post) (st0 := st0) (mc := mc) (ms := ms) (fun H locs ls hc hS hl => ?_) kk
  exact va_runSN (As := As) (rest := st) ⟨hx, hb, hml, hown, hts⟩ hM ⟨va_cnB na hts (gi_c y4) rfl rfl rfl hlink (hts _ y3) ⟨y5, y6, y7⟩ ⟨hf, hL⟩, hts _ y1, trivial⟩ ⟨WD.blind, fun U hU hW => ⟨rfl, hC.wd hc hS U hU hW⟩⟩ rfl hna hl.1 hsk (lv_room hst) hd ⟨hkc, hns⟩
theorem g_callSW (C : Cx p s m args meth c Y cc nL own) {y : MethodName} {cy : ByteArray} {maxL : Nat} {ret : Option FieldType} {f L mc ms idx na : Nat} {As st0 : List Value} {post : Option Value → AH → Prop} {hh : List (Nat × Nat × Nat × Nat)} (hM : MW l Y y cy maxL ret hh f L mc ms As h post) (y1 : Cond.static y ∈ AllW) (y3 : Cond.initialized y.cls ∈ AllW) (y4 : Cond.codeWith y cy maxL ret hh ∈ AllW) (y5 : y.cls ≠ "java/lang/invoke/MethodHandle" ∧ y.cls ≠ "java/lang/invoke/VarHandle" ∧ (parseMethodDescriptor y.desc).map (fun d => d.parameters.length) = some na) (hlink : Cond.methodLink own idx y ∈ AllW) (hsk : st0 = As.reverse ++ st) (hna : As.length = na) (hd : decode cc pc = .ok (.invokestatic idx, 3)) (hst : (st.map fun v => v.category).sum ≤ 8) (hf : f + 1 ≤ R.frames) (hL : 8 + (maxL + 11) + L ≤ R.locals) (hkc : k + mc ≤ R.cells) (hns : n + ms ≤ R.slots) (kk : ∀ (v : Option Value) (h' : AH), post v h' → Gd p l e R s m args below meth c Q Y nL (pc + 3) lv (v.toList ++ st) (h') (k + mc) (n + ms)) : Gd p l e R s m args below meth c Q Y nL pc lv st0 h k n := by
  have hC := C
  obtain ⟨hx, hb, hml, hown, hts, hK, -, hA, -⟩ := C
  refine g_run (av := As.toArray) (post := post) (st0 := st0) (mc := mc) (ms := ms) (fun H locs ls hc hS hl => ?_) kk
  exact vx_runSW (As := As) (rest := st) ⟨hx, hb, hml, hown, hts⟩ hM (vx_cwSW na hts (gi_W hlink y1 y3 y4) rfl rfl rfl y5 ⟨hf, hL⟩) ⟨WD.blind, fun U hU hW => ⟨rfl, hC.wd hc hS U hU hW⟩⟩ rfl hna hl.1 hsk (lv_room hst) hd ⟨hkc, hns⟩
theorem g_callF (C : Cx p s m args meth c Y cc nL own) {y : MethodName} {cy : ByteArray} {maxL : Nat} {ret : Option FieldType} {f L mc ms idx na : Nat} {As st0 : List Value} {post : Option Value → AH → Prop} {x : MethodName} {b ci count : Nat} {Cn : String} {T : u_T} {N : Nat} {fs : List Value} (hM : MK l Y y cy maxL ret f L mc ms (.ref b :: As) h post) (hF : va_Fw Cn x y s) (h1 : Cond.methodLink own idx x ∈ AllW) (h2 : Cond.selects Cn x y ∈ AllW) (h3 : Cond.instanceMethod y ∈ AllW) (h4 : Cond.initialized y.cls ∈ AllW) (h5 : Cond.code y cy maxL ret ∈ AllW) (hdx : x.cls ≠ "java/lang/invoke/MethodHandle" ∧ x.cls ≠ "java/lang/invoke/VarHandle" ∧ (parseMethodDescriptor x.desc).map (fun d => d.parameters.length) = some na) (ha : h b = some (.inr (ci, fs))) (hci : vwCl[ci]? = some (Cn, T, N)) (hsk : st0 = As.reverse ++ .ref b :: st) (hna : As.length = na) (hd : decode cc pc = .ok (.invokeinterface idx count, 5)) (hst : (st.map fun v => v.category).sum ≤ 8) (hf : f + 1 ≤ R.frames) (hL : 8 + (maxL + 11) + L ≤ R.locals) (hkc : k + mc ≤ R.cells) (hns : n + ms ≤ R.slots) (kk : ∀ (v : Option Value) (h' : AH), post v h' → Gd p l e R s m args below meth c Q Y nL (pc + 5) lv (v.toList ++ st) (h') (k + mc) (n + ms)) : Gd p l e R s m args below meth c Q Y nL pc lv st0 h k n := by
  have hC := C
  obtain ⟨hx, hb, hml, hown, hts, hK, -, hA, -⟩ := C
  refine g_run5 (av := (Value.ref b :: As).toArray) (post := post) (st0 := st0) (mc := mc) (ms := ms) (fun H locs ls hc hS hl => ?_) kk
  obtain ⟨ws, hP, hD, hw⟩ := id hc
  obtain ⟨q0, hq⟩ := hw b _ ha
  exact va_runF (As := As) (rest := st) (C := Cn) (hK.1 ci _ hci).2 ⟨hx, hb, hml, hown, hts⟩ hM (va_cwF na hts (gi_F h1 h2 h3 h4 h5) rfl rfl rfl hF hdx ⟨hf, hL⟩) ⟨WD.blind, va_recv hK hP hci hq, fun U hU hW => ⟨rfl, hC.wd hc hS U hU hW⟩⟩ rfl hna hl.1 hsk (lv_room hst) hd ⟨hkc, hns⟩
variable {post : Option Value → AH → Prop} {px : String → AH → Prop} {mc ms : Nat}
theorem g_iret (C : Cx p s m args meth c Y cc nL own) {x : Int32} (hr : meth.sig.returnType = some .int) (hd : decode cc pc = .ok (.ireturn, 1)) (hk : k ≤ mc) (hn : n ≤ ms) (hp : post (some (.int x)) h) : Gd p l e R s m args below meth c (vx_MQ below (Qk Y post) (Xk Y px) args s mc ms Y.A) Y nL pc lv ([.int x]) h k n := by
  obtain ⟨hx, hb, -, -, -, -, -, -, hlocks⟩ := C
  intro H locs ls hc hS hl
  refine W.widen hk hn (vx_ret ?_)
  exact W.iret (v := x) hx hb hr (fun t ht hW => ⟨⟨_, h, rfl, hp, by rw [ht]; exact hc⟩, hS.F ht⟩) hS.2.2 hd hlocks
theorem g_zret (C : Cx p s m args meth c Y cc nL own) {x : Int32} (hr : meth.sig.returnType = some .boolean) (hx01 : x = 0 ∨ x = 1) (hd : decode cc pc = .ok (.ireturn, 1)) (hk : k ≤ mc) (hn : n ≤ ms) (hp : post (some (.int x)) h) : Gd p l e R s m args below meth c (vx_MQ below (Qk Y post) (Xk Y px) args s mc ms Y.A) Y nL pc lv ([.int x]) h k n := by
  obtain ⟨hx, hb, -, -, -, -, -, -, hlocks⟩ := C
  intro H locs ls hc hS hl
  refine W.widen hk hn (vx_ret ?_)
  exact W.zret (v := x) (ty := .boolean) hx hb hr (by rcases hx01 with rfl | rfl <;> rfl) (fun t ht hW => ⟨⟨_, h, rfl, hp, by rw [ht]; exact hc⟩, hS.F ht⟩) hS.2.2 hd hlocks
theorem g_lret (C : Cx p s m args meth c Y cc nL own) {x : Int64} (hr : meth.sig.returnType = some .long) (hd : decode cc pc = .ok (.lreturn, 1)) (hk : k ≤ mc) (hn : n ≤ ms) (hp : post (some (.long x)) h) : Gd p l e R s m args below meth c (vx_MQ below (Qk Y post) (Xk Y px) args s mc ms Y.A) Y nL pc lv ([.long x]) h k n := by
  obtain ⟨hx, hb, -, -, -, -, -, -, hlocks⟩ := C
  intro H locs ls hc hS hl
  refine W.widen hk hn (vx_ret ?_)
  exact W.lret (v := x) hx hb hr (fun t ht hW => ⟨⟨_, h, rfl, hp, by rw [ht]; exact hc⟩, hS.F ht⟩) hS.2.2 hd hlocks
theorem g_dret (C : Cx p s m args meth c Y cc nL own) {x : UInt64} (hr : meth.sig.returnType = some .double) (hd : decode cc pc = .ok (.dreturn, 1)) (hk : k ≤ mc) (hn : n ≤ ms) (hp : post (some (.double x)) h) : Gd p l e R s m args below meth c (vx_MQ below (Qk Y post) (Xk Y px) args s mc ms Y.A) Y nL pc lv ([.double x]) h k n := by
  obtain ⟨hx, hb, -, -, -, -, -, -, hlocks⟩ := C
  intro H locs ls hc hS hl
  refine W.widen hk hn (vx_ret ?_)
  exact W.dret (v := x) hx hb hr (fun t ht hW => ⟨⟨_, h, rfl, hp, by rw [ht]; exact hc⟩, hS.F ht⟩) hS.2.2 hd hlocks
theorem g_aret (C : Cx p s m args meth c Y cc nL own) {x : Value} {rt : FieldType} (hr : meth.sig.returnType = some rt) (hrt : (∃ n, rt = .object n) ∨ ∃ t, rt = .array t) (hv : isR x = true) (hd : decode cc pc = .ok (.areturn, 1)) (hk : k ≤ mc) (hn : n ≤ ms) (hp : post (some x) h) : Gd p l e R s m args below meth c (vx_MQ below (Qk Y post) (Xk Y px) args s mc ms Y.A) Y nL pc lv ([x]) h k n := by
  obtain ⟨hx, hb, -, -, -, -, -, -, hlocks⟩ := C
  intro H locs ls hc hS hl
  refine W.widen hk hn (vx_ret ?_)
  exact W.aret (v := x) hx hb hr hrt (isR_or hv) (fun t ht hW => ⟨⟨_, h, rfl, hp, by rw [ht]; exact hc⟩, hS.F ht⟩) hS.2.2 hd hlocks
theorem g_vret (C : Cx p s m args meth c Y cc nL own) (hr : meth.sig.returnType = none) (hd : decode cc pc = .ok (.return_, 1)) (hk : k ≤ mc) (hn : n ≤ ms) (hp : post none h) : Gd p l e R s m args below meth c (vx_MQ below (Qk Y post) (Xk Y px) args s mc ms Y.A) Y nL pc lv ([]) h k n := by
  obtain ⟨hx, hb, -, -, -, -, -, -, hlocks⟩ := C
  intro H locs ls hc hS hl
  refine W.widen hk hn (vx_ret ?_)
  exact W.vret hx hb hr (fun t ht hW => ⟨⟨_, h, rfl, hp, by rw [ht]; exact hc⟩, hS.F ht⟩) hS.2.2 hd hlocks
theorem g_out (C : Cx p s m args meth c Y cc nL own) {E : String} (hout : ∀ x ∈ c.exceptionTable.toList, False) (hp : px E h) (hk : k ≤ mc) (hn : n ≤ ms) : Gx p l e R s m args below meth c (vx_MQ below (Qk Y post) (Xk Y px) args s mc ms Y.A) Y nL pc lv st h k n E := by
  obtain ⟨hx, hb, -, -, -, -, -, -, hlocks⟩ := C
  intro H locs ls q ce hc hS hl h1 h2 h3
  exact vx_out (fun x hx => (hout x hx).elim) hlocks h1 h2 h3 (fun t ht hW => ⟨⟨h, hp, by rw [ht]; exact hc⟩, hS.F ht⟩) hS.2.2 hk hn
/-- what a throw of the class X at the place ic of the class own wants of the words -/
def okT (own : String) (ik ic : Nat) (X : String) : Prop := Cond.classLink own ik X ∈ AllW ∧ Cond.initialized X ∈ AllW ∧ (∀ w ∈ (vx_atS own ic X ["java/lang/RuntimeException", "java/lang/Exception"]).filter goodWord, w ∈ AllW) ∧ (∀ w ∈ (vx_atS own ic X ["java/lang/RuntimeException", "java/lang/Exception"]).filter (fun w => !goodWord w), w ∈ Cond.castable X X :: declW) ∧ (∀ w ∈ vx_atS own ic X ["java/lang/RuntimeException", "java/lang/Exception"], vx_ot w = true) ∧ Bundle.fit X = true
theorem g_throwS (C : Cx p s m args meth c Y cc nL own) {ik is ic : Nat} {E text : String} (hfl : l.stackTraces = false) (hout : ∀ x ∈ c.exceptionTable.toList, False) (hT : okT own ik ic E) (hca : va_Ca E E s) (hs : ∃ a : Nat, vk_R own is text a s) (d0 : decode cc pc = .ok (.new ik, 3)) (d3 : decode cc (pc + 3) = .ok (.dup, 1)) (d4 : decode cc (pc + 4) = .ok (.ldc is, 2)) (d6 : decode cc (pc + 6) = .ok (.invokespecial ic, 3)) (d9 : decode cc (pc + 9) = .ok (.athrow, 1))
    (hRf : 5 < R.frames) (hRl : (st.map fun v => v.category).sum + 82 ≤ R.locals) (hRc : k + 1 ≤ R.cells) (hRs : n + 6 ≤ R.slots) (hk : k + 1 ≤ mc) (hn : n + 6 ≤ ms) (hp : px E h) : Gd p l e R s m args below meth c (vx_MQ below (Qk Y post) (Xk Y px) args s mc ms Y.A) Y nL pc lv st h k n := by
  obtain ⟨hx, hb, hml, hown, hts, hK, ⟨hF, hTF⟩, hA, hlocks⟩ := C
  obtain ⟨t1, t2, t3, t4, t5, t6⟩ := hT
  have hDY := hTF.2.2.2.2.2.2.2.2.2.1
  obtain ⟨sa, hs⟩ := hs
  intro H locs ls hc hS hl
  exact vx_throwS (names := ["java/lang/RuntimeException", "java/lang/Exception"]) (A := Y.A) hx hb hfl hown t6 (by decide) (hts _ t1) (hts _ t2) hs
    (vx_hat (fun w hw => hts w (t3 w hw)) t4 (vx_c (va_Ca.use hca) (fun w hw => by obtain ⟨y, hy, rfl⟩ := List.mem_map.mp hw; exact va_Nw.use rfl (hDY y hy))))
    (fun w hw => (List.mem_cons.mp hw).elim (fun z => by rw [z]; rfl) (fun hw => (List.mem_cons.mp hw).elim (fun z => by rw [z]; rfl) (t5 w)))
    hF.2.2.2.1 hF.2.2.2.2.1 hS (by rw [hml]; exact hl.1) d0 d3 d4 d6 d9 (fun x hx => (hout x hx).elim) hRf (by simpa using hRl) hRc hRs hlocks (fun t hW h1 h2 => ⟨⟨h, hp, hc.kept h2⟩, ⟨Nat.le_trans hS.1 h1, fun q q1 q2 => (h2 q (Nat.lt_of_lt_of_le q1 hS.1)).trans (hS.2.1 q q1 q2)⟩⟩) hS.2.2 hk hn
end GD
/-- a method's body, from its entry -/
theorem MX.of {l : Launch} {Y : YG} {y : MethodName} {cc : ByteArray} {maxL : Nat} {ret : Option FieldType} {f L mc ms : Nat} {As : List Value} {h : AH} {post : Option Value → AH → Prop} {px : String → AH → Prop} (hy : plainName y.cls = true) (hLL : (lg_sl As).length ≤ maxL)
    (body : ∀ p e s m args below meth c, Cx p s m args meth c Y cc maxL y.cls → meth.sig.returnType = ret → (∀ x ∈ c.exceptionTable.toList, False) → meth.name = y.name → Gd p l e (rmO f L mc ms) s m args below meth c (vx_MQ below (Qk Y post) (Xk Y px) args s mc ms Y.A) Y maxL 0 (lent As maxL) [] h 0 0) : MX l Y y cc maxL ret f L mc ms As h post px := by
  refine vx_ofW (cc := cc) (maxL := maxL) (ret := ret) hy rfl ?_
  intro p e s m args below meth c s₁ B hml hout hv
  obtain ⟨rfl, hc, hA, hK, hF⟩ := hv
  have hts0 := atoms_spec (ws := Cond.code y cc maxL ret :: AllW) B.pre
  rw [lg_entry_eq]
  exact body p e s m _ below meth c ⟨B.exec, B.bytes, hml, findClass_of_methodNamed B.named, fun w hw => hts0 w (List.mem_cons_of_mem _ hw), hK, hF, hA, B.notSynchronized⟩ B.returns hout (name_of_methodNamed B.named B.method).1 s.heap [] _ hc va_S.rf (lh.entry As hLL)
