/-! ===== what the tables say that is no good word, and the statics ===== -/
def nL_add : MethodName := ⟨"java/util/List", "add", "(Ljava/lang/Object;)Z"⟩
def nL_size : MethodName := ⟨"java/util/List", "size", "()I"⟩
def nL_get : MethodName := ⟨"java/util/List", "get", "(I)Ljava/lang/Object;"⟩
abbrev sIS : String := "java/lang/IllegalStateException"
abbrev sIA : String := "java/lang/IllegalArgumentException"
abbrev sIO : String := "java/lang/IndexOutOfBoundsException"
def colS : Nat → Int32 := fun j => match j with
  | 0 => 0 | 1 => 1 | 2 => 1 | 3 => 1 | 4 => 0 | 5 => -1 | 6 => -1 | _ => -1
def rowS : Nat → Int32 := fun j => match j with
  | 0 => 1 | 1 => 1 | 2 => 0 | 3 => -1 | 4 => -1 | 5 => -1 | 6 => 0 | _ => 1
def va_Ca (C T : String) (U : State) : Prop := (Cond.castable C T).before #[] U = true
theorem va_Ca.of {C T : String} {A : Array Value} {U : State} (h : (Cond.castable C T).before A U = true) : va_Ca C T U := va_any rfl h
theorem va_Ca.use {C T : String} {A : Array Value} {U : State} (h : va_Ca C T U) : (Cond.castable C T).before A U = true := va_any rfl h
theorem va_Ca.moved {C T : String} {u U : State} (hvm : u.vm.Alike U.vm) (h : va_Ca C T u) : va_Ca C T U := by
  have h1 : (Cond.castable C T).before #[] (u.setVm U.vm) = true := by
    rw [Cond.castable_setVm hvm]
    exact h
  have e := Cond.onTables_vm (A := #[]) (A' := #[]) (U := u) (U' := U) U.vm (Cond.castable C T) rfl
  have hU : U.setVm U.vm = U := rfl
  rw [hU] at e
  unfold va_Ca
  rw [← e]
  exact h1
/-- the exceptions' constructors, declared -/
def declY : List MethodName := [⟨"java/lang/RuntimeException", "<init>", "()V"⟩, ⟨"java/lang/RuntimeException", "<init>", "(Ljava/lang/String;)V"⟩, ⟨"java/lang/Exception", "<init>", "()V"⟩, ⟨"java/lang/Exception", "<init>", "(Ljava/lang/String;)V"⟩, ⟨"java/lang/Throwable", "<init>", "()V"⟩, ⟨"java/lang/Throwable", "<init>", "(Ljava/lang/String;)V"⟩]
def declW : List Cond := declY.map Cond.declares
/-- facts of the tables -/
def TF (mi : Nat) (U : State) : Prop :=
  va_Fw RJx4a65c nL_add yJx4a65c_add_9ea2d U ∧ va_Fw RJx4a65c nL_size yJx4a65c_size_8abf5 U ∧ va_Fw RJx4a65c nL_get yJx4a65c_get_915e3 U ∧
  va_Nw (.methodLinkNest RX1 57 yX2_farther RX2) U ∧ (va_Ca sIS sIS U ∧ va_Ca sIA sIA U ∧ va_Ca sIO sIO U ∧ va_Ca RX0 "java/lang/Object" U ∧ va_Ca "[I" "java/lang/Cloneable" U) ∧ ((Cond.arrayOver (.array .int)).before #[] U = true ∧ va_Nw (.methodLinkNest RL 89 yX3_init RL) U) ∧
  va_Mi "[Ljava/lang/Object;" mi U ∧ va_Dc U ∧ va_AO "java/lang/Object" U ∧ (∀ y ∈ declY, va_Nw (.declares y) U) ∧
  (∃ a : Nat, vk_R RX2 50 "no more pieces" a U) ∧ (∃ a : Nat, vk_R RX2 59 "a paw was done already" a U) ∧ (∃ a : Nat, vk_R RX2 65 "another piece is there" a U) ∧ (∃ a : Nat, vk_R RX2 75 "the paw is refused" a U) ∧ (∃ a : Nat, vk_R RX2 77 "no more evenings" a U) ∧ (∃ a : Nat, vk_R RX2 96 "fewer paws were done" a U) ∧ (∃ a : Nat, vk_R RX2 101 "nothing to do again" a U) ∧ (∃ a : Nat, vk_R RX2 127 "no such piece" a U) ∧ (∃ a : Nat, vk_R RX2 213 "no such evening" a U) ∧ (∃ a : Nat, vk_R RX2 221 "no such paw" a U) ∧ (∃ a : Nat, vk_R RX2 227 "many is not 1 to 60" a U) ∧ (∃ a : Nat, vk_R RX2 232 "column or row is not 0 to 7" a U)
theorem TF.warm {mi : Nat} {s U : State} (hW : s.WarmedH U.vm) (h : TF mi s) : TF mi U := by
  obtain ⟨h1, h2, h3, h4, ⟨c1, c2, c3, c4, c5⟩, h5, h6, h7, h8, h9, ⟨a0, s0⟩, ⟨a1, s1⟩, ⟨a2, s2⟩, ⟨a3, s3⟩, ⟨a4, s4⟩, ⟨a5, s5⟩, ⟨a6, s6⟩, ⟨a7, s7⟩, ⟨a8, s8⟩, ⟨a9, s9⟩, ⟨a10, s10⟩, ⟨a11, s11⟩⟩ := h
  exact ⟨va_Fw.moved (by decide) hW.alike h1, va_Fw.moved (by decide) hW.alike h2, va_Fw.moved (by decide) hW.alike h3, va_Nw.warmM hW h4, ⟨c1.moved hW.alike, c2.moved hW.alike, c3.moved hW.alike, c4.moved hW.alike, c5.moved hW.alike⟩, ⟨over_moved hW.alike h5.1, va_Nw.warmM hW h5.2⟩, h6.moved hW.alike, h7.moved hW.alike, h8.moved hW.alike, fun y hy => va_Nw.warmD hW (h9 y hy), ⟨a0, s0.warm hW⟩, ⟨a1, s1.warm hW⟩, ⟨a2, s2.warm hW⟩, ⟨a3, s3.warm hW⟩, ⟨a4, s4.warm hW⟩, ⟨a5, s5.warm hW⟩, ⟨a6, s6.warm hW⟩, ⟨a7, s7.warm hW⟩, ⟨a8, s8.warm hW⟩, ⟨a9, s9.warm hW⟩, ⟨a10, s10.warm hW⟩, ⟨a11, s11.warm hW⟩⟩
/-- an int table that nobody writes -/
def tab (C n : String) (f : Nat → Int32) (A : Nat → Prop) (U : State) (H : Heap) : Prop := ∃ t : Nat, va_Z C n "[I" (.ref t) A U H ∧ va_T .int t 8 (fun j => .int (f j)) A U H
theorem tab.go {C n : String} {f : Nat → Int32} {A : Nat → Prop} {u U : State} {H H1 : Heap} (hvm : u.vm.Alike U.vm) (hq : ∀ a : Nat, a < H.size → ¬ A a → H1[a]? = H[a]?) (h : tab C n f A u H) : tab C n f A U H1 := by
  obtain ⟨t, h1, h2⟩ := h
  exact ⟨t, (h1.moved hvm).kept hq, (h2.moved hvm).kept hq⟩
def sE (A : Nat → Prop) (tE : Nat) (U : State) (H : Heap) : Prop := va_Z "java/util/ArrayList" "DEFAULTCAPACITY_EMPTY_ELEMENTDATA" "[Ljava/lang/Object;" (.ref tE) A U H ∧ va_T (.object "java/lang/Object") tE 0 (fun _ => .null) A U H
/-- the script, which nobody writes -/
def scr (A : Nat → Prop) (sb sL : Nat) (U : State) (H : Heap) : Prop := ¬ A sb ∧ ∃ xs : Nat → Int32, va_X sb sL xs U H
theorem scr.go {A : Nat → Prop} {sb sL : Nat} {u U : State} {H H1 : Heap} (hvm : u.vm.Alike U.vm) (hq : ∀ a : Nat, a < H.size → ¬ A a → H1[a]? = H[a]?) (h : scr A sb sL u H) : scr A sb sL U H1 := by
  obtain ⟨h1, xs, h2⟩ := h
  have hl : sb < H.size := by
    obtain ⟨c, hc, -⟩ := h2
    exact (Array.getElem?_eq_some_iff.mp hc).1
  exact ⟨h1, xs, (h2.moved hvm).kept (hq _ hl h1)⟩
def SFh (A : Nat → Prop) (tE sb sL : Nat) (U : State) (H : Heap) : Prop :=
  tab "CatEvenings" "COLUMN_STEPS" colS A U H ∧ tab "CatEvenings" "ROW_STEPS" rowS A U H ∧  sE A tE U H ∧ vx_Zq Bundle.tN "UNASSIGNED_STACK" Bundle.steD A U H ∧ vx_Zq Bundle.tN "SUPPRESSED_SENTINEL" Bundle.listD A U H ∧ scr A sb sL U H
theorem SFh.go {A : Nat → Prop} {tE sb sL : Nat} {u U : State} {H H1 : Heap} (hvm : u.vm.Alike U.vm) (hq : ∀ a : Nat, a < H.size → ¬ A a → H1[a]? = H[a]?) (h : SFh A tE sb sL u H) : SFh A tE sb sL U H1 := by
  obtain ⟨h1, h2,  ⟨h4, h5⟩, h6, h7, h8⟩ := h
  exact ⟨h1.go hvm hq, h2.go hvm hq,  ⟨(va_Z.moved hvm h4).kept hq, (va_T.moved hvm h5).kept hq⟩, (vx_Zq.moved hvm h6).kept hq, (vx_Zq.moved hvm h7).kept hq, h8.go hvm hq⟩
def SF (Y : YG) (U : State) (H : Heap) : Prop := SFh Y.A Y.tE Y.sb Y.sL U H ∧ TF Y.mi U
/-- what holds where a method begins, and is given at a call -/
def WD (Y : YG) (h : AH) (U : State) : Prop := cw Y h U.heap ∧ (∀ q : Nat, U.heap.size ≤ q → Y.A q) ∧ va_K Y.D vwCl Y.tys U ∧ SF Y U U.heap
/-- what holds all through a method's frame -/
def Cx (p : Program) (s : State) (m : MethodId) (args : Array Value) (meth : Method) (c : Code) (Y : YG) (cc : ByteArray) (nL : Nat) (own : String) : Prop :=
  p.tables.exec = Jvm.exec ∧ c.code = cc ∧ c.maxLocals = nL ∧ s.vm.findClass own = some m.cls ∧ (∀ w ∈ AllW, w.before args s = true) ∧ va_K Y.D vwCl Y.tys s ∧ SF Y s s.heap ∧ (∀ q : Nat, s.heap.size ≤ q → Y.A q) ∧ meth.locks = false
def Gd (p : Program) (l : Launch) (e : Env) (R : Room) (s : State) (m : MethodId) (args : Array Value) (below : List Frame) (meth : Method) (c : Code) (Q : State → Prop) (Y : YG) (nL : Nat) (pc : Nat) (lv : List (Option Value)) (st : List Value) (h : AH) (k n : Nat) : Prop :=
  ∀ (H : Heap) (locs : List Loc) (ls : Array Slot), cw Y h H → va_S Y.A s.heap H locs → lh ls nL lv → W p l e R s m args below meth c H locs k n Q (F0 m pc ls st)
section GD
variable {p : Program} {l : Launch} {e : Env} {R : Room} {s : State} {m : MethodId} {args : Array Value} {below : List Frame} {meth : Method} {c : Code} {Q : State → Prop} {Y : YG} {nL : Nat} {cc : ByteArray} {own : String} {pc : Nat} {lv : List (Option Value)} {st : List Value} {h : AH} {k n : Nat}
theorem Cx.wd (C : Cx p s m args meth c Y cc nL own) {H : Heap} {locs : List Loc} (hc : cw Y h H) (hS : va_S Y.A s.heap H locs) : ∀ U : State, U.heap = H → s.WarmedH U.vm → WD Y h U := by
  obtain ⟨-, -, -, -, -, hK, ⟨hF1, hF2⟩, hA, -⟩ := C
  intro U hU hW
  subst hU
  exact ⟨hc, fun q hq => hA q (Nat.le_trans hS.1 hq), hK.moved hW.alike, hF1.go hW.alike hS.2.1, hF2.warm hW⟩
theorem WD.blind {As : List Value} : FrameBlind (va_Pc As (WD Y h)) := by
  intro a U g mk q
  obtain ⟨q0, q1, q2, q3, q4, q5⟩ := q
  exact ⟨q0, q1, q2, q3.moved (u := U) (U := U.calling g mk a) (Vm.Alike.refl U.vm), q4.go (u := U) (U := U.calling g mk a) (Vm.Alike.refl U.vm) (fun _ _ _ => rfl), q5.warm (s := U) (U := U.calling g mk a) (State.WarmedH.refl U)⟩
abbrev gQ (Gp : Nat → List (Option Value) → List Value → AH → Nat → Nat → Prop) : Prop := True
theorem Gd.wide {k2 n2 : Nat} (h1 : k ≤ k2) (h2 : n ≤ n2) (kk : Gd p l e R s m args below meth c Q Y nL pc lv st h k2 n2) : Gd p l e R s m args below meth c Q Y nL pc lv st h k n := fun H locs ls hc hS hl => W.widen h1 h2 (kk H locs ls hc hS hl)
theorem Gd.less {h2 : AH} (hk : ∀ a e, h2 a = some e → h a = some e) (kk : Gd p l e R s m args below meth c Q Y nL pc lv st h2 k n) : Gd p l e R s m args below meth c Q Y nL pc lv st h k n := fun H locs ls hc hS hl => kk H locs ls (hc.less hk) hS hl
theorem Gd.relv {lv2 : List (Option Value)} (hk : ∀ (i : Nat) (v : Value), lv2[i]? = some (some v) → lv[i]? = some (some v)) (kk : Gd p l e R s m args below meth c Q Y nL pc lv2 st h k n) : Gd p l e R s m args below meth c Q Y nL pc lv st h k n := fun H locs ls hc hS hl => kk H locs ls hc hS (lh.of hl.1 hl.2.1 (fun i v hv => hl.at (hk i v hv)))
theorem g_iconst (C : Cx p s m args meth c Y cc nL own) {i : Int} {v : Int32} (hd : decode cc pc = .ok (.iconst i, 1)) (hv : Int32.ofInt i = v) (kk : Gd p l e R s m args below meth c Q Y nL (pc + 1) lv (.int v :: st) h k n) : Gd p l e R s m args below meth c Q Y nL pc lv st h k n := by
  obtain ⟨hx, hb, -, hown, hts, -⟩ := C
  intro H locs ls hc hS hl
  exact lv_iconst hx hb hd hv (kk H locs ls hc hS hl)
theorem g_bipush (C : Cx p s m args meth c Y cc nL own) {i : Int} {v : Int32} (hd : decode cc pc = .ok (.bipush i, 2)) (hv : (Int8.ofInt i).toInt32 = v) (kk : Gd p l e R s m args below meth c Q Y nL (pc + 2) lv (.int v :: st) h k n) : Gd p l e R s m args below meth c Q Y nL pc lv st h k n := by
  obtain ⟨hx, hb, -, hown, hts, -⟩ := C
  intro H locs ls hc hS hl
  exact lv_bipush hx hb hd hv (kk H locs ls hc hS hl)
theorem g_sipush (C : Cx p s m args meth c Y cc nL own) {i : Int} {v : Int32} (hd : decode cc pc = .ok (.sipush i, 3)) (hv : (Int16.ofInt i).toInt32 = v) (kk : Gd p l e R s m args below meth c Q Y nL (pc + 3) lv (.int v :: st) h k n) : Gd p l e R s m args below meth c Q Y nL pc lv st h k n := by
  obtain ⟨hx, hb, -, hown, hts, -⟩ := C
  intro H locs ls hc hS hl
  exact lv_sipush hx hb hd hv (kk H locs ls hc hS hl)
theorem g_lconst (C : Cx p s m args meth c Y cc nL own) {i : Fin 2} {v : Int64} (hd : decode cc pc = .ok (.lconst i, 1)) (hv : Int64.ofNat (i : Nat) = v) (kk : Gd p l e R s m args below meth c Q Y nL (pc + 1) lv (.long v :: st) h k n) : Gd p l e R s m args below meth c Q Y nL pc lv st h k n := by
  obtain ⟨hx, hb, -, hown, hts, -⟩ := C
  intro H locs ls hc hS hl
  exact lv_lconst hx hb hd hv (kk H locs ls hc hS hl)
theorem g_dconst0 (C : Cx p s m args meth c Y cc nL own) (hd : decode cc pc = .ok (.dconst 0, 1)) (kk : Gd p l e R s m args below meth c Q Y nL (pc + 1) lv (.double FP.dconst0 :: st) h k n) : Gd p l e R s m args below meth c Q Y nL pc lv st h k n := by
  obtain ⟨hx, hb, -, hown, hts, -⟩ := C
  intro H locs ls hc hS hl
  exact lv_dconst0 hx hb hd (kk H locs ls hc hS hl)
theorem g_null (C : Cx p s m args meth c Y cc nL own) (hd : decode cc pc = .ok (.aconst_null, 1)) (kk : Gd p l e R s m args below meth c Q Y nL (pc + 1) lv (.null :: st) h k n) : Gd p l e R s m args below meth c Q Y nL pc lv st h k n := by
  obtain ⟨hx, hb, -, hown, hts, -⟩ := C
  intro H locs ls hc hS hl
  exact lv_null hx hb hd (kk H locs ls hc hS hl)
theorem g_ldc (C : Cx p s m args meth c Y cc nL own) {i : Nat} {v : Int32} (hd : decode cc pc = .ok (.ldc i, 2)) (hw : Cond.constant own i v ∈ AllW) (kk : Gd p l e R s m args below meth c Q Y nL (pc + 2) lv (.int v :: st) h k n) : Gd p l e R s m args below meth c Q Y nL pc lv st h k n := by
  obtain ⟨hx, hb, -, hown, hts, -⟩ := C
  intro H locs ls hc hS hl
  exact lv_ldc hx hb hown (hts _ hw) hd (kk H locs ls hc hS hl)
theorem g_ldcw (C : Cx p s m args meth c Y cc nL own) {i : Nat} {v : Int32} (hd : decode cc pc = .ok (.ldc_w i, 3)) (hw : Cond.constant own i v ∈ AllW) (kk : Gd p l e R s m args below meth c Q Y nL (pc + 3) lv (.int v :: st) h k n) : Gd p l e R s m args below meth c Q Y nL pc lv st h k n := by
  obtain ⟨hx, hb, -, hown, hts, -⟩ := C
  intro H locs ls hc hS hl
  exact lv_ldcw hx hb hown (hts _ hw) hd (kk H locs ls hc hS hl)
theorem g_ldc2 (C : Cx p s m args meth c Y cc nL own) {i : Nat} {v : Int64} (hd : decode cc pc = .ok (.ldc2_w i, 3)) (hw : Cond.constantLong own i v ∈ AllW) (kk : Gd p l e R s m args below meth c Q Y nL (pc + 3) lv (.long v :: st) h k n) : Gd p l e R s m args below meth c Q Y nL pc lv st h k n := by
  obtain ⟨hx, hb, -, hown, hts, -⟩ := C
  intro H locs ls hc hS hl
  exact lv_ldc2 hx hb hown (hts _ hw) hd (kk H locs ls hc hS hl)
theorem g_iload_n (C : Cx p s m args meth c Y cc nL own) {i : Fin 4} {x : Int32} (hd : decode cc pc = .ok (.iload_n i, 1)) (hv : lv[(i : Nat)]? = some (some (.int x))) (kk : Gd p l e R s m args below meth c Q Y nL (pc + 1) lv (.int x :: st) h k n) : Gd p l e R s m args below meth c Q Y nL pc lv st h k n := by
  obtain ⟨hx, hb, -, hown, hts, -⟩ := C
  intro H locs ls hc hS hl
  exact lv_iload_n hx hb hd rfl (hl.at hv) (kk H locs ls hc hS hl)
theorem g_iload (C : Cx p s m args meth c Y cc nL own) {i : Nat} {x : Int32} (hd : decode cc pc = .ok (.iload i, 2)) (hv : lv[i]? = some (some (.int x))) (kk : Gd p l e R s m args below meth c Q Y nL (pc + 2) lv (.int x :: st) h k n) : Gd p l e R s m args below meth c Q Y nL pc lv st h k n := by
  obtain ⟨hx, hb, -, hown, hts, -⟩ := C
  intro H locs ls hc hS hl
  exact lv_iload hx hb hd (hl.at hv) (kk H locs ls hc hS hl)
theorem g_istore_n (C : Cx p s m args meth c Y cc nL own) {i : Fin 4} {x : Int32} (hd : decode cc pc = .ok (.istore_n i, 1)) (hn : (i : Nat) < nL) (kk : Gd p l e R s m args below meth c Q Y nL (pc + 1) (lset lv (i : Nat) (.int x)) st h k n) : Gd p l e R s m args below meth c Q Y nL pc lv (.int x :: st) h k n := by
  obtain ⟨hx, hb, -, hown, hts, -⟩ := C
  intro H locs ls hc hS hl
  exact lv_istore_n hx hb hd rfl hl hn rfl (fun ls2 hl2 => kk H locs ls2 hc hS (lh.set hl2))
theorem g_istore (C : Cx p s m args meth c Y cc nL own) {i : Nat} {x : Int32} (hd : decode cc pc = .ok (.istore i, 2)) (hn : i < nL) (kk : Gd p l e R s m args below meth c Q Y nL (pc + 2) (lset lv i (.int x)) st h k n) : Gd p l e R s m args below meth c Q Y nL pc lv (.int x :: st) h k n := by
  obtain ⟨hx, hb, -, hown, hts, -⟩ := C
  intro H locs ls hc hS hl
  exact lv_istore hx hb hd hl hn rfl (fun ls2 hl2 => kk H locs ls2 hc hS (lh.set hl2))
theorem g_lload_n (C : Cx p s m args meth c Y cc nL own) {i : Fin 4} {x : Int64} (hd : decode cc pc = .ok (.lload_n i, 1)) (hv : lv[(i : Nat)]? = some (some (.long x))) (kk : Gd p l e R s m args below meth c Q Y nL (pc + 1) lv (.long x :: st) h k n) : Gd p l e R s m args below meth c Q Y nL pc lv st h k n := by
  obtain ⟨hx, hb, -, hown, hts, -⟩ := C
  intro H locs ls hc hS hl
  exact lv_lload_n hx hb hd rfl (hl.at hv) (kk H locs ls hc hS hl)
theorem g_lload (C : Cx p s m args meth c Y cc nL own) {i : Nat} {x : Int64} (hd : decode cc pc = .ok (.lload i, 2)) (hv : lv[i]? = some (some (.long x))) (kk : Gd p l e R s m args below meth c Q Y nL (pc + 2) lv (.long x :: st) h k n) : Gd p l e R s m args below meth c Q Y nL pc lv st h k n := by
  obtain ⟨hx, hb, -, hown, hts, -⟩ := C
  intro H locs ls hc hS hl
  exact lv_lload hx hb hd (hl.at hv) (kk H locs ls hc hS hl)
theorem g_lstore_n (C : Cx p s m args meth c Y cc nL own) {i : Fin 4} {x : Int64} (hd : decode cc pc = .ok (.lstore_n i, 1)) (hn : (i : Nat) + 1 < nL) (kk : Gd p l e R s m args below meth c Q Y nL (pc + 1) (lset2 lv (i : Nat) (.long x)) st h k n) : Gd p l e R s m args below meth c Q Y nL pc lv (.long x :: st) h k n := by
  obtain ⟨hx, hb, -, hown, hts, -⟩ := C
  intro H locs ls hc hS hl
  exact lv_lstore_n hx hb hd rfl hl hn rfl (fun ls2 hl2 => kk H locs ls2 hc hS (lh.set2 hl2))
theorem g_lstore (C : Cx p s m args meth c Y cc nL own) {i : Nat} {x : Int64} (hd : decode cc pc = .ok (.lstore i, 2)) (hn : i + 1 < nL) (kk : Gd p l e R s m args below meth c Q Y nL (pc + 2) (lset2 lv i (.long x)) st h k n) : Gd p l e R s m args below meth c Q Y nL pc lv (.long x :: st) h k n := by
  obtain ⟨hx, hb, -, hown, hts, -⟩ := C
  intro H locs ls hc hS hl
  exact lv_lstore hx hb hd hl hn rfl (fun ls2 hl2 => kk H locs ls2 hc hS (lh.set2 hl2))
theorem g_dload_n (C : Cx p s m args meth c Y cc nL own) {i : Fin 4} {x : UInt64} (hd : decode cc pc = .ok (.dload_n i, 1)) (hv : lv[(i : Nat)]? = some (some (.double x))) (kk : Gd p l e R s m args below meth c Q Y nL (pc + 1) lv (.double x :: st) h k n) : Gd p l e R s m args below meth c Q Y nL pc lv st h k n := by
  obtain ⟨hx, hb, -, hown, hts, -⟩ := C
  intro H locs ls hc hS hl
  exact lv_dload_n hx hb hd rfl (hl.at hv) (kk H locs ls hc hS hl)
theorem g_dload (C : Cx p s m args meth c Y cc nL own) {i : Nat} {x : UInt64} (hd : decode cc pc = .ok (.dload i, 2)) (hv : lv[i]? = some (some (.double x))) (kk : Gd p l e R s m args below meth c Q Y nL (pc + 2) lv (.double x :: st) h k n) : Gd p l e R s m args below meth c Q Y nL pc lv st h k n := by
  obtain ⟨hx, hb, -, hown, hts, -⟩ := C
  intro H locs ls hc hS hl
  exact lv_dload hx hb hd (hl.at hv) (kk H locs ls hc hS hl)
theorem g_dstore_n (C : Cx p s m args meth c Y cc nL own) {i : Fin 4} {x : UInt64} (hd : decode cc pc = .ok (.dstore_n i, 1)) (hn : (i : Nat) + 1 < nL) (kk : Gd p l e R s m args below meth c Q Y nL (pc + 1) (lset2 lv (i : Nat) (.double x)) st h k n) : Gd p l e R s m args below meth c Q Y nL pc lv (.double x :: st) h k n := by
  obtain ⟨hx, hb, -, hown, hts, -⟩ := C
  intro H locs ls hc hS hl
  exact lv_dstore_n hx hb hd rfl hl hn rfl (fun ls2 hl2 => kk H locs ls2 hc hS (lh.set2 hl2))
theorem g_dstore (C : Cx p s m args meth c Y cc nL own) {i : Nat} {x : UInt64} (hd : decode cc pc = .ok (.dstore i, 2)) (hn : i + 1 < nL) (kk : Gd p l e R s m args below meth c Q Y nL (pc + 2) (lset2 lv i (.double x)) st h k n) : Gd p l e R s m args below meth c Q Y nL pc lv (.double x :: st) h k n := by
  obtain ⟨hx, hb, -, hown, hts, -⟩ := C
  intro H locs ls hc hS hl
  exact lv_dstore hx hb hd hl hn rfl (fun ls2 hl2 => kk H locs ls2 hc hS (lh.set2 hl2))
theorem g_aload_n (C : Cx p s m args meth c Y cc nL own) {i : Fin 4} {v : Value} (hd : decode cc pc = .ok (.aload_n i, 1)) (hv : lv[(i : Nat)]? = some (some v)) (hr : isR v = true) (kk : Gd p l e R s m args below meth c Q Y nL (pc + 1) lv (v :: st) h k n) : Gd p l e R s m args below meth c Q Y nL pc lv st h k n := by
  obtain ⟨hx, hb, -⟩ := C
  intro H locs ls hc hS hl
  rcases isR_or hr with rfl | ⟨a, rfl⟩
  · exact lv_aload_nN hx hb hd rfl (hl.at hv) (kk H locs ls hc hS hl)
  · exact lv_aload_n hx hb hd rfl (hl.at hv) (kk H locs ls hc hS hl)
theorem g_astore_n (C : Cx p s m args meth c Y cc nL own) {i : Fin 4} {v : Value} (hd : decode cc pc = .ok (.astore_n i, 1)) (hn : (i : Nat) < nL) (hr : isR v = true) (kk : Gd p l e R s m args below meth c Q Y nL (pc + 1) (lset lv (i : Nat) v) st h k n) : Gd p l e R s m args below meth c Q Y nL pc lv (v :: st) h k n := by
  obtain ⟨hx, hb, -⟩ := C
  intro H locs ls hc hS hl
  rcases isR_or hr with rfl | ⟨a, rfl⟩
  · exact lv_astore_nN hx hb hd rfl hl hn rfl (fun ls2 hl2 => kk H locs ls2 hc hS (lh.set hl2))
  · exact lv_astore_n hx hb hd rfl hl hn rfl (fun ls2 hl2 => kk H locs ls2 hc hS (lh.set hl2))
theorem g_aload (C : Cx p s m args meth c Y cc nL own) {i : Nat} {v : Value} (hd : decode cc pc = .ok (.aload i, 2)) (hv : lv[i]? = some (some v)) (hr : isR v = true) (kk : Gd p l e R s m args below meth c Q Y nL (pc + 2) lv (v :: st) h k n) : Gd p l e R s m args below meth c Q Y nL pc lv st h k n := by
  obtain ⟨hx, hb, -⟩ := C
  intro H locs ls hc hS hl
  rcases isR_or hr with rfl | ⟨a, rfl⟩
  · exact lv_aloadN hx hb hd (hl.at hv) (kk H locs ls hc hS hl)
  · exact lv_aload hx hb hd (hl.at hv) (kk H locs ls hc hS hl)
theorem g_astore (C : Cx p s m args meth c Y cc nL own) {i : Nat} {v : Value} (hd : decode cc pc = .ok (.astore i, 2)) (hn : i < nL) (hr : isR v = true) (kk : Gd p l e R s m args below meth c Q Y nL (pc + 2) (lset lv i v) st h k n) : Gd p l e R s m args below meth c Q Y nL pc lv (v :: st) h k n := by
  obtain ⟨hx, hb, -⟩ := C
  intro H locs ls hc hS hl
  rcases isR_or hr with rfl | ⟨a, rfl⟩
  · exact lv_astoreN hx hb hd hl hn rfl (fun ls2 hl2 => kk H locs ls2 hc hS (lh.set hl2))
  · exact lv_astore hx hb hd hl hn rfl (fun ls2 hl2 => kk H locs ls2 hc hS (lh.set hl2))
theorem lpr_place {lv : List (Option Value)} {i : Nat} {v : Value} (hv : lv[i]? = some (some v)) : ∃ j : Nat, (lpr 0 lv)[j]? = some (i, v) := by
  have := lpr_in lv 0 i v hv
  rw [Nat.zero_add] at this
  exact List.getElem?_of_mem this
theorem g_iinc (C : Cx p s m args meth c Y cc nL own) {i : Nat} {q : Int} {x : Int32} (hd : decode cc pc = .ok (.iinc i q, 3)) (hv : lv[i]? = some (some (.int x))) (hn : i < nL) (kk : Gd p l e R s m args below meth c Q Y nL (pc + 3) (lset lv i (.int (x + Int32.ofInt q))) st h k n) : Gd p l e R s m args below meth c Q Y nL pc lv st h k n := by
  obtain ⟨hx, hb, -⟩ := C
  intro H locs ls hc hS hl
  obtain ⟨j, hj⟩ := lpr_place hv
  exact lv_iinc hx hb hd hl hj rfl hn rfl (fun ls2 hl2 => kk H locs ls2 hc hS (lh.set hl2))
theorem g_iadd (C : Cx p s m args meth c Y cc nL own) {x y : Int32} (hd : decode cc pc = .ok (.iadd, 1)) (kk : Gd p l e R s m args below meth c Q Y nL (pc + 1) lv (.int (x + y) :: st) h k n) : Gd p l e R s m args below meth c Q Y nL pc lv (.int y :: .int x :: st) h k n := by
  obtain ⟨hx, hb, -, hown, hts, -⟩ := C
  intro H locs ls hc hS hl
  exact lv_iadd hx hb hd (kk H locs ls hc hS hl)
theorem g_isub (C : Cx p s m args meth c Y cc nL own) {x y : Int32} (hd : decode cc pc = .ok (.isub, 1)) (kk : Gd p l e R s m args below meth c Q Y nL (pc + 1) lv (.int (x - y) :: st) h k n) : Gd p l e R s m args below meth c Q Y nL pc lv (.int y :: .int x :: st) h k n := by
  obtain ⟨hx, hb, -, hown, hts, -⟩ := C
  intro H locs ls hc hS hl
  exact lv_isub hx hb hd (kk H locs ls hc hS hl)
theorem g_imul (C : Cx p s m args meth c Y cc nL own) {x y : Int32} (hd : decode cc pc = .ok (.imul, 1)) (kk : Gd p l e R s m args below meth c Q Y nL (pc + 1) lv (.int (x * y) :: st) h k n) : Gd p l e R s m args below meth c Q Y nL pc lv (.int y :: .int x :: st) h k n := by
  obtain ⟨hx, hb, -, hown, hts, -⟩ := C
  intro H locs ls hc hS hl
  exact lv_imul hx hb hd (kk H locs ls hc hS hl)
theorem g_iand (C : Cx p s m args meth c Y cc nL own) {x y : Int32} (hd : decode cc pc = .ok (.iand, 1)) (kk : Gd p l e R s m args below meth c Q Y nL (pc + 1) lv (.int (x &&& y) :: st) h k n) : Gd p l e R s m args below meth c Q Y nL pc lv (.int y :: .int x :: st) h k n := by
  obtain ⟨hx, hb, -, hown, hts, -⟩ := C
  intro H locs ls hc hS hl
  exact lv_iand hx hb hd (kk H locs ls hc hS hl)
theorem g_ior (C : Cx p s m args meth c Y cc nL own) {x y : Int32} (hd : decode cc pc = .ok (.ior, 1)) (kk : Gd p l e R s m args below meth c Q Y nL (pc + 1) lv (.int (x ||| y) :: st) h k n) : Gd p l e R s m args below meth c Q Y nL pc lv (.int y :: .int x :: st) h k n := by
  obtain ⟨hx, hb, -, hown, hts, -⟩ := C
  intro H locs ls hc hS hl
  exact lv_ior hx hb hd (kk H locs ls hc hS hl)
theorem g_ixor (C : Cx p s m args meth c Y cc nL own) {x y : Int32} (hd : decode cc pc = .ok (.ixor, 1)) (kk : Gd p l e R s m args below meth c Q Y nL (pc + 1) lv (.int (x ^^^ y) :: st) h k n) : Gd p l e R s m args below meth c Q Y nL pc lv (.int y :: .int x :: st) h k n := by
  obtain ⟨hx, hb, -, hown, hts, -⟩ := C
  intro H locs ls hc hS hl
  exact lv_ixor hx hb hd (kk H locs ls hc hS hl)
theorem g_ishl (C : Cx p s m args meth c Y cc nL own) {x y : Int32} (hd : decode cc pc = .ok (.ishl, 1)) (kk : Gd p l e R s m args below meth c Q Y nL (pc + 1) lv (.int (x <<< (y &&& 31)) :: st) h k n) : Gd p l e R s m args below meth c Q Y nL pc lv (.int y :: .int x :: st) h k n := by
  obtain ⟨hx, hb, -, hown, hts, -⟩ := C
  intro H locs ls hc hS hl
  exact lv_ishl hx hb hd (kk H locs ls hc hS hl)
theorem g_ishr (C : Cx p s m args meth c Y cc nL own) {x y : Int32} (hd : decode cc pc = .ok (.ishr, 1)) (kk : Gd p l e R s m args below meth c Q Y nL (pc + 1) lv (.int (x >>> (y &&& 31)) :: st) h k n) : Gd p l e R s m args below meth c Q Y nL pc lv (.int y :: .int x :: st) h k n := by
  obtain ⟨hx, hb, -, hown, hts, -⟩ := C
  intro H locs ls hc hS hl
  exact lv_ishr hx hb hd (kk H locs ls hc hS hl)
theorem g_idiv (C : Cx p s m args meth c Y cc nL own) {x y : Int32} (hd : decode cc pc = .ok (.idiv, 1)) (hne : ¬ y = 0) (kk : Gd p l e R s m args below meth c Q Y nL (pc + 1) lv (.int (x / y) :: st) h k n) : Gd p l e R s m args below meth c Q Y nL pc lv (.int y :: .int x :: st) h k n := by
  obtain ⟨hx, hb, -, hown, hts, -⟩ := C
  intro H locs ls hc hS hl
  exact lv_idiv hx hb hd hne (kk H locs ls hc hS hl)
theorem g_irem (C : Cx p s m args meth c Y cc nL own) {x y : Int32} (hd : decode cc pc = .ok (.irem, 1)) (hne : ¬ y = 0) (kk : Gd p l e R s m args below meth c Q Y nL (pc + 1) lv (.int (x - x / y * y) :: st) h k n) : Gd p l e R s m args below meth c Q Y nL pc lv (.int y :: .int x :: st) h k n := by
  obtain ⟨hx, hb, -, hown, hts, -⟩ := C
  intro H locs ls hc hS hl
  exact lv_irem hx hb hd hne (kk H locs ls hc hS hl)
theorem g_iushr (C : Cx p s m args meth c Y cc nL own) {x y : Int32} (hd : decode cc pc = .ok (.iushr, 1)) (kk : Gd p l e R s m args below meth c Q Y nL (pc + 1) lv (.int ((x.toUInt32 >>> (y.toUInt32 &&& Int32.toUInt32 31)).toInt32) :: st) h k n) : Gd p l e R s m args below meth c Q Y nL pc lv (.int y :: .int x :: st) h k n := by
  obtain ⟨hx, hb, -, hown, hts, -⟩ := C
  intro H locs ls hc hS hl
  exact lv_iushr hx hb hd rfl (kk H locs ls hc hS hl)
theorem g_ineg (C : Cx p s m args meth c Y cc nL own) {x : Int32} (hd : decode cc pc = .ok (.ineg, 1)) (kk : Gd p l e R s m args below meth c Q Y nL (pc + 1) lv (.int (0 - x) :: st) h k n) : Gd p l e R s m args below meth c Q Y nL pc lv (.int x :: st) h k n := by
  obtain ⟨hx, hb, -, hown, hts, -⟩ := C
  intro H locs ls hc hS hl
  exact lv_ineg hx hb hd (kk H locs ls hc hS hl)
theorem g_ladd (C : Cx p s m args meth c Y cc nL own) {x y : Int64} (hd : decode cc pc = .ok (.ladd, 1)) (kk : Gd p l e R s m args below meth c Q Y nL (pc + 1) lv (.long (x + y) :: st) h k n) : Gd p l e R s m args below meth c Q Y nL pc lv (.long y :: .long x :: st) h k n := by
  obtain ⟨hx, hb, -, hown, hts, -⟩ := C
  intro H locs ls hc hS hl
  exact lv_ladd hx hb hd (kk H locs ls hc hS hl)
theorem g_lmul (C : Cx p s m args meth c Y cc nL own) {x y : Int64} (hd : decode cc pc = .ok (.lmul, 1)) (kk : Gd p l e R s m args below meth c Q Y nL (pc + 1) lv (.long (x * y) :: st) h k n) : Gd p l e R s m args below meth c Q Y nL pc lv (.long y :: .long x :: st) h k n := by
  obtain ⟨hx, hb, -, hown, hts, -⟩ := C
  intro H locs ls hc hS hl
  exact lv_lmul hx hb hd (kk H locs ls hc hS hl)
theorem g_i2l (C : Cx p s m args meth c Y cc nL own) {x : Int32} (hd : decode cc pc = .ok (.i2l, 1)) (kk : Gd p l e R s m args below meth c Q Y nL (pc + 1) lv (.long x.toInt64 :: st) h k n) : Gd p l e R s m args below meth c Q Y nL pc lv (.int x :: st) h k n := by
  obtain ⟨hx, hb, -, hown, hts, -⟩ := C
  intro H locs ls hc hS hl
  exact lv_i2l hx hb hd rfl (kk H locs ls hc hS hl)
theorem g_i2d (C : Cx p s m args meth c Y cc nL own) {x : Int32} (hd : decode cc pc = .ok (.i2d, 1)) (kk : Gd p l e R s m args below meth c Q Y nL (pc + 1) lv (.double (FP.i2d x) :: st) h k n) : Gd p l e R s m args below meth c Q Y nL pc lv (.int x :: st) h k n := by
  obtain ⟨hx, hb, -, hown, hts, -⟩ := C
  intro H locs ls hc hS hl
  exact lv_i2d hx hb hd (kk H locs ls hc hS hl)
theorem g_ddiv (C : Cx p s m args meth c Y cc nL own) {x y : UInt64} (hd : decode cc pc = .ok (.ddiv, 1)) (hne : vf_n64 (FP.ddiv x y)) (kk : Gd p l e R s m args below meth c Q Y nL (pc + 1) lv (.double (FP.ddiv x y) :: st) h k n) : Gd p l e R s m args below meth c Q Y nL pc lv (.double y :: .double x :: st) h k n := by
  obtain ⟨hx, hb, -, hown, hts, -⟩ := C
  intro H locs ls hc hS hl
  exact lv_ddiv hx hb hd hne (kk H locs ls hc hS hl)
theorem g_dcmp (C : Cx p s m args meth c Y cc nL own) {x y : UInt64} {op : CmpOp} (hd : decode cc pc = .ok (.dcmp op, 1)) (kk : Gd p l e R s m args below meth c Q Y nL (pc + 1) lv (.int (Op.cmpValue (FP.dcmp x y) op) :: st) h k n) : Gd p l e R s m args below meth c Q Y nL pc lv (.double y :: .double x :: st) h k n := by
  obtain ⟨hx, hb, -, hown, hts, -⟩ := C
  intro H locs ls hc hS hl
  exact lv_dcmp hx hb hd (kk H locs ls hc hS hl)
theorem g_lcmp (C : Cx p s m args meth c Y cc nL own) {x y : Int64} (hd : decode cc pc = .ok (.lcmp, 1)) (kk : Gd p l e R s m args below meth c Q Y nL (pc + 1) lv (.int (lg_cmp x y) :: st) h k n) : Gd p l e R s m args below meth c Q Y nL pc lv (.long y :: .long x :: st) h k n := by
  obtain ⟨hx, hb, -, hown, hts, -⟩ := C
  intro H locs ls hc hS hl
  exact W.lcmp hx hb hd (kk H locs ls hc hS hl)
theorem g_dup (C : Cx p s m args meth c Y cc nL own) {v : Value} (hd : decode cc pc = .ok (.dup, 1)) (hc1 : v.category = 1) (kk : Gd p l e R s m args below meth c Q Y nL (pc + 1) lv (v :: v :: st) h k n) : Gd p l e R s m args below meth c Q Y nL pc lv (v :: st) h k n := by
  obtain ⟨hx, hb, -, hown, hts, -⟩ := C
  intro H locs ls hc hS hl
  exact lv_dup hx hb hd hc1 (kk H locs ls hc hS hl)
theorem g_pop (C : Cx p s m args meth c Y cc nL own) {v : Value} (hd : decode cc pc = .ok (.pop, 1)) (hc1 : v.category = 1) (kk : Gd p l e R s m args below meth c Q Y nL (pc + 1) lv st h k n) : Gd p l e R s m args below meth c Q Y nL pc lv (v :: st) h k n := by
  obtain ⟨hx, hb, -, hown, hts, -⟩ := C
  intro H locs ls hc hS hl
  exact lv_pop hx hb hd hc1 (kk H locs ls hc hS hl)
theorem g_dup_x1 (C : Cx p s m args meth c Y cc nL own) {v w : Value} (hd : decode cc pc = .ok (.dup_x1, 1)) (hc1 : v.category = 1) (hc2 : w.category = 1) (kk : Gd p l e R s m args below meth c Q Y nL (pc + 1) lv (v :: w :: v :: st) h k n) : Gd p l e R s m args below meth c Q Y nL pc lv (v :: w :: st) h k n := by
  obtain ⟨hx, hb, -, hown, hts, -⟩ := C
  intro H locs ls hc hS hl
  exact lv_dup_x1 hx hb hd hc1 hc2 (kk H locs ls hc hS hl)
theorem g_dup2 (C : Cx p s m args meth c Y cc nL own) {v w : Value} (hd : decode cc pc = .ok (.dup2, 1)) (hc1 : v.category = 1) (hc2 : w.category = 1) (kk : Gd p l e R s m args below meth c Q Y nL (pc + 1) lv (v :: w :: v :: w :: st) h k n) : Gd p l e R s m args below meth c Q Y nL pc lv (v :: w :: st) h k n := by
  obtain ⟨hx, hb, -, hown, hts, -⟩ := C
  intro H locs ls hc hS hl
  exact lv_dup2_11 hx hb hd hc1 hc2 (kk H locs ls hc hS hl)
theorem g_if_eq (C : Cx p s m args meth c Y cc nL own) {x : Int32} {off : Int} {tgt : Nat} (hd : decode cc pc = .ok (.ifCond .eq off, 3)) (ht : (pc : Int) + off = (tgt : Int)) (kt : x = 0 → Gd p l e R s m args below meth c Q Y nL tgt lv st h k n) (kf : ¬ (x = 0) → Gd p l e R s m args below meth c Q Y nL (pc + 3) lv st h k n) : Gd p l e R s m args below meth c Q Y nL pc lv (.int x :: st) h k n := by
  obtain ⟨hx, hb, -⟩ := C
  intro H locs ls hc hS hl
  exact lv_if_eq hx hb hd ht (fun q => kt q H locs ls hc hS hl) (fun q => kf q H locs ls hc hS hl)
theorem g_if_ne (C : Cx p s m args meth c Y cc nL own) {x : Int32} {off : Int} {tgt : Nat} (hd : decode cc pc = .ok (.ifCond .ne off, 3)) (ht : (pc : Int) + off = (tgt : Int)) (kt : ¬ x = 0 → Gd p l e R s m args below meth c Q Y nL tgt lv st h k n) (kf : x = 0 → Gd p l e R s m args below meth c Q Y nL (pc + 3) lv st h k n) : Gd p l e R s m args below meth c Q Y nL pc lv (.int x :: st) h k n := by
  obtain ⟨hx, hb, -⟩ := C
  intro H locs ls hc hS hl
  exact lv_if_ne hx hb hd ht (fun q => kt q H locs ls hc hS hl) (fun q => kf q H locs ls hc hS hl)
theorem g_if_lt (C : Cx p s m args meth c Y cc nL own) {x : Int32} {off : Int} {tgt : Nat} (hd : decode cc pc = .ok (.ifCond .lt off, 3)) (ht : (pc : Int) + off = (tgt : Int)) (kt : x < 0 → Gd p l e R s m args below meth c Q Y nL tgt lv st h k n) (kf : ¬ (x < 0) → Gd p l e R s m args below meth c Q Y nL (pc + 3) lv st h k n) : Gd p l e R s m args below meth c Q Y nL pc lv (.int x :: st) h k n := by
  obtain ⟨hx, hb, -⟩ := C
  intro H locs ls hc hS hl
  exact lv_if_lt hx hb hd ht (fun q => kt q H locs ls hc hS hl) (fun q => kf q H locs ls hc hS hl)
theorem g_if_ge (C : Cx p s m args meth c Y cc nL own) {x : Int32} {off : Int} {tgt : Nat} (hd : decode cc pc = .ok (.ifCond .ge off, 3)) (ht : (pc : Int) + off = (tgt : Int)) (kt : 0 ≤ x → Gd p l e R s m args below meth c Q Y nL tgt lv st h k n) (kf : ¬ (0 ≤ x) → Gd p l e R s m args below meth c Q Y nL (pc + 3) lv st h k n) : Gd p l e R s m args below meth c Q Y nL pc lv (.int x :: st) h k n := by
  obtain ⟨hx, hb, -⟩ := C
  intro H locs ls hc hS hl
  exact lv_if_ge hx hb hd ht (fun q => kt q H locs ls hc hS hl) (fun q => kf q H locs ls hc hS hl)
theorem g_if_gt (C : Cx p s m args meth c Y cc nL own) {x : Int32} {off : Int} {tgt : Nat} (hd : decode cc pc = .ok (.ifCond .gt off, 3)) (ht : (pc : Int) + off = (tgt : Int)) (kt : 0 < x → Gd p l e R s m args below meth c Q Y nL tgt lv st h k n) (kf : ¬ (0 < x) → Gd p l e R s m args below meth c Q Y nL (pc + 3) lv st h k n) : Gd p l e R s m args below meth c Q Y nL pc lv (.int x :: st) h k n := by
  obtain ⟨hx, hb, -⟩ := C
  intro H locs ls hc hS hl
  exact lv_if_gt hx hb hd ht (fun q => kt q H locs ls hc hS hl) (fun q => kf q H locs ls hc hS hl)
theorem g_if_le (C : Cx p s m args meth c Y cc nL own) {x : Int32} {off : Int} {tgt : Nat} (hd : decode cc pc = .ok (.ifCond .le off, 3)) (ht : (pc : Int) + off = (tgt : Int)) (kt : x ≤ 0 → Gd p l e R s m args below meth c Q Y nL tgt lv st h k n) (kf : ¬ (x ≤ 0) → Gd p l e R s m args below meth c Q Y nL (pc + 3) lv st h k n) : Gd p l e R s m args below meth c Q Y nL pc lv (.int x :: st) h k n := by
  obtain ⟨hx, hb, -⟩ := C
  intro H locs ls hc hS hl
  exact lv_if_le hx hb hd ht (fun q => kt q H locs ls hc hS hl) (fun q => kf q H locs ls hc hS hl)
theorem g_icmp_eq (C : Cx p s m args meth c Y cc nL own) {x y : Int32} {off : Int} {tgt : Nat} (hd : decode cc pc = .ok (.if_icmp .eq off, 3)) (ht : (pc : Int) + off = (tgt : Int)) (kt : x = y → Gd p l e R s m args below meth c Q Y nL tgt lv st h k n) (kf : ¬ (x = y) → Gd p l e R s m args below meth c Q Y nL (pc + 3) lv st h k n) : Gd p l e R s m args below meth c Q Y nL pc lv (.int y :: .int x :: st) h k n := by
  obtain ⟨hx, hb, -⟩ := C
  intro H locs ls hc hS hl
  exact lv_icmp_eq hx hb hd ht (fun q => kt q H locs ls hc hS hl) (fun q => kf q H locs ls hc hS hl)
theorem g_icmp_ne (C : Cx p s m args meth c Y cc nL own) {x y : Int32} {off : Int} {tgt : Nat} (hd : decode cc pc = .ok (.if_icmp .ne off, 3)) (ht : (pc : Int) + off = (tgt : Int)) (kt : ¬ x = y → Gd p l e R s m args below meth c Q Y nL tgt lv st h k n) (kf : x = y → Gd p l e R s m args below meth c Q Y nL (pc + 3) lv st h k n) : Gd p l e R s m args below meth c Q Y nL pc lv (.int y :: .int x :: st) h k n := by
  obtain ⟨hx, hb, -⟩ := C
  intro H locs ls hc hS hl
  exact lv_icmp_ne hx hb hd ht (fun q => kt q H locs ls hc hS hl) (fun q => kf q H locs ls hc hS hl)
theorem g_icmp_lt (C : Cx p s m args meth c Y cc nL own) {x y : Int32} {off : Int} {tgt : Nat} (hd : decode cc pc = .ok (.if_icmp .lt off, 3)) (ht : (pc : Int) + off = (tgt : Int)) (kt : x < y → Gd p l e R s m args below meth c Q Y nL tgt lv st h k n) (kf : ¬ (x < y) → Gd p l e R s m args below meth c Q Y nL (pc + 3) lv st h k n) : Gd p l e R s m args below meth c Q Y nL pc lv (.int y :: .int x :: st) h k n := by
  obtain ⟨hx, hb, -⟩ := C
  intro H locs ls hc hS hl
  exact lv_icmp_lt hx hb hd ht (fun q => kt q H locs ls hc hS hl) (fun q => kf q H locs ls hc hS hl)
theorem g_icmp_ge (C : Cx p s m args meth c Y cc nL own) {x y : Int32} {off : Int} {tgt : Nat} (hd : decode cc pc = .ok (.if_icmp .ge off, 3)) (ht : (pc : Int) + off = (tgt : Int)) (kt : y ≤ x → Gd p l e R s m args below meth c Q Y nL tgt lv st h k n) (kf : ¬ (y ≤ x) → Gd p l e R s m args below meth c Q Y nL (pc + 3) lv st h k n) : Gd p l e R s m args below meth c Q Y nL pc lv (.int y :: .int x :: st) h k n := by
  obtain ⟨hx, hb, -⟩ := C
  intro H locs ls hc hS hl
  exact lv_icmp_ge hx hb hd ht (fun q => kt q H locs ls hc hS hl) (fun q => kf q H locs ls hc hS hl)
theorem g_icmp_gt (C : Cx p s m args meth c Y cc nL own) {x y : Int32} {off : Int} {tgt : Nat} (hd : decode cc pc = .ok (.if_icmp .gt off, 3)) (ht : (pc : Int) + off = (tgt : Int)) (kt : y < x → Gd p l e R s m args below meth c Q Y nL tgt lv st h k n) (kf : ¬ (y < x) → Gd p l e R s m args below meth c Q Y nL (pc + 3) lv st h k n) : Gd p l e R s m args below meth c Q Y nL pc lv (.int y :: .int x :: st) h k n := by
  obtain ⟨hx, hb, -⟩ := C
  intro H locs ls hc hS hl
  exact lv_icmp_gt hx hb hd ht (fun q => kt q H locs ls hc hS hl) (fun q => kf q H locs ls hc hS hl)
theorem g_icmp_le (C : Cx p s m args meth c Y cc nL own) {x y : Int32} {off : Int} {tgt : Nat} (hd : decode cc pc = .ok (.if_icmp .le off, 3)) (ht : (pc : Int) + off = (tgt : Int)) (kt : x ≤ y → Gd p l e R s m args below meth c Q Y nL tgt lv st h k n) (kf : ¬ (x ≤ y) → Gd p l e R s m args below meth c Q Y nL (pc + 3) lv st h k n) : Gd p l e R s m args below meth c Q Y nL pc lv (.int y :: .int x :: st) h k n := by
  obtain ⟨hx, hb, -⟩ := C
  intro H locs ls hc hS hl
  exact lv_icmp_le hx hb hd ht (fun q => kt q H locs ls hc hS hl) (fun q => kf q H locs ls hc hS hl)
theorem g_acmp_eq (C : Cx p s m args meth c Y cc nL own) {rx ry : Option Nat} {off : Int} {tgt : Nat} (hd : decode cc pc = .ok (.if_acmp .eq off, 3)) (ht : (pc : Int) + off = (tgt : Int)) (kt : rx = ry → Gd p l e R s m args below meth c Q Y nL tgt lv st h k n) (kf : ¬ (rx = ry) → Gd p l e R s m args below meth c Q Y nL (pc + 3) lv st h k n) : Gd p l e R s m args below meth c Q Y nL pc lv (va_rf ry :: va_rf rx :: st) h k n := by
  obtain ⟨hx, hb, -⟩ := C
  intro H locs ls hc hS hl
  exact lv_acmp_eq hx hb hd ht (fun q => kt q H locs ls hc hS hl) (fun q => kf q H locs ls hc hS hl)
theorem g_acmp_ne (C : Cx p s m args meth c Y cc nL own) {rx ry : Option Nat} {off : Int} {tgt : Nat} (hd : decode cc pc = .ok (.if_acmp .ne off, 3)) (ht : (pc : Int) + off = (tgt : Int)) (kt : ¬ rx = ry → Gd p l e R s m args below meth c Q Y nL tgt lv st h k n) (kf : rx = ry → Gd p l e R s m args below meth c Q Y nL (pc + 3) lv st h k n) : Gd p l e R s m args below meth c Q Y nL pc lv (va_rf ry :: va_rf rx :: st) h k n := by
  obtain ⟨hx, hb, -⟩ := C
  intro H locs ls hc hS hl
  exact lv_acmp_ne hx hb hd ht (fun q => kt q H locs ls hc hS hl) (fun q => kf q H locs ls hc hS hl)
theorem g_goto (C : Cx p s m args meth c Y cc nL own) {off : Int} {tgt : Nat} (hd : decode cc pc = .ok (.goto off, 3)) (ht : (pc : Int) + off = (tgt : Int)) (kk : Gd p l e R s m args below meth c Q Y nL tgt lv st h k n) : Gd p l e R s m args below meth c Q Y nL pc lv st h k n := by
  obtain ⟨hx, hb, -, hown, hts, -⟩ := C
  intro H locs ls hc hS hl
  exact lv_goto hx hb hd ht (kk H locs ls hc hS hl)
theorem g_ifnull (C : Cx p s m args meth c Y cc nL own) {a : Nat} {off : Int} (hd : decode cc pc = .ok (.ifnull off, 3)) (kk : Gd p l e R s m args below meth c Q Y nL (pc + 3) lv st h k n) : Gd p l e R s m args below meth c Q Y nL pc lv (.ref a :: st) h k n := by
  obtain ⟨hx, hb, -, hown, hts, -⟩ := C
  intro H locs ls hc hS hl
  exact lv_ifnull hx hb hd (kk H locs ls hc hS hl)
theorem g_ifnullN (C : Cx p s m args meth c Y cc nL own) {off : Int} {tgt : Nat} (hd : decode cc pc = .ok (.ifnull off, 3)) (ht : (pc : Int) + off = (tgt : Int)) (kk : Gd p l e R s m args below meth c Q Y nL tgt lv st h k n) : Gd p l e R s m args below meth c Q Y nL pc lv (.null :: st) h k n := by
  obtain ⟨hx, hb, -, hown, hts, -⟩ := C
  intro H locs ls hc hS hl
  exact lv_ifnullN hx hb hd ht (kk H locs ls hc hS hl)
theorem g_ifnonnull (C : Cx p s m args meth c Y cc nL own) {a : Nat} {off : Int} {tgt : Nat} (hd : decode cc pc = .ok (.ifnonnull off, 3)) (ht : (pc : Int) + off = (tgt : Int)) (kk : Gd p l e R s m args below meth c Q Y nL tgt lv st h k n) : Gd p l e R s m args below meth c Q Y nL pc lv (.ref a :: st) h k n := by
  obtain ⟨hx, hb, -, hown, hts, -⟩ := C
  intro H locs ls hc hS hl
  exact lv_ifnonnull hx hb hd ht (kk H locs ls hc hS hl)
theorem g_ifnonnullN (C : Cx p s m args meth c Y cc nL own) {off : Int} (hd : decode cc pc = .ok (.ifnonnull off, 3)) (kk : Gd p l e R s m args below meth c Q Y nL (pc + 3) lv st h k n) : Gd p l e R s m args below meth c Q Y nL pc lv (.null :: st) h k n := by
  obtain ⟨hx, hb, -, hown, hts, -⟩ := C
  intro H locs ls hc hS hl
  exact lv_ifnonnullN hx hb hd (kk H locs ls hc hS hl)
theorem g_tsIn (C : Cx p s m args meth c Y cc nL own) {dflt lo hi : Int} {offs : Array Int} {len : Nat} {x : Int32} {off : Int} {tgt : Nat} (hd : decode cc pc = .ok (.tableswitch dflt lo hi offs, len)) (h1 : ¬ x.toInt < lo) (h2 : ¬ hi < x.toInt) (ho : offs[(x.toInt - lo).toNat]? = some off) (ht : (pc : Int) + off = (tgt : Int)) (kk : Gd p l e R s m args below meth c Q Y nL tgt lv st h k n) : Gd p l e R s m args below meth c Q Y nL pc lv (.int x :: st) h k n := by
  obtain ⟨hx, hb, -, hown, hts, -⟩ := C
  intro H locs ls hc hS hl
  exact lv_tableIn hx hb hd h1 h2 ho ht (kk H locs ls hc hS hl)
theorem g_tsOut (C : Cx p s m args meth c Y cc nL own) {dflt lo hi : Int} {offs : Array Int} {len : Nat} {x : Int32} {tgt : Nat} (hd : decode cc pc = .ok (.tableswitch dflt lo hi offs, len)) (h1 : x.toInt < lo ∨ hi < x.toInt) (ht : (pc : Int) + dflt = (tgt : Int)) (kk : Gd p l e R s m args below meth c Q Y nL tgt lv st h k n) : Gd p l e R s m args below meth c Q Y nL pc lv (.int x :: st) h k n := by
  obtain ⟨hx, hb, -, hown, hts, -⟩ := C
  intro H locs ls hc hS hl
  exact lv_tableOut hx hb hd h1 ht (kk H locs ls hc hS hl)
end GD
