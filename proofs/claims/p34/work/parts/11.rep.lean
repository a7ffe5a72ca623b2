theorem cat_rf (r : Option Nat) : (va_rf r).category = 1 := by cases r <;> rfl
section GD
variable {p : Program} {l : Launch} {e : Env} {R : Room} {s : State} {m : MethodId} {args : Array Value} {below : List Frame} {meth : Method} {c : Code} {Q : State → Prop} {Y : YG} {nL : Nat} {cc : ByteArray} {own : String} {pc : Nat} {lv : List (Option Value)} {st : List Value} {h : AH} {k n : Nat}
theorem g_iincN (C : Cx p s m args meth c Y cc nL own) {i a : Nat} (hd : decode cc pc = .ok (.iinc i 1, 3)) (hv : lv[i]? = some (some (.int (nI a)))) (hn : i < nL) (kk : Gd p l e R s m args below meth c Q Y nL (pc + 3) (lset lv i (.int (nI (a + 1)))) st h k n) : Gd p l e R s m args below meth c Q Y nL pc lv st h k n := g_iinc C hd hv hn (by rw [show nI a + Int32.ofInt 1 = nI (a + 1) from nI_1 a]; exact kk)
theorem g_iaddN (C : Cx p s m args meth c Y cc nL own) {a b : Nat} (hd : decode cc pc = .ok (.iadd, 1)) (kk : Gd p l e R s m args below meth c Q Y nL (pc + 1) lv (.int (nI (a + b)) :: st) h k n) : Gd p l e R s m args below meth c Q Y nL pc lv (.int (nI b) :: .int (nI a) :: st) h k n := g_iadd C hd (by rw [nI_add]; exact kk)
theorem g_imulN (C : Cx p s m args meth c Y cc nL own) {a b : Nat} (hd : decode cc pc = .ok (.imul, 1)) (kk : Gd p l e R s m args below meth c Q Y nL (pc + 1) lv (.int (nI (a * b)) :: st) h k n) : Gd p l e R s m args below meth c Q Y nL pc lv (.int (nI b) :: .int (nI a) :: st) h k n := g_imul C hd (by rw [pk_mul]; exact kk)
theorem g_isubN (C : Cx p s m args meth c Y cc nL own) {a b : Nat} (hab : b ≤ a) (hd : decode cc pc = .ok (.isub, 1)) (kk : Gd p l e R s m args below meth c Q Y nL (pc + 1) lv (.int (nI (a - b)) :: st) h k n) : Gd p l e R s m args below meth c Q Y nL pc lv (.int (nI b) :: .int (nI a) :: st) h k n := g_isub C hd (by rw [pk_sub hab]; exact kk)
theorem g_idivN (C : Cx p s m args meth c Y cc nL own) {a b : Nat} (hd : decode cc pc = .ok (.idiv, 1)) (ha : a < 2 ^ 31) (hb : 0 < b ∧ b < 2 ^ 31) (kk : Gd p l e R s m args below meth c Q Y nL (pc + 1) lv (.int (nI (a / b)) :: st) h k n) : Gd p l e R s m args below meth c Q Y nL pc lv (.int (nI b) :: .int (nI a) :: st) h k n := g_idiv C hd (nI_ne0 hb.1 hb.2) (by rw [pk_div ha hb.1 hb.2]; exact kk)
theorem g_iremN (C : Cx p s m args meth c Y cc nL own) {a b : Nat} (hd : decode cc pc = .ok (.irem, 1)) (ha : a < 2 ^ 31) (hb : 0 < b ∧ b < 2 ^ 31) (kk : Gd p l e R s m args below meth c Q Y nL (pc + 1) lv (.int (nI (a % b)) :: st) h k n) : Gd p l e R s m args below meth c Q Y nL pc lv (.int (nI b) :: .int (nI a) :: st) h k n := g_irem C hd (nI_ne0 hb.1 hb.2) (by rw [pk_rem ha hb.1 hb.2]; exact kk)
theorem g_icmp_eqN (C : Cx p s m args meth c Y cc nL own) {a b : Nat} {off : Int} {tgt : Nat} (hd : decode cc pc = .ok (.if_icmp .eq off, 3)) (ht : (pc : Int) + off = (tgt : Int)) (ha : a < 2 ^ 31) (hb : b < 2 ^ 31) (kt : a = b → Gd p l e R s m args below meth c Q Y nL tgt lv st h k n) (kf : a ≠ b → Gd p l e R s m args below meth c Q Y nL (pc + 3) lv st h k n) : Gd p l e R s m args below meth c Q Y nL pc lv (.int (nI b) :: .int (nI a) :: st) h k n := g_icmp_eq C hd ht (fun q => kt ((nI_eq ha hb).mp q)) (fun q => kf (fun z => q ((nI_eq ha hb).mpr z)))
theorem g_icmp_neN (C : Cx p s m args meth c Y cc nL own) {a b : Nat} {off : Int} {tgt : Nat} (hd : decode cc pc = .ok (.if_icmp .ne off, 3)) (ht : (pc : Int) + off = (tgt : Int)) (ha : a < 2 ^ 31) (hb : b < 2 ^ 31) (kt : a ≠ b → Gd p l e R s m args below meth c Q Y nL tgt lv st h k n) (kf : a = b → Gd p l e R s m args below meth c Q Y nL (pc + 3) lv st h k n) : Gd p l e R s m args below meth c Q Y nL pc lv (.int (nI b) :: .int (nI a) :: st) h k n := g_icmp_ne C hd ht (fun q => kt (fun z => q ((nI_eq ha hb).mpr z))) (fun q => kf ((nI_eq ha hb).mp q))
theorem g_icmp_ltN (C : Cx p s m args meth c Y cc nL own) {a b : Nat} {off : Int} {tgt : Nat} (hd : decode cc pc = .ok (.if_icmp .lt off, 3)) (ht : (pc : Int) + off = (tgt : Int)) (ha : a < 2 ^ 31) (hb : b < 2 ^ 31) (kt : a < b → Gd p l e R s m args below meth c Q Y nL tgt lv st h k n) (kf : b ≤ a → Gd p l e R s m args below meth c Q Y nL (pc + 3) lv st h k n) : Gd p l e R s m args below meth c Q Y nL pc lv (.int (nI b) :: .int (nI a) :: st) h k n := g_icmp_lt C hd ht (fun q => kt ((nI_ltI ha hb).mp q)) (fun q => kf (Nat.not_lt.mp (fun z => q ((nI_ltI ha hb).mpr z))))
theorem g_icmp_geN (C : Cx p s m args meth c Y cc nL own) {a b : Nat} {off : Int} {tgt : Nat} (hd : decode cc pc = .ok (.if_icmp .ge off, 3)) (ht : (pc : Int) + off = (tgt : Int)) (ha : a < 2 ^ 31) (hb : b < 2 ^ 31) (kt : b ≤ a → Gd p l e R s m args below meth c Q Y nL tgt lv st h k n) (kf : a < b → Gd p l e R s m args below meth c Q Y nL (pc + 3) lv st h k n) : Gd p l e R s m args below meth c Q Y nL pc lv (.int (nI b) :: .int (nI a) :: st) h k n := g_icmp_ge C hd ht (fun q => kt ((nI_leI hb ha).mp q)) (fun q => kf (Nat.not_le.mp (fun z => q ((nI_leI hb ha).mpr z))))
theorem g_icmp_gtN (C : Cx p s m args meth c Y cc nL own) {a b : Nat} {off : Int} {tgt : Nat} (hd : decode cc pc = .ok (.if_icmp .gt off, 3)) (ht : (pc : Int) + off = (tgt : Int)) (ha : a < 2 ^ 31) (hb : b < 2 ^ 31) (kt : b < a → Gd p l e R s m args below meth c Q Y nL tgt lv st h k n) (kf : a ≤ b → Gd p l e R s m args below meth c Q Y nL (pc + 3) lv st h k n) : Gd p l e R s m args below meth c Q Y nL pc lv (.int (nI b) :: .int (nI a) :: st) h k n := g_icmp_gt C hd ht (fun q => kt ((nI_ltI hb ha).mp q)) (fun q => kf (Nat.not_lt.mp (fun z => q ((nI_ltI hb ha).mpr z))))
theorem g_icmp_leN (C : Cx p s m args meth c Y cc nL own) {a b : Nat} {off : Int} {tgt : Nat} (hd : decode cc pc = .ok (.if_icmp .le off, 3)) (ht : (pc : Int) + off = (tgt : Int)) (ha : a < 2 ^ 31) (hb : b < 2 ^ 31) (kt : a ≤ b → Gd p l e R s m args below meth c Q Y nL tgt lv st h k n) (kf : b < a → Gd p l e R s m args below meth c Q Y nL (pc + 3) lv st h k n) : Gd p l e R s m args below meth c Q Y nL pc lv (.int (nI b) :: .int (nI a) :: st) h k n := g_icmp_le C hd ht (fun q => kt ((nI_leI ha hb).mp q)) (fun q => kf (Nat.not_le.mp (fun z => q ((nI_leI ha hb).mpr z))))
theorem g_if_eqN (C : Cx p s m args meth c Y cc nL own) {a : Nat} {off : Int} {tgt : Nat} (hd : decode cc pc = .ok (.ifCond .eq off, 3)) (ht : (pc : Int) + off = (tgt : Int)) (ha : a < 2 ^ 31) (kt : a = 0 → Gd p l e R s m args below meth c Q Y nL tgt lv st h k n) (kf : 0 < a → Gd p l e R s m args below meth c Q Y nL (pc + 3) lv st h k n) : Gd p l e R s m args below meth c Q Y nL pc lv (.int (nI a) :: st) h k n := g_if_eq C hd ht (fun q => kt (Nat.eq_zero_of_not_pos (fun z => nI_ne0 z ha q))) (fun q => kf (Nat.pos_of_ne_zero (fun z => q (by rw [z]; rfl))))
theorem g_if_neN (C : Cx p s m args meth c Y cc nL own) {a : Nat} {off : Int} {tgt : Nat} (hd : decode cc pc = .ok (.ifCond .ne off, 3)) (ht : (pc : Int) + off = (tgt : Int)) (ha : a < 2 ^ 31) (kt : 0 < a → Gd p l e R s m args below meth c Q Y nL tgt lv st h k n) (kf : a = 0 → Gd p l e R s m args below meth c Q Y nL (pc + 3) lv st h k n) : Gd p l e R s m args below meth c Q Y nL pc lv (.int (nI a) :: st) h k n := g_if_ne C hd ht (fun q => kt (Nat.pos_of_ne_zero (fun z => q (by rw [z]; rfl)))) (fun q => kf (Nat.eq_zero_of_not_pos (fun z => nI_ne0 z ha q)))
theorem g_if_eqB (C : Cx p s m args meth c Y cc nL own) {b : Bool} {off : Int} {tgt : Nat} (hd : decode cc pc = .ok (.ifCond .eq off, 3)) (ht : (pc : Int) + off = (tgt : Int)) (kt : b = false → Gd p l e R s m args below meth c Q Y nL tgt lv st h k n) (kf : b = true → Gd p l e R s m args below meth c Q Y nL (pc + 3) lv st h k n) : Gd p l e R s m args below meth c Q Y nL pc lv (bI b :: st) h k n := g_if_eq C hd ht (fun q => kt (by cases b <;> first | rfl | exact absurd q (by decide))) (fun q => kf (by cases b <;> first | rfl | exact absurd q (by decide)))
theorem g_if_neB (C : Cx p s m args meth c Y cc nL own) {b : Bool} {off : Int} {tgt : Nat} (hd : decode cc pc = .ok (.ifCond .ne off, 3)) (ht : (pc : Int) + off = (tgt : Int)) (kt : b = true → Gd p l e R s m args below meth c Q Y nL tgt lv st h k n) (kf : b = false → Gd p l e R s m args below meth c Q Y nL (pc + 3) lv st h k n) : Gd p l e R s m args below meth c Q Y nL pc lv (bI b :: st) h k n := g_if_ne C hd ht (fun q => kt (by cases b <;> first | rfl | exact absurd q (by decide))) (fun q => kf (by cases b <;> first | rfl | exact absurd q (by decide)))
theorem bI_t : bI true = .int (nI 1) := rfl
theorem bI_f : bI false = .int (nI 0) := rfl
theorem tf_Fadd (C : Cx p s m args meth c Y cc nL own) : va_Fw RJx4a65c nL_add yJx4a65c_add_9ea2d s := C.2.2.2.2.2.2.1.2.1
theorem tf_Fsize (C : Cx p s m args meth c Y cc nL own) : va_Fw RJx4a65c nL_size yJx4a65c_size_8abf5 s := C.2.2.2.2.2.2.1.2.2.1
theorem tf_Fget (C : Cx p s m args meth c Y cc nL own) : va_Fw RJx4a65c nL_get yJx4a65c_get_915e3 s := C.2.2.2.2.2.2.1.2.2.2.1
theorem tf_nest (C : Cx p s m args meth c Y cc nL own) : va_Nw (.methodLinkNest RX1 57 yX2_farther RX2) s := C.2.2.2.2.2.2.1.2.2.2.2.1
theorem tf_ca_IllegalStateException (C : Cx p s m args meth c Y cc nL own) : va_Ca sIS sIS s := C.2.2.2.2.2.2.1.2.2.2.2.2.1.1
theorem tf_ca_IllegalArgumentException (C : Cx p s m args meth c Y cc nL own) : va_Ca sIA sIA s := C.2.2.2.2.2.2.1.2.2.2.2.2.1.2.1
theorem tf_ca_IndexOutOfBoundsException (C : Cx p s m args meth c Y cc nL own) : va_Ca sIO sIO s := C.2.2.2.2.2.2.1.2.2.2.2.2.1.2.2.1
theorem tf_ca_EvO (C : Cx p s m args meth c Y cc nL own) : va_Ca RX0 "java/lang/Object" s := C.2.2.2.2.2.2.1.2.2.2.2.2.1.2.2.2.1
theorem tf_ca_clone (C : Cx p s m args meth c Y cc nL own) : va_Ca "[I" "java/lang/Cloneable" s := C.2.2.2.2.2.2.1.2.2.2.2.2.1.2.2.2.2
theorem tf_aoA (C : Cx p s m args meth c Y cc nL own) : (Cond.arrayOver (.array .int)).before #[] s = true := C.2.2.2.2.2.2.1.2.2.2.2.2.2.1.1
theorem tf_nestI (C : Cx p s m args meth c Y cc nL own) : va_Nw (.methodLinkNest RL 89 yX3_init RL) s := C.2.2.2.2.2.2.1.2.2.2.2.2.2.1.2
theorem tf_mi (C : Cx p s m args meth c Y cc nL own) : va_Mi "[Ljava/lang/Object;" Y.mi s := C.2.2.2.2.2.2.1.2.2.2.2.2.2.2.1
theorem tf_dc (C : Cx p s m args meth c Y cc nL own) : va_Dc s := C.2.2.2.2.2.2.1.2.2.2.2.2.2.2.2.1
theorem tf_ao (C : Cx p s m args meth c Y cc nL own) : va_AO "java/lang/Object" s := C.2.2.2.2.2.2.1.2.2.2.2.2.2.2.2.2.1
theorem tf_s50 (C : Cx p s m args meth c Y cc nL own) : ∃ a : Nat, vk_R RX2 50 "no more pieces" a s := C.2.2.2.2.2.2.1.2.2.2.2.2.2.2.2.2.2.2.1
theorem tf_s59 (C : Cx p s m args meth c Y cc nL own) : ∃ a : Nat, vk_R RX2 59 "a paw was done already" a s := C.2.2.2.2.2.2.1.2.2.2.2.2.2.2.2.2.2.2.2.1
theorem tf_s65 (C : Cx p s m args meth c Y cc nL own) : ∃ a : Nat, vk_R RX2 65 "another piece is there" a s := C.2.2.2.2.2.2.1.2.2.2.2.2.2.2.2.2.2.2.2.2.1
theorem tf_s75 (C : Cx p s m args meth c Y cc nL own) : ∃ a : Nat, vk_R RX2 75 "the paw is refused" a s := C.2.2.2.2.2.2.1.2.2.2.2.2.2.2.2.2.2.2.2.2.2.1
theorem tf_s77 (C : Cx p s m args meth c Y cc nL own) : ∃ a : Nat, vk_R RX2 77 "no more evenings" a s := C.2.2.2.2.2.2.1.2.2.2.2.2.2.2.2.2.2.2.2.2.2.2.1
theorem tf_s96 (C : Cx p s m args meth c Y cc nL own) : ∃ a : Nat, vk_R RX2 96 "fewer paws were done" a s := C.2.2.2.2.2.2.1.2.2.2.2.2.2.2.2.2.2.2.2.2.2.2.2.1
theorem tf_s101 (C : Cx p s m args meth c Y cc nL own) : ∃ a : Nat, vk_R RX2 101 "nothing to do again" a s := C.2.2.2.2.2.2.1.2.2.2.2.2.2.2.2.2.2.2.2.2.2.2.2.2.1
theorem tf_s127 (C : Cx p s m args meth c Y cc nL own) : ∃ a : Nat, vk_R RX2 127 "no such piece" a s := C.2.2.2.2.2.2.1.2.2.2.2.2.2.2.2.2.2.2.2.2.2.2.2.2.2.1
theorem tf_s213 (C : Cx p s m args meth c Y cc nL own) : ∃ a : Nat, vk_R RX2 213 "no such evening" a s := C.2.2.2.2.2.2.1.2.2.2.2.2.2.2.2.2.2.2.2.2.2.2.2.2.2.2.1
theorem tf_s221 (C : Cx p s m args meth c Y cc nL own) : ∃ a : Nat, vk_R RX2 221 "no such paw" a s := C.2.2.2.2.2.2.1.2.2.2.2.2.2.2.2.2.2.2.2.2.2.2.2.2.2.2.2.1
theorem tf_s227 (C : Cx p s m args meth c Y cc nL own) : ∃ a : Nat, vk_R RX2 227 "many is not 1 to 60" a s := C.2.2.2.2.2.2.1.2.2.2.2.2.2.2.2.2.2.2.2.2.2.2.2.2.2.2.2.2.1
theorem tf_s232 (C : Cx p s m args meth c Y cc nL own) : ∃ a : Nat, vk_R RX2 232 "column or row is not 0 to 7" a s := C.2.2.2.2.2.2.1.2.2.2.2.2.2.2.2.2.2.2.2.2.2.2.2.2.2.2.2.2.2
theorem tf_col (C : Cx p s m args meth c Y cc nL own) : tab "CatEvenings" "COLUMN_STEPS" colS Y.A s s.heap := C.2.2.2.2.2.2.1.1.1
theorem tf_row (C : Cx p s m args meth c Y cc nL own) : tab "CatEvenings" "ROW_STEPS" rowS Y.A s s.heap := C.2.2.2.2.2.2.1.1.2.1
theorem tf_E (C : Cx p s m args meth c Y cc nL own) : sE Y.A Y.tE s s.heap := C.2.2.2.2.2.2.1.1.2.2.1
theorem tf_scr (C : Cx p s m args meth c Y cc nL own) : scr Y.A Y.sb Y.sL s s.heap := C.2.2.2.2.2.2.1.1.2.2.2.2.2
end GD
theorem w_oi : Cond.code objectInit ⟨#[0xb1]⟩ 1 none ∈ AllW := aw_t (j := 28) (by decide +kernel) (by decide +kernel)
theorem w_mabs : Cond.static Lib.Math.abs.name ∈ AllW ∧ Cond.initialized "java/lang/Math" ∈ AllW ∧ Cond.code Lib.Math.abs.name Lib.Math.abs.code 1 (some .int) ∈ AllW := ⟨w512, w8, aw_t (j := 513) (by decide +kernel) (by decide +kernel)⟩
theorem w_mmax : Cond.static Lib.Math.max.name ∈ AllW ∧ Cond.initialized "java/lang/Math" ∈ AllW ∧ Cond.code Lib.Math.max.name Lib.Math.max.code 2 (some .int) ∈ AllW := ⟨w143, w8, aw_t (j := 144) (by decide +kernel) (by decide +kernel)⟩
theorem w_mmin : Cond.static Lib.Math.min.name ∈ AllW ∧ Cond.initialized "java/lang/Math" ∈ AllW ∧ Cond.code Lib.Math.min.name Lib.Math.min.code 2 (some .int) ∈ AllW := ⟨w171, w8, aw_t (j := 172) (by decide +kernel) (by decide +kernel)⟩
/-! ===== how the class holds the state ===== -/
/-- the list, its row, the row's length, its changes; where evenings, scenes, places are; the row, the places -/
abbrev Vw : Type := Nat × Nat × Nat × Int32 × (Nat → Nat) × (Nat → Nat) × (Nat → Nat) × (Nat → Option Nat) × (Nat → Nat → Int32)
abbrev Vw.t (v : Vw) : Nat := v.1
abbrev Vw.d (v : Vw) : Nat := v.2.1
abbrev Vw.cap (v : Vw) : Nat := v.2.2.1
abbrev Vw.md (v : Vw) : Int32 := v.2.2.2.1
abbrev Vw.ev (v : Vw) : Nat → Nat := v.2.2.2.2.1
abbrev Vw.sc (v : Vw) : Nat → Nat := v.2.2.2.2.2.1
abbrev Vw.pl (v : Vw) : Nat → Nat := v.2.2.2.2.2.2.1
abbrev Vw.fd (v : Vw) : Nat → Option Nat := v.2.2.2.2.2.2.2.1
abbrev Vw.fp (v : Vw) : Nat → Nat → Int32 := v.2.2.2.2.2.2.2.2
abbrev evP (g : Sg) (ev : Nat → Nat) (i : Nat) : Option Nat := if i = 0 then none else some (ev (g.par i))
abbrev evC (g : Sg) (ev sc : Nat → Nat) (i : Nat) : va_E := .inr (1, [va_rf (evP g ev i), .int (nI i), .int (g.kd i), .int (g.nm i), .int (nI (g.dp i)), .ref (sc i), va_rf ((g.last i).map ev), .int (nI (chN g.par g.n i)), .int (nI (dsN g.par g.n i))])
abbrev scC (g : Sg) (pl : Nat → Nat) (i : Nat) : va_E := .inr (2, [.int (nI (g.ct i)), .ref (pl i), .int (nI (g.lb i))])
def RepC (Y : YG) (x : Nat) (v : Vw) (g : Sg) (Z : Nat → Prop) (h : AH) : Prop :=
  h x = some (.inr (3, [.ref v.t, .ref (v.ev g.now)])) ∧ h v.t = some (.inr (0, [.int v.md, .ref v.d, .int (nI g.n)])) ∧ h v.d = some (aO Y v.cap v.fd) ∧ (g.n ≤ v.cap ∧ 10 ≤ v.cap ∧ v.cap ≤ 100) ∧
  (∀ i, i < g.n → v.fd i = some (v.ev i)) ∧ (∀ i, i < g.n → h (v.ev i) = some (evC g v.ev v.sc i)) ∧ (∀ i, i < g.n → h (v.sc i) = some (scC g v.pl i)) ∧ (∀ i, i < g.n → h (v.pl i) = some (aI Y g.np (v.fp i))) ∧
  (∀ i q, i < g.n → q < g.np → v.fp i q = nI (g.pos i q)) ∧ (∀ i j, i < g.n → j < g.n → v.ev i = v.ev j → i = j) ∧ (∀ i, i < g.n → ¬ Z (v.pl i))
section RC
variable {Y : YG} {xx : Nat} {v : Vw} {g : Sg} {Z : Nat → Prop} {h : AH}
theorem RepC.x (r : RepC Y xx v g Z h) : h xx = some (.inr (3, [.ref v.t, .ref (v.ev g.now)])) := r.1
theorem RepC.t (r : RepC Y xx v g Z h) : h v.t = some (.inr (0, [.int v.md, .ref v.d, .int (nI g.n)])) := r.2.1
theorem RepC.d (r : RepC Y xx v g Z h) : h v.d = some (aO Y v.cap v.fd) := r.2.2.1
theorem RepC.cap (r : RepC Y xx v g Z h) : g.n ≤ v.cap ∧ 10 ≤ v.cap ∧ v.cap ≤ 100 := r.2.2.2.1
theorem RepC.fd (r : RepC Y xx v g Z h) {i : Nat} (hi : i < g.n) : v.fd i = some (v.ev i) := r.2.2.2.2.1 i hi
theorem RepC.ev (r : RepC Y xx v g Z h) {i : Nat} (hi : i < g.n) : h (v.ev i) = some (evC g v.ev v.sc i) := r.2.2.2.2.2.1 i hi
theorem RepC.sc (r : RepC Y xx v g Z h) {i : Nat} (hi : i < g.n) : h (v.sc i) = some (scC g v.pl i) := r.2.2.2.2.2.2.1 i hi
theorem RepC.pl (r : RepC Y xx v g Z h) {i : Nat} (hi : i < g.n) : h (v.pl i) = some (aI Y g.np (v.fp i)) := r.2.2.2.2.2.2.2.1 i hi
theorem RepC.fp (r : RepC Y xx v g Z h) {i q : Nat} (hi : i < g.n) (hq : q < g.np) : v.fp i q = nI (g.pos i q) := r.2.2.2.2.2.2.2.2.1 i q hi hq
theorem RepC.inj (r : RepC Y xx v g Z h) {i j : Nat} (hi : i < g.n) (hj : j < g.n) (e : v.ev i = v.ev j) : i = j := r.2.2.2.2.2.2.2.2.2.1 i j hi hj e
theorem RepC.z (r : RepC Y xx v g Z h) {i : Nat} (hi : i < g.n) : ¬ Z (v.pl i) := r.2.2.2.2.2.2.2.2.2.2 i hi
end RC
section IV
variable {g : Sg}
theorem Inv.n1 (i : Inv g) : 1 ≤ g.n := i.1.1
theorem Inv.n60 (i : Inv g) : g.n ≤ 60 := i.1.2.1
theorem Inv.now (i : Inv g) : g.now < g.n := i.1.2.2.1
theorem Inv.np (i : Inv g) : g.np ≤ 16 := i.1.2.2.2
theorem Inv.tr (i : Inv g) : Tr g.par := i.2.1
theorem Inv.dp (i : Inv g) : Dp g.par g.dp := i.2.2.1
theorem Inv.ct (i : Inv g) {j : Nat} (hj : j < g.n) : g.ct j < 64 := i.2.2.2.2.1 j hj
theorem Inv.pos (i : Inv g) {j q : Nat} (hj : j < g.n) (hq : q < g.np) : g.pos j q < 64 := i.2.2.2.2.2.1 j q hj hq
theorem Inv.lb (i : Inv g) {j : Nat} (hj : j < g.n) : g.lb j < 2 ^ g.np := i.2.2.2.2.2.2.1 j hj
theorem Inv.last (i : Inv g) {a j : Nat} (hj : a < g.n) (h : g.last a = some j) : 0 < j ∧ j < g.n ∧ g.par j = a := i.2.2.2.2.2.2.2.1 a j hj h
theorem Inv.some (i : Inv g) {j : Nat} (h0 : 0 < j) (hj : j < g.n) : g.last (g.par j) ≠ none := i.2.2.2.2.2.2.2.2.1 j h0 hj
theorem Inv.path (i : Inv g) {c : Nat} (h0 : 0 < c) (hc : an g.par c g.now = true) : g.last (g.par c) = Option.some c := i.2.2.2.2.2.2.2.2.2 c h0 hc
theorem Inv.par (i : Inv g) {j : Nat} (hj : j < g.n) : g.par j < g.n := by
  rcases Nat.eq_zero_or_pos j with h0 | h0
  · rw [h0, i.tr.1]; exact i.n1
  · have := i.tr.2 j h0; omega
theorem Inv.dp60 (i : Inv g) {j : Nat} (hj : j < g.n) : g.dp j < 60 := by
  have := dp_le i.tr i.dp j
  have := i.n60
  omega
theorem Inv.lb16 (i : Inv g) {j : Nat} (hj : j < g.n) : g.lb j < 65536 := Nat.lt_of_lt_of_le (i.lb hj) (Nat.pow_le_pow_right (by decide) i.np)
end IV
