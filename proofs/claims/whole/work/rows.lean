section
-- ===== PART A: goes FIRST, ahead of the names: the tables' words, and 'selects' of the private methods out of them =====
/-- a private method of a class that the tables say can be made, by its rows of tables_1 -/
def lw_okq (q : MethodName × Nat) : Prop := (q.1.cls ≠ "java/lang/invoke/MethodHandle" ∧ q.1.cls ≠ "java/lang/invoke/VarHandle") ∧ Cond.instantiable q.1.cls q.2 ∈ tables_1 ∧ Cond.privateMethod q.1 ∈ tables_1 ∧ Cond.instanceMethod q.1 ∈ tables_1
theorem lw_p0 : lw_okq (⟨"java/util/ArrayList", "add", "(Ljava/lang/Object;[Ljava/lang/Object;I)V"⟩, 3) := ⟨⟨by decide +kernel, by decide +kernel⟩, List.mem_of_getElem? (i := 92) (by decide +kernel), List.mem_of_getElem? (i := 128) (by decide +kernel), List.mem_of_getElem? (i := 129) (by decide +kernel)⟩
theorem lw_p1 : lw_okq (⟨"java/util/ArrayList", "grow", "()[Ljava/lang/Object;"⟩, 3) := ⟨⟨by decide +kernel, by decide +kernel⟩, List.mem_of_getElem? (i := 92) (by decide +kernel), List.mem_of_getElem? (i := 132) (by decide +kernel), List.mem_of_getElem? (i := 133) (by decide +kernel)⟩
theorem lw_p2 : lw_okq (⟨"java/util/ArrayList", "grow", "(I)[Ljava/lang/Object;"⟩, 3) := ⟨⟨by decide +kernel, by decide +kernel⟩, List.mem_of_getElem? (i := 92) (by decide +kernel), List.mem_of_getElem? (i := 136) (by decide +kernel), List.mem_of_getElem? (i := 137) (by decide +kernel)⟩
theorem lw_p3 : lw_okq (⟨"CatEvenings", "knocksOf", "(I)I"⟩, 2) := ⟨⟨by decide +kernel, by decide +kernel⟩, List.mem_of_getElem? (i := 22) (by decide +kernel), List.mem_of_getElem? (i := 261) (by decide +kernel), List.mem_of_getElem? (i := 262) (by decide +kernel)⟩
theorem lw_p4 : lw_okq (⟨"java/lang/Throwable", "fillInStackTrace", "(I)Ljava/lang/Throwable;"⟩, 6) := ⟨⟨by decide +kernel, by decide +kernel⟩, List.mem_of_getElem? (i := 334) (by decide +kernel), List.mem_of_getElem? (i := 332) (by decide +kernel), List.mem_of_getElem? (i := 333) (by decide +kernel)⟩
theorem lw_p5 : lw_okq (⟨"CatEvenings", "withEvening", "(JLCatEvenings$Evening;)J"⟩, 2) := ⟨⟨by decide +kernel, by decide +kernel⟩, List.mem_of_getElem? (i := 22) (by decide +kernel), List.mem_of_getElem? (i := 373) (by decide +kernel), List.mem_of_getElem? (i := 374) (by decide +kernel)⟩
theorem lw_p6 : lw_okq (⟨"CatEvenings", "sceneAfter", "(II)LCatEvenings$Scene;"⟩, 2) := ⟨⟨by decide +kernel, by decide +kernel⟩, List.mem_of_getElem? (i := 22) (by decide +kernel), List.mem_of_getElem? (i := 461) (by decide +kernel), List.mem_of_getElem? (i := 462) (by decide +kernel)⟩
theorem lw_p7 : lw_okq (⟨"CatEvenings$Scene", "afterStep", "(I)LCatEvenings$Scene;"⟩, 3) := ⟨⟨by decide +kernel, by decide +kernel⟩, List.mem_of_getElem? (i := 32) (by decide +kernel), List.mem_of_getElem? (i := 473) (by decide +kernel), List.mem_of_getElem? (i := 474) (by decide +kernel)⟩
theorem lw_p8 : lw_okq (⟨"CatEvenings$Scene", "afterKnock", "(I)LCatEvenings$Scene;"⟩, 3) := ⟨⟨by decide +kernel, by decide +kernel⟩, List.mem_of_getElem? (i := 32) (by decide +kernel), List.mem_of_getElem? (i := 484) (by decide +kernel), List.mem_of_getElem? (i := 485) (by decide +kernel)⟩
theorem lw_p9 : lw_okq (⟨"CatEvenings$Scene", "isInReach", "(I)Z"⟩, 3) := ⟨⟨by decide +kernel, by decide +kernel⟩, List.mem_of_getElem? (i := 32) (by decide +kernel), List.mem_of_getElem? (i := 493) (by decide +kernel), List.mem_of_getElem? (i := 494) (by decide +kernel)⟩
theorem lw_p10 : lw_okq (⟨"CatEvenings$Scene", "afterSetUp", "(I)LCatEvenings$Scene;"⟩, 3) := ⟨⟨by decide +kernel, by decide +kernel⟩, List.mem_of_getElem? (i := 32) (by decide +kernel), List.mem_of_getElem? (i := 500) (by decide +kernel), List.mem_of_getElem? (i := 501) (by decide +kernel)⟩
theorem lw_p11 : lw_okq (⟨"CatEvenings$Scene", "afterPush", "(I)LCatEvenings$Scene;"⟩, 3) := ⟨⟨by decide +kernel, by decide +kernel⟩, List.mem_of_getElem? (i := 32) (by decide +kernel), List.mem_of_getElem? (i := 504) (by decide +kernel), List.mem_of_getElem? (i := 505) (by decide +kernel)⟩
theorem lw_p12 : lw_okq (⟨"CatEvenings", "existing", "(I)LCatEvenings$Evening;"⟩, 2) := ⟨⟨by decide +kernel, by decide +kernel⟩, List.mem_of_getElem? (i := 22) (by decide +kernel), List.mem_of_getElem? (i := 554) (by decide +kernel), List.mem_of_getElem? (i := 555) (by decide +kernel)⟩
theorem lw_p13 : lw_okq (⟨"CatEveningsModel", "no", "(I)I"⟩, 11) := ⟨⟨by decide +kernel, by decide +kernel⟩, List.mem_of_getElem? (i := 665) (by decide +kernel), List.mem_of_getElem? (i := 719) (by decide +kernel), List.mem_of_getElem? (i := 720) (by decide +kernel)⟩
theorem lw_p14 : lw_okq (⟨"CatEveningsModel", "pieceOn", "(I)I"⟩, 11) := ⟨⟨by decide +kernel, by decide +kernel⟩, List.mem_of_getElem? (i := 665) (by decide +kernel), List.mem_of_getElem? (i := 723) (by decide +kernel), List.mem_of_getElem? (i := 724) (by decide +kernel)⟩
theorem lw_p15 : lw_okq (⟨"CatEveningsModel", "piece", "(II)I"⟩, 11) := ⟨⟨by decide +kernel, by decide +kernel⟩, List.mem_of_getElem? (i := 665) (by decide +kernel), List.mem_of_getElem? (i := 727) (by decide +kernel), List.mem_of_getElem? (i := 728) (by decide +kernel)⟩
def lw_privs_1 : List (MethodName × Nat) := [(⟨"java/util/ArrayList", "add", "(Ljava/lang/Object;[Ljava/lang/Object;I)V"⟩, 3), (⟨"java/util/ArrayList", "grow", "()[Ljava/lang/Object;"⟩, 3), (⟨"java/util/ArrayList", "grow", "(I)[Ljava/lang/Object;"⟩, 3), (⟨"CatEvenings", "knocksOf", "(I)I"⟩, 2), (⟨"java/lang/Throwable", "fillInStackTrace", "(I)Ljava/lang/Throwable;"⟩, 6), (⟨"CatEvenings", "withEvening", "(JLCatEvenings$Evening;)J"⟩, 2), (⟨"CatEvenings", "sceneAfter", "(II)LCatEvenings$Scene;"⟩, 2), (⟨"CatEvenings$Scene", "afterStep", "(I)LCatEvenings$Scene;"⟩, 3), (⟨"CatEvenings$Scene", "afterKnock", "(I)LCatEvenings$Scene;"⟩, 3), (⟨"CatEvenings$Scene", "isInReach", "(I)Z"⟩, 3), (⟨"CatEvenings$Scene", "afterSetUp", "(I)LCatEvenings$Scene;"⟩, 3), (⟨"CatEvenings$Scene", "afterPush", "(I)LCatEvenings$Scene;"⟩, 3), (⟨"CatEvenings", "existing", "(I)LCatEvenings$Evening;"⟩, 2), (⟨"CatEveningsModel", "no", "(I)I"⟩, 11), (⟨"CatEveningsModel", "pieceOn", "(I)I"⟩, 11), (⟨"CatEveningsModel", "piece", "(II)I"⟩, 11)]
theorem lw_r1 : ∀ q ∈ lw_privs_1, lw_okq q := List.forall_mem_cons.mpr ⟨lw_p0, List.forall_mem_cons.mpr ⟨lw_p1, List.forall_mem_cons.mpr ⟨lw_p2, List.forall_mem_cons.mpr ⟨lw_p3, List.forall_mem_cons.mpr ⟨lw_p4, List.forall_mem_cons.mpr ⟨lw_p5, List.forall_mem_cons.mpr ⟨lw_p6, List.forall_mem_cons.mpr ⟨lw_p7, List.forall_mem_cons.mpr ⟨lw_p8, List.forall_mem_cons.mpr ⟨lw_p9, List.forall_mem_cons.mpr ⟨lw_p10, List.forall_mem_cons.mpr ⟨lw_p11, List.forall_mem_cons.mpr ⟨lw_p12, List.forall_mem_cons.mpr ⟨lw_p13, List.forall_mem_cons.mpr ⟨lw_p14, List.forall_mem_cons.mpr ⟨lw_p15, fun _ h => absurd h List.not_mem_nil⟩⟩⟩⟩⟩⟩⟩⟩⟩⟩⟩⟩⟩⟩⟩⟩
theorem lw_p16 : lw_okq (⟨"CatEveningsModel", "at", "(II)I"⟩, 11) := ⟨⟨by decide +kernel, by decide +kernel⟩, List.mem_of_getElem? (i := 665) (by decide +kernel), List.mem_of_getElem? (i := 731) (by decide +kernel), List.mem_of_getElem? (i := 732) (by decide +kernel)⟩
theorem lw_p17 : lw_okq (⟨"CatEveningsModel", "does", "(II)Z"⟩, 11) := ⟨⟨by decide +kernel, by decide +kernel⟩, List.mem_of_getElem? (i := 665) (by decide +kernel), List.mem_of_getElem? (i := 742) (by decide +kernel), List.mem_of_getElem? (i := 743) (by decide +kernel)⟩
theorem lw_p18 : lw_okq (⟨"CatEveningsModel", "steps", "(I)Z"⟩, 11) := ⟨⟨by decide +kernel, by decide +kernel⟩, List.mem_of_getElem? (i := 665) (by decide +kernel), List.mem_of_getElem? (i := 747) (by decide +kernel), List.mem_of_getElem? (i := 748) (by decide +kernel)⟩
theorem lw_p19 : lw_okq (⟨"CatEveningsModel", "cat", "()I"⟩, 11) := ⟨⟨by decide +kernel, by decide +kernel⟩, List.mem_of_getElem? (i := 665) (by decide +kernel), List.mem_of_getElem? (i := 751) (by decide +kernel), List.mem_of_getElem? (i := 752) (by decide +kernel)⟩
theorem lw_p20 : lw_okq (⟨"CatEveningsModel", "pushes", "(I)Z"⟩, 11) := ⟨⟨by decide +kernel, by decide +kernel⟩, List.mem_of_getElem? (i := 665) (by decide +kernel), List.mem_of_getElem? (i := 760) (by decide +kernel), List.mem_of_getElem? (i := 761) (by decide +kernel)⟩
theorem lw_p21 : lw_okq (⟨"CatEveningsModel", "turns", "(IZ)Z"⟩, 11) := ⟨⟨by decide +kernel, by decide +kernel⟩, List.mem_of_getElem? (i := 665) (by decide +kernel), List.mem_of_getElem? (i := 764) (by decide +kernel), List.mem_of_getElem? (i := 765) (by decide +kernel)⟩
theorem lw_p22 : lw_okq (⟨"CatEveningsModel", "isPiece", "(I)Z"⟩, 11) := ⟨⟨by decide +kernel, by decide +kernel⟩, List.mem_of_getElem? (i := 665) (by decide +kernel), List.mem_of_getElem? (i := 768) (by decide +kernel), List.mem_of_getElem? (i := 769) (by decide +kernel)⟩
theorem lw_p23 : lw_okq (⟨"CatEveningsModel", "isEvening", "(I)Z"⟩, 11) := ⟨⟨by decide +kernel, by decide +kernel⟩, List.mem_of_getElem? (i := 665) (by decide +kernel), List.mem_of_getElem? (i := 788) (by decide +kernel), List.mem_of_getElem? (i := 789) (by decide +kernel)⟩
theorem lw_p24 : lw_okq (⟨"CatEveningsModel", "way", "(II)I"⟩, 11) := ⟨⟨by decide +kernel, by decide +kernel⟩, List.mem_of_getElem? (i := 665) (by decide +kernel), List.mem_of_getElem? (i := 792) (by decide +kernel), List.mem_of_getElem? (i := 793) (by decide +kernel)⟩
theorem lw_p25 : lw_okq (⟨"CatEveningsModel", "meeting", "(II)I"⟩, 11) := ⟨⟨by decide +kernel, by decide +kernel⟩, List.mem_of_getElem? (i := 665) (by decide +kernel), List.mem_of_getElem? (i := 796) (by decide +kernel), List.mem_of_getElem? (i := 797) (by decide +kernel)⟩
theorem lw_p26 : lw_okq (⟨"CatEveningsModel", "ok", "(I)I"⟩, 11) := ⟨⟨by decide +kernel, by decide +kernel⟩, List.mem_of_getElem? (i := 665) (by decide +kernel), List.mem_of_getElem? (i := 804) (by decide +kernel), List.mem_of_getElem? (i := 805) (by decide +kernel)⟩
theorem lw_p27 : lw_okq (⟨"CatEveningsModel", "down", "(II)I"⟩, 11) := ⟨⟨by decide +kernel, by decide +kernel⟩, List.mem_of_getElem? (i := 665) (by decide +kernel), List.mem_of_getElem? (i := 828) (by decide +kernel), List.mem_of_getElem? (i := 829) (by decide +kernel)⟩
theorem lw_p28 : lw_okq (⟨"CatEveningsModel", "isNot", "(I)Z"⟩, 11) := ⟨⟨by decide +kernel, by decide +kernel⟩, List.mem_of_getElem? (i := 665) (by decide +kernel), List.mem_of_getElem? (i := 840) (by decide +kernel), List.mem_of_getElem? (i := 841) (by decide +kernel)⟩
theorem lw_p29 : lw_okq (⟨"CatEveningsModel", "of", "([II)I"⟩, 11) := ⟨⟨by decide +kernel, by decide +kernel⟩, List.mem_of_getElem? (i := 665) (by decide +kernel), List.mem_of_getElem? (i := 856) (by decide +kernel), List.mem_of_getElem? (i := 857) (by decide +kernel)⟩
theorem lw_p30 : lw_okq (⟨"CatEveningsModel", "below", "(I)I"⟩, 11) := ⟨⟨by decide +kernel, by decide +kernel⟩, List.mem_of_getElem? (i := 665) (by decide +kernel), List.mem_of_getElem? (i := 880) (by decide +kernel), List.mem_of_getElem? (i := 881) (by decide +kernel)⟩
theorem lw_p31 : lw_okq (⟨"CatEveningsModel", "allBelow", "(I)I"⟩, 11) := ⟨⟨by decide +kernel, by decide +kernel⟩, List.mem_of_getElem? (i := 665) (by decide +kernel), List.mem_of_getElem? (i := 888) (by decide +kernel), List.mem_of_getElem? (i := 889) (by decide +kernel)⟩
def lw_privs_2 : List (MethodName × Nat) := [(⟨"CatEveningsModel", "at", "(II)I"⟩, 11), (⟨"CatEveningsModel", "does", "(II)Z"⟩, 11), (⟨"CatEveningsModel", "steps", "(I)Z"⟩, 11), (⟨"CatEveningsModel", "cat", "()I"⟩, 11), (⟨"CatEveningsModel", "pushes", "(I)Z"⟩, 11), (⟨"CatEveningsModel", "turns", "(IZ)Z"⟩, 11), (⟨"CatEveningsModel", "isPiece", "(I)Z"⟩, 11), (⟨"CatEveningsModel", "isEvening", "(I)Z"⟩, 11), (⟨"CatEveningsModel", "way", "(II)I"⟩, 11), (⟨"CatEveningsModel", "meeting", "(II)I"⟩, 11), (⟨"CatEveningsModel", "ok", "(I)I"⟩, 11), (⟨"CatEveningsModel", "down", "(II)I"⟩, 11), (⟨"CatEveningsModel", "isNot", "(I)Z"⟩, 11), (⟨"CatEveningsModel", "of", "([II)I"⟩, 11), (⟨"CatEveningsModel", "below", "(I)I"⟩, 11), (⟨"CatEveningsModel", "allBelow", "(I)I"⟩, 11)]
theorem lw_r2 : ∀ q ∈ lw_privs_2, lw_okq q := List.forall_mem_cons.mpr ⟨lw_p16, List.forall_mem_cons.mpr ⟨lw_p17, List.forall_mem_cons.mpr ⟨lw_p18, List.forall_mem_cons.mpr ⟨lw_p19, List.forall_mem_cons.mpr ⟨lw_p20, List.forall_mem_cons.mpr ⟨lw_p21, List.forall_mem_cons.mpr ⟨lw_p22, List.forall_mem_cons.mpr ⟨lw_p23, List.forall_mem_cons.mpr ⟨lw_p24, List.forall_mem_cons.mpr ⟨lw_p25, List.forall_mem_cons.mpr ⟨lw_p26, List.forall_mem_cons.mpr ⟨lw_p27, List.forall_mem_cons.mpr ⟨lw_p28, List.forall_mem_cons.mpr ⟨lw_p29, List.forall_mem_cons.mpr ⟨lw_p30, List.forall_mem_cons.mpr ⟨lw_p31, fun _ h => absurd h List.not_mem_nil⟩⟩⟩⟩⟩⟩⟩⟩⟩⟩⟩⟩⟩⟩⟩⟩
theorem lw_p32 : lw_okq (⟨"CatEveningsModel", "leaves", "()I"⟩, 11) := ⟨⟨by decide +kernel, by decide +kernel⟩, List.mem_of_getElem? (i := 665) (by decide +kernel), List.mem_of_getElem? (i := 904) (by decide +kernel), List.mem_of_getElem? (i := 905) (by decide +kernel)⟩
theorem lw_p33 : lw_okq (⟨"CatEveningsModel", "isLike", "(II)Z"⟩, 11) := ⟨⟨by decide +kernel, by decide +kernel⟩, List.mem_of_getElem? (i := 665) (by decide +kernel), List.mem_of_getElem? (i := 920) (by decide +kernel), List.mem_of_getElem? (i := 921) (by decide +kernel)⟩
theorem lw_p34 : lw_okq (⟨"CatEveningsModel", "mostDown", "()I"⟩, 11) := ⟨⟨by decide +kernel, by decide +kernel⟩, List.mem_of_getElem? (i := 665) (by decide +kernel), List.mem_of_getElem? (i := 928) (by decide +kernel), List.mem_of_getElem? (i := 929) (by decide +kernel)⟩
theorem lw_p35 : lw_okq (⟨"CatEveningsModel", "knocks", "(I)I"⟩, 11) := ⟨⟨by decide +kernel, by decide +kernel⟩, List.mem_of_getElem? (i := 665) (by decide +kernel), List.mem_of_getElem? (i := 932) (by decide +kernel), List.mem_of_getElem? (i := 933) (by decide +kernel)⟩
def lw_privs_3 : List (MethodName × Nat) := [(⟨"CatEveningsModel", "leaves", "()I"⟩, 11), (⟨"CatEveningsModel", "isLike", "(II)Z"⟩, 11), (⟨"CatEveningsModel", "mostDown", "()I"⟩, 11), (⟨"CatEveningsModel", "knocks", "(I)I"⟩, 11)]
theorem lw_r3 : ∀ q ∈ lw_privs_3, lw_okq q := List.forall_mem_cons.mpr ⟨lw_p32, List.forall_mem_cons.mpr ⟨lw_p33, List.forall_mem_cons.mpr ⟨lw_p34, List.forall_mem_cons.mpr ⟨lw_p35, fun _ h => absurd h List.not_mem_nil⟩⟩⟩⟩
def lw_privs : List (MethodName × Nat) := lw_privs_1 ++ (lw_privs_2 ++ (lw_privs_3))
def lw_tbl : List Cond := k2_sels lw_privs ++ tables_1
theorem lw_privs_ok : ∀ q ∈ lw_privs, lw_okq q := by
  show ∀ q ∈ lw_privs_1 ++ (lw_privs_2 ++ (lw_privs_3)), lw_okq q
  exact List.forall_mem_append.mpr ⟨lw_r1, List.forall_mem_append.mpr ⟨lw_r2, lw_r3⟩⟩
/-- the streams that the claim lets the run draw from -/
abbrev lw_cs : List Choice := [Jvm.Choice.named "NaN.bits"]
theorem lw_bits : nanBits ∈ lw_cs := by first | decide | exact List.mem_cons_self | simp [lw_cs, nanBits]
-- ===== end of PART A; then your names; then what follows =====
/-! ===== BEGIN words of one list among another's, by their places ===== -/
theorem goodIn_r {big : List Cond} (ws : List Cond) (ps : List Nat) (hp : ws = ps.filterMap (fun i => big[i]?)) (h : ws.all goodWord = true) : GoodIn big ws := by
  intro w hw
  have h1 := List.all_eq_true.mp h w hw
  rw [hp] at hw
  obtain ⟨i, -, hi⟩ := List.mem_filterMap.mp hw
  have hm : w ∈ big := by first | exact List.mem_of_getElem? hi | exact List.getElem?_mem hi
  exact ⟨hm, good_of_word h1⟩
theorem goodIn_app {big a b : List Cond} (ha : GoodIn big a) (hb : GoodIn big b) : GoodIn big (a ++ b) := fun w h => (List.mem_append.mp h).elim (ha w) (hb w)
theorem goodIn_ca {big a b : List Cond} {c : Cond} (ha : GoodIn big (c :: a)) (hb : GoodIn big b) : GoodIn big (c :: (a ++ b)) := fun w h => (List.mem_cons.mp h).elim (fun e => ha w (List.mem_cons.mpr (Or.inl e))) (fun h => (List.mem_append.mp h).elim (fun h => ha w (List.mem_cons.mpr (Or.inr h))) (hb w))
theorem goodIn_sub {big ws : List Cond} (hm : ∀ w ∈ ws, w ∈ big) (h : ws.all goodWord = true) : GoodIn big ws := fun w hw => ⟨hm w hw, good_of_word (List.all_eq_true.mp h w hw)⟩
/-! ===== END ===== -/

/-! ===== BEGIN exceptions that leave a method, and their catching by the caller (launches without stack traces) ===== -/
section VXA
/-! The laws vx_back, vx_callV, vx_callS, vx_callSW, vx_throw0, vx_throwS follow proofs of the library, with one case more: JvmDerived/Free/Laws.lean (Back.of_free), Shelf42/LK1.lean (callV, callS), Shelf/KitTraced.lean (throwNew0V, throwNewS). -/
/-- where a method has thrown q: the class by its name, the cell, what was written, the world -/
def vx_T (XC : String → State → State → Prop) (st : State) (q : Addr) (t : State) (mc ms : Nat) (free : Addr → Prop) : Prop :=
  ∃ (E : String) (ce : Cell) (L : List Loc), XC E st t ∧ t.heap[q]? = some ce ∧ ce.vm = .none ∧ st.vm.findClass E = some ce.cls ∧ st.WarmedH t.vm ∧ st.sameButNew ({ t with vm := st.vm } : State) L mc ms ∧ ∀ z ∈ L, free z.base
def vx_Q (Qc : Array Value → State → Outcome → State → Prop) (XC : String → State → State → Prop) (mc ms : Nat) (free : Addr → Prop) : Array Value → State → Outcome → State → Prop := fun a st o t =>
  (Qc a st o t ∧ ∃ L, FrameEnd st o t L mc ms ∧ ∀ q ∈ L, free q.base) ∨ ∃ q, o = .threw q ∧ vx_T XC st q t mc ms free
/-- a callee that returns or throws -/
def vx_Met (l : Launch) (y : MethodName) (ws : List Cond) (rm : Room) (Pc : Array Value → State → Prop) (Qc : Array Value → State → Outcome → State → Prop) (XC : String → State → State → Prop) (mc ms : Nat) (free : Addr → Prop) : Prop :=
  MetFree l y (headSpec ws rm) Pc (fun _ _ _ _ _ => True) (vx_Q Qc XC mc ms free)
def vx_Post (XC : String → State → State → Prop) (mc ms : Nat) (free : Addr → Prop) : Pt → Array Value → Addr → Pt → Prop := fun A a q B =>
  ∃ (g : JFrame) (mk : MethodId) (t : State) (L : List Loc) (E : String) (ce : Cell), B.U.heap = t.heap ∧ B.U.vm = t.vm ∧ XC E (A.U.calling g mk a) t ∧ t.heap[q]? = some ce ∧ ce.vm = .none ∧ A.U.vm.findClass E = some ce.cls ∧ B.locs = A.locs ++ L ∧ (∀ z ∈ L, free z.base) ∧ B.cells = A.cells + mc ∧ B.slots = A.slots + ms
def vx_Back (l : Launch) (R : Room) (p : Program) (e : Env) (below : List Frame) (s : State) (sargs : Array Value) (y : MethodName) (len W9 : Nat)
    (Pre : Pt → Array Value → Prop) (Post : Pt → Array Value → Option Value → Pt → Prop) (PostX : Pt → Array Value → Addr → Pt → Prop) : Prop :=
  ∀ (m : MethodId) (meth : Method) (c : Code) (A : Pt) (g : JFrame) (ig : Instr) (mk : MethodId) (a : Array Value),
    Stand p l e R s m sargs below meth c A.U A.locs A.cells A.slots → g.method = m → g.locals.size = c.maxLocals → decode c.code g.pc = .ok (ig, len) →
    2 * g.monitorRoom + (g.stack.map fun v => v.category).sum ≤ W9 → A.U.methodNamed? y = some mk → Pre A a →
    (∃ (v : Option Value) (B : Pt), Stand p l e R s m sargs below meth c B.U B.locs B.cells B.slots ∧ Post A a v B ∧
      Steps p.tables e below (doInvoke e (A.U.setTop g) [] mk a).1 (B.U.setTop { g with pc := g.pc + len, stack := v.toList ++ g.stack })) ∨
    (∃ (q : Addr) (B : Pt), Stand p l e R s m sargs below meth c B.U B.locs B.cells B.slots ∧ PostX A a q B ∧
      Steps p.tables e below (doInvoke e (A.U.setTop g) [] mk a).1 ((B.U.setTop g).pushFrame (.throwing q)))
section Payer
variable {l : Launch} {R : Room} {p : Program} {e : Env} {below : List Frame} {s : State} {sargs : Array Value} {y : MethodName} {len W9 : Nat}
theorem vx_back {ws : List Cond} {rm : Room} {Pc : Array Value → State → Prop} {Qc : Array Value → State → Outcome → State → Prop} {XC : String → State → State → Prop} {mc ms : Nat} {free : Addr → Prop} {bytes : ByteArray} {maxL : Nat} {ret : Option FieldType}
    (hM : vx_Met l y ws rm Pc Qc XC mc ms free) (hblind : FrameBlind Pc) (hrc : rm.cells = mc) (hrs : rm.slots = ms)
    (hframes : rm.frames + 1 ≤ R.frames) (hlocals : W9 + (maxL + 11) + rm.locals ≤ R.locals)
    (hws : ∀ w ∈ ws, ∀ a' U, s.WarmedH U.vm → w.before a' U = true) (hcode : Cond.code y bytes maxL ret ∈ ws) (hinit : ∀ a' U, s.WarmedH U.vm → (Cond.initialized y.cls).before a' U = true) :
    vx_Back l R p e below s sargs y len W9 (PreOf R mc ms Pc) (PostOf Qc mc ms free) (vx_Post XC mc ms free) := by
  intro m meth c A g ig mk a X hg hsize hdg hW hn hp
  have h1 : (headSpec ws rm).pre.before a A.U = true := atoms_intro fun w hw => hws w hw _ _ X.warmed
  have h2 : (Cond.code y bytes maxL ret).before a A.U = true := hws _ hcode _ _ X.warmed
  have h3 : (Cond.initialized y.cls).before a A.U = true := hinit _ _ X.warmed
  have h4 : A.cells + (headSpec ws rm).room.cells ≤ R.cells := by rw [show (headSpec ws rm).room.cells = mc from hrc]; exact hp.1
  have h5 : A.slots + (headSpec ws rm).room.slots ≤ R.slots := by rw [show (headSpec ws rm).room.slots = ms from hrs]; exact hp.2.1
  have hPc : Pc a (A.U.calling g mk a) := hblind _ _ _ _ hp.2.2
  obtain ⟨U, Ls, c0, s0⟩ := A
  dsimp only [Pt.U, Pt.locs, Pt.cells, Pt.slots] at h1 h2 h3 h4 h5 X hn hPc ⊢
  obtain ⟨methY, cY, hmY, hcY, -, hlY, -, -, -, -⟩ := Cond.code_spec hn h2
  obtain ⟨kY, hkY, -⟩ := className_of_methodNamed hn
  have hinitY : kY.init = .initialized := Cond.initialized_spec (findClass_of_methodNamed hn) hkY h3
  have h : At U g.method c below := by rw [hg]; exact X.here
  have hlocals9 : W9 + (maxL + 11) + (headSpec ws rm).room.locals ≤ R.locals := hlocals
  have happ : (headSpec ws rm).appliesLoose y e.platform (U.calling g mk a) = true :=
    Spec.appliesLoose_calling (g := g) h hdg hn hkY hinitY
      (X.room_calling (g := g) (R' := (headSpec ws rm).room) hsize hmY hcY hframes (by rw [hlY]; omega) h4 h5) h1
  obtain ⟨mid, hmid⟩ := h.above
  have hfr : (U.setTop g).frames = (.java g :: mid) ++ below := by rw [State.frames_setTop' g h.top, hmid]; rfl
  obtain ⟨o, s₂, hsteps, -, hend, hq⟩ := Steps.callFree hM p X.admits X.cas X.clock (acts := []) hfr happ hPc trivial
  have hq' : vx_Q Qc XC mc ms free a (U.calling g mk a) o s₂ := hq
  rw [State.frames_setTop' g h.top] at hend
  obtain ⟨g₀, hg0⟩ := Option.isSome_iff_exists.mp h.top
  obtain ⟨r, hr⟩ := State.topJava?_eq_some.mp hg0
  have hr' : (({ U with heap := s₂.heap, slotsUsed := s₂.slotsUsed } : State).setVm s₂.vm).frames = .java g₀ :: r := hr
  rcases hq' with ⟨hqc, L, hfe, hL⟩ | ⟨q, rfl, E, ce, L, hx, hce, hcv, hcl, hW₂, hsm, hL⟩
  · obtain ⟨⟨v, rfl⟩, hW₂, e2, q2, q3, q4, q5, q6⟩ := id hfe
    have e3 : s₂ = ({ (U.calling g mk a).setFrames s₂.frames with heap := s₂.heap, slotsUsed := s₂.slotsUsed } : State).setVm s₂.vm := by
      have : s₂ = ({ s₂ with vm := (U.calling g mk a).vm } : State).setVm s₂.vm := rfl
      rw [e2] at this
      exact this
    obtain ⟨c₂, i₂, len₂, hc₂, hd₂, hf₂⟩ := hend
    have hW' : U.WarmedH s₂.vm := hW₂
    have hcc : c₂ = c := by
      have h1 : s₂.code? g.method = U.code? g.method := by
        rw [State.code?_eq, State.code?_eq, hW'.alike.method?]
      exact Option.some.inj (hc₂.symm.trans (h1.trans h.code))
    subst hcc
    have hlen : len₂ = len := by rw [hdg] at hd₂; cases hd₂; rfl
    subst hlen
    have hs₂ : s₂ = (({ U with heap := s₂.heap, slotsUsed := s₂.slotsUsed } : State).setVm s₂.vm).setTop { g with pc := g.pc + len₂, stack := v.toList ++ g.stack } := by
      refine e3.trans ?_
      rw [hf₂, State.calling_eq h.top, State.setFrames_setFrames, State.setTop_of_frames _ hr', hr]
      rfl
    have hsame : U.sameButNew ({ U with heap := s₂.heap, slotsUsed := s₂.slotsUsed } : State) L mc ms := by
      refine ⟨?_, q2, q3, q4, q5, q6⟩
      obtain ⟨t, ht, -⟩ := State.frames_cons hr
      show ({ U with heap := s₂.heap, slotsUsed := s₂.slotsUsed } : State) = { U.setFrames U.frames with heap := s₂.heap, slotsUsed := s₂.slotsUsed }
      rw [State.setFrames_self ht]
    subst hg
    refine Or.inl ⟨v, ⟨(({ U with heap := s₂.heap, slotsUsed := s₂.slotsUsed } : State).setVm s₂.vm), Ls ++ L, c0 + mc, s0 + ms⟩,
      ⟨X.admits, X.cas, X.clock, X.frames, X.room, X.hears, X.method, X.code, (X.here.setHeapUsed s₂.heap s₂.slotsUsed).setVm hW'.alike, X.tail, State.WarmedH.trans X.warmed hW', X.limits, X.bytes, X.same.trans (hsame.setVm s.vm)⟩,
      ⟨g, mk, s₂, L, rfl, rfl, hqc, rfl, hL, rfl, rfl⟩, ?_⟩
    show Steps p.tables e below _ ((({ U with heap := s₂.heap, slotsUsed := s₂.slotsUsed } : State).setVm s₂.vm).setTop { g with pc := g.pc + len₂, stack := v.toList ++ g.stack })
    rw [← hs₂]
    exact hsteps
  · obtain ⟨e2, q2, q3, q4, q5, q6⟩ := id hsm
    have e3 : s₂ = ({ (U.calling g mk a).setFrames s₂.frames with heap := s₂.heap, slotsUsed := s₂.slotsUsed } : State).setVm s₂.vm := by
      have : s₂ = ({ s₂ with vm := (U.calling g mk a).vm } : State).setVm s₂.vm := rfl
      rw [e2] at this
      exact this
    have hf₂ : s₂.frames = .throwing q :: .java g :: U.frames.tail := hend
    have hW' : U.WarmedH s₂.vm := hW₂
    have hs₂ : s₂ = ((({ U with heap := s₂.heap, slotsUsed := s₂.slotsUsed } : State).setVm s₂.vm).setTop g).pushFrame (.throwing q) := by
      refine e3.trans ?_
      rw [hf₂, State.calling_eq h.top, State.setFrames_setFrames, State.pushFrame, State.frames_setTop _ hr', State.setTop_of_frames _ hr', State.setFrames_setFrames, hr]
      rfl
    have hsame : U.sameButNew ({ U with heap := s₂.heap, slotsUsed := s₂.slotsUsed } : State) L mc ms := by
      refine ⟨?_, q2, q3, q4, q5, q6⟩
      obtain ⟨t, ht, -⟩ := State.frames_cons hr
      show ({ U with heap := s₂.heap, slotsUsed := s₂.slotsUsed } : State) = { U.setFrames U.frames with heap := s₂.heap, slotsUsed := s₂.slotsUsed }
      rw [State.setFrames_self ht]
    subst hg
    refine Or.inr ⟨q, ⟨(({ U with heap := s₂.heap, slotsUsed := s₂.slotsUsed } : State).setVm s₂.vm), Ls ++ L, c0 + mc, s0 + ms⟩,
      ⟨X.admits, X.cas, X.clock, X.frames, X.room, X.hears, X.method, X.code, (X.here.setHeapUsed s₂.heap s₂.slotsUsed).setVm hW'.alike, X.tail, State.WarmedH.trans X.warmed hW', X.limits, X.bytes, X.same.trans (hsame.setVm s.vm)⟩,
      ⟨g, mk, s₂, L, E, ce, rfl, rfl, hx, hce, hcv, hcl, rfl, hL, rfl, rfl⟩, ?_⟩
    show Steps p.tables e below _ (((({ U with heap := s₂.heap, slotsUsed := s₂.slotsUsed } : State).setVm s₂.vm).setTop g).pushFrame (.throwing q))
    rw [← hs₂]
    exact hsteps
end Payer
section Calls
variable {p : Program} {l : Launch} {e : Env} {R : Room} {s : State} {m : MethodId} {args : Array Value} {below : List Frame} {meth : Method} {c : Code} {T : State} {locs : List Loc} {cells slots : Nat}
theorem vx_callV (X : Stand p l e R s m args below meth c T locs cells slots) (hexec : p.tables.exec = Jvm.exec) {own C : String} {index : Nat} {y : MethodName} {bytes : ByteArray} {maxL : Nat} {ret : Option FieldType}
    (hown : s.vm.findClass own = some m.cls) (hlink : (Cond.methodLink own index y).before args s = true) (hinst : (Cond.instanceMethod y).before args s = true) (hsel : (Cond.selects C y y).before args s = true)
    (hcode : (Cond.code y bytes maxL ret).before args s = true) (hy : y.cls ≠ "java/lang/invoke/MethodHandle" ∧ y.cls ≠ "java/lang/invoke/VarHandle")
    {W9 : Nat} {Pre : Pt → Array Value → Prop} {Post : Pt → Array Value → Option Value → Pt → Prop} {PostX : Pt → Array Value → Addr → Pt → Prop} (hK : vx_Back l R p e below s args y 3 W9 Pre Post PostX)
    {b : Addr} {cellB : Cell} (hcell : T.heap[b]? = some cellB) (hobj : cellB.vm.isStatics = false) (hcls : s.vm.findClass C = some cellB.cls)
    {g : JFrame} (hg : g.method = m) (hsize : g.locals.size = c.maxLocals) {argsL rest : List Value} (hlen : ∀ sig, parseMethodDescriptor y.desc = some sig → argsL.length = sig.parameters.length)
    (hstack : g.stack = argsL.reverse ++ .ref b :: rest) (hW : 2 * g.monitorRoom + (rest.map fun v => v.category).sum ≤ W9) (hdg : decode c.code g.pc = .ok (.invokevirtual index, 3))
    (hpre : ∀ vm₁, s.WarmedH vm₁ → Pre ⟨T.setVm vm₁, locs, cells, slots⟩ (Value.ref b :: argsL).toArray) :
    (∃ (v : Option Value) (vm₁ : Vm) (B : Pt), s.WarmedH vm₁ ∧ Stand p l e R s m args below meth c B.U B.locs B.cells B.slots ∧ Post ⟨T.setVm vm₁, locs, cells, slots⟩ (Value.ref b :: argsL).toArray v B ∧
      ∀ target, Steps p.tables e below (B.U.setTop { g with pc := g.pc + 3, stack := v.toList ++ rest }) target → Steps p.tables e below (T.setTop g) target) ∨
    (∃ (q : Addr) (vm₁ : Vm) (B : Pt), s.WarmedH vm₁ ∧ Stand p l e R s m args below meth c B.U B.locs B.cells B.slots ∧ PostX ⟨T.setVm vm₁, locs, cells, slots⟩ (Value.ref b :: argsL).toArray q B ∧
      Steps p.tables e below (T.setTop g) ((B.U.setTop { g with stack := rest }).pushFrame (.throwing q))) := by
  obtain ⟨mk, methM, hnamed, hmethM, hstM, habM⟩ := Cond.instanceMethod_spec hinst
  obtain ⟨methM', cM, hmethM', -, -, -, -, -, -, hsigM⟩ := Cond.code_spec hnamed hcode
  cases hmethM.symm.trans hmethM'
  obtain ⟨c2, r2, m2, q1, q2, q3, q4, kP, hkP, hkPi⟩ := Cond.selects_spec hsel
  cases hcls.symm.trans q1
  cases (State.methodFound?_of_named hnamed hy).symm.trans q2
  cases hnamed.symm.trans q3
  have hselP : selectMethod e.platform s.vm cellB.cls mk = .method mk := by rw [Launch.admits_selectMethod X.admits]; exact q4
  obtain ⟨vm₁, X₁, hstep₁⟩ := X.invokevirtual hexec hown hlink hnamed hmethM hstM hkP hkPi hy (a := b) (cell := cellB) hcell
    (fun z h => by rw [h] at hobj; cases hobj) hselP hmethM habM hkP hkPi (g := g) hg (argsL := argsL) (rest := rest) (hlen _ hsigM) hstack hdg
  rcases hK m meth c ⟨T.setVm vm₁, locs, cells, slots⟩ { g with stack := rest } (.invokevirtual index) mk (Value.ref b :: argsL).toArray X₁ hg hsize hdg hW (X₁.named hnamed) (hpre vm₁ X₁.warmed) with ⟨v, B, X', hpost, hsteps⟩ | ⟨q, B, X', hpost, hsteps⟩
  · exact Or.inl ⟨v, vm₁, B, X₁.warmed, X', hpost, fun target h => hstep₁ _ fun acts => by rw [doInvoke_state]; exact hsteps.trans h⟩
  · exact Or.inr ⟨q, vm₁, B, X₁.warmed, X', hpost, hstep₁ _ fun acts => by rw [doInvoke_state]; exact hsteps⟩
theorem vx_callS (X : Stand p l e R s m args below meth c T locs cells slots) (hexec : p.tables.exec = Jvm.exec) {own : String} {index : Nat} {y : MethodName} {bytes : ByteArray} {maxL : Nat} {ret : Option FieldType}
    (hown : s.vm.findClass own = some m.cls) (hlink : (Cond.methodLink own index y).before args s = true) (hstat : (Cond.static y).before args s = true) (hinit : (Cond.initialized y.cls).before args s = true)
    (hcode : (Cond.code y bytes maxL ret).before args s = true) (hy : y.cls ≠ "java/lang/invoke/MethodHandle" ∧ y.cls ≠ "java/lang/invoke/VarHandle")
    {W9 : Nat} {Pre : Pt → Array Value → Prop} {Post : Pt → Array Value → Option Value → Pt → Prop} {PostX : Pt → Array Value → Addr → Pt → Prop} (hK : vx_Back l R p e below s args y 3 W9 Pre Post PostX)
    {g : JFrame} (hg : g.method = m) (hsize : g.locals.size = c.maxLocals) {argsL rest : List Value} (hlen : ∀ sig, parseMethodDescriptor y.desc = some sig → argsL.length = sig.parameters.length)
    (hstack : g.stack = argsL.reverse ++ rest) (hW : 2 * g.monitorRoom + (rest.map fun v => v.category).sum ≤ W9) (hdg : decode c.code g.pc = .ok (.invokestatic index, 3))
    (hpre : ∀ vm₁, s.WarmedH vm₁ → Pre ⟨T.setVm vm₁, locs, cells, slots⟩ argsL.toArray) :
    (∃ (v : Option Value) (vm₁ : Vm) (B : Pt), s.WarmedH vm₁ ∧ Stand p l e R s m args below meth c B.U B.locs B.cells B.slots ∧ Post ⟨T.setVm vm₁, locs, cells, slots⟩ argsL.toArray v B ∧
      ∀ target, Steps p.tables e below (B.U.setTop { g with pc := g.pc + 3, stack := v.toList ++ rest }) target → Steps p.tables e below (T.setTop g) target) ∨
    (∃ (q : Addr) (vm₁ : Vm) (B : Pt), s.WarmedH vm₁ ∧ Stand p l e R s m args below meth c B.U B.locs B.cells B.slots ∧ PostX ⟨T.setVm vm₁, locs, cells, slots⟩ argsL.toArray q B ∧
      Steps p.tables e below (T.setTop g) ((B.U.setTop { g with stack := rest }).pushFrame (.throwing q))) := by
  obtain ⟨mk, hnamed⟩ := Cond.code_named hcode
  obtain ⟨methM, cM, hmethM, -, -, -, -, -, -, hsigM⟩ := Cond.code_spec hnamed hcode
  have hstatic : methM.isStatic = true := Cond.static_spec hnamed hmethM hstat
  obtain ⟨kP, hkP, -⟩ := className_of_methodNamed hnamed
  have hinitP : kP.init = .initialized := Cond.initialized_spec (findClass_of_methodNamed hnamed) hkP hinit
  obtain ⟨vm₁, X₁, hstep₁⟩ := X.invokestatic hexec hown hlink hnamed hmethM hstatic hkP hinitP hy (g := g) hg (argsL := argsL) (rest := rest) (hlen _ hsigM) hstack hdg
  rcases hK m meth c ⟨T.setVm vm₁, locs, cells, slots⟩ { g with stack := rest } (.invokestatic index) mk argsL.toArray X₁ hg hsize hdg hW (X₁.named hnamed) (hpre vm₁ X₁.warmed) with ⟨v, B, X', hpost, hsteps⟩ | ⟨q, B, X', hpost, hsteps⟩
  · exact Or.inl ⟨v, vm₁, B, X₁.warmed, X', hpost, fun target h => hstep₁ _ fun acts => by rw [doInvoke_state]; exact hsteps.trans h⟩
  · exact Or.inr ⟨q, vm₁, B, X₁.warmed, X', hpost, hstep₁ _ fun acts => by rw [doInvoke_state]; exact hsteps⟩
end Calls
theorem vx_cls {s : State} {T : State} {vm₁ : Vm} {E : String} {k : ClassId} (hW : s.WarmedH vm₁) (h : (T.setVm vm₁).vm.findClass E = some k) : s.vm.findClass E = some k := by
  have h1 : vm₁.findClass E = some k := h
  rw [hW.alike.findClass] at h1
  exact h1
/-- the method's frame g, with q thrown over it -/
def vx_W (p : Program) (l : Launch) (e : Env) (R : Room) (s : State) (m : MethodId) (args : Array Value) (below : List Frame) (meth : Method) (c : Code) (H : Heap) (locs : List Loc) (cells slots : Nat) (Q : State → Prop) (g : JFrame) (q : Addr) : Prop :=
  ∀ T : State, T.heap = H → Stand p l e R s m args below meth c T locs cells slots → ∃ t, Steps p.tables e below ((T.setTop g).pushFrame (.throwing q)) t ∧ Q t
def vx_Run (p : Program) (l : Launch) (e : Env) (R : Room) (s : State) (m : MethodId) (args : Array Value) (below : List Frame) (meth : Method) (c : Code) (H : Heap) (locs : List Loc) (cells slots mc ms : Nat) (g : JFrame) (rest : List Value) (Qa : State → Outcome → State → Prop) (XC : String → State → State → Prop) (free : Addr → Prop) : Prop :=
  ∀ T : State, T.heap = H → Stand p l e R s m args below meth c T locs cells slots →
    (∃ (v : Option Value) (st₀ t T' : State) (L : List Loc), st₀.heap = H ∧ Stand p l e R s m args below meth c T' (locs ++ L) (cells + mc) (slots + ms) ∧ (∀ q ∈ L, free q.base) ∧ T'.heap = t.heap ∧ T'.vm = t.vm ∧ Qa st₀ (.returned v) t ∧
      Goes p e below T g T' { g with pc := g.pc + 3, stack := v.toList ++ rest }) ∨
    (∃ (q : Addr) (st₀ t T' : State) (L : List Loc) (E : String) (ce : Cell), st₀.heap = H ∧ Stand p l e R s m args below meth c T' (locs ++ L) (cells + mc) (slots + ms) ∧ (∀ z ∈ L, free z.base) ∧ T'.heap = t.heap ∧ T'.vm = t.vm ∧ XC E st₀ t ∧ t.heap[q]? = some ce ∧ ce.vm = .none ∧ s.vm.findClass E = some ce.cls ∧
      Steps p.tables e below (T.setTop g) ((T'.setTop { g with stack := rest }).pushFrame (.throwing q)))
def vx_X {S : Type} (px : S → Prop) (B : String → S → State → Prop) (A : Nat → Prop) : String → State → State → Prop := fun E st t => ∃ u : S, px u ∧ B E u t ∧ va_F A st t
section Runs
variable {p : Program} {l : Launch} {e : Env} {R : Room} {s : State} {m : MethodId} {args : Array Value} {below : List Frame} {meth : Method} {c : Code} {H : Heap} {locs : List Loc} {cells slots : Nat}
variable {y : MethodName} {bytes cc : ByteArray} {maxL nL mc ms n index : Nat} {ret : Option FieldType} {ws : List Cond} {rm : Room} {Pc : Array Value → State → Prop} {Qc : Array Value → State → Outcome → State → Prop} {XC : String → State → State → Prop} {free : Addr → Prop} {Ts : List Cond} {own C : String} {b : Addr} {As rest : List Value} {g : JFrame}
theorem vx_callBack (cb : CallB R s args own index y bytes maxL ret ws rm mc ms n) (hM : vx_Met l y ws rm Pc Qc XC mc ms free) (hbl : FrameBlind Pc) : vx_Back l R p e below s args y 3 8 (PreOf R mc ms Pc) (PostOf Qc mc ms free) (vx_Post XC mc ms free) := by
  obtain ⟨hrc, hrs, hfr, hlo, hws, hcw, -, hini, -⟩ := cb
  exact vx_back (bytes := bytes) (maxL := maxL) (ret := ret) hM hbl hrc hrs hfr hlo hws hcw (fun a' U hW => word_at hW (Or.inl (by first | rfl | simp [Cond.onTables, Cond.keeps, Cond.steady])) hini)
theorem vx_runV (S : CallFix p m c cc nL s args Ts own) (hM : vx_Met l y ws rm Pc Qc XC mc ms free) (cw : CallW R s args own C index y bytes maxL ret ws rm mc ms n) (hp : PreV s H C b Pc As)
    (hg : g.method = m) (hn : As.length = n) (hsize : g.locals.size = nL) (hstack : g.stack = As.reverse ++ .ref b :: rest) (hW : 2 * g.monitorRoom + (rest.map fun v => v.category).sum ≤ 8) (hdg : decode cc g.pc = .ok (.invokevirtual index, 3)) (hf : cells + mc ≤ R.cells ∧ slots + ms ≤ R.slots) :
    vx_Run p l e R s m args below meth c H locs cells slots mc ms g rest (Qc (Value.ref b :: As).toArray) XC free := by
  have hK : vx_Back l R p e below s args y 3 8 (PreOf R mc ms Pc) (PostOf Qc mc ms free) (vx_Post XC mc ms free) := vx_callBack cw.1 hM hp.1
  obtain ⟨⟨-, -, -, -, -, -, hcode, -, hy, hlen, hl⟩, hin, hse⟩ := cw
  obtain ⟨hx, hb, hml, ho, -⟩ := S
  obtain ⟨-, ⟨cellB, hcB, hoB, hclB⟩, hPc⟩ := hp
  intro T hT X
  rcases vx_callV X hx (C := C) (bytes := bytes) (maxL := maxL) (ret := ret) ho hl hin hse hcode hy hK (by rw [hT]; exact hcB) hoB hclB hg (hsize.trans hml.symm) (argsL := As) (rest := rest) (fun sig h => hn.trans (hlen sig h)) hstack hW (by rw [hb]; exact hdg)
    (fun vm₁ hW₁ => ⟨hf.1, hf.2, hPc (T.setVm vm₁) hT hW₁⟩) with ⟨v, vm₁, ⟨U', l2, c2, s2⟩, hW₁, X', ⟨g', mk, t, L, e1, e2, hq, h1, hL, h2, h3⟩, st⟩ | ⟨q, vm₁, ⟨U', l2, c2, s2⟩, hW₁, X', ⟨g', mk, t, L, E, ce, e1, e2, hq, hce, hcv, hcl, h1, hL, h2, h3⟩, st⟩
  · dsimp only [Pt.U, Pt.locs, Pt.cells, Pt.slots] at X' e1 e2 h1 h2 h3 st
    subst h1; subst h2; subst h3
    exact Or.inl ⟨v, (T.setVm vm₁).calling g' mk (Value.ref b :: As).toArray, t, U', L, hT, X', hL, e1, e2, hq, st⟩
  · dsimp only [Pt.U, Pt.locs, Pt.cells, Pt.slots] at X' e1 e2 h1 h2 h3 st hcl
    subst h1; subst h2; subst h3
    exact Or.inr ⟨q, (T.setVm vm₁).calling g' mk (Value.ref b :: As).toArray, t, U', L, E, ce, hT, X', hL, e1, e2, hq, hce, hcv, vx_cls hW₁ hcl, st⟩
theorem vx_runS (S : CallFix p m c cc nL s args Ts own) (hM : vx_Met l y ws rm Pc Qc XC mc ms free) (cw : CallB R s args own index y bytes maxL ret ws rm mc ms n ∧ (Cond.static y).before args s = true) (hp : PreS s H Pc As)
    (hg : g.method = m) (hn : As.length = n) (hsize : g.locals.size = nL) (hstack : g.stack = As.reverse ++ rest) (hW : 2 * g.monitorRoom + (rest.map fun v => v.category).sum ≤ 8) (hdg : decode cc g.pc = .ok (.invokestatic index, 3)) (hf : cells + mc ≤ R.cells ∧ slots + ms ≤ R.slots) :
    vx_Run p l e R s m args below meth c H locs cells slots mc ms g rest (Qc As.toArray) XC free := by
  have hK : vx_Back l R p e below s args y 3 8 (PreOf R mc ms Pc) (PostOf Qc mc ms free) (vx_Post XC mc ms free) := vx_callBack cw.1 hM hp.1
  obtain ⟨⟨-, -, -, -, -, -, hcode, hini, hy, hlen, hl⟩, hstt⟩ := cw
  obtain ⟨hx, hb, hml, ho, -⟩ := S
  intro T hT X
  rcases vx_callS X hx (bytes := bytes) (maxL := maxL) (ret := ret) ho hl hstt hini hcode hy hK hg (hsize.trans hml.symm) (argsL := As) (rest := rest) (fun sig h => hn.trans (hlen sig h)) hstack hW (by rw [hb]; exact hdg)
    (fun vm₁ hW₁ => ⟨hf.1, hf.2, hp.2 (T.setVm vm₁) hT hW₁⟩) with ⟨v, vm₁, ⟨U', l2, c2, s2⟩, hW₁, X', ⟨g', mk, t, L, e1, e2, hq, h1, hL, h2, h3⟩, st⟩ | ⟨q, vm₁, ⟨U', l2, c2, s2⟩, hW₁, X', ⟨g', mk, t, L, E, ce, e1, e2, hq, hce, hcv, hcl, h1, hL, h2, h3⟩, st⟩
  · dsimp only [Pt.U, Pt.locs, Pt.cells, Pt.slots] at X' e1 e2 h1 h2 h3 st
    subst h1; subst h2; subst h3
    exact Or.inl ⟨v, (T.setVm vm₁).calling g' mk As.toArray, t, U', L, hT, X', hL, e1, e2, hq, st⟩
  · dsimp only [Pt.U, Pt.locs, Pt.cells, Pt.slots] at X' e1 e2 h1 h2 h3 st hcl
    subst h1; subst h2; subst h3
    exact Or.inr ⟨q, (T.setVm vm₁).calling g' mk As.toArray, t, U', L, E, ce, hT, X', hL, e1, e2, hq, hce, hcv, vx_cls hW₁ hcl, st⟩
end Runs
section Rows
variable {p : Program} {l : Launch} {e : Env} {R : Room} {s : State} {m : MethodId} {args : Array Value} {below : List Frame} {meth : Method} {c : Code} {H : Heap} {locs : List Loc} {cells slots : Nat} {Q : State → Prop}
variable {mc ms : Nat} {free : Addr → Prop} {A0 A1 : Nat → Prop} {H0 : Heap} {a : Array Value} {pc : Nat} {ls : Array Slot} {st0 rest : List Value}
theorem vx_keep {st₀ t T' : State} {L : List Loc} (h0 : st₀.heap = H) (e1 : T'.heap = t.heap) (hS : va_S A0 H0 H locs) (hA : ∀ q, q < H.size → A1 q → A0 q) (hf : ∀ q, free q → A0 q) (hL : ∀ q ∈ L, free q.base) (hF : va_F A1 st₀ t) :
    H.size ≤ T'.heap.size ∧ (∀ q : Nat, q < H.size → ¬ A1 q → T'.heap[q]? = H[q]?) ∧ va_S A0 H0 T'.heap (locs ++ L) := by
  obtain ⟨hz, hk⟩ := hF
  rw [h0] at hz hk
  exact ⟨by rw [e1]; exact hz, fun q h1 h2 => by rw [e1]; exact hk q h1 h2,
    ⟨Nat.le_trans hS.1 (by rw [e1]; exact hz), fun q h1 h2 => by rw [e1, hk q (Nat.lt_of_lt_of_le h1 hS.1) (fun z => h2 (hA q (Nat.lt_of_lt_of_le h1 hS.1) z))]; exact hS.2.1 q h1 h2, fun q hq => by
      rcases List.mem_append.mp hq with h | h
      · exact hS.2.2 q h
      · exact hf _ (hL q h)⟩⟩
theorem vx_calli {S SX : Type} {post : Int32 → S → Prop} {px : SX → Prop} {B : S → State → Prop} {BX : String → SX → State → Prop} {AX : Nat → Prop} (hr : vx_Run p l e R s m args below meth c H locs cells slots mc ms (F0 m pc ls st0) rest (va_Qi post B A1 a) (vx_X px BX AX) free) (hS : va_S A0 H0 H locs) (hA : ∀ q, q < H.size → A1 q → A0 q) (hf : ∀ q, free q → A0 q) (hAX : ∀ q, q < H.size → AX q → A0 q)
    (kx : ∀ (E : String) (ce : Cell) (q9 : Addr) (u : SX) (t : State) (H1 : Heap) (locs1 : List Loc), t.heap = H1 → s.vm.Alike t.vm → px u → BX E u t → H.size ≤ H1.size → (∀ q : Nat, q < H.size → ¬ AX q → H1[q]? = H[q]?) → va_S A0 H0 H1 locs1 → H1[q9]? = some ce → ce.vm = .none → s.vm.findClass E = some ce.cls → vx_W p l e R s m args below meth c H1 locs1 (cells + mc) (slots + ms) Q (F0 m pc ls rest) q9)
    (kk : ∀ (r : Int32) (u : S) (t : State) (H1 : Heap) (locs1 : List Loc), t.heap = H1 → s.vm.Alike t.vm → post r u → B u t → H.size ≤ H1.size → (∀ q : Nat, q < H.size → ¬ A1 q → H1[q]? = H[q]?) → va_S A0 H0 H1 locs1 → W p l e R s m args below meth c H1 locs1 (cells + mc) (slots + ms) Q (F0 m (pc + 3) ls (.int r :: rest))) : W p l e R s m args below meth c H locs cells slots Q (F0 m pc ls st0) := by
  intro T hT X
  rcases hr T hT X with ⟨v, st₀, t, T', L, h0, X', hL, e1, e2, ⟨⟨r, u, hv, hp, hb⟩, hF⟩, st⟩ | ⟨q, st₀, t, T', L, E, ce, h0, X', hL, e1, e2, ⟨u, hp, hb, hF⟩, hce, hcv, hcl, st⟩
  · cases hv
    obtain ⟨k1, k2, k3⟩ := vx_keep h0 e1 hS hA hf hL hF
    obtain ⟨t2, a1, b1⟩ := kk r u t T'.heap (locs ++ L) e1.symm (by rw [← e2]; exact X'.warmed.alike) hp hb k1 k2 k3 T' rfl X'
    exact ⟨t2, st t2 a1, b1⟩
  · obtain ⟨k1, k2, k3⟩ := vx_keep h0 e1 hS hAX hf hL hF
    obtain ⟨t2, a1, b1⟩ := kx E ce q u t T'.heap (locs ++ L) e1.symm (by rw [← e2]; exact X'.warmed.alike) hp hb k1 k2 k3 (by rw [e1]; exact hce) hcv hcl T' rfl X'
    exact ⟨t2, st.trans a1, b1⟩
theorem vx_calll {S SX : Type} {post : Int64 → S → Prop} {px : SX → Prop} {B : S → State → Prop} {BX : String → SX → State → Prop} {AX : Nat → Prop} (hr : vx_Run p l e R s m args below meth c H locs cells slots mc ms (F0 m pc ls st0) rest (va_Ql post B A1 a) (vx_X px BX AX) free) (hS : va_S A0 H0 H locs) (hA : ∀ q, q < H.size → A1 q → A0 q) (hf : ∀ q, free q → A0 q) (hAX : ∀ q, q < H.size → AX q → A0 q)
    (kx : ∀ (E : String) (ce : Cell) (q9 : Addr) (u : SX) (t : State) (H1 : Heap) (locs1 : List Loc), t.heap = H1 → s.vm.Alike t.vm → px u → BX E u t → H.size ≤ H1.size → (∀ q : Nat, q < H.size → ¬ AX q → H1[q]? = H[q]?) → va_S A0 H0 H1 locs1 → H1[q9]? = some ce → ce.vm = .none → s.vm.findClass E = some ce.cls → vx_W p l e R s m args below meth c H1 locs1 (cells + mc) (slots + ms) Q (F0 m pc ls rest) q9)
    (kk : ∀ (r : Int64) (u : S) (t : State) (H1 : Heap) (locs1 : List Loc), t.heap = H1 → s.vm.Alike t.vm → post r u → B u t → H.size ≤ H1.size → (∀ q : Nat, q < H.size → ¬ A1 q → H1[q]? = H[q]?) → va_S A0 H0 H1 locs1 → W p l e R s m args below meth c H1 locs1 (cells + mc) (slots + ms) Q (F0 m (pc + 3) ls (.long r :: rest))) : W p l e R s m args below meth c H locs cells slots Q (F0 m pc ls st0) := by
  intro T hT X
  rcases hr T hT X with ⟨v, st₀, t, T', L, h0, X', hL, e1, e2, ⟨⟨r, u, hv, hp, hb⟩, hF⟩, st⟩ | ⟨q, st₀, t, T', L, E, ce, h0, X', hL, e1, e2, ⟨u, hp, hb, hF⟩, hce, hcv, hcl, st⟩
  · cases hv
    obtain ⟨k1, k2, k3⟩ := vx_keep h0 e1 hS hA hf hL hF
    obtain ⟨t2, a1, b1⟩ := kk r u t T'.heap (locs ++ L) e1.symm (by rw [← e2]; exact X'.warmed.alike) hp hb k1 k2 k3 T' rfl X'
    exact ⟨t2, st t2 a1, b1⟩
  · obtain ⟨k1, k2, k3⟩ := vx_keep h0 e1 hS hAX hf hL hF
    obtain ⟨t2, a1, b1⟩ := kx E ce q u t T'.heap (locs ++ L) e1.symm (by rw [← e2]; exact X'.warmed.alike) hp hb k1 k2 k3 (by rw [e1]; exact hce) hcv hcl T' rfl X'
    exact ⟨t2, st.trans a1, b1⟩
theorem vx_callf {S SX : Type} {post : UInt32 → S → Prop} {px : SX → Prop} {B : S → State → Prop} {BX : String → SX → State → Prop} {AX : Nat → Prop} (hr : vx_Run p l e R s m args below meth c H locs cells slots mc ms (F0 m pc ls st0) rest (va_Qf post B A1 a) (vx_X px BX AX) free) (hS : va_S A0 H0 H locs) (hA : ∀ q, q < H.size → A1 q → A0 q) (hf : ∀ q, free q → A0 q) (hAX : ∀ q, q < H.size → AX q → A0 q)
    (kx : ∀ (E : String) (ce : Cell) (q9 : Addr) (u : SX) (t : State) (H1 : Heap) (locs1 : List Loc), t.heap = H1 → s.vm.Alike t.vm → px u → BX E u t → H.size ≤ H1.size → (∀ q : Nat, q < H.size → ¬ AX q → H1[q]? = H[q]?) → va_S A0 H0 H1 locs1 → H1[q9]? = some ce → ce.vm = .none → s.vm.findClass E = some ce.cls → vx_W p l e R s m args below meth c H1 locs1 (cells + mc) (slots + ms) Q (F0 m pc ls rest) q9)
    (kk : ∀ (r : UInt32) (u : S) (t : State) (H1 : Heap) (locs1 : List Loc), t.heap = H1 → s.vm.Alike t.vm → post r u → B u t → H.size ≤ H1.size → (∀ q : Nat, q < H.size → ¬ A1 q → H1[q]? = H[q]?) → va_S A0 H0 H1 locs1 → W p l e R s m args below meth c H1 locs1 (cells + mc) (slots + ms) Q (F0 m (pc + 3) ls (.float r :: rest))) : W p l e R s m args below meth c H locs cells slots Q (F0 m pc ls st0) := by
  intro T hT X
  rcases hr T hT X with ⟨v, st₀, t, T', L, h0, X', hL, e1, e2, ⟨⟨r, u, hv, hp, hb⟩, hF⟩, st⟩ | ⟨q, st₀, t, T', L, E, ce, h0, X', hL, e1, e2, ⟨u, hp, hb, hF⟩, hce, hcv, hcl, st⟩
  · cases hv
    obtain ⟨k1, k2, k3⟩ := vx_keep h0 e1 hS hA hf hL hF
    obtain ⟨t2, a1, b1⟩ := kk r u t T'.heap (locs ++ L) e1.symm (by rw [← e2]; exact X'.warmed.alike) hp hb k1 k2 k3 T' rfl X'
    exact ⟨t2, st t2 a1, b1⟩
  · obtain ⟨k1, k2, k3⟩ := vx_keep h0 e1 hS hAX hf hL hF
    obtain ⟨t2, a1, b1⟩ := kx E ce q u t T'.heap (locs ++ L) e1.symm (by rw [← e2]; exact X'.warmed.alike) hp hb k1 k2 k3 (by rw [e1]; exact hce) hcv hcl T' rfl X'
    exact ⟨t2, st.trans a1, b1⟩
theorem vx_calld {S SX : Type} {post : UInt64 → S → Prop} {px : SX → Prop} {B : S → State → Prop} {BX : String → SX → State → Prop} {AX : Nat → Prop} (hr : vx_Run p l e R s m args below meth c H locs cells slots mc ms (F0 m pc ls st0) rest (va_Qd post B A1 a) (vx_X px BX AX) free) (hS : va_S A0 H0 H locs) (hA : ∀ q, q < H.size → A1 q → A0 q) (hf : ∀ q, free q → A0 q) (hAX : ∀ q, q < H.size → AX q → A0 q)
    (kx : ∀ (E : String) (ce : Cell) (q9 : Addr) (u : SX) (t : State) (H1 : Heap) (locs1 : List Loc), t.heap = H1 → s.vm.Alike t.vm → px u → BX E u t → H.size ≤ H1.size → (∀ q : Nat, q < H.size → ¬ AX q → H1[q]? = H[q]?) → va_S A0 H0 H1 locs1 → H1[q9]? = some ce → ce.vm = .none → s.vm.findClass E = some ce.cls → vx_W p l e R s m args below meth c H1 locs1 (cells + mc) (slots + ms) Q (F0 m pc ls rest) q9)
    (kk : ∀ (r : UInt64) (u : S) (t : State) (H1 : Heap) (locs1 : List Loc), t.heap = H1 → s.vm.Alike t.vm → post r u → B u t → H.size ≤ H1.size → (∀ q : Nat, q < H.size → ¬ A1 q → H1[q]? = H[q]?) → va_S A0 H0 H1 locs1 → W p l e R s m args below meth c H1 locs1 (cells + mc) (slots + ms) Q (F0 m (pc + 3) ls (.double r :: rest))) : W p l e R s m args below meth c H locs cells slots Q (F0 m pc ls st0) := by
  intro T hT X
  rcases hr T hT X with ⟨v, st₀, t, T', L, h0, X', hL, e1, e2, ⟨⟨r, u, hv, hp, hb⟩, hF⟩, st⟩ | ⟨q, st₀, t, T', L, E, ce, h0, X', hL, e1, e2, ⟨u, hp, hb, hF⟩, hce, hcv, hcl, st⟩
  · cases hv
    obtain ⟨k1, k2, k3⟩ := vx_keep h0 e1 hS hA hf hL hF
    obtain ⟨t2, a1, b1⟩ := kk r u t T'.heap (locs ++ L) e1.symm (by rw [← e2]; exact X'.warmed.alike) hp hb k1 k2 k3 T' rfl X'
    exact ⟨t2, st t2 a1, b1⟩
  · obtain ⟨k1, k2, k3⟩ := vx_keep h0 e1 hS hAX hf hL hF
    obtain ⟨t2, a1, b1⟩ := kx E ce q u t T'.heap (locs ++ L) e1.symm (by rw [← e2]; exact X'.warmed.alike) hp hb k1 k2 k3 (by rw [e1]; exact hce) hcv hcl T' rfl X'
    exact ⟨t2, st.trans a1, b1⟩
theorem vx_callv {S SX : Type} {post : S → Prop} {px : SX → Prop} {B : S → State → Prop} {BX : String → SX → State → Prop} {AX : Nat → Prop} (hr : vx_Run p l e R s m args below meth c H locs cells slots mc ms (F0 m pc ls st0) rest (va_Qv post B A1 a) (vx_X px BX AX) free) (hS : va_S A0 H0 H locs) (hA : ∀ q, q < H.size → A1 q → A0 q) (hf : ∀ q, free q → A0 q) (hAX : ∀ q, q < H.size → AX q → A0 q)
    (kx : ∀ (E : String) (ce : Cell) (q9 : Addr) (u : SX) (t : State) (H1 : Heap) (locs1 : List Loc), t.heap = H1 → s.vm.Alike t.vm → px u → BX E u t → H.size ≤ H1.size → (∀ q : Nat, q < H.size → ¬ AX q → H1[q]? = H[q]?) → va_S A0 H0 H1 locs1 → H1[q9]? = some ce → ce.vm = .none → s.vm.findClass E = some ce.cls → vx_W p l e R s m args below meth c H1 locs1 (cells + mc) (slots + ms) Q (F0 m pc ls rest) q9)
    (kk : ∀ (u : S) (t : State) (H1 : Heap) (locs1 : List Loc), t.heap = H1 → s.vm.Alike t.vm → post u → B u t → H.size ≤ H1.size → (∀ q : Nat, q < H.size → ¬ A1 q → H1[q]? = H[q]?) → va_S A0 H0 H1 locs1 → W p l e R s m args below meth c H1 locs1 (cells + mc) (slots + ms) Q (F0 m (pc + 3) ls (rest))) : W p l e R s m args below meth c H locs cells slots Q (F0 m pc ls st0) := by
  intro T hT X
  rcases hr T hT X with ⟨v, st₀, t, T', L, h0, X', hL, e1, e2, ⟨⟨u, hv, hp, hb⟩, hF⟩, st⟩ | ⟨q, st₀, t, T', L, E, ce, h0, X', hL, e1, e2, ⟨u, hp, hb, hF⟩, hce, hcv, hcl, st⟩
  · cases hv
    obtain ⟨k1, k2, k3⟩ := vx_keep h0 e1 hS hA hf hL hF
    obtain ⟨t2, a1, b1⟩ := kk u t T'.heap (locs ++ L) e1.symm (by rw [← e2]; exact X'.warmed.alike) hp hb k1 k2 k3 T' rfl X'
    exact ⟨t2, st t2 a1, b1⟩
  · obtain ⟨k1, k2, k3⟩ := vx_keep h0 e1 hS hAX hf hL hF
    obtain ⟨t2, a1, b1⟩ := kx E ce q u t T'.heap (locs ++ L) e1.symm (by rw [← e2]; exact X'.warmed.alike) hp hb k1 k2 k3 (by rw [e1]; exact hce) hcv hcl T' rfl X'
    exact ⟨t2, st.trans a1, b1⟩
/-- caught by the row x of this method's table; the rows ahead don't take it -/
theorem vx_catch {own name : String} {E : String} {ce : Cell} {q : Addr} (hown : s.vm.findClass own = some m.cls) (pre : List ExceptionTableEntry) (x : ExceptionTableEntry) (suf : List ExceptionTableEntry) (hsplit : c.exceptionTable.toList = pre ++ x :: suf)
    (hpass : ∀ z ∈ pre, covers z pc = false ∨ (z.catchType ≠ 0 ∧ ∃ nm : String, (Cond.classLink own z.catchType nm).before args s = true ∧ va_Nc E nm s)) (hx : covers x pc = true) (h0 : x.catchType ≠ 0)
    (hlink : (Cond.classLink own x.catchType name).before args s = true) (hcast : (Cond.castable E name).before args s = true) (hcell : H[q]? = some ce) (hv : ce.vm = .none) (hcl : s.vm.findClass E = some ce.cls)
    (kk : W p l e R s m args below meth c H locs cells slots Q (F0 m x.handlerPc ls [.ref q])) : vx_W p l e R s m args below meth c H locs cells slots Q (F0 m pc ls rest) q := by
  intro T hT X
  have hpl : e.platform.magicAccessors = ({} : Platform).magicAccessors := by rw [X.admits.platform]
  obtain ⟨c3, c4, hc3, hc4, hasg⟩ := Cond.castable_spec hcast
  cases Option.some.inj (hc3.symm.trans hcl)
  obtain ⟨c5, hc5, hcl5⟩ := Cond.classLink_spec hown hlink e.platform hpl
  cases Option.some.inj (hc4.symm.trans hc5)
  obtain ⟨vm', X', st⟩ := X.thenCaughtThrough q (g := F0 m pc ls rest) rfl (Steps.refl _) (by rw [hT]; exact hcell) (by rw [hv]; rfl) (by obtain ⟨k9, h9, -⟩ := Vm.findClass_spec hcl; exact ⟨k9, h9⟩) pre x suf hsplit
    (fun z hz => by
      rcases hpass z hz with h | ⟨hz0, nm, hl1, hn1⟩
      · exact Or.inl h
      · obtain ⟨c6, hc6, hcl6⟩ := Cond.classLink_spec hown hl1 e.platform hpl
        obtain ⟨a8, b8, h1, h2, h3⟩ := hn1
        cases Option.some.inj (h1.symm.trans hcl)
        cases Option.some.inj (h2.symm.trans hc6)
        exact Or.inr ⟨hz0, _, hcl6, h3⟩) hx (Or.inr ⟨h0, c4, hcl5, hasg⟩)
  obtain ⟨t, a1, b1⟩ := kk (T.setVm vm') hT X'
  exact ⟨t, st.trans a1, b1⟩
end Rows
section Ends
variable {p : Program} {l : Launch} {e : Env} {R : Room} {s : State} {m : MethodId} {args : Array Value} {below : List Frame} {meth : Method} {c : Code} {H : Heap} {locs : List Loc} {cells slots : Nat} {Q : State → Prop}
variable {mc ms : Nat} {free : Addr → Prop} {A0 A1 : Nat → Prop} {H0 : Heap} {a : Array Value} {ls : Array Slot} {st0 rest : List Value}
variable {Qc : Array Value → State → Outcome → State → Prop} {XC : String → State → State → Prop}
/-- what a body that may throw owes at its end -/
def vx_MQ (below : List Frame) (Qc : Array Value → State → Outcome → State → Prop) (XC : String → State → State → Prop) (a : Array Value) (s : State) (mc ms : Nat) (free : Addr → Prop) : State → Prop := fun t =>
  ∃ o, t.status = .running ∧ Ended t below o ∧ vx_Q Qc XC mc ms free a s o t
theorem vx_ret {g : JFrame} {mc ms : Nat} (k : W p l e R s m args below meth c H locs cells slots (MQ below Qc args s mc ms free) g) : W p l e R s m args below meth c H locs cells slots (vx_MQ below Qc XC args s mc ms free) g := by
  intro T hT X
  obtain ⟨t, a1, o, b1, b2, b3, b4⟩ := k T hT X
  exact ⟨t, a1, o, b1, b2, Or.inl ⟨b3, b4⟩⟩
/-- not caught here: it goes on to the caller -/
theorem vx_widen {g : JFrame} {q : Addr} {k n : Nat} (h1 : cells ≤ k) (h2 : slots ≤ n) (kk : vx_W p l e R s m args below meth c H locs k n Q g q) : vx_W p l e R s m args below meth c H locs cells slots Q g q := fun T hT X => kk T hT (stand_widen X h1 h2)
theorem vx_out {pc : Nat} {E : String} {ce : Cell} {q : Addr} {mc ms : Nat} (hout : ∀ x ∈ c.exceptionTable.toList, covers x pc = false) (hlocks : meth.locks = false) (hcell : H[q]? = some ce) (hv : ce.vm = .none) (hcl : s.vm.findClass E = some ce.cls)
    (hx : ∀ t : State, t.heap = H → s.vm.Alike t.vm → XC E s t) (hf : ∀ z ∈ locs, free z.base) (hc : cells ≤ mc) (hs : slots ≤ ms) :
    vx_W p l e R s m args below meth c H locs cells slots (vx_MQ below Qc XC args s mc ms free) (F0 m pc ls rest) q := by
  intro T hT X
  obtain ⟨st1, hrun, hend, hW, hsm⟩ := X.leaveThrown q (g := F0 m pc ls rest) rfl rfl rfl hout hlocks
  have hcell9 : (T.setFrames (.throwing q :: below)).heap[q]? = some ce := by
    show T.heap[q]? = some ce
    rw [hT]; exact hcell
  exact ⟨_, st1, .threw q, hrun, hend, Or.inr ⟨q, rfl, E, ce, locs, hx _ hT hW.alike, hcell9, hv, hcl, hW, hsm.mono hc hs, hf⟩⟩
theorem vx_frame {U : State} {k n : Nat} (h : s.sameButNew ({ U with vm := s.vm } : State) locs k n) : s.heap.size ≤ U.heap.size ∧ ∀ q : Nat, q < s.heap.size → (∀ z ∈ locs, z.base ≠ q) → U.heap[q]? = s.heap[q]? := by
  obtain ⟨-, h2, -, -, -, h6⟩ := h
  refine ⟨h2, fun q hq hz => ?_⟩
  obtain ⟨c9, e1, e2, e3, e4⟩ := h6 q _ (Array.getElem?_eq_getElem hq)
  have hs : c9.slots = (s.heap[q]).slots := Array.ext_getElem? fun i => e4 i fun hm => hz _ hm rfl
  have h9 : c9 = s.heap[q] := by
    rw [hs] at e2
    exact e2
  have e5 : U.heap[q]? = some c9 := e1
  rw [e5, h9, Array.getElem?_eq_getElem hq]
/-- the words of a throw but the four that speak of the heap -/
def vx_no (w : Cond) : Bool := decide (w ≠ .isRef (.static Bundle.tN "UNASSIGNED_STACK" Bundle.steD)) && decide (w ≠ .isRef (.static Bundle.tN "SUPPRESSED_SENTINEL" Bundle.listD)) && decide (w ≠ .laysStatic Bundle.tN "UNASSIGNED_STACK" Bundle.steD) && decide (w ≠ .laysStatic Bundle.tN "SUPPRESSED_SENTINEL" Bundle.listD)
def vx_at0 (own : String) (ic : Nat) (X : String) (names : List String) : List Cond := (Bundle.ownAtoms0 own ic X names).filter vx_no
def vx_atS (own : String) (ic : Nat) (X : String) (names : List String) : List Cond := (Bundle.ownAtoms own ic X names).filter vx_no
/-- a word that the tables alone decide, or a good one -/
def vx_ot (w : Cond) : Bool := w.onTables || goodWord w
theorem vx_ot_at {args a' : Array Value} {s U : State} {w : Cond} (hW : s.WarmedH U.vm) (hvm : s.vm = U.vm) (hg : vx_ot w = true) (h : w.before args s = true) : w.before a' U = true := by
  simp only [vx_ot, Bool.or_eq_true] at hg
  rcases hg with hg | hg
  · exact va_tabs hg hvm h
  · exact word_at hW (good_of_word hg) h
/-- a list's words: the good ones out of the method's own list, the others by premises of their own -/
theorem vx_hat {args : Array Value} {s : State} {L B : List Cond} (h1 : ∀ w ∈ L.filter goodWord, w.before args s = true) (h2 : ∀ w ∈ L.filter (fun w => !goodWord w), w ∈ B) (h3 : ∀ w ∈ B, w.before args s = true) : ∀ w ∈ L, w.before args s = true := by
  intro w hw
  by_cases g : goodWord w = true
  · exact h1 w (List.mem_filter.mpr ⟨hw, g⟩)
  · refine h3 w (h2 w (List.mem_filter.mpr ⟨hw, ?_⟩))
    show (!goodWord w) = true
    cases hgw : goodWord w
    · rfl
    · exact absurd hgw g
theorem vx_c {args : Array Value} {s : State} {w : Cond} {B : List Cond} (h : w.before args s = true) (t : ∀ w ∈ B, w.before args s = true) : ∀ w' ∈ w :: B, w'.before args s = true := fun w' h' => (List.mem_cons.mp h').elim (fun e => by rw [e]; exact h) (t w')
theorem vx_n {args : Array Value} {s : State} : ∀ w ∈ ([] : List Cond), w.before args s = true := fun _ h => nomatch h
theorem vx_own {args : Array Value} {s : State} {L : List Cond} (h1 : ∀ w ∈ L.filter vx_no, w.before args s = true)
    (hU : (Cond.isRef (.static Bundle.tN "UNASSIGNED_STACK" Bundle.steD)).before args s = true) (hN : (Cond.isRef (.static Bundle.tN "SUPPRESSED_SENTINEL" Bundle.listD)).before args s = true)
    (lU : (Cond.laysStatic Bundle.tN "UNASSIGNED_STACK" Bundle.steD).before args s = true) (lN : (Cond.laysStatic Bundle.tN "SUPPRESSED_SENTINEL" Bundle.listD).before args s = true) : ∀ w ∈ L, w.before args s = true := by
  intro w hw
  by_cases e1 : w = .isRef (.static Bundle.tN "UNASSIGNED_STACK" Bundle.steD)
  · rw [e1]; exact hU
  · by_cases e2 : w = .isRef (.static Bundle.tN "SUPPRESSED_SENTINEL" Bundle.listD)
    · rw [e2]; exact hN
    · by_cases e3 : w = .laysStatic Bundle.tN "UNASSIGNED_STACK" Bundle.steD
      · rw [e3]; exact lU
      · by_cases e4 : w = .laysStatic Bundle.tN "SUPPRESSED_SENTINEL" Bundle.listD
        · rw [e4]; exact lN
        · exact h1 w (List.mem_filter.mpr ⟨hw, by unfold vx_no; rw [decide_eq_true e1, decide_eq_true e2, decide_eq_true e3, decide_eq_true e4]; rfl⟩)
/-- where a static field lies, its class's statics cell in H -/
def vx_L (C n d : String) (A : Nat → Prop) (U : State) (H : Heap) : Prop := ∃ (c : ClassId) (k : Class) (i : Nat) (f : Field) (a : Nat) (cell : Cell), U.vm.findClass C = some c ∧ U.fieldFound? C n d = some (c, k, i, f) ∧ f.isStatic = true ∧ k.statics = some a ∧ H[a]? = some cell ∧ cell.vm.isStatics = true ∧ cell.cls = c ∧ f.slot < cell.slots.size ∧ k.staticTypes[f.slot]? = some f.type ∧ ¬ A a
theorem vx_L.moved {C n d : String} {A : Nat → Prop} {u U : State} {H : Heap} (hvm : u.vm.Alike U.vm) (h : vx_L C n d A u H) : vx_L C n d A U H := by
  obtain ⟨c, k, i, f, a, cell, h1, h2, h3, h4, h5, h6, h7, h8, h9, h10⟩ := h
  obtain ⟨k', hi', he⟩ := State.fieldFound?_setVm hvm h2
  exact ⟨c, k', i, f, a, cell, by rw [hvm.findClass]; exact h1, hi', h3, by rw [he]; exact h4, h5, h6, h7, h8, by rw [he]; exact h9, h10⟩
theorem vx_L.kept {C n d : String} {A : Nat → Prop} {U : State} {H H1 : Heap} (h : vx_L C n d A U H) (hq : ∀ a : Nat, a < H.size → ¬ A a → H1[a]? = H[a]?) : vx_L C n d A U H1 := by
  obtain ⟨c, k, i, f, a, cell, h1, h2, h3, h4, h5, h6, h7, h8, h9, h10⟩ := h
  exact ⟨c, k, i, f, a, cell, h1, h2, h3, h4, by rw [hq a (Array.getElem?_eq_some_iff.mp h5).1 h10]; exact h5, h6, h7, h8, h9, h10⟩
theorem vx_L.narrow {C n d : String} {A B : Nat → Prop} {U : State} {H : Heap} (h : vx_L C n d A U H) (hAB : ∀ q, B q → A q) : vx_L C n d B U H := by
  obtain ⟨c, k, i, f, a, cell, h1, h2, h3, h4, h5, h6, h7, h8, h9, h10⟩ := h
  exact ⟨c, k, i, f, a, cell, h1, h2, h3, h4, h5, h6, h7, h8, h9, fun z => h10 (hAB _ z)⟩
theorem vx_L.word {C n d : String} {A : Nat → Prop} {s : State} {args : Array Value} (h : vx_L C n d A s s.heap) : (Cond.laysStatic C n d).before args s = true := by
  obtain ⟨c, k, i, f, a, cell, h1, h2, h3, h4, h5, h6, h7, h8, h9, -⟩ := h
  show (Cond.laysStatic C n d).holds args s none s [] = true
  exact Cond.laysStatic_of h1 h2 h3 h4 h5 h6 h7 h8 h9
/-- .. and what it holds: null or some reference -/
def vx_Zq (C n d : String) (A : Nat → Prop) (U : State) (H : Heap) : Prop := va_Zq C n d A U H ∧ vx_L C n d A U H
theorem vx_Zq.moved {C n d : String} {A : Nat → Prop} {u U : State} {H : Heap} (hvm : u.vm.Alike U.vm) (h : vx_Zq C n d A u H) : vx_Zq C n d A U H := ⟨va_Zq.moved hvm h.1, vx_L.moved hvm h.2⟩
theorem vx_Zq.kept {C n d : String} {A : Nat → Prop} {U : State} {H H1 : Heap} (h : vx_Zq C n d A U H) (hq : ∀ a : Nat, a < H.size → ¬ A a → H1[a]? = H[a]?) : vx_Zq C n d A U H1 := ⟨va_Zq.kept h.1 hq, vx_L.kept h.2 hq⟩
theorem vx_Zq.narrow {C n d : String} {A B : Nat → Prop} {U : State} {H : Heap} (h : vx_Zq C n d A U H) (hAB : ∀ q, B q → A q) : vx_Zq C n d B U H := ⟨va_Zq.narrow h.1 hAB, vx_L.narrow h.2 hAB⟩
theorem vx_Zqof {args : Array Value} {s : State} {C n d : String} {A : Nat → Prop} (hl : (Cond.laysStatic C n d).before args s = true) (hini : (Cond.initialized C).before args s = true) (h : (Cond.isRef (.static C n d)).before args s = true) (hA : ∀ a : Nat, a < s.heap.size → ¬ A a) : vx_Zq C n d A s s.heap := by
  refine ⟨va_Zqof hl hini h hA, ?_⟩
  obtain ⟨c, k, i, f, a, cell, h1, h2, h3, h4, h5, h6, h7, h8, h9⟩ := Cond.laysStatic_spec hl
  exact ⟨c, k, i, f, a, cell, h1, h2, h3, h4, h5, h6, h7, h8, h9, hA a (Array.getElem?_eq_some_iff.mp h5).1⟩
theorem vx_isRef {C n d : String} {v : Value} {A : Nat → Prop} {s : State} {args : Array Value} (h : va_Z C n d v A s s.heap) (hv : v.isRef = true) : (Cond.isRef (.static C n d)).before args s = true := by
  obtain ⟨cf, kf, fi, f, a, cell, h1, h2, h3, h4, h5, h6, h7, -⟩ := h
  have he : (Term.static C n d).eval args s none [] s = some v := by
    simp [Term.eval, State.fieldNamed?, h1, h2, h4, h5, h6, h7]
  simp only [Cond.before, Cond.holds, Cond.value, he]
  cases v <;> simp_all [Value.isRef]
theorem vx_isRefq {C n d : String} {A : Nat → Prop} {s : State} {args : Array Value} (h : va_Zq C n d A s s.heap) : (Cond.isRef (.static C n d)).before args s = true := by
  rcases h with h | ⟨t, h⟩
  · exact vx_isRef h rfl
  · exact vx_isRef h rfl
/-- the same frame, seen from here: as if the method were called anew in this heap -/
theorem vx_rebase {T : State} (X : Stand p l e R s m args below meth c T locs cells slots) {R' : Room} (hf : R'.frames ≤ R.frames) (hl : R'.locals ≤ R.locals) (hc : cells + R'.cells ≤ R.cells) (hs : slots + R'.slots ≤ R.slots) :
    Stand p l e R' ((T.setVm s.vm).setFrames (.invoking m args :: below)) m args below meth c T [] 0 0 := by
  have htop : (T.setVm s.vm).topJava?.isSome := X.here.top
  have hF : ((T.setVm s.vm).setFrames (.invoking m args :: below)).frames = .invoking m args :: below := State.frames_setFrames _ (State.cur_lt_of_top htop)
  obtain ⟨g₀, hg0⟩ := Option.isSome_iff_exists.mp htop
  obtain ⟨r, hr⟩ := State.topJava?_eq_some.mp hg0
  have hl9 : e.platform.stackLimits (T.setVm s.vm).me = e.platform.stackLimits s.me := X.limits
  have hb9 : (T.setVm s.vm).me.stackBytes = s.me.stackBytes := X.bytes
  refine ⟨X.admits, X.cas, X.clock, hF, ?_, X.hears, X.method, X.code, X.here, X.tail, X.warmed, ?_, ?_, ?_⟩
  · have h := X.room
    have hU : ((T.setVm s.vm).setFrames (.invoking m args :: below)).localsInUse = s.localsInUse := by
      rw [State.localsInUse_invoking hF (meth := meth) (c := c) X.method X.code, State.localsInUse_invoking X.frames X.method X.code]
    simp only [State.hasRoom, Bool.and_eq_true, decide_eq_true_eq] at h ⊢
    obtain ⟨⟨⟨⟨h1, h2, h3, h4, h5, h6⟩, h7⟩, h8⟩, h9⟩ := h
    rw [X.frames, List.length_cons] at h2 h3
    have q1 := X.heapSize
    have q2 := X.used
    simp only [hF, hU, List.length_cons, State.stackLimits_setFrames, State.stackBytes_setFrames, hl9, hb9]
    refine ⟨⟨⟨⟨by omega, by omega, by omega, by omega, by omega, h6⟩, ?_⟩, ?_⟩, X.book⟩
    · show T.heap.size + R'.cells ≤ e.platform.maxCells
      omega
    · show T.slotsUsed + R'.slots ≤ e.platform.maxSlots
      omega
  · rw [State.stackLimits_setFrames]; rfl
  · rw [State.stackBytes_setFrames]; rfl
  · refine ⟨?_, Nat.le_refl _, Nat.le_refl _, ?_, ?_, fun a c9 h9 => ⟨c9, h9, rfl, rfl, fun _ _ => rfl⟩⟩
    · obtain ⟨t, ht, -⟩ := State.frames_cons hr
      show T.setVm s.vm = { ((T.setVm s.vm).setFrames (.invoking m args :: below)).setFrames (T.setVm s.vm).frames with heap := T.heap, slotsUsed := T.slotsUsed }
      rw [State.setFrames_setFrames, State.setFrames_self ht]
      rfl
    · show T.slotsUsed = T.slotsUsed + ((T.heap.toList.drop T.heap.size).map (·.slots.size)).sum
      rw [List.drop_eq_nil_of_le (Nat.le_of_eq Array.length_toList)]
      rfl
    · show ((T.heap.toList.drop T.heap.size).map (·.slots.size)).sum ≤ 0
      rw [List.drop_eq_nil_of_le (Nat.le_of_eq Array.length_toList)]
      exact Nat.le_refl _
/-- 'throw new E()': new; dup; invokespecial; athrow -/
theorem vx_throw0 {cc : ByteArray} {pc : Nat} (hexec : p.tables.exec = Jvm.exec) (hb : c.code = cc) (hl : l.stackTraces = false) {own cls : String} {names : List String} {ik ic mc ms : Nat} {A : Nat → Prop}
    (hown : s.vm.findClass own = some m.cls) (hcls : Bundle.fit cls = true) (hnames : ∀ n ∈ names, Bundle.fit n = true)
    (hk : (Cond.classLink own ik cls).before args s = true) (hini : (Cond.initialized cls).before args s = true) (hat : ∀ w ∈ vx_at0 own ic cls names, w.before args s = true)
    (hgood : ∀ w ∈ Cond.classLink own ik cls :: Cond.initialized cls :: vx_at0 own ic cls names, vx_ot w = true)
    (hU : vx_Zq Bundle.tN "UNASSIGNED_STACK" Bundle.steD A s s.heap) (hN : vx_Zq Bundle.tN "SUPPRESSED_SENTINEL" Bundle.listD A s s.heap) (hS : va_S A s.heap H locs) (hsize : ls.size = c.maxLocals)
    (d0 : decode cc pc = .ok (.new ik, 3)) (d3 : decode cc (pc + 3) = .ok (.dup, 1)) (d4 : decode cc (pc + 4) = .ok (.invokespecial ic, 3)) (d7 : decode cc (pc + 7) = .ok (.athrow, 1))
    (hout : ∀ x ∈ c.exceptionTable.toList, covers x (pc + 7) = false)
    (hRframes : names.length + 3 < R.frames) (hRlocals : (rest.map fun v => v.category).sum + (13 * (names.length + 1) + 42) ≤ R.locals) (hRcells : cells + 1 ≤ R.cells) (hRslots : slots + 6 ≤ R.slots) (hlocks : meth.locks = false)
    (hx : ∀ t : State, s.vm.Alike t.vm → H.size ≤ t.heap.size → (∀ q : Nat, q < H.size → t.heap[q]? = H[q]?) → XC cls s t)
    (hf : ∀ z ∈ locs, free z.base) (hc : cells + 1 ≤ mc) (hs : slots + 6 ≤ ms) :
    W p l e R s m args below meth c H locs cells slots (vx_MQ below Qc XC args s mc ms free) (F0 m pc ls rest) := by
  intro T hT X
  have htr : e.platform.stackTraces = false := (show e.platform.stackTraces = l.stackTraces by rw [X.admits.platform]).trans hl
  have Y := vx_rebase X (R' := { frames := R.frames, locals := R.locals, cells := 1, slots := 6 }) (Nat.le_refl _) (Nat.le_refl _) hRcells hRslots
  obtain ⟨s', hA⟩ : ∃ z, z = (T.setVm s.vm).setFrames (.invoking m args :: below) := ⟨_, rfl⟩
  rw [← hA] at Y
  have hvm : s'.vm = s.vm := by rw [hA]; rfl
  have hhp : s'.heap = H := by rw [hA]; exact hT
  have hW0 : s.WarmedH s'.vm := by rw [hvm]; exact State.WarmedH.refl s
  have hat' : ∀ w ∈ vx_at0 own ic cls names, w.before args s' = true := fun w hw => vx_ot_at hW0 hvm.symm (hgood w (List.mem_cons_of_mem _ (List.mem_cons_of_mem _ hw))) (hat w hw)
  have hk' : (Cond.classLink own ik cls).before args s' = true := vx_ot_at hW0 hvm.symm (hgood _ List.mem_cons_self) hk
  have hini' : (Cond.initialized cls).before args s' = true := vx_ot_at hW0 hvm.symm (hgood _ (List.mem_cons_of_mem _ List.mem_cons_self)) hini
  have hU' : vx_Zq Bundle.tN "UNASSIGNED_STACK" Bundle.steD A s' s'.heap := by rw [hhp]; exact vx_Zq.moved hW0.alike (hU.kept hS.2.1)
  have hN' : vx_Zq Bundle.tN "SUPPRESSED_SENTINEL" Bundle.listD A s' s'.heap := by rw [hhp]; exact vx_Zq.moved hW0.alike (hN.kept hS.2.1)
  have h : ∀ w ∈ Bundle.ownAtoms0 own ic cls names, w.before args s' = true := vx_own hat' (vx_isRefq hU'.1) (vx_isRefq hN'.1) hU'.2.word hN'.2.word
  have hown' : s'.vm.findClass own = some m.cls := by rw [hvm]; exact hown
  have hins : (Cond.instantiable cls 6).before args s' = true := h _ (by simp [Bundle.ownAtoms0])
  obtain ⟨vm₁, cX, kX, hfX, hkX, -, -, X₁, st1⟩ := Y.newCold hexec (own := own) (C := cls) (index := ik) (n := 6) hown' hk' hins hini'
    (g := F0 m pc ls rest) rfl (by rw [hb]; exact d0) (Nat.le_refl _) (Nat.le_refl _)
  generalize hT1 : (T.setVm vm₁).pushCell { cls := cX, slots := kX.instanceTypes.map defaultValue, vm := .none } = T1 at X₁ st1
  have hcat : (Value.ref T.heap.size).category = 1 := rfl
  have hcellA : T1.heap[T.heap.size]? = some (freshCell cX kX) := by rw [← hT1]; exact State.heap_pushCell_size _ _
  have d3' : decode c.code (pc + 3) = .ok (.dup, 1) := by rw [hb]; exact d3
  obtain ⟨U, hsteps, hrun, hend, hW, hsame, ce, hce, hO⟩ := X₁.ctorThrow0 hexec htr (own := own) (cls := cls) (names := names) (ic := ic) hown' hcls hnames h (fun x hx => nomatch hx) hfX hkX hcellA (by rw [hhp, hT]; exact Nat.le_refl _)
    (g := { method := m, pc := pc + 4, locals := ls, stack := .ref T.heap.size :: .ref T.heap.size :: rest, locked := none }) rfl hsize rfl rfl (rest := rest) rfl
    (by rw [hb]; exact d4) (by rw [hb]; exact d7) hout hRframes (by simp only [List.map_cons, List.sum_cons, hcat]; omega) hlocks
  obtain ⟨f1, f2⟩ := vx_frame hsame
  rw [hhp] at f1 f2
  have hWs : s.WarmedH U.vm := State.WarmedH.trans hW0 hW
  have hcl : s.vm.findClass cls = some ce.cls := by
    have h9 := hO.cls
    rw [hvm] at h9
    exact h9
  have hall : s.sameButNew ({ U with vm := s.vm } : State) locs mc ms := by
    subst hA
    obtain ⟨e1, e2⟩ := hsame
    rw [State.setFrames_setFrames] at e1
    have h2 : (T.setVm s.vm).sameButNew ({ U with vm := s.vm } : State) [] (0 + 1) (0 + 6) := ⟨e1, e2⟩
    have h3 := X.same.trans h2
    rw [List.append_nil] at h3
    exact h3.mono hc hs
  refine ⟨U, ?_, .threw T.heap.size, hrun, hend, Or.inr ⟨T.heap.size, rfl, cls, ce, locs, hx U hWs.alike f1 (fun q hq => f2 q hq (fun z hz => nomatch hz)), hce, hO.vm, hcl, hWs, hall, hf⟩⟩
  refine st1 _ ?_
  show Steps p.tables e below (T1.setTop { method := m, pc := pc + 3, locals := ls, stack := .ref T.heap.size :: rest, locked := none }) _
  jvm_step X₁.here [X₁.here.top, hexec, d3', Value.category]
  exact hsteps
/-- 'throw new E("text")': new; dup; ldc; invokespecial; athrow -/
theorem vx_throwS {cc : ByteArray} {pc : Nat} (hexec : p.tables.exec = Jvm.exec) (hb : c.code = cc) (hl : l.stackTraces = false) {own cls text : String} {names : List String} {ik is ic mc ms sa : Nat} {A : Nat → Prop}
    (hown : s.vm.findClass own = some m.cls) (hcls : Bundle.fit cls = true) (hnames : ∀ n ∈ names, Bundle.fit n = true)
    (hk : (Cond.classLink own ik cls).before args s = true) (hini : (Cond.initialized cls).before args s = true) (hstr : vk_R own is text sa s) (hat : ∀ w ∈ vx_atS own ic cls names, w.before args s = true)
    (hgood : ∀ w ∈ Cond.classLink own ik cls :: Cond.initialized cls :: vx_atS own ic cls names, vx_ot w = true)
    (hU : vx_Zq Bundle.tN "UNASSIGNED_STACK" Bundle.steD A s s.heap) (hN : vx_Zq Bundle.tN "SUPPRESSED_SENTINEL" Bundle.listD A s s.heap) (hS : va_S A s.heap H locs) (hsize : ls.size = c.maxLocals)
    (d0 : decode cc pc = .ok (.new ik, 3)) (d3 : decode cc (pc + 3) = .ok (.dup, 1)) (d4 : decode cc (pc + 4) = .ok (.ldc is, 2)) (d6 : decode cc (pc + 6) = .ok (.invokespecial ic, 3)) (d9 : decode cc (pc + 9) = .ok (.athrow, 1))
    (hout : ∀ x ∈ c.exceptionTable.toList, covers x (pc + 9) = false)
    (hRframes : names.length + 3 < R.frames) (hRlocals : (rest.map fun v => v.category).sum + (13 * (names.length + 1) + 43) ≤ R.locals) (hRcells : cells + 1 ≤ R.cells) (hRslots : slots + 6 ≤ R.slots) (hlocks : meth.locks = false)
    (hx : ∀ t : State, s.vm.Alike t.vm → H.size ≤ t.heap.size → (∀ q : Nat, q < H.size → t.heap[q]? = H[q]?) → XC cls s t)
    (hf : ∀ z ∈ locs, free z.base) (hc : cells + 1 ≤ mc) (hs : slots + 6 ≤ ms) :
    W p l e R s m args below meth c H locs cells slots (vx_MQ below Qc XC args s mc ms free) (F0 m pc ls rest) := by
  intro T hT X
  have htr : e.platform.stackTraces = false := (show e.platform.stackTraces = l.stackTraces by rw [X.admits.platform]).trans hl
  have Y := vx_rebase X (R' := { frames := R.frames, locals := R.locals, cells := 1, slots := 6 }) (Nat.le_refl _) (Nat.le_refl _) hRcells hRslots
  obtain ⟨s', hA⟩ : ∃ z, z = (T.setVm s.vm).setFrames (.invoking m args :: below) := ⟨_, rfl⟩
  rw [← hA] at Y
  have hvm : s'.vm = s.vm := by rw [hA]; rfl
  have hhp : s'.heap = H := by rw [hA]; exact hT
  have hW0 : s.WarmedH s'.vm := by rw [hvm]; exact State.WarmedH.refl s
  have hat' : ∀ w ∈ vx_atS own ic cls names, w.before args s' = true := fun w hw => vx_ot_at hW0 hvm.symm (hgood w (List.mem_cons_of_mem _ (List.mem_cons_of_mem _ hw))) (hat w hw)
  have hk' : (Cond.classLink own ik cls).before args s' = true := vx_ot_at hW0 hvm.symm (hgood _ List.mem_cons_self) hk
  have hini' : (Cond.initialized cls).before args s' = true := vx_ot_at hW0 hvm.symm (hgood _ (List.mem_cons_of_mem _ List.mem_cons_self)) hini
  have hU' : vx_Zq Bundle.tN "UNASSIGNED_STACK" Bundle.steD A s' s'.heap := by rw [hhp]; exact vx_Zq.moved hW0.alike (hU.kept hS.2.1)
  have hN' : vx_Zq Bundle.tN "SUPPRESSED_SENTINEL" Bundle.listD A s' s'.heap := by rw [hhp]; exact vx_Zq.moved hW0.alike (hN.kept hS.2.1)
  have h : ∀ w ∈ Bundle.ownAtoms own ic cls names, w.before args s' = true := vx_own hat' (vx_isRefq hU'.1) (vx_isRefq hN'.1) hU'.2.word hN'.2.word
  have hown' : s'.vm.findClass own = some m.cls := by rw [hvm]; exact hown
  have hins : (Cond.instantiable cls 6).before args s' = true := h _ (by simp [Bundle.ownAtoms])
  obtain ⟨vm₁, cX, kX, hfX, hkX, -, -, X₁, st1⟩ := Y.newCold hexec (own := own) (C := cls) (index := ik) (n := 6) hown' hk' hins hini'
    (g := F0 m pc ls rest) rfl (by rw [hb]; exact d0) (Nat.le_refl _) (Nat.le_refl _)
  generalize hT1 : (T.setVm vm₁).pushCell { cls := cX, slots := kX.instanceTypes.map defaultValue, vm := .none } = T1 at X₁ st1
  have hcat : (Value.ref T.heap.size).category = 1 := rfl
  have hcellA : T1.heap[T.heap.size]? = some (freshCell cX kX) := by rw [← hT1]; exact State.heap_pushCell_size _ _
  have d3' : decode c.code (pc + 3) = .ok (.dup, 1) := by rw [hb]; exact d3
  have d4' : decode c.code (pc + 4) = .ok (.ldc is, 2) := by rw [hb]; exact d4
  have hstr' : vk_R own is text sa s' := vk_R.warm hW0 hstr
  obtain ⟨U, hsteps, hrun, hend, hW, hsame, ce, hce, hO⟩ := X₁.ctorThrowS hexec htr (own := own) (cls := cls) (names := names) (ic := ic) hown' hcls hnames h (fun x hx => nomatch hx) hfX hkX hcellA (by rw [hhp, hT]; exact Nat.le_refl _) (msg := .ref sa) rfl
    (g := { method := m, pc := pc + 6, locals := ls, stack := .ref sa :: .ref T.heap.size :: .ref T.heap.size :: rest, locked := none }) rfl hsize rfl rfl (rest := rest) rfl
    (by rw [hb]; exact d6) (by rw [hb]; exact d9) hout hRframes (by simp only [List.map_cons, List.sum_cons, hcat]; omega) hlocks
  obtain ⟨f1, f2⟩ := vx_frame hsame
  rw [hhp] at f1 f2
  have hWs : s.WarmedH U.vm := State.WarmedH.trans hW0 hW
  have hcl : s.vm.findClass cls = some ce.cls := by
    have h9 := hO.cls
    rw [hvm] at h9
    exact h9
  have hall : s.sameButNew ({ U with vm := s.vm } : State) locs mc ms := by
    subst hA
    obtain ⟨e1, e2⟩ := hsame
    rw [State.setFrames_setFrames] at e1
    have h2 : (T.setVm s.vm).sameButNew ({ U with vm := s.vm } : State) [] (0 + 1) (0 + 6) := ⟨e1, e2⟩
    have h3 := X.same.trans h2
    rw [List.append_nil] at h3
    exact h3.mono hc hs
  refine ⟨U, ?_, .threw T.heap.size, hrun, hend, Or.inr ⟨T.heap.size, rfl, cls, ce, locs, hx U hWs.alike f1 (fun q hq => f2 q hq (fun z hz => nomatch hz)), hce, hO.vm, hcl, hWs, hall, hf⟩⟩
  refine st1 _ ?_
  show Steps p.tables e below (T1.setTop { method := m, pc := pc + 3, locals := ls, stack := .ref T.heap.size :: rest, locked := none }) _
  jvm_step X₁.here [X₁.here.top, hexec, d3', Value.category]
  exact X₁.ldcString hexec (own := own) (text := text) (index := is) (a := sa) hown' hstr'.1 hstr'.2
    (g := { method := m, pc := pc + 4, locals := ls, stack := .ref T.heap.size :: .ref T.heap.size :: rest, locked := none }) rfl d4' _ hsteps
/-- 'throw new E("text")', the text by a wide index -/
theorem vx_throwSW {cc : ByteArray} {pc : Nat} (hexec : p.tables.exec = Jvm.exec) (hb : c.code = cc) (hl : l.stackTraces = false) {own cls text : String} {names : List String} {ik is ic mc ms sa : Nat} {A : Nat → Prop}
    (hown : s.vm.findClass own = some m.cls) (hcls : Bundle.fit cls = true) (hnames : ∀ n ∈ names, Bundle.fit n = true)
    (hk : (Cond.classLink own ik cls).before args s = true) (hini : (Cond.initialized cls).before args s = true) (hstr : vk_R own is text sa s) (hat : ∀ w ∈ vx_atS own ic cls names, w.before args s = true)
    (hgood : ∀ w ∈ Cond.classLink own ik cls :: Cond.initialized cls :: vx_atS own ic cls names, vx_ot w = true)
    (hU : vx_Zq Bundle.tN "UNASSIGNED_STACK" Bundle.steD A s s.heap) (hN : vx_Zq Bundle.tN "SUPPRESSED_SENTINEL" Bundle.listD A s s.heap) (hS : va_S A s.heap H locs) (hsize : ls.size = c.maxLocals)
    (d0 : decode cc pc = .ok (.new ik, 3)) (d3 : decode cc (pc + 3) = .ok (.dup, 1)) (d4 : decode cc (pc + 4) = .ok (.ldc_w is, 3)) (d7 : decode cc (pc + 7) = .ok (.invokespecial ic, 3)) (d10 : decode cc (pc + 10) = .ok (.athrow, 1))
    (hout : ∀ x ∈ c.exceptionTable.toList, covers x (pc + 10) = false)
    (hRframes : names.length + 3 < R.frames) (hRlocals : (rest.map fun v => v.category).sum + (13 * (names.length + 1) + 43) ≤ R.locals) (hRcells : cells + 1 ≤ R.cells) (hRslots : slots + 6 ≤ R.slots) (hlocks : meth.locks = false)
    (hx : ∀ t : State, s.vm.Alike t.vm → H.size ≤ t.heap.size → (∀ q : Nat, q < H.size → t.heap[q]? = H[q]?) → XC cls s t)
    (hf : ∀ z ∈ locs, free z.base) (hc : cells + 1 ≤ mc) (hs : slots + 6 ≤ ms) :
    W p l e R s m args below meth c H locs cells slots (vx_MQ below Qc XC args s mc ms free) (F0 m pc ls rest) := by
  intro T hT X
  have htr : e.platform.stackTraces = false := (show e.platform.stackTraces = l.stackTraces by rw [X.admits.platform]).trans hl
  have Y := vx_rebase X (R' := { frames := R.frames, locals := R.locals, cells := 1, slots := 6 }) (Nat.le_refl _) (Nat.le_refl _) hRcells hRslots
  obtain ⟨s', hA⟩ : ∃ z, z = (T.setVm s.vm).setFrames (.invoking m args :: below) := ⟨_, rfl⟩
  rw [← hA] at Y
  have hvm : s'.vm = s.vm := by rw [hA]; rfl
  have hhp : s'.heap = H := by rw [hA]; exact hT
  have hW0 : s.WarmedH s'.vm := by rw [hvm]; exact State.WarmedH.refl s
  have hat' : ∀ w ∈ vx_atS own ic cls names, w.before args s' = true := fun w hw => vx_ot_at hW0 hvm.symm (hgood w (List.mem_cons_of_mem _ (List.mem_cons_of_mem _ hw))) (hat w hw)
  have hk' : (Cond.classLink own ik cls).before args s' = true := vx_ot_at hW0 hvm.symm (hgood _ List.mem_cons_self) hk
  have hini' : (Cond.initialized cls).before args s' = true := vx_ot_at hW0 hvm.symm (hgood _ (List.mem_cons_of_mem _ List.mem_cons_self)) hini
  have hU' : vx_Zq Bundle.tN "UNASSIGNED_STACK" Bundle.steD A s' s'.heap := by rw [hhp]; exact vx_Zq.moved hW0.alike (hU.kept hS.2.1)
  have hN' : vx_Zq Bundle.tN "SUPPRESSED_SENTINEL" Bundle.listD A s' s'.heap := by rw [hhp]; exact vx_Zq.moved hW0.alike (hN.kept hS.2.1)
  have h : ∀ w ∈ Bundle.ownAtoms own ic cls names, w.before args s' = true := vx_own hat' (vx_isRefq hU'.1) (vx_isRefq hN'.1) hU'.2.word hN'.2.word
  have hown' : s'.vm.findClass own = some m.cls := by rw [hvm]; exact hown
  have hins : (Cond.instantiable cls 6).before args s' = true := h _ (by simp [Bundle.ownAtoms])
  obtain ⟨vm₁, cX, kX, hfX, hkX, -, -, X₁, st1⟩ := Y.newCold hexec (own := own) (C := cls) (index := ik) (n := 6) hown' hk' hins hini'
    (g := F0 m pc ls rest) rfl (by rw [hb]; exact d0) (Nat.le_refl _) (Nat.le_refl _)
  generalize hT1 : (T.setVm vm₁).pushCell { cls := cX, slots := kX.instanceTypes.map defaultValue, vm := .none } = T1 at X₁ st1
  have hcat : (Value.ref T.heap.size).category = 1 := rfl
  have hcellA : T1.heap[T.heap.size]? = some (freshCell cX kX) := by rw [← hT1]; exact State.heap_pushCell_size _ _
  have d3' : decode c.code (pc + 3) = .ok (.dup, 1) := by rw [hb]; exact d3
  have d4' : decode c.code (pc + 4) = .ok (.ldc_w is, 3) := by rw [hb]; exact d4
  have hstr' : vk_R own is text sa s' := vk_R.warm hW0 hstr
  obtain ⟨U, hsteps, hrun, hend, hW, hsame, ce, hce, hO⟩ := X₁.ctorThrowS hexec htr (own := own) (cls := cls) (names := names) (ic := ic) hown' hcls hnames h (fun x hx => nomatch hx) hfX hkX hcellA (by rw [hhp, hT]; exact Nat.le_refl _) (msg := .ref sa) rfl
    (g := { method := m, pc := pc + 7, locals := ls, stack := .ref sa :: .ref T.heap.size :: .ref T.heap.size :: rest, locked := none }) rfl hsize rfl rfl (rest := rest) rfl
    (by rw [hb]; exact d7) (by rw [hb]; exact d10) hout hRframes (by simp only [List.map_cons, List.sum_cons, hcat]; omega) hlocks
  obtain ⟨f1, f2⟩ := vx_frame hsame
  rw [hhp] at f1 f2
  have hWs : s.WarmedH U.vm := State.WarmedH.trans hW0 hW
  have hcl : s.vm.findClass cls = some ce.cls := by
    have h9 := hO.cls
    rw [hvm] at h9
    exact h9
  have hall : s.sameButNew ({ U with vm := s.vm } : State) locs mc ms := by
    subst hA
    obtain ⟨e1, e2⟩ := hsame
    rw [State.setFrames_setFrames] at e1
    have h2 : (T.setVm s.vm).sameButNew ({ U with vm := s.vm } : State) [] (0 + 1) (0 + 6) := ⟨e1, e2⟩
    have h3 := X.same.trans h2
    rw [List.append_nil] at h3
    exact h3.mono hc hs
  refine ⟨U, ?_, .threw T.heap.size, hrun, hend, Or.inr ⟨T.heap.size, rfl, cls, ce, locs, hx U hWs.alike f1 (fun q hq => f2 q hq (fun z hz => nomatch hz)), hce, hO.vm, hcl, hWs, hall, hf⟩⟩
  refine st1 _ ?_
  show Steps p.tables e below (T1.setTop { method := m, pc := pc + 3, locals := ls, stack := .ref T.heap.size :: rest, locked := none }) _
  jvm_step X₁.here [X₁.here.top, hexec, d3', Value.category]
  exact X₁.ldcStringW hexec (own := own) (text := text) (index := is) (a := sa) hown' hstr'.1 hstr'.2
    (g := { method := m, pc := pc + 4, locals := ls, stack := .ref T.heap.size :: .ref T.heap.size :: rest, locked := none }) rfl d4' _ hsteps
end Ends
section Bodies
variable {l : Launch}
theorem vx_ofW {y : MethodName} {ws ws' : List Cond} {rm : Room} {Pc : Array Value → State → Prop} {Qc : Array Value → State → Outcome → State → Prop} {XC : String → State → State → Prop} {mc ms : Nat} {free : Addr → Prop} {cc : ByteArray} {maxL : Nat} {ret : Option FieldType}
    (hy : plainName y.cls = true) (hw : ws = Cond.code y cc maxL ret :: ws')
    (body : ∀ p e s m args below meth c s₁, BodyLoose p l y (headSpec ws rm) cc maxL ret e s m args below meth c s₁ → c.maxLocals = maxL → (∀ x ∈ c.exceptionTable.toList, False) → Pc args s →
      W p l e (headSpec ws rm).room s m args below meth c s.heap [] 0 0 (vx_MQ below Qc XC args s mc ms free) (entryFrame m args maxL)) : vx_Met l y ws rm Pc Qc XC mc ms free := by
  refine MetFree.of_bodyS (code := cc) (maxLocals := maxL) (ret := ret) hy ?_ ?_
  · intro args s m h hn
    obtain ⟨meth, c, h1, h2, h3, h4, h5, h6, -, -⟩ := Cond.code_spec hn (atoms_spec (ws := ws) h _ (by rw [hw]; exact List.mem_cons_self))
    exact ⟨meth, c, h1, h2, h3, h4, h5, h6⟩
  · intro p e s m args below meth c s₁ B hml hP _
    have hh0 : s₁.heap = s.heap := by rw [B.state]; rfl
    have ht : ∀ x ∈ c.exceptionTable.toList, False := by
      obtain ⟨meth9, c9, h1, h2, -, -, -, -, h7, -⟩ := Cond.code_spec B.named (atoms_spec (ws := ws) B.pre _ (by rw [hw]; exact List.mem_cons_self))
      cases Option.some.inj (h1.symm.trans B.method)
      cases Option.some.inj (h2.symm.trans (Stand.of_body B).code)
      intro x hx
      rw [Array.isEmpty_iff.mp h7] at hx
      cases hx
    obtain ⟨t, a1, o, b1, b2, b3⟩ := body p e s m args below meth c s₁ B hml ht hP s₁ hh0 (Stand.of_body B)
    exact ⟨t, o, a1, b1, b2, b3⟩
/-- the table of a body with handlers -/
theorem vx_table {p : Program} {x y : MethodName} {S : Spec} {cc bytes : ByteArray} {maxL maxL' : Nat} {ret ret' : Option FieldType} {e : Env} {s s₁ : State} {m : MethodId} {args : Array Value} {below : List Frame} {meth : Method} {c : Code} {hh : List (Nat × Nat × Nat × Nat)}
    (B : BodyLoose p l y S cc maxL ret e s m args below meth c s₁) (h : (Cond.codeWith y bytes maxL' ret' hh).before args s = true) : c.exceptionTable.toList = tableOf hh := by
  obtain ⟨m9, meth9, c9, hn9, h1, h2, -, -, h6, -⟩ := Cond.codeWith_spec h
  cases Option.some.inj (hn9.symm.trans B.named)
  cases Option.some.inj (h1.symm.trans B.method)
  cases Option.some.inj (h2.symm.trans (Stand.of_body B).code)
  rw [← h6, table_eq]
end Bodies
end VXA
/-! ===== END ===== -/
/-! ===== BEGIN a static call of a method with an exception table ===== -/
section VXS
variable {p : Program} {l : Launch} {e : Env} {R : Room} {s : State} {m : MethodId} {args : Array Value} {below : List Frame} {meth : Method} {c : Code} {T : State} {H : Heap} {locs : List Loc} {cells slots : Nat}
abbrev vx_CSW (R : Room) (s : State) (args : Array Value) (own : String) (index : Nat) (y : MethodName) (bytes : ByteArray) (maxL : Nat) (ret : Option FieldType) (hh : List (Nat × Nat × Nat × Nat)) (ws : List Cond) (rm : Room) (mc ms n : Nat) : Prop :=
  (rm.cells = mc ∧ rm.slots = ms ∧ rm.frames + 1 ≤ R.frames ∧ 8 + (maxL + 11) + rm.locals ≤ R.locals ∧ (∀ w ∈ ws, ∀ (a' : Array Value) (U : State), s.WarmedH U.vm → w.before a' U = true) ∧ Cond.codeWith y bytes maxL ret hh ∈ ws) ∧
  (Cond.codeWith y bytes maxL ret hh).before args s = true ∧ (Cond.initialized y.cls).before args s = true ∧ (y.cls ≠ "java/lang/invoke/MethodHandle" ∧ y.cls ≠ "java/lang/invoke/VarHandle") ∧
  (∀ sig, parseMethodDescriptor y.desc = some sig → n = sig.parameters.length) ∧ (Cond.methodLink own index y).before args s = true ∧ (Cond.static y).before args s = true
theorem vx_cwSW {own : String} {index maxL mc ms : Nat} {y : MethodName} {bytes : ByteArray} {ret : Option FieldType} {hh : List (Nat × Nat × Nat × Nat)} {Ts ws ws' : List Cond} {rm : Room} (n : Nat) (ht : ∀ w ∈ Ts, w.before args s = true) (hT : GoodIn Ts (va_wsS own index y ws)) (hw : ws = Cond.codeWith y bytes maxL ret hh :: ws') (hrc : rm.cells = mc) (hrs : rm.slots = ms)
    (hd : y.cls ≠ "java/lang/invoke/MethodHandle" ∧ y.cls ≠ "java/lang/invoke/VarHandle" ∧ (parseMethodDescriptor y.desc).map (fun d => d.parameters.length) = some n) (hR : rm.frames + 1 ≤ R.frames ∧ 8 + (maxL + 11) + rm.locals ≤ R.locals) :
    vx_CSW R s args own index y bytes maxL ret hh ws rm mc ms n := by
  have ok : ∀ w ∈ va_wsS own index y ws, w.before args s = true := fun w h => ht w (hT w h).1
  have hG : GoodIn Ts ws := fun w h => hT w (by unfold va_wsS; exact List.mem_append_right _ h)
  have hc : Cond.codeWith y bytes maxL ret hh ∈ ws := by rw [hw]; exact List.mem_cons_self
  refine ⟨⟨hrc, hrs, hR.1, hR.2, pay_in ht hG, hc⟩, ht _ (hG _ hc).1, ok _ (by simp [va_wsS]), ⟨hd.1, hd.2.1⟩, fun sig h => ?_, ok _ (by simp [va_wsS]), ok _ (by simp [va_wsS])⟩
  have h2 := hd.2.2
  rw [h] at h2
  exact (Option.some.inj h2).symm
theorem vx_callSW (X : Stand p l e R s m args below meth c T locs cells slots) (hexec : p.tables.exec = Jvm.exec) {own : String} {index : Nat} {y : MethodName} {bytes : ByteArray} {maxL : Nat} {ret : Option FieldType} {hh : List (Nat × Nat × Nat × Nat)}
    (hown : s.vm.findClass own = some m.cls) (hlink : (Cond.methodLink own index y).before args s = true) (hstat : (Cond.static y).before args s = true) (hinit : (Cond.initialized y.cls).before args s = true)
    (hcode : (Cond.codeWith y bytes maxL ret hh).before args s = true) (hy : y.cls ≠ "java/lang/invoke/MethodHandle" ∧ y.cls ≠ "java/lang/invoke/VarHandle")
    {W9 : Nat} {Pre : Pt → Array Value → Prop} {Post : Pt → Array Value → Option Value → Pt → Prop} (hK : Back l R p e below s args y 3 W9 Pre Post)
    {g : JFrame} (hg : g.method = m) (hsize : g.locals.size = c.maxLocals) {argsL rest : List Value} (hlen : ∀ sig, parseMethodDescriptor y.desc = some sig → argsL.length = sig.parameters.length)
    (hstack : g.stack = argsL.reverse ++ rest) (hW : 2 * g.monitorRoom + (rest.map fun v => v.category).sum ≤ W9) (hdg : decode c.code g.pc = .ok (.invokestatic index, 3))
    (hpre : ∀ vm₁, s.WarmedH vm₁ → Pre ⟨T.setVm vm₁, locs, cells, slots⟩ argsL.toArray) :
    ∃ (v : Option Value) (vm₁ : Vm) (B : Pt), s.WarmedH vm₁ ∧ Stand p l e R s m args below meth c B.U B.locs B.cells B.slots ∧ Post ⟨T.setVm vm₁, locs, cells, slots⟩ argsL.toArray v B ∧
      ∀ target, Steps p.tables e below (B.U.setTop { g with pc := g.pc + 3, stack := v.toList ++ rest }) target → Steps p.tables e below (T.setTop g) target := by
  obtain ⟨mk, methM, cM, hnamed, hmethM, -, -, -, -, -, -, hsigM⟩ := Cond.codeWith_spec hcode
  have hstatic : methM.isStatic = true := Cond.static_spec hnamed hmethM hstat
  obtain ⟨kP, hkP, -⟩ := className_of_methodNamed hnamed
  have hinitP : kP.init = .initialized := Cond.initialized_spec (findClass_of_methodNamed hnamed) hkP hinit
  obtain ⟨vm₁, X₁, hstep₁⟩ := X.invokestatic hexec hown hlink hnamed hmethM hstatic hkP hinitP hy (g := g) hg (argsL := argsL) (rest := rest) (hlen _ hsigM) hstack hdg
  obtain ⟨v, B, X', hpost, hsteps⟩ := hK m meth c ⟨T.setVm vm₁, locs, cells, slots⟩ { g with stack := rest } (.invokestatic index) mk argsL.toArray X₁ hg hsize hdg hW (X₁.named hnamed) (hpre vm₁ X₁.warmed)
  exact ⟨v, vm₁, B, X₁.warmed, X', hpost, fun target h => hstep₁ _ fun acts => by rw [doInvoke_state]; exact hsteps.trans h⟩
theorem vx_runSW {y : MethodName} {bytes cc : ByteArray} {maxL nL mc ms n index : Nat} {ret : Option FieldType} {hh : List (Nat × Nat × Nat × Nat)} {ws : List Cond} {rm : Room} {Pc : Array Value → State → Prop} {Qc : Array Value → State → Outcome → State → Prop} {free : Addr → Prop} {Ts : List Cond} {own : String} {As rest : List Value} {g : JFrame}
    (S : CallFix p m c cc nL s args Ts own) (hM : Met l y ws rm Pc Qc mc ms free) (cw : vx_CSW R s args own index y bytes maxL ret hh ws rm mc ms n) (hp : PreS s H Pc As)
    (hg : g.method = m) (hn : As.length = n) (hsize : g.locals.size = nL) (hstack : g.stack = As.reverse ++ rest) (hW : 2 * g.monitorRoom + (rest.map fun v => v.category).sum ≤ 8) (hdg : decode cc g.pc = .ok (.invokestatic index, 3)) (hf : cells + mc ≤ R.cells ∧ slots + ms ≤ R.slots) :
    va_Run p l e R s m args below meth c H locs cells slots mc ms g rest (Qc As.toArray) (free) := by
  obtain ⟨⟨hrc, hrs, hfr, hlo, hws, hcw⟩, hcode, hini, hy, hlen, hl, hstt⟩ := cw
  have hK : Back l R p e below s args y 3 8 (PreOf R mc ms Pc) (PostOf Qc mc ms free) := va_backW (hh := hh) (bytes := bytes) (maxL := maxL) (ret := ret) hM hp.1 hrc hrs hfr hlo hws hcw (fun a' U hW => word_at hW (Or.inl (by first | rfl | simp [Cond.onTables, Cond.keeps, Cond.steady])) hini)
  obtain ⟨hx, hb, hml, ho, -⟩ := S
  intro T hT X
  obtain ⟨v, vm₁, ⟨U', l2, c2, s2⟩, hW₁, X', ⟨g', mk, t, L, e1, e2, hq, h1, hL, h2, h3⟩, st⟩ := vx_callSW X hx (hh := hh) (bytes := bytes) (maxL := maxL) (ret := ret) ho hl hstt hini hcode hy hK hg (hsize.trans hml.symm) (argsL := As) (rest := rest) (fun sig h => hn.trans (hlen sig h)) hstack hW (by rw [hb]; exact hdg)
    (fun vm₁ hW₁ => ⟨hf.1, hf.2, hp.2 (T.setVm vm₁) hT hW₁⟩)
  dsimp only [Pt.U, Pt.locs, Pt.cells, Pt.slots] at X' e1 e2 h1 h2 h3 st
  subst h1; subst h2; subst h3
  exact ⟨v, (T.setVm vm₁).calling g' mk As.toArray, t, U', L, hT, X', hL, e1, e2, hq, st⟩
/-- not caught here, past rows that name other classes: it goes on to the caller -/
theorem vx_outP {p : Program} {l : Launch} {e : Env} {R : Room} {s : State} {m : MethodId} {args : Array Value} {below : List Frame} {meth : Method} {c : Code} {H : Heap} {locs : List Loc} {cells slots : Nat} {free : Addr → Prop} {ls : Array Slot} {rest : List Value} {Qc : Array Value → State → Outcome → State → Prop} {XC : String → State → State → Prop}
    {pc : Nat} {own E : String} {ce : Cell} {q : Addr} {mc ms : Nat} (hown : s.vm.findClass own = some m.cls) (hlocks : meth.locks = false)
    (hpass : ∀ z ∈ c.exceptionTable.toList, covers z pc = false ∨ (z.catchType ≠ 0 ∧ ∃ nm : String, (Cond.classLink own z.catchType nm).before args s = true ∧ va_Nc E nm s)) (hcell : H[q]? = some ce) (hv : ce.vm = .none) (hcl : s.vm.findClass E = some ce.cls)
    (hx : ∀ t : State, t.heap = H → s.vm.Alike t.vm → XC E s t) (hf : ∀ z ∈ locs, free z.base) (hc : cells ≤ mc) (hs : slots ≤ ms) :
    vx_W p l e R s m args below meth c H locs cells slots (vx_MQ below Qc XC args s mc ms free) (F0 m pc ls rest) q := by
  intro T hT X
  have hpl : e.platform.magicAccessors = ({} : Platform).magicAccessors := by rw [X.admits.platform]
  obtain ⟨vm', hW', X', st⟩ := X.outThrough hlocks q (g := F0 m pc ls rest) rfl rfl rfl (cell := ce) (by rw [hT]; exact hcell) (by rw [hv]; rfl)
    (by obtain ⟨k9, h9, -⟩ := Vm.findClass_spec hcl; exact ⟨k9, h9⟩) (fun z hz => by
      rcases hpass z hz with h | ⟨hz0, nm, hl1, hn1⟩
      · exact Or.inl h
      · obtain ⟨c6, hc6, hcl6⟩ := Cond.classLink_spec hown hl1 e.platform hpl
        obtain ⟨a8, b8, h1, h2, h3⟩ := hn1
        cases Option.some.inj (h1.symm.trans hcl)
        cases Option.some.inj (h2.symm.trans hc6)
        exact Or.inr ⟨hz0, _, hcl6, h3⟩)
  obtain ⟨g₀, hfr⟩ := X'.frames_eq
  have hcell9 : ((T.setVm vm').setFrames (.throwing q :: below)).heap[q]? = some ce := by
    show T.heap[q]? = some ce
    rw [hT]; exact hcell
  have hend : Ended ((T.setVm vm').setFrames (.throwing q :: below)) below (.threw q) := State.frames_setFrames _ (State.cur_lt_of_frames hfr)
  refine ⟨(T.setVm vm').setFrames (.throwing q :: below), ?_, .threw q, X'.here.running, hend, Or.inr ⟨q, rfl, E, ce, locs, hx _ hT (X'.ends _).1.alike, hcell9, hv, hcl, (X'.ends _).1, (X'.ends _).2.mono hc hs, hf⟩⟩
  rw [X.pushThrowing_eq]
  exact st
/-- a thing of a world lies in the heap -/
theorem vx_lt {D : va_G} {cl : List vw_C} {ws : va_W} {H1 : Heap} (h : va_P D cl ws H1) {k : Nat} {q : Nat × va_E} (hk : ws[k]? = some q) : q.1 < H1.size := (h k q hk).lt
end VXS
/-! ===== END ===== -/
/-! ===== BEGIN methods with a table of their own: called by a name, returning or throwing ===== -/
section VXH
/-! vx_backW, vx_callVX, vx_callSX, vx_callVW, vx_runVW, vx_runVX, vx_runSX, vx_ofWH follow the same proofs as their sisters above (Free/Laws.lean, Shelf42/LK1.lean); vx_outP calls Shelf42/NT130.lean (outThrough). -/
section
variable {l : Launch} {R : Room} {p : Program} {e : Env} {below : List Frame} {s : State} {sargs : Array Value} {y : MethodName} {len W9 : Nat}
theorem vx_backW {ws : List Cond} {rm : Room} {Pc : Array Value → State → Prop} {Qc : Array Value → State → Outcome → State → Prop} {XC : String → State → State → Prop} {mc ms : Nat} {free : Addr → Prop} {bytes : ByteArray} {maxL : Nat} {ret : Option FieldType} {hh : List (Nat × Nat × Nat × Nat)}
    (hM : vx_Met l y ws rm Pc Qc XC mc ms free) (hblind : FrameBlind Pc) (hrc : rm.cells = mc) (hrs : rm.slots = ms)
    (hframes : rm.frames + 1 ≤ R.frames) (hlocals : W9 + (maxL + 11) + rm.locals ≤ R.locals)
    (hws : ∀ w ∈ ws, ∀ a' U, s.WarmedH U.vm → w.before a' U = true) (hcode : Cond.codeWith y bytes maxL ret hh ∈ ws) (hinit : ∀ a' U, s.WarmedH U.vm → (Cond.initialized y.cls).before a' U = true) :
    vx_Back l R p e below s sargs y len W9 (PreOf R mc ms Pc) (PostOf Qc mc ms free) (vx_Post XC mc ms free) := by
  intro m meth c A g ig mk a X hg hsize hdg hW hn hp
  have h1 : (headSpec ws rm).pre.before a A.U = true := atoms_intro fun w hw => hws w hw _ _ X.warmed
  have h2 : (Cond.codeWith y bytes maxL ret hh).before a A.U = true := hws _ hcode _ _ X.warmed
  have h3 : (Cond.initialized y.cls).before a A.U = true := hinit _ _ X.warmed
  have h4 : A.cells + (headSpec ws rm).room.cells ≤ R.cells := by rw [show (headSpec ws rm).room.cells = mc from hrc]; exact hp.1
  have h5 : A.slots + (headSpec ws rm).room.slots ≤ R.slots := by rw [show (headSpec ws rm).room.slots = ms from hrs]; exact hp.2.1
  have hPc : Pc a (A.U.calling g mk a) := hblind _ _ _ _ hp.2.2
  obtain ⟨U, Ls, c0, s0⟩ := A
  dsimp only [Pt.U, Pt.locs, Pt.cells, Pt.slots] at h1 h2 h3 h4 h5 X hn hPc ⊢
  obtain ⟨m9, methY, cY, hn9, hmY, hcY, -, hlY, -⟩ := Cond.codeWith_spec h2
  cases Option.some.inj (hn9.symm.trans hn)
  obtain ⟨kY, hkY, -⟩ := className_of_methodNamed hn
  have hinitY : kY.init = .initialized := Cond.initialized_spec (findClass_of_methodNamed hn) hkY h3
  have h : At U g.method c below := by rw [hg]; exact X.here
  have hlocals9 : W9 + (maxL + 11) + (headSpec ws rm).room.locals ≤ R.locals := hlocals
  have happ : (headSpec ws rm).appliesLoose y e.platform (U.calling g mk a) = true :=
    Spec.appliesLoose_calling (g := g) h hdg hn hkY hinitY
      (X.room_calling (g := g) (R' := (headSpec ws rm).room) hsize hmY hcY hframes (by rw [hlY]; omega) h4 h5) h1
  obtain ⟨mid, hmid⟩ := h.above
  have hfr : (U.setTop g).frames = (.java g :: mid) ++ below := by rw [State.frames_setTop' g h.top, hmid]; rfl
  obtain ⟨o, s₂, hsteps, -, hend, hq⟩ := Steps.callFree hM p X.admits X.cas X.clock (acts := []) hfr happ hPc trivial
  have hq' : vx_Q Qc XC mc ms free a (U.calling g mk a) o s₂ := hq
  rw [State.frames_setTop' g h.top] at hend
  obtain ⟨g₀, hg0⟩ := Option.isSome_iff_exists.mp h.top
  obtain ⟨r, hr⟩ := State.topJava?_eq_some.mp hg0
  have hr' : (({ U with heap := s₂.heap, slotsUsed := s₂.slotsUsed } : State).setVm s₂.vm).frames = .java g₀ :: r := hr
  rcases hq' with ⟨hqc, L, hfe, hL⟩ | ⟨q, rfl, E, ce, L, hx, hce, hcv, hcl, hW₂, hsm, hL⟩
  · obtain ⟨⟨v, rfl⟩, hW₂, e2, q2, q3, q4, q5, q6⟩ := id hfe
    have e3 : s₂ = ({ (U.calling g mk a).setFrames s₂.frames with heap := s₂.heap, slotsUsed := s₂.slotsUsed } : State).setVm s₂.vm := by
      have : s₂ = ({ s₂ with vm := (U.calling g mk a).vm } : State).setVm s₂.vm := rfl
      rw [e2] at this
      exact this
    obtain ⟨c₂, i₂, len₂, hc₂, hd₂, hf₂⟩ := hend
    have hW' : U.WarmedH s₂.vm := hW₂
    have hcc : c₂ = c := by
      have h1 : s₂.code? g.method = U.code? g.method := by
        rw [State.code?_eq, State.code?_eq, hW'.alike.method?]
      exact Option.some.inj (hc₂.symm.trans (h1.trans h.code))
    subst hcc
    have hlen : len₂ = len := by rw [hdg] at hd₂; cases hd₂; rfl
    subst hlen
    have hs₂ : s₂ = (({ U with heap := s₂.heap, slotsUsed := s₂.slotsUsed } : State).setVm s₂.vm).setTop { g with pc := g.pc + len₂, stack := v.toList ++ g.stack } := by
      refine e3.trans ?_
      rw [hf₂, State.calling_eq h.top, State.setFrames_setFrames, State.setTop_of_frames _ hr', hr]
      rfl
    have hsame : U.sameButNew ({ U with heap := s₂.heap, slotsUsed := s₂.slotsUsed } : State) L mc ms := by
      refine ⟨?_, q2, q3, q4, q5, q6⟩
      obtain ⟨t, ht, -⟩ := State.frames_cons hr
      show ({ U with heap := s₂.heap, slotsUsed := s₂.slotsUsed } : State) = { U.setFrames U.frames with heap := s₂.heap, slotsUsed := s₂.slotsUsed }
      rw [State.setFrames_self ht]
    subst hg
    refine Or.inl ⟨v, ⟨(({ U with heap := s₂.heap, slotsUsed := s₂.slotsUsed } : State).setVm s₂.vm), Ls ++ L, c0 + mc, s0 + ms⟩,
      ⟨X.admits, X.cas, X.clock, X.frames, X.room, X.hears, X.method, X.code, (X.here.setHeapUsed s₂.heap s₂.slotsUsed).setVm hW'.alike, X.tail, State.WarmedH.trans X.warmed hW', X.limits, X.bytes, X.same.trans (hsame.setVm s.vm)⟩,
      ⟨g, mk, s₂, L, rfl, rfl, hqc, rfl, hL, rfl, rfl⟩, ?_⟩
    show Steps p.tables e below _ ((({ U with heap := s₂.heap, slotsUsed := s₂.slotsUsed } : State).setVm s₂.vm).setTop { g with pc := g.pc + len₂, stack := v.toList ++ g.stack })
    rw [← hs₂]
    exact hsteps
  · obtain ⟨e2, q2, q3, q4, q5, q6⟩ := id hsm
    have e3 : s₂ = ({ (U.calling g mk a).setFrames s₂.frames with heap := s₂.heap, slotsUsed := s₂.slotsUsed } : State).setVm s₂.vm := by
      have : s₂ = ({ s₂ with vm := (U.calling g mk a).vm } : State).setVm s₂.vm := rfl
      rw [e2] at this
      exact this
    have hf₂ : s₂.frames = .throwing q :: .java g :: U.frames.tail := hend
    have hW' : U.WarmedH s₂.vm := hW₂
    have hs₂ : s₂ = ((({ U with heap := s₂.heap, slotsUsed := s₂.slotsUsed } : State).setVm s₂.vm).setTop g).pushFrame (.throwing q) := by
      refine e3.trans ?_
      rw [hf₂, State.calling_eq h.top, State.setFrames_setFrames, State.pushFrame, State.frames_setTop _ hr', State.setTop_of_frames _ hr', State.setFrames_setFrames, hr]
      rfl
    have hsame : U.sameButNew ({ U with heap := s₂.heap, slotsUsed := s₂.slotsUsed } : State) L mc ms := by
      refine ⟨?_, q2, q3, q4, q5, q6⟩
      obtain ⟨t, ht, -⟩ := State.frames_cons hr
      show ({ U with heap := s₂.heap, slotsUsed := s₂.slotsUsed } : State) = { U.setFrames U.frames with heap := s₂.heap, slotsUsed := s₂.slotsUsed }
      rw [State.setFrames_self ht]
    subst hg
    refine Or.inr ⟨q, ⟨(({ U with heap := s₂.heap, slotsUsed := s₂.slotsUsed } : State).setVm s₂.vm), Ls ++ L, c0 + mc, s0 + ms⟩,
      ⟨X.admits, X.cas, X.clock, X.frames, X.room, X.hears, X.method, X.code, (X.here.setHeapUsed s₂.heap s₂.slotsUsed).setVm hW'.alike, X.tail, State.WarmedH.trans X.warmed hW', X.limits, X.bytes, X.same.trans (hsame.setVm s.vm)⟩,
      ⟨g, mk, s₂, L, E, ce, rfl, rfl, hx, hce, hcv, hcl, rfl, hL, rfl, rfl⟩, ?_⟩
    show Steps p.tables e below _ (((({ U with heap := s₂.heap, slotsUsed := s₂.slotsUsed } : State).setVm s₂.vm).setTop g).pushFrame (.throwing q))
    rw [← hs₂]
    exact hsteps
end
variable {p : Program} {l : Launch} {e : Env} {R : Room} {s : State} {m : MethodId} {args : Array Value} {below : List Frame} {meth : Method} {c : Code} {T : State} {H : Heap} {locs : List Loc} {cells slots : Nat}
theorem vx_callVX (X : Stand p l e R s m args below meth c T locs cells slots) (hexec : p.tables.exec = Jvm.exec) {own C : String} {index : Nat} {y : MethodName} {bytes : ByteArray} {maxL : Nat} {ret : Option FieldType} {hh : List (Nat × Nat × Nat × Nat)}
    (hown : s.vm.findClass own = some m.cls) (hlink : (Cond.methodLink own index y).before args s = true) (hinst : (Cond.instanceMethod y).before args s = true) (hsel : (Cond.selects C y y).before args s = true)
    (hcode : (Cond.codeWith y bytes maxL ret hh).before args s = true) (hy : y.cls ≠ "java/lang/invoke/MethodHandle" ∧ y.cls ≠ "java/lang/invoke/VarHandle")
    {W9 : Nat} {Pre : Pt → Array Value → Prop} {Post : Pt → Array Value → Option Value → Pt → Prop} {PostX : Pt → Array Value → Addr → Pt → Prop} (hK : vx_Back l R p e below s args y 3 W9 Pre Post PostX)
    {b : Addr} {cellB : Cell} (hcell : T.heap[b]? = some cellB) (hobj : cellB.vm.isStatics = false) (hcls : s.vm.findClass C = some cellB.cls)
    {g : JFrame} (hg : g.method = m) (hsize : g.locals.size = c.maxLocals) {argsL rest : List Value} (hlen : ∀ sig, parseMethodDescriptor y.desc = some sig → argsL.length = sig.parameters.length)
    (hstack : g.stack = argsL.reverse ++ .ref b :: rest) (hW : 2 * g.monitorRoom + (rest.map fun v => v.category).sum ≤ W9) (hdg : decode c.code g.pc = .ok (.invokevirtual index, 3))
    (hpre : ∀ vm₁, s.WarmedH vm₁ → Pre ⟨T.setVm vm₁, locs, cells, slots⟩ (Value.ref b :: argsL).toArray) :
    (∃ (v : Option Value) (vm₁ : Vm) (B : Pt), s.WarmedH vm₁ ∧ Stand p l e R s m args below meth c B.U B.locs B.cells B.slots ∧ Post ⟨T.setVm vm₁, locs, cells, slots⟩ (Value.ref b :: argsL).toArray v B ∧
      ∀ target, Steps p.tables e below (B.U.setTop { g with pc := g.pc + 3, stack := v.toList ++ rest }) target → Steps p.tables e below (T.setTop g) target) ∨
    (∃ (q : Addr) (vm₁ : Vm) (B : Pt), s.WarmedH vm₁ ∧ Stand p l e R s m args below meth c B.U B.locs B.cells B.slots ∧ PostX ⟨T.setVm vm₁, locs, cells, slots⟩ (Value.ref b :: argsL).toArray q B ∧
      Steps p.tables e below (T.setTop g) ((B.U.setTop { g with stack := rest }).pushFrame (.throwing q))) := by
  obtain ⟨mk, methM, hnamed, hmethM, hstM, habM⟩ := Cond.instanceMethod_spec hinst
  obtain ⟨m8, methM', cM, hn8, hmethM', -, -, -, -, -, -, hsigM⟩ := Cond.codeWith_spec hcode
  cases Option.some.inj (hn8.symm.trans hnamed)
  cases hmethM.symm.trans hmethM'
  obtain ⟨c2, r2, m2, q1, q2, q3, q4, kP, hkP, hkPi⟩ := Cond.selects_spec hsel
  cases hcls.symm.trans q1
  cases (State.methodFound?_of_named hnamed hy).symm.trans q2
  cases hnamed.symm.trans q3
  have hselP : selectMethod e.platform s.vm cellB.cls mk = .method mk := by rw [Launch.admits_selectMethod X.admits]; exact q4
  obtain ⟨vm₁, X₁, hstep₁⟩ := X.invokevirtual hexec hown hlink hnamed hmethM hstM hkP hkPi hy (a := b) (cell := cellB) hcell
    (fun z h => by rw [h] at hobj; cases hobj) hselP hmethM habM hkP hkPi (g := g) hg (argsL := argsL) (rest := rest) (hlen _ hsigM) hstack hdg
  rcases hK m meth c ⟨T.setVm vm₁, locs, cells, slots⟩ { g with stack := rest } (.invokevirtual index) mk (Value.ref b :: argsL).toArray X₁ hg hsize hdg hW (X₁.named hnamed) (hpre vm₁ X₁.warmed) with ⟨v, B, X', hpost, hsteps⟩ | ⟨q, B, X', hpost, hsteps⟩
  · exact Or.inl ⟨v, vm₁, B, X₁.warmed, X', hpost, fun target h => hstep₁ _ fun acts => by rw [doInvoke_state]; exact hsteps.trans h⟩
  · exact Or.inr ⟨q, vm₁, B, X₁.warmed, X', hpost, hstep₁ _ fun acts => by rw [doInvoke_state]; exact hsteps⟩
theorem vx_callSX (X : Stand p l e R s m args below meth c T locs cells slots) (hexec : p.tables.exec = Jvm.exec) {own : String} {index : Nat} {y : MethodName} {bytes : ByteArray} {maxL : Nat} {ret : Option FieldType} {hh : List (Nat × Nat × Nat × Nat)}
    (hown : s.vm.findClass own = some m.cls) (hlink : (Cond.methodLink own index y).before args s = true) (hstat : (Cond.static y).before args s = true) (hinit : (Cond.initialized y.cls).before args s = true)
    (hcode : (Cond.codeWith y bytes maxL ret hh).before args s = true) (hy : y.cls ≠ "java/lang/invoke/MethodHandle" ∧ y.cls ≠ "java/lang/invoke/VarHandle")
    {W9 : Nat} {Pre : Pt → Array Value → Prop} {Post : Pt → Array Value → Option Value → Pt → Prop} {PostX : Pt → Array Value → Addr → Pt → Prop} (hK : vx_Back l R p e below s args y 3 W9 Pre Post PostX)
    {g : JFrame} (hg : g.method = m) (hsize : g.locals.size = c.maxLocals) {argsL rest : List Value} (hlen : ∀ sig, parseMethodDescriptor y.desc = some sig → argsL.length = sig.parameters.length)
    (hstack : g.stack = argsL.reverse ++ rest) (hW : 2 * g.monitorRoom + (rest.map fun v => v.category).sum ≤ W9) (hdg : decode c.code g.pc = .ok (.invokestatic index, 3))
    (hpre : ∀ vm₁, s.WarmedH vm₁ → Pre ⟨T.setVm vm₁, locs, cells, slots⟩ argsL.toArray) :
    (∃ (v : Option Value) (vm₁ : Vm) (B : Pt), s.WarmedH vm₁ ∧ Stand p l e R s m args below meth c B.U B.locs B.cells B.slots ∧ Post ⟨T.setVm vm₁, locs, cells, slots⟩ argsL.toArray v B ∧
      ∀ target, Steps p.tables e below (B.U.setTop { g with pc := g.pc + 3, stack := v.toList ++ rest }) target → Steps p.tables e below (T.setTop g) target) ∨
    (∃ (q : Addr) (vm₁ : Vm) (B : Pt), s.WarmedH vm₁ ∧ Stand p l e R s m args below meth c B.U B.locs B.cells B.slots ∧ PostX ⟨T.setVm vm₁, locs, cells, slots⟩ argsL.toArray q B ∧
      Steps p.tables e below (T.setTop g) ((B.U.setTop { g with stack := rest }).pushFrame (.throwing q))) := by
  obtain ⟨mk, methM, cM, hnamed, hmethM, -, -, -, -, -, -, hsigM⟩ := Cond.codeWith_spec hcode
  have hstatic : methM.isStatic = true := Cond.static_spec hnamed hmethM hstat
  obtain ⟨kP, hkP, -⟩ := className_of_methodNamed hnamed
  have hinitP : kP.init = .initialized := Cond.initialized_spec (findClass_of_methodNamed hnamed) hkP hinit
  obtain ⟨vm₁, X₁, hstep₁⟩ := X.invokestatic hexec hown hlink hnamed hmethM hstatic hkP hinitP hy (g := g) hg (argsL := argsL) (rest := rest) (hlen _ hsigM) hstack hdg
  rcases hK m meth c ⟨T.setVm vm₁, locs, cells, slots⟩ { g with stack := rest } (.invokestatic index) mk argsL.toArray X₁ hg hsize hdg hW (X₁.named hnamed) (hpre vm₁ X₁.warmed) with ⟨v, B, X', hpost, hsteps⟩ | ⟨q, B, X', hpost, hsteps⟩
  · exact Or.inl ⟨v, vm₁, B, X₁.warmed, X', hpost, fun target h => hstep₁ _ fun acts => by rw [doInvoke_state]; exact hsteps.trans h⟩
  · exact Or.inr ⟨q, vm₁, B, X₁.warmed, X', hpost, hstep₁ _ fun acts => by rw [doInvoke_state]; exact hsteps⟩
theorem vx_callVW (X : Stand p l e R s m args below meth c T locs cells slots) (hexec : p.tables.exec = Jvm.exec) {own C : String} {index : Nat} {y : MethodName} {bytes : ByteArray} {maxL : Nat} {ret : Option FieldType} {hh : List (Nat × Nat × Nat × Nat)}
    (hown : s.vm.findClass own = some m.cls) (hlink : (Cond.methodLink own index y).before args s = true) (hinst : (Cond.instanceMethod y).before args s = true) (hsel : (Cond.selects C y y).before args s = true)
    (hcode : (Cond.codeWith y bytes maxL ret hh).before args s = true) (hy : y.cls ≠ "java/lang/invoke/MethodHandle" ∧ y.cls ≠ "java/lang/invoke/VarHandle")
    {W9 : Nat} {Pre : Pt → Array Value → Prop} {Post : Pt → Array Value → Option Value → Pt → Prop} (hK : Back l R p e below s args y 3 W9 Pre Post)
    {b : Addr} {cellB : Cell} (hcell : T.heap[b]? = some cellB) (hobj : cellB.vm.isStatics = false) (hcls : s.vm.findClass C = some cellB.cls)
    {g : JFrame} (hg : g.method = m) (hsize : g.locals.size = c.maxLocals) {argsL rest : List Value} (hlen : ∀ sig, parseMethodDescriptor y.desc = some sig → argsL.length = sig.parameters.length)
    (hstack : g.stack = argsL.reverse ++ .ref b :: rest) (hW : 2 * g.monitorRoom + (rest.map fun v => v.category).sum ≤ W9) (hdg : decode c.code g.pc = .ok (.invokevirtual index, 3))
    (hpre : ∀ vm₁, s.WarmedH vm₁ → Pre ⟨T.setVm vm₁, locs, cells, slots⟩ (Value.ref b :: argsL).toArray) :
    ∃ (v : Option Value) (vm₁ : Vm) (B : Pt), s.WarmedH vm₁ ∧ Stand p l e R s m args below meth c B.U B.locs B.cells B.slots ∧ Post ⟨T.setVm vm₁, locs, cells, slots⟩ (Value.ref b :: argsL).toArray v B ∧
      ∀ target, Steps p.tables e below (B.U.setTop { g with pc := g.pc + 3, stack := v.toList ++ rest }) target → Steps p.tables e below (T.setTop g) target := by
  obtain ⟨mk, methM, hnamed, hmethM, hstM, habM⟩ := Cond.instanceMethod_spec hinst
  obtain ⟨m8, methM', cM, hn8, hmethM', -, -, -, -, -, -, hsigM⟩ := Cond.codeWith_spec hcode
  cases Option.some.inj (hn8.symm.trans hnamed)
  cases hmethM.symm.trans hmethM'
  obtain ⟨c2, r2, m2, q1, q2, q3, q4, kP, hkP, hkPi⟩ := Cond.selects_spec hsel
  cases hcls.symm.trans q1
  cases (State.methodFound?_of_named hnamed hy).symm.trans q2
  cases hnamed.symm.trans q3
  have hselP : selectMethod e.platform s.vm cellB.cls mk = .method mk := by rw [Launch.admits_selectMethod X.admits]; exact q4
  obtain ⟨vm₁, X₁, hstep₁⟩ := X.invokevirtual hexec hown hlink hnamed hmethM hstM hkP hkPi hy (a := b) (cell := cellB) hcell
    (fun z h => by rw [h] at hobj; cases hobj) hselP hmethM habM hkP hkPi (g := g) hg (argsL := argsL) (rest := rest) (hlen _ hsigM) hstack hdg
  obtain ⟨v, B, X', hpost, hsteps⟩ := hK m meth c ⟨T.setVm vm₁, locs, cells, slots⟩ { g with stack := rest } (.invokevirtual index) mk (Value.ref b :: argsL).toArray X₁ hg hsize hdg hW (X₁.named hnamed) (hpre vm₁ X₁.warmed)
  exact ⟨v, vm₁, B, X₁.warmed, X', hpost, fun target h => hstep₁ _ fun acts => by rw [doInvoke_state]; exact hsteps.trans h⟩
abbrev vx_CVW (R : Room) (s : State) (args : Array Value) (own C : String) (index : Nat) (y : MethodName) (bytes : ByteArray) (maxL : Nat) (ret : Option FieldType) (hh : List (Nat × Nat × Nat × Nat)) (ws : List Cond) (rm : Room) (mc ms n : Nat) : Prop :=
  (rm.cells = mc ∧ rm.slots = ms ∧ rm.frames + 1 ≤ R.frames ∧ 8 + (maxL + 11) + rm.locals ≤ R.locals ∧ (∀ w ∈ ws, ∀ (a' : Array Value) (U : State), s.WarmedH U.vm → w.before a' U = true) ∧ Cond.codeWith y bytes maxL ret hh ∈ ws) ∧
  (Cond.codeWith y bytes maxL ret hh).before args s = true ∧ (Cond.initialized y.cls).before args s = true ∧ (y.cls ≠ "java/lang/invoke/MethodHandle" ∧ y.cls ≠ "java/lang/invoke/VarHandle") ∧
  (∀ sig, parseMethodDescriptor y.desc = some sig → n = sig.parameters.length) ∧ (Cond.methodLink own index y).before args s = true ∧ (Cond.instanceMethod y).before args s = true ∧ (Cond.selects C y y).before args s = true
theorem vx_cwVW {own C : String} {index maxL mc ms : Nat} {y : MethodName} {bytes : ByteArray} {ret : Option FieldType} {hh : List (Nat × Nat × Nat × Nat)} {Ts ws ws' : List Cond} {rm : Room} (n : Nat) (ht : ∀ w ∈ Ts, w.before args s = true) (hT : GoodIn Ts (wsV own index C y ws)) (hw : ws = Cond.codeWith y bytes maxL ret hh :: ws') (hrc : rm.cells = mc) (hrs : rm.slots = ms)
    (hd : y.cls = C ∧ y.cls ≠ "java/lang/invoke/MethodHandle" ∧ y.cls ≠ "java/lang/invoke/VarHandle" ∧ (parseMethodDescriptor y.desc).map (fun d => d.parameters.length) = some n) (hR : rm.frames + 1 ≤ R.frames ∧ 8 + (maxL + 11) + rm.locals ≤ R.locals) :
    vx_CVW R s args own C index y bytes maxL ret hh ws rm mc ms n := by
  obtain ⟨hC, hd⟩ := hd
  subst hC
  have ok : ∀ w ∈ wsV own index y.cls y ws, w.before args s = true := fun w h => ht w (hT w h).1
  have hG : GoodIn Ts ws := fun w h => hT w (by unfold wsV; exact List.mem_append_right _ h)
  have hc : Cond.codeWith y bytes maxL ret hh ∈ ws := by rw [hw]; exact List.mem_cons_self
  refine ⟨⟨hrc, hrs, hR.1, hR.2, pay_in ht hG, hc⟩, ht _ (hG _ hc).1, ok _ (by simp [wsV]), ⟨hd.1, hd.2.1⟩, fun sig h => ?_, ok _ (by simp [wsV]), ok _ (by simp [wsV]), ok _ (by simp [wsV])⟩
  have h2 := hd.2.2
  rw [h] at h2
  exact (Option.some.inj h2).symm
theorem vx_runVW {y : MethodName} {bytes cc : ByteArray} {maxL nL mc ms n index : Nat} {ret : Option FieldType} {hh : List (Nat × Nat × Nat × Nat)} {ws : List Cond} {rm : Room} {Pc : Array Value → State → Prop} {Qc : Array Value → State → Outcome → State → Prop} {free : Addr → Prop} {Ts : List Cond} {own C : String} {b : Addr} {As rest : List Value} {g : JFrame}
    (S : CallFix p m c cc nL s args Ts own) (hM : Met l y ws rm Pc Qc mc ms free) (cw : vx_CVW R s args own C index y bytes maxL ret hh ws rm mc ms n) (hp : PreV s H C b Pc As)
    (hg : g.method = m) (hn : As.length = n) (hsize : g.locals.size = nL) (hstack : g.stack = As.reverse ++ .ref b :: rest) (hW : 2 * g.monitorRoom + (rest.map fun v => v.category).sum ≤ 8) (hdg : decode cc g.pc = .ok (.invokevirtual index, 3)) (hf : cells + mc ≤ R.cells ∧ slots + ms ≤ R.slots) :
    va_Run p l e R s m args below meth c H locs cells slots mc ms g rest (Qc (Value.ref b :: As).toArray) free := by
  obtain ⟨⟨hrc, hrs, hfr, hlo, hws, hcw⟩, hcode, hini, hy, hlen, hl, hin, hse⟩ := cw
  have hK : Back l R p e below s args y 3 8 (PreOf R mc ms Pc) (PostOf Qc mc ms free) := va_backW (hh := hh) (bytes := bytes) (maxL := maxL) (ret := ret) hM hp.1 hrc hrs hfr hlo hws hcw (fun a' U hW => word_at hW (Or.inl (by first | rfl | simp [Cond.onTables, Cond.keeps, Cond.steady])) hini)
  obtain ⟨hx, hb, hml, ho, -⟩ := S
  obtain ⟨-, ⟨cellB, hcB, hoB, hclB⟩, hPc⟩ := hp
  intro T hT X
  obtain ⟨v, vm₁, ⟨U', l2, c2, s2⟩, hW₁, X', ⟨g', mk, t, L, e1, e2, hq, h1, hL, h2, h3⟩, st⟩ := vx_callVW X hx (C := C) (hh := hh) (bytes := bytes) (maxL := maxL) (ret := ret) ho hl hin hse hcode hy hK (by rw [hT]; exact hcB) hoB hclB hg (hsize.trans hml.symm) (argsL := As) (rest := rest) (fun sig h => hn.trans (hlen sig h)) hstack hW (by rw [hb]; exact hdg)
    (fun vm₁ hW₁ => ⟨hf.1, hf.2, hPc (T.setVm vm₁) hT hW₁⟩)
  dsimp only [Pt.U, Pt.locs, Pt.cells, Pt.slots] at X' e1 e2 h1 h2 h3 st
  subst h1; subst h2; subst h3
  exact ⟨v, (T.setVm vm₁).calling g' mk (Value.ref b :: As).toArray, t, U', L, hT, X', hL, e1, e2, hq, st⟩
section
variable {y : MethodName} {bytes cc : ByteArray} {maxL nL mc ms n index : Nat} {ret : Option FieldType} {ws : List Cond} {rm : Room} {Pc : Array Value → State → Prop} {Qc : Array Value → State → Outcome → State → Prop} {XC : String → State → State → Prop} {free : Addr → Prop} {Ts : List Cond} {own C : String} {b : Addr} {As rest : List Value} {g : JFrame}
theorem vx_runVX {hh : List (Nat × Nat × Nat × Nat)} (S : CallFix p m c cc nL s args Ts own) (hM : vx_Met l y ws rm Pc Qc XC mc ms free) (cw : vx_CVW R s args own C index y bytes maxL ret hh ws rm mc ms n) (hp : PreV s H C b Pc As)
    (hg : g.method = m) (hn : As.length = n) (hsize : g.locals.size = nL) (hstack : g.stack = As.reverse ++ .ref b :: rest) (hW : 2 * g.monitorRoom + (rest.map fun v => v.category).sum ≤ 8) (hdg : decode cc g.pc = .ok (.invokevirtual index, 3)) (hf : cells + mc ≤ R.cells ∧ slots + ms ≤ R.slots) :
    vx_Run p l e R s m args below meth c H locs cells slots mc ms g rest (Qc (Value.ref b :: As).toArray) XC free := by
  obtain ⟨⟨hrc, hrs, hfr, hlo, hws, hcw⟩, hcode, hini, hy, hlen, hl, hin, hse⟩ := cw
  have hK : vx_Back l R p e below s args y 3 8 (PreOf R mc ms Pc) (PostOf Qc mc ms free) (vx_Post XC mc ms free) := vx_backW (hh := hh) (bytes := bytes) (maxL := maxL) (ret := ret) hM hp.1 hrc hrs hfr hlo hws hcw (fun a' U hW => word_at hW (Or.inl (by first | rfl | simp [Cond.onTables, Cond.keeps, Cond.steady])) hini)
  obtain ⟨hx, hb, hml, ho, -⟩ := S
  obtain ⟨-, ⟨cellB, hcB, hoB, hclB⟩, hPc⟩ := hp
  intro T hT X
  rcases vx_callVX X hx (C := C) (hh := hh) (bytes := bytes) (maxL := maxL) (ret := ret) ho hl hin hse hcode hy hK (by rw [hT]; exact hcB) hoB hclB hg (hsize.trans hml.symm) (argsL := As) (rest := rest) (fun sig h => hn.trans (hlen sig h)) hstack hW (by rw [hb]; exact hdg)
    (fun vm₁ hW₁ => ⟨hf.1, hf.2, hPc (T.setVm vm₁) hT hW₁⟩) with ⟨v, vm₁, ⟨U', l2, c2, s2⟩, hW₁, X', ⟨g', mk, t, L, e1, e2, hq, h1, hL, h2, h3⟩, st⟩ | ⟨q, vm₁, ⟨U', l2, c2, s2⟩, hW₁, X', ⟨g', mk, t, L, E, ce, e1, e2, hq, hce, hcv, hcl, h1, hL, h2, h3⟩, st⟩
  · dsimp only [Pt.U, Pt.locs, Pt.cells, Pt.slots] at X' e1 e2 h1 h2 h3 st
    subst h1; subst h2; subst h3
    exact Or.inl ⟨v, (T.setVm vm₁).calling g' mk (Value.ref b :: As).toArray, t, U', L, hT, X', hL, e1, e2, hq, st⟩
  · dsimp only [Pt.U, Pt.locs, Pt.cells, Pt.slots] at X' e1 e2 h1 h2 h3 st hcl
    subst h1; subst h2; subst h3
    exact Or.inr ⟨q, (T.setVm vm₁).calling g' mk (Value.ref b :: As).toArray, t, U', L, E, ce, hT, X', hL, e1, e2, hq, hce, hcv, vx_cls hW₁ hcl, st⟩
theorem vx_runSX {hh : List (Nat × Nat × Nat × Nat)} (S : CallFix p m c cc nL s args Ts own) (hM : vx_Met l y ws rm Pc Qc XC mc ms free) (cw : vx_CSW R s args own index y bytes maxL ret hh ws rm mc ms n) (hp : PreS s H Pc As)
    (hg : g.method = m) (hn : As.length = n) (hsize : g.locals.size = nL) (hstack : g.stack = As.reverse ++ rest) (hW : 2 * g.monitorRoom + (rest.map fun v => v.category).sum ≤ 8) (hdg : decode cc g.pc = .ok (.invokestatic index, 3)) (hf : cells + mc ≤ R.cells ∧ slots + ms ≤ R.slots) :
    vx_Run p l e R s m args below meth c H locs cells slots mc ms g rest (Qc As.toArray) XC free := by
  obtain ⟨⟨hrc, hrs, hfr, hlo, hws, hcw⟩, hcode, hini, hy, hlen, hl, hstt⟩ := cw
  have hK : vx_Back l R p e below s args y 3 8 (PreOf R mc ms Pc) (PostOf Qc mc ms free) (vx_Post XC mc ms free) := vx_backW (hh := hh) (bytes := bytes) (maxL := maxL) (ret := ret) hM hp.1 hrc hrs hfr hlo hws hcw (fun a' U hW => word_at hW (Or.inl (by first | rfl | simp [Cond.onTables, Cond.keeps, Cond.steady])) hini)
  obtain ⟨hx, hb, hml, ho, -⟩ := S
  intro T hT X
  rcases vx_callSX X hx (hh := hh) (bytes := bytes) (maxL := maxL) (ret := ret) ho hl hstt hini hcode hy hK hg (hsize.trans hml.symm) (argsL := As) (rest := rest) (fun sig h => hn.trans (hlen sig h)) hstack hW (by rw [hb]; exact hdg)
    (fun vm₁ hW₁ => ⟨hf.1, hf.2, hp.2 (T.setVm vm₁) hT hW₁⟩) with ⟨v, vm₁, ⟨U', l2, c2, s2⟩, hW₁, X', ⟨g', mk, t, L, e1, e2, hq, h1, hL, h2, h3⟩, st⟩ | ⟨q, vm₁, ⟨U', l2, c2, s2⟩, hW₁, X', ⟨g', mk, t, L, E, ce, e1, e2, hq, hce, hcv, hcl, h1, hL, h2, h3⟩, st⟩
  · dsimp only [Pt.U, Pt.locs, Pt.cells, Pt.slots] at X' e1 e2 h1 h2 h3 st
    subst h1; subst h2; subst h3
    exact Or.inl ⟨v, (T.setVm vm₁).calling g' mk As.toArray, t, U', L, hT, X', hL, e1, e2, hq, st⟩
  · dsimp only [Pt.U, Pt.locs, Pt.cells, Pt.slots] at X' e1 e2 h1 h2 h3 st hcl
    subst h1; subst h2; subst h3
    exact Or.inr ⟨q, (T.setVm vm₁).calling g' mk As.toArray, t, U', L, E, ce, hT, X', hL, e1, e2, hq, hce, hcv, vx_cls hW₁ hcl, st⟩
end
end VXH
theorem vx_ofWH {l : Launch} {y : MethodName} {ws ws' : List Cond} {rm : Room} {Pc : Array Value → State → Prop} {Qc : Array Value → State → Outcome → State → Prop} {XC : String → State → State → Prop} {mc ms : Nat} {free : Addr → Prop} {cc : ByteArray} {maxL : Nat} {ret : Option FieldType} {hh : List (Nat × Nat × Nat × Nat)}
    (hy : plainName y.cls = true) (hw : ws = Cond.codeWith y cc maxL ret hh :: ws')
    (body : ∀ p e s m args below meth c s₁, BodyLoose p l y (headSpec ws rm) cc maxL ret e s m args below meth c s₁ → c.maxLocals = maxL → Pc args s →
      W p l e (headSpec ws rm).room s m args below meth c s.heap [] 0 0 (vx_MQ below Qc XC args s mc ms free) (entryFrame m args maxL)) : vx_Met l y ws rm Pc Qc XC mc ms free := by
  refine MetFree.of_bodyS (code := cc) (maxLocals := maxL) (ret := ret) hy ?_ ?_
  · intro args s m h hn
    obtain ⟨m9, meth, c, hn9, h1, h2, h3, h4, -, h5, h6, -⟩ := Cond.codeWith_spec (atoms_spec (ws := ws) h _ (by rw [hw]; exact List.mem_cons_self))
    cases hn.symm.trans hn9
    exact ⟨meth, c, h1, h2, h3, h4, h5, h6⟩
  · intro p e s m args below meth c s₁ B hml hP _
    have hh0 : s₁.heap = s.heap := by rw [B.state]; rfl
    obtain ⟨t, a1, o, b1, b2, b3⟩ := body p e s m args below meth c s₁ B hml hP s₁ hh0 (Stand.of_body B)
    exact ⟨t, o, a1, b1, b2, b3⟩
/-! ===== END ===== -/
end
section
def RX0 : String := "CatEvenings$Evening"
def TX0 : u_T := fun k => match k with
  | 0 => ("CatEvenings$Evening", "parent", "LCatEvenings$Evening;", true)
  | 1 => ("CatEvenings$Evening", "label", "I", true)
  | 2 => ("CatEvenings$Evening", "kind", "I", true)
  | 3 => ("CatEvenings$Evening", "number", "I", true)
  | 4 => ("CatEvenings$Evening", "depth", "I", true)
  | 5 => ("CatEvenings$Evening", "scene", "LCatEvenings$Scene;", false)
  | 6 => ("CatEvenings$Evening", "latestChild", "LCatEvenings$Evening;", false)
  | 7 => ("CatEvenings$Evening", "children", "I", false)
  | _ => ("CatEvenings$Evening", "descendants", "I", false)
def tyX0 : Nat → FieldType := fun k => match k with
  | 0 => .object "CatEvenings$Evening"
  | 1 => .int
  | 2 => .int
  | 3 => .int
  | 4 => .int
  | 5 => .object "CatEvenings$Scene"
  | 6 => .object "CatEvenings$Evening"
  | 7 => .int
  | _ => .int
theorem nmX0 : ∀ a, a < 9 → ∀ b, b < 9 → a ≠ b → (TX0 a).2.1 ≠ (TX0 b).2.1 := by decide +kernel
theorem tyX0_ok : ∀ k, k < 9 → parseFieldDescriptor (TX0 k).2.2.1 = some (tyX0 k) := by decide +kernel
abbrev cX0_init : ByteArray := prog_2_method_1_code
def yX0_init : MethodName := ⟨RX0, "<init>", "(LCatEvenings$Evening;IIILCatEvenings$Scene;)V"⟩
abbrev cX0_above : ByteArray := prog_2_method_2_code
def yX0_above : MethodName := ⟨RX0, "above", "()LCatEvenings$Evening;"⟩
abbrev cX0_isEnd : ByteArray := prog_2_method_3_code
def yX0_isEnd : MethodName := ⟨RX0, "isEnd", "()Z"⟩
abbrev cX0_countAbove : ByteArray := prog_2_method_4_code
def yX0_countAbove : MethodName := ⟨RX0, "countAbove", "()V"⟩
abbrev cX0_pointToFromAbove : ByteArray := prog_2_method_5_code
def yX0_pointToFromAbove : MethodName := ⟨RX0, "pointToFromAbove", "()V"⟩
def RX1 : String := "CatEvenings$Scene"
def TX1 : u_T := fun k => match k with
  | 0 => ("CatEvenings$Scene", "cat", "I", true)
  | 1 => ("CatEvenings$Scene", "places", "[I", true)
  | _ => ("CatEvenings$Scene", "lyingBits", "I", true)
def tyX1 : Nat → FieldType := fun k => match k with
  | 0 => .int
  | 1 => .array .int
  | _ => .int
theorem nmX1 : ∀ a, a < 3 → ∀ b, b < 3 → a ≠ b → (TX1 a).2.1 ≠ (TX1 b).2.1 := by decide +kernel
theorem tyX1_ok : ∀ k, k < 3 → parseFieldDescriptor (TX1 k).2.2.1 = some (tyX1 k) := by decide +kernel
abbrev cX1_init : ByteArray := prog_3_method_1_code
def yX1_init : MethodName := ⟨RX1, "<init>", "(I[II)V"⟩
abbrev cX1_has : ByteArray := prog_3_method_2_code
def yX1_has : MethodName := ⟨RX1, "has", "(I)Z"⟩
abbrev cX1_isLying : ByteArray := prog_3_method_3_code
def yX1_isLying : MethodName := ⟨RX1, "isLying", "(I)Z"⟩
abbrev cX1_isStanding : ByteArray := prog_3_method_4_code
def yX1_isStanding : MethodName := ⟨RX1, "isStanding", "(I)Z"⟩
abbrev cX1_countLying : ByteArray := prog_3_method_5_code
def yX1_countLying : MethodName := ⟨RX1, "countLying", "()I"⟩
abbrev cX1_pieceOn : ByteArray := prog_3_method_6_code
def yX1_pieceOn : MethodName := ⟨RX1, "pieceOn", "(I)I"⟩
abbrev cX1_isLike : ByteArray := prog_3_method_7_code
def yX1_isLike : MethodName := ⟨RX1, "isLike", "(LCatEvenings$Scene;)Z"⟩
abbrev cX1_withPieceOn : ByteArray := prog_3_method_8_code
def yX1_withPieceOn : MethodName := ⟨RX1, "withPieceOn", "(I)LCatEvenings$Scene;"⟩
abbrev cX1_after : ByteArray := prog_3_method_9_code
def yX1_after : MethodName := ⟨RX1, "after", "(II)LCatEvenings$Scene;"⟩
abbrev cX1_afterStep : ByteArray := prog_3_method_10_code
def yX1_afterStep : MethodName := ⟨RX1, "afterStep", "(I)LCatEvenings$Scene;"⟩
abbrev cX1_afterKnock : ByteArray := prog_3_method_11_code
def yX1_afterKnock : MethodName := ⟨RX1, "afterKnock", "(I)LCatEvenings$Scene;"⟩
abbrev cX1_afterSetUp : ByteArray := prog_3_method_12_code
def yX1_afterSetUp : MethodName := ⟨RX1, "afterSetUp", "(I)LCatEvenings$Scene;"⟩
abbrev cX1_afterPush : ByteArray := prog_3_method_13_code
def yX1_afterPush : MethodName := ⟨RX1, "afterPush", "(I)LCatEvenings$Scene;"⟩
abbrev cX1_isInReach : ByteArray := prog_3_method_14_code
def yX1_isInReach : MethodName := ⟨RX1, "isInReach", "(I)Z"⟩
def RX2 : String := "CatEvenings"
def TX2 : u_T := fun k => match k with
  | 0 => ("CatEvenings", "tree", "Ljava/util/List;", true)
  | _ => ("CatEvenings", "now", "LCatEvenings$Evening;", false)
def tyX2 : Nat → FieldType := fun k => match k with
  | 0 => .object "java/util/List"
  | _ => .object "CatEvenings$Evening"
theorem nmX2 : ∀ a, a < 2 → ∀ b, b < 2 → a ≠ b → (TX2 a).2.1 ≠ (TX2 b).2.1 := by decide +kernel
theorem tyX2_ok : ∀ k, k < 2 → parseFieldDescriptor (TX2 k).2.2.1 = some (tyX2 k) := by decide +kernel
abbrev cX2_init : ByteArray := prog_1_method_1_code
def yX2_init : MethodName := ⟨RX2, "<init>", "()V"⟩
abbrev cX2_setPiece : ByteArray := prog_1_method_2_code
def yX2_setPiece : MethodName := ⟨RX2, "setPiece", "(II)I"⟩
abbrev cX2_paw : ByteArray := prog_1_method_3_code
def yX2_paw : MethodName := ⟨RX2, "paw", "(II)I"⟩
abbrev cX2_undo : ByteArray := prog_1_method_4_code
def yX2_undo : MethodName := ⟨RX2, "undo", "(I)I"⟩
abbrev cX2_redo : ByteArray := prog_1_method_5_code
def yX2_redo : MethodName := ⟨RX2, "redo", "(I)I"⟩
abbrev cX2_goTo : ByteArray := prog_1_method_6_code
def yX2_goTo : MethodName := ⟨RX2, "goTo", "(I)I"⟩
abbrev cX2_evening : ByteArray := prog_1_method_7_code
def yX2_evening : MethodName := ⟨RX2, "evening", "()I"⟩
abbrev cX2_evenings : ByteArray := prog_1_method_8_code
def yX2_evenings : MethodName := ⟨RX2, "evenings", "()I"⟩
abbrev cX2_pieces : ByteArray := prog_1_method_9_code
def yX2_pieces : MethodName := ⟨RX2, "pieces", "()I"⟩
abbrev cX2_catColumn : ByteArray := prog_1_method_10_code
def yX2_catColumn : MethodName := ⟨RX2, "catColumn", "()I"⟩
abbrev cX2_catRow : ByteArray := prog_1_method_11_code
def yX2_catRow : MethodName := ⟨RX2, "catRow", "()I"⟩
abbrev cX2_lying : ByteArray := prog_1_method_12_code
def yX2_lying : MethodName := ⟨RX2, "lying", "()I"⟩
abbrev cX2_placeOf : ByteArray := prog_1_method_13_code
def yX2_placeOf : MethodName := ⟨RX2, "placeOf", "(I)I"⟩
abbrev cX2_lies : ByteArray := prog_1_method_14_code
def yX2_lies : MethodName := ⟨RX2, "lies", "(I)Z"⟩
abbrev cX2_pieceAt : ByteArray := prog_1_method_15_code
def yX2_pieceAt : MethodName := ⟨RX2, "pieceAt", "(II)I"⟩
abbrev cX2_canDo : ByteArray := prog_1_method_16_code
def yX2_canDo : MethodName := ⟨RX2, "canDo", "(II)Z"⟩
abbrev cX2_hangsOn : ByteArray := prog_1_method_17_code
def yX2_hangsOn : MethodName := ⟨RX2, "hangsOn", "(I)I"⟩
abbrev cX2_kindOf : ByteArray := prog_1_method_18_code
def yX2_kindOf : MethodName := ⟨RX2, "kindOf", "(I)I"⟩
abbrev cX2_numberOf : ByteArray := prog_1_method_19_code
def yX2_numberOf : MethodName := ⟨RX2, "numberOf", "(I)I"⟩
abbrev cX2_depthOf : ByteArray := prog_1_method_20_code
def yX2_depthOf : MethodName := ⟨RX2, "depthOf", "(I)I"⟩
abbrev cX2_branches : ByteArray := prog_1_method_21_code
def yX2_branches : MethodName := ⟨RX2, "branches", "(I)I"⟩
abbrev cX2_behind : ByteArray := prog_1_method_22_code
def yX2_behind : MethodName := ⟨RX2, "behind", "(I)I"⟩
abbrev cX2_again : ByteArray := prog_1_method_23_code
def yX2_again : MethodName := ⟨RX2, "again", "(I)I"⟩
abbrev cX2_meet : ByteArray := prog_1_method_24_code
def yX2_meet : MethodName := ⟨RX2, "meet", "(II)I"⟩
abbrev cX2_apart : ByteArray := prog_1_method_25_code
def yX2_apart : MethodName := ⟨RX2, "apart", "(II)I"⟩
abbrev cX2_ends : ByteArray := prog_1_method_26_code
def yX2_ends : MethodName := ⟨RX2, "ends", "()I"⟩
abbrev cX2_placeIn : ByteArray := prog_1_method_27_code
def yX2_placeIn : MethodName := ⟨RX2, "placeIn", "(II)I"⟩
abbrev cX2_lyingIn : ByteArray := prog_1_method_28_code
def yX2_lyingIn : MethodName := ⟨RX2, "lyingIn", "(I)I"⟩
abbrev cX2_areAlike : ByteArray := prog_1_method_29_code
def yX2_areAlike : MethodName := ⟨RX2, "areAlike", "(II)Z"⟩
abbrev cX2_mostKnocked : ByteArray := prog_1_method_30_code
def yX2_mostKnocked : MethodName := ⟨RX2, "mostKnocked", "()I"⟩
abbrev cX2_meanDepth : ByteArray := prog_1_method_31_code
def yX2_meanDepth : MethodName := ⟨RX2, "meanDepth", "()D"⟩
abbrev cX2_digest : ByteArray := prog_1_method_32_code
def yX2_digest : MethodName := ⟨RX2, "digest", "()J"⟩
abbrev cX2_withEvening : ByteArray := prog_1_method_33_code
def yX2_withEvening : MethodName := ⟨RX2, "withEvening", "(JLCatEvenings$Evening;)J"⟩
abbrev cX2_mixed : ByteArray := prog_1_method_34_code
def yX2_mixed : MethodName := ⟨RX2, "mixed", "(JJ)J"⟩
abbrev cX2_existing : ByteArray := prog_1_method_35_code
def yX2_existing : MethodName := ⟨RX2, "existing", "(I)LCatEvenings$Evening;"⟩
abbrev cX2_sceneAfter : ByteArray := prog_1_method_36_code
def yX2_sceneAfter : MethodName := ⟨RX2, "sceneAfter", "(II)LCatEvenings$Scene;"⟩
abbrev cX2_knocksOf : ByteArray := prog_1_method_37_code
def yX2_knocksOf : MethodName := ⟨RX2, "knocksOf", "(I)I"⟩
abbrev cX2_placeInScene : ByteArray := prog_1_method_38_code
def yX2_placeInScene : MethodName := ⟨RX2, "placeInScene", "(LCatEvenings$Scene;I)I"⟩
abbrev cX2_labelOf : ByteArray := prog_1_method_39_code
def yX2_labelOf : MethodName := ⟨RX2, "labelOf", "(LCatEvenings$Evening;)I"⟩
abbrev cX2_checkMany : ByteArray := prog_1_method_40_code
def yX2_checkMany : MethodName := ⟨RX2, "checkMany", "(I)V"⟩
abbrev cX2_isPaw : ByteArray := prog_1_method_41_code
def yX2_isPaw : MethodName := ⟨RX2, "isPaw", "(II)Z"⟩
abbrev cX2_isOnBoard : ByteArray := prog_1_method_42_code
def yX2_isOnBoard : MethodName := ⟨RX2, "isOnBoard", "(II)Z"⟩
abbrev cX2_boardPlace : ByteArray := prog_1_method_43_code
def yX2_boardPlace : MethodName := ⟨RX2, "boardPlace", "(II)I"⟩
abbrev cX2_farther : ByteArray := prog_1_method_44_code
def yX2_farther : MethodName := ⟨RX2, "farther", "(II)I"⟩
abbrev cX2_meetingOf : ByteArray := prog_1_method_45_code
def yX2_meetingOf : MethodName := ⟨RX2, "meetingOf", "(LCatEvenings$Evening;LCatEvenings$Evening;)LCatEvenings$Evening;"⟩
abbrev cX2_wayLength : ByteArray := prog_1_method_46_code
def yX2_wayLength : MethodName := ⟨RX2, "wayLength", "(LCatEvenings$Evening;LCatEvenings$Evening;)I"⟩
def RX3 : String := "CatEveningsModel"
def TX3 : u_T := fun k => match k with
  | 0 => ("CatEveningsModel", "thrown", "I", false)
  | 1 => ("CatEveningsModel", "pieces", "I", false)
  | 2 => ("CatEveningsModel", "evenings", "I", false)
  | 3 => ("CatEveningsModel", "now", "I", false)
  | 4 => ("CatEveningsModel", "on", "[I", true)
  | 5 => ("CatEveningsModel", "kind", "[I", true)
  | 6 => ("CatEveningsModel", "number", "[I", true)
  | 7 => ("CatEveningsModel", "deep", "[I", true)
  | 8 => ("CatEveningsModel", "last", "[I", true)
  | 9 => ("CatEveningsModel", "all", "[I", true)
  | _ => ("CatEveningsModel", "next", "[I", true)
def tyX3 : Nat → FieldType := fun k => match k with
  | 0 => .int
  | 1 => .int
  | 2 => .int
  | 3 => .int
  | 4 => .array .int
  | 5 => .array .int
  | 6 => .array .int
  | 7 => .array .int
  | 8 => .array .int
  | 9 => .array .int
  | _ => .array .int
theorem nmX3 : ∀ a, a < 11 → ∀ b, b < 11 → a ≠ b → (TX3 a).2.1 ≠ (TX3 b).2.1 := by decide +kernel
theorem tyX3_ok : ∀ k, k < 11 → parseFieldDescriptor (TX3 k).2.2.1 = some (tyX3 k) := by decide +kernel
abbrev cX3_init : ByteArray := prog_5_method_1_code
def yX3_init : MethodName := ⟨RX3, "<init>", "()V"⟩
abbrev cX3_thrown : ByteArray := prog_5_method_2_code
def yX3_thrown : MethodName := ⟨RX3, "thrown", "()I"⟩
abbrev cX3_no : ByteArray := prog_5_method_3_code
def yX3_no : MethodName := ⟨RX3, "no", "(I)I"⟩
abbrev cX3_isNot : ByteArray := prog_5_method_4_code
def yX3_isNot : MethodName := ⟨RX3, "isNot", "(I)Z"⟩
abbrev cX3_ok : ByteArray := prog_5_method_5_code
def yX3_ok : MethodName := ⟨RX3, "ok", "(I)I"⟩
abbrev cX3_isIn : ByteArray := prog_5_method_6_code
def yX3_isIn : MethodName := ⟨RX3, "isIn", "(III)Z"⟩
abbrev cX3_isEvening : ByteArray := prog_5_method_7_code
def yX3_isEvening : MethodName := ⟨RX3, "isEvening", "(I)Z"⟩
abbrev cX3_isPiece : ByteArray := prog_5_method_8_code
def yX3_isPiece : MethodName := ⟨RX3, "isPiece", "(I)Z"⟩
abbrev cX3_isOn : ByteArray := prog_5_method_9_code
def yX3_isOn : MethodName := ⟨RX3, "isOn", "(I)Z"⟩
abbrev cX3_isPaw : ByteArray := prog_5_method_10_code
def yX3_isPaw : MethodName := ⟨RX3, "isPaw", "(II)Z"⟩
abbrev cX3_at : ByteArray := prog_5_method_11_code
def yX3_at : MethodName := ⟨RX3, "at", "(II)I"⟩
abbrev cX3_cat : ByteArray := prog_5_method_12_code
def yX3_cat : MethodName := ⟨RX3, "cat", "()I"⟩
abbrev cX3_piece : ByteArray := prog_5_method_13_code
def yX3_piece : MethodName := ⟨RX3, "piece", "(II)I"⟩
abbrev cX3_pieceOn : ByteArray := prog_5_method_14_code
def yX3_pieceOn : MethodName := ⟨RX3, "pieceOn", "(I)I"⟩
abbrev cX3_farther : ByteArray := prog_5_method_15_code
def yX3_farther : MethodName := ⟨RX3, "farther", "(II)I"⟩
abbrev cX3_isBeside : ByteArray := prog_5_method_16_code
def yX3_isBeside : MethodName := ⟨RX3, "isBeside", "(II)Z"⟩
abbrev cX3_steps : ByteArray := prog_5_method_17_code
def yX3_steps : MethodName := ⟨RX3, "steps", "(I)Z"⟩
abbrev cX3_turns : ByteArray := prog_5_method_18_code
def yX3_turns : MethodName := ⟨RX3, "turns", "(IZ)Z"⟩
abbrev cX3_pushes : ByteArray := prog_5_method_19_code
def yX3_pushes : MethodName := ⟨RX3, "pushes", "(I)Z"⟩
abbrev cX3_does : ByteArray := prog_5_method_20_code
def yX3_does : MethodName := ⟨RX3, "does", "(II)Z"⟩
abbrev cX3_down : ByteArray := prog_5_method_21_code
def yX3_down : MethodName := ⟨RX3, "down", "(II)I"⟩
abbrev cX3_setPiece : ByteArray := prog_5_method_22_code
def yX3_setPiece : MethodName := ⟨RX3, "setPiece", "(II)I"⟩
abbrev cX3_paw : ByteArray := prog_5_method_23_code
def yX3_paw : MethodName := ⟨RX3, "paw", "(II)I"⟩
abbrev cX3_undo : ByteArray := prog_5_method_24_code
def yX3_undo : MethodName := ⟨RX3, "undo", "(I)I"⟩
abbrev cX3_redo : ByteArray := prog_5_method_25_code
def yX3_redo : MethodName := ⟨RX3, "redo", "(I)I"⟩
abbrev cX3_meeting : ByteArray := prog_5_method_26_code
def yX3_meeting : MethodName := ⟨RX3, "meeting", "(II)I"⟩
abbrev cX3_way : ByteArray := prog_5_method_27_code
def yX3_way : MethodName := ⟨RX3, "way", "(II)I"⟩
abbrev cX3_goTo : ByteArray := prog_5_method_28_code
def yX3_goTo : MethodName := ⟨RX3, "goTo", "(I)I"⟩
abbrev cX3_evening : ByteArray := prog_5_method_29_code
def yX3_evening : MethodName := ⟨RX3, "evening", "()I"⟩
abbrev cX3_evenings : ByteArray := prog_5_method_30_code
def yX3_evenings : MethodName := ⟨RX3, "evenings", "()I"⟩
abbrev cX3_pieces : ByteArray := prog_5_method_31_code
def yX3_pieces : MethodName := ⟨RX3, "pieces", "()I"⟩
abbrev cX3_catColumn : ByteArray := prog_5_method_32_code
def yX3_catColumn : MethodName := ⟨RX3, "catColumn", "()I"⟩
abbrev cX3_catRow : ByteArray := prog_5_method_33_code
def yX3_catRow : MethodName := ⟨RX3, "catRow", "()I"⟩
abbrev cX3_lying : ByteArray := prog_5_method_34_code
def yX3_lying : MethodName := ⟨RX3, "lying", "()I"⟩
abbrev cX3_placeOf : ByteArray := prog_5_method_35_code
def yX3_placeOf : MethodName := ⟨RX3, "placeOf", "(I)I"⟩
abbrev cX3_lies : ByteArray := prog_5_method_36_code
def yX3_lies : MethodName := ⟨RX3, "lies", "(I)Z"⟩
abbrev cX3_pieceAt : ByteArray := prog_5_method_37_code
def yX3_pieceAt : MethodName := ⟨RX3, "pieceAt", "(II)I"⟩
abbrev cX3_canDo : ByteArray := prog_5_method_38_code
def yX3_canDo : MethodName := ⟨RX3, "canDo", "(II)Z"⟩
abbrev cX3_of : ByteArray := prog_5_method_39_code
def yX3_of : MethodName := ⟨RX3, "of", "([II)I"⟩
abbrev cX3_hangsOn : ByteArray := prog_5_method_40_code
def yX3_hangsOn : MethodName := ⟨RX3, "hangsOn", "(I)I"⟩
abbrev cX3_kindOf : ByteArray := prog_5_method_41_code
def yX3_kindOf : MethodName := ⟨RX3, "kindOf", "(I)I"⟩
abbrev cX3_numberOf : ByteArray := prog_5_method_42_code
def yX3_numberOf : MethodName := ⟨RX3, "numberOf", "(I)I"⟩
abbrev cX3_depthOf : ByteArray := prog_5_method_43_code
def yX3_depthOf : MethodName := ⟨RX3, "depthOf", "(I)I"⟩
abbrev cX3_again : ByteArray := prog_5_method_44_code
def yX3_again : MethodName := ⟨RX3, "again", "(I)I"⟩
abbrev cX3_below : ByteArray := prog_5_method_45_code
def yX3_below : MethodName := ⟨RX3, "below", "(I)I"⟩
abbrev cX3_branches : ByteArray := prog_5_method_46_code
def yX3_branches : MethodName := ⟨RX3, "branches", "(I)I"⟩
abbrev cX3_allBelow : ByteArray := prog_5_method_47_code
def yX3_allBelow : MethodName := ⟨RX3, "allBelow", "(I)I"⟩
abbrev cX3_behind : ByteArray := prog_5_method_48_code
def yX3_behind : MethodName := ⟨RX3, "behind", "(I)I"⟩
abbrev cX3_meet : ByteArray := prog_5_method_49_code
def yX3_meet : MethodName := ⟨RX3, "meet", "(II)I"⟩
abbrev cX3_apart : ByteArray := prog_5_method_50_code
def yX3_apart : MethodName := ⟨RX3, "apart", "(II)I"⟩
abbrev cX3_leaves : ByteArray := prog_5_method_51_code
def yX3_leaves : MethodName := ⟨RX3, "leaves", "()I"⟩
abbrev cX3_ends : ByteArray := prog_5_method_52_code
def yX3_ends : MethodName := ⟨RX3, "ends", "()I"⟩
abbrev cX3_placeIn : ByteArray := prog_5_method_53_code
def yX3_placeIn : MethodName := ⟨RX3, "placeIn", "(II)I"⟩
abbrev cX3_lyingIn : ByteArray := prog_5_method_54_code
def yX3_lyingIn : MethodName := ⟨RX3, "lyingIn", "(I)I"⟩
abbrev cX3_isLike : ByteArray := prog_5_method_55_code
def yX3_isLike : MethodName := ⟨RX3, "isLike", "(II)Z"⟩
abbrev cX3_areAlike : ByteArray := prog_5_method_56_code
def yX3_areAlike : MethodName := ⟨RX3, "areAlike", "(II)Z"⟩
abbrev cX3_knocks : ByteArray := prog_5_method_57_code
def yX3_knocks : MethodName := ⟨RX3, "knocks", "(I)I"⟩
abbrev cX3_mostDown : ByteArray := prog_5_method_58_code
def yX3_mostDown : MethodName := ⟨RX3, "mostDown", "()I"⟩
abbrev cX3_mostKnocked : ByteArray := prog_5_method_59_code
def yX3_mostKnocked : MethodName := ⟨RX3, "mostKnocked", "()I"⟩
abbrev cX3_meanDepth : ByteArray := prog_5_method_60_code
def yX3_meanDepth : MethodName := ⟨RX3, "meanDepth", "()D"⟩
abbrev cX3_digest : ByteArray := prog_5_method_61_code
def yX3_digest : MethodName := ⟨RX3, "digest", "()J"⟩
def RJx145de : String := "java/io/Serializable"
def TJx145de : u_T := fun k => match k with
  | _ => ("", "", "", false)
def tyJx145de : Nat → FieldType := fun k => match k with
  | _ => .int
theorem nmJx145de : ∀ a, a < 0 → ∀ b, b < 0 → a ≠ b → (TJx145de a).2.1 ≠ (TJx145de b).2.1 := by decide +kernel
theorem tyJx145de_ok : ∀ k, k < 0 → parseFieldDescriptor (TJx145de k).2.2.1 = some (tyJx145de k) := by decide +kernel
def RJx8e188 : String := "java/lang/Cloneable"
def TJx8e188 : u_T := fun k => match k with
  | _ => ("", "", "", false)
def tyJx8e188 : Nat → FieldType := fun k => match k with
  | _ => .int
theorem nmJx8e188 : ∀ a, a < 0 → ∀ b, b < 0 → a ≠ b → (TJx8e188 a).2.1 ≠ (TJx8e188 b).2.1 := by decide +kernel
theorem tyJx8e188_ok : ∀ k, k < 0 → parseFieldDescriptor (TJx8e188 k).2.2.1 = some (tyJx8e188 k) := by decide +kernel
def RJ6 : String := "java/lang/Integer"
def TJ6 : u_T := fun k => match k with
  | _ => ("", "", "", false)
def tyJ6 : Nat → FieldType := fun k => match k with
  | _ => .int
theorem nmJ6 : ∀ a, a < 0 → ∀ b, b < 0 → a ≠ b → (TJ6 a).2.1 ≠ (TJ6 b).2.1 := by decide +kernel
theorem tyJ6_ok : ∀ k, k < 0 → parseFieldDescriptor (TJ6 k).2.2.1 = some (tyJ6 k) := by decide +kernel
abbrev cJ6_bitCount_0f7a4 : ByteArray := prog_12_method_49_code
def yJ6_bitCount_0f7a4 : MethodName := ⟨RJ6, "bitCount", "(I)I"⟩
def RJxab1ab : String := "java/lang/Iterable"
def TJxab1ab : u_T := fun k => match k with
  | _ => ("", "", "", false)
def tyJxab1ab : Nat → FieldType := fun k => match k with
  | _ => .int
theorem nmJxab1ab : ∀ a, a < 0 → ∀ b, b < 0 → a ≠ b → (TJxab1ab a).2.1 ≠ (TJxab1ab b).2.1 := by decide +kernel
theorem tyJxab1ab_ok : ∀ k, k < 0 → parseFieldDescriptor (TJxab1ab k).2.2.1 = some (tyJxab1ab k) := by decide +kernel
def RJ9 : String := "java/lang/Math"
def TJ9 : u_T := fun k => match k with
  | _ => ("", "", "", false)
def tyJ9 : Nat → FieldType := fun k => match k with
  | _ => .int
theorem nmJ9 : ∀ a, a < 0 → ∀ b, b < 0 → a ≠ b → (TJ9 a).2.1 ≠ (TJ9 b).2.1 := by decide +kernel
theorem tyJ9_ok : ∀ k, k < 0 → parseFieldDescriptor (TJ9 k).2.2.1 = some (tyJ9 k) := by decide +kernel
abbrev cJ9_abs_0f7a4 : ByteArray := prog_14_method_59_code
def yJ9_abs_0f7a4 : MethodName := ⟨RJ9, "abs", "(I)I"⟩
abbrev cJ9_max_7cf53 : ByteArray := prog_14_method_65_code
def yJ9_max_7cf53 : MethodName := ⟨RJ9, "max", "(II)I"⟩
abbrev cJ9_min_7cf53 : ByteArray := prog_14_method_69_code
def yJ9_min_7cf53 : MethodName := ⟨RJ9, "min", "(II)I"⟩
def RJ0 : String := "java/lang/String"
def TJ0 : u_T := fun k => match k with
  | _ => ("", "", "", false)
def tyJ0 : Nat → FieldType := fun k => match k with
  | _ => .int
theorem nmJ0 : ∀ a, a < 0 → ∀ b, b < 0 → a ≠ b → (TJ0 a).2.1 ≠ (TJ0 b).2.1 := by decide +kernel
theorem tyJ0_ok : ∀ k, k < 0 → parseFieldDescriptor (TJ0 k).2.2.1 = some (tyJ0 k) := by decide +kernel
def RJ10 : String := "java/lang/System"
def TJ10 : u_T := fun k => match k with
  | _ => ("", "", "", false)
def tyJ10 : Nat → FieldType := fun k => match k with
  | _ => .int
theorem nmJ10 : ∀ a, a < 0 → ∀ b, b < 0 → a ≠ b → (TJ10 a).2.1 ≠ (TJ10 b).2.1 := by decide +kernel
theorem tyJ10_ok : ∀ k, k < 0 → parseFieldDescriptor (TJ10 k).2.2.1 = some (tyJ10 k) := by decide +kernel
def RJxa1e45 : String := "java/util/AbstractCollection"
def TJxa1e45 : u_T := fun k => match k with
  | _ => ("", "", "", false)
def tyJxa1e45 : Nat → FieldType := fun k => match k with
  | _ => .int
theorem nmJxa1e45 : ∀ a, a < 0 → ∀ b, b < 0 → a ≠ b → (TJxa1e45 a).2.1 ≠ (TJxa1e45 b).2.1 := by decide +kernel
theorem tyJxa1e45_ok : ∀ k, k < 0 → parseFieldDescriptor (TJxa1e45 k).2.2.1 = some (tyJxa1e45 k) := by decide +kernel
abbrev cJxa1e45_init_da8c8 : ByteArray := prog_19_method_1_code
def yJxa1e45_init_da8c8 : MethodName := ⟨RJxa1e45, "<init>", "()V"⟩
def RJxc12de : String := "java/util/AbstractList"
def TJxc12de : u_T := fun k => match k with
  | _ => ("", "", "", false)
def tyJxc12de : Nat → FieldType := fun k => match k with
  | _ => .int
theorem nmJxc12de : ∀ a, a < 0 → ∀ b, b < 0 → a ≠ b → (TJxc12de a).2.1 ≠ (TJxc12de b).2.1 := by decide +kernel
theorem tyJxc12de_ok : ∀ k, k < 0 → parseFieldDescriptor (TJxc12de k).2.2.1 = some (tyJxc12de k) := by decide +kernel
abbrev cJxc12de_init_da8c8 : ByteArray := prog_20_method_1_code
def yJxc12de_init_da8c8 : MethodName := ⟨RJxc12de, "<init>", "()V"⟩
def RJx4a65c : String := "java/util/ArrayList"
def TJx4a65c : u_T := fun k => match k with
  | 0 => ("java/util/AbstractList", "modCount", "I", false)
  | 1 => ("java/util/ArrayList", "elementData", "[Ljava/lang/Object;", false)
  | _ => ("java/util/ArrayList", "size", "I", false)
def tyJx4a65c : Nat → FieldType := fun k => match k with
  | 0 => .int
  | 1 => .array (.object "java/lang/Object")
  | _ => .int
theorem nmJx4a65c : ∀ a, a < 3 → ∀ b, b < 3 → a ≠ b → (TJx4a65c a).2.1 ≠ (TJx4a65c b).2.1 := by decide +kernel
theorem tyJx4a65c_ok : ∀ k, k < 3 → parseFieldDescriptor (TJx4a65c k).2.2.1 = some (tyJx4a65c k) := by decide +kernel
abbrev cJx4a65c_init_da8c8 : ByteArray := prog_21_method_2_code
def yJx4a65c_init_da8c8 : MethodName := ⟨RJx4a65c, "<init>", "()V"⟩
abbrev cJx4a65c_grow_92f84 : ByteArray := prog_21_method_6_code
def yJx4a65c_grow_92f84 : MethodName := ⟨RJx4a65c, "grow", "(I)[Ljava/lang/Object;"⟩
abbrev cJx4a65c_grow_d5877 : ByteArray := prog_21_method_7_code
def yJx4a65c_grow_d5877 : MethodName := ⟨RJx4a65c, "grow", "()[Ljava/lang/Object;"⟩
abbrev cJx4a65c_size_8abf5 : ByteArray := prog_21_method_8_code
def yJx4a65c_size_8abf5 : MethodName := ⟨RJx4a65c, "size", "()I"⟩
abbrev cJx4a65c_elementData_915e3 : ByteArray := prog_21_method_18_code
def yJx4a65c_elementData_915e3 : MethodName := ⟨RJx4a65c, "elementData", "(I)Ljava/lang/Object;"⟩
abbrev cJx4a65c_get_915e3 : ByteArray := prog_21_method_20_code
def yJx4a65c_get_915e3 : MethodName := ⟨RJx4a65c, "get", "(I)Ljava/lang/Object;"⟩
abbrev cJx4a65c_add_72be8 : ByteArray := prog_21_method_24_code
def yJx4a65c_add_72be8 : MethodName := ⟨RJx4a65c, "add", "(Ljava/lang/Object;[Ljava/lang/Object;I)V"⟩
abbrev cJx4a65c_add_9ea2d : ByteArray := prog_21_method_25_code
def yJx4a65c_add_9ea2d : MethodName := ⟨RJx4a65c, "add", "(Ljava/lang/Object;)Z"⟩
def RJ7 : String := "java/util/Arrays"
def TJ7 : u_T := fun k => match k with
  | _ => ("", "", "", false)
def tyJ7 : Nat → FieldType := fun k => match k with
  | _ => .int
theorem nmJ7 : ∀ a, a < 0 → ∀ b, b < 0 → a ≠ b → (TJ7 a).2.1 ≠ (TJ7 b).2.1 := by decide +kernel
theorem tyJ7_ok : ∀ k, k < 0 → parseFieldDescriptor (TJ7 k).2.2.1 = some (tyJ7 k) := by decide +kernel
abbrev cJ7_copyOf_1904c : ByteArray := prog_22_method_119_code
def yJ7_copyOf_1904c : MethodName := ⟨RJ7, "copyOf", "([Ljava/lang/Object;I)[Ljava/lang/Object;"⟩
abbrev cJ7_copyOf_6403c : ByteArray := prog_22_method_120_code
def yJ7_copyOf_6403c : MethodName := ⟨RJ7, "copyOf", "([Ljava/lang/Object;ILjava/lang/Class;)[Ljava/lang/Object;"⟩
def RJx5ef63 : String := "java/util/Collection"
def TJx5ef63 : u_T := fun k => match k with
  | _ => ("", "", "", false)
def tyJx5ef63 : Nat → FieldType := fun k => match k with
  | _ => .int
theorem nmJx5ef63 : ∀ a, a < 0 → ∀ b, b < 0 → a ≠ b → (TJx5ef63 a).2.1 ≠ (TJx5ef63 b).2.1 := by decide +kernel
theorem tyJx5ef63_ok : ∀ k, k < 0 → parseFieldDescriptor (TJx5ef63 k).2.2.1 = some (tyJx5ef63 k) := by decide +kernel
def RJxbd725 : String := "java/util/List"
def TJxbd725 : u_T := fun k => match k with
  | _ => ("", "", "", false)
def tyJxbd725 : Nat → FieldType := fun k => match k with
  | _ => .int
theorem nmJxbd725 : ∀ a, a < 0 → ∀ b, b < 0 → a ≠ b → (TJxbd725 a).2.1 ≠ (TJxbd725 b).2.1 := by decide +kernel
theorem tyJxbd725_ok : ∀ k, k < 0 → parseFieldDescriptor (TJxbd725 k).2.2.1 = some (tyJxbd725 k) := by decide +kernel
def RJ15 : String := "java/util/Objects"
def TJ15 : u_T := fun k => match k with
  | _ => ("", "", "", false)
def tyJ15 : Nat → FieldType := fun k => match k with
  | _ => .int
theorem nmJ15 : ∀ a, a < 0 → ∀ b, b < 0 → a ≠ b → (TJ15 a).2.1 ≠ (TJ15 b).2.1 := by decide +kernel
theorem tyJ15_ok : ∀ k, k < 0 → parseFieldDescriptor (TJ15 k).2.2.1 = some (tyJ15 k) := by decide +kernel
abbrev cJ15_checkIndex_7cf53 : ByteArray := prog_25_method_17_code
def yJ15_checkIndex_7cf53 : MethodName := ⟨RJ15, "checkIndex", "(II)I"⟩
def RJxf0a74 : String := "java/util/RandomAccess"
def TJxf0a74 : u_T := fun k => match k with
  | _ => ("", "", "", false)
def tyJxf0a74 : Nat → FieldType := fun k => match k with
  | _ => .int
theorem nmJxf0a74 : ∀ a, a < 0 → ∀ b, b < 0 → a ≠ b → (TJxf0a74 a).2.1 ≠ (TJxf0a74 b).2.1 := by decide +kernel
theorem tyJxf0a74_ok : ∀ k, k < 0 → parseFieldDescriptor (TJxf0a74 k).2.2.1 = some (tyJxf0a74 k) := by decide +kernel
def RJxa66e6 : String := "java/util/SequencedCollection"
def TJxa66e6 : u_T := fun k => match k with
  | _ => ("", "", "", false)
def tyJxa66e6 : Nat → FieldType := fun k => match k with
  | _ => .int
theorem nmJxa66e6 : ∀ a, a < 0 → ∀ b, b < 0 → a ≠ b → (TJxa66e6 a).2.1 ≠ (TJxa66e6 b).2.1 := by decide +kernel
theorem tyJxa66e6_ok : ∀ k, k < 0 → parseFieldDescriptor (TJxa66e6 k).2.2.1 = some (tyJxa66e6 k) := by decide +kernel
def RJ8 : String := "jdk/internal/util/ArraysSupport"
def TJ8 : u_T := fun k => match k with
  | _ => ("", "", "", false)
def tyJ8 : Nat → FieldType := fun k => match k with
  | _ => .int
theorem nmJ8 : ∀ a, a < 0 → ∀ b, b < 0 → a ≠ b → (TJ8 a).2.1 ≠ (TJ8 b).2.1 := by decide +kernel
theorem tyJ8_ok : ∀ k, k < 0 → parseFieldDescriptor (TJ8 k).2.2.1 = some (tyJ8 k) := by decide +kernel
abbrev cJ8_newLength_cabcc : ByteArray := prog_28_method_27_code
def yJ8_newLength_cabcc : MethodName := ⟨RJ8, "newLength", "(III)I"⟩
abbrev cJ8_hugeLength_7cf53 : ByteArray := prog_28_method_28_code
def yJ8_hugeLength_7cf53 : MethodName := ⟨RJ8, "hugeLength", "(II)I"⟩
def RJ3 : String := "jdk/internal/util/Preconditions"
def TJ3 : u_T := fun k => match k with
  | _ => ("", "", "", false)
def tyJ3 : Nat → FieldType := fun k => match k with
  | _ => .int
theorem nmJ3 : ∀ a, a < 0 → ∀ b, b < 0 → a ≠ b → (TJ3 a).2.1 ≠ (TJ3 b).2.1 := by decide +kernel
theorem tyJ3_ok : ∀ k, k < 0 → parseFieldDescriptor (TJ3 k).2.2.1 = some (tyJ3 k) := by decide +kernel
abbrev cJ3_checkIndex_8e157 : ByteArray := prog_29_method_11_code
def yJ3_checkIndex_8e157 : MethodName := ⟨RJ3, "checkIndex", "(IILjava/util/function/BiFunction;)I"⟩
def RL : String := "CatEveningsLaw"
abbrev cL_setPiece : ByteArray := method_3_code
def yL_setPiece : MethodName := ⟨RL, "setPiece", "(LCatEvenings;II[J)I"⟩
abbrev cL_paw : ByteArray := method_4_code
def yL_paw : MethodName := ⟨RL, "paw", "(LCatEvenings;II[J)I"⟩
abbrev cL_undo : ByteArray := method_5_code
def yL_undo : MethodName := ⟨RL, "undo", "(LCatEvenings;I[J)I"⟩
abbrev cL_redo : ByteArray := method_6_code
def yL_redo : MethodName := ⟨RL, "redo", "(LCatEvenings;I[J)I"⟩
abbrev cL_goTo : ByteArray := method_7_code
def yL_goTo : MethodName := ⟨RL, "goTo", "(LCatEvenings;I[J)I"⟩
abbrev cL_placeOf : ByteArray := method_8_code
def yL_placeOf : MethodName := ⟨RL, "placeOf", "(LCatEvenings;I[J)I"⟩
abbrev cL_lies : ByteArray := method_9_code
def yL_lies : MethodName := ⟨RL, "lies", "(LCatEvenings;I[J)I"⟩
abbrev cL_pieceAt : ByteArray := method_10_code
def yL_pieceAt : MethodName := ⟨RL, "pieceAt", "(LCatEvenings;II[J)I"⟩
abbrev cL_canDo : ByteArray := method_11_code
def yL_canDo : MethodName := ⟨RL, "canDo", "(LCatEvenings;II[J)I"⟩
abbrev cL_hangsOn : ByteArray := method_12_code
def yL_hangsOn : MethodName := ⟨RL, "hangsOn", "(LCatEvenings;I[J)I"⟩
abbrev cL_kindOf : ByteArray := method_13_code
def yL_kindOf : MethodName := ⟨RL, "kindOf", "(LCatEvenings;I[J)I"⟩
abbrev cL_numberOf : ByteArray := method_14_code
def yL_numberOf : MethodName := ⟨RL, "numberOf", "(LCatEvenings;I[J)I"⟩
abbrev cL_depthOf : ByteArray := method_15_code
def yL_depthOf : MethodName := ⟨RL, "depthOf", "(LCatEvenings;I[J)I"⟩
abbrev cL_branches : ByteArray := method_16_code
def yL_branches : MethodName := ⟨RL, "branches", "(LCatEvenings;I[J)I"⟩
abbrev cL_behind : ByteArray := method_17_code
def yL_behind : MethodName := ⟨RL, "behind", "(LCatEvenings;I[J)I"⟩
abbrev cL_again : ByteArray := method_18_code
def yL_again : MethodName := ⟨RL, "again", "(LCatEvenings;I[J)I"⟩
abbrev cL_meet : ByteArray := method_19_code
def yL_meet : MethodName := ⟨RL, "meet", "(LCatEvenings;II[J)I"⟩
abbrev cL_apart : ByteArray := method_20_code
def yL_apart : MethodName := ⟨RL, "apart", "(LCatEvenings;II[J)I"⟩
abbrev cL_placeIn : ByteArray := method_21_code
def yL_placeIn : MethodName := ⟨RL, "placeIn", "(LCatEvenings;II[J)I"⟩
abbrev cL_lyingIn : ByteArray := method_22_code
def yL_lyingIn : MethodName := ⟨RL, "lyingIn", "(LCatEvenings;I[J)I"⟩
abbrev cL_areAlike : ByteArray := method_23_code
def yL_areAlike : MethodName := ⟨RL, "areAlike", "(LCatEvenings;II[J)I"⟩
abbrev cL_law : ByteArray := code
def yL_law : MethodName := ⟨RL, "law", "([I)Z"⟩
abbrev vwCl : List vw_C := [(RJx4a65c, TJx4a65c, 3), (RX0, TX0, 9), (RX1, TX1, 3), (RX2, TX2, 2), (RX3, TX3, 11)]
theorem dX0_init_0 : decode cX0_init 0 = .ok (.aload_n 0, 1) := by decide +kernel
theorem dX0_init_1 : decode cX0_init 1 = .ok (.invokespecial 1, 3) := by decide +kernel
theorem dX0_init_4 : decode cX0_init 4 = .ok (.aload_n 0, 1) := by decide +kernel
theorem dX0_init_5 : decode cX0_init 5 = .ok (.aload_n 1, 1) := by decide +kernel
theorem dX0_init_6 : decode cX0_init 6 = .ok (.putfield 7, 3) := by decide +kernel
theorem dX0_init_9 : decode cX0_init 9 = .ok (.aload_n 0, 1) := by decide +kernel
theorem dX0_init_10 : decode cX0_init 10 = .ok (.iload_n 2, 1) := by decide +kernel
theorem dX0_init_11 : decode cX0_init 11 = .ok (.putfield 13, 3) := by decide +kernel
theorem dX0_init_14 : decode cX0_init 14 = .ok (.aload_n 0, 1) := by decide +kernel
theorem dX0_init_15 : decode cX0_init 15 = .ok (.iload_n 3, 1) := by decide +kernel
theorem dX0_init_16 : decode cX0_init 16 = .ok (.putfield 17, 3) := by decide +kernel
theorem dX0_init_19 : decode cX0_init 19 = .ok (.aload_n 0, 1) := by decide +kernel
theorem dX0_init_20 : decode cX0_init 20 = .ok (.iload 4, 2) := by decide +kernel
theorem dX0_init_22 : decode cX0_init 22 = .ok (.putfield 20, 3) := by decide +kernel
theorem dX0_init_25 : decode cX0_init 25 = .ok (.aload_n 0, 1) := by decide +kernel
theorem dX0_init_26 : decode cX0_init 26 = .ok (.aload_n 1, 1) := by decide +kernel
theorem dX0_init_27 : decode cX0_init 27 = .ok (.ifnonnull 7, 3) := by decide +kernel
theorem dX0_init_30 : decode cX0_init 30 = .ok (.iconst 0, 1) := by decide +kernel
theorem dX0_init_31 : decode cX0_init 31 = .ok (.goto 9, 3) := by decide +kernel
theorem dX0_init_34 : decode cX0_init 34 = .ok (.aload_n 1, 1) := by decide +kernel
theorem dX0_init_35 : decode cX0_init 35 = .ok (.getfield 23, 3) := by decide +kernel
theorem dX0_init_38 : decode cX0_init 38 = .ok (.iconst 1, 1) := by decide +kernel
theorem dX0_init_39 : decode cX0_init 39 = .ok (.iadd, 1) := by decide +kernel
theorem dX0_init_40 : decode cX0_init 40 = .ok (.putfield 23, 3) := by decide +kernel
theorem dX0_init_43 : decode cX0_init 43 = .ok (.aload_n 0, 1) := by decide +kernel
theorem dX0_init_44 : decode cX0_init 44 = .ok (.aload 5, 2) := by decide +kernel
theorem dX0_init_46 : decode cX0_init 46 = .ok (.putfield 26, 3) := by decide +kernel
theorem dX0_init_49 : decode cX0_init 49 = .ok (.return_, 1) := by decide +kernel
theorem dX0_above_0 : decode cX0_above 0 = .ok (.aload_n 0, 1) := by decide +kernel
theorem dX0_above_1 : decode cX0_above 1 = .ok (.getfield 7, 3) := by decide +kernel
theorem dX0_above_4 : decode cX0_above 4 = .ok (.ifnonnull 7, 3) := by decide +kernel
theorem dX0_above_7 : decode cX0_above 7 = .ok (.aload_n 0, 1) := by decide +kernel
theorem dX0_above_8 : decode cX0_above 8 = .ok (.goto 7, 3) := by decide +kernel
theorem dX0_above_11 : decode cX0_above 11 = .ok (.aload_n 0, 1) := by decide +kernel
theorem dX0_above_12 : decode cX0_above 12 = .ok (.getfield 7, 3) := by decide +kernel
theorem dX0_above_15 : decode cX0_above 15 = .ok (.areturn, 1) := by decide +kernel
theorem dX0_isEnd_0 : decode cX0_isEnd 0 = .ok (.aload_n 0, 1) := by decide +kernel
theorem dX0_isEnd_1 : decode cX0_isEnd 1 = .ok (.getfield 30, 3) := by decide +kernel
theorem dX0_isEnd_4 : decode cX0_isEnd 4 = .ok (.ifnonnull 7, 3) := by decide +kernel
theorem dX0_isEnd_7 : decode cX0_isEnd 7 = .ok (.iconst 1, 1) := by decide +kernel
theorem dX0_isEnd_8 : decode cX0_isEnd 8 = .ok (.goto 4, 3) := by decide +kernel
theorem dX0_isEnd_11 : decode cX0_isEnd 11 = .ok (.iconst 0, 1) := by decide +kernel
theorem dX0_isEnd_12 : decode cX0_isEnd 12 = .ok (.ireturn, 1) := by decide +kernel
theorem dX0_countAbove_0 : decode cX0_countAbove 0 = .ok (.aload_n 0, 1) := by decide +kernel
theorem dX0_countAbove_1 : decode cX0_countAbove 1 = .ok (.getfield 7, 3) := by decide +kernel
theorem dX0_countAbove_4 : decode cX0_countAbove 4 = .ok (.ifnull 16, 3) := by decide +kernel
theorem dX0_countAbove_7 : decode cX0_countAbove 7 = .ok (.aload_n 0, 1) := by decide +kernel
theorem dX0_countAbove_8 : decode cX0_countAbove 8 = .ok (.getfield 7, 3) := by decide +kernel
theorem dX0_countAbove_11 : decode cX0_countAbove 11 = .ok (.dup, 1) := by decide +kernel
theorem dX0_countAbove_12 : decode cX0_countAbove 12 = .ok (.getfield 33, 3) := by decide +kernel
theorem dX0_countAbove_15 : decode cX0_countAbove 15 = .ok (.iconst 1, 1) := by decide +kernel
theorem dX0_countAbove_16 : decode cX0_countAbove 16 = .ok (.iadd, 1) := by decide +kernel
theorem dX0_countAbove_17 : decode cX0_countAbove 17 = .ok (.putfield 33, 3) := by decide +kernel
theorem dX0_countAbove_20 : decode cX0_countAbove 20 = .ok (.aload_n 0, 1) := by decide +kernel
theorem dX0_countAbove_21 : decode cX0_countAbove 21 = .ok (.getfield 7, 3) := by decide +kernel
theorem dX0_countAbove_24 : decode cX0_countAbove 24 = .ok (.astore_n 1, 1) := by decide +kernel
theorem dX0_countAbove_25 : decode cX0_countAbove 25 = .ok (.aload_n 1, 1) := by decide +kernel
theorem dX0_countAbove_26 : decode cX0_countAbove 26 = .ok (.ifnull 21, 3) := by decide +kernel
theorem dX0_countAbove_29 : decode cX0_countAbove 29 = .ok (.aload_n 1, 1) := by decide +kernel
theorem dX0_countAbove_30 : decode cX0_countAbove 30 = .ok (.dup, 1) := by decide +kernel
theorem dX0_countAbove_31 : decode cX0_countAbove 31 = .ok (.getfield 36, 3) := by decide +kernel
theorem dX0_countAbove_34 : decode cX0_countAbove 34 = .ok (.iconst 1, 1) := by decide +kernel
theorem dX0_countAbove_35 : decode cX0_countAbove 35 = .ok (.iadd, 1) := by decide +kernel
theorem dX0_countAbove_36 : decode cX0_countAbove 36 = .ok (.putfield 36, 3) := by decide +kernel
theorem dX0_countAbove_39 : decode cX0_countAbove 39 = .ok (.aload_n 1, 1) := by decide +kernel
theorem dX0_countAbove_40 : decode cX0_countAbove 40 = .ok (.getfield 7, 3) := by decide +kernel
theorem dX0_countAbove_43 : decode cX0_countAbove 43 = .ok (.astore_n 1, 1) := by decide +kernel
theorem dX0_countAbove_44 : decode cX0_countAbove 44 = .ok (.goto (-19), 3) := by decide +kernel
theorem dX0_countAbove_47 : decode cX0_countAbove 47 = .ok (.return_, 1) := by decide +kernel
theorem dX0_pointToFromAbove_0 : decode cX0_pointToFromAbove 0 = .ok (.aload_n 0, 1) := by decide +kernel
theorem dX0_pointToFromAbove_1 : decode cX0_pointToFromAbove 1 = .ok (.astore_n 1, 1) := by decide +kernel
theorem dX0_pointToFromAbove_2 : decode cX0_pointToFromAbove 2 = .ok (.aload_n 0, 1) := by decide +kernel
theorem dX0_pointToFromAbove_3 : decode cX0_pointToFromAbove 3 = .ok (.getfield 7, 3) := by decide +kernel
theorem dX0_pointToFromAbove_6 : decode cX0_pointToFromAbove 6 = .ok (.astore_n 2, 1) := by decide +kernel
theorem dX0_pointToFromAbove_7 : decode cX0_pointToFromAbove 7 = .ok (.aload_n 2, 1) := by decide +kernel
theorem dX0_pointToFromAbove_8 : decode cX0_pointToFromAbove 8 = .ok (.ifnull 18, 3) := by decide +kernel
theorem dX0_pointToFromAbove_11 : decode cX0_pointToFromAbove 11 = .ok (.aload_n 2, 1) := by decide +kernel
theorem dX0_pointToFromAbove_12 : decode cX0_pointToFromAbove 12 = .ok (.aload_n 1, 1) := by decide +kernel
theorem dX0_pointToFromAbove_13 : decode cX0_pointToFromAbove 13 = .ok (.putfield 30, 3) := by decide +kernel
theorem dX0_pointToFromAbove_16 : decode cX0_pointToFromAbove 16 = .ok (.aload_n 2, 1) := by decide +kernel
theorem dX0_pointToFromAbove_17 : decode cX0_pointToFromAbove 17 = .ok (.astore_n 1, 1) := by decide +kernel
theorem dX0_pointToFromAbove_18 : decode cX0_pointToFromAbove 18 = .ok (.aload_n 2, 1) := by decide +kernel
theorem dX0_pointToFromAbove_19 : decode cX0_pointToFromAbove 19 = .ok (.getfield 7, 3) := by decide +kernel
theorem dX0_pointToFromAbove_22 : decode cX0_pointToFromAbove 22 = .ok (.astore_n 2, 1) := by decide +kernel
theorem dX0_pointToFromAbove_23 : decode cX0_pointToFromAbove 23 = .ok (.goto (-16), 3) := by decide +kernel
theorem dX0_pointToFromAbove_26 : decode cX0_pointToFromAbove 26 = .ok (.return_, 1) := by decide +kernel
theorem dX1_init_0 : decode cX1_init 0 = .ok (.aload_n 0, 1) := by decide +kernel
theorem dX1_init_1 : decode cX1_init 1 = .ok (.invokespecial 3, 3) := by decide +kernel
theorem dX1_init_4 : decode cX1_init 4 = .ok (.aload_n 0, 1) := by decide +kernel
theorem dX1_init_5 : decode cX1_init 5 = .ok (.iload_n 1, 1) := by decide +kernel
theorem dX1_init_6 : decode cX1_init 6 = .ok (.putfield 9, 3) := by decide +kernel
theorem dX1_init_9 : decode cX1_init 9 = .ok (.aload_n 0, 1) := by decide +kernel
theorem dX1_init_10 : decode cX1_init 10 = .ok (.aload_n 2, 1) := by decide +kernel
theorem dX1_init_11 : decode cX1_init 11 = .ok (.putfield 15, 3) := by decide +kernel
theorem dX1_init_14 : decode cX1_init 14 = .ok (.aload_n 0, 1) := by decide +kernel
theorem dX1_init_15 : decode cX1_init 15 = .ok (.iload_n 3, 1) := by decide +kernel
theorem dX1_init_16 : decode cX1_init 16 = .ok (.putfield 19, 3) := by decide +kernel
theorem dX1_init_19 : decode cX1_init 19 = .ok (.return_, 1) := by decide +kernel
theorem dX1_has_0 : decode cX1_has 0 = .ok (.iload_n 1, 1) := by decide +kernel
theorem dX1_has_1 : decode cX1_has 1 = .ok (.ifCond .lt 16, 3) := by decide +kernel
theorem dX1_has_4 : decode cX1_has 4 = .ok (.iload_n 1, 1) := by decide +kernel
theorem dX1_has_5 : decode cX1_has 5 = .ok (.aload_n 0, 1) := by decide +kernel
theorem dX1_has_6 : decode cX1_has 6 = .ok (.getfield 15, 3) := by decide +kernel
theorem dX1_has_9 : decode cX1_has 9 = .ok (.arraylength, 1) := by decide +kernel
theorem dX1_has_10 : decode cX1_has 10 = .ok (.if_icmp .ge 7, 3) := by decide +kernel
theorem dX1_has_13 : decode cX1_has 13 = .ok (.iconst 1, 1) := by decide +kernel
theorem dX1_has_14 : decode cX1_has 14 = .ok (.goto 4, 3) := by decide +kernel
theorem dX1_has_17 : decode cX1_has 17 = .ok (.iconst 0, 1) := by decide +kernel
theorem dX1_has_18 : decode cX1_has 18 = .ok (.ireturn, 1) := by decide +kernel
theorem dX1_isLying_0 : decode cX1_isLying 0 = .ok (.aload_n 0, 1) := by decide +kernel
theorem dX1_isLying_1 : decode cX1_isLying 1 = .ok (.iload_n 1, 1) := by decide +kernel
theorem dX1_isLying_2 : decode cX1_isLying 2 = .ok (.invokevirtual 22, 3) := by decide +kernel
theorem dX1_isLying_5 : decode cX1_isLying 5 = .ok (.ifCond .eq 19, 3) := by decide +kernel
theorem dX1_isLying_8 : decode cX1_isLying 8 = .ok (.aload_n 0, 1) := by decide +kernel
theorem dX1_isLying_9 : decode cX1_isLying 9 = .ok (.getfield 19, 3) := by decide +kernel
theorem dX1_isLying_12 : decode cX1_isLying 12 = .ok (.iload_n 1, 1) := by decide +kernel
theorem dX1_isLying_13 : decode cX1_isLying 13 = .ok (.ishr, 1) := by decide +kernel
theorem dX1_isLying_14 : decode cX1_isLying 14 = .ok (.iconst 1, 1) := by decide +kernel
theorem dX1_isLying_15 : decode cX1_isLying 15 = .ok (.iand, 1) := by decide +kernel
theorem dX1_isLying_16 : decode cX1_isLying 16 = .ok (.iconst 1, 1) := by decide +kernel
theorem dX1_isLying_17 : decode cX1_isLying 17 = .ok (.if_icmp .ne 7, 3) := by decide +kernel
theorem dX1_isLying_20 : decode cX1_isLying 20 = .ok (.iconst 1, 1) := by decide +kernel
theorem dX1_isLying_21 : decode cX1_isLying 21 = .ok (.goto 4, 3) := by decide +kernel
theorem dX1_isLying_24 : decode cX1_isLying 24 = .ok (.iconst 0, 1) := by decide +kernel
theorem dX1_isLying_25 : decode cX1_isLying 25 = .ok (.ireturn, 1) := by decide +kernel
theorem dX1_isStanding_0 : decode cX1_isStanding 0 = .ok (.aload_n 0, 1) := by decide +kernel
theorem dX1_isStanding_1 : decode cX1_isStanding 1 = .ok (.iload_n 1, 1) := by decide +kernel
theorem dX1_isStanding_2 : decode cX1_isStanding 2 = .ok (.invokevirtual 22, 3) := by decide +kernel
theorem dX1_isStanding_5 : decode cX1_isStanding 5 = .ok (.ifCond .eq 15, 3) := by decide +kernel
theorem dX1_isStanding_8 : decode cX1_isStanding 8 = .ok (.aload_n 0, 1) := by decide +kernel
theorem dX1_isStanding_9 : decode cX1_isStanding 9 = .ok (.iload_n 1, 1) := by decide +kernel
theorem dX1_isStanding_10 : decode cX1_isStanding 10 = .ok (.invokevirtual 26, 3) := by decide +kernel
theorem dX1_isStanding_13 : decode cX1_isStanding 13 = .ok (.ifCond .ne 7, 3) := by decide +kernel
theorem dX1_isStanding_16 : decode cX1_isStanding 16 = .ok (.iconst 1, 1) := by decide +kernel
theorem dX1_isStanding_17 : decode cX1_isStanding 17 = .ok (.goto 4, 3) := by decide +kernel
theorem dX1_isStanding_20 : decode cX1_isStanding 20 = .ok (.iconst 0, 1) := by decide +kernel
theorem dX1_isStanding_21 : decode cX1_isStanding 21 = .ok (.ireturn, 1) := by decide +kernel
theorem dX1_countLying_0 : decode cX1_countLying 0 = .ok (.aload_n 0, 1) := by decide +kernel
theorem dX1_countLying_1 : decode cX1_countLying 1 = .ok (.getfield 19, 3) := by decide +kernel
theorem dX1_countLying_4 : decode cX1_countLying 4 = .ok (.invokestatic 29, 3) := by decide +kernel
theorem dX1_countLying_7 : decode cX1_countLying 7 = .ok (.ireturn, 1) := by decide +kernel
theorem dX1_pieceOn_0 : decode cX1_pieceOn 0 = .ok (.iconst 0, 1) := by decide +kernel
theorem dX1_pieceOn_1 : decode cX1_pieceOn 1 = .ok (.istore_n 2, 1) := by decide +kernel
theorem dX1_pieceOn_2 : decode cX1_pieceOn 2 = .ok (.iload_n 2, 1) := by decide +kernel
theorem dX1_pieceOn_3 : decode cX1_pieceOn 3 = .ok (.aload_n 0, 1) := by decide +kernel
theorem dX1_pieceOn_4 : decode cX1_pieceOn 4 = .ok (.getfield 15, 3) := by decide +kernel
theorem dX1_pieceOn_7 : decode cX1_pieceOn 7 = .ok (.arraylength, 1) := by decide +kernel
theorem dX1_pieceOn_8 : decode cX1_pieceOn 8 = .ok (.if_icmp .ge 21, 3) := by decide +kernel
theorem dX1_pieceOn_11 : decode cX1_pieceOn 11 = .ok (.aload_n 0, 1) := by decide +kernel
theorem dX1_pieceOn_12 : decode cX1_pieceOn 12 = .ok (.getfield 15, 3) := by decide +kernel
theorem dX1_pieceOn_15 : decode cX1_pieceOn 15 = .ok (.iload_n 2, 1) := by decide +kernel
theorem dX1_pieceOn_16 : decode cX1_pieceOn 16 = .ok (.iaload, 1) := by decide +kernel
theorem dX1_pieceOn_17 : decode cX1_pieceOn 17 = .ok (.iload_n 1, 1) := by decide +kernel
theorem dX1_pieceOn_18 : decode cX1_pieceOn 18 = .ok (.if_icmp .ne 5, 3) := by decide +kernel
theorem dX1_pieceOn_21 : decode cX1_pieceOn 21 = .ok (.iload_n 2, 1) := by decide +kernel
theorem dX1_pieceOn_22 : decode cX1_pieceOn 22 = .ok (.ireturn, 1) := by decide +kernel
theorem dX1_pieceOn_23 : decode cX1_pieceOn 23 = .ok (.iinc 2 1, 3) := by decide +kernel
theorem dX1_pieceOn_26 : decode cX1_pieceOn 26 = .ok (.goto (-24), 3) := by decide +kernel
theorem dX1_pieceOn_29 : decode cX1_pieceOn 29 = .ok (.iconst (-1), 1) := by decide +kernel
theorem dX1_pieceOn_30 : decode cX1_pieceOn 30 = .ok (.ireturn, 1) := by decide +kernel
theorem dX1_isLike_0 : decode cX1_isLike 0 = .ok (.aload_n 0, 1) := by decide +kernel
theorem dX1_isLike_1 : decode cX1_isLike 1 = .ok (.getfield 9, 3) := by decide +kernel
theorem dX1_isLike_4 : decode cX1_isLike 4 = .ok (.aload_n 1, 1) := by decide +kernel
theorem dX1_isLike_5 : decode cX1_isLike 5 = .ok (.getfield 9, 3) := by decide +kernel
theorem dX1_isLike_8 : decode cX1_isLike 8 = .ok (.if_icmp .ne 27, 3) := by decide +kernel
theorem dX1_isLike_11 : decode cX1_isLike 11 = .ok (.aload_n 0, 1) := by decide +kernel
theorem dX1_isLike_12 : decode cX1_isLike 12 = .ok (.getfield 19, 3) := by decide +kernel
theorem dX1_isLike_15 : decode cX1_isLike 15 = .ok (.aload_n 1, 1) := by decide +kernel
theorem dX1_isLike_16 : decode cX1_isLike 16 = .ok (.getfield 19, 3) := by decide +kernel
theorem dX1_isLike_19 : decode cX1_isLike 19 = .ok (.if_icmp .ne 16, 3) := by decide +kernel
theorem dX1_isLike_22 : decode cX1_isLike 22 = .ok (.aload_n 0, 1) := by decide +kernel
theorem dX1_isLike_23 : decode cX1_isLike 23 = .ok (.getfield 15, 3) := by decide +kernel
theorem dX1_isLike_26 : decode cX1_isLike 26 = .ok (.arraylength, 1) := by decide +kernel
theorem dX1_isLike_27 : decode cX1_isLike 27 = .ok (.aload_n 1, 1) := by decide +kernel
theorem dX1_isLike_28 : decode cX1_isLike 28 = .ok (.getfield 15, 3) := by decide +kernel
theorem dX1_isLike_31 : decode cX1_isLike 31 = .ok (.arraylength, 1) := by decide +kernel
theorem dX1_isLike_32 : decode cX1_isLike 32 = .ok (.if_icmp .eq 5, 3) := by decide +kernel
theorem dX1_isLike_35 : decode cX1_isLike 35 = .ok (.iconst 0, 1) := by decide +kernel
theorem dX1_isLike_36 : decode cX1_isLike 36 = .ok (.ireturn, 1) := by decide +kernel
theorem dX1_isLike_37 : decode cX1_isLike 37 = .ok (.iconst 0, 1) := by decide +kernel
theorem dX1_isLike_38 : decode cX1_isLike 38 = .ok (.istore_n 2, 1) := by decide +kernel
theorem dX1_isLike_39 : decode cX1_isLike 39 = .ok (.iload_n 2, 1) := by decide +kernel
theorem dX1_isLike_40 : decode cX1_isLike 40 = .ok (.aload_n 0, 1) := by decide +kernel
theorem dX1_isLike_41 : decode cX1_isLike 41 = .ok (.getfield 15, 3) := by decide +kernel
theorem dX1_isLike_44 : decode cX1_isLike 44 = .ok (.arraylength, 1) := by decide +kernel
theorem dX1_isLike_45 : decode cX1_isLike 45 = .ok (.if_icmp .ge 35, 3) := by decide +kernel
theorem dX1_isLike_48 : decode cX1_isLike 48 = .ok (.iload_n 2, 1) := by decide +kernel
theorem dX1_isLike_49 : decode cX1_isLike 49 = .ok (.aload_n 1, 1) := by decide +kernel
theorem dX1_isLike_50 : decode cX1_isLike 50 = .ok (.getfield 15, 3) := by decide +kernel
theorem dX1_isLike_53 : decode cX1_isLike 53 = .ok (.arraylength, 1) := by decide +kernel
theorem dX1_isLike_54 : decode cX1_isLike 54 = .ok (.if_icmp .ge 26, 3) := by decide +kernel
theorem dX1_isLike_57 : decode cX1_isLike 57 = .ok (.aload_n 0, 1) := by decide +kernel
theorem dX1_isLike_58 : decode cX1_isLike 58 = .ok (.getfield 15, 3) := by decide +kernel
theorem dX1_isLike_61 : decode cX1_isLike 61 = .ok (.iload_n 2, 1) := by decide +kernel
theorem dX1_isLike_62 : decode cX1_isLike 62 = .ok (.iaload, 1) := by decide +kernel
theorem dX1_isLike_63 : decode cX1_isLike 63 = .ok (.aload_n 1, 1) := by decide +kernel
theorem dX1_isLike_64 : decode cX1_isLike 64 = .ok (.getfield 15, 3) := by decide +kernel
theorem dX1_isLike_67 : decode cX1_isLike 67 = .ok (.iload_n 2, 1) := by decide +kernel
theorem dX1_isLike_68 : decode cX1_isLike 68 = .ok (.iaload, 1) := by decide +kernel
theorem dX1_isLike_69 : decode cX1_isLike 69 = .ok (.if_icmp .eq 5, 3) := by decide +kernel
theorem dX1_isLike_72 : decode cX1_isLike 72 = .ok (.iconst 0, 1) := by decide +kernel
theorem dX1_isLike_73 : decode cX1_isLike 73 = .ok (.ireturn, 1) := by decide +kernel
theorem dX1_isLike_74 : decode cX1_isLike 74 = .ok (.iinc 2 1, 3) := by decide +kernel
theorem dX1_isLike_77 : decode cX1_isLike 77 = .ok (.goto (-38), 3) := by decide +kernel
theorem dX1_isLike_80 : decode cX1_isLike 80 = .ok (.iconst 1, 1) := by decide +kernel
theorem dX1_isLike_81 : decode cX1_isLike 81 = .ok (.ireturn, 1) := by decide +kernel
theorem dX1_withPieceOn_0 : decode cX1_withPieceOn 0 = .ok (.aload_n 0, 1) := by decide +kernel
theorem dX1_withPieceOn_1 : decode cX1_withPieceOn 1 = .ok (.getfield 15, 3) := by decide +kernel
theorem dX1_withPieceOn_4 : decode cX1_withPieceOn 4 = .ok (.arraylength, 1) := by decide +kernel
theorem dX1_withPieceOn_5 : decode cX1_withPieceOn 5 = .ok (.iconst 1, 1) := by decide +kernel
theorem dX1_withPieceOn_6 : decode cX1_withPieceOn 6 = .ok (.iadd, 1) := by decide +kernel
theorem dX1_withPieceOn_7 : decode cX1_withPieceOn 7 = .ok (.newarray .int, 2) := by decide +kernel
theorem dX1_withPieceOn_9 : decode cX1_withPieceOn 9 = .ok (.astore_n 2, 1) := by decide +kernel
theorem dX1_withPieceOn_10 : decode cX1_withPieceOn 10 = .ok (.aload_n 0, 1) := by decide +kernel
theorem dX1_withPieceOn_11 : decode cX1_withPieceOn 11 = .ok (.getfield 15, 3) := by decide +kernel
theorem dX1_withPieceOn_14 : decode cX1_withPieceOn 14 = .ok (.iconst 0, 1) := by decide +kernel
theorem dX1_withPieceOn_15 : decode cX1_withPieceOn 15 = .ok (.aload_n 2, 1) := by decide +kernel
theorem dX1_withPieceOn_16 : decode cX1_withPieceOn 16 = .ok (.iconst 0, 1) := by decide +kernel
theorem dX1_withPieceOn_17 : decode cX1_withPieceOn 17 = .ok (.aload_n 0, 1) := by decide +kernel
theorem dX1_withPieceOn_18 : decode cX1_withPieceOn 18 = .ok (.getfield 15, 3) := by decide +kernel
theorem dX1_withPieceOn_21 : decode cX1_withPieceOn 21 = .ok (.arraylength, 1) := by decide +kernel
theorem dX1_withPieceOn_22 : decode cX1_withPieceOn 22 = .ok (.invokestatic 35, 3) := by decide +kernel
theorem dX1_withPieceOn_25 : decode cX1_withPieceOn 25 = .ok (.aload_n 2, 1) := by decide +kernel
theorem dX1_withPieceOn_26 : decode cX1_withPieceOn 26 = .ok (.aload_n 0, 1) := by decide +kernel
theorem dX1_withPieceOn_27 : decode cX1_withPieceOn 27 = .ok (.getfield 15, 3) := by decide +kernel
theorem dX1_withPieceOn_30 : decode cX1_withPieceOn 30 = .ok (.arraylength, 1) := by decide +kernel
theorem dX1_withPieceOn_31 : decode cX1_withPieceOn 31 = .ok (.iload_n 1, 1) := by decide +kernel
theorem dX1_withPieceOn_32 : decode cX1_withPieceOn 32 = .ok (.iastore, 1) := by decide +kernel
theorem dX1_withPieceOn_33 : decode cX1_withPieceOn 33 = .ok (.new 10, 3) := by decide +kernel
theorem dX1_withPieceOn_36 : decode cX1_withPieceOn 36 = .ok (.dup, 1) := by decide +kernel
theorem dX1_withPieceOn_37 : decode cX1_withPieceOn 37 = .ok (.aload_n 0, 1) := by decide +kernel
theorem dX1_withPieceOn_38 : decode cX1_withPieceOn 38 = .ok (.getfield 9, 3) := by decide +kernel
theorem dX1_withPieceOn_41 : decode cX1_withPieceOn 41 = .ok (.aload_n 2, 1) := by decide +kernel
theorem dX1_withPieceOn_42 : decode cX1_withPieceOn 42 = .ok (.aload_n 0, 1) := by decide +kernel
theorem dX1_withPieceOn_43 : decode cX1_withPieceOn 43 = .ok (.getfield 19, 3) := by decide +kernel
theorem dX1_withPieceOn_46 : decode cX1_withPieceOn 46 = .ok (.invokespecial 41, 3) := by decide +kernel
theorem dX1_withPieceOn_49 : decode cX1_withPieceOn 49 = .ok (.areturn, 1) := by decide +kernel
theorem dX1_after_0 : decode cX1_after 0 = .ok (.iload_n 1, 1) := by decide +kernel
theorem dX1_after_1 : decode cX1_after 1 = .ok (.tableswitch 55 0 3 #[31, 37, 43, 49], 31) := by decide +kernel
theorem dX1_after_32 : decode cX1_after 32 = .ok (.aload_n 0, 1) := by decide +kernel
theorem dX1_after_33 : decode cX1_after 33 = .ok (.iload_n 2, 1) := by decide +kernel
theorem dX1_after_34 : decode cX1_after 34 = .ok (.invokevirtual 44, 3) := by decide +kernel
theorem dX1_after_37 : decode cX1_after 37 = .ok (.areturn, 1) := by decide +kernel
theorem dX1_after_38 : decode cX1_after 38 = .ok (.aload_n 0, 1) := by decide +kernel
theorem dX1_after_39 : decode cX1_after 39 = .ok (.iload_n 2, 1) := by decide +kernel
theorem dX1_after_40 : decode cX1_after 40 = .ok (.invokevirtual 48, 3) := by decide +kernel
theorem dX1_after_43 : decode cX1_after 43 = .ok (.areturn, 1) := by decide +kernel
theorem dX1_after_44 : decode cX1_after 44 = .ok (.aload_n 0, 1) := by decide +kernel
theorem dX1_after_45 : decode cX1_after 45 = .ok (.iload_n 2, 1) := by decide +kernel
theorem dX1_after_46 : decode cX1_after 46 = .ok (.invokevirtual 51, 3) := by decide +kernel
theorem dX1_after_49 : decode cX1_after 49 = .ok (.areturn, 1) := by decide +kernel
theorem dX1_after_50 : decode cX1_after 50 = .ok (.aload_n 0, 1) := by decide +kernel
theorem dX1_after_51 : decode cX1_after 51 = .ok (.iload_n 2, 1) := by decide +kernel
theorem dX1_after_52 : decode cX1_after 52 = .ok (.invokevirtual 54, 3) := by decide +kernel
theorem dX1_after_55 : decode cX1_after 55 = .ok (.areturn, 1) := by decide +kernel
theorem dX1_after_56 : decode cX1_after 56 = .ok (.aconst_null, 1) := by decide +kernel
theorem dX1_after_57 : decode cX1_after 57 = .ok (.areturn, 1) := by decide +kernel
theorem dX1_afterStep_0 : decode cX1_afterStep 0 = .ok (.aload_n 0, 1) := by decide +kernel
theorem dX1_afterStep_1 : decode cX1_afterStep 1 = .ok (.getfield 9, 3) := by decide +kernel
theorem dX1_afterStep_4 : decode cX1_afterStep 4 = .ok (.iload_n 1, 1) := by decide +kernel
theorem dX1_afterStep_5 : decode cX1_afterStep 5 = .ok (.invokestatic 57, 3) := by decide +kernel
theorem dX1_afterStep_8 : decode cX1_afterStep 8 = .ok (.istore_n 2, 1) := by decide +kernel
theorem dX1_afterStep_9 : decode cX1_afterStep 9 = .ok (.iload_n 2, 1) := by decide +kernel
theorem dX1_afterStep_10 : decode cX1_afterStep 10 = .ok (.iconst (-1), 1) := by decide +kernel
theorem dX1_afterStep_11 : decode cX1_afterStep 11 = .ok (.if_icmp .ne 7, 3) := by decide +kernel
theorem dX1_afterStep_14 : decode cX1_afterStep 14 = .ok (.aconst_null, 1) := by decide +kernel
theorem dX1_afterStep_15 : decode cX1_afterStep 15 = .ok (.goto 19, 3) := by decide +kernel
theorem dX1_afterStep_18 : decode cX1_afterStep 18 = .ok (.new 10, 3) := by decide +kernel
theorem dX1_afterStep_21 : decode cX1_afterStep 21 = .ok (.dup, 1) := by decide +kernel
theorem dX1_afterStep_22 : decode cX1_afterStep 22 = .ok (.iload_n 2, 1) := by decide +kernel
theorem dX1_afterStep_23 : decode cX1_afterStep 23 = .ok (.aload_n 0, 1) := by decide +kernel
theorem dX1_afterStep_24 : decode cX1_afterStep 24 = .ok (.getfield 15, 3) := by decide +kernel
theorem dX1_afterStep_27 : decode cX1_afterStep 27 = .ok (.aload_n 0, 1) := by decide +kernel
theorem dX1_afterStep_28 : decode cX1_afterStep 28 = .ok (.getfield 19, 3) := by decide +kernel
theorem dX1_afterStep_31 : decode cX1_afterStep 31 = .ok (.invokespecial 41, 3) := by decide +kernel
theorem dX1_afterStep_34 : decode cX1_afterStep 34 = .ok (.areturn, 1) := by decide +kernel
theorem dX1_afterKnock_0 : decode cX1_afterKnock 0 = .ok (.aload_n 0, 1) := by decide +kernel
theorem dX1_afterKnock_1 : decode cX1_afterKnock 1 = .ok (.iload_n 1, 1) := by decide +kernel
theorem dX1_afterKnock_2 : decode cX1_afterKnock 2 = .ok (.invokevirtual 61, 3) := by decide +kernel
theorem dX1_afterKnock_5 : decode cX1_afterKnock 5 = .ok (.ifCond .eq 11, 3) := by decide +kernel
theorem dX1_afterKnock_8 : decode cX1_afterKnock 8 = .ok (.aload_n 0, 1) := by decide +kernel
theorem dX1_afterKnock_9 : decode cX1_afterKnock 9 = .ok (.iload_n 1, 1) := by decide +kernel
theorem dX1_afterKnock_10 : decode cX1_afterKnock 10 = .ok (.invokevirtual 64, 3) := by decide +kernel
theorem dX1_afterKnock_13 : decode cX1_afterKnock 13 = .ok (.ifCond .ne 5, 3) := by decide +kernel
theorem dX1_afterKnock_16 : decode cX1_afterKnock 16 = .ok (.aconst_null, 1) := by decide +kernel
theorem dX1_afterKnock_17 : decode cX1_afterKnock 17 = .ok (.areturn, 1) := by decide +kernel
theorem dX1_afterKnock_18 : decode cX1_afterKnock 18 = .ok (.new 10, 3) := by decide +kernel
theorem dX1_afterKnock_21 : decode cX1_afterKnock 21 = .ok (.dup, 1) := by decide +kernel
theorem dX1_afterKnock_22 : decode cX1_afterKnock 22 = .ok (.aload_n 0, 1) := by decide +kernel
theorem dX1_afterKnock_23 : decode cX1_afterKnock 23 = .ok (.getfield 9, 3) := by decide +kernel
theorem dX1_afterKnock_26 : decode cX1_afterKnock 26 = .ok (.aload_n 0, 1) := by decide +kernel
theorem dX1_afterKnock_27 : decode cX1_afterKnock 27 = .ok (.getfield 15, 3) := by decide +kernel
theorem dX1_afterKnock_30 : decode cX1_afterKnock 30 = .ok (.aload_n 0, 1) := by decide +kernel
theorem dX1_afterKnock_31 : decode cX1_afterKnock 31 = .ok (.getfield 19, 3) := by decide +kernel
theorem dX1_afterKnock_34 : decode cX1_afterKnock 34 = .ok (.iconst 1, 1) := by decide +kernel
theorem dX1_afterKnock_35 : decode cX1_afterKnock 35 = .ok (.iload_n 1, 1) := by decide +kernel
theorem dX1_afterKnock_36 : decode cX1_afterKnock 36 = .ok (.ishl, 1) := by decide +kernel
theorem dX1_afterKnock_37 : decode cX1_afterKnock 37 = .ok (.ior, 1) := by decide +kernel
theorem dX1_afterKnock_38 : decode cX1_afterKnock 38 = .ok (.invokespecial 41, 3) := by decide +kernel
theorem dX1_afterKnock_41 : decode cX1_afterKnock 41 = .ok (.areturn, 1) := by decide +kernel
theorem dX1_afterSetUp_0 : decode cX1_afterSetUp 0 = .ok (.aload_n 0, 1) := by decide +kernel
theorem dX1_afterSetUp_1 : decode cX1_afterSetUp 1 = .ok (.iload_n 1, 1) := by decide +kernel
theorem dX1_afterSetUp_2 : decode cX1_afterSetUp 2 = .ok (.invokevirtual 26, 3) := by decide +kernel
theorem dX1_afterSetUp_5 : decode cX1_afterSetUp 5 = .ok (.ifCond .eq 11, 3) := by decide +kernel
theorem dX1_afterSetUp_8 : decode cX1_afterSetUp 8 = .ok (.aload_n 0, 1) := by decide +kernel
theorem dX1_afterSetUp_9 : decode cX1_afterSetUp 9 = .ok (.iload_n 1, 1) := by decide +kernel
theorem dX1_afterSetUp_10 : decode cX1_afterSetUp 10 = .ok (.invokevirtual 64, 3) := by decide +kernel
theorem dX1_afterSetUp_13 : decode cX1_afterSetUp 13 = .ok (.ifCond .ne 5, 3) := by decide +kernel
theorem dX1_afterSetUp_16 : decode cX1_afterSetUp 16 = .ok (.aconst_null, 1) := by decide +kernel
theorem dX1_afterSetUp_17 : decode cX1_afterSetUp 17 = .ok (.areturn, 1) := by decide +kernel
theorem dX1_afterSetUp_18 : decode cX1_afterSetUp 18 = .ok (.new 10, 3) := by decide +kernel
theorem dX1_afterSetUp_21 : decode cX1_afterSetUp 21 = .ok (.dup, 1) := by decide +kernel
theorem dX1_afterSetUp_22 : decode cX1_afterSetUp 22 = .ok (.aload_n 0, 1) := by decide +kernel
theorem dX1_afterSetUp_23 : decode cX1_afterSetUp 23 = .ok (.getfield 9, 3) := by decide +kernel
theorem dX1_afterSetUp_26 : decode cX1_afterSetUp 26 = .ok (.aload_n 0, 1) := by decide +kernel
theorem dX1_afterSetUp_27 : decode cX1_afterSetUp 27 = .ok (.getfield 15, 3) := by decide +kernel
theorem dX1_afterSetUp_30 : decode cX1_afterSetUp 30 = .ok (.aload_n 0, 1) := by decide +kernel
theorem dX1_afterSetUp_31 : decode cX1_afterSetUp 31 = .ok (.getfield 19, 3) := by decide +kernel
theorem dX1_afterSetUp_34 : decode cX1_afterSetUp 34 = .ok (.iconst 1, 1) := by decide +kernel
theorem dX1_afterSetUp_35 : decode cX1_afterSetUp 35 = .ok (.iload_n 1, 1) := by decide +kernel
theorem dX1_afterSetUp_36 : decode cX1_afterSetUp 36 = .ok (.ishl, 1) := by decide +kernel
theorem dX1_afterSetUp_37 : decode cX1_afterSetUp 37 = .ok (.iconst (-1), 1) := by decide +kernel
theorem dX1_afterSetUp_38 : decode cX1_afterSetUp 38 = .ok (.ixor, 1) := by decide +kernel
theorem dX1_afterSetUp_39 : decode cX1_afterSetUp 39 = .ok (.iand, 1) := by decide +kernel
theorem dX1_afterSetUp_40 : decode cX1_afterSetUp 40 = .ok (.invokespecial 41, 3) := by decide +kernel
theorem dX1_afterSetUp_43 : decode cX1_afterSetUp 43 = .ok (.areturn, 1) := by decide +kernel
theorem dX1_afterPush_0 : decode cX1_afterPush 0 = .ok (.aload_n 0, 1) := by decide +kernel
theorem dX1_afterPush_1 : decode cX1_afterPush 1 = .ok (.getfield 9, 3) := by decide +kernel
theorem dX1_afterPush_4 : decode cX1_afterPush 4 = .ok (.iload_n 1, 1) := by decide +kernel
theorem dX1_afterPush_5 : decode cX1_afterPush 5 = .ok (.invokestatic 57, 3) := by decide +kernel
theorem dX1_afterPush_8 : decode cX1_afterPush 8 = .ok (.istore_n 2, 1) := by decide +kernel
theorem dX1_afterPush_9 : decode cX1_afterPush 9 = .ok (.iload_n 2, 1) := by decide +kernel
theorem dX1_afterPush_10 : decode cX1_afterPush 10 = .ok (.iload_n 1, 1) := by decide +kernel
theorem dX1_afterPush_11 : decode cX1_afterPush 11 = .ok (.invokestatic 57, 3) := by decide +kernel
theorem dX1_afterPush_14 : decode cX1_afterPush 14 = .ok (.istore_n 3, 1) := by decide +kernel
theorem dX1_afterPush_15 : decode cX1_afterPush 15 = .ok (.aload_n 0, 1) := by decide +kernel
theorem dX1_afterPush_16 : decode cX1_afterPush 16 = .ok (.iload_n 2, 1) := by decide +kernel
theorem dX1_afterPush_17 : decode cX1_afterPush 17 = .ok (.invokevirtual 67, 3) := by decide +kernel
theorem dX1_afterPush_20 : decode cX1_afterPush 20 = .ok (.istore 4, 2) := by decide +kernel
theorem dX1_afterPush_22 : decode cX1_afterPush 22 = .ok (.aload_n 0, 1) := by decide +kernel
theorem dX1_afterPush_23 : decode cX1_afterPush 23 = .ok (.iload 4, 2) := by decide +kernel
theorem dX1_afterPush_25 : decode cX1_afterPush 25 = .ok (.invokevirtual 22, 3) := by decide +kernel
theorem dX1_afterPush_28 : decode cX1_afterPush 28 = .ok (.ifCond .eq 26, 3) := by decide +kernel
theorem dX1_afterPush_31 : decode cX1_afterPush 31 = .ok (.aload_n 0, 1) := by decide +kernel
theorem dX1_afterPush_32 : decode cX1_afterPush 32 = .ok (.iload 4, 2) := by decide +kernel
theorem dX1_afterPush_34 : decode cX1_afterPush 34 = .ok (.invokevirtual 26, 3) := by decide +kernel
theorem dX1_afterPush_37 : decode cX1_afterPush 37 = .ok (.ifCond .ne 17, 3) := by decide +kernel
theorem dX1_afterPush_40 : decode cX1_afterPush 40 = .ok (.iload_n 3, 1) := by decide +kernel
theorem dX1_afterPush_41 : decode cX1_afterPush 41 = .ok (.iconst (-1), 1) := by decide +kernel
theorem dX1_afterPush_42 : decode cX1_afterPush 42 = .ok (.if_icmp .eq 12, 3) := by decide +kernel
theorem dX1_afterPush_45 : decode cX1_afterPush 45 = .ok (.aload_n 0, 1) := by decide +kernel
theorem dX1_afterPush_46 : decode cX1_afterPush 46 = .ok (.iload_n 3, 1) := by decide +kernel
theorem dX1_afterPush_47 : decode cX1_afterPush 47 = .ok (.invokevirtual 67, 3) := by decide +kernel
theorem dX1_afterPush_50 : decode cX1_afterPush 50 = .ok (.iconst (-1), 1) := by decide +kernel
theorem dX1_afterPush_51 : decode cX1_afterPush 51 = .ok (.if_icmp .eq 5, 3) := by decide +kernel
theorem dX1_afterPush_54 : decode cX1_afterPush 54 = .ok (.aconst_null, 1) := by decide +kernel
theorem dX1_afterPush_55 : decode cX1_afterPush 55 = .ok (.areturn, 1) := by decide +kernel
theorem dX1_afterPush_56 : decode cX1_afterPush 56 = .ok (.aload_n 0, 1) := by decide +kernel
theorem dX1_afterPush_57 : decode cX1_afterPush 57 = .ok (.getfield 15, 3) := by decide +kernel
theorem dX1_afterPush_60 : decode cX1_afterPush 60 = .ok (.invokevirtual 70, 3) := by decide +kernel
theorem dX1_afterPush_63 : decode cX1_afterPush 63 = .ok (.checkcast 71, 3) := by decide +kernel
theorem dX1_afterPush_66 : decode cX1_afterPush 66 = .ok (.astore 5, 2) := by decide +kernel
theorem dX1_afterPush_68 : decode cX1_afterPush 68 = .ok (.aload 5, 2) := by decide +kernel
theorem dX1_afterPush_70 : decode cX1_afterPush 70 = .ok (.iload 4, 2) := by decide +kernel
theorem dX1_afterPush_72 : decode cX1_afterPush 72 = .ok (.iload_n 3, 1) := by decide +kernel
theorem dX1_afterPush_73 : decode cX1_afterPush 73 = .ok (.iastore, 1) := by decide +kernel
theorem dX1_afterPush_74 : decode cX1_afterPush 74 = .ok (.new 10, 3) := by decide +kernel
theorem dX1_afterPush_77 : decode cX1_afterPush 77 = .ok (.dup, 1) := by decide +kernel
theorem dX1_afterPush_78 : decode cX1_afterPush 78 = .ok (.iload_n 2, 1) := by decide +kernel
theorem dX1_afterPush_79 : decode cX1_afterPush 79 = .ok (.aload 5, 2) := by decide +kernel
theorem dX1_afterPush_81 : decode cX1_afterPush 81 = .ok (.aload_n 0, 1) := by decide +kernel
theorem dX1_afterPush_82 : decode cX1_afterPush 82 = .ok (.getfield 19, 3) := by decide +kernel
theorem dX1_afterPush_85 : decode cX1_afterPush 85 = .ok (.invokespecial 41, 3) := by decide +kernel
theorem dX1_afterPush_88 : decode cX1_afterPush 88 = .ok (.areturn, 1) := by decide +kernel
theorem dX1_isInReach_0 : decode cX1_isInReach 0 = .ok (.aload_n 0, 1) := by decide +kernel
theorem dX1_isInReach_1 : decode cX1_isInReach 1 = .ok (.iload_n 1, 1) := by decide +kernel
theorem dX1_isInReach_2 : decode cX1_isInReach 2 = .ok (.invokevirtual 22, 3) := by decide +kernel
theorem dX1_isInReach_5 : decode cX1_isInReach 5 = .ok (.ifCond .ne 5, 3) := by decide +kernel
theorem dX1_isInReach_8 : decode cX1_isInReach 8 = .ok (.iconst 0, 1) := by decide +kernel
theorem dX1_isInReach_9 : decode cX1_isInReach 9 = .ok (.ireturn, 1) := by decide +kernel
theorem dX1_isInReach_10 : decode cX1_isInReach 10 = .ok (.aload_n 0, 1) := by decide +kernel
theorem dX1_isInReach_11 : decode cX1_isInReach 11 = .ok (.getfield 15, 3) := by decide +kernel
theorem dX1_isInReach_14 : decode cX1_isInReach 14 = .ok (.iload_n 1, 1) := by decide +kernel
theorem dX1_isInReach_15 : decode cX1_isInReach 15 = .ok (.iaload, 1) := by decide +kernel
theorem dX1_isInReach_16 : decode cX1_isInReach 16 = .ok (.bipush 8, 2) := by decide +kernel
theorem dX1_isInReach_18 : decode cX1_isInReach 18 = .ok (.idiv, 1) := by decide +kernel
theorem dX1_isInReach_19 : decode cX1_isInReach 19 = .ok (.aload_n 0, 1) := by decide +kernel
theorem dX1_isInReach_20 : decode cX1_isInReach 20 = .ok (.getfield 9, 3) := by decide +kernel
theorem dX1_isInReach_23 : decode cX1_isInReach 23 = .ok (.bipush 8, 2) := by decide +kernel
theorem dX1_isInReach_25 : decode cX1_isInReach 25 = .ok (.idiv, 1) := by decide +kernel
theorem dX1_isInReach_26 : decode cX1_isInReach 26 = .ok (.isub, 1) := by decide +kernel
theorem dX1_isInReach_27 : decode cX1_isInReach 27 = .ok (.invokestatic 75, 3) := by decide +kernel
theorem dX1_isInReach_30 : decode cX1_isInReach 30 = .ok (.istore_n 2, 1) := by decide +kernel
theorem dX1_isInReach_31 : decode cX1_isInReach 31 = .ok (.aload_n 0, 1) := by decide +kernel
theorem dX1_isInReach_32 : decode cX1_isInReach 32 = .ok (.getfield 15, 3) := by decide +kernel
theorem dX1_isInReach_35 : decode cX1_isInReach 35 = .ok (.iload_n 1, 1) := by decide +kernel
theorem dX1_isInReach_36 : decode cX1_isInReach 36 = .ok (.iaload, 1) := by decide +kernel
theorem dX1_isInReach_37 : decode cX1_isInReach 37 = .ok (.bipush 8, 2) := by decide +kernel
theorem dX1_isInReach_39 : decode cX1_isInReach 39 = .ok (.irem, 1) := by decide +kernel
theorem dX1_isInReach_40 : decode cX1_isInReach 40 = .ok (.aload_n 0, 1) := by decide +kernel
theorem dX1_isInReach_41 : decode cX1_isInReach 41 = .ok (.getfield 9, 3) := by decide +kernel
theorem dX1_isInReach_44 : decode cX1_isInReach 44 = .ok (.bipush 8, 2) := by decide +kernel
theorem dX1_isInReach_46 : decode cX1_isInReach 46 = .ok (.irem, 1) := by decide +kernel
theorem dX1_isInReach_47 : decode cX1_isInReach 47 = .ok (.isub, 1) := by decide +kernel
theorem dX1_isInReach_48 : decode cX1_isInReach 48 = .ok (.invokestatic 75, 3) := by decide +kernel
theorem dX1_isInReach_51 : decode cX1_isInReach 51 = .ok (.istore_n 3, 1) := by decide +kernel
theorem dX1_isInReach_52 : decode cX1_isInReach 52 = .ok (.iload_n 2, 1) := by decide +kernel
theorem dX1_isInReach_53 : decode cX1_isInReach 53 = .ok (.iconst 1, 1) := by decide +kernel
theorem dX1_isInReach_54 : decode cX1_isInReach 54 = .ok (.if_icmp .gt 12, 3) := by decide +kernel
theorem dX1_isInReach_57 : decode cX1_isInReach 57 = .ok (.iload_n 3, 1) := by decide +kernel
theorem dX1_isInReach_58 : decode cX1_isInReach 58 = .ok (.iconst 1, 1) := by decide +kernel
theorem dX1_isInReach_59 : decode cX1_isInReach 59 = .ok (.if_icmp .gt 7, 3) := by decide +kernel
theorem dX1_isInReach_62 : decode cX1_isInReach 62 = .ok (.iconst 1, 1) := by decide +kernel
theorem dX1_isInReach_63 : decode cX1_isInReach 63 = .ok (.goto 4, 3) := by decide +kernel
theorem dX1_isInReach_66 : decode cX1_isInReach 66 = .ok (.iconst 0, 1) := by decide +kernel
theorem dX1_isInReach_67 : decode cX1_isInReach 67 = .ok (.ireturn, 1) := by decide +kernel
theorem dX2_init_0 : decode cX2_init 0 = .ok (.aload_n 0, 1) := by decide +kernel
theorem dX2_init_1 : decode cX2_init 1 = .ok (.invokespecial 1, 3) := by decide +kernel
theorem dX2_init_4 : decode cX2_init 4 = .ok (.aload_n 0, 1) := by decide +kernel
theorem dX2_init_5 : decode cX2_init 5 = .ok (.new 7, 3) := by decide +kernel
theorem dX2_init_8 : decode cX2_init 8 = .ok (.dup, 1) := by decide +kernel
theorem dX2_init_9 : decode cX2_init 9 = .ok (.aconst_null, 1) := by decide +kernel
theorem dX2_init_10 : decode cX2_init 10 = .ok (.iconst 0, 1) := by decide +kernel
theorem dX2_init_11 : decode cX2_init 11 = .ok (.iconst (-1), 1) := by decide +kernel
theorem dX2_init_12 : decode cX2_init 12 = .ok (.iconst (-1), 1) := by decide +kernel
theorem dX2_init_13 : decode cX2_init 13 = .ok (.new 11, 3) := by decide +kernel
theorem dX2_init_16 : decode cX2_init 16 = .ok (.dup, 1) := by decide +kernel
theorem dX2_init_17 : decode cX2_init 17 = .ok (.iconst 0, 1) := by decide +kernel
theorem dX2_init_18 : decode cX2_init 18 = .ok (.iconst 0, 1) := by decide +kernel
theorem dX2_init_19 : decode cX2_init 19 = .ok (.newarray .int, 2) := by decide +kernel
theorem dX2_init_21 : decode cX2_init 21 = .ok (.iconst 0, 1) := by decide +kernel
theorem dX2_init_22 : decode cX2_init 22 = .ok (.invokespecial 13, 3) := by decide +kernel
theorem dX2_init_25 : decode cX2_init 25 = .ok (.invokespecial 16, 3) := by decide +kernel
theorem dX2_init_28 : decode cX2_init 28 = .ok (.putfield 19, 3) := by decide +kernel
theorem dX2_init_31 : decode cX2_init 31 = .ok (.aload_n 0, 1) := by decide +kernel
theorem dX2_init_32 : decode cX2_init 32 = .ok (.new 23, 3) := by decide +kernel
theorem dX2_init_35 : decode cX2_init 35 = .ok (.dup, 1) := by decide +kernel
theorem dX2_init_36 : decode cX2_init 36 = .ok (.invokespecial 25, 3) := by decide +kernel
theorem dX2_init_39 : decode cX2_init 39 = .ok (.putfield 26, 3) := by decide +kernel
theorem dX2_init_42 : decode cX2_init 42 = .ok (.aload_n 0, 1) := by decide +kernel
theorem dX2_init_43 : decode cX2_init 43 = .ok (.getfield 26, 3) := by decide +kernel
theorem dX2_init_46 : decode cX2_init 46 = .ok (.aload_n 0, 1) := by decide +kernel
theorem dX2_init_47 : decode cX2_init 47 = .ok (.getfield 19, 3) := by decide +kernel
theorem dX2_init_50 : decode cX2_init 50 = .ok (.invokeinterface 30 2, 5) := by decide +kernel
theorem dX2_init_55 : decode cX2_init 55 = .ok (.pop, 1) := by decide +kernel
theorem dX2_init_56 : decode cX2_init 56 = .ok (.return_, 1) := by decide +kernel
theorem dX2_setPiece_0 : decode cX2_setPiece 0 = .ok (.iload_n 1, 1) := by decide +kernel
theorem dX2_setPiece_1 : decode cX2_setPiece 1 = .ok (.iload_n 2, 1) := by decide +kernel
theorem dX2_setPiece_2 : decode cX2_setPiece 2 = .ok (.invokestatic 36, 3) := by decide +kernel
theorem dX2_setPiece_5 : decode cX2_setPiece 5 = .ok (.istore_n 3, 1) := by decide +kernel
theorem dX2_setPiece_6 : decode cX2_setPiece 6 = .ok (.aload_n 0, 1) := by decide +kernel
theorem dX2_setPiece_7 : decode cX2_setPiece 7 = .ok (.getfield 19, 3) := by decide +kernel
theorem dX2_setPiece_10 : decode cX2_setPiece 10 = .ok (.getfield 40, 3) := by decide +kernel
theorem dX2_setPiece_13 : decode cX2_setPiece 13 = .ok (.getfield 44, 3) := by decide +kernel
theorem dX2_setPiece_16 : decode cX2_setPiece 16 = .ok (.arraylength, 1) := by decide +kernel
theorem dX2_setPiece_17 : decode cX2_setPiece 17 = .ok (.istore 4, 2) := by decide +kernel
theorem dX2_setPiece_19 : decode cX2_setPiece 19 = .ok (.iload 4, 2) := by decide +kernel
theorem dX2_setPiece_21 : decode cX2_setPiece 21 = .ok (.bipush 16, 2) := by decide +kernel
theorem dX2_setPiece_23 : decode cX2_setPiece 23 = .ok (.if_icmp .lt 13, 3) := by decide +kernel
theorem dX2_setPiece_26 : decode cX2_setPiece 26 = .ok (.new 48, 3) := by decide +kernel
theorem dX2_setPiece_29 : decode cX2_setPiece 29 = .ok (.dup, 1) := by decide +kernel
theorem dX2_setPiece_30 : decode cX2_setPiece 30 = .ok (.ldc 50, 2) := by decide +kernel
theorem dX2_setPiece_32 : decode cX2_setPiece 32 = .ok (.invokespecial 52, 3) := by decide +kernel
theorem dX2_setPiece_35 : decode cX2_setPiece 35 = .ok (.athrow, 1) := by decide +kernel
theorem dX2_setPiece_36 : decode cX2_setPiece 36 = .ok (.aload_n 0, 1) := by decide +kernel
theorem dX2_setPiece_37 : decode cX2_setPiece 37 = .ok (.getfield 26, 3) := by decide +kernel
theorem dX2_setPiece_40 : decode cX2_setPiece 40 = .ok (.invokeinterface 55 1, 5) := by decide +kernel
theorem dX2_setPiece_45 : decode cX2_setPiece 45 = .ok (.iconst 1, 1) := by decide +kernel
theorem dX2_setPiece_46 : decode cX2_setPiece 46 = .ok (.if_icmp .le 13, 3) := by decide +kernel
theorem dX2_setPiece_49 : decode cX2_setPiece 49 = .ok (.new 48, 3) := by decide +kernel
theorem dX2_setPiece_52 : decode cX2_setPiece 52 = .ok (.dup, 1) := by decide +kernel
theorem dX2_setPiece_53 : decode cX2_setPiece 53 = .ok (.ldc 59, 2) := by decide +kernel
theorem dX2_setPiece_55 : decode cX2_setPiece 55 = .ok (.invokespecial 52, 3) := by decide +kernel
theorem dX2_setPiece_58 : decode cX2_setPiece 58 = .ok (.athrow, 1) := by decide +kernel
theorem dX2_setPiece_59 : decode cX2_setPiece 59 = .ok (.aload_n 0, 1) := by decide +kernel
theorem dX2_setPiece_60 : decode cX2_setPiece 60 = .ok (.getfield 19, 3) := by decide +kernel
theorem dX2_setPiece_63 : decode cX2_setPiece 63 = .ok (.getfield 40, 3) := by decide +kernel
theorem dX2_setPiece_66 : decode cX2_setPiece 66 = .ok (.iload_n 3, 1) := by decide +kernel
theorem dX2_setPiece_67 : decode cX2_setPiece 67 = .ok (.invokevirtual 61, 3) := by decide +kernel
theorem dX2_setPiece_70 : decode cX2_setPiece 70 = .ok (.iconst (-1), 1) := by decide +kernel
theorem dX2_setPiece_71 : decode cX2_setPiece 71 = .ok (.if_icmp .eq 13, 3) := by decide +kernel
theorem dX2_setPiece_74 : decode cX2_setPiece 74 = .ok (.new 48, 3) := by decide +kernel
theorem dX2_setPiece_77 : decode cX2_setPiece 77 = .ok (.dup, 1) := by decide +kernel
theorem dX2_setPiece_78 : decode cX2_setPiece 78 = .ok (.ldc 65, 2) := by decide +kernel
theorem dX2_setPiece_80 : decode cX2_setPiece 80 = .ok (.invokespecial 52, 3) := by decide +kernel
theorem dX2_setPiece_83 : decode cX2_setPiece 83 = .ok (.athrow, 1) := by decide +kernel
theorem dX2_setPiece_84 : decode cX2_setPiece 84 = .ok (.aload_n 0, 1) := by decide +kernel
theorem dX2_setPiece_85 : decode cX2_setPiece 85 = .ok (.getfield 19, 3) := by decide +kernel
theorem dX2_setPiece_88 : decode cX2_setPiece 88 = .ok (.aload_n 0, 1) := by decide +kernel
theorem dX2_setPiece_89 : decode cX2_setPiece 89 = .ok (.getfield 19, 3) := by decide +kernel
theorem dX2_setPiece_92 : decode cX2_setPiece 92 = .ok (.getfield 40, 3) := by decide +kernel
theorem dX2_setPiece_95 : decode cX2_setPiece 95 = .ok (.iload_n 3, 1) := by decide +kernel
theorem dX2_setPiece_96 : decode cX2_setPiece 96 = .ok (.invokevirtual 67, 3) := by decide +kernel
theorem dX2_setPiece_99 : decode cX2_setPiece 99 = .ok (.putfield 40, 3) := by decide +kernel
theorem dX2_setPiece_102 : decode cX2_setPiece 102 = .ok (.iload 4, 2) := by decide +kernel
theorem dX2_setPiece_104 : decode cX2_setPiece 104 = .ok (.ireturn, 1) := by decide +kernel
theorem dX2_paw_0 : decode cX2_paw 0 = .ok (.aload_n 0, 1) := by decide +kernel
theorem dX2_paw_1 : decode cX2_paw 1 = .ok (.iload_n 1, 1) := by decide +kernel
theorem dX2_paw_2 : decode cX2_paw 2 = .ok (.iload_n 2, 1) := by decide +kernel
theorem dX2_paw_3 : decode cX2_paw 3 = .ok (.invokevirtual 71, 3) := by decide +kernel
theorem dX2_paw_6 : decode cX2_paw 6 = .ok (.astore_n 3, 1) := by decide +kernel
theorem dX2_paw_7 : decode cX2_paw 7 = .ok (.aload_n 3, 1) := by decide +kernel
theorem dX2_paw_8 : decode cX2_paw 8 = .ok (.ifnonnull 13, 3) := by decide +kernel
theorem dX2_paw_11 : decode cX2_paw 11 = .ok (.new 48, 3) := by decide +kernel
theorem dX2_paw_14 : decode cX2_paw 14 = .ok (.dup, 1) := by decide +kernel
theorem dX2_paw_15 : decode cX2_paw 15 = .ok (.ldc 75, 2) := by decide +kernel
theorem dX2_paw_17 : decode cX2_paw 17 = .ok (.invokespecial 52, 3) := by decide +kernel
theorem dX2_paw_20 : decode cX2_paw 20 = .ok (.athrow, 1) := by decide +kernel
theorem dX2_paw_21 : decode cX2_paw 21 = .ok (.aload_n 0, 1) := by decide +kernel
theorem dX2_paw_22 : decode cX2_paw 22 = .ok (.getfield 26, 3) := by decide +kernel
theorem dX2_paw_25 : decode cX2_paw 25 = .ok (.invokeinterface 55 1, 5) := by decide +kernel
theorem dX2_paw_30 : decode cX2_paw 30 = .ok (.bipush 60, 2) := by decide +kernel
theorem dX2_paw_32 : decode cX2_paw 32 = .ok (.if_icmp .lt 13, 3) := by decide +kernel
theorem dX2_paw_35 : decode cX2_paw 35 = .ok (.new 48, 3) := by decide +kernel
theorem dX2_paw_38 : decode cX2_paw 38 = .ok (.dup, 1) := by decide +kernel
theorem dX2_paw_39 : decode cX2_paw 39 = .ok (.ldc 77, 2) := by decide +kernel
theorem dX2_paw_41 : decode cX2_paw 41 = .ok (.invokespecial 52, 3) := by decide +kernel
theorem dX2_paw_44 : decode cX2_paw 44 = .ok (.athrow, 1) := by decide +kernel
theorem dX2_paw_45 : decode cX2_paw 45 = .ok (.new 7, 3) := by decide +kernel
theorem dX2_paw_48 : decode cX2_paw 48 = .ok (.dup, 1) := by decide +kernel
theorem dX2_paw_49 : decode cX2_paw 49 = .ok (.aload_n 0, 1) := by decide +kernel
theorem dX2_paw_50 : decode cX2_paw 50 = .ok (.getfield 19, 3) := by decide +kernel
theorem dX2_paw_53 : decode cX2_paw 53 = .ok (.aload_n 0, 1) := by decide +kernel
theorem dX2_paw_54 : decode cX2_paw 54 = .ok (.getfield 26, 3) := by decide +kernel
theorem dX2_paw_57 : decode cX2_paw 57 = .ok (.invokeinterface 55 1, 5) := by decide +kernel
theorem dX2_paw_62 : decode cX2_paw 62 = .ok (.iload_n 1, 1) := by decide +kernel
theorem dX2_paw_63 : decode cX2_paw 63 = .ok (.iload_n 2, 1) := by decide +kernel
theorem dX2_paw_64 : decode cX2_paw 64 = .ok (.aload_n 3, 1) := by decide +kernel
theorem dX2_paw_65 : decode cX2_paw 65 = .ok (.invokespecial 16, 3) := by decide +kernel
theorem dX2_paw_68 : decode cX2_paw 68 = .ok (.astore 4, 2) := by decide +kernel
theorem dX2_paw_70 : decode cX2_paw 70 = .ok (.aload_n 0, 1) := by decide +kernel
theorem dX2_paw_71 : decode cX2_paw 71 = .ok (.getfield 26, 3) := by decide +kernel
theorem dX2_paw_74 : decode cX2_paw 74 = .ok (.aload 4, 2) := by decide +kernel
theorem dX2_paw_76 : decode cX2_paw 76 = .ok (.invokeinterface 30 2, 5) := by decide +kernel
theorem dX2_paw_81 : decode cX2_paw 81 = .ok (.pop, 1) := by decide +kernel
theorem dX2_paw_82 : decode cX2_paw 82 = .ok (.aload 4, 2) := by decide +kernel
theorem dX2_paw_84 : decode cX2_paw 84 = .ok (.invokevirtual 79, 3) := by decide +kernel
theorem dX2_paw_87 : decode cX2_paw 87 = .ok (.aload 4, 2) := by decide +kernel
theorem dX2_paw_89 : decode cX2_paw 89 = .ok (.invokevirtual 82, 3) := by decide +kernel
theorem dX2_paw_92 : decode cX2_paw 92 = .ok (.aload_n 0, 1) := by decide +kernel
theorem dX2_paw_93 : decode cX2_paw 93 = .ok (.aload 4, 2) := by decide +kernel
theorem dX2_paw_95 : decode cX2_paw 95 = .ok (.putfield 19, 3) := by decide +kernel
theorem dX2_paw_98 : decode cX2_paw 98 = .ok (.aload 4, 2) := by decide +kernel
theorem dX2_paw_100 : decode cX2_paw 100 = .ok (.getfield 85, 3) := by decide +kernel
theorem dX2_paw_103 : decode cX2_paw 103 = .ok (.ireturn, 1) := by decide +kernel
theorem dX2_undo_0 : decode cX2_undo 0 = .ok (.iload_n 1, 1) := by decide +kernel
theorem dX2_undo_1 : decode cX2_undo 1 = .ok (.invokestatic 89, 3) := by decide +kernel
theorem dX2_undo_4 : decode cX2_undo 4 = .ok (.aload_n 0, 1) := by decide +kernel
theorem dX2_undo_5 : decode cX2_undo 5 = .ok (.getfield 19, 3) := by decide +kernel
theorem dX2_undo_8 : decode cX2_undo 8 = .ok (.astore_n 2, 1) := by decide +kernel
theorem dX2_undo_9 : decode cX2_undo 9 = .ok (.iconst 0, 1) := by decide +kernel
theorem dX2_undo_10 : decode cX2_undo 10 = .ok (.istore_n 3, 1) := by decide +kernel
theorem dX2_undo_11 : decode cX2_undo 11 = .ok (.iload_n 3, 1) := by decide +kernel
theorem dX2_undo_12 : decode cX2_undo 12 = .ok (.iload_n 1, 1) := by decide +kernel
theorem dX2_undo_13 : decode cX2_undo 13 = .ok (.if_icmp .ge 31, 3) := by decide +kernel
theorem dX2_undo_16 : decode cX2_undo 16 = .ok (.aload_n 2, 1) := by decide +kernel
theorem dX2_undo_17 : decode cX2_undo 17 = .ok (.getfield 93, 3) := by decide +kernel
theorem dX2_undo_20 : decode cX2_undo 20 = .ok (.ifnonnull 13, 3) := by decide +kernel
theorem dX2_undo_23 : decode cX2_undo 23 = .ok (.new 48, 3) := by decide +kernel
theorem dX2_undo_26 : decode cX2_undo 26 = .ok (.dup, 1) := by decide +kernel
theorem dX2_undo_27 : decode cX2_undo 27 = .ok (.ldc 96, 2) := by decide +kernel
theorem dX2_undo_29 : decode cX2_undo 29 = .ok (.invokespecial 52, 3) := by decide +kernel
theorem dX2_undo_32 : decode cX2_undo 32 = .ok (.athrow, 1) := by decide +kernel
theorem dX2_undo_33 : decode cX2_undo 33 = .ok (.aload_n 2, 1) := by decide +kernel
theorem dX2_undo_34 : decode cX2_undo 34 = .ok (.getfield 93, 3) := by decide +kernel
theorem dX2_undo_37 : decode cX2_undo 37 = .ok (.astore_n 2, 1) := by decide +kernel
theorem dX2_undo_38 : decode cX2_undo 38 = .ok (.iinc 3 1, 3) := by decide +kernel
theorem dX2_undo_41 : decode cX2_undo 41 = .ok (.goto (-30), 3) := by decide +kernel
theorem dX2_undo_44 : decode cX2_undo 44 = .ok (.aload_n 0, 1) := by decide +kernel
theorem dX2_undo_45 : decode cX2_undo 45 = .ok (.aload_n 2, 1) := by decide +kernel
theorem dX2_undo_46 : decode cX2_undo 46 = .ok (.putfield 19, 3) := by decide +kernel
theorem dX2_undo_49 : decode cX2_undo 49 = .ok (.aload_n 0, 1) := by decide +kernel
theorem dX2_undo_50 : decode cX2_undo 50 = .ok (.getfield 19, 3) := by decide +kernel
theorem dX2_undo_53 : decode cX2_undo 53 = .ok (.getfield 85, 3) := by decide +kernel
theorem dX2_undo_56 : decode cX2_undo 56 = .ok (.ireturn, 1) := by decide +kernel
theorem dX2_redo_0 : decode cX2_redo 0 = .ok (.iload_n 1, 1) := by decide +kernel
theorem dX2_redo_1 : decode cX2_redo 1 = .ok (.invokestatic 89, 3) := by decide +kernel
theorem dX2_redo_4 : decode cX2_redo 4 = .ok (.aload_n 0, 1) := by decide +kernel
theorem dX2_redo_5 : decode cX2_redo 5 = .ok (.getfield 19, 3) := by decide +kernel
theorem dX2_redo_8 : decode cX2_redo 8 = .ok (.astore_n 2, 1) := by decide +kernel
theorem dX2_redo_9 : decode cX2_redo 9 = .ok (.iconst 0, 1) := by decide +kernel
theorem dX2_redo_10 : decode cX2_redo 10 = .ok (.istore_n 3, 1) := by decide +kernel
theorem dX2_redo_11 : decode cX2_redo 11 = .ok (.iload_n 3, 1) := by decide +kernel
theorem dX2_redo_12 : decode cX2_redo 12 = .ok (.iload_n 1, 1) := by decide +kernel
theorem dX2_redo_13 : decode cX2_redo 13 = .ok (.if_icmp .ge 31, 3) := by decide +kernel
theorem dX2_redo_16 : decode cX2_redo 16 = .ok (.aload_n 2, 1) := by decide +kernel
theorem dX2_redo_17 : decode cX2_redo 17 = .ok (.getfield 98, 3) := by decide +kernel
theorem dX2_redo_20 : decode cX2_redo 20 = .ok (.ifnonnull 13, 3) := by decide +kernel
theorem dX2_redo_23 : decode cX2_redo 23 = .ok (.new 48, 3) := by decide +kernel
theorem dX2_redo_26 : decode cX2_redo 26 = .ok (.dup, 1) := by decide +kernel
theorem dX2_redo_27 : decode cX2_redo 27 = .ok (.ldc 101, 2) := by decide +kernel
theorem dX2_redo_29 : decode cX2_redo 29 = .ok (.invokespecial 52, 3) := by decide +kernel
theorem dX2_redo_32 : decode cX2_redo 32 = .ok (.athrow, 1) := by decide +kernel
theorem dX2_redo_33 : decode cX2_redo 33 = .ok (.aload_n 2, 1) := by decide +kernel
theorem dX2_redo_34 : decode cX2_redo 34 = .ok (.getfield 98, 3) := by decide +kernel
theorem dX2_redo_37 : decode cX2_redo 37 = .ok (.astore_n 2, 1) := by decide +kernel
theorem dX2_redo_38 : decode cX2_redo 38 = .ok (.iinc 3 1, 3) := by decide +kernel
theorem dX2_redo_41 : decode cX2_redo 41 = .ok (.goto (-30), 3) := by decide +kernel
theorem dX2_redo_44 : decode cX2_redo 44 = .ok (.aload_n 0, 1) := by decide +kernel
theorem dX2_redo_45 : decode cX2_redo 45 = .ok (.aload_n 2, 1) := by decide +kernel
theorem dX2_redo_46 : decode cX2_redo 46 = .ok (.putfield 19, 3) := by decide +kernel
theorem dX2_redo_49 : decode cX2_redo 49 = .ok (.aload_n 0, 1) := by decide +kernel
theorem dX2_redo_50 : decode cX2_redo 50 = .ok (.getfield 19, 3) := by decide +kernel
theorem dX2_redo_53 : decode cX2_redo 53 = .ok (.getfield 85, 3) := by decide +kernel
theorem dX2_redo_56 : decode cX2_redo 56 = .ok (.ireturn, 1) := by decide +kernel
theorem dX2_goTo_0 : decode cX2_goTo 0 = .ok (.aload_n 0, 1) := by decide +kernel
theorem dX2_goTo_1 : decode cX2_goTo 1 = .ok (.iload_n 1, 1) := by decide +kernel
theorem dX2_goTo_2 : decode cX2_goTo 2 = .ok (.invokevirtual 103, 3) := by decide +kernel
theorem dX2_goTo_5 : decode cX2_goTo 5 = .ok (.astore_n 2, 1) := by decide +kernel
theorem dX2_goTo_6 : decode cX2_goTo 6 = .ok (.aload_n 0, 1) := by decide +kernel
theorem dX2_goTo_7 : decode cX2_goTo 7 = .ok (.getfield 19, 3) := by decide +kernel
theorem dX2_goTo_10 : decode cX2_goTo 10 = .ok (.aload_n 2, 1) := by decide +kernel
theorem dX2_goTo_11 : decode cX2_goTo 11 = .ok (.invokestatic 107, 3) := by decide +kernel
theorem dX2_goTo_14 : decode cX2_goTo 14 = .ok (.istore_n 3, 1) := by decide +kernel
theorem dX2_goTo_15 : decode cX2_goTo 15 = .ok (.aload_n 2, 1) := by decide +kernel
theorem dX2_goTo_16 : decode cX2_goTo 16 = .ok (.invokevirtual 82, 3) := by decide +kernel
theorem dX2_goTo_19 : decode cX2_goTo 19 = .ok (.aload_n 0, 1) := by decide +kernel
theorem dX2_goTo_20 : decode cX2_goTo 20 = .ok (.aload_n 2, 1) := by decide +kernel
theorem dX2_goTo_21 : decode cX2_goTo 21 = .ok (.putfield 19, 3) := by decide +kernel
theorem dX2_goTo_24 : decode cX2_goTo 24 = .ok (.iload_n 3, 1) := by decide +kernel
theorem dX2_goTo_25 : decode cX2_goTo 25 = .ok (.ireturn, 1) := by decide +kernel
theorem dX2_evening_0 : decode cX2_evening 0 = .ok (.aload_n 0, 1) := by decide +kernel
theorem dX2_evening_1 : decode cX2_evening 1 = .ok (.getfield 19, 3) := by decide +kernel
theorem dX2_evening_4 : decode cX2_evening 4 = .ok (.getfield 85, 3) := by decide +kernel
theorem dX2_evening_7 : decode cX2_evening 7 = .ok (.ireturn, 1) := by decide +kernel
theorem dX2_evenings_0 : decode cX2_evenings 0 = .ok (.aload_n 0, 1) := by decide +kernel
theorem dX2_evenings_1 : decode cX2_evenings 1 = .ok (.getfield 26, 3) := by decide +kernel
theorem dX2_evenings_4 : decode cX2_evenings 4 = .ok (.invokeinterface 55 1, 5) := by decide +kernel
theorem dX2_evenings_9 : decode cX2_evenings 9 = .ok (.ireturn, 1) := by decide +kernel
theorem dX2_pieces_0 : decode cX2_pieces 0 = .ok (.aload_n 0, 1) := by decide +kernel
theorem dX2_pieces_1 : decode cX2_pieces 1 = .ok (.getfield 19, 3) := by decide +kernel
theorem dX2_pieces_4 : decode cX2_pieces 4 = .ok (.getfield 40, 3) := by decide +kernel
theorem dX2_pieces_7 : decode cX2_pieces 7 = .ok (.getfield 44, 3) := by decide +kernel
theorem dX2_pieces_10 : decode cX2_pieces 10 = .ok (.arraylength, 1) := by decide +kernel
theorem dX2_pieces_11 : decode cX2_pieces 11 = .ok (.ireturn, 1) := by decide +kernel
theorem dX2_catColumn_0 : decode cX2_catColumn 0 = .ok (.aload_n 0, 1) := by decide +kernel
theorem dX2_catColumn_1 : decode cX2_catColumn 1 = .ok (.getfield 19, 3) := by decide +kernel
theorem dX2_catColumn_4 : decode cX2_catColumn 4 = .ok (.getfield 40, 3) := by decide +kernel
theorem dX2_catColumn_7 : decode cX2_catColumn 7 = .ok (.getfield 111, 3) := by decide +kernel
theorem dX2_catColumn_10 : decode cX2_catColumn 10 = .ok (.bipush 8, 2) := by decide +kernel
theorem dX2_catColumn_12 : decode cX2_catColumn 12 = .ok (.idiv, 1) := by decide +kernel
theorem dX2_catColumn_13 : decode cX2_catColumn 13 = .ok (.ireturn, 1) := by decide +kernel
theorem dX2_catRow_0 : decode cX2_catRow 0 = .ok (.aload_n 0, 1) := by decide +kernel
theorem dX2_catRow_1 : decode cX2_catRow 1 = .ok (.getfield 19, 3) := by decide +kernel
theorem dX2_catRow_4 : decode cX2_catRow 4 = .ok (.getfield 40, 3) := by decide +kernel
theorem dX2_catRow_7 : decode cX2_catRow 7 = .ok (.getfield 111, 3) := by decide +kernel
theorem dX2_catRow_10 : decode cX2_catRow 10 = .ok (.bipush 8, 2) := by decide +kernel
theorem dX2_catRow_12 : decode cX2_catRow 12 = .ok (.irem, 1) := by decide +kernel
theorem dX2_catRow_13 : decode cX2_catRow 13 = .ok (.ireturn, 1) := by decide +kernel
theorem dX2_lying_0 : decode cX2_lying 0 = .ok (.aload_n 0, 1) := by decide +kernel
theorem dX2_lying_1 : decode cX2_lying 1 = .ok (.getfield 19, 3) := by decide +kernel
theorem dX2_lying_4 : decode cX2_lying 4 = .ok (.getfield 40, 3) := by decide +kernel
theorem dX2_lying_7 : decode cX2_lying 7 = .ok (.invokevirtual 114, 3) := by decide +kernel
theorem dX2_lying_10 : decode cX2_lying 10 = .ok (.ireturn, 1) := by decide +kernel
theorem dX2_placeOf_0 : decode cX2_placeOf 0 = .ok (.aload_n 0, 1) := by decide +kernel
theorem dX2_placeOf_1 : decode cX2_placeOf 1 = .ok (.getfield 19, 3) := by decide +kernel
theorem dX2_placeOf_4 : decode cX2_placeOf 4 = .ok (.getfield 40, 3) := by decide +kernel
theorem dX2_placeOf_7 : decode cX2_placeOf 7 = .ok (.iload_n 1, 1) := by decide +kernel
theorem dX2_placeOf_8 : decode cX2_placeOf 8 = .ok (.invokestatic 117, 3) := by decide +kernel
theorem dX2_placeOf_11 : decode cX2_placeOf 11 = .ok (.ireturn, 1) := by decide +kernel
theorem dX2_lies_0 : decode cX2_lies 0 = .ok (.aload_n 0, 1) := by decide +kernel
theorem dX2_lies_1 : decode cX2_lies 1 = .ok (.getfield 19, 3) := by decide +kernel
theorem dX2_lies_4 : decode cX2_lies 4 = .ok (.getfield 40, 3) := by decide +kernel
theorem dX2_lies_7 : decode cX2_lies 7 = .ok (.iload_n 1, 1) := by decide +kernel
theorem dX2_lies_8 : decode cX2_lies 8 = .ok (.invokevirtual 121, 3) := by decide +kernel
theorem dX2_lies_11 : decode cX2_lies 11 = .ok (.ifCond .ne 13, 3) := by decide +kernel
theorem dX2_lies_14 : decode cX2_lies 14 = .ok (.new 125, 3) := by decide +kernel
theorem dX2_lies_17 : decode cX2_lies 17 = .ok (.dup, 1) := by decide +kernel
theorem dX2_lies_18 : decode cX2_lies 18 = .ok (.ldc 127, 2) := by decide +kernel
theorem dX2_lies_20 : decode cX2_lies 20 = .ok (.invokespecial 129, 3) := by decide +kernel
theorem dX2_lies_23 : decode cX2_lies 23 = .ok (.athrow, 1) := by decide +kernel
theorem dX2_lies_24 : decode cX2_lies 24 = .ok (.aload_n 0, 1) := by decide +kernel
theorem dX2_lies_25 : decode cX2_lies 25 = .ok (.getfield 19, 3) := by decide +kernel
theorem dX2_lies_28 : decode cX2_lies 28 = .ok (.getfield 40, 3) := by decide +kernel
theorem dX2_lies_31 : decode cX2_lies 31 = .ok (.iload_n 1, 1) := by decide +kernel
theorem dX2_lies_32 : decode cX2_lies 32 = .ok (.invokevirtual 130, 3) := by decide +kernel
theorem dX2_lies_35 : decode cX2_lies 35 = .ok (.ireturn, 1) := by decide +kernel
theorem dX2_pieceAt_0 : decode cX2_pieceAt 0 = .ok (.aload_n 0, 1) := by decide +kernel
theorem dX2_pieceAt_1 : decode cX2_pieceAt 1 = .ok (.getfield 19, 3) := by decide +kernel
theorem dX2_pieceAt_4 : decode cX2_pieceAt 4 = .ok (.getfield 40, 3) := by decide +kernel
theorem dX2_pieceAt_7 : decode cX2_pieceAt 7 = .ok (.iload_n 1, 1) := by decide +kernel
theorem dX2_pieceAt_8 : decode cX2_pieceAt 8 = .ok (.iload_n 2, 1) := by decide +kernel
theorem dX2_pieceAt_9 : decode cX2_pieceAt 9 = .ok (.invokestatic 36, 3) := by decide +kernel
theorem dX2_pieceAt_12 : decode cX2_pieceAt 12 = .ok (.invokevirtual 61, 3) := by decide +kernel
theorem dX2_pieceAt_15 : decode cX2_pieceAt 15 = .ok (.ireturn, 1) := by decide +kernel
theorem dX2_canDo_0 : decode cX2_canDo 0 = .ok (.aload_n 0, 1) := by decide +kernel
theorem dX2_canDo_1 : decode cX2_canDo 1 = .ok (.iload_n 1, 1) := by decide +kernel
theorem dX2_canDo_2 : decode cX2_canDo 2 = .ok (.iload_n 2, 1) := by decide +kernel
theorem dX2_canDo_3 : decode cX2_canDo 3 = .ok (.invokevirtual 71, 3) := by decide +kernel
theorem dX2_canDo_6 : decode cX2_canDo 6 = .ok (.ifnull 7, 3) := by decide +kernel
theorem dX2_canDo_9 : decode cX2_canDo 9 = .ok (.iconst 1, 1) := by decide +kernel
theorem dX2_canDo_10 : decode cX2_canDo 10 = .ok (.goto 4, 3) := by decide +kernel
theorem dX2_canDo_13 : decode cX2_canDo 13 = .ok (.iconst 0, 1) := by decide +kernel
theorem dX2_canDo_14 : decode cX2_canDo 14 = .ok (.ireturn, 1) := by decide +kernel
theorem dX2_hangsOn_0 : decode cX2_hangsOn 0 = .ok (.aload_n 0, 1) := by decide +kernel
theorem dX2_hangsOn_1 : decode cX2_hangsOn 1 = .ok (.iload_n 1, 1) := by decide +kernel
theorem dX2_hangsOn_2 : decode cX2_hangsOn 2 = .ok (.invokevirtual 103, 3) := by decide +kernel
theorem dX2_hangsOn_5 : decode cX2_hangsOn 5 = .ok (.getfield 93, 3) := by decide +kernel
theorem dX2_hangsOn_8 : decode cX2_hangsOn 8 = .ok (.invokestatic 133, 3) := by decide +kernel
theorem dX2_hangsOn_11 : decode cX2_hangsOn 11 = .ok (.ireturn, 1) := by decide +kernel
theorem dX2_kindOf_0 : decode cX2_kindOf 0 = .ok (.aload_n 0, 1) := by decide +kernel
theorem dX2_kindOf_1 : decode cX2_kindOf 1 = .ok (.iload_n 1, 1) := by decide +kernel
theorem dX2_kindOf_2 : decode cX2_kindOf 2 = .ok (.invokevirtual 103, 3) := by decide +kernel
theorem dX2_kindOf_5 : decode cX2_kindOf 5 = .ok (.getfield 137, 3) := by decide +kernel
theorem dX2_kindOf_8 : decode cX2_kindOf 8 = .ok (.ireturn, 1) := by decide +kernel
theorem dX2_numberOf_0 : decode cX2_numberOf 0 = .ok (.aload_n 0, 1) := by decide +kernel
theorem dX2_numberOf_1 : decode cX2_numberOf 1 = .ok (.iload_n 1, 1) := by decide +kernel
theorem dX2_numberOf_2 : decode cX2_numberOf 2 = .ok (.invokevirtual 103, 3) := by decide +kernel
theorem dX2_numberOf_5 : decode cX2_numberOf 5 = .ok (.getfield 140, 3) := by decide +kernel
theorem dX2_numberOf_8 : decode cX2_numberOf 8 = .ok (.ireturn, 1) := by decide +kernel
theorem dX2_depthOf_0 : decode cX2_depthOf 0 = .ok (.aload_n 0, 1) := by decide +kernel
theorem dX2_depthOf_1 : decode cX2_depthOf 1 = .ok (.iload_n 1, 1) := by decide +kernel
theorem dX2_depthOf_2 : decode cX2_depthOf 2 = .ok (.invokevirtual 103, 3) := by decide +kernel
theorem dX2_depthOf_5 : decode cX2_depthOf 5 = .ok (.getfield 143, 3) := by decide +kernel
theorem dX2_depthOf_8 : decode cX2_depthOf 8 = .ok (.ireturn, 1) := by decide +kernel
theorem dX2_branches_0 : decode cX2_branches 0 = .ok (.aload_n 0, 1) := by decide +kernel
theorem dX2_branches_1 : decode cX2_branches 1 = .ok (.iload_n 1, 1) := by decide +kernel
theorem dX2_branches_2 : decode cX2_branches 2 = .ok (.invokevirtual 103, 3) := by decide +kernel
theorem dX2_branches_5 : decode cX2_branches 5 = .ok (.getfield 146, 3) := by decide +kernel
theorem dX2_branches_8 : decode cX2_branches 8 = .ok (.ireturn, 1) := by decide +kernel
theorem dX2_behind_0 : decode cX2_behind 0 = .ok (.aload_n 0, 1) := by decide +kernel
theorem dX2_behind_1 : decode cX2_behind 1 = .ok (.iload_n 1, 1) := by decide +kernel
theorem dX2_behind_2 : decode cX2_behind 2 = .ok (.invokevirtual 103, 3) := by decide +kernel
theorem dX2_behind_5 : decode cX2_behind 5 = .ok (.getfield 149, 3) := by decide +kernel
theorem dX2_behind_8 : decode cX2_behind 8 = .ok (.ireturn, 1) := by decide +kernel
theorem dX2_again_0 : decode cX2_again 0 = .ok (.aload_n 0, 1) := by decide +kernel
theorem dX2_again_1 : decode cX2_again 1 = .ok (.iload_n 1, 1) := by decide +kernel
theorem dX2_again_2 : decode cX2_again 2 = .ok (.invokevirtual 103, 3) := by decide +kernel
theorem dX2_again_5 : decode cX2_again 5 = .ok (.getfield 98, 3) := by decide +kernel
theorem dX2_again_8 : decode cX2_again 8 = .ok (.invokestatic 133, 3) := by decide +kernel
theorem dX2_again_11 : decode cX2_again 11 = .ok (.ireturn, 1) := by decide +kernel
theorem dX2_meet_0 : decode cX2_meet 0 = .ok (.aload_n 0, 1) := by decide +kernel
theorem dX2_meet_1 : decode cX2_meet 1 = .ok (.iload_n 1, 1) := by decide +kernel
theorem dX2_meet_2 : decode cX2_meet 2 = .ok (.invokevirtual 103, 3) := by decide +kernel
theorem dX2_meet_5 : decode cX2_meet 5 = .ok (.aload_n 0, 1) := by decide +kernel
theorem dX2_meet_6 : decode cX2_meet 6 = .ok (.iload_n 2, 1) := by decide +kernel
theorem dX2_meet_7 : decode cX2_meet 7 = .ok (.invokevirtual 103, 3) := by decide +kernel
theorem dX2_meet_10 : decode cX2_meet 10 = .ok (.invokestatic 152, 3) := by decide +kernel
theorem dX2_meet_13 : decode cX2_meet 13 = .ok (.getfield 85, 3) := by decide +kernel
theorem dX2_meet_16 : decode cX2_meet 16 = .ok (.ireturn, 1) := by decide +kernel
theorem dX2_apart_0 : decode cX2_apart 0 = .ok (.aload_n 0, 1) := by decide +kernel
theorem dX2_apart_1 : decode cX2_apart 1 = .ok (.iload_n 1, 1) := by decide +kernel
theorem dX2_apart_2 : decode cX2_apart 2 = .ok (.invokevirtual 103, 3) := by decide +kernel
theorem dX2_apart_5 : decode cX2_apart 5 = .ok (.aload_n 0, 1) := by decide +kernel
theorem dX2_apart_6 : decode cX2_apart 6 = .ok (.iload_n 2, 1) := by decide +kernel
theorem dX2_apart_7 : decode cX2_apart 7 = .ok (.invokevirtual 103, 3) := by decide +kernel
theorem dX2_apart_10 : decode cX2_apart 10 = .ok (.invokestatic 107, 3) := by decide +kernel
theorem dX2_apart_13 : decode cX2_apart 13 = .ok (.ireturn, 1) := by decide +kernel
theorem dX2_ends_0 : decode cX2_ends 0 = .ok (.iconst 0, 1) := by decide +kernel
theorem dX2_ends_1 : decode cX2_ends 1 = .ok (.istore_n 1, 1) := by decide +kernel
theorem dX2_ends_2 : decode cX2_ends 2 = .ok (.iconst 0, 1) := by decide +kernel
theorem dX2_ends_3 : decode cX2_ends 3 = .ok (.istore_n 2, 1) := by decide +kernel
theorem dX2_ends_4 : decode cX2_ends 4 = .ok (.iload_n 2, 1) := by decide +kernel
theorem dX2_ends_5 : decode cX2_ends 5 = .ok (.aload_n 0, 1) := by decide +kernel
theorem dX2_ends_6 : decode cX2_ends 6 = .ok (.getfield 26, 3) := by decide +kernel
theorem dX2_ends_9 : decode cX2_ends 9 = .ok (.invokeinterface 55 1, 5) := by decide +kernel
theorem dX2_ends_14 : decode cX2_ends 14 = .ok (.if_icmp .ge 31, 3) := by decide +kernel
theorem dX2_ends_17 : decode cX2_ends 17 = .ok (.aload_n 0, 1) := by decide +kernel
theorem dX2_ends_18 : decode cX2_ends 18 = .ok (.getfield 26, 3) := by decide +kernel
theorem dX2_ends_21 : decode cX2_ends 21 = .ok (.iload_n 2, 1) := by decide +kernel
theorem dX2_ends_22 : decode cX2_ends 22 = .ok (.invokeinterface 156 2, 5) := by decide +kernel
theorem dX2_ends_27 : decode cX2_ends 27 = .ok (.checkcast 7, 3) := by decide +kernel
theorem dX2_ends_30 : decode cX2_ends 30 = .ok (.invokevirtual 160, 3) := by decide +kernel
theorem dX2_ends_33 : decode cX2_ends 33 = .ok (.ifCond .eq 6, 3) := by decide +kernel
theorem dX2_ends_36 : decode cX2_ends 36 = .ok (.iinc 1 1, 3) := by decide +kernel
theorem dX2_ends_39 : decode cX2_ends 39 = .ok (.iinc 2 1, 3) := by decide +kernel
theorem dX2_ends_42 : decode cX2_ends 42 = .ok (.goto (-38), 3) := by decide +kernel
theorem dX2_ends_45 : decode cX2_ends 45 = .ok (.iload_n 1, 1) := by decide +kernel
theorem dX2_ends_46 : decode cX2_ends 46 = .ok (.ireturn, 1) := by decide +kernel
theorem dX2_placeIn_0 : decode cX2_placeIn 0 = .ok (.aload_n 0, 1) := by decide +kernel
theorem dX2_placeIn_1 : decode cX2_placeIn 1 = .ok (.iload_n 1, 1) := by decide +kernel
theorem dX2_placeIn_2 : decode cX2_placeIn 2 = .ok (.invokevirtual 103, 3) := by decide +kernel
theorem dX2_placeIn_5 : decode cX2_placeIn 5 = .ok (.getfield 40, 3) := by decide +kernel
theorem dX2_placeIn_8 : decode cX2_placeIn 8 = .ok (.astore_n 3, 1) := by decide +kernel
theorem dX2_placeIn_9 : decode cX2_placeIn 9 = .ok (.aload_n 3, 1) := by decide +kernel
theorem dX2_placeIn_10 : decode cX2_placeIn 10 = .ok (.iload_n 2, 1) := by decide +kernel
theorem dX2_placeIn_11 : decode cX2_placeIn 11 = .ok (.invokestatic 117, 3) := by decide +kernel
theorem dX2_placeIn_14 : decode cX2_placeIn 14 = .ok (.istore 4, 2) := by decide +kernel
theorem dX2_placeIn_16 : decode cX2_placeIn 16 = .ok (.aload_n 3, 1) := by decide +kernel
theorem dX2_placeIn_17 : decode cX2_placeIn 17 = .ok (.iload_n 2, 1) := by decide +kernel
theorem dX2_placeIn_18 : decode cX2_placeIn 18 = .ok (.invokevirtual 130, 3) := by decide +kernel
theorem dX2_placeIn_21 : decode cX2_placeIn 21 = .ok (.ifCond .eq 11, 3) := by decide +kernel
theorem dX2_placeIn_24 : decode cX2_placeIn 24 = .ok (.iload 4, 2) := by decide +kernel
theorem dX2_placeIn_26 : decode cX2_placeIn 26 = .ok (.bipush 100, 2) := by decide +kernel
theorem dX2_placeIn_28 : decode cX2_placeIn 28 = .ok (.iadd, 1) := by decide +kernel
theorem dX2_placeIn_29 : decode cX2_placeIn 29 = .ok (.goto 5, 3) := by decide +kernel
theorem dX2_placeIn_32 : decode cX2_placeIn 32 = .ok (.iload 4, 2) := by decide +kernel
theorem dX2_placeIn_34 : decode cX2_placeIn 34 = .ok (.ireturn, 1) := by decide +kernel
theorem dX2_lyingIn_0 : decode cX2_lyingIn 0 = .ok (.aload_n 0, 1) := by decide +kernel
theorem dX2_lyingIn_1 : decode cX2_lyingIn 1 = .ok (.iload_n 1, 1) := by decide +kernel
theorem dX2_lyingIn_2 : decode cX2_lyingIn 2 = .ok (.invokevirtual 103, 3) := by decide +kernel
theorem dX2_lyingIn_5 : decode cX2_lyingIn 5 = .ok (.getfield 40, 3) := by decide +kernel
theorem dX2_lyingIn_8 : decode cX2_lyingIn 8 = .ok (.invokevirtual 114, 3) := by decide +kernel
theorem dX2_lyingIn_11 : decode cX2_lyingIn 11 = .ok (.ireturn, 1) := by decide +kernel
theorem dX2_areAlike_0 : decode cX2_areAlike 0 = .ok (.aload_n 0, 1) := by decide +kernel
theorem dX2_areAlike_1 : decode cX2_areAlike 1 = .ok (.iload_n 1, 1) := by decide +kernel
theorem dX2_areAlike_2 : decode cX2_areAlike 2 = .ok (.invokevirtual 103, 3) := by decide +kernel
theorem dX2_areAlike_5 : decode cX2_areAlike 5 = .ok (.getfield 40, 3) := by decide +kernel
theorem dX2_areAlike_8 : decode cX2_areAlike 8 = .ok (.astore_n 3, 1) := by decide +kernel
theorem dX2_areAlike_9 : decode cX2_areAlike 9 = .ok (.aload_n 0, 1) := by decide +kernel
theorem dX2_areAlike_10 : decode cX2_areAlike 10 = .ok (.iload_n 2, 1) := by decide +kernel
theorem dX2_areAlike_11 : decode cX2_areAlike 11 = .ok (.invokevirtual 103, 3) := by decide +kernel
theorem dX2_areAlike_14 : decode cX2_areAlike 14 = .ok (.getfield 40, 3) := by decide +kernel
theorem dX2_areAlike_17 : decode cX2_areAlike 17 = .ok (.astore 4, 2) := by decide +kernel
theorem dX2_areAlike_19 : decode cX2_areAlike 19 = .ok (.aload_n 3, 1) := by decide +kernel
theorem dX2_areAlike_20 : decode cX2_areAlike 20 = .ok (.aload 4, 2) := by decide +kernel
theorem dX2_areAlike_22 : decode cX2_areAlike 22 = .ok (.invokevirtual 164, 3) := by decide +kernel
theorem dX2_areAlike_25 : decode cX2_areAlike 25 = .ok (.ireturn, 1) := by decide +kernel
theorem dX2_mostKnocked_0 : decode cX2_mostKnocked 0 = .ok (.iconst (-1), 1) := by decide +kernel
theorem dX2_mostKnocked_1 : decode cX2_mostKnocked 1 = .ok (.istore_n 1, 1) := by decide +kernel
theorem dX2_mostKnocked_2 : decode cX2_mostKnocked 2 = .ok (.iconst (-1), 1) := by decide +kernel
theorem dX2_mostKnocked_3 : decode cX2_mostKnocked 3 = .ok (.istore_n 2, 1) := by decide +kernel
theorem dX2_mostKnocked_4 : decode cX2_mostKnocked 4 = .ok (.iconst 0, 1) := by decide +kernel
theorem dX2_mostKnocked_5 : decode cX2_mostKnocked 5 = .ok (.istore_n 3, 1) := by decide +kernel
theorem dX2_mostKnocked_6 : decode cX2_mostKnocked 6 = .ok (.iload_n 3, 1) := by decide +kernel
theorem dX2_mostKnocked_7 : decode cX2_mostKnocked 7 = .ok (.aload_n 0, 1) := by decide +kernel
theorem dX2_mostKnocked_8 : decode cX2_mostKnocked 8 = .ok (.invokevirtual 168, 3) := by decide +kernel
theorem dX2_mostKnocked_11 : decode cX2_mostKnocked 11 = .ok (.if_icmp .ge 27, 3) := by decide +kernel
theorem dX2_mostKnocked_14 : decode cX2_mostKnocked 14 = .ok (.aload_n 0, 1) := by decide +kernel
theorem dX2_mostKnocked_15 : decode cX2_mostKnocked 15 = .ok (.iload_n 3, 1) := by decide +kernel
theorem dX2_mostKnocked_16 : decode cX2_mostKnocked 16 = .ok (.invokevirtual 171, 3) := by decide +kernel
theorem dX2_mostKnocked_19 : decode cX2_mostKnocked 19 = .ok (.istore 4, 2) := by decide +kernel
theorem dX2_mostKnocked_21 : decode cX2_mostKnocked 21 = .ok (.iload 4, 2) := by decide +kernel
theorem dX2_mostKnocked_23 : decode cX2_mostKnocked 23 = .ok (.iload_n 2, 1) := by decide +kernel
theorem dX2_mostKnocked_24 : decode cX2_mostKnocked 24 = .ok (.if_icmp .le 8, 3) := by decide +kernel
theorem dX2_mostKnocked_27 : decode cX2_mostKnocked 27 = .ok (.iload 4, 2) := by decide +kernel
theorem dX2_mostKnocked_29 : decode cX2_mostKnocked 29 = .ok (.istore_n 2, 1) := by decide +kernel
theorem dX2_mostKnocked_30 : decode cX2_mostKnocked 30 = .ok (.iload_n 3, 1) := by decide +kernel
theorem dX2_mostKnocked_31 : decode cX2_mostKnocked 31 = .ok (.istore_n 1, 1) := by decide +kernel
theorem dX2_mostKnocked_32 : decode cX2_mostKnocked 32 = .ok (.iinc 3 1, 3) := by decide +kernel
theorem dX2_mostKnocked_35 : decode cX2_mostKnocked 35 = .ok (.goto (-29), 3) := by decide +kernel
theorem dX2_mostKnocked_38 : decode cX2_mostKnocked 38 = .ok (.iload_n 1, 1) := by decide +kernel
theorem dX2_mostKnocked_39 : decode cX2_mostKnocked 39 = .ok (.ireturn, 1) := by decide +kernel
theorem dX2_meanDepth_0 : decode cX2_meanDepth 0 = .ok (.iconst 0, 1) := by decide +kernel
theorem dX2_meanDepth_1 : decode cX2_meanDepth 1 = .ok (.istore_n 1, 1) := by decide +kernel
theorem dX2_meanDepth_2 : decode cX2_meanDepth 2 = .ok (.iconst 0, 1) := by decide +kernel
theorem dX2_meanDepth_3 : decode cX2_meanDepth 3 = .ok (.istore_n 2, 1) := by decide +kernel
theorem dX2_meanDepth_4 : decode cX2_meanDepth 4 = .ok (.iconst 0, 1) := by decide +kernel
theorem dX2_meanDepth_5 : decode cX2_meanDepth 5 = .ok (.istore_n 3, 1) := by decide +kernel
theorem dX2_meanDepth_6 : decode cX2_meanDepth 6 = .ok (.iload_n 3, 1) := by decide +kernel
theorem dX2_meanDepth_7 : decode cX2_meanDepth 7 = .ok (.aload_n 0, 1) := by decide +kernel
theorem dX2_meanDepth_8 : decode cX2_meanDepth 8 = .ok (.getfield 26, 3) := by decide +kernel
theorem dX2_meanDepth_11 : decode cX2_meanDepth 11 = .ok (.invokeinterface 55 1, 5) := by decide +kernel
theorem dX2_meanDepth_16 : decode cX2_meanDepth 16 = .ok (.if_icmp .ge 43, 3) := by decide +kernel
theorem dX2_meanDepth_19 : decode cX2_meanDepth 19 = .ok (.aload_n 0, 1) := by decide +kernel
theorem dX2_meanDepth_20 : decode cX2_meanDepth 20 = .ok (.getfield 26, 3) := by decide +kernel
theorem dX2_meanDepth_23 : decode cX2_meanDepth 23 = .ok (.iload_n 3, 1) := by decide +kernel
theorem dX2_meanDepth_24 : decode cX2_meanDepth 24 = .ok (.invokeinterface 156 2, 5) := by decide +kernel
theorem dX2_meanDepth_29 : decode cX2_meanDepth 29 = .ok (.checkcast 7, 3) := by decide +kernel
theorem dX2_meanDepth_32 : decode cX2_meanDepth 32 = .ok (.astore 4, 2) := by decide +kernel
theorem dX2_meanDepth_34 : decode cX2_meanDepth 34 = .ok (.aload 4, 2) := by decide +kernel
theorem dX2_meanDepth_36 : decode cX2_meanDepth 36 = .ok (.invokevirtual 160, 3) := by decide +kernel
theorem dX2_meanDepth_39 : decode cX2_meanDepth 39 = .ok (.ifCond .eq 14, 3) := by decide +kernel
theorem dX2_meanDepth_42 : decode cX2_meanDepth 42 = .ok (.iinc 1 1, 3) := by decide +kernel
theorem dX2_meanDepth_45 : decode cX2_meanDepth 45 = .ok (.iload_n 2, 1) := by decide +kernel
theorem dX2_meanDepth_46 : decode cX2_meanDepth 46 = .ok (.aload 4, 2) := by decide +kernel
theorem dX2_meanDepth_48 : decode cX2_meanDepth 48 = .ok (.getfield 143, 3) := by decide +kernel
theorem dX2_meanDepth_51 : decode cX2_meanDepth 51 = .ok (.iadd, 1) := by decide +kernel
theorem dX2_meanDepth_52 : decode cX2_meanDepth 52 = .ok (.istore_n 2, 1) := by decide +kernel
theorem dX2_meanDepth_53 : decode cX2_meanDepth 53 = .ok (.iinc 3 1, 3) := by decide +kernel
theorem dX2_meanDepth_56 : decode cX2_meanDepth 56 = .ok (.goto (-50), 3) := by decide +kernel
theorem dX2_meanDepth_59 : decode cX2_meanDepth 59 = .ok (.iload_n 1, 1) := by decide +kernel
theorem dX2_meanDepth_60 : decode cX2_meanDepth 60 = .ok (.ifCond .ne 7, 3) := by decide +kernel
theorem dX2_meanDepth_63 : decode cX2_meanDepth 63 = .ok (.dconst 0, 1) := by decide +kernel
theorem dX2_meanDepth_64 : decode cX2_meanDepth 64 = .ok (.goto 8, 3) := by decide +kernel
theorem dX2_meanDepth_67 : decode cX2_meanDepth 67 = .ok (.iload_n 2, 1) := by decide +kernel
theorem dX2_meanDepth_68 : decode cX2_meanDepth 68 = .ok (.i2d, 1) := by decide +kernel
theorem dX2_meanDepth_69 : decode cX2_meanDepth 69 = .ok (.iload_n 1, 1) := by decide +kernel
theorem dX2_meanDepth_70 : decode cX2_meanDepth 70 = .ok (.i2d, 1) := by decide +kernel
theorem dX2_meanDepth_71 : decode cX2_meanDepth 71 = .ok (.ddiv, 1) := by decide +kernel
theorem dX2_meanDepth_72 : decode cX2_meanDepth 72 = .ok (.dreturn, 1) := by decide +kernel
theorem dX2_digest_0 : decode cX2_digest 0 = .ok (.ldc2_w 174, 3) := by decide +kernel
theorem dX2_digest_3 : decode cX2_digest 3 = .ok (.lstore_n 1, 1) := by decide +kernel
theorem dX2_digest_4 : decode cX2_digest 4 = .ok (.lload_n 1, 1) := by decide +kernel
theorem dX2_digest_5 : decode cX2_digest 5 = .ok (.aload_n 0, 1) := by decide +kernel
theorem dX2_digest_6 : decode cX2_digest 6 = .ok (.invokevirtual 176, 3) := by decide +kernel
theorem dX2_digest_9 : decode cX2_digest 9 = .ok (.i2l, 1) := by decide +kernel
theorem dX2_digest_10 : decode cX2_digest 10 = .ok (.invokestatic 179, 3) := by decide +kernel
theorem dX2_digest_13 : decode cX2_digest 13 = .ok (.lstore_n 1, 1) := by decide +kernel
theorem dX2_digest_14 : decode cX2_digest 14 = .ok (.lload_n 1, 1) := by decide +kernel
theorem dX2_digest_15 : decode cX2_digest 15 = .ok (.aload_n 0, 1) := by decide +kernel
theorem dX2_digest_16 : decode cX2_digest 16 = .ok (.invokevirtual 183, 3) := by decide +kernel
theorem dX2_digest_19 : decode cX2_digest 19 = .ok (.i2l, 1) := by decide +kernel
theorem dX2_digest_20 : decode cX2_digest 20 = .ok (.invokestatic 179, 3) := by decide +kernel
theorem dX2_digest_23 : decode cX2_digest 23 = .ok (.lstore_n 1, 1) := by decide +kernel
theorem dX2_digest_24 : decode cX2_digest 24 = .ok (.lload_n 1, 1) := by decide +kernel
theorem dX2_digest_25 : decode cX2_digest 25 = .ok (.aload_n 0, 1) := by decide +kernel
theorem dX2_digest_26 : decode cX2_digest 26 = .ok (.invokevirtual 168, 3) := by decide +kernel
theorem dX2_digest_29 : decode cX2_digest 29 = .ok (.i2l, 1) := by decide +kernel
theorem dX2_digest_30 : decode cX2_digest 30 = .ok (.invokestatic 179, 3) := by decide +kernel
theorem dX2_digest_33 : decode cX2_digest 33 = .ok (.lstore_n 1, 1) := by decide +kernel
theorem dX2_digest_34 : decode cX2_digest 34 = .ok (.lload_n 1, 1) := by decide +kernel
theorem dX2_digest_35 : decode cX2_digest 35 = .ok (.aload_n 0, 1) := by decide +kernel
theorem dX2_digest_36 : decode cX2_digest 36 = .ok (.invokevirtual 186, 3) := by decide +kernel
theorem dX2_digest_39 : decode cX2_digest 39 = .ok (.i2l, 1) := by decide +kernel
theorem dX2_digest_40 : decode cX2_digest 40 = .ok (.invokestatic 179, 3) := by decide +kernel
theorem dX2_digest_43 : decode cX2_digest 43 = .ok (.lstore_n 1, 1) := by decide +kernel
theorem dX2_digest_44 : decode cX2_digest 44 = .ok (.lload_n 1, 1) := by decide +kernel
theorem dX2_digest_45 : decode cX2_digest 45 = .ok (.aload_n 0, 1) := by decide +kernel
theorem dX2_digest_46 : decode cX2_digest 46 = .ok (.invokevirtual 189, 3) := by decide +kernel
theorem dX2_digest_49 : decode cX2_digest 49 = .ok (.i2l, 1) := by decide +kernel
theorem dX2_digest_50 : decode cX2_digest 50 = .ok (.invokestatic 179, 3) := by decide +kernel
theorem dX2_digest_53 : decode cX2_digest 53 = .ok (.lstore_n 1, 1) := by decide +kernel
theorem dX2_digest_54 : decode cX2_digest 54 = .ok (.lload_n 1, 1) := by decide +kernel
theorem dX2_digest_55 : decode cX2_digest 55 = .ok (.aload_n 0, 1) := by decide +kernel
theorem dX2_digest_56 : decode cX2_digest 56 = .ok (.invokevirtual 192, 3) := by decide +kernel
theorem dX2_digest_59 : decode cX2_digest 59 = .ok (.i2l, 1) := by decide +kernel
theorem dX2_digest_60 : decode cX2_digest 60 = .ok (.invokestatic 179, 3) := by decide +kernel
theorem dX2_digest_63 : decode cX2_digest 63 = .ok (.lstore_n 1, 1) := by decide +kernel
theorem dX2_digest_64 : decode cX2_digest 64 = .ok (.lload_n 1, 1) := by decide +kernel
theorem dX2_digest_65 : decode cX2_digest 65 = .ok (.aload_n 0, 1) := by decide +kernel
theorem dX2_digest_66 : decode cX2_digest 66 = .ok (.invokevirtual 195, 3) := by decide +kernel
theorem dX2_digest_69 : decode cX2_digest 69 = .ok (.i2l, 1) := by decide +kernel
theorem dX2_digest_70 : decode cX2_digest 70 = .ok (.invokestatic 179, 3) := by decide +kernel
theorem dX2_digest_73 : decode cX2_digest 73 = .ok (.lstore_n 1, 1) := by decide +kernel
theorem dX2_digest_74 : decode cX2_digest 74 = .ok (.lload_n 1, 1) := by decide +kernel
theorem dX2_digest_75 : decode cX2_digest 75 = .ok (.aload_n 0, 1) := by decide +kernel
theorem dX2_digest_76 : decode cX2_digest 76 = .ok (.invokevirtual 198, 3) := by decide +kernel
theorem dX2_digest_79 : decode cX2_digest 79 = .ok (.i2l, 1) := by decide +kernel
theorem dX2_digest_80 : decode cX2_digest 80 = .ok (.invokestatic 179, 3) := by decide +kernel
theorem dX2_digest_83 : decode cX2_digest 83 = .ok (.lstore_n 1, 1) := by decide +kernel
theorem dX2_digest_84 : decode cX2_digest 84 = .ok (.iconst 0, 1) := by decide +kernel
theorem dX2_digest_85 : decode cX2_digest 85 = .ok (.istore_n 3, 1) := by decide +kernel
theorem dX2_digest_86 : decode cX2_digest 86 = .ok (.iload_n 3, 1) := by decide +kernel
theorem dX2_digest_87 : decode cX2_digest 87 = .ok (.aload_n 0, 1) := by decide +kernel
theorem dX2_digest_88 : decode cX2_digest 88 = .ok (.invokevirtual 168, 3) := by decide +kernel
theorem dX2_digest_91 : decode cX2_digest 91 = .ok (.if_icmp .ge 38, 3) := by decide +kernel
theorem dX2_digest_94 : decode cX2_digest 94 = .ok (.lload_n 1, 1) := by decide +kernel
theorem dX2_digest_95 : decode cX2_digest 95 = .ok (.aload_n 0, 1) := by decide +kernel
theorem dX2_digest_96 : decode cX2_digest 96 = .ok (.iload_n 3, 1) := by decide +kernel
theorem dX2_digest_97 : decode cX2_digest 97 = .ok (.invokevirtual 201, 3) := by decide +kernel
theorem dX2_digest_100 : decode cX2_digest 100 = .ok (.i2l, 1) := by decide +kernel
theorem dX2_digest_101 : decode cX2_digest 101 = .ok (.invokestatic 179, 3) := by decide +kernel
theorem dX2_digest_104 : decode cX2_digest 104 = .ok (.lstore_n 1, 1) := by decide +kernel
theorem dX2_digest_105 : decode cX2_digest 105 = .ok (.lload_n 1, 1) := by decide +kernel
theorem dX2_digest_106 : decode cX2_digest 106 = .ok (.aload_n 0, 1) := by decide +kernel
theorem dX2_digest_107 : decode cX2_digest 107 = .ok (.iload_n 3, 1) := by decide +kernel
theorem dX2_digest_108 : decode cX2_digest 108 = .ok (.invokevirtual 204, 3) := by decide +kernel
theorem dX2_digest_111 : decode cX2_digest 111 = .ok (.ifCond .eq 7, 3) := by decide +kernel
theorem dX2_digest_114 : decode cX2_digest 114 = .ok (.lconst 1, 1) := by decide +kernel
theorem dX2_digest_115 : decode cX2_digest 115 = .ok (.goto 4, 3) := by decide +kernel
theorem dX2_digest_118 : decode cX2_digest 118 = .ok (.lconst 0, 1) := by decide +kernel
theorem dX2_digest_119 : decode cX2_digest 119 = .ok (.invokestatic 179, 3) := by decide +kernel
theorem dX2_digest_122 : decode cX2_digest 122 = .ok (.lstore_n 1, 1) := by decide +kernel
theorem dX2_digest_123 : decode cX2_digest 123 = .ok (.iinc 3 1, 3) := by decide +kernel
theorem dX2_digest_126 : decode cX2_digest 126 = .ok (.goto (-40), 3) := by decide +kernel
theorem dX2_digest_129 : decode cX2_digest 129 = .ok (.iconst 0, 1) := by decide +kernel
theorem dX2_digest_130 : decode cX2_digest 130 = .ok (.istore_n 3, 1) := by decide +kernel
theorem dX2_digest_131 : decode cX2_digest 131 = .ok (.iload_n 3, 1) := by decide +kernel
theorem dX2_digest_132 : decode cX2_digest 132 = .ok (.aload_n 0, 1) := by decide +kernel
theorem dX2_digest_133 : decode cX2_digest 133 = .ok (.getfield 26, 3) := by decide +kernel
theorem dX2_digest_136 : decode cX2_digest 136 = .ok (.invokeinterface 55 1, 5) := by decide +kernel
theorem dX2_digest_141 : decode cX2_digest 141 = .ok (.if_icmp .ge 28, 3) := by decide +kernel
theorem dX2_digest_144 : decode cX2_digest 144 = .ok (.aload_n 0, 1) := by decide +kernel
theorem dX2_digest_145 : decode cX2_digest 145 = .ok (.lload_n 1, 1) := by decide +kernel
theorem dX2_digest_146 : decode cX2_digest 146 = .ok (.aload_n 0, 1) := by decide +kernel
theorem dX2_digest_147 : decode cX2_digest 147 = .ok (.getfield 26, 3) := by decide +kernel
theorem dX2_digest_150 : decode cX2_digest 150 = .ok (.iload_n 3, 1) := by decide +kernel
theorem dX2_digest_151 : decode cX2_digest 151 = .ok (.invokeinterface 156 2, 5) := by decide +kernel
theorem dX2_digest_156 : decode cX2_digest 156 = .ok (.checkcast 7, 3) := by decide +kernel
theorem dX2_digest_159 : decode cX2_digest 159 = .ok (.invokevirtual 207, 3) := by decide +kernel
theorem dX2_digest_162 : decode cX2_digest 162 = .ok (.lstore_n 1, 1) := by decide +kernel
theorem dX2_digest_163 : decode cX2_digest 163 = .ok (.iinc 3 1, 3) := by decide +kernel
theorem dX2_digest_166 : decode cX2_digest 166 = .ok (.goto (-35), 3) := by decide +kernel
theorem dX2_digest_169 : decode cX2_digest 169 = .ok (.lload_n 1, 1) := by decide +kernel
theorem dX2_digest_170 : decode cX2_digest 170 = .ok (.lreturn, 1) := by decide +kernel
theorem dX2_withEvening_0 : decode cX2_withEvening 0 = .ok (.lload_n 1, 1) := by decide +kernel
theorem dX2_withEvening_1 : decode cX2_withEvening 1 = .ok (.lstore 4, 2) := by decide +kernel
theorem dX2_withEvening_3 : decode cX2_withEvening 3 = .ok (.lload 4, 2) := by decide +kernel
theorem dX2_withEvening_5 : decode cX2_withEvening 5 = .ok (.aload_n 3, 1) := by decide +kernel
theorem dX2_withEvening_6 : decode cX2_withEvening 6 = .ok (.getfield 93, 3) := by decide +kernel
theorem dX2_withEvening_9 : decode cX2_withEvening 9 = .ok (.invokestatic 133, 3) := by decide +kernel
theorem dX2_withEvening_12 : decode cX2_withEvening 12 = .ok (.i2l, 1) := by decide +kernel
theorem dX2_withEvening_13 : decode cX2_withEvening 13 = .ok (.invokestatic 179, 3) := by decide +kernel
theorem dX2_withEvening_16 : decode cX2_withEvening 16 = .ok (.lstore 4, 2) := by decide +kernel
theorem dX2_withEvening_18 : decode cX2_withEvening 18 = .ok (.lload 4, 2) := by decide +kernel
theorem dX2_withEvening_20 : decode cX2_withEvening 20 = .ok (.aload_n 3, 1) := by decide +kernel
theorem dX2_withEvening_21 : decode cX2_withEvening 21 = .ok (.getfield 137, 3) := by decide +kernel
theorem dX2_withEvening_24 : decode cX2_withEvening 24 = .ok (.i2l, 1) := by decide +kernel
theorem dX2_withEvening_25 : decode cX2_withEvening 25 = .ok (.invokestatic 179, 3) := by decide +kernel
theorem dX2_withEvening_28 : decode cX2_withEvening 28 = .ok (.lstore 4, 2) := by decide +kernel
theorem dX2_withEvening_30 : decode cX2_withEvening 30 = .ok (.lload 4, 2) := by decide +kernel
theorem dX2_withEvening_32 : decode cX2_withEvening 32 = .ok (.aload_n 3, 1) := by decide +kernel
theorem dX2_withEvening_33 : decode cX2_withEvening 33 = .ok (.getfield 140, 3) := by decide +kernel
theorem dX2_withEvening_36 : decode cX2_withEvening 36 = .ok (.i2l, 1) := by decide +kernel
theorem dX2_withEvening_37 : decode cX2_withEvening 37 = .ok (.invokestatic 179, 3) := by decide +kernel
theorem dX2_withEvening_40 : decode cX2_withEvening 40 = .ok (.lstore 4, 2) := by decide +kernel
theorem dX2_withEvening_42 : decode cX2_withEvening 42 = .ok (.lload 4, 2) := by decide +kernel
theorem dX2_withEvening_44 : decode cX2_withEvening 44 = .ok (.aload_n 3, 1) := by decide +kernel
theorem dX2_withEvening_45 : decode cX2_withEvening 45 = .ok (.getfield 143, 3) := by decide +kernel
theorem dX2_withEvening_48 : decode cX2_withEvening 48 = .ok (.i2l, 1) := by decide +kernel
theorem dX2_withEvening_49 : decode cX2_withEvening 49 = .ok (.invokestatic 179, 3) := by decide +kernel
theorem dX2_withEvening_52 : decode cX2_withEvening 52 = .ok (.lstore 4, 2) := by decide +kernel
theorem dX2_withEvening_54 : decode cX2_withEvening 54 = .ok (.lload 4, 2) := by decide +kernel
theorem dX2_withEvening_56 : decode cX2_withEvening 56 = .ok (.aload_n 3, 1) := by decide +kernel
theorem dX2_withEvening_57 : decode cX2_withEvening 57 = .ok (.getfield 146, 3) := by decide +kernel
theorem dX2_withEvening_60 : decode cX2_withEvening 60 = .ok (.i2l, 1) := by decide +kernel
theorem dX2_withEvening_61 : decode cX2_withEvening 61 = .ok (.invokestatic 179, 3) := by decide +kernel
theorem dX2_withEvening_64 : decode cX2_withEvening 64 = .ok (.lstore 4, 2) := by decide +kernel
theorem dX2_withEvening_66 : decode cX2_withEvening 66 = .ok (.lload 4, 2) := by decide +kernel
theorem dX2_withEvening_68 : decode cX2_withEvening 68 = .ok (.aload_n 3, 1) := by decide +kernel
theorem dX2_withEvening_69 : decode cX2_withEvening 69 = .ok (.getfield 149, 3) := by decide +kernel
theorem dX2_withEvening_72 : decode cX2_withEvening 72 = .ok (.i2l, 1) := by decide +kernel
theorem dX2_withEvening_73 : decode cX2_withEvening 73 = .ok (.invokestatic 179, 3) := by decide +kernel
theorem dX2_withEvening_76 : decode cX2_withEvening 76 = .ok (.lstore 4, 2) := by decide +kernel
theorem dX2_withEvening_78 : decode cX2_withEvening 78 = .ok (.lload 4, 2) := by decide +kernel
theorem dX2_withEvening_80 : decode cX2_withEvening 80 = .ok (.aload_n 3, 1) := by decide +kernel
theorem dX2_withEvening_81 : decode cX2_withEvening 81 = .ok (.getfield 98, 3) := by decide +kernel
theorem dX2_withEvening_84 : decode cX2_withEvening 84 = .ok (.invokestatic 133, 3) := by decide +kernel
theorem dX2_withEvening_87 : decode cX2_withEvening 87 = .ok (.i2l, 1) := by decide +kernel
theorem dX2_withEvening_88 : decode cX2_withEvening 88 = .ok (.invokestatic 179, 3) := by decide +kernel
theorem dX2_withEvening_91 : decode cX2_withEvening 91 = .ok (.lstore 4, 2) := by decide +kernel
theorem dX2_withEvening_93 : decode cX2_withEvening 93 = .ok (.lload 4, 2) := by decide +kernel
theorem dX2_withEvening_95 : decode cX2_withEvening 95 = .ok (.aload_n 3, 1) := by decide +kernel
theorem dX2_withEvening_96 : decode cX2_withEvening 96 = .ok (.getfield 40, 3) := by decide +kernel
theorem dX2_withEvening_99 : decode cX2_withEvening 99 = .ok (.invokevirtual 114, 3) := by decide +kernel
theorem dX2_withEvening_102 : decode cX2_withEvening 102 = .ok (.i2l, 1) := by decide +kernel
theorem dX2_withEvening_103 : decode cX2_withEvening 103 = .ok (.invokestatic 179, 3) := by decide +kernel
theorem dX2_withEvening_106 : decode cX2_withEvening 106 = .ok (.lstore 4, 2) := by decide +kernel
theorem dX2_withEvening_108 : decode cX2_withEvening 108 = .ok (.lload 4, 2) := by decide +kernel
theorem dX2_withEvening_110 : decode cX2_withEvening 110 = .ok (.aload_n 3, 1) := by decide +kernel
theorem dX2_withEvening_111 : decode cX2_withEvening 111 = .ok (.aload_n 0, 1) := by decide +kernel
theorem dX2_withEvening_112 : decode cX2_withEvening 112 = .ok (.getfield 19, 3) := by decide +kernel
theorem dX2_withEvening_115 : decode cX2_withEvening 115 = .ok (.invokestatic 107, 3) := by decide +kernel
theorem dX2_withEvening_118 : decode cX2_withEvening 118 = .ok (.i2l, 1) := by decide +kernel
theorem dX2_withEvening_119 : decode cX2_withEvening 119 = .ok (.invokestatic 179, 3) := by decide +kernel
theorem dX2_withEvening_122 : decode cX2_withEvening 122 = .ok (.lstore 4, 2) := by decide +kernel
theorem dX2_withEvening_124 : decode cX2_withEvening 124 = .ok (.lload 4, 2) := by decide +kernel
theorem dX2_withEvening_126 : decode cX2_withEvening 126 = .ok (.aload_n 3, 1) := by decide +kernel
theorem dX2_withEvening_127 : decode cX2_withEvening 127 = .ok (.getfield 40, 3) := by decide +kernel
theorem dX2_withEvening_130 : decode cX2_withEvening 130 = .ok (.aload_n 0, 1) := by decide +kernel
theorem dX2_withEvening_131 : decode cX2_withEvening 131 = .ok (.getfield 19, 3) := by decide +kernel
theorem dX2_withEvening_134 : decode cX2_withEvening 134 = .ok (.getfield 40, 3) := by decide +kernel
theorem dX2_withEvening_137 : decode cX2_withEvening 137 = .ok (.invokevirtual 164, 3) := by decide +kernel
theorem dX2_withEvening_140 : decode cX2_withEvening 140 = .ok (.ifCond .eq 7, 3) := by decide +kernel
theorem dX2_withEvening_143 : decode cX2_withEvening 143 = .ok (.lconst 1, 1) := by decide +kernel
theorem dX2_withEvening_144 : decode cX2_withEvening 144 = .ok (.goto 4, 3) := by decide +kernel
theorem dX2_withEvening_147 : decode cX2_withEvening 147 = .ok (.lconst 0, 1) := by decide +kernel
theorem dX2_withEvening_148 : decode cX2_withEvening 148 = .ok (.invokestatic 179, 3) := by decide +kernel
theorem dX2_withEvening_151 : decode cX2_withEvening 151 = .ok (.lreturn, 1) := by decide +kernel
theorem dX2_mixed_0 : decode cX2_mixed 0 = .ok (.lload_n 0, 1) := by decide +kernel
theorem dX2_mixed_1 : decode cX2_mixed 1 = .ok (.ldc2_w 211, 3) := by decide +kernel
theorem dX2_mixed_4 : decode cX2_mixed 4 = .ok (.lmul, 1) := by decide +kernel
theorem dX2_mixed_5 : decode cX2_mixed 5 = .ok (.lload_n 2, 1) := by decide +kernel
theorem dX2_mixed_6 : decode cX2_mixed 6 = .ok (.ladd, 1) := by decide +kernel
theorem dX2_mixed_7 : decode cX2_mixed 7 = .ok (.lreturn, 1) := by decide +kernel
theorem dX2_existing_0 : decode cX2_existing 0 = .ok (.iload_n 1, 1) := by decide +kernel
theorem dX2_existing_1 : decode cX2_existing 1 = .ok (.ifCond .lt 16, 3) := by decide +kernel
theorem dX2_existing_4 : decode cX2_existing 4 = .ok (.iload_n 1, 1) := by decide +kernel
theorem dX2_existing_5 : decode cX2_existing 5 = .ok (.aload_n 0, 1) := by decide +kernel
theorem dX2_existing_6 : decode cX2_existing 6 = .ok (.getfield 26, 3) := by decide +kernel
theorem dX2_existing_9 : decode cX2_existing 9 = .ok (.invokeinterface 55 1, 5) := by decide +kernel
theorem dX2_existing_14 : decode cX2_existing 14 = .ok (.if_icmp .lt 13, 3) := by decide +kernel
theorem dX2_existing_17 : decode cX2_existing 17 = .ok (.new 125, 3) := by decide +kernel
theorem dX2_existing_20 : decode cX2_existing 20 = .ok (.dup, 1) := by decide +kernel
theorem dX2_existing_21 : decode cX2_existing 21 = .ok (.ldc 213, 2) := by decide +kernel
theorem dX2_existing_23 : decode cX2_existing 23 = .ok (.invokespecial 129, 3) := by decide +kernel
theorem dX2_existing_26 : decode cX2_existing 26 = .ok (.athrow, 1) := by decide +kernel
theorem dX2_existing_27 : decode cX2_existing 27 = .ok (.aload_n 0, 1) := by decide +kernel
theorem dX2_existing_28 : decode cX2_existing 28 = .ok (.getfield 26, 3) := by decide +kernel
theorem dX2_existing_31 : decode cX2_existing 31 = .ok (.iload_n 1, 1) := by decide +kernel
theorem dX2_existing_32 : decode cX2_existing 32 = .ok (.invokeinterface 156 2, 5) := by decide +kernel
theorem dX2_existing_37 : decode cX2_existing 37 = .ok (.checkcast 7, 3) := by decide +kernel
theorem dX2_existing_40 : decode cX2_existing 40 = .ok (.areturn, 1) := by decide +kernel
theorem dX2_sceneAfter_0 : decode cX2_sceneAfter 0 = .ok (.iload_n 1, 1) := by decide +kernel
theorem dX2_sceneAfter_1 : decode cX2_sceneAfter 1 = .ok (.iload_n 2, 1) := by decide +kernel
theorem dX2_sceneAfter_2 : decode cX2_sceneAfter 2 = .ok (.invokestatic 215, 3) := by decide +kernel
theorem dX2_sceneAfter_5 : decode cX2_sceneAfter 5 = .ok (.ifCond .ne 13, 3) := by decide +kernel
theorem dX2_sceneAfter_8 : decode cX2_sceneAfter 8 = .ok (.new 219, 3) := by decide +kernel
theorem dX2_sceneAfter_11 : decode cX2_sceneAfter 11 = .ok (.dup, 1) := by decide +kernel
theorem dX2_sceneAfter_12 : decode cX2_sceneAfter 12 = .ok (.ldc 221, 2) := by decide +kernel
theorem dX2_sceneAfter_14 : decode cX2_sceneAfter 14 = .ok (.invokespecial 223, 3) := by decide +kernel
theorem dX2_sceneAfter_17 : decode cX2_sceneAfter 17 = .ok (.athrow, 1) := by decide +kernel
theorem dX2_sceneAfter_18 : decode cX2_sceneAfter 18 = .ok (.aload_n 0, 1) := by decide +kernel
theorem dX2_sceneAfter_19 : decode cX2_sceneAfter 19 = .ok (.getfield 19, 3) := by decide +kernel
theorem dX2_sceneAfter_22 : decode cX2_sceneAfter 22 = .ok (.getfield 40, 3) := by decide +kernel
theorem dX2_sceneAfter_25 : decode cX2_sceneAfter 25 = .ok (.iload_n 1, 1) := by decide +kernel
theorem dX2_sceneAfter_26 : decode cX2_sceneAfter 26 = .ok (.iload_n 2, 1) := by decide +kernel
theorem dX2_sceneAfter_27 : decode cX2_sceneAfter 27 = .ok (.invokevirtual 224, 3) := by decide +kernel
theorem dX2_sceneAfter_30 : decode cX2_sceneAfter 30 = .ok (.areturn, 1) := by decide +kernel
theorem dX2_knocksOf_0 : decode cX2_knocksOf 0 = .ok (.iconst 0, 1) := by decide +kernel
theorem dX2_knocksOf_1 : decode cX2_knocksOf 1 = .ok (.istore_n 2, 1) := by decide +kernel
theorem dX2_knocksOf_2 : decode cX2_knocksOf 2 = .ok (.iconst 0, 1) := by decide +kernel
theorem dX2_knocksOf_3 : decode cX2_knocksOf 3 = .ok (.istore_n 3, 1) := by decide +kernel
theorem dX2_knocksOf_4 : decode cX2_knocksOf 4 = .ok (.iload_n 3, 1) := by decide +kernel
theorem dX2_knocksOf_5 : decode cX2_knocksOf 5 = .ok (.aload_n 0, 1) := by decide +kernel
theorem dX2_knocksOf_6 : decode cX2_knocksOf 6 = .ok (.getfield 26, 3) := by decide +kernel
theorem dX2_knocksOf_9 : decode cX2_knocksOf 9 = .ok (.invokeinterface 55 1, 5) := by decide +kernel
theorem dX2_knocksOf_14 : decode cX2_knocksOf 14 = .ok (.if_icmp .ge 45, 3) := by decide +kernel
theorem dX2_knocksOf_17 : decode cX2_knocksOf 17 = .ok (.aload_n 0, 1) := by decide +kernel
theorem dX2_knocksOf_18 : decode cX2_knocksOf 18 = .ok (.getfield 26, 3) := by decide +kernel
theorem dX2_knocksOf_21 : decode cX2_knocksOf 21 = .ok (.iload_n 3, 1) := by decide +kernel
theorem dX2_knocksOf_22 : decode cX2_knocksOf 22 = .ok (.invokeinterface 156 2, 5) := by decide +kernel
theorem dX2_knocksOf_27 : decode cX2_knocksOf 27 = .ok (.checkcast 7, 3) := by decide +kernel
theorem dX2_knocksOf_30 : decode cX2_knocksOf 30 = .ok (.astore 4, 2) := by decide +kernel
theorem dX2_knocksOf_32 : decode cX2_knocksOf 32 = .ok (.aload 4, 2) := by decide +kernel
theorem dX2_knocksOf_34 : decode cX2_knocksOf 34 = .ok (.getfield 137, 3) := by decide +kernel
theorem dX2_knocksOf_37 : decode cX2_knocksOf 37 = .ok (.iconst 1, 1) := by decide +kernel
theorem dX2_knocksOf_38 : decode cX2_knocksOf 38 = .ok (.if_icmp .ne 15, 3) := by decide +kernel
theorem dX2_knocksOf_41 : decode cX2_knocksOf 41 = .ok (.aload 4, 2) := by decide +kernel
theorem dX2_knocksOf_43 : decode cX2_knocksOf 43 = .ok (.getfield 140, 3) := by decide +kernel
theorem dX2_knocksOf_46 : decode cX2_knocksOf 46 = .ok (.iload_n 1, 1) := by decide +kernel
theorem dX2_knocksOf_47 : decode cX2_knocksOf 47 = .ok (.if_icmp .ne 6, 3) := by decide +kernel
theorem dX2_knocksOf_50 : decode cX2_knocksOf 50 = .ok (.iinc 2 1, 3) := by decide +kernel
theorem dX2_knocksOf_53 : decode cX2_knocksOf 53 = .ok (.iinc 3 1, 3) := by decide +kernel
theorem dX2_knocksOf_56 : decode cX2_knocksOf 56 = .ok (.goto (-52), 3) := by decide +kernel
theorem dX2_knocksOf_59 : decode cX2_knocksOf 59 = .ok (.iload_n 2, 1) := by decide +kernel
theorem dX2_knocksOf_60 : decode cX2_knocksOf 60 = .ok (.ireturn, 1) := by decide +kernel
theorem dX2_placeInScene_0 : decode cX2_placeInScene 0 = .ok (.aload_n 0, 1) := by decide +kernel
theorem dX2_placeInScene_1 : decode cX2_placeInScene 1 = .ok (.iload_n 1, 1) := by decide +kernel
theorem dX2_placeInScene_2 : decode cX2_placeInScene 2 = .ok (.invokevirtual 121, 3) := by decide +kernel
theorem dX2_placeInScene_5 : decode cX2_placeInScene 5 = .ok (.ifCond .ne 13, 3) := by decide +kernel
theorem dX2_placeInScene_8 : decode cX2_placeInScene 8 = .ok (.new 125, 3) := by decide +kernel
theorem dX2_placeInScene_11 : decode cX2_placeInScene 11 = .ok (.dup, 1) := by decide +kernel
theorem dX2_placeInScene_12 : decode cX2_placeInScene 12 = .ok (.ldc 127, 2) := by decide +kernel
theorem dX2_placeInScene_14 : decode cX2_placeInScene 14 = .ok (.invokespecial 129, 3) := by decide +kernel
theorem dX2_placeInScene_17 : decode cX2_placeInScene 17 = .ok (.athrow, 1) := by decide +kernel
theorem dX2_placeInScene_18 : decode cX2_placeInScene 18 = .ok (.aload_n 0, 1) := by decide +kernel
theorem dX2_placeInScene_19 : decode cX2_placeInScene 19 = .ok (.getfield 44, 3) := by decide +kernel
theorem dX2_placeInScene_22 : decode cX2_placeInScene 22 = .ok (.iload_n 1, 1) := by decide +kernel
theorem dX2_placeInScene_23 : decode cX2_placeInScene 23 = .ok (.iaload, 1) := by decide +kernel
theorem dX2_placeInScene_24 : decode cX2_placeInScene 24 = .ok (.ireturn, 1) := by decide +kernel
theorem dX2_labelOf_0 : decode cX2_labelOf 0 = .ok (.aload_n 0, 1) := by decide +kernel
theorem dX2_labelOf_1 : decode cX2_labelOf 1 = .ok (.ifnonnull 7, 3) := by decide +kernel
theorem dX2_labelOf_4 : decode cX2_labelOf 4 = .ok (.iconst (-1), 1) := by decide +kernel
theorem dX2_labelOf_5 : decode cX2_labelOf 5 = .ok (.goto 7, 3) := by decide +kernel
theorem dX2_labelOf_8 : decode cX2_labelOf 8 = .ok (.aload_n 0, 1) := by decide +kernel
theorem dX2_labelOf_9 : decode cX2_labelOf 9 = .ok (.getfield 85, 3) := by decide +kernel
theorem dX2_labelOf_12 : decode cX2_labelOf 12 = .ok (.ireturn, 1) := by decide +kernel
theorem dX2_checkMany_0 : decode cX2_checkMany 0 = .ok (.iload_n 0, 1) := by decide +kernel
theorem dX2_checkMany_1 : decode cX2_checkMany 1 = .ok (.iconst 1, 1) := by decide +kernel
theorem dX2_checkMany_2 : decode cX2_checkMany 2 = .ok (.if_icmp .lt 9, 3) := by decide +kernel
theorem dX2_checkMany_5 : decode cX2_checkMany 5 = .ok (.iload_n 0, 1) := by decide +kernel
theorem dX2_checkMany_6 : decode cX2_checkMany 6 = .ok (.bipush 60, 2) := by decide +kernel
theorem dX2_checkMany_8 : decode cX2_checkMany 8 = .ok (.if_icmp .le 13, 3) := by decide +kernel
theorem dX2_checkMany_11 : decode cX2_checkMany 11 = .ok (.new 219, 3) := by decide +kernel
theorem dX2_checkMany_14 : decode cX2_checkMany 14 = .ok (.dup, 1) := by decide +kernel
theorem dX2_checkMany_15 : decode cX2_checkMany 15 = .ok (.ldc 227, 2) := by decide +kernel
theorem dX2_checkMany_17 : decode cX2_checkMany 17 = .ok (.invokespecial 223, 3) := by decide +kernel
theorem dX2_checkMany_20 : decode cX2_checkMany 20 = .ok (.athrow, 1) := by decide +kernel
theorem dX2_checkMany_21 : decode cX2_checkMany 21 = .ok (.return_, 1) := by decide +kernel
theorem dX2_isPaw_0 : decode cX2_isPaw 0 = .ok (.iload_n 0, 1) := by decide +kernel
theorem dX2_isPaw_1 : decode cX2_isPaw 1 = .ok (.tableswitch 63 0 3 #[31, 47, 47, 31], 31) := by decide +kernel
theorem dX2_isPaw_32 : decode cX2_isPaw 32 = .ok (.iload_n 1, 1) := by decide +kernel
theorem dX2_isPaw_33 : decode cX2_isPaw 33 = .ok (.ifCond .lt 13, 3) := by decide +kernel
theorem dX2_isPaw_36 : decode cX2_isPaw 36 = .ok (.iload_n 1, 1) := by decide +kernel
theorem dX2_isPaw_37 : decode cX2_isPaw 37 = .ok (.bipush 8, 2) := by decide +kernel
theorem dX2_isPaw_39 : decode cX2_isPaw 39 = .ok (.if_icmp .ge 7, 3) := by decide +kernel
theorem dX2_isPaw_42 : decode cX2_isPaw 42 = .ok (.iconst 1, 1) := by decide +kernel
theorem dX2_isPaw_43 : decode cX2_isPaw 43 = .ok (.goto 4, 3) := by decide +kernel
theorem dX2_isPaw_46 : decode cX2_isPaw 46 = .ok (.iconst 0, 1) := by decide +kernel
theorem dX2_isPaw_47 : decode cX2_isPaw 47 = .ok (.ireturn, 1) := by decide +kernel
theorem dX2_isPaw_48 : decode cX2_isPaw 48 = .ok (.iload_n 1, 1) := by decide +kernel
theorem dX2_isPaw_49 : decode cX2_isPaw 49 = .ok (.ifCond .lt 13, 3) := by decide +kernel
theorem dX2_isPaw_52 : decode cX2_isPaw 52 = .ok (.iload_n 1, 1) := by decide +kernel
theorem dX2_isPaw_53 : decode cX2_isPaw 53 = .ok (.bipush 16, 2) := by decide +kernel
theorem dX2_isPaw_55 : decode cX2_isPaw 55 = .ok (.if_icmp .ge 7, 3) := by decide +kernel
theorem dX2_isPaw_58 : decode cX2_isPaw 58 = .ok (.iconst 1, 1) := by decide +kernel
theorem dX2_isPaw_59 : decode cX2_isPaw 59 = .ok (.goto 4, 3) := by decide +kernel
theorem dX2_isPaw_62 : decode cX2_isPaw 62 = .ok (.iconst 0, 1) := by decide +kernel
theorem dX2_isPaw_63 : decode cX2_isPaw 63 = .ok (.ireturn, 1) := by decide +kernel
theorem dX2_isPaw_64 : decode cX2_isPaw 64 = .ok (.iconst 0, 1) := by decide +kernel
theorem dX2_isPaw_65 : decode cX2_isPaw 65 = .ok (.ireturn, 1) := by decide +kernel
theorem dX2_isOnBoard_0 : decode cX2_isOnBoard 0 = .ok (.iload_n 0, 1) := by decide +kernel
theorem dX2_isOnBoard_1 : decode cX2_isOnBoard 1 = .ok (.ifCond .lt 23, 3) := by decide +kernel
theorem dX2_isOnBoard_4 : decode cX2_isOnBoard 4 = .ok (.iload_n 0, 1) := by decide +kernel
theorem dX2_isOnBoard_5 : decode cX2_isOnBoard 5 = .ok (.bipush 8, 2) := by decide +kernel
theorem dX2_isOnBoard_7 : decode cX2_isOnBoard 7 = .ok (.if_icmp .ge 17, 3) := by decide +kernel
theorem dX2_isOnBoard_10 : decode cX2_isOnBoard 10 = .ok (.iload_n 1, 1) := by decide +kernel
theorem dX2_isOnBoard_11 : decode cX2_isOnBoard 11 = .ok (.ifCond .lt 13, 3) := by decide +kernel
theorem dX2_isOnBoard_14 : decode cX2_isOnBoard 14 = .ok (.iload_n 1, 1) := by decide +kernel
theorem dX2_isOnBoard_15 : decode cX2_isOnBoard 15 = .ok (.bipush 8, 2) := by decide +kernel
theorem dX2_isOnBoard_17 : decode cX2_isOnBoard 17 = .ok (.if_icmp .ge 7, 3) := by decide +kernel
theorem dX2_isOnBoard_20 : decode cX2_isOnBoard 20 = .ok (.iconst 1, 1) := by decide +kernel
theorem dX2_isOnBoard_21 : decode cX2_isOnBoard 21 = .ok (.goto 4, 3) := by decide +kernel
theorem dX2_isOnBoard_24 : decode cX2_isOnBoard 24 = .ok (.iconst 0, 1) := by decide +kernel
theorem dX2_isOnBoard_25 : decode cX2_isOnBoard 25 = .ok (.ireturn, 1) := by decide +kernel
theorem dX2_boardPlace_0 : decode cX2_boardPlace 0 = .ok (.iload_n 0, 1) := by decide +kernel
theorem dX2_boardPlace_1 : decode cX2_boardPlace 1 = .ok (.iload_n 1, 1) := by decide +kernel
theorem dX2_boardPlace_2 : decode cX2_boardPlace 2 = .ok (.invokestatic 229, 3) := by decide +kernel
theorem dX2_boardPlace_5 : decode cX2_boardPlace 5 = .ok (.ifCond .ne 13, 3) := by decide +kernel
theorem dX2_boardPlace_8 : decode cX2_boardPlace 8 = .ok (.new 219, 3) := by decide +kernel
theorem dX2_boardPlace_11 : decode cX2_boardPlace 11 = .ok (.dup, 1) := by decide +kernel
theorem dX2_boardPlace_12 : decode cX2_boardPlace 12 = .ok (.ldc 232, 2) := by decide +kernel
theorem dX2_boardPlace_14 : decode cX2_boardPlace 14 = .ok (.invokespecial 223, 3) := by decide +kernel
theorem dX2_boardPlace_17 : decode cX2_boardPlace 17 = .ok (.athrow, 1) := by decide +kernel
theorem dX2_boardPlace_18 : decode cX2_boardPlace 18 = .ok (.iload_n 0, 1) := by decide +kernel
theorem dX2_boardPlace_19 : decode cX2_boardPlace 19 = .ok (.bipush 8, 2) := by decide +kernel
theorem dX2_boardPlace_21 : decode cX2_boardPlace 21 = .ok (.imul, 1) := by decide +kernel
theorem dX2_boardPlace_22 : decode cX2_boardPlace 22 = .ok (.iload_n 1, 1) := by decide +kernel
theorem dX2_boardPlace_23 : decode cX2_boardPlace 23 = .ok (.iadd, 1) := by decide +kernel
theorem dX2_boardPlace_24 : decode cX2_boardPlace 24 = .ok (.ireturn, 1) := by decide +kernel
theorem dX2_farther_0 : decode cX2_farther 0 = .ok (.iload_n 0, 1) := by decide +kernel
theorem dX2_farther_1 : decode cX2_farther 1 = .ok (.ifCond .lt 23, 3) := by decide +kernel
theorem dX2_farther_4 : decode cX2_farther 4 = .ok (.iload_n 1, 1) := by decide +kernel
theorem dX2_farther_5 : decode cX2_farther 5 = .ok (.ifCond .lt 19, 3) := by decide +kernel
theorem dX2_farther_8 : decode cX2_farther 8 = .ok (.iload_n 1, 1) := by decide +kernel
theorem dX2_farther_9 : decode cX2_farther 9 = .ok (.getstatic 234, 3) := by decide +kernel
theorem dX2_farther_12 : decode cX2_farther 12 = .ok (.arraylength, 1) := by decide +kernel
theorem dX2_farther_13 : decode cX2_farther 13 = .ok (.if_icmp .ge 11, 3) := by decide +kernel
theorem dX2_farther_16 : decode cX2_farther 16 = .ok (.iload_n 1, 1) := by decide +kernel
theorem dX2_farther_17 : decode cX2_farther 17 = .ok (.getstatic 237, 3) := by decide +kernel
theorem dX2_farther_20 : decode cX2_farther 20 = .ok (.arraylength, 1) := by decide +kernel
theorem dX2_farther_21 : decode cX2_farther 21 = .ok (.if_icmp .lt 5, 3) := by decide +kernel
theorem dX2_farther_24 : decode cX2_farther 24 = .ok (.iconst (-1), 1) := by decide +kernel
theorem dX2_farther_25 : decode cX2_farther 25 = .ok (.ireturn, 1) := by decide +kernel
theorem dX2_farther_26 : decode cX2_farther 26 = .ok (.iload_n 0, 1) := by decide +kernel
theorem dX2_farther_27 : decode cX2_farther 27 = .ok (.bipush 8, 2) := by decide +kernel
theorem dX2_farther_29 : decode cX2_farther 29 = .ok (.idiv, 1) := by decide +kernel
theorem dX2_farther_30 : decode cX2_farther 30 = .ok (.getstatic 234, 3) := by decide +kernel
theorem dX2_farther_33 : decode cX2_farther 33 = .ok (.iload_n 1, 1) := by decide +kernel
theorem dX2_farther_34 : decode cX2_farther 34 = .ok (.iaload, 1) := by decide +kernel
theorem dX2_farther_35 : decode cX2_farther 35 = .ok (.iadd, 1) := by decide +kernel
theorem dX2_farther_36 : decode cX2_farther 36 = .ok (.istore_n 2, 1) := by decide +kernel
theorem dX2_farther_37 : decode cX2_farther 37 = .ok (.iload_n 0, 1) := by decide +kernel
theorem dX2_farther_38 : decode cX2_farther 38 = .ok (.bipush 8, 2) := by decide +kernel
theorem dX2_farther_40 : decode cX2_farther 40 = .ok (.irem, 1) := by decide +kernel
theorem dX2_farther_41 : decode cX2_farther 41 = .ok (.getstatic 237, 3) := by decide +kernel
theorem dX2_farther_44 : decode cX2_farther 44 = .ok (.iload_n 1, 1) := by decide +kernel
theorem dX2_farther_45 : decode cX2_farther 45 = .ok (.iaload, 1) := by decide +kernel
theorem dX2_farther_46 : decode cX2_farther 46 = .ok (.iadd, 1) := by decide +kernel
theorem dX2_farther_47 : decode cX2_farther 47 = .ok (.istore_n 3, 1) := by decide +kernel
theorem dX2_farther_48 : decode cX2_farther 48 = .ok (.iload_n 2, 1) := by decide +kernel
theorem dX2_farther_49 : decode cX2_farther 49 = .ok (.iload_n 3, 1) := by decide +kernel
theorem dX2_farther_50 : decode cX2_farther 50 = .ok (.invokestatic 229, 3) := by decide +kernel
theorem dX2_farther_53 : decode cX2_farther 53 = .ok (.ifCond .eq 12, 3) := by decide +kernel
theorem dX2_farther_56 : decode cX2_farther 56 = .ok (.iload_n 2, 1) := by decide +kernel
theorem dX2_farther_57 : decode cX2_farther 57 = .ok (.bipush 8, 2) := by decide +kernel
theorem dX2_farther_59 : decode cX2_farther 59 = .ok (.imul, 1) := by decide +kernel
theorem dX2_farther_60 : decode cX2_farther 60 = .ok (.iload_n 3, 1) := by decide +kernel
theorem dX2_farther_61 : decode cX2_farther 61 = .ok (.iadd, 1) := by decide +kernel
theorem dX2_farther_62 : decode cX2_farther 62 = .ok (.goto 4, 3) := by decide +kernel
theorem dX2_farther_65 : decode cX2_farther 65 = .ok (.iconst (-1), 1) := by decide +kernel
theorem dX2_farther_66 : decode cX2_farther 66 = .ok (.ireturn, 1) := by decide +kernel
theorem dX2_meetingOf_0 : decode cX2_meetingOf 0 = .ok (.aload_n 0, 1) := by decide +kernel
theorem dX2_meetingOf_1 : decode cX2_meetingOf 1 = .ok (.astore_n 2, 1) := by decide +kernel
theorem dX2_meetingOf_2 : decode cX2_meetingOf 2 = .ok (.aload_n 1, 1) := by decide +kernel
theorem dX2_meetingOf_3 : decode cX2_meetingOf 3 = .ok (.astore_n 3, 1) := by decide +kernel
theorem dX2_meetingOf_4 : decode cX2_meetingOf 4 = .ok (.iconst 0, 1) := by decide +kernel
theorem dX2_meetingOf_5 : decode cX2_meetingOf 5 = .ok (.istore 4, 2) := by decide +kernel
theorem dX2_meetingOf_7 : decode cX2_meetingOf 7 = .ok (.aload_n 2, 1) := by decide +kernel
theorem dX2_meetingOf_8 : decode cX2_meetingOf 8 = .ok (.aload_n 3, 1) := by decide +kernel
theorem dX2_meetingOf_9 : decode cX2_meetingOf 9 = .ok (.if_acmp .eq 40, 3) := by decide +kernel
theorem dX2_meetingOf_12 : decode cX2_meetingOf 12 = .ok (.iload 4, 2) := by decide +kernel
theorem dX2_meetingOf_14 : decode cX2_meetingOf 14 = .ok (.bipush 120, 2) := by decide +kernel
theorem dX2_meetingOf_16 : decode cX2_meetingOf 16 = .ok (.if_icmp .ge 33, 3) := by decide +kernel
theorem dX2_meetingOf_19 : decode cX2_meetingOf 19 = .ok (.aload_n 2, 1) := by decide +kernel
theorem dX2_meetingOf_20 : decode cX2_meetingOf 20 = .ok (.getfield 85, 3) := by decide +kernel
theorem dX2_meetingOf_23 : decode cX2_meetingOf 23 = .ok (.aload_n 3, 1) := by decide +kernel
theorem dX2_meetingOf_24 : decode cX2_meetingOf 24 = .ok (.getfield 85, 3) := by decide +kernel
theorem dX2_meetingOf_27 : decode cX2_meetingOf 27 = .ok (.if_icmp .le 11, 3) := by decide +kernel
theorem dX2_meetingOf_30 : decode cX2_meetingOf 30 = .ok (.aload_n 2, 1) := by decide +kernel
theorem dX2_meetingOf_31 : decode cX2_meetingOf 31 = .ok (.invokevirtual 240, 3) := by decide +kernel
theorem dX2_meetingOf_34 : decode cX2_meetingOf 34 = .ok (.astore_n 2, 1) := by decide +kernel
theorem dX2_meetingOf_35 : decode cX2_meetingOf 35 = .ok (.goto 8, 3) := by decide +kernel
theorem dX2_meetingOf_38 : decode cX2_meetingOf 38 = .ok (.aload_n 3, 1) := by decide +kernel
theorem dX2_meetingOf_39 : decode cX2_meetingOf 39 = .ok (.invokevirtual 240, 3) := by decide +kernel
theorem dX2_meetingOf_42 : decode cX2_meetingOf 42 = .ok (.astore_n 3, 1) := by decide +kernel
theorem dX2_meetingOf_43 : decode cX2_meetingOf 43 = .ok (.iinc 4 1, 3) := by decide +kernel
theorem dX2_meetingOf_46 : decode cX2_meetingOf 46 = .ok (.goto (-39), 3) := by decide +kernel
theorem dX2_meetingOf_49 : decode cX2_meetingOf 49 = .ok (.aload_n 2, 1) := by decide +kernel
theorem dX2_meetingOf_50 : decode cX2_meetingOf 50 = .ok (.areturn, 1) := by decide +kernel
theorem dX2_wayLength_0 : decode cX2_wayLength 0 = .ok (.aload_n 0, 1) := by decide +kernel
theorem dX2_wayLength_1 : decode cX2_wayLength 1 = .ok (.getfield 143, 3) := by decide +kernel
theorem dX2_wayLength_4 : decode cX2_wayLength 4 = .ok (.aload_n 1, 1) := by decide +kernel
theorem dX2_wayLength_5 : decode cX2_wayLength 5 = .ok (.getfield 143, 3) := by decide +kernel
theorem dX2_wayLength_8 : decode cX2_wayLength 8 = .ok (.iadd, 1) := by decide +kernel
theorem dX2_wayLength_9 : decode cX2_wayLength 9 = .ok (.iconst 2, 1) := by decide +kernel
theorem dX2_wayLength_10 : decode cX2_wayLength 10 = .ok (.aload_n 0, 1) := by decide +kernel
theorem dX2_wayLength_11 : decode cX2_wayLength 11 = .ok (.aload_n 1, 1) := by decide +kernel
theorem dX2_wayLength_12 : decode cX2_wayLength 12 = .ok (.invokestatic 152, 3) := by decide +kernel
theorem dX2_wayLength_15 : decode cX2_wayLength 15 = .ok (.getfield 143, 3) := by decide +kernel
theorem dX2_wayLength_18 : decode cX2_wayLength 18 = .ok (.imul, 1) := by decide +kernel
theorem dX2_wayLength_19 : decode cX2_wayLength 19 = .ok (.isub, 1) := by decide +kernel
theorem dX2_wayLength_20 : decode cX2_wayLength 20 = .ok (.ireturn, 1) := by decide +kernel
theorem dJ6_bitCount_0f7a4_0 : decode cJ6_bitCount_0f7a4 0 = .ok (.iload_n 0, 1) := by decide +kernel
theorem dJ6_bitCount_0f7a4_1 : decode cJ6_bitCount_0f7a4 1 = .ok (.iload_n 0, 1) := by decide +kernel
theorem dJ6_bitCount_0f7a4_2 : decode cJ6_bitCount_0f7a4 2 = .ok (.iconst 1, 1) := by decide +kernel
theorem dJ6_bitCount_0f7a4_3 : decode cJ6_bitCount_0f7a4 3 = .ok (.iushr, 1) := by decide +kernel
theorem dJ6_bitCount_0f7a4_4 : decode cJ6_bitCount_0f7a4 4 = .ok (.ldc_w 265, 3) := by decide +kernel
theorem dJ6_bitCount_0f7a4_7 : decode cJ6_bitCount_0f7a4 7 = .ok (.iand, 1) := by decide +kernel
theorem dJ6_bitCount_0f7a4_8 : decode cJ6_bitCount_0f7a4 8 = .ok (.isub, 1) := by decide +kernel
theorem dJ6_bitCount_0f7a4_9 : decode cJ6_bitCount_0f7a4 9 = .ok (.istore_n 0, 1) := by decide +kernel
theorem dJ6_bitCount_0f7a4_10 : decode cJ6_bitCount_0f7a4 10 = .ok (.iload_n 0, 1) := by decide +kernel
theorem dJ6_bitCount_0f7a4_11 : decode cJ6_bitCount_0f7a4 11 = .ok (.ldc_w 266, 3) := by decide +kernel
theorem dJ6_bitCount_0f7a4_14 : decode cJ6_bitCount_0f7a4 14 = .ok (.iand, 1) := by decide +kernel
theorem dJ6_bitCount_0f7a4_15 : decode cJ6_bitCount_0f7a4 15 = .ok (.iload_n 0, 1) := by decide +kernel
theorem dJ6_bitCount_0f7a4_16 : decode cJ6_bitCount_0f7a4 16 = .ok (.iconst 2, 1) := by decide +kernel
theorem dJ6_bitCount_0f7a4_17 : decode cJ6_bitCount_0f7a4 17 = .ok (.iushr, 1) := by decide +kernel
theorem dJ6_bitCount_0f7a4_18 : decode cJ6_bitCount_0f7a4 18 = .ok (.ldc_w 266, 3) := by decide +kernel
theorem dJ6_bitCount_0f7a4_21 : decode cJ6_bitCount_0f7a4 21 = .ok (.iand, 1) := by decide +kernel
theorem dJ6_bitCount_0f7a4_22 : decode cJ6_bitCount_0f7a4 22 = .ok (.iadd, 1) := by decide +kernel
theorem dJ6_bitCount_0f7a4_23 : decode cJ6_bitCount_0f7a4 23 = .ok (.istore_n 0, 1) := by decide +kernel
theorem dJ6_bitCount_0f7a4_24 : decode cJ6_bitCount_0f7a4 24 = .ok (.iload_n 0, 1) := by decide +kernel
theorem dJ6_bitCount_0f7a4_25 : decode cJ6_bitCount_0f7a4 25 = .ok (.iload_n 0, 1) := by decide +kernel
theorem dJ6_bitCount_0f7a4_26 : decode cJ6_bitCount_0f7a4 26 = .ok (.iconst 4, 1) := by decide +kernel
theorem dJ6_bitCount_0f7a4_27 : decode cJ6_bitCount_0f7a4 27 = .ok (.iushr, 1) := by decide +kernel
theorem dJ6_bitCount_0f7a4_28 : decode cJ6_bitCount_0f7a4 28 = .ok (.iadd, 1) := by decide +kernel
theorem dJ6_bitCount_0f7a4_29 : decode cJ6_bitCount_0f7a4 29 = .ok (.ldc_w 267, 3) := by decide +kernel
theorem dJ6_bitCount_0f7a4_32 : decode cJ6_bitCount_0f7a4 32 = .ok (.iand, 1) := by decide +kernel
theorem dJ6_bitCount_0f7a4_33 : decode cJ6_bitCount_0f7a4 33 = .ok (.istore_n 0, 1) := by decide +kernel
theorem dJ6_bitCount_0f7a4_34 : decode cJ6_bitCount_0f7a4 34 = .ok (.iload_n 0, 1) := by decide +kernel
theorem dJ6_bitCount_0f7a4_35 : decode cJ6_bitCount_0f7a4 35 = .ok (.iload_n 0, 1) := by decide +kernel
theorem dJ6_bitCount_0f7a4_36 : decode cJ6_bitCount_0f7a4 36 = .ok (.bipush 8, 2) := by decide +kernel
theorem dJ6_bitCount_0f7a4_38 : decode cJ6_bitCount_0f7a4 38 = .ok (.iushr, 1) := by decide +kernel
theorem dJ6_bitCount_0f7a4_39 : decode cJ6_bitCount_0f7a4 39 = .ok (.iadd, 1) := by decide +kernel
theorem dJ6_bitCount_0f7a4_40 : decode cJ6_bitCount_0f7a4 40 = .ok (.istore_n 0, 1) := by decide +kernel
theorem dJ6_bitCount_0f7a4_41 : decode cJ6_bitCount_0f7a4 41 = .ok (.iload_n 0, 1) := by decide +kernel
theorem dJ6_bitCount_0f7a4_42 : decode cJ6_bitCount_0f7a4 42 = .ok (.iload_n 0, 1) := by decide +kernel
theorem dJ6_bitCount_0f7a4_43 : decode cJ6_bitCount_0f7a4 43 = .ok (.bipush 16, 2) := by decide +kernel
theorem dJ6_bitCount_0f7a4_45 : decode cJ6_bitCount_0f7a4 45 = .ok (.iushr, 1) := by decide +kernel
theorem dJ6_bitCount_0f7a4_46 : decode cJ6_bitCount_0f7a4 46 = .ok (.iadd, 1) := by decide +kernel
theorem dJ6_bitCount_0f7a4_47 : decode cJ6_bitCount_0f7a4 47 = .ok (.istore_n 0, 1) := by decide +kernel
theorem dJ6_bitCount_0f7a4_48 : decode cJ6_bitCount_0f7a4 48 = .ok (.iload_n 0, 1) := by decide +kernel
theorem dJ6_bitCount_0f7a4_49 : decode cJ6_bitCount_0f7a4 49 = .ok (.bipush 63, 2) := by decide +kernel
theorem dJ6_bitCount_0f7a4_51 : decode cJ6_bitCount_0f7a4 51 = .ok (.iand, 1) := by decide +kernel
theorem dJ6_bitCount_0f7a4_52 : decode cJ6_bitCount_0f7a4 52 = .ok (.ireturn, 1) := by decide +kernel
theorem dJ9_abs_0f7a4_0 : decode cJ9_abs_0f7a4 0 = .ok (.iload_n 0, 1) := by decide +kernel
theorem dJ9_abs_0f7a4_1 : decode cJ9_abs_0f7a4 1 = .ok (.ifCond .ge 8, 3) := by decide +kernel
theorem dJ9_abs_0f7a4_4 : decode cJ9_abs_0f7a4 4 = .ok (.iload_n 0, 1) := by decide +kernel
theorem dJ9_abs_0f7a4_5 : decode cJ9_abs_0f7a4 5 = .ok (.ineg, 1) := by decide +kernel
theorem dJ9_abs_0f7a4_6 : decode cJ9_abs_0f7a4 6 = .ok (.goto 4, 3) := by decide +kernel
theorem dJ9_abs_0f7a4_9 : decode cJ9_abs_0f7a4 9 = .ok (.iload_n 0, 1) := by decide +kernel
theorem dJ9_abs_0f7a4_10 : decode cJ9_abs_0f7a4 10 = .ok (.ireturn, 1) := by decide +kernel
theorem dJ9_max_7cf53_0 : decode cJ9_max_7cf53 0 = .ok (.iload_n 0, 1) := by decide +kernel
theorem dJ9_max_7cf53_1 : decode cJ9_max_7cf53 1 = .ok (.iload_n 1, 1) := by decide +kernel
theorem dJ9_max_7cf53_2 : decode cJ9_max_7cf53 2 = .ok (.if_icmp .lt 7, 3) := by decide +kernel
theorem dJ9_max_7cf53_5 : decode cJ9_max_7cf53 5 = .ok (.iload_n 0, 1) := by decide +kernel
theorem dJ9_max_7cf53_6 : decode cJ9_max_7cf53 6 = .ok (.goto 4, 3) := by decide +kernel
theorem dJ9_max_7cf53_9 : decode cJ9_max_7cf53 9 = .ok (.iload_n 1, 1) := by decide +kernel
theorem dJ9_max_7cf53_10 : decode cJ9_max_7cf53 10 = .ok (.ireturn, 1) := by decide +kernel
theorem dJ9_min_7cf53_0 : decode cJ9_min_7cf53 0 = .ok (.iload_n 0, 1) := by decide +kernel
theorem dJ9_min_7cf53_1 : decode cJ9_min_7cf53 1 = .ok (.iload_n 1, 1) := by decide +kernel
theorem dJ9_min_7cf53_2 : decode cJ9_min_7cf53 2 = .ok (.if_icmp .gt 7, 3) := by decide +kernel
theorem dJ9_min_7cf53_5 : decode cJ9_min_7cf53 5 = .ok (.iload_n 0, 1) := by decide +kernel
theorem dJ9_min_7cf53_6 : decode cJ9_min_7cf53 6 = .ok (.goto 4, 3) := by decide +kernel
theorem dJ9_min_7cf53_9 : decode cJ9_min_7cf53 9 = .ok (.iload_n 1, 1) := by decide +kernel
theorem dJ9_min_7cf53_10 : decode cJ9_min_7cf53 10 = .ok (.ireturn, 1) := by decide +kernel
theorem dJxa1e45_init_da8c8_0 : decode cJxa1e45_init_da8c8 0 = .ok (.aload_n 0, 1) := by decide +kernel
theorem dJxa1e45_init_da8c8_1 : decode cJxa1e45_init_da8c8 1 = .ok (.invokespecial 1, 3) := by decide +kernel
theorem dJxa1e45_init_da8c8_4 : decode cJxa1e45_init_da8c8 4 = .ok (.return_, 1) := by decide +kernel
theorem dJxc12de_init_da8c8_0 : decode cJxc12de_init_da8c8 0 = .ok (.aload_n 0, 1) := by decide +kernel
theorem dJxc12de_init_da8c8_1 : decode cJxc12de_init_da8c8 1 = .ok (.invokespecial 1, 3) := by decide +kernel
theorem dJxc12de_init_da8c8_4 : decode cJxc12de_init_da8c8 4 = .ok (.aload_n 0, 1) := by decide +kernel
theorem dJxc12de_init_da8c8_5 : decode cJxc12de_init_da8c8 5 = .ok (.iconst 0, 1) := by decide +kernel
theorem dJxc12de_init_da8c8_6 : decode cJxc12de_init_da8c8 6 = .ok (.putfield 7, 3) := by decide +kernel
theorem dJxc12de_init_da8c8_9 : decode cJxc12de_init_da8c8 9 = .ok (.return_, 1) := by decide +kernel
theorem dJx4a65c_init_da8c8_0 : decode cJx4a65c_init_da8c8 0 = .ok (.aload_n 0, 1) := by decide +kernel
theorem dJx4a65c_init_da8c8_1 : decode cJx4a65c_init_da8c8 1 = .ok (.invokespecial 1, 3) := by decide +kernel
theorem dJx4a65c_init_da8c8_4 : decode cJx4a65c_init_da8c8 4 = .ok (.aload_n 0, 1) := by decide +kernel
theorem dJx4a65c_init_da8c8_5 : decode cJx4a65c_init_da8c8 5 = .ok (.getstatic 39, 3) := by decide +kernel
theorem dJx4a65c_init_da8c8_8 : decode cJx4a65c_init_da8c8 8 = .ok (.putfield 9, 3) := by decide +kernel
theorem dJx4a65c_init_da8c8_11 : decode cJx4a65c_init_da8c8 11 = .ok (.return_, 1) := by decide +kernel
theorem dJx4a65c_grow_92f84_0 : decode cJx4a65c_grow_92f84 0 = .ok (.aload_n 0, 1) := by decide +kernel
theorem dJx4a65c_grow_92f84_1 : decode cJx4a65c_grow_92f84 1 = .ok (.getfield 9, 3) := by decide +kernel
theorem dJx4a65c_grow_92f84_4 : decode cJx4a65c_grow_92f84 4 = .ok (.arraylength, 1) := by decide +kernel
theorem dJx4a65c_grow_92f84_5 : decode cJx4a65c_grow_92f84 5 = .ok (.istore_n 2, 1) := by decide +kernel
theorem dJx4a65c_grow_92f84_6 : decode cJx4a65c_grow_92f84 6 = .ok (.iload_n 2, 1) := by decide +kernel
theorem dJx4a65c_grow_92f84_7 : decode cJx4a65c_grow_92f84 7 = .ok (.ifCond .gt 13, 3) := by decide +kernel
theorem dJx4a65c_grow_92f84_10 : decode cJx4a65c_grow_92f84 10 = .ok (.aload_n 0, 1) := by decide +kernel
theorem dJx4a65c_grow_92f84_11 : decode cJx4a65c_grow_92f84 11 = .ok (.getfield 9, 3) := by decide +kernel
theorem dJx4a65c_grow_92f84_14 : decode cJx4a65c_grow_92f84 14 = .ok (.getstatic 39, 3) := by decide +kernel
theorem dJx4a65c_grow_92f84_17 : decode cJx4a65c_grow_92f84 17 = .ok (.if_acmp .eq 28, 3) := by decide +kernel
theorem dJx4a65c_grow_92f84_20 : decode cJx4a65c_grow_92f84 20 = .ok (.iload_n 2, 1) := by decide +kernel
theorem dJx4a65c_grow_92f84_21 : decode cJx4a65c_grow_92f84 21 = .ok (.iload_n 1, 1) := by decide +kernel
theorem dJx4a65c_grow_92f84_22 : decode cJx4a65c_grow_92f84 22 = .ok (.iload_n 2, 1) := by decide +kernel
theorem dJx4a65c_grow_92f84_23 : decode cJx4a65c_grow_92f84 23 = .ok (.isub, 1) := by decide +kernel
theorem dJx4a65c_grow_92f84_24 : decode cJx4a65c_grow_92f84 24 = .ok (.iload_n 2, 1) := by decide +kernel
theorem dJx4a65c_grow_92f84_25 : decode cJx4a65c_grow_92f84 25 = .ok (.iconst 1, 1) := by decide +kernel
theorem dJx4a65c_grow_92f84_26 : decode cJx4a65c_grow_92f84 26 = .ok (.ishr, 1) := by decide +kernel
theorem dJx4a65c_grow_92f84_27 : decode cJx4a65c_grow_92f84 27 = .ok (.invokestatic 73, 3) := by decide +kernel
theorem dJx4a65c_grow_92f84_30 : decode cJx4a65c_grow_92f84 30 = .ok (.istore_n 3, 1) := by decide +kernel
theorem dJx4a65c_grow_92f84_31 : decode cJx4a65c_grow_92f84 31 = .ok (.aload_n 0, 1) := by decide +kernel
theorem dJx4a65c_grow_92f84_32 : decode cJx4a65c_grow_92f84 32 = .ok (.aload_n 0, 1) := by decide +kernel
theorem dJx4a65c_grow_92f84_33 : decode cJx4a65c_grow_92f84 33 = .ok (.getfield 9, 3) := by decide +kernel
theorem dJx4a65c_grow_92f84_36 : decode cJx4a65c_grow_92f84 36 = .ok (.iload_n 3, 1) := by decide +kernel
theorem dJx4a65c_grow_92f84_37 : decode cJx4a65c_grow_92f84 37 = .ok (.invokestatic 66, 3) := by decide +kernel
theorem dJx4a65c_grow_92f84_40 : decode cJx4a65c_grow_92f84 40 = .ok (.dup_x1, 1) := by decide +kernel
theorem dJx4a65c_grow_92f84_41 : decode cJx4a65c_grow_92f84 41 = .ok (.putfield 9, 3) := by decide +kernel
theorem dJx4a65c_grow_92f84_44 : decode cJx4a65c_grow_92f84 44 = .ok (.areturn, 1) := by decide +kernel
theorem dJx4a65c_grow_92f84_45 : decode cJx4a65c_grow_92f84 45 = .ok (.aload_n 0, 1) := by decide +kernel
theorem dJx4a65c_grow_92f84_46 : decode cJx4a65c_grow_92f84 46 = .ok (.bipush 10, 2) := by decide +kernel
theorem dJx4a65c_grow_92f84_48 : decode cJx4a65c_grow_92f84 48 = .ok (.iload_n 1, 1) := by decide +kernel
theorem dJx4a65c_grow_92f84_49 : decode cJx4a65c_grow_92f84 49 = .ok (.invokestatic 79, 3) := by decide +kernel
theorem dJx4a65c_grow_92f84_52 : decode cJx4a65c_grow_92f84 52 = .ok (.anewarray 7, 3) := by decide +kernel
theorem dJx4a65c_grow_92f84_55 : decode cJx4a65c_grow_92f84 55 = .ok (.dup_x1, 1) := by decide +kernel
theorem dJx4a65c_grow_92f84_56 : decode cJx4a65c_grow_92f84 56 = .ok (.putfield 9, 3) := by decide +kernel
theorem dJx4a65c_grow_92f84_59 : decode cJx4a65c_grow_92f84 59 = .ok (.areturn, 1) := by decide +kernel
theorem dJx4a65c_grow_d5877_0 : decode cJx4a65c_grow_d5877 0 = .ok (.aload_n 0, 1) := by decide +kernel
theorem dJx4a65c_grow_d5877_1 : decode cJx4a65c_grow_d5877 1 = .ok (.aload_n 0, 1) := by decide +kernel
theorem dJx4a65c_grow_d5877_2 : decode cJx4a65c_grow_d5877 2 = .ok (.getfield 48, 3) := by decide +kernel
theorem dJx4a65c_grow_d5877_5 : decode cJx4a65c_grow_d5877 5 = .ok (.iconst 1, 1) := by decide +kernel
theorem dJx4a65c_grow_d5877_6 : decode cJx4a65c_grow_d5877 6 = .ok (.iadd, 1) := by decide +kernel
theorem dJx4a65c_grow_d5877_7 : decode cJx4a65c_grow_d5877 7 = .ok (.invokevirtual 69, 3) := by decide +kernel
theorem dJx4a65c_grow_d5877_10 : decode cJx4a65c_grow_d5877 10 = .ok (.areturn, 1) := by decide +kernel
theorem dJx4a65c_size_8abf5_0 : decode cJx4a65c_size_8abf5 0 = .ok (.aload_n 0, 1) := by decide +kernel
theorem dJx4a65c_size_8abf5_1 : decode cJx4a65c_size_8abf5 1 = .ok (.getfield 48, 3) := by decide +kernel
theorem dJx4a65c_size_8abf5_4 : decode cJx4a65c_size_8abf5 4 = .ok (.ireturn, 1) := by decide +kernel
theorem dJx4a65c_elementData_915e3_0 : decode cJx4a65c_elementData_915e3 0 = .ok (.aload_n 0, 1) := by decide +kernel
theorem dJx4a65c_elementData_915e3_1 : decode cJx4a65c_elementData_915e3 1 = .ok (.getfield 9, 3) := by decide +kernel
theorem dJx4a65c_elementData_915e3_4 : decode cJx4a65c_elementData_915e3 4 = .ok (.iload_n 1, 1) := by decide +kernel
theorem dJx4a65c_elementData_915e3_5 : decode cJx4a65c_elementData_915e3 5 = .ok (.aaload, 1) := by decide +kernel
theorem dJx4a65c_elementData_915e3_6 : decode cJx4a65c_elementData_915e3 6 = .ok (.areturn, 1) := by decide +kernel
theorem dJx4a65c_get_915e3_0 : decode cJx4a65c_get_915e3 0 = .ok (.iload_n 1, 1) := by decide +kernel
theorem dJx4a65c_get_915e3_1 : decode cJx4a65c_get_915e3 1 = .ok (.aload_n 0, 1) := by decide +kernel
theorem dJx4a65c_get_915e3_2 : decode cJx4a65c_get_915e3 2 = .ok (.getfield 48, 3) := by decide +kernel
theorem dJx4a65c_get_915e3_5 : decode cJx4a65c_get_915e3 5 = .ok (.invokestatic 118, 3) := by decide +kernel
theorem dJx4a65c_get_915e3_8 : decode cJx4a65c_get_915e3 8 = .ok (.pop, 1) := by decide +kernel
theorem dJx4a65c_get_915e3_9 : decode cJx4a65c_get_915e3 9 = .ok (.aload_n 0, 1) := by decide +kernel
theorem dJx4a65c_get_915e3_10 : decode cJx4a65c_get_915e3 10 = .ok (.iload_n 1, 1) := by decide +kernel
theorem dJx4a65c_get_915e3_11 : decode cJx4a65c_get_915e3 11 = .ok (.invokevirtual 123, 3) := by decide +kernel
theorem dJx4a65c_get_915e3_14 : decode cJx4a65c_get_915e3 14 = .ok (.areturn, 1) := by decide +kernel
theorem dJx4a65c_add_72be8_0 : decode cJx4a65c_add_72be8 0 = .ok (.iload_n 3, 1) := by decide +kernel
theorem dJx4a65c_add_72be8_1 : decode cJx4a65c_add_72be8 1 = .ok (.aload_n 2, 1) := by decide +kernel
theorem dJx4a65c_add_72be8_2 : decode cJx4a65c_add_72be8 2 = .ok (.arraylength, 1) := by decide +kernel
theorem dJx4a65c_add_72be8_3 : decode cJx4a65c_add_72be8 3 = .ok (.if_icmp .ne 8, 3) := by decide +kernel
theorem dJx4a65c_add_72be8_6 : decode cJx4a65c_add_72be8 6 = .ok (.aload_n 0, 1) := by decide +kernel
theorem dJx4a65c_add_72be8_7 : decode cJx4a65c_add_72be8 7 = .ok (.invokevirtual 129, 3) := by decide +kernel
theorem dJx4a65c_add_72be8_10 : decode cJx4a65c_add_72be8 10 = .ok (.astore_n 2, 1) := by decide +kernel
theorem dJx4a65c_add_72be8_11 : decode cJx4a65c_add_72be8 11 = .ok (.aload_n 2, 1) := by decide +kernel
theorem dJx4a65c_add_72be8_12 : decode cJx4a65c_add_72be8 12 = .ok (.iload_n 3, 1) := by decide +kernel
theorem dJx4a65c_add_72be8_13 : decode cJx4a65c_add_72be8 13 = .ok (.aload_n 1, 1) := by decide +kernel
theorem dJx4a65c_add_72be8_14 : decode cJx4a65c_add_72be8 14 = .ok (.aastore, 1) := by decide +kernel
theorem dJx4a65c_add_72be8_15 : decode cJx4a65c_add_72be8 15 = .ok (.aload_n 0, 1) := by decide +kernel
theorem dJx4a65c_add_72be8_16 : decode cJx4a65c_add_72be8 16 = .ok (.iload_n 3, 1) := by decide +kernel
theorem dJx4a65c_add_72be8_17 : decode cJx4a65c_add_72be8 17 = .ok (.iconst 1, 1) := by decide +kernel
theorem dJx4a65c_add_72be8_18 : decode cJx4a65c_add_72be8 18 = .ok (.iadd, 1) := by decide +kernel
theorem dJx4a65c_add_72be8_19 : decode cJx4a65c_add_72be8 19 = .ok (.putfield 48, 3) := by decide +kernel
theorem dJx4a65c_add_72be8_22 : decode cJx4a65c_add_72be8 22 = .ok (.return_, 1) := by decide +kernel
theorem dJx4a65c_add_9ea2d_0 : decode cJx4a65c_add_9ea2d 0 = .ok (.aload_n 0, 1) := by decide +kernel
theorem dJx4a65c_add_9ea2d_1 : decode cJx4a65c_add_9ea2d 1 = .ok (.dup, 1) := by decide +kernel
theorem dJx4a65c_add_9ea2d_2 : decode cJx4a65c_add_9ea2d 2 = .ok (.getfield 63, 3) := by decide +kernel
theorem dJx4a65c_add_9ea2d_5 : decode cJx4a65c_add_9ea2d 5 = .ok (.iconst 1, 1) := by decide +kernel
theorem dJx4a65c_add_9ea2d_6 : decode cJx4a65c_add_9ea2d 6 = .ok (.iadd, 1) := by decide +kernel
theorem dJx4a65c_add_9ea2d_7 : decode cJx4a65c_add_9ea2d 7 = .ok (.putfield 63, 3) := by decide +kernel
theorem dJx4a65c_add_9ea2d_10 : decode cJx4a65c_add_9ea2d 10 = .ok (.aload_n 0, 1) := by decide +kernel
theorem dJx4a65c_add_9ea2d_11 : decode cJx4a65c_add_9ea2d 11 = .ok (.aload_n 1, 1) := by decide +kernel
theorem dJx4a65c_add_9ea2d_12 : decode cJx4a65c_add_9ea2d 12 = .ok (.aload_n 0, 1) := by decide +kernel
theorem dJx4a65c_add_9ea2d_13 : decode cJx4a65c_add_9ea2d 13 = .ok (.getfield 9, 3) := by decide +kernel
theorem dJx4a65c_add_9ea2d_16 : decode cJx4a65c_add_9ea2d 16 = .ok (.aload_n 0, 1) := by decide +kernel
theorem dJx4a65c_add_9ea2d_17 : decode cJx4a65c_add_9ea2d 17 = .ok (.getfield 48, 3) := by decide +kernel
theorem dJx4a65c_add_9ea2d_20 : decode cJx4a65c_add_9ea2d 20 = .ok (.invokevirtual 131, 3) := by decide +kernel
theorem dJx4a65c_add_9ea2d_23 : decode cJx4a65c_add_9ea2d 23 = .ok (.iconst 1, 1) := by decide +kernel
theorem dJx4a65c_add_9ea2d_24 : decode cJx4a65c_add_9ea2d 24 = .ok (.ireturn, 1) := by decide +kernel
theorem dJ7_copyOf_1904c_0 : decode cJ7_copyOf_1904c 0 = .ok (.aload_n 0, 1) := by decide +kernel
theorem dJ7_copyOf_1904c_1 : decode cJ7_copyOf_1904c 1 = .ok (.iload_n 1, 1) := by decide +kernel
theorem dJ7_copyOf_1904c_2 : decode cJ7_copyOf_1904c 2 = .ok (.aload_n 0, 1) := by decide +kernel
theorem dJ7_copyOf_1904c_3 : decode cJ7_copyOf_1904c 3 = .ok (.invokevirtual 86, 3) := by decide +kernel
theorem dJ7_copyOf_1904c_6 : decode cJ7_copyOf_1904c 6 = .ok (.invokestatic 300, 3) := by decide +kernel
theorem dJ7_copyOf_1904c_9 : decode cJ7_copyOf_1904c 9 = .ok (.areturn, 1) := by decide +kernel
theorem dJ7_copyOf_6403c_0 : decode cJ7_copyOf_6403c 0 = .ok (.aload_n 2, 1) := by decide +kernel
theorem dJ7_copyOf_6403c_1 : decode cJ7_copyOf_6403c 1 = .ok (.ldc 110, 2) := by decide +kernel
theorem dJ7_copyOf_6403c_3 : decode cJ7_copyOf_6403c 3 = .ok (.if_acmp .ne 10, 3) := by decide +kernel
theorem dJ7_copyOf_6403c_6 : decode cJ7_copyOf_6403c 6 = .ok (.iload_n 1, 1) := by decide +kernel
theorem dJ7_copyOf_6403c_7 : decode cJ7_copyOf_6403c 7 = .ok (.anewarray 2, 3) := by decide +kernel
theorem dJ7_copyOf_6403c_10 : decode cJ7_copyOf_6403c 10 = .ok (.goto 14, 3) := by decide +kernel
theorem dJ7_copyOf_6403c_13 : decode cJ7_copyOf_6403c 13 = .ok (.aload_n 2, 1) := by decide +kernel
theorem dJ7_copyOf_6403c_14 : decode cJ7_copyOf_6403c 14 = .ok (.invokevirtual 90, 3) := by decide +kernel
theorem dJ7_copyOf_6403c_17 : decode cJ7_copyOf_6403c 17 = .ok (.iload_n 1, 1) := by decide +kernel
theorem dJ7_copyOf_6403c_18 : decode cJ7_copyOf_6403c 18 = .ok (.invokestatic 95, 3) := by decide +kernel
theorem dJ7_copyOf_6403c_21 : decode cJ7_copyOf_6403c 21 = .ok (.checkcast 110, 3) := by decide +kernel
theorem dJ7_copyOf_6403c_24 : decode cJ7_copyOf_6403c 24 = .ok (.astore_n 3, 1) := by decide +kernel
theorem dJ7_copyOf_6403c_25 : decode cJ7_copyOf_6403c 25 = .ok (.aload_n 0, 1) := by decide +kernel
theorem dJ7_copyOf_6403c_26 : decode cJ7_copyOf_6403c 26 = .ok (.iconst 0, 1) := by decide +kernel
theorem dJ7_copyOf_6403c_27 : decode cJ7_copyOf_6403c 27 = .ok (.aload_n 3, 1) := by decide +kernel
theorem dJ7_copyOf_6403c_28 : decode cJ7_copyOf_6403c 28 = .ok (.iconst 0, 1) := by decide +kernel
theorem dJ7_copyOf_6403c_29 : decode cJ7_copyOf_6403c 29 = .ok (.aload_n 0, 1) := by decide +kernel
theorem dJ7_copyOf_6403c_30 : decode cJ7_copyOf_6403c 30 = .ok (.arraylength, 1) := by decide +kernel
theorem dJ7_copyOf_6403c_31 : decode cJ7_copyOf_6403c 31 = .ok (.iload_n 1, 1) := by decide +kernel
theorem dJ7_copyOf_6403c_32 : decode cJ7_copyOf_6403c 32 = .ok (.invokestatic 304, 3) := by decide +kernel
theorem dJ7_copyOf_6403c_35 : decode cJ7_copyOf_6403c 35 = .ok (.invokestatic 150, 3) := by decide +kernel
theorem dJ7_copyOf_6403c_38 : decode cJ7_copyOf_6403c 38 = .ok (.aload_n 3, 1) := by decide +kernel
theorem dJ7_copyOf_6403c_39 : decode cJ7_copyOf_6403c 39 = .ok (.areturn, 1) := by decide +kernel
theorem dJ15_checkIndex_7cf53_0 : decode cJ15_checkIndex_7cf53 0 = .ok (.iload_n 0, 1) := by decide +kernel
theorem dJ15_checkIndex_7cf53_1 : decode cJ15_checkIndex_7cf53 1 = .ok (.iload_n 1, 1) := by decide +kernel
theorem dJ15_checkIndex_7cf53_2 : decode cJ15_checkIndex_7cf53 2 = .ok (.aconst_null, 1) := by decide +kernel
theorem dJ15_checkIndex_7cf53_3 : decode cJ15_checkIndex_7cf53 3 = .ok (.invokestatic 105, 3) := by decide +kernel
theorem dJ15_checkIndex_7cf53_6 : decode cJ15_checkIndex_7cf53 6 = .ok (.ireturn, 1) := by decide +kernel
theorem dJ8_newLength_cabcc_0 : decode cJ8_newLength_cabcc 0 = .ok (.iload_n 0, 1) := by decide +kernel
theorem dJ8_newLength_cabcc_1 : decode cJ8_newLength_cabcc 1 = .ok (.iload_n 1, 1) := by decide +kernel
theorem dJ8_newLength_cabcc_2 : decode cJ8_newLength_cabcc 2 = .ok (.iload_n 2, 1) := by decide +kernel
theorem dJ8_newLength_cabcc_3 : decode cJ8_newLength_cabcc 3 = .ok (.invokestatic 194, 3) := by decide +kernel
theorem dJ8_newLength_cabcc_6 : decode cJ8_newLength_cabcc 6 = .ok (.iadd, 1) := by decide +kernel
theorem dJ8_newLength_cabcc_7 : decode cJ8_newLength_cabcc 7 = .ok (.istore_n 3, 1) := by decide +kernel
theorem dJ8_newLength_cabcc_8 : decode cJ8_newLength_cabcc 8 = .ok (.iconst 0, 1) := by decide +kernel
theorem dJ8_newLength_cabcc_9 : decode cJ8_newLength_cabcc 9 = .ok (.iload_n 3, 1) := by decide +kernel
theorem dJ8_newLength_cabcc_10 : decode cJ8_newLength_cabcc 10 = .ok (.if_icmp .ge 11, 3) := by decide +kernel
theorem dJ8_newLength_cabcc_13 : decode cJ8_newLength_cabcc 13 = .ok (.iload_n 3, 1) := by decide +kernel
theorem dJ8_newLength_cabcc_14 : decode cJ8_newLength_cabcc 14 = .ok (.ldc 200, 2) := by decide +kernel
theorem dJ8_newLength_cabcc_16 : decode cJ8_newLength_cabcc 16 = .ok (.if_icmp .gt 5, 3) := by decide +kernel
theorem dJ8_newLength_cabcc_19 : decode cJ8_newLength_cabcc 19 = .ok (.iload_n 3, 1) := by decide +kernel
theorem dJ8_newLength_cabcc_20 : decode cJ8_newLength_cabcc 20 = .ok (.ireturn, 1) := by decide +kernel
theorem dJ8_newLength_cabcc_21 : decode cJ8_newLength_cabcc 21 = .ok (.iload_n 0, 1) := by decide +kernel
theorem dJ8_newLength_cabcc_22 : decode cJ8_newLength_cabcc 22 = .ok (.iload_n 1, 1) := by decide +kernel
theorem dJ8_newLength_cabcc_23 : decode cJ8_newLength_cabcc 23 = .ok (.invokestatic 201, 3) := by decide +kernel
theorem dJ8_newLength_cabcc_26 : decode cJ8_newLength_cabcc 26 = .ok (.ireturn, 1) := by decide +kernel
theorem dJ8_hugeLength_7cf53_0 : decode cJ8_hugeLength_7cf53 0 = .ok (.iload_n 0, 1) := by decide +kernel
theorem dJ8_hugeLength_7cf53_1 : decode cJ8_hugeLength_7cf53 1 = .ok (.iload_n 1, 1) := by decide +kernel
theorem dJ8_hugeLength_7cf53_2 : decode cJ8_hugeLength_7cf53 2 = .ok (.iadd, 1) := by decide +kernel
theorem dJ8_hugeLength_7cf53_3 : decode cJ8_hugeLength_7cf53 3 = .ok (.istore_n 2, 1) := by decide +kernel
theorem dJ8_hugeLength_7cf53_4 : decode cJ8_hugeLength_7cf53 4 = .ok (.iload_n 2, 1) := by decide +kernel
theorem dJ8_hugeLength_7cf53_5 : decode cJ8_hugeLength_7cf53 5 = .ok (.ifCond .ge 44, 3) := by decide +kernel
theorem dJ8_hugeLength_7cf53_8 : decode cJ8_hugeLength_7cf53 8 = .ok (.new 204, 3) := by decide +kernel
theorem dJ8_hugeLength_7cf53_11 : decode cJ8_hugeLength_7cf53 11 = .ok (.dup, 1) := by decide +kernel
theorem dJ8_hugeLength_7cf53_12 : decode cJ8_hugeLength_7cf53 12 = .ok (.new 89, 3) := by decide +kernel
theorem dJ8_hugeLength_7cf53_15 : decode cJ8_hugeLength_7cf53 15 = .ok (.dup, 1) := by decide +kernel
theorem dJ8_hugeLength_7cf53_16 : decode cJ8_hugeLength_7cf53 16 = .ok (.invokespecial 91, 3) := by decide +kernel
theorem dJ8_hugeLength_7cf53_19 : decode cJ8_hugeLength_7cf53 19 = .ok (.ldc 206, 2) := by decide +kernel
theorem dJ8_hugeLength_7cf53_21 : decode cJ8_hugeLength_7cf53 21 = .ok (.invokevirtual 94, 3) := by decide +kernel
theorem dJ8_hugeLength_7cf53_24 : decode cJ8_hugeLength_7cf53 24 = .ok (.iload_n 0, 1) := by decide +kernel
theorem dJ8_hugeLength_7cf53_25 : decode cJ8_hugeLength_7cf53 25 = .ok (.invokevirtual 98, 3) := by decide +kernel
theorem dJ8_hugeLength_7cf53_28 : decode cJ8_hugeLength_7cf53 28 = .ok (.ldc 208, 2) := by decide +kernel
theorem dJ8_hugeLength_7cf53_30 : decode cJ8_hugeLength_7cf53 30 = .ok (.invokevirtual 94, 3) := by decide +kernel
theorem dJ8_hugeLength_7cf53_33 : decode cJ8_hugeLength_7cf53 33 = .ok (.iload_n 1, 1) := by decide +kernel
theorem dJ8_hugeLength_7cf53_34 : decode cJ8_hugeLength_7cf53 34 = .ok (.invokevirtual 98, 3) := by decide +kernel
theorem dJ8_hugeLength_7cf53_37 : decode cJ8_hugeLength_7cf53 37 = .ok (.ldc 210, 2) := by decide +kernel
theorem dJ8_hugeLength_7cf53_39 : decode cJ8_hugeLength_7cf53 39 = .ok (.invokevirtual 94, 3) := by decide +kernel
theorem dJ8_hugeLength_7cf53_42 : decode cJ8_hugeLength_7cf53 42 = .ok (.invokevirtual 101, 3) := by decide +kernel
theorem dJ8_hugeLength_7cf53_45 : decode cJ8_hugeLength_7cf53 45 = .ok (.invokespecial 212, 3) := by decide +kernel
theorem dJ8_hugeLength_7cf53_48 : decode cJ8_hugeLength_7cf53 48 = .ok (.athrow, 1) := by decide +kernel
theorem dJ8_hugeLength_7cf53_49 : decode cJ8_hugeLength_7cf53 49 = .ok (.iload_n 2, 1) := by decide +kernel
theorem dJ8_hugeLength_7cf53_50 : decode cJ8_hugeLength_7cf53 50 = .ok (.ldc 200, 2) := by decide +kernel
theorem dJ8_hugeLength_7cf53_52 : decode cJ8_hugeLength_7cf53 52 = .ok (.if_icmp .gt 6, 3) := by decide +kernel
theorem dJ8_hugeLength_7cf53_55 : decode cJ8_hugeLength_7cf53 55 = .ok (.ldc 200, 2) := by decide +kernel
theorem dJ8_hugeLength_7cf53_57 : decode cJ8_hugeLength_7cf53 57 = .ok (.ireturn, 1) := by decide +kernel
theorem dJ8_hugeLength_7cf53_58 : decode cJ8_hugeLength_7cf53 58 = .ok (.iload_n 2, 1) := by decide +kernel
theorem dJ8_hugeLength_7cf53_59 : decode cJ8_hugeLength_7cf53 59 = .ok (.ireturn, 1) := by decide +kernel
theorem dJ3_checkIndex_8e157_0 : decode cJ3_checkIndex_8e157 0 = .ok (.iload_n 0, 1) := by decide +kernel
theorem dJ3_checkIndex_8e157_1 : decode cJ3_checkIndex_8e157 1 = .ok (.ifCond .lt 8, 3) := by decide +kernel
theorem dJ3_checkIndex_8e157_4 : decode cJ3_checkIndex_8e157 4 = .ok (.iload_n 0, 1) := by decide +kernel
theorem dJ3_checkIndex_8e157_5 : decode cJ3_checkIndex_8e157 5 = .ok (.iload_n 1, 1) := by decide +kernel
theorem dJ3_checkIndex_8e157_6 : decode cJ3_checkIndex_8e157 6 = .ok (.if_icmp .lt 10, 3) := by decide +kernel
theorem dJ3_checkIndex_8e157_9 : decode cJ3_checkIndex_8e157 9 = .ok (.aload_n 2, 1) := by decide +kernel
theorem dJ3_checkIndex_8e157_10 : decode cJ3_checkIndex_8e157 10 = .ok (.iload_n 0, 1) := by decide +kernel
theorem dJ3_checkIndex_8e157_11 : decode cJ3_checkIndex_8e157 11 = .ok (.iload_n 1, 1) := by decide +kernel
theorem dJ3_checkIndex_8e157_12 : decode cJ3_checkIndex_8e157 12 = .ok (.invokestatic 95, 3) := by decide +kernel
theorem dJ3_checkIndex_8e157_15 : decode cJ3_checkIndex_8e157 15 = .ok (.athrow, 1) := by decide +kernel
theorem dJ3_checkIndex_8e157_16 : decode cJ3_checkIndex_8e157 16 = .ok (.iload_n 0, 1) := by decide +kernel
theorem dJ3_checkIndex_8e157_17 : decode cJ3_checkIndex_8e157 17 = .ok (.ireturn, 1) := by decide +kernel
end
section
theorem dX3_init_0 : decode cX3_init 0 = .ok (.aload_n 0, 1) := by decide +kernel
theorem dX3_init_1 : decode cX3_init 1 = .ok (.invokespecial 3, 3) := by decide +kernel
theorem dX3_init_4 : decode cX3_init 4 = .ok (.aload_n 0, 1) := by decide +kernel
theorem dX3_init_5 : decode cX3_init 5 = .ok (.iconst 1, 1) := by decide +kernel
theorem dX3_init_6 : decode cX3_init 6 = .ok (.putfield 9, 3) := by decide +kernel
theorem dX3_init_9 : decode cX3_init 9 = .ok (.aload_n 0, 1) := by decide +kernel
theorem dX3_init_10 : decode cX3_init 10 = .ok (.bipush 60, 2) := by decide +kernel
theorem dX3_init_12 : decode cX3_init 12 = .ok (.newarray .int, 2) := by decide +kernel
theorem dX3_init_14 : decode cX3_init 14 = .ok (.putfield 13, 3) := by decide +kernel
theorem dX3_init_17 : decode cX3_init 17 = .ok (.aload_n 0, 1) := by decide +kernel
theorem dX3_init_18 : decode cX3_init 18 = .ok (.bipush 60, 2) := by decide +kernel
theorem dX3_init_20 : decode cX3_init 20 = .ok (.newarray .int, 2) := by decide +kernel
theorem dX3_init_22 : decode cX3_init 22 = .ok (.putfield 17, 3) := by decide +kernel
theorem dX3_init_25 : decode cX3_init 25 = .ok (.aload_n 0, 1) := by decide +kernel
theorem dX3_init_26 : decode cX3_init 26 = .ok (.bipush 60, 2) := by decide +kernel
theorem dX3_init_28 : decode cX3_init 28 = .ok (.newarray .int, 2) := by decide +kernel
theorem dX3_init_30 : decode cX3_init 30 = .ok (.putfield 20, 3) := by decide +kernel
theorem dX3_init_33 : decode cX3_init 33 = .ok (.aload_n 0, 1) := by decide +kernel
theorem dX3_init_34 : decode cX3_init 34 = .ok (.bipush 60, 2) := by decide +kernel
theorem dX3_init_36 : decode cX3_init 36 = .ok (.newarray .int, 2) := by decide +kernel
theorem dX3_init_38 : decode cX3_init 38 = .ok (.putfield 23, 3) := by decide +kernel
theorem dX3_init_41 : decode cX3_init 41 = .ok (.aload_n 0, 1) := by decide +kernel
theorem dX3_init_42 : decode cX3_init 42 = .ok (.bipush 60, 2) := by decide +kernel
theorem dX3_init_44 : decode cX3_init 44 = .ok (.newarray .int, 2) := by decide +kernel
theorem dX3_init_46 : decode cX3_init 46 = .ok (.putfield 26, 3) := by decide +kernel
theorem dX3_init_49 : decode cX3_init 49 = .ok (.aload_n 0, 1) := by decide +kernel
theorem dX3_init_50 : decode cX3_init 50 = .ok (.sipush 1020, 3) := by decide +kernel
theorem dX3_init_53 : decode cX3_init 53 = .ok (.newarray .int, 2) := by decide +kernel
theorem dX3_init_55 : decode cX3_init 55 = .ok (.putfield 29, 3) := by decide +kernel
theorem dX3_init_58 : decode cX3_init 58 = .ok (.aload_n 0, 1) := by decide +kernel
theorem dX3_init_59 : decode cX3_init 59 = .ok (.bipush 17, 2) := by decide +kernel
theorem dX3_init_61 : decode cX3_init 61 = .ok (.newarray .int, 2) := by decide +kernel
theorem dX3_init_63 : decode cX3_init 63 = .ok (.putfield 32, 3) := by decide +kernel
theorem dX3_init_66 : decode cX3_init 66 = .ok (.aload_n 0, 1) := by decide +kernel
theorem dX3_init_67 : decode cX3_init 67 = .ok (.getfield 13, 3) := by decide +kernel
theorem dX3_init_70 : decode cX3_init 70 = .ok (.iconst 0, 1) := by decide +kernel
theorem dX3_init_71 : decode cX3_init 71 = .ok (.iconst (-1), 1) := by decide +kernel
theorem dX3_init_72 : decode cX3_init 72 = .ok (.iastore, 1) := by decide +kernel
theorem dX3_init_73 : decode cX3_init 73 = .ok (.aload_n 0, 1) := by decide +kernel
theorem dX3_init_74 : decode cX3_init 74 = .ok (.getfield 17, 3) := by decide +kernel
theorem dX3_init_77 : decode cX3_init 77 = .ok (.iconst 0, 1) := by decide +kernel
theorem dX3_init_78 : decode cX3_init 78 = .ok (.iconst (-1), 1) := by decide +kernel
theorem dX3_init_79 : decode cX3_init 79 = .ok (.iastore, 1) := by decide +kernel
theorem dX3_init_80 : decode cX3_init 80 = .ok (.aload_n 0, 1) := by decide +kernel
theorem dX3_init_81 : decode cX3_init 81 = .ok (.getfield 20, 3) := by decide +kernel
theorem dX3_init_84 : decode cX3_init 84 = .ok (.iconst 0, 1) := by decide +kernel
theorem dX3_init_85 : decode cX3_init 85 = .ok (.iconst (-1), 1) := by decide +kernel
theorem dX3_init_86 : decode cX3_init 86 = .ok (.iastore, 1) := by decide +kernel
theorem dX3_init_87 : decode cX3_init 87 = .ok (.aload_n 0, 1) := by decide +kernel
theorem dX3_init_88 : decode cX3_init 88 = .ok (.getfield 26, 3) := by decide +kernel
theorem dX3_init_91 : decode cX3_init 91 = .ok (.iconst 0, 1) := by decide +kernel
theorem dX3_init_92 : decode cX3_init 92 = .ok (.iconst (-1), 1) := by decide +kernel
theorem dX3_init_93 : decode cX3_init 93 = .ok (.iastore, 1) := by decide +kernel
theorem dX3_init_94 : decode cX3_init 94 = .ok (.return_, 1) := by decide +kernel
theorem dX3_thrown_0 : decode cX3_thrown 0 = .ok (.aload_n 0, 1) := by decide +kernel
theorem dX3_thrown_1 : decode cX3_thrown 1 = .ok (.getfield 35, 3) := by decide +kernel
theorem dX3_thrown_4 : decode cX3_thrown 4 = .ok (.ireturn, 1) := by decide +kernel
theorem dX3_no_0 : decode cX3_no 0 = .ok (.aload_n 0, 1) := by decide +kernel
theorem dX3_no_1 : decode cX3_no 1 = .ok (.iload_n 1, 1) := by decide +kernel
theorem dX3_no_2 : decode cX3_no 2 = .ok (.putfield 35, 3) := by decide +kernel
theorem dX3_no_5 : decode cX3_no 5 = .ok (.iconst 0, 1) := by decide +kernel
theorem dX3_no_6 : decode cX3_no 6 = .ok (.ireturn, 1) := by decide +kernel
theorem dX3_isNot_0 : decode cX3_isNot 0 = .ok (.aload_n 0, 1) := by decide +kernel
theorem dX3_isNot_1 : decode cX3_isNot 1 = .ok (.iload_n 1, 1) := by decide +kernel
theorem dX3_isNot_2 : decode cX3_isNot 2 = .ok (.putfield 35, 3) := by decide +kernel
theorem dX3_isNot_5 : decode cX3_isNot 5 = .ok (.iconst 0, 1) := by decide +kernel
theorem dX3_isNot_6 : decode cX3_isNot 6 = .ok (.ireturn, 1) := by decide +kernel
theorem dX3_ok_0 : decode cX3_ok 0 = .ok (.aload_n 0, 1) := by decide +kernel
theorem dX3_ok_1 : decode cX3_ok 1 = .ok (.iconst 0, 1) := by decide +kernel
theorem dX3_ok_2 : decode cX3_ok 2 = .ok (.putfield 35, 3) := by decide +kernel
theorem dX3_ok_5 : decode cX3_ok 5 = .ok (.iload_n 1, 1) := by decide +kernel
theorem dX3_ok_6 : decode cX3_ok 6 = .ok (.ireturn, 1) := by decide +kernel
theorem dX3_isIn_0 : decode cX3_isIn 0 = .ok (.iload_n 0, 1) := by decide +kernel
theorem dX3_isIn_1 : decode cX3_isIn 1 = .ok (.iload_n 1, 1) := by decide +kernel
theorem dX3_isIn_2 : decode cX3_isIn 2 = .ok (.if_icmp .lt 12, 3) := by decide +kernel
theorem dX3_isIn_5 : decode cX3_isIn 5 = .ok (.iload_n 0, 1) := by decide +kernel
theorem dX3_isIn_6 : decode cX3_isIn 6 = .ok (.iload_n 2, 1) := by decide +kernel
theorem dX3_isIn_7 : decode cX3_isIn 7 = .ok (.if_icmp .gt 7, 3) := by decide +kernel
theorem dX3_isIn_10 : decode cX3_isIn 10 = .ok (.iconst 1, 1) := by decide +kernel
theorem dX3_isIn_11 : decode cX3_isIn 11 = .ok (.goto 4, 3) := by decide +kernel
theorem dX3_isIn_14 : decode cX3_isIn 14 = .ok (.iconst 0, 1) := by decide +kernel
theorem dX3_isIn_15 : decode cX3_isIn 15 = .ok (.ireturn, 1) := by decide +kernel
theorem dX3_isEvening_0 : decode cX3_isEvening 0 = .ok (.iload_n 1, 1) := by decide +kernel
theorem dX3_isEvening_1 : decode cX3_isEvening 1 = .ok (.iconst 0, 1) := by decide +kernel
theorem dX3_isEvening_2 : decode cX3_isEvening 2 = .ok (.aload_n 0, 1) := by decide +kernel
theorem dX3_isEvening_3 : decode cX3_isEvening 3 = .ok (.getfield 9, 3) := by decide +kernel
theorem dX3_isEvening_6 : decode cX3_isEvening 6 = .ok (.iconst 1, 1) := by decide +kernel
theorem dX3_isEvening_7 : decode cX3_isEvening 7 = .ok (.isub, 1) := by decide +kernel
theorem dX3_isEvening_8 : decode cX3_isEvening 8 = .ok (.invokestatic 38, 3) := by decide +kernel
theorem dX3_isEvening_11 : decode cX3_isEvening 11 = .ok (.ireturn, 1) := by decide +kernel
theorem dX3_isPiece_0 : decode cX3_isPiece 0 = .ok (.iload_n 1, 1) := by decide +kernel
theorem dX3_isPiece_1 : decode cX3_isPiece 1 = .ok (.iconst 0, 1) := by decide +kernel
theorem dX3_isPiece_2 : decode cX3_isPiece 2 = .ok (.aload_n 0, 1) := by decide +kernel
theorem dX3_isPiece_3 : decode cX3_isPiece 3 = .ok (.getfield 42, 3) := by decide +kernel
theorem dX3_isPiece_6 : decode cX3_isPiece 6 = .ok (.iconst 1, 1) := by decide +kernel
theorem dX3_isPiece_7 : decode cX3_isPiece 7 = .ok (.isub, 1) := by decide +kernel
theorem dX3_isPiece_8 : decode cX3_isPiece 8 = .ok (.invokestatic 38, 3) := by decide +kernel
theorem dX3_isPiece_11 : decode cX3_isPiece 11 = .ok (.ireturn, 1) := by decide +kernel
theorem dX3_isOn_0 : decode cX3_isOn 0 = .ok (.iload_n 0, 1) := by decide +kernel
theorem dX3_isOn_1 : decode cX3_isOn 1 = .ok (.iconst 0, 1) := by decide +kernel
theorem dX3_isOn_2 : decode cX3_isOn 2 = .ok (.bipush 7, 2) := by decide +kernel
theorem dX3_isOn_4 : decode cX3_isOn 4 = .ok (.invokestatic 38, 3) := by decide +kernel
theorem dX3_isOn_7 : decode cX3_isOn 7 = .ok (.ireturn, 1) := by decide +kernel
theorem dX3_isPaw_0 : decode cX3_isPaw 0 = .ok (.iload_n 0, 1) := by decide +kernel
theorem dX3_isPaw_1 : decode cX3_isPaw 1 = .ok (.iconst 0, 1) := by decide +kernel
theorem dX3_isPaw_2 : decode cX3_isPaw 2 = .ok (.iconst 3, 1) := by decide +kernel
theorem dX3_isPaw_3 : decode cX3_isPaw 3 = .ok (.invokestatic 38, 3) := by decide +kernel
theorem dX3_isPaw_6 : decode cX3_isPaw 6 = .ok (.ifCond .eq 31, 3) := by decide +kernel
theorem dX3_isPaw_9 : decode cX3_isPaw 9 = .ok (.iload_n 1, 1) := by decide +kernel
theorem dX3_isPaw_10 : decode cX3_isPaw 10 = .ok (.iconst 0, 1) := by decide +kernel
theorem dX3_isPaw_11 : decode cX3_isPaw 11 = .ok (.iload_n 0, 1) := by decide +kernel
theorem dX3_isPaw_12 : decode cX3_isPaw 12 = .ok (.ifCond .eq 8, 3) := by decide +kernel
theorem dX3_isPaw_15 : decode cX3_isPaw 15 = .ok (.iload_n 0, 1) := by decide +kernel
theorem dX3_isPaw_16 : decode cX3_isPaw 16 = .ok (.iconst 3, 1) := by decide +kernel
theorem dX3_isPaw_17 : decode cX3_isPaw 17 = .ok (.if_icmp .ne 8, 3) := by decide +kernel
theorem dX3_isPaw_20 : decode cX3_isPaw 20 = .ok (.bipush 7, 2) := by decide +kernel
theorem dX3_isPaw_22 : decode cX3_isPaw 22 = .ok (.goto 5, 3) := by decide +kernel
theorem dX3_isPaw_25 : decode cX3_isPaw 25 = .ok (.bipush 15, 2) := by decide +kernel
theorem dX3_isPaw_27 : decode cX3_isPaw 27 = .ok (.invokestatic 38, 3) := by decide +kernel
theorem dX3_isPaw_30 : decode cX3_isPaw 30 = .ok (.ifCond .eq 7, 3) := by decide +kernel
theorem dX3_isPaw_33 : decode cX3_isPaw 33 = .ok (.iconst 1, 1) := by decide +kernel
theorem dX3_isPaw_34 : decode cX3_isPaw 34 = .ok (.goto 4, 3) := by decide +kernel
theorem dX3_isPaw_37 : decode cX3_isPaw 37 = .ok (.iconst 0, 1) := by decide +kernel
theorem dX3_isPaw_38 : decode cX3_isPaw 38 = .ok (.ireturn, 1) := by decide +kernel
theorem dX3_at_0 : decode cX3_at 0 = .ok (.aload_n 0, 1) := by decide +kernel
theorem dX3_at_1 : decode cX3_at 1 = .ok (.getfield 29, 3) := by decide +kernel
theorem dX3_at_4 : decode cX3_at 4 = .ok (.bipush 17, 2) := by decide +kernel
theorem dX3_at_6 : decode cX3_at 6 = .ok (.iload_n 1, 1) := by decide +kernel
theorem dX3_at_7 : decode cX3_at 7 = .ok (.imul, 1) := by decide +kernel
theorem dX3_at_8 : decode cX3_at 8 = .ok (.iload_n 2, 1) := by decide +kernel
theorem dX3_at_9 : decode cX3_at 9 = .ok (.iadd, 1) := by decide +kernel
theorem dX3_at_10 : decode cX3_at 10 = .ok (.iaload, 1) := by decide +kernel
theorem dX3_at_11 : decode cX3_at 11 = .ok (.ireturn, 1) := by decide +kernel
theorem dX3_cat_0 : decode cX3_cat 0 = .ok (.aload_n 0, 1) := by decide +kernel
theorem dX3_cat_1 : decode cX3_cat 1 = .ok (.aload_n 0, 1) := by decide +kernel
theorem dX3_cat_2 : decode cX3_cat 2 = .ok (.getfield 45, 3) := by decide +kernel
theorem dX3_cat_5 : decode cX3_cat 5 = .ok (.iconst 0, 1) := by decide +kernel
theorem dX3_cat_6 : decode cX3_cat 6 = .ok (.invokevirtual 48, 3) := by decide +kernel
theorem dX3_cat_9 : decode cX3_cat 9 = .ok (.ireturn, 1) := by decide +kernel
theorem dX3_piece_0 : decode cX3_piece 0 = .ok (.aload_n 0, 1) := by decide +kernel
theorem dX3_piece_1 : decode cX3_piece 1 = .ok (.iload_n 1, 1) := by decide +kernel
theorem dX3_piece_2 : decode cX3_piece 2 = .ok (.iconst 1, 1) := by decide +kernel
theorem dX3_piece_3 : decode cX3_piece 3 = .ok (.iload_n 2, 1) := by decide +kernel
theorem dX3_piece_4 : decode cX3_piece 4 = .ok (.iadd, 1) := by decide +kernel
theorem dX3_piece_5 : decode cX3_piece 5 = .ok (.invokevirtual 48, 3) := by decide +kernel
theorem dX3_piece_8 : decode cX3_piece 8 = .ok (.ireturn, 1) := by decide +kernel
theorem dX3_pieceOn_0 : decode cX3_pieceOn 0 = .ok (.iconst 0, 1) := by decide +kernel
theorem dX3_pieceOn_1 : decode cX3_pieceOn 1 = .ok (.istore_n 2, 1) := by decide +kernel
theorem dX3_pieceOn_2 : decode cX3_pieceOn 2 = .ok (.iload_n 2, 1) := by decide +kernel
theorem dX3_pieceOn_3 : decode cX3_pieceOn 3 = .ok (.aload_n 0, 1) := by decide +kernel
theorem dX3_pieceOn_4 : decode cX3_pieceOn 4 = .ok (.getfield 42, 3) := by decide +kernel
theorem dX3_pieceOn_7 : decode cX3_pieceOn 7 = .ok (.if_icmp .ge 27, 3) := by decide +kernel
theorem dX3_pieceOn_10 : decode cX3_pieceOn 10 = .ok (.aload_n 0, 1) := by decide +kernel
theorem dX3_pieceOn_11 : decode cX3_pieceOn 11 = .ok (.aload_n 0, 1) := by decide +kernel
theorem dX3_pieceOn_12 : decode cX3_pieceOn 12 = .ok (.getfield 45, 3) := by decide +kernel
theorem dX3_pieceOn_15 : decode cX3_pieceOn 15 = .ok (.iload_n 2, 1) := by decide +kernel
theorem dX3_pieceOn_16 : decode cX3_pieceOn 16 = .ok (.invokevirtual 52, 3) := by decide +kernel
theorem dX3_pieceOn_19 : decode cX3_pieceOn 19 = .ok (.bipush 100, 2) := by decide +kernel
theorem dX3_pieceOn_21 : decode cX3_pieceOn 21 = .ok (.irem, 1) := by decide +kernel
theorem dX3_pieceOn_22 : decode cX3_pieceOn 22 = .ok (.iload_n 1, 1) := by decide +kernel
theorem dX3_pieceOn_23 : decode cX3_pieceOn 23 = .ok (.if_icmp .ne 5, 3) := by decide +kernel
theorem dX3_pieceOn_26 : decode cX3_pieceOn 26 = .ok (.iload_n 2, 1) := by decide +kernel
theorem dX3_pieceOn_27 : decode cX3_pieceOn 27 = .ok (.ireturn, 1) := by decide +kernel
theorem dX3_pieceOn_28 : decode cX3_pieceOn 28 = .ok (.iinc 2 1, 3) := by decide +kernel
theorem dX3_pieceOn_31 : decode cX3_pieceOn 31 = .ok (.goto (-29), 3) := by decide +kernel
theorem dX3_pieceOn_34 : decode cX3_pieceOn 34 = .ok (.iconst (-1), 1) := by decide +kernel
theorem dX3_pieceOn_35 : decode cX3_pieceOn 35 = .ok (.ireturn, 1) := by decide +kernel
theorem dX3_farther_0 : decode cX3_farther 0 = .ok (.iload_n 0, 1) := by decide +kernel
theorem dX3_farther_1 : decode cX3_farther 1 = .ok (.bipush 8, 2) := by decide +kernel
theorem dX3_farther_3 : decode cX3_farther 3 = .ok (.idiv, 1) := by decide +kernel
theorem dX3_farther_4 : decode cX3_farther 4 = .ok (.getstatic 55, 3) := by decide +kernel
theorem dX3_farther_7 : decode cX3_farther 7 = .ok (.iload_n 1, 1) := by decide +kernel
theorem dX3_farther_8 : decode cX3_farther 8 = .ok (.iaload, 1) := by decide +kernel
theorem dX3_farther_9 : decode cX3_farther 9 = .ok (.iadd, 1) := by decide +kernel
theorem dX3_farther_10 : decode cX3_farther 10 = .ok (.istore_n 2, 1) := by decide +kernel
theorem dX3_farther_11 : decode cX3_farther 11 = .ok (.iload_n 0, 1) := by decide +kernel
theorem dX3_farther_12 : decode cX3_farther 12 = .ok (.bipush 8, 2) := by decide +kernel
theorem dX3_farther_14 : decode cX3_farther 14 = .ok (.irem, 1) := by decide +kernel
theorem dX3_farther_15 : decode cX3_farther 15 = .ok (.getstatic 55, 3) := by decide +kernel
theorem dX3_farther_18 : decode cX3_farther 18 = .ok (.iload_n 1, 1) := by decide +kernel
theorem dX3_farther_19 : decode cX3_farther 19 = .ok (.iconst 2, 1) := by decide +kernel
theorem dX3_farther_20 : decode cX3_farther 20 = .ok (.iadd, 1) := by decide +kernel
theorem dX3_farther_21 : decode cX3_farther 21 = .ok (.bipush 8, 2) := by decide +kernel
theorem dX3_farther_23 : decode cX3_farther 23 = .ok (.irem, 1) := by decide +kernel
theorem dX3_farther_24 : decode cX3_farther 24 = .ok (.iaload, 1) := by decide +kernel
theorem dX3_farther_25 : decode cX3_farther 25 = .ok (.iadd, 1) := by decide +kernel
theorem dX3_farther_26 : decode cX3_farther 26 = .ok (.istore_n 3, 1) := by decide +kernel
theorem dX3_farther_27 : decode cX3_farther 27 = .ok (.iload_n 2, 1) := by decide +kernel
theorem dX3_farther_28 : decode cX3_farther 28 = .ok (.invokestatic 58, 3) := by decide +kernel
theorem dX3_farther_31 : decode cX3_farther 31 = .ok (.ifCond .eq 19, 3) := by decide +kernel
theorem dX3_farther_34 : decode cX3_farther 34 = .ok (.iload_n 3, 1) := by decide +kernel
theorem dX3_farther_35 : decode cX3_farther 35 = .ok (.invokestatic 58, 3) := by decide +kernel
theorem dX3_farther_38 : decode cX3_farther 38 = .ok (.ifCond .eq 12, 3) := by decide +kernel
theorem dX3_farther_41 : decode cX3_farther 41 = .ok (.bipush 8, 2) := by decide +kernel
theorem dX3_farther_43 : decode cX3_farther 43 = .ok (.iload_n 2, 1) := by decide +kernel
theorem dX3_farther_44 : decode cX3_farther 44 = .ok (.imul, 1) := by decide +kernel
theorem dX3_farther_45 : decode cX3_farther 45 = .ok (.iload_n 3, 1) := by decide +kernel
theorem dX3_farther_46 : decode cX3_farther 46 = .ok (.iadd, 1) := by decide +kernel
theorem dX3_farther_47 : decode cX3_farther 47 = .ok (.goto 4, 3) := by decide +kernel
theorem dX3_farther_50 : decode cX3_farther 50 = .ok (.iconst (-1), 1) := by decide +kernel
theorem dX3_farther_51 : decode cX3_farther 51 = .ok (.ireturn, 1) := by decide +kernel
theorem dX3_isBeside_0 : decode cX3_isBeside 0 = .ok (.iload_n 0, 1) := by decide +kernel
theorem dX3_isBeside_1 : decode cX3_isBeside 1 = .ok (.bipush 8, 2) := by decide +kernel
theorem dX3_isBeside_3 : decode cX3_isBeside 3 = .ok (.idiv, 1) := by decide +kernel
theorem dX3_isBeside_4 : decode cX3_isBeside 4 = .ok (.iload_n 1, 1) := by decide +kernel
theorem dX3_isBeside_5 : decode cX3_isBeside 5 = .ok (.bipush 8, 2) := by decide +kernel
theorem dX3_isBeside_7 : decode cX3_isBeside 7 = .ok (.idiv, 1) := by decide +kernel
theorem dX3_isBeside_8 : decode cX3_isBeside 8 = .ok (.isub, 1) := by decide +kernel
theorem dX3_isBeside_9 : decode cX3_isBeside 9 = .ok (.invokestatic 62, 3) := by decide +kernel
theorem dX3_isBeside_12 : decode cX3_isBeside 12 = .ok (.iconst 2, 1) := by decide +kernel
theorem dX3_isBeside_13 : decode cX3_isBeside 13 = .ok (.if_icmp .ge 23, 3) := by decide +kernel
theorem dX3_isBeside_16 : decode cX3_isBeside 16 = .ok (.iload_n 0, 1) := by decide +kernel
theorem dX3_isBeside_17 : decode cX3_isBeside 17 = .ok (.bipush 8, 2) := by decide +kernel
theorem dX3_isBeside_19 : decode cX3_isBeside 19 = .ok (.irem, 1) := by decide +kernel
theorem dX3_isBeside_20 : decode cX3_isBeside 20 = .ok (.iload_n 1, 1) := by decide +kernel
theorem dX3_isBeside_21 : decode cX3_isBeside 21 = .ok (.bipush 8, 2) := by decide +kernel
theorem dX3_isBeside_23 : decode cX3_isBeside 23 = .ok (.irem, 1) := by decide +kernel
theorem dX3_isBeside_24 : decode cX3_isBeside 24 = .ok (.isub, 1) := by decide +kernel
theorem dX3_isBeside_25 : decode cX3_isBeside 25 = .ok (.invokestatic 62, 3) := by decide +kernel
theorem dX3_isBeside_28 : decode cX3_isBeside 28 = .ok (.iconst 2, 1) := by decide +kernel
theorem dX3_isBeside_29 : decode cX3_isBeside 29 = .ok (.if_icmp .ge 7, 3) := by decide +kernel
theorem dX3_isBeside_32 : decode cX3_isBeside 32 = .ok (.iconst 1, 1) := by decide +kernel
theorem dX3_isBeside_33 : decode cX3_isBeside 33 = .ok (.goto 4, 3) := by decide +kernel
theorem dX3_isBeside_36 : decode cX3_isBeside 36 = .ok (.iconst 0, 1) := by decide +kernel
theorem dX3_isBeside_37 : decode cX3_isBeside 37 = .ok (.ireturn, 1) := by decide +kernel
theorem dX3_steps_0 : decode cX3_steps 0 = .ok (.aload_n 0, 1) := by decide +kernel
theorem dX3_steps_1 : decode cX3_steps 1 = .ok (.getfield 32, 3) := by decide +kernel
theorem dX3_steps_4 : decode cX3_steps 4 = .ok (.iconst 0, 1) := by decide +kernel
theorem dX3_steps_5 : decode cX3_steps 5 = .ok (.aload_n 0, 1) := by decide +kernel
theorem dX3_steps_6 : decode cX3_steps 6 = .ok (.invokevirtual 68, 3) := by decide +kernel
theorem dX3_steps_9 : decode cX3_steps 9 = .ok (.iload_n 1, 1) := by decide +kernel
theorem dX3_steps_10 : decode cX3_steps 10 = .ok (.invokestatic 72, 3) := by decide +kernel
theorem dX3_steps_13 : decode cX3_steps 13 = .ok (.iastore, 1) := by decide +kernel
theorem dX3_steps_14 : decode cX3_steps 14 = .ok (.aload_n 0, 1) := by decide +kernel
theorem dX3_steps_15 : decode cX3_steps 15 = .ok (.getfield 32, 3) := by decide +kernel
theorem dX3_steps_18 : decode cX3_steps 18 = .ok (.iconst 0, 1) := by decide +kernel
theorem dX3_steps_19 : decode cX3_steps 19 = .ok (.iaload, 1) := by decide +kernel
theorem dX3_steps_20 : decode cX3_steps 20 = .ok (.iconst (-1), 1) := by decide +kernel
theorem dX3_steps_21 : decode cX3_steps 21 = .ok (.if_icmp .eq 7, 3) := by decide +kernel
theorem dX3_steps_24 : decode cX3_steps 24 = .ok (.iconst 1, 1) := by decide +kernel
theorem dX3_steps_25 : decode cX3_steps 25 = .ok (.goto 4, 3) := by decide +kernel
theorem dX3_steps_28 : decode cX3_steps 28 = .ok (.iconst 0, 1) := by decide +kernel
theorem dX3_steps_29 : decode cX3_steps 29 = .ok (.ireturn, 1) := by decide +kernel
theorem dX3_turns_0 : decode cX3_turns 0 = .ok (.aload_n 0, 1) := by decide +kernel
theorem dX3_turns_1 : decode cX3_turns 1 = .ok (.iload_n 1, 1) := by decide +kernel
theorem dX3_turns_2 : decode cX3_turns 2 = .ok (.invokevirtual 75, 3) := by decide +kernel
theorem dX3_turns_5 : decode cX3_turns 5 = .ok (.ifCond .eq 48, 3) := by decide +kernel
theorem dX3_turns_8 : decode cX3_turns 8 = .ok (.aload_n 0, 1) := by decide +kernel
theorem dX3_turns_9 : decode cX3_turns 9 = .ok (.aload_n 0, 1) := by decide +kernel
theorem dX3_turns_10 : decode cX3_turns 10 = .ok (.getfield 45, 3) := by decide +kernel
theorem dX3_turns_13 : decode cX3_turns 13 = .ok (.iload_n 1, 1) := by decide +kernel
theorem dX3_turns_14 : decode cX3_turns 14 = .ok (.invokevirtual 52, 3) := by decide +kernel
theorem dX3_turns_17 : decode cX3_turns 17 = .ok (.bipush 100, 2) := by decide +kernel
theorem dX3_turns_19 : decode cX3_turns 19 = .ok (.if_icmp .lt 7, 3) := by decide +kernel
theorem dX3_turns_22 : decode cX3_turns 22 = .ok (.iconst 1, 1) := by decide +kernel
theorem dX3_turns_23 : decode cX3_turns 23 = .ok (.goto 4, 3) := by decide +kernel
theorem dX3_turns_26 : decode cX3_turns 26 = .ok (.iconst 0, 1) := by decide +kernel
theorem dX3_turns_27 : decode cX3_turns 27 = .ok (.iload_n 2, 1) := by decide +kernel
theorem dX3_turns_28 : decode cX3_turns 28 = .ok (.if_icmp .ne 25, 3) := by decide +kernel
theorem dX3_turns_31 : decode cX3_turns 31 = .ok (.aload_n 0, 1) := by decide +kernel
theorem dX3_turns_32 : decode cX3_turns 32 = .ok (.invokevirtual 68, 3) := by decide +kernel
theorem dX3_turns_35 : decode cX3_turns 35 = .ok (.aload_n 0, 1) := by decide +kernel
theorem dX3_turns_36 : decode cX3_turns 36 = .ok (.aload_n 0, 1) := by decide +kernel
theorem dX3_turns_37 : decode cX3_turns 37 = .ok (.getfield 45, 3) := by decide +kernel
theorem dX3_turns_40 : decode cX3_turns 40 = .ok (.iload_n 1, 1) := by decide +kernel
theorem dX3_turns_41 : decode cX3_turns 41 = .ok (.invokevirtual 52, 3) := by decide +kernel
theorem dX3_turns_44 : decode cX3_turns 44 = .ok (.bipush 100, 2) := by decide +kernel
theorem dX3_turns_46 : decode cX3_turns 46 = .ok (.irem, 1) := by decide +kernel
theorem dX3_turns_47 : decode cX3_turns 47 = .ok (.invokestatic 78, 3) := by decide +kernel
theorem dX3_turns_50 : decode cX3_turns 50 = .ok (.ifCond .ne 5, 3) := by decide +kernel
theorem dX3_turns_53 : decode cX3_turns 53 = .ok (.iconst 0, 1) := by decide +kernel
theorem dX3_turns_54 : decode cX3_turns 54 = .ok (.ireturn, 1) := by decide +kernel
theorem dX3_turns_55 : decode cX3_turns 55 = .ok (.aload_n 0, 1) := by decide +kernel
theorem dX3_turns_56 : decode cX3_turns 56 = .ok (.getfield 32, 3) := by decide +kernel
theorem dX3_turns_59 : decode cX3_turns 59 = .ok (.iconst 1, 1) := by decide +kernel
theorem dX3_turns_60 : decode cX3_turns 60 = .ok (.iload_n 1, 1) := by decide +kernel
theorem dX3_turns_61 : decode cX3_turns 61 = .ok (.iadd, 1) := by decide +kernel
theorem dX3_turns_62 : decode cX3_turns 62 = .ok (.dup2, 1) := by decide +kernel
theorem dX3_turns_63 : decode cX3_turns 63 = .ok (.iaload, 1) := by decide +kernel
theorem dX3_turns_64 : decode cX3_turns 64 = .ok (.iload_n 2, 1) := by decide +kernel
theorem dX3_turns_65 : decode cX3_turns 65 = .ok (.ifCond .eq 8, 3) := by decide +kernel
theorem dX3_turns_68 : decode cX3_turns 68 = .ok (.bipush (-100), 2) := by decide +kernel
theorem dX3_turns_70 : decode cX3_turns 70 = .ok (.goto 5, 3) := by decide +kernel
theorem dX3_turns_73 : decode cX3_turns 73 = .ok (.bipush 100, 2) := by decide +kernel
theorem dX3_turns_75 : decode cX3_turns 75 = .ok (.iadd, 1) := by decide +kernel
theorem dX3_turns_76 : decode cX3_turns 76 = .ok (.iastore, 1) := by decide +kernel
theorem dX3_turns_77 : decode cX3_turns 77 = .ok (.iconst 1, 1) := by decide +kernel
theorem dX3_turns_78 : decode cX3_turns 78 = .ok (.ireturn, 1) := by decide +kernel
theorem dX3_pushes_0 : decode cX3_pushes 0 = .ok (.aload_n 0, 1) := by decide +kernel
theorem dX3_pushes_1 : decode cX3_pushes 1 = .ok (.invokevirtual 68, 3) := by decide +kernel
theorem dX3_pushes_4 : decode cX3_pushes 4 = .ok (.iload_n 1, 1) := by decide +kernel
theorem dX3_pushes_5 : decode cX3_pushes 5 = .ok (.invokestatic 72, 3) := by decide +kernel
theorem dX3_pushes_8 : decode cX3_pushes 8 = .ok (.istore_n 2, 1) := by decide +kernel
theorem dX3_pushes_9 : decode cX3_pushes 9 = .ok (.iload_n 2, 1) := by decide +kernel
theorem dX3_pushes_10 : decode cX3_pushes 10 = .ok (.iconst (-1), 1) := by decide +kernel
theorem dX3_pushes_11 : decode cX3_pushes 11 = .ok (.if_icmp .ne 7, 3) := by decide +kernel
theorem dX3_pushes_14 : decode cX3_pushes 14 = .ok (.iconst (-1), 1) := by decide +kernel
theorem dX3_pushes_15 : decode cX3_pushes 15 = .ok (.goto 8, 3) := by decide +kernel
theorem dX3_pushes_18 : decode cX3_pushes 18 = .ok (.aload_n 0, 1) := by decide +kernel
theorem dX3_pushes_19 : decode cX3_pushes 19 = .ok (.iload_n 2, 1) := by decide +kernel
theorem dX3_pushes_20 : decode cX3_pushes 20 = .ok (.invokevirtual 82, 3) := by decide +kernel
theorem dX3_pushes_23 : decode cX3_pushes 23 = .ok (.istore_n 3, 1) := by decide +kernel
theorem dX3_pushes_24 : decode cX3_pushes 24 = .ok (.iload_n 3, 1) := by decide +kernel
theorem dX3_pushes_25 : decode cX3_pushes 25 = .ok (.iconst (-1), 1) := by decide +kernel
theorem dX3_pushes_26 : decode cX3_pushes 26 = .ok (.if_icmp .eq 17, 3) := by decide +kernel
theorem dX3_pushes_29 : decode cX3_pushes 29 = .ok (.aload_n 0, 1) := by decide +kernel
theorem dX3_pushes_30 : decode cX3_pushes 30 = .ok (.aload_n 0, 1) := by decide +kernel
theorem dX3_pushes_31 : decode cX3_pushes 31 = .ok (.getfield 45, 3) := by decide +kernel
theorem dX3_pushes_34 : decode cX3_pushes 34 = .ok (.iload_n 3, 1) := by decide +kernel
theorem dX3_pushes_35 : decode cX3_pushes 35 = .ok (.invokevirtual 52, 3) := by decide +kernel
theorem dX3_pushes_38 : decode cX3_pushes 38 = .ok (.bipush 100, 2) := by decide +kernel
theorem dX3_pushes_40 : decode cX3_pushes 40 = .ok (.if_icmp .lt 5, 3) := by decide +kernel
theorem dX3_pushes_43 : decode cX3_pushes 43 = .ok (.iconst 0, 1) := by decide +kernel
theorem dX3_pushes_44 : decode cX3_pushes 44 = .ok (.ireturn, 1) := by decide +kernel
theorem dX3_pushes_45 : decode cX3_pushes 45 = .ok (.iload_n 2, 1) := by decide +kernel
theorem dX3_pushes_46 : decode cX3_pushes 46 = .ok (.iload_n 1, 1) := by decide +kernel
theorem dX3_pushes_47 : decode cX3_pushes 47 = .ok (.invokestatic 72, 3) := by decide +kernel
theorem dX3_pushes_50 : decode cX3_pushes 50 = .ok (.istore 4, 2) := by decide +kernel
theorem dX3_pushes_52 : decode cX3_pushes 52 = .ok (.iload 4, 2) := by decide +kernel
theorem dX3_pushes_54 : decode cX3_pushes 54 = .ok (.iconst (-1), 1) := by decide +kernel
theorem dX3_pushes_55 : decode cX3_pushes 55 = .ok (.if_icmp .eq 13, 3) := by decide +kernel
theorem dX3_pushes_58 : decode cX3_pushes 58 = .ok (.aload_n 0, 1) := by decide +kernel
theorem dX3_pushes_59 : decode cX3_pushes 59 = .ok (.iload 4, 2) := by decide +kernel
theorem dX3_pushes_61 : decode cX3_pushes 61 = .ok (.invokevirtual 82, 3) := by decide +kernel
theorem dX3_pushes_64 : decode cX3_pushes 64 = .ok (.iconst (-1), 1) := by decide +kernel
theorem dX3_pushes_65 : decode cX3_pushes 65 = .ok (.if_icmp .eq 5, 3) := by decide +kernel
theorem dX3_pushes_68 : decode cX3_pushes 68 = .ok (.iconst 0, 1) := by decide +kernel
theorem dX3_pushes_69 : decode cX3_pushes 69 = .ok (.ireturn, 1) := by decide +kernel
theorem dX3_pushes_70 : decode cX3_pushes 70 = .ok (.aload_n 0, 1) := by decide +kernel
theorem dX3_pushes_71 : decode cX3_pushes 71 = .ok (.getfield 32, 3) := by decide +kernel
theorem dX3_pushes_74 : decode cX3_pushes 74 = .ok (.iconst 0, 1) := by decide +kernel
theorem dX3_pushes_75 : decode cX3_pushes 75 = .ok (.iload_n 2, 1) := by decide +kernel
theorem dX3_pushes_76 : decode cX3_pushes 76 = .ok (.iastore, 1) := by decide +kernel
theorem dX3_pushes_77 : decode cX3_pushes 77 = .ok (.aload_n 0, 1) := by decide +kernel
theorem dX3_pushes_78 : decode cX3_pushes 78 = .ok (.getfield 32, 3) := by decide +kernel
theorem dX3_pushes_81 : decode cX3_pushes 81 = .ok (.iconst 1, 1) := by decide +kernel
theorem dX3_pushes_82 : decode cX3_pushes 82 = .ok (.iload_n 3, 1) := by decide +kernel
theorem dX3_pushes_83 : decode cX3_pushes 83 = .ok (.iadd, 1) := by decide +kernel
theorem dX3_pushes_84 : decode cX3_pushes 84 = .ok (.iload 4, 2) := by decide +kernel
theorem dX3_pushes_86 : decode cX3_pushes 86 = .ok (.iastore, 1) := by decide +kernel
theorem dX3_pushes_87 : decode cX3_pushes 87 = .ok (.iconst 1, 1) := by decide +kernel
theorem dX3_pushes_88 : decode cX3_pushes 88 = .ok (.ireturn, 1) := by decide +kernel
theorem dX3_does_0 : decode cX3_does 0 = .ok (.aload_n 0, 1) := by decide +kernel
theorem dX3_does_1 : decode cX3_does 1 = .ok (.getfield 29, 3) := by decide +kernel
theorem dX3_does_4 : decode cX3_does 4 = .ok (.bipush 17, 2) := by decide +kernel
theorem dX3_does_6 : decode cX3_does 6 = .ok (.aload_n 0, 1) := by decide +kernel
theorem dX3_does_7 : decode cX3_does 7 = .ok (.getfield 45, 3) := by decide +kernel
theorem dX3_does_10 : decode cX3_does 10 = .ok (.imul, 1) := by decide +kernel
theorem dX3_does_11 : decode cX3_does 11 = .ok (.aload_n 0, 1) := by decide +kernel
theorem dX3_does_12 : decode cX3_does 12 = .ok (.getfield 32, 3) := by decide +kernel
theorem dX3_does_15 : decode cX3_does 15 = .ok (.iconst 0, 1) := by decide +kernel
theorem dX3_does_16 : decode cX3_does 16 = .ok (.bipush 17, 2) := by decide +kernel
theorem dX3_does_18 : decode cX3_does 18 = .ok (.invokestatic 85, 3) := by decide +kernel
theorem dX3_does_21 : decode cX3_does 21 = .ok (.iload_n 1, 1) := by decide +kernel
theorem dX3_does_22 : decode cX3_does 22 = .ok (.ifCond .ne 11, 3) := by decide +kernel
theorem dX3_does_25 : decode cX3_does 25 = .ok (.aload_n 0, 1) := by decide +kernel
theorem dX3_does_26 : decode cX3_does 26 = .ok (.iload_n 2, 1) := by decide +kernel
theorem dX3_does_27 : decode cX3_does 27 = .ok (.invokevirtual 91, 3) := by decide +kernel
theorem dX3_does_30 : decode cX3_does 30 = .ok (.goto 31, 3) := by decide +kernel
theorem dX3_does_33 : decode cX3_does 33 = .ok (.iload_n 1, 1) := by decide +kernel
theorem dX3_does_34 : decode cX3_does 34 = .ok (.iconst 3, 1) := by decide +kernel
theorem dX3_does_35 : decode cX3_does 35 = .ok (.if_icmp .ne 11, 3) := by decide +kernel
theorem dX3_does_38 : decode cX3_does 38 = .ok (.aload_n 0, 1) := by decide +kernel
theorem dX3_does_39 : decode cX3_does 39 = .ok (.iload_n 2, 1) := by decide +kernel
theorem dX3_does_40 : decode cX3_does 40 = .ok (.invokevirtual 94, 3) := by decide +kernel
theorem dX3_does_43 : decode cX3_does 43 = .ok (.goto 18, 3) := by decide +kernel
theorem dX3_does_46 : decode cX3_does 46 = .ok (.aload_n 0, 1) := by decide +kernel
theorem dX3_does_47 : decode cX3_does 47 = .ok (.iload_n 2, 1) := by decide +kernel
theorem dX3_does_48 : decode cX3_does 48 = .ok (.iload_n 1, 1) := by decide +kernel
theorem dX3_does_49 : decode cX3_does 49 = .ok (.iconst 2, 1) := by decide +kernel
theorem dX3_does_50 : decode cX3_does 50 = .ok (.if_icmp .ne 7, 3) := by decide +kernel
theorem dX3_does_53 : decode cX3_does 53 = .ok (.iconst 1, 1) := by decide +kernel
theorem dX3_does_54 : decode cX3_does 54 = .ok (.goto 4, 3) := by decide +kernel
theorem dX3_does_57 : decode cX3_does 57 = .ok (.iconst 0, 1) := by decide +kernel
theorem dX3_does_58 : decode cX3_does 58 = .ok (.invokevirtual 97, 3) := by decide +kernel
theorem dX3_does_61 : decode cX3_does 61 = .ok (.ireturn, 1) := by decide +kernel
theorem dX3_down_0 : decode cX3_down 0 = .ok (.iconst 0, 1) := by decide +kernel
theorem dX3_down_1 : decode cX3_down 1 = .ok (.istore_n 3, 1) := by decide +kernel
theorem dX3_down_2 : decode cX3_down 2 = .ok (.iconst 0, 1) := by decide +kernel
theorem dX3_down_3 : decode cX3_down 3 = .ok (.istore 4, 2) := by decide +kernel
theorem dX3_down_5 : decode cX3_down 5 = .ok (.iload 4, 2) := by decide +kernel
theorem dX3_down_7 : decode cX3_down 7 = .ok (.iload_n 2, 1) := by decide +kernel
theorem dX3_down_8 : decode cX3_down 8 = .ok (.if_icmp .ge 29, 3) := by decide +kernel
theorem dX3_down_11 : decode cX3_down 11 = .ok (.iload_n 3, 1) := by decide +kernel
theorem dX3_down_12 : decode cX3_down 12 = .ok (.aload_n 0, 1) := by decide +kernel
theorem dX3_down_13 : decode cX3_down 13 = .ok (.iload_n 1, 1) := by decide +kernel
theorem dX3_down_14 : decode cX3_down 14 = .ok (.iload 4, 2) := by decide +kernel
theorem dX3_down_16 : decode cX3_down 16 = .ok (.invokevirtual 52, 3) := by decide +kernel
theorem dX3_down_19 : decode cX3_down 19 = .ok (.bipush 100, 2) := by decide +kernel
theorem dX3_down_21 : decode cX3_down 21 = .ok (.if_icmp .lt 7, 3) := by decide +kernel
theorem dX3_down_24 : decode cX3_down 24 = .ok (.iconst 1, 1) := by decide +kernel
theorem dX3_down_25 : decode cX3_down 25 = .ok (.goto 4, 3) := by decide +kernel
theorem dX3_down_28 : decode cX3_down 28 = .ok (.iconst 0, 1) := by decide +kernel
theorem dX3_down_29 : decode cX3_down 29 = .ok (.iadd, 1) := by decide +kernel
theorem dX3_down_30 : decode cX3_down 30 = .ok (.istore_n 3, 1) := by decide +kernel
theorem dX3_down_31 : decode cX3_down 31 = .ok (.iinc 4 1, 3) := by decide +kernel
theorem dX3_down_34 : decode cX3_down 34 = .ok (.goto (-29), 3) := by decide +kernel
theorem dX3_down_37 : decode cX3_down 37 = .ok (.iload_n 3, 1) := by decide +kernel
theorem dX3_down_38 : decode cX3_down 38 = .ok (.ireturn, 1) := by decide +kernel
theorem dX3_setPiece_0 : decode cX3_setPiece 0 = .ok (.aload_n 0, 1) := by decide +kernel
theorem dX3_setPiece_1 : decode cX3_setPiece 1 = .ok (.iconst 0, 1) := by decide +kernel
theorem dX3_setPiece_2 : decode cX3_setPiece 2 = .ok (.putfield 35, 3) := by decide +kernel
theorem dX3_setPiece_5 : decode cX3_setPiece 5 = .ok (.iload_n 1, 1) := by decide +kernel
theorem dX3_setPiece_6 : decode cX3_setPiece 6 = .ok (.invokestatic 58, 3) := by decide +kernel
theorem dX3_setPiece_9 : decode cX3_setPiece 9 = .ok (.ifCond .eq 10, 3) := by decide +kernel
theorem dX3_setPiece_12 : decode cX3_setPiece 12 = .ok (.iload_n 2, 1) := by decide +kernel
theorem dX3_setPiece_13 : decode cX3_setPiece 13 = .ok (.invokestatic 58, 3) := by decide +kernel
theorem dX3_setPiece_16 : decode cX3_setPiece 16 = .ok (.ifCond .ne 9, 3) := by decide +kernel
theorem dX3_setPiece_19 : decode cX3_setPiece 19 = .ok (.aload_n 0, 1) := by decide +kernel
theorem dX3_setPiece_20 : decode cX3_setPiece 20 = .ok (.iconst 1, 1) := by decide +kernel
theorem dX3_setPiece_21 : decode cX3_setPiece 21 = .ok (.invokevirtual 101, 3) := by decide +kernel
theorem dX3_setPiece_24 : decode cX3_setPiece 24 = .ok (.ireturn, 1) := by decide +kernel
theorem dX3_setPiece_25 : decode cX3_setPiece 25 = .ok (.bipush 8, 2) := by decide +kernel
theorem dX3_setPiece_27 : decode cX3_setPiece 27 = .ok (.iload_n 1, 1) := by decide +kernel
theorem dX3_setPiece_28 : decode cX3_setPiece 28 = .ok (.imul, 1) := by decide +kernel
theorem dX3_setPiece_29 : decode cX3_setPiece 29 = .ok (.iload_n 2, 1) := by decide +kernel
theorem dX3_setPiece_30 : decode cX3_setPiece 30 = .ok (.iadd, 1) := by decide +kernel
theorem dX3_setPiece_31 : decode cX3_setPiece 31 = .ok (.istore_n 3, 1) := by decide +kernel
theorem dX3_setPiece_32 : decode cX3_setPiece 32 = .ok (.aload_n 0, 1) := by decide +kernel
theorem dX3_setPiece_33 : decode cX3_setPiece 33 = .ok (.getfield 42, 3) := by decide +kernel
theorem dX3_setPiece_36 : decode cX3_setPiece 36 = .ok (.bipush 16, 2) := by decide +kernel
theorem dX3_setPiece_38 : decode cX3_setPiece 38 = .ok (.if_icmp .eq 20, 3) := by decide +kernel
theorem dX3_setPiece_41 : decode cX3_setPiece 41 = .ok (.aload_n 0, 1) := by decide +kernel
theorem dX3_setPiece_42 : decode cX3_setPiece 42 = .ok (.getfield 9, 3) := by decide +kernel
theorem dX3_setPiece_45 : decode cX3_setPiece 45 = .ok (.iconst 1, 1) := by decide +kernel
theorem dX3_setPiece_46 : decode cX3_setPiece 46 = .ok (.if_icmp .gt 12, 3) := by decide +kernel
theorem dX3_setPiece_49 : decode cX3_setPiece 49 = .ok (.aload_n 0, 1) := by decide +kernel
theorem dX3_setPiece_50 : decode cX3_setPiece 50 = .ok (.iload_n 3, 1) := by decide +kernel
theorem dX3_setPiece_51 : decode cX3_setPiece 51 = .ok (.invokevirtual 82, 3) := by decide +kernel
theorem dX3_setPiece_54 : decode cX3_setPiece 54 = .ok (.iconst (-1), 1) := by decide +kernel
theorem dX3_setPiece_55 : decode cX3_setPiece 55 = .ok (.if_icmp .eq 9, 3) := by decide +kernel
theorem dX3_setPiece_58 : decode cX3_setPiece 58 = .ok (.aload_n 0, 1) := by decide +kernel
theorem dX3_setPiece_59 : decode cX3_setPiece 59 = .ok (.iconst 2, 1) := by decide +kernel
theorem dX3_setPiece_60 : decode cX3_setPiece 60 = .ok (.invokevirtual 101, 3) := by decide +kernel
theorem dX3_setPiece_63 : decode cX3_setPiece 63 = .ok (.ireturn, 1) := by decide +kernel
theorem dX3_setPiece_64 : decode cX3_setPiece 64 = .ok (.aload_n 0, 1) := by decide +kernel
theorem dX3_setPiece_65 : decode cX3_setPiece 65 = .ok (.getfield 29, 3) := by decide +kernel
theorem dX3_setPiece_68 : decode cX3_setPiece 68 = .ok (.iconst 1, 1) := by decide +kernel
theorem dX3_setPiece_69 : decode cX3_setPiece 69 = .ok (.aload_n 0, 1) := by decide +kernel
theorem dX3_setPiece_70 : decode cX3_setPiece 70 = .ok (.getfield 42, 3) := by decide +kernel
theorem dX3_setPiece_73 : decode cX3_setPiece 73 = .ok (.iadd, 1) := by decide +kernel
theorem dX3_setPiece_74 : decode cX3_setPiece 74 = .ok (.iload_n 3, 1) := by decide +kernel
theorem dX3_setPiece_75 : decode cX3_setPiece 75 = .ok (.iastore, 1) := by decide +kernel
theorem dX3_setPiece_76 : decode cX3_setPiece 76 = .ok (.aload_n 0, 1) := by decide +kernel
theorem dX3_setPiece_77 : decode cX3_setPiece 77 = .ok (.dup, 1) := by decide +kernel
theorem dX3_setPiece_78 : decode cX3_setPiece 78 = .ok (.getfield 42, 3) := by decide +kernel
theorem dX3_setPiece_81 : decode cX3_setPiece 81 = .ok (.iconst 1, 1) := by decide +kernel
theorem dX3_setPiece_82 : decode cX3_setPiece 82 = .ok (.iadd, 1) := by decide +kernel
theorem dX3_setPiece_83 : decode cX3_setPiece 83 = .ok (.putfield 42, 3) := by decide +kernel
theorem dX3_setPiece_86 : decode cX3_setPiece 86 = .ok (.aload_n 0, 1) := by decide +kernel
theorem dX3_setPiece_87 : decode cX3_setPiece 87 = .ok (.getfield 42, 3) := by decide +kernel
theorem dX3_setPiece_90 : decode cX3_setPiece 90 = .ok (.iconst 1, 1) := by decide +kernel
theorem dX3_setPiece_91 : decode cX3_setPiece 91 = .ok (.isub, 1) := by decide +kernel
theorem dX3_setPiece_92 : decode cX3_setPiece 92 = .ok (.ireturn, 1) := by decide +kernel
theorem dX3_paw_0 : decode cX3_paw 0 = .ok (.aload_n 0, 1) := by decide +kernel
theorem dX3_paw_1 : decode cX3_paw 1 = .ok (.iconst 0, 1) := by decide +kernel
theorem dX3_paw_2 : decode cX3_paw 2 = .ok (.putfield 35, 3) := by decide +kernel
theorem dX3_paw_5 : decode cX3_paw 5 = .ok (.iload_n 1, 1) := by decide +kernel
theorem dX3_paw_6 : decode cX3_paw 6 = .ok (.iload_n 2, 1) := by decide +kernel
theorem dX3_paw_7 : decode cX3_paw 7 = .ok (.invokestatic 104, 3) := by decide +kernel
theorem dX3_paw_10 : decode cX3_paw 10 = .ok (.ifCond .ne 9, 3) := by decide +kernel
theorem dX3_paw_13 : decode cX3_paw 13 = .ok (.aload_n 0, 1) := by decide +kernel
theorem dX3_paw_14 : decode cX3_paw 14 = .ok (.iconst 1, 1) := by decide +kernel
theorem dX3_paw_15 : decode cX3_paw 15 = .ok (.invokevirtual 101, 3) := by decide +kernel
theorem dX3_paw_18 : decode cX3_paw 18 = .ok (.ireturn, 1) := by decide +kernel
theorem dX3_paw_19 : decode cX3_paw 19 = .ok (.aload_n 0, 1) := by decide +kernel
theorem dX3_paw_20 : decode cX3_paw 20 = .ok (.iload_n 1, 1) := by decide +kernel
theorem dX3_paw_21 : decode cX3_paw 21 = .ok (.iload_n 2, 1) := by decide +kernel
theorem dX3_paw_22 : decode cX3_paw 22 = .ok (.invokevirtual 107, 3) := by decide +kernel
theorem dX3_paw_25 : decode cX3_paw 25 = .ok (.ifCond .eq 12, 3) := by decide +kernel
theorem dX3_paw_28 : decode cX3_paw 28 = .ok (.aload_n 0, 1) := by decide +kernel
theorem dX3_paw_29 : decode cX3_paw 29 = .ok (.getfield 9, 3) := by decide +kernel
theorem dX3_paw_32 : decode cX3_paw 32 = .ok (.bipush 60, 2) := by decide +kernel
theorem dX3_paw_34 : decode cX3_paw 34 = .ok (.if_icmp .ne 9, 3) := by decide +kernel
theorem dX3_paw_37 : decode cX3_paw 37 = .ok (.aload_n 0, 1) := by decide +kernel
theorem dX3_paw_38 : decode cX3_paw 38 = .ok (.iconst 2, 1) := by decide +kernel
theorem dX3_paw_39 : decode cX3_paw 39 = .ok (.invokevirtual 101, 3) := by decide +kernel
theorem dX3_paw_42 : decode cX3_paw 42 = .ok (.ireturn, 1) := by decide +kernel
theorem dX3_paw_43 : decode cX3_paw 43 = .ok (.aload_n 0, 1) := by decide +kernel
theorem dX3_paw_44 : decode cX3_paw 44 = .ok (.getfield 32, 3) := by decide +kernel
theorem dX3_paw_47 : decode cX3_paw 47 = .ok (.iconst 0, 1) := by decide +kernel
theorem dX3_paw_48 : decode cX3_paw 48 = .ok (.aload_n 0, 1) := by decide +kernel
theorem dX3_paw_49 : decode cX3_paw 49 = .ok (.getfield 29, 3) := by decide +kernel
theorem dX3_paw_52 : decode cX3_paw 52 = .ok (.bipush 17, 2) := by decide +kernel
theorem dX3_paw_54 : decode cX3_paw 54 = .ok (.aload_n 0, 1) := by decide +kernel
theorem dX3_paw_55 : decode cX3_paw 55 = .ok (.getfield 9, 3) := by decide +kernel
theorem dX3_paw_58 : decode cX3_paw 58 = .ok (.imul, 1) := by decide +kernel
theorem dX3_paw_59 : decode cX3_paw 59 = .ok (.bipush 17, 2) := by decide +kernel
theorem dX3_paw_61 : decode cX3_paw 61 = .ok (.invokestatic 85, 3) := by decide +kernel
theorem dX3_paw_64 : decode cX3_paw 64 = .ok (.aload_n 0, 1) := by decide +kernel
theorem dX3_paw_65 : decode cX3_paw 65 = .ok (.getfield 13, 3) := by decide +kernel
theorem dX3_paw_68 : decode cX3_paw 68 = .ok (.aload_n 0, 1) := by decide +kernel
theorem dX3_paw_69 : decode cX3_paw 69 = .ok (.getfield 9, 3) := by decide +kernel
theorem dX3_paw_72 : decode cX3_paw 72 = .ok (.aload_n 0, 1) := by decide +kernel
theorem dX3_paw_73 : decode cX3_paw 73 = .ok (.getfield 45, 3) := by decide +kernel
theorem dX3_paw_76 : decode cX3_paw 76 = .ok (.iastore, 1) := by decide +kernel
theorem dX3_paw_77 : decode cX3_paw 77 = .ok (.aload_n 0, 1) := by decide +kernel
theorem dX3_paw_78 : decode cX3_paw 78 = .ok (.getfield 17, 3) := by decide +kernel
theorem dX3_paw_81 : decode cX3_paw 81 = .ok (.aload_n 0, 1) := by decide +kernel
theorem dX3_paw_82 : decode cX3_paw 82 = .ok (.getfield 9, 3) := by decide +kernel
theorem dX3_paw_85 : decode cX3_paw 85 = .ok (.iload_n 1, 1) := by decide +kernel
theorem dX3_paw_86 : decode cX3_paw 86 = .ok (.iastore, 1) := by decide +kernel
theorem dX3_paw_87 : decode cX3_paw 87 = .ok (.aload_n 0, 1) := by decide +kernel
theorem dX3_paw_88 : decode cX3_paw 88 = .ok (.getfield 20, 3) := by decide +kernel
theorem dX3_paw_91 : decode cX3_paw 91 = .ok (.aload_n 0, 1) := by decide +kernel
theorem dX3_paw_92 : decode cX3_paw 92 = .ok (.getfield 9, 3) := by decide +kernel
theorem dX3_paw_95 : decode cX3_paw 95 = .ok (.iload_n 2, 1) := by decide +kernel
theorem dX3_paw_96 : decode cX3_paw 96 = .ok (.iastore, 1) := by decide +kernel
theorem dX3_paw_97 : decode cX3_paw 97 = .ok (.aload_n 0, 1) := by decide +kernel
theorem dX3_paw_98 : decode cX3_paw 98 = .ok (.getfield 23, 3) := by decide +kernel
theorem dX3_paw_101 : decode cX3_paw 101 = .ok (.aload_n 0, 1) := by decide +kernel
theorem dX3_paw_102 : decode cX3_paw 102 = .ok (.getfield 9, 3) := by decide +kernel
theorem dX3_paw_105 : decode cX3_paw 105 = .ok (.aload_n 0, 1) := by decide +kernel
theorem dX3_paw_106 : decode cX3_paw 106 = .ok (.getfield 23, 3) := by decide +kernel
theorem dX3_paw_109 : decode cX3_paw 109 = .ok (.aload_n 0, 1) := by decide +kernel
theorem dX3_paw_110 : decode cX3_paw 110 = .ok (.getfield 45, 3) := by decide +kernel
theorem dX3_paw_113 : decode cX3_paw 113 = .ok (.iaload, 1) := by decide +kernel
theorem dX3_paw_114 : decode cX3_paw 114 = .ok (.iconst 1, 1) := by decide +kernel
theorem dX3_paw_115 : decode cX3_paw 115 = .ok (.iadd, 1) := by decide +kernel
theorem dX3_paw_116 : decode cX3_paw 116 = .ok (.iastore, 1) := by decide +kernel
theorem dX3_paw_117 : decode cX3_paw 117 = .ok (.aload_n 0, 1) := by decide +kernel
theorem dX3_paw_118 : decode cX3_paw 118 = .ok (.getfield 26, 3) := by decide +kernel
theorem dX3_paw_121 : decode cX3_paw 121 = .ok (.aload_n 0, 1) := by decide +kernel
theorem dX3_paw_122 : decode cX3_paw 122 = .ok (.getfield 9, 3) := by decide +kernel
theorem dX3_paw_125 : decode cX3_paw 125 = .ok (.iconst (-1), 1) := by decide +kernel
theorem dX3_paw_126 : decode cX3_paw 126 = .ok (.iastore, 1) := by decide +kernel
theorem dX3_paw_127 : decode cX3_paw 127 = .ok (.aload_n 0, 1) := by decide +kernel
theorem dX3_paw_128 : decode cX3_paw 128 = .ok (.getfield 26, 3) := by decide +kernel
theorem dX3_paw_131 : decode cX3_paw 131 = .ok (.aload_n 0, 1) := by decide +kernel
theorem dX3_paw_132 : decode cX3_paw 132 = .ok (.getfield 45, 3) := by decide +kernel
theorem dX3_paw_135 : decode cX3_paw 135 = .ok (.aload_n 0, 1) := by decide +kernel
theorem dX3_paw_136 : decode cX3_paw 136 = .ok (.getfield 9, 3) := by decide +kernel
theorem dX3_paw_139 : decode cX3_paw 139 = .ok (.iastore, 1) := by decide +kernel
theorem dX3_paw_140 : decode cX3_paw 140 = .ok (.aload_n 0, 1) := by decide +kernel
theorem dX3_paw_141 : decode cX3_paw 141 = .ok (.aload_n 0, 1) := by decide +kernel
theorem dX3_paw_142 : decode cX3_paw 142 = .ok (.getfield 9, 3) := by decide +kernel
theorem dX3_paw_145 : decode cX3_paw 145 = .ok (.putfield 45, 3) := by decide +kernel
theorem dX3_paw_148 : decode cX3_paw 148 = .ok (.aload_n 0, 1) := by decide +kernel
theorem dX3_paw_149 : decode cX3_paw 149 = .ok (.dup, 1) := by decide +kernel
theorem dX3_paw_150 : decode cX3_paw 150 = .ok (.getfield 9, 3) := by decide +kernel
theorem dX3_paw_153 : decode cX3_paw 153 = .ok (.iconst 1, 1) := by decide +kernel
theorem dX3_paw_154 : decode cX3_paw 154 = .ok (.iadd, 1) := by decide +kernel
theorem dX3_paw_155 : decode cX3_paw 155 = .ok (.putfield 9, 3) := by decide +kernel
theorem dX3_paw_158 : decode cX3_paw 158 = .ok (.aload_n 0, 1) := by decide +kernel
theorem dX3_paw_159 : decode cX3_paw 159 = .ok (.getfield 45, 3) := by decide +kernel
theorem dX3_paw_162 : decode cX3_paw 162 = .ok (.ireturn, 1) := by decide +kernel
theorem dX3_undo_0 : decode cX3_undo 0 = .ok (.aload_n 0, 1) := by decide +kernel
theorem dX3_undo_1 : decode cX3_undo 1 = .ok (.iconst 0, 1) := by decide +kernel
theorem dX3_undo_2 : decode cX3_undo 2 = .ok (.putfield 35, 3) := by decide +kernel
theorem dX3_undo_5 : decode cX3_undo 5 = .ok (.iload_n 1, 1) := by decide +kernel
theorem dX3_undo_6 : decode cX3_undo 6 = .ok (.iconst 1, 1) := by decide +kernel
theorem dX3_undo_7 : decode cX3_undo 7 = .ok (.bipush 60, 2) := by decide +kernel
theorem dX3_undo_9 : decode cX3_undo 9 = .ok (.invokestatic 38, 3) := by decide +kernel
theorem dX3_undo_12 : decode cX3_undo 12 = .ok (.ifCond .ne 9, 3) := by decide +kernel
theorem dX3_undo_15 : decode cX3_undo 15 = .ok (.aload_n 0, 1) := by decide +kernel
theorem dX3_undo_16 : decode cX3_undo 16 = .ok (.iconst 1, 1) := by decide +kernel
theorem dX3_undo_17 : decode cX3_undo 17 = .ok (.invokevirtual 101, 3) := by decide +kernel
theorem dX3_undo_20 : decode cX3_undo 20 = .ok (.ireturn, 1) := by decide +kernel
theorem dX3_undo_21 : decode cX3_undo 21 = .ok (.aload_n 0, 1) := by decide +kernel
theorem dX3_undo_22 : decode cX3_undo 22 = .ok (.getfield 23, 3) := by decide +kernel
theorem dX3_undo_25 : decode cX3_undo 25 = .ok (.aload_n 0, 1) := by decide +kernel
theorem dX3_undo_26 : decode cX3_undo 26 = .ok (.getfield 45, 3) := by decide +kernel
theorem dX3_undo_29 : decode cX3_undo 29 = .ok (.iaload, 1) := by decide +kernel
theorem dX3_undo_30 : decode cX3_undo 30 = .ok (.iload_n 1, 1) := by decide +kernel
theorem dX3_undo_31 : decode cX3_undo 31 = .ok (.if_icmp .ge 9, 3) := by decide +kernel
theorem dX3_undo_34 : decode cX3_undo 34 = .ok (.aload_n 0, 1) := by decide +kernel
theorem dX3_undo_35 : decode cX3_undo 35 = .ok (.iconst 2, 1) := by decide +kernel
theorem dX3_undo_36 : decode cX3_undo 36 = .ok (.invokevirtual 101, 3) := by decide +kernel
theorem dX3_undo_39 : decode cX3_undo 39 = .ok (.ireturn, 1) := by decide +kernel
theorem dX3_undo_40 : decode cX3_undo 40 = .ok (.iconst 0, 1) := by decide +kernel
theorem dX3_undo_41 : decode cX3_undo 41 = .ok (.istore_n 2, 1) := by decide +kernel
theorem dX3_undo_42 : decode cX3_undo 42 = .ok (.iload_n 2, 1) := by decide +kernel
theorem dX3_undo_43 : decode cX3_undo 43 = .ok (.iload_n 1, 1) := by decide +kernel
theorem dX3_undo_44 : decode cX3_undo 44 = .ok (.if_icmp .ge 22, 3) := by decide +kernel
theorem dX3_undo_47 : decode cX3_undo 47 = .ok (.aload_n 0, 1) := by decide +kernel
theorem dX3_undo_48 : decode cX3_undo 48 = .ok (.aload_n 0, 1) := by decide +kernel
theorem dX3_undo_49 : decode cX3_undo 49 = .ok (.getfield 13, 3) := by decide +kernel
theorem dX3_undo_52 : decode cX3_undo 52 = .ok (.aload_n 0, 1) := by decide +kernel
theorem dX3_undo_53 : decode cX3_undo 53 = .ok (.getfield 45, 3) := by decide +kernel
theorem dX3_undo_56 : decode cX3_undo 56 = .ok (.iaload, 1) := by decide +kernel
theorem dX3_undo_57 : decode cX3_undo 57 = .ok (.putfield 45, 3) := by decide +kernel
theorem dX3_undo_60 : decode cX3_undo 60 = .ok (.iinc 2 1, 3) := by decide +kernel
theorem dX3_undo_63 : decode cX3_undo 63 = .ok (.goto (-21), 3) := by decide +kernel
theorem dX3_undo_66 : decode cX3_undo 66 = .ok (.aload_n 0, 1) := by decide +kernel
theorem dX3_undo_67 : decode cX3_undo 67 = .ok (.getfield 45, 3) := by decide +kernel
theorem dX3_undo_70 : decode cX3_undo 70 = .ok (.ireturn, 1) := by decide +kernel
theorem dX3_redo_0 : decode cX3_redo 0 = .ok (.aload_n 0, 1) := by decide +kernel
theorem dX3_redo_1 : decode cX3_redo 1 = .ok (.iconst 0, 1) := by decide +kernel
theorem dX3_redo_2 : decode cX3_redo 2 = .ok (.putfield 35, 3) := by decide +kernel
theorem dX3_redo_5 : decode cX3_redo 5 = .ok (.iload_n 1, 1) := by decide +kernel
theorem dX3_redo_6 : decode cX3_redo 6 = .ok (.iconst 1, 1) := by decide +kernel
theorem dX3_redo_7 : decode cX3_redo 7 = .ok (.bipush 60, 2) := by decide +kernel
theorem dX3_redo_9 : decode cX3_redo 9 = .ok (.invokestatic 38, 3) := by decide +kernel
theorem dX3_redo_12 : decode cX3_redo 12 = .ok (.ifCond .ne 9, 3) := by decide +kernel
theorem dX3_redo_15 : decode cX3_redo 15 = .ok (.aload_n 0, 1) := by decide +kernel
theorem dX3_redo_16 : decode cX3_redo 16 = .ok (.iconst 1, 1) := by decide +kernel
theorem dX3_redo_17 : decode cX3_redo 17 = .ok (.invokevirtual 101, 3) := by decide +kernel
theorem dX3_redo_20 : decode cX3_redo 20 = .ok (.ireturn, 1) := by decide +kernel
theorem dX3_redo_21 : decode cX3_redo 21 = .ok (.aload_n 0, 1) := by decide +kernel
theorem dX3_redo_22 : decode cX3_redo 22 = .ok (.getfield 45, 3) := by decide +kernel
theorem dX3_redo_25 : decode cX3_redo 25 = .ok (.istore_n 2, 1) := by decide +kernel
theorem dX3_redo_26 : decode cX3_redo 26 = .ok (.iconst 0, 1) := by decide +kernel
theorem dX3_redo_27 : decode cX3_redo 27 = .ok (.istore_n 3, 1) := by decide +kernel
theorem dX3_redo_28 : decode cX3_redo 28 = .ok (.iload_n 3, 1) := by decide +kernel
theorem dX3_redo_29 : decode cX3_redo 29 = .ok (.iload_n 1, 1) := by decide +kernel
theorem dX3_redo_30 : decode cX3_redo 30 = .ok (.if_icmp .ge 21, 3) := by decide +kernel
theorem dX3_redo_33 : decode cX3_redo 33 = .ok (.iload_n 2, 1) := by decide +kernel
theorem dX3_redo_34 : decode cX3_redo 34 = .ok (.iconst (-1), 1) := by decide +kernel
theorem dX3_redo_35 : decode cX3_redo 35 = .ok (.if_icmp .eq 16, 3) := by decide +kernel
theorem dX3_redo_38 : decode cX3_redo 38 = .ok (.aload_n 0, 1) := by decide +kernel
theorem dX3_redo_39 : decode cX3_redo 39 = .ok (.getfield 26, 3) := by decide +kernel
theorem dX3_redo_42 : decode cX3_redo 42 = .ok (.iload_n 2, 1) := by decide +kernel
theorem dX3_redo_43 : decode cX3_redo 43 = .ok (.iaload, 1) := by decide +kernel
theorem dX3_redo_44 : decode cX3_redo 44 = .ok (.istore_n 2, 1) := by decide +kernel
theorem dX3_redo_45 : decode cX3_redo 45 = .ok (.iinc 3 1, 3) := by decide +kernel
theorem dX3_redo_48 : decode cX3_redo 48 = .ok (.goto (-20), 3) := by decide +kernel
theorem dX3_redo_51 : decode cX3_redo 51 = .ok (.iload_n 2, 1) := by decide +kernel
theorem dX3_redo_52 : decode cX3_redo 52 = .ok (.iconst (-1), 1) := by decide +kernel
theorem dX3_redo_53 : decode cX3_redo 53 = .ok (.if_icmp .ne 9, 3) := by decide +kernel
theorem dX3_redo_56 : decode cX3_redo 56 = .ok (.aload_n 0, 1) := by decide +kernel
theorem dX3_redo_57 : decode cX3_redo 57 = .ok (.iconst 2, 1) := by decide +kernel
theorem dX3_redo_58 : decode cX3_redo 58 = .ok (.invokevirtual 101, 3) := by decide +kernel
theorem dX3_redo_61 : decode cX3_redo 61 = .ok (.ireturn, 1) := by decide +kernel
theorem dX3_redo_62 : decode cX3_redo 62 = .ok (.aload_n 0, 1) := by decide +kernel
theorem dX3_redo_63 : decode cX3_redo 63 = .ok (.iload_n 2, 1) := by decide +kernel
theorem dX3_redo_64 : decode cX3_redo 64 = .ok (.putfield 45, 3) := by decide +kernel
theorem dX3_redo_67 : decode cX3_redo 67 = .ok (.aload_n 0, 1) := by decide +kernel
theorem dX3_redo_68 : decode cX3_redo 68 = .ok (.getfield 45, 3) := by decide +kernel
theorem dX3_redo_71 : decode cX3_redo 71 = .ok (.ireturn, 1) := by decide +kernel
theorem dX3_meeting_0 : decode cX3_meeting 0 = .ok (.iload_n 1, 1) := by decide +kernel
theorem dX3_meeting_1 : decode cX3_meeting 1 = .ok (.istore_n 3, 1) := by decide +kernel
theorem dX3_meeting_2 : decode cX3_meeting 2 = .ok (.iload_n 2, 1) := by decide +kernel
theorem dX3_meeting_3 : decode cX3_meeting 3 = .ok (.istore 4, 2) := by decide +kernel
theorem dX3_meeting_5 : decode cX3_meeting 5 = .ok (.iload_n 3, 1) := by decide +kernel
theorem dX3_meeting_6 : decode cX3_meeting 6 = .ok (.iload 4, 2) := by decide +kernel
theorem dX3_meeting_8 : decode cX3_meeting 8 = .ok (.if_icmp .eq 41, 3) := by decide +kernel
theorem dX3_meeting_11 : decode cX3_meeting 11 = .ok (.aload_n 0, 1) := by decide +kernel
theorem dX3_meeting_12 : decode cX3_meeting 12 = .ok (.getfield 23, 3) := by decide +kernel
theorem dX3_meeting_15 : decode cX3_meeting 15 = .ok (.iload_n 3, 1) := by decide +kernel
theorem dX3_meeting_16 : decode cX3_meeting 16 = .ok (.iaload, 1) := by decide +kernel
theorem dX3_meeting_17 : decode cX3_meeting 17 = .ok (.aload_n 0, 1) := by decide +kernel
theorem dX3_meeting_18 : decode cX3_meeting 18 = .ok (.getfield 23, 3) := by decide +kernel
theorem dX3_meeting_21 : decode cX3_meeting 21 = .ok (.iload 4, 2) := by decide +kernel
theorem dX3_meeting_23 : decode cX3_meeting 23 = .ok (.iaload, 1) := by decide +kernel
theorem dX3_meeting_24 : decode cX3_meeting 24 = .ok (.if_icmp .lt 13, 3) := by decide +kernel
theorem dX3_meeting_27 : decode cX3_meeting 27 = .ok (.aload_n 0, 1) := by decide +kernel
theorem dX3_meeting_28 : decode cX3_meeting 28 = .ok (.getfield 13, 3) := by decide +kernel
theorem dX3_meeting_31 : decode cX3_meeting 31 = .ok (.iload_n 3, 1) := by decide +kernel
theorem dX3_meeting_32 : decode cX3_meeting 32 = .ok (.iaload, 1) := by decide +kernel
theorem dX3_meeting_33 : decode cX3_meeting 33 = .ok (.istore_n 3, 1) := by decide +kernel
theorem dX3_meeting_34 : decode cX3_meeting 34 = .ok (.goto (-29), 3) := by decide +kernel
theorem dX3_meeting_37 : decode cX3_meeting 37 = .ok (.aload_n 0, 1) := by decide +kernel
theorem dX3_meeting_38 : decode cX3_meeting 38 = .ok (.getfield 13, 3) := by decide +kernel
theorem dX3_meeting_41 : decode cX3_meeting 41 = .ok (.iload 4, 2) := by decide +kernel
theorem dX3_meeting_43 : decode cX3_meeting 43 = .ok (.iaload, 1) := by decide +kernel
theorem dX3_meeting_44 : decode cX3_meeting 44 = .ok (.istore 4, 2) := by decide +kernel
theorem dX3_meeting_46 : decode cX3_meeting 46 = .ok (.goto (-41), 3) := by decide +kernel
theorem dX3_meeting_49 : decode cX3_meeting 49 = .ok (.iload_n 3, 1) := by decide +kernel
theorem dX3_meeting_50 : decode cX3_meeting 50 = .ok (.ireturn, 1) := by decide +kernel
theorem dX3_way_0 : decode cX3_way 0 = .ok (.aload_n 0, 1) := by decide +kernel
theorem dX3_way_1 : decode cX3_way 1 = .ok (.getfield 23, 3) := by decide +kernel
theorem dX3_way_4 : decode cX3_way 4 = .ok (.iload_n 1, 1) := by decide +kernel
theorem dX3_way_5 : decode cX3_way 5 = .ok (.iaload, 1) := by decide +kernel
theorem dX3_way_6 : decode cX3_way 6 = .ok (.aload_n 0, 1) := by decide +kernel
theorem dX3_way_7 : decode cX3_way 7 = .ok (.getfield 23, 3) := by decide +kernel
theorem dX3_way_10 : decode cX3_way 10 = .ok (.iload_n 2, 1) := by decide +kernel
theorem dX3_way_11 : decode cX3_way 11 = .ok (.iaload, 1) := by decide +kernel
theorem dX3_way_12 : decode cX3_way 12 = .ok (.iadd, 1) := by decide +kernel
theorem dX3_way_13 : decode cX3_way 13 = .ok (.iconst 2, 1) := by decide +kernel
theorem dX3_way_14 : decode cX3_way 14 = .ok (.aload_n 0, 1) := by decide +kernel
theorem dX3_way_15 : decode cX3_way 15 = .ok (.getfield 23, 3) := by decide +kernel
theorem dX3_way_18 : decode cX3_way 18 = .ok (.aload_n 0, 1) := by decide +kernel
theorem dX3_way_19 : decode cX3_way 19 = .ok (.iload_n 1, 1) := by decide +kernel
theorem dX3_way_20 : decode cX3_way 20 = .ok (.iload_n 2, 1) := by decide +kernel
theorem dX3_way_21 : decode cX3_way 21 = .ok (.invokevirtual 110, 3) := by decide +kernel
theorem dX3_way_24 : decode cX3_way 24 = .ok (.iaload, 1) := by decide +kernel
theorem dX3_way_25 : decode cX3_way 25 = .ok (.imul, 1) := by decide +kernel
theorem dX3_way_26 : decode cX3_way 26 = .ok (.isub, 1) := by decide +kernel
theorem dX3_way_27 : decode cX3_way 27 = .ok (.ireturn, 1) := by decide +kernel
theorem dX3_goTo_0 : decode cX3_goTo 0 = .ok (.aload_n 0, 1) := by decide +kernel
theorem dX3_goTo_1 : decode cX3_goTo 1 = .ok (.iconst 0, 1) := by decide +kernel
theorem dX3_goTo_2 : decode cX3_goTo 2 = .ok (.putfield 35, 3) := by decide +kernel
theorem dX3_goTo_5 : decode cX3_goTo 5 = .ok (.aload_n 0, 1) := by decide +kernel
theorem dX3_goTo_6 : decode cX3_goTo 6 = .ok (.iload_n 1, 1) := by decide +kernel
theorem dX3_goTo_7 : decode cX3_goTo 7 = .ok (.invokevirtual 113, 3) := by decide +kernel
theorem dX3_goTo_10 : decode cX3_goTo 10 = .ok (.ifCond .ne 9, 3) := by decide +kernel
theorem dX3_goTo_13 : decode cX3_goTo 13 = .ok (.aload_n 0, 1) := by decide +kernel
theorem dX3_goTo_14 : decode cX3_goTo 14 = .ok (.iconst 1, 1) := by decide +kernel
theorem dX3_goTo_15 : decode cX3_goTo 15 = .ok (.invokevirtual 101, 3) := by decide +kernel
theorem dX3_goTo_18 : decode cX3_goTo 18 = .ok (.ireturn, 1) := by decide +kernel
theorem dX3_goTo_19 : decode cX3_goTo 19 = .ok (.aload_n 0, 1) := by decide +kernel
theorem dX3_goTo_20 : decode cX3_goTo 20 = .ok (.aload_n 0, 1) := by decide +kernel
theorem dX3_goTo_21 : decode cX3_goTo 21 = .ok (.getfield 45, 3) := by decide +kernel
theorem dX3_goTo_24 : decode cX3_goTo 24 = .ok (.iload_n 1, 1) := by decide +kernel
theorem dX3_goTo_25 : decode cX3_goTo 25 = .ok (.invokevirtual 116, 3) := by decide +kernel
theorem dX3_goTo_28 : decode cX3_goTo 28 = .ok (.istore_n 2, 1) := by decide +kernel
theorem dX3_goTo_29 : decode cX3_goTo 29 = .ok (.aload_n 0, 1) := by decide +kernel
theorem dX3_goTo_30 : decode cX3_goTo 30 = .ok (.aload_n 0, 1) := by decide +kernel
theorem dX3_goTo_31 : decode cX3_goTo 31 = .ok (.getfield 45, 3) := by decide +kernel
theorem dX3_goTo_34 : decode cX3_goTo 34 = .ok (.iload_n 1, 1) := by decide +kernel
theorem dX3_goTo_35 : decode cX3_goTo 35 = .ok (.invokevirtual 110, 3) := by decide +kernel
theorem dX3_goTo_38 : decode cX3_goTo 38 = .ok (.istore_n 3, 1) := by decide +kernel
theorem dX3_goTo_39 : decode cX3_goTo 39 = .ok (.iload_n 1, 1) := by decide +kernel
theorem dX3_goTo_40 : decode cX3_goTo 40 = .ok (.istore 4, 2) := by decide +kernel
theorem dX3_goTo_42 : decode cX3_goTo 42 = .ok (.iload 4, 2) := by decide +kernel
theorem dX3_goTo_44 : decode cX3_goTo 44 = .ok (.iload_n 3, 1) := by decide +kernel
theorem dX3_goTo_45 : decode cX3_goTo 45 = .ok (.if_icmp .eq 29, 3) := by decide +kernel
theorem dX3_goTo_48 : decode cX3_goTo 48 = .ok (.aload_n 0, 1) := by decide +kernel
theorem dX3_goTo_49 : decode cX3_goTo 49 = .ok (.getfield 26, 3) := by decide +kernel
theorem dX3_goTo_52 : decode cX3_goTo 52 = .ok (.aload_n 0, 1) := by decide +kernel
theorem dX3_goTo_53 : decode cX3_goTo 53 = .ok (.getfield 13, 3) := by decide +kernel
theorem dX3_goTo_56 : decode cX3_goTo 56 = .ok (.iload 4, 2) := by decide +kernel
theorem dX3_goTo_58 : decode cX3_goTo 58 = .ok (.iaload, 1) := by decide +kernel
theorem dX3_goTo_59 : decode cX3_goTo 59 = .ok (.iload 4, 2) := by decide +kernel
theorem dX3_goTo_61 : decode cX3_goTo 61 = .ok (.iastore, 1) := by decide +kernel
theorem dX3_goTo_62 : decode cX3_goTo 62 = .ok (.aload_n 0, 1) := by decide +kernel
theorem dX3_goTo_63 : decode cX3_goTo 63 = .ok (.getfield 13, 3) := by decide +kernel
theorem dX3_goTo_66 : decode cX3_goTo 66 = .ok (.iload 4, 2) := by decide +kernel
theorem dX3_goTo_68 : decode cX3_goTo 68 = .ok (.iaload, 1) := by decide +kernel
theorem dX3_goTo_69 : decode cX3_goTo 69 = .ok (.istore 4, 2) := by decide +kernel
theorem dX3_goTo_71 : decode cX3_goTo 71 = .ok (.goto (-29), 3) := by decide +kernel
theorem dX3_goTo_74 : decode cX3_goTo 74 = .ok (.aload_n 0, 1) := by decide +kernel
theorem dX3_goTo_75 : decode cX3_goTo 75 = .ok (.iload_n 1, 1) := by decide +kernel
theorem dX3_goTo_76 : decode cX3_goTo 76 = .ok (.putfield 45, 3) := by decide +kernel
theorem dX3_goTo_79 : decode cX3_goTo 79 = .ok (.iload_n 2, 1) := by decide +kernel
theorem dX3_goTo_80 : decode cX3_goTo 80 = .ok (.ireturn, 1) := by decide +kernel
theorem dX3_evening_0 : decode cX3_evening 0 = .ok (.aload_n 0, 1) := by decide +kernel
theorem dX3_evening_1 : decode cX3_evening 1 = .ok (.aload_n 0, 1) := by decide +kernel
theorem dX3_evening_2 : decode cX3_evening 2 = .ok (.getfield 45, 3) := by decide +kernel
theorem dX3_evening_5 : decode cX3_evening 5 = .ok (.invokevirtual 119, 3) := by decide +kernel
theorem dX3_evening_8 : decode cX3_evening 8 = .ok (.ireturn, 1) := by decide +kernel
theorem dX3_evenings_0 : decode cX3_evenings 0 = .ok (.aload_n 0, 1) := by decide +kernel
theorem dX3_evenings_1 : decode cX3_evenings 1 = .ok (.aload_n 0, 1) := by decide +kernel
theorem dX3_evenings_2 : decode cX3_evenings 2 = .ok (.getfield 9, 3) := by decide +kernel
theorem dX3_evenings_5 : decode cX3_evenings 5 = .ok (.invokevirtual 119, 3) := by decide +kernel
theorem dX3_evenings_8 : decode cX3_evenings 8 = .ok (.ireturn, 1) := by decide +kernel
theorem dX3_pieces_0 : decode cX3_pieces 0 = .ok (.aload_n 0, 1) := by decide +kernel
theorem dX3_pieces_1 : decode cX3_pieces 1 = .ok (.aload_n 0, 1) := by decide +kernel
theorem dX3_pieces_2 : decode cX3_pieces 2 = .ok (.getfield 42, 3) := by decide +kernel
theorem dX3_pieces_5 : decode cX3_pieces 5 = .ok (.invokevirtual 119, 3) := by decide +kernel
theorem dX3_pieces_8 : decode cX3_pieces 8 = .ok (.ireturn, 1) := by decide +kernel
theorem dX3_catColumn_0 : decode cX3_catColumn 0 = .ok (.aload_n 0, 1) := by decide +kernel
theorem dX3_catColumn_1 : decode cX3_catColumn 1 = .ok (.aload_n 0, 1) := by decide +kernel
theorem dX3_catColumn_2 : decode cX3_catColumn 2 = .ok (.invokevirtual 68, 3) := by decide +kernel
theorem dX3_catColumn_5 : decode cX3_catColumn 5 = .ok (.bipush 8, 2) := by decide +kernel
theorem dX3_catColumn_7 : decode cX3_catColumn 7 = .ok (.idiv, 1) := by decide +kernel
theorem dX3_catColumn_8 : decode cX3_catColumn 8 = .ok (.invokevirtual 119, 3) := by decide +kernel
theorem dX3_catColumn_11 : decode cX3_catColumn 11 = .ok (.ireturn, 1) := by decide +kernel
theorem dX3_catRow_0 : decode cX3_catRow 0 = .ok (.aload_n 0, 1) := by decide +kernel
theorem dX3_catRow_1 : decode cX3_catRow 1 = .ok (.aload_n 0, 1) := by decide +kernel
theorem dX3_catRow_2 : decode cX3_catRow 2 = .ok (.invokevirtual 68, 3) := by decide +kernel
theorem dX3_catRow_5 : decode cX3_catRow 5 = .ok (.bipush 8, 2) := by decide +kernel
theorem dX3_catRow_7 : decode cX3_catRow 7 = .ok (.irem, 1) := by decide +kernel
theorem dX3_catRow_8 : decode cX3_catRow 8 = .ok (.invokevirtual 119, 3) := by decide +kernel
theorem dX3_catRow_11 : decode cX3_catRow 11 = .ok (.ireturn, 1) := by decide +kernel
theorem dX3_lying_0 : decode cX3_lying 0 = .ok (.aload_n 0, 1) := by decide +kernel
theorem dX3_lying_1 : decode cX3_lying 1 = .ok (.aload_n 0, 1) := by decide +kernel
theorem dX3_lying_2 : decode cX3_lying 2 = .ok (.aload_n 0, 1) := by decide +kernel
theorem dX3_lying_3 : decode cX3_lying 3 = .ok (.getfield 45, 3) := by decide +kernel
theorem dX3_lying_6 : decode cX3_lying 6 = .ok (.aload_n 0, 1) := by decide +kernel
theorem dX3_lying_7 : decode cX3_lying 7 = .ok (.getfield 42, 3) := by decide +kernel
theorem dX3_lying_10 : decode cX3_lying 10 = .ok (.invokevirtual 122, 3) := by decide +kernel
theorem dX3_lying_13 : decode cX3_lying 13 = .ok (.invokevirtual 119, 3) := by decide +kernel
theorem dX3_lying_16 : decode cX3_lying 16 = .ok (.ireturn, 1) := by decide +kernel
theorem dX3_placeOf_0 : decode cX3_placeOf 0 = .ok (.aload_n 0, 1) := by decide +kernel
theorem dX3_placeOf_1 : decode cX3_placeOf 1 = .ok (.iconst 0, 1) := by decide +kernel
theorem dX3_placeOf_2 : decode cX3_placeOf 2 = .ok (.putfield 35, 3) := by decide +kernel
theorem dX3_placeOf_5 : decode cX3_placeOf 5 = .ok (.aload_n 0, 1) := by decide +kernel
theorem dX3_placeOf_6 : decode cX3_placeOf 6 = .ok (.iload_n 1, 1) := by decide +kernel
theorem dX3_placeOf_7 : decode cX3_placeOf 7 = .ok (.invokevirtual 75, 3) := by decide +kernel
theorem dX3_placeOf_10 : decode cX3_placeOf 10 = .ok (.ifCond .eq 18, 3) := by decide +kernel
theorem dX3_placeOf_13 : decode cX3_placeOf 13 = .ok (.aload_n 0, 1) := by decide +kernel
theorem dX3_placeOf_14 : decode cX3_placeOf 14 = .ok (.aload_n 0, 1) := by decide +kernel
theorem dX3_placeOf_15 : decode cX3_placeOf 15 = .ok (.getfield 45, 3) := by decide +kernel
theorem dX3_placeOf_18 : decode cX3_placeOf 18 = .ok (.iload_n 1, 1) := by decide +kernel
theorem dX3_placeOf_19 : decode cX3_placeOf 19 = .ok (.invokevirtual 52, 3) := by decide +kernel
theorem dX3_placeOf_22 : decode cX3_placeOf 22 = .ok (.bipush 100, 2) := by decide +kernel
theorem dX3_placeOf_24 : decode cX3_placeOf 24 = .ok (.irem, 1) := by decide +kernel
theorem dX3_placeOf_25 : decode cX3_placeOf 25 = .ok (.goto 8, 3) := by decide +kernel
theorem dX3_placeOf_28 : decode cX3_placeOf 28 = .ok (.aload_n 0, 1) := by decide +kernel
theorem dX3_placeOf_29 : decode cX3_placeOf 29 = .ok (.iconst 1, 1) := by decide +kernel
theorem dX3_placeOf_30 : decode cX3_placeOf 30 = .ok (.invokevirtual 101, 3) := by decide +kernel
theorem dX3_placeOf_33 : decode cX3_placeOf 33 = .ok (.ireturn, 1) := by decide +kernel
theorem dX3_lies_0 : decode cX3_lies 0 = .ok (.aload_n 0, 1) := by decide +kernel
theorem dX3_lies_1 : decode cX3_lies 1 = .ok (.iconst 0, 1) := by decide +kernel
theorem dX3_lies_2 : decode cX3_lies 2 = .ok (.putfield 35, 3) := by decide +kernel
theorem dX3_lies_5 : decode cX3_lies 5 = .ok (.aload_n 0, 1) := by decide +kernel
theorem dX3_lies_6 : decode cX3_lies 6 = .ok (.iload_n 1, 1) := by decide +kernel
theorem dX3_lies_7 : decode cX3_lies 7 = .ok (.invokevirtual 75, 3) := by decide +kernel
theorem dX3_lies_10 : decode cX3_lies 10 = .ok (.ifCond .eq 25, 3) := by decide +kernel
theorem dX3_lies_13 : decode cX3_lies 13 = .ok (.aload_n 0, 1) := by decide +kernel
theorem dX3_lies_14 : decode cX3_lies 14 = .ok (.aload_n 0, 1) := by decide +kernel
theorem dX3_lies_15 : decode cX3_lies 15 = .ok (.getfield 45, 3) := by decide +kernel
theorem dX3_lies_18 : decode cX3_lies 18 = .ok (.iload_n 1, 1) := by decide +kernel
theorem dX3_lies_19 : decode cX3_lies 19 = .ok (.invokevirtual 52, 3) := by decide +kernel
theorem dX3_lies_22 : decode cX3_lies 22 = .ok (.bipush 100, 2) := by decide +kernel
theorem dX3_lies_24 : decode cX3_lies 24 = .ok (.if_icmp .lt 7, 3) := by decide +kernel
theorem dX3_lies_27 : decode cX3_lies 27 = .ok (.iconst 1, 1) := by decide +kernel
theorem dX3_lies_28 : decode cX3_lies 28 = .ok (.goto 12, 3) := by decide +kernel
theorem dX3_lies_31 : decode cX3_lies 31 = .ok (.iconst 0, 1) := by decide +kernel
theorem dX3_lies_32 : decode cX3_lies 32 = .ok (.goto 8, 3) := by decide +kernel
theorem dX3_lies_35 : decode cX3_lies 35 = .ok (.aload_n 0, 1) := by decide +kernel
theorem dX3_lies_36 : decode cX3_lies 36 = .ok (.iconst 1, 1) := by decide +kernel
theorem dX3_lies_37 : decode cX3_lies 37 = .ok (.invokevirtual 125, 3) := by decide +kernel
theorem dX3_lies_40 : decode cX3_lies 40 = .ok (.ireturn, 1) := by decide +kernel
theorem dX3_pieceAt_0 : decode cX3_pieceAt 0 = .ok (.aload_n 0, 1) := by decide +kernel
theorem dX3_pieceAt_1 : decode cX3_pieceAt 1 = .ok (.iconst 0, 1) := by decide +kernel
theorem dX3_pieceAt_2 : decode cX3_pieceAt 2 = .ok (.putfield 35, 3) := by decide +kernel
theorem dX3_pieceAt_5 : decode cX3_pieceAt 5 = .ok (.iload_n 1, 1) := by decide +kernel
theorem dX3_pieceAt_6 : decode cX3_pieceAt 6 = .ok (.invokestatic 58, 3) := by decide +kernel
theorem dX3_pieceAt_9 : decode cX3_pieceAt 9 = .ok (.ifCond .eq 23, 3) := by decide +kernel
theorem dX3_pieceAt_12 : decode cX3_pieceAt 12 = .ok (.iload_n 2, 1) := by decide +kernel
theorem dX3_pieceAt_13 : decode cX3_pieceAt 13 = .ok (.invokestatic 58, 3) := by decide +kernel
theorem dX3_pieceAt_16 : decode cX3_pieceAt 16 = .ok (.ifCond .eq 16, 3) := by decide +kernel
theorem dX3_pieceAt_19 : decode cX3_pieceAt 19 = .ok (.aload_n 0, 1) := by decide +kernel
theorem dX3_pieceAt_20 : decode cX3_pieceAt 20 = .ok (.bipush 8, 2) := by decide +kernel
theorem dX3_pieceAt_22 : decode cX3_pieceAt 22 = .ok (.iload_n 1, 1) := by decide +kernel
theorem dX3_pieceAt_23 : decode cX3_pieceAt 23 = .ok (.imul, 1) := by decide +kernel
theorem dX3_pieceAt_24 : decode cX3_pieceAt 24 = .ok (.iload_n 2, 1) := by decide +kernel
theorem dX3_pieceAt_25 : decode cX3_pieceAt 25 = .ok (.iadd, 1) := by decide +kernel
theorem dX3_pieceAt_26 : decode cX3_pieceAt 26 = .ok (.invokevirtual 82, 3) := by decide +kernel
theorem dX3_pieceAt_29 : decode cX3_pieceAt 29 = .ok (.goto 8, 3) := by decide +kernel
theorem dX3_pieceAt_32 : decode cX3_pieceAt 32 = .ok (.aload_n 0, 1) := by decide +kernel
theorem dX3_pieceAt_33 : decode cX3_pieceAt 33 = .ok (.iconst 1, 1) := by decide +kernel
theorem dX3_pieceAt_34 : decode cX3_pieceAt 34 = .ok (.invokevirtual 101, 3) := by decide +kernel
theorem dX3_pieceAt_37 : decode cX3_pieceAt 37 = .ok (.ireturn, 1) := by decide +kernel
theorem dX3_canDo_0 : decode cX3_canDo 0 = .ok (.aload_n 0, 1) := by decide +kernel
theorem dX3_canDo_1 : decode cX3_canDo 1 = .ok (.iconst 0, 1) := by decide +kernel
theorem dX3_canDo_2 : decode cX3_canDo 2 = .ok (.putfield 35, 3) := by decide +kernel
theorem dX3_canDo_5 : decode cX3_canDo 5 = .ok (.iload_n 1, 1) := by decide +kernel
theorem dX3_canDo_6 : decode cX3_canDo 6 = .ok (.iload_n 2, 1) := by decide +kernel
theorem dX3_canDo_7 : decode cX3_canDo 7 = .ok (.invokestatic 104, 3) := by decide +kernel
theorem dX3_canDo_10 : decode cX3_canDo 10 = .ok (.ifCond .eq 12, 3) := by decide +kernel
theorem dX3_canDo_13 : decode cX3_canDo 13 = .ok (.aload_n 0, 1) := by decide +kernel
theorem dX3_canDo_14 : decode cX3_canDo 14 = .ok (.iload_n 1, 1) := by decide +kernel
theorem dX3_canDo_15 : decode cX3_canDo 15 = .ok (.iload_n 2, 1) := by decide +kernel
theorem dX3_canDo_16 : decode cX3_canDo 16 = .ok (.invokevirtual 107, 3) := by decide +kernel
theorem dX3_canDo_19 : decode cX3_canDo 19 = .ok (.goto 8, 3) := by decide +kernel
theorem dX3_canDo_22 : decode cX3_canDo 22 = .ok (.aload_n 0, 1) := by decide +kernel
theorem dX3_canDo_23 : decode cX3_canDo 23 = .ok (.iconst 1, 1) := by decide +kernel
theorem dX3_canDo_24 : decode cX3_canDo 24 = .ok (.invokevirtual 125, 3) := by decide +kernel
theorem dX3_canDo_27 : decode cX3_canDo 27 = .ok (.ireturn, 1) := by decide +kernel
theorem dX3_of_0 : decode cX3_of 0 = .ok (.aload_n 0, 1) := by decide +kernel
theorem dX3_of_1 : decode cX3_of 1 = .ok (.iconst 0, 1) := by decide +kernel
theorem dX3_of_2 : decode cX3_of 2 = .ok (.putfield 35, 3) := by decide +kernel
theorem dX3_of_5 : decode cX3_of 5 = .ok (.aload_n 0, 1) := by decide +kernel
theorem dX3_of_6 : decode cX3_of 6 = .ok (.iload_n 2, 1) := by decide +kernel
theorem dX3_of_7 : decode cX3_of 7 = .ok (.invokevirtual 113, 3) := by decide +kernel
theorem dX3_of_10 : decode cX3_of 10 = .ok (.ifCond .eq 9, 3) := by decide +kernel
theorem dX3_of_13 : decode cX3_of 13 = .ok (.aload_n 1, 1) := by decide +kernel
theorem dX3_of_14 : decode cX3_of 14 = .ok (.iload_n 2, 1) := by decide +kernel
theorem dX3_of_15 : decode cX3_of 15 = .ok (.iaload, 1) := by decide +kernel
theorem dX3_of_16 : decode cX3_of 16 = .ok (.goto 8, 3) := by decide +kernel
theorem dX3_of_19 : decode cX3_of 19 = .ok (.aload_n 0, 1) := by decide +kernel
theorem dX3_of_20 : decode cX3_of 20 = .ok (.iconst 1, 1) := by decide +kernel
theorem dX3_of_21 : decode cX3_of 21 = .ok (.invokevirtual 101, 3) := by decide +kernel
theorem dX3_of_24 : decode cX3_of 24 = .ok (.ireturn, 1) := by decide +kernel
theorem dX3_hangsOn_0 : decode cX3_hangsOn 0 = .ok (.aload_n 0, 1) := by decide +kernel
theorem dX3_hangsOn_1 : decode cX3_hangsOn 1 = .ok (.aload_n 0, 1) := by decide +kernel
theorem dX3_hangsOn_2 : decode cX3_hangsOn 2 = .ok (.getfield 13, 3) := by decide +kernel
theorem dX3_hangsOn_5 : decode cX3_hangsOn 5 = .ok (.iload_n 1, 1) := by decide +kernel
theorem dX3_hangsOn_6 : decode cX3_hangsOn 6 = .ok (.invokevirtual 128, 3) := by decide +kernel
theorem dX3_hangsOn_9 : decode cX3_hangsOn 9 = .ok (.ireturn, 1) := by decide +kernel
theorem dX3_kindOf_0 : decode cX3_kindOf 0 = .ok (.aload_n 0, 1) := by decide +kernel
theorem dX3_kindOf_1 : decode cX3_kindOf 1 = .ok (.aload_n 0, 1) := by decide +kernel
theorem dX3_kindOf_2 : decode cX3_kindOf 2 = .ok (.getfield 17, 3) := by decide +kernel
theorem dX3_kindOf_5 : decode cX3_kindOf 5 = .ok (.iload_n 1, 1) := by decide +kernel
theorem dX3_kindOf_6 : decode cX3_kindOf 6 = .ok (.invokevirtual 128, 3) := by decide +kernel
theorem dX3_kindOf_9 : decode cX3_kindOf 9 = .ok (.ireturn, 1) := by decide +kernel
theorem dX3_numberOf_0 : decode cX3_numberOf 0 = .ok (.aload_n 0, 1) := by decide +kernel
theorem dX3_numberOf_1 : decode cX3_numberOf 1 = .ok (.aload_n 0, 1) := by decide +kernel
theorem dX3_numberOf_2 : decode cX3_numberOf 2 = .ok (.getfield 20, 3) := by decide +kernel
theorem dX3_numberOf_5 : decode cX3_numberOf 5 = .ok (.iload_n 1, 1) := by decide +kernel
theorem dX3_numberOf_6 : decode cX3_numberOf 6 = .ok (.invokevirtual 128, 3) := by decide +kernel
theorem dX3_numberOf_9 : decode cX3_numberOf 9 = .ok (.ireturn, 1) := by decide +kernel
theorem dX3_depthOf_0 : decode cX3_depthOf 0 = .ok (.aload_n 0, 1) := by decide +kernel
theorem dX3_depthOf_1 : decode cX3_depthOf 1 = .ok (.aload_n 0, 1) := by decide +kernel
theorem dX3_depthOf_2 : decode cX3_depthOf 2 = .ok (.getfield 23, 3) := by decide +kernel
theorem dX3_depthOf_5 : decode cX3_depthOf 5 = .ok (.iload_n 1, 1) := by decide +kernel
theorem dX3_depthOf_6 : decode cX3_depthOf 6 = .ok (.invokevirtual 128, 3) := by decide +kernel
theorem dX3_depthOf_9 : decode cX3_depthOf 9 = .ok (.ireturn, 1) := by decide +kernel
theorem dX3_again_0 : decode cX3_again 0 = .ok (.aload_n 0, 1) := by decide +kernel
theorem dX3_again_1 : decode cX3_again 1 = .ok (.aload_n 0, 1) := by decide +kernel
theorem dX3_again_2 : decode cX3_again 2 = .ok (.getfield 26, 3) := by decide +kernel
theorem dX3_again_5 : decode cX3_again 5 = .ok (.iload_n 1, 1) := by decide +kernel
theorem dX3_again_6 : decode cX3_again 6 = .ok (.invokevirtual 128, 3) := by decide +kernel
theorem dX3_again_9 : decode cX3_again 9 = .ok (.ireturn, 1) := by decide +kernel
theorem dX3_below_0 : decode cX3_below 0 = .ok (.iconst 0, 1) := by decide +kernel
theorem dX3_below_1 : decode cX3_below 1 = .ok (.istore_n 2, 1) := by decide +kernel
theorem dX3_below_2 : decode cX3_below 2 = .ok (.iconst 1, 1) := by decide +kernel
theorem dX3_below_3 : decode cX3_below 3 = .ok (.istore_n 3, 1) := by decide +kernel
theorem dX3_below_4 : decode cX3_below 4 = .ok (.iload_n 3, 1) := by decide +kernel
theorem dX3_below_5 : decode cX3_below 5 = .ok (.aload_n 0, 1) := by decide +kernel
theorem dX3_below_6 : decode cX3_below 6 = .ok (.getfield 9, 3) := by decide +kernel
theorem dX3_below_9 : decode cX3_below 9 = .ok (.if_icmp .ge 27, 3) := by decide +kernel
theorem dX3_below_12 : decode cX3_below 12 = .ok (.iload_n 2, 1) := by decide +kernel
theorem dX3_below_13 : decode cX3_below 13 = .ok (.aload_n 0, 1) := by decide +kernel
theorem dX3_below_14 : decode cX3_below 14 = .ok (.getfield 13, 3) := by decide +kernel
theorem dX3_below_17 : decode cX3_below 17 = .ok (.iload_n 3, 1) := by decide +kernel
theorem dX3_below_18 : decode cX3_below 18 = .ok (.iaload, 1) := by decide +kernel
theorem dX3_below_19 : decode cX3_below 19 = .ok (.iload_n 1, 1) := by decide +kernel
theorem dX3_below_20 : decode cX3_below 20 = .ok (.if_icmp .ne 7, 3) := by decide +kernel
theorem dX3_below_23 : decode cX3_below 23 = .ok (.iconst 1, 1) := by decide +kernel
theorem dX3_below_24 : decode cX3_below 24 = .ok (.goto 4, 3) := by decide +kernel
theorem dX3_below_27 : decode cX3_below 27 = .ok (.iconst 0, 1) := by decide +kernel
theorem dX3_below_28 : decode cX3_below 28 = .ok (.iadd, 1) := by decide +kernel
theorem dX3_below_29 : decode cX3_below 29 = .ok (.istore_n 2, 1) := by decide +kernel
theorem dX3_below_30 : decode cX3_below 30 = .ok (.iinc 3 1, 3) := by decide +kernel
theorem dX3_below_33 : decode cX3_below 33 = .ok (.goto (-29), 3) := by decide +kernel
theorem dX3_below_36 : decode cX3_below 36 = .ok (.iload_n 2, 1) := by decide +kernel
theorem dX3_below_37 : decode cX3_below 37 = .ok (.ireturn, 1) := by decide +kernel
theorem dX3_branches_0 : decode cX3_branches 0 = .ok (.aload_n 0, 1) := by decide +kernel
theorem dX3_branches_1 : decode cX3_branches 1 = .ok (.iconst 0, 1) := by decide +kernel
theorem dX3_branches_2 : decode cX3_branches 2 = .ok (.putfield 35, 3) := by decide +kernel
theorem dX3_branches_5 : decode cX3_branches 5 = .ok (.aload_n 0, 1) := by decide +kernel
theorem dX3_branches_6 : decode cX3_branches 6 = .ok (.iload_n 1, 1) := by decide +kernel
theorem dX3_branches_7 : decode cX3_branches 7 = .ok (.invokevirtual 113, 3) := by decide +kernel
theorem dX3_branches_10 : decode cX3_branches 10 = .ok (.ifCond .eq 11, 3) := by decide +kernel
theorem dX3_branches_13 : decode cX3_branches 13 = .ok (.aload_n 0, 1) := by decide +kernel
theorem dX3_branches_14 : decode cX3_branches 14 = .ok (.iload_n 1, 1) := by decide +kernel
theorem dX3_branches_15 : decode cX3_branches 15 = .ok (.invokevirtual 132, 3) := by decide +kernel
theorem dX3_branches_18 : decode cX3_branches 18 = .ok (.goto 8, 3) := by decide +kernel
theorem dX3_branches_21 : decode cX3_branches 21 = .ok (.aload_n 0, 1) := by decide +kernel
theorem dX3_branches_22 : decode cX3_branches 22 = .ok (.iconst 1, 1) := by decide +kernel
theorem dX3_branches_23 : decode cX3_branches 23 = .ok (.invokevirtual 101, 3) := by decide +kernel
theorem dX3_branches_26 : decode cX3_branches 26 = .ok (.ireturn, 1) := by decide +kernel
theorem dX3_allBelow_0 : decode cX3_allBelow 0 = .ok (.iconst 0, 1) := by decide +kernel
theorem dX3_allBelow_1 : decode cX3_allBelow 1 = .ok (.istore_n 2, 1) := by decide +kernel
theorem dX3_allBelow_2 : decode cX3_allBelow 2 = .ok (.iload_n 1, 1) := by decide +kernel
theorem dX3_allBelow_3 : decode cX3_allBelow 3 = .ok (.iconst 1, 1) := by decide +kernel
theorem dX3_allBelow_4 : decode cX3_allBelow 4 = .ok (.iadd, 1) := by decide +kernel
theorem dX3_allBelow_5 : decode cX3_allBelow 5 = .ok (.istore_n 3, 1) := by decide +kernel
theorem dX3_allBelow_6 : decode cX3_allBelow 6 = .ok (.iload_n 3, 1) := by decide +kernel
theorem dX3_allBelow_7 : decode cX3_allBelow 7 = .ok (.aload_n 0, 1) := by decide +kernel
theorem dX3_allBelow_8 : decode cX3_allBelow 8 = .ok (.getfield 9, 3) := by decide +kernel
theorem dX3_allBelow_11 : decode cX3_allBelow 11 = .ok (.if_icmp .ge 27, 3) := by decide +kernel
theorem dX3_allBelow_14 : decode cX3_allBelow 14 = .ok (.iload_n 2, 1) := by decide +kernel
theorem dX3_allBelow_15 : decode cX3_allBelow 15 = .ok (.aload_n 0, 1) := by decide +kernel
theorem dX3_allBelow_16 : decode cX3_allBelow 16 = .ok (.iload_n 3, 1) := by decide +kernel
theorem dX3_allBelow_17 : decode cX3_allBelow 17 = .ok (.iload_n 1, 1) := by decide +kernel
theorem dX3_allBelow_18 : decode cX3_allBelow 18 = .ok (.invokevirtual 110, 3) := by decide +kernel
theorem dX3_allBelow_21 : decode cX3_allBelow 21 = .ok (.iload_n 1, 1) := by decide +kernel
theorem dX3_allBelow_22 : decode cX3_allBelow 22 = .ok (.if_icmp .ne 7, 3) := by decide +kernel
theorem dX3_allBelow_25 : decode cX3_allBelow 25 = .ok (.iconst 1, 1) := by decide +kernel
theorem dX3_allBelow_26 : decode cX3_allBelow 26 = .ok (.goto 4, 3) := by decide +kernel
theorem dX3_allBelow_29 : decode cX3_allBelow 29 = .ok (.iconst 0, 1) := by decide +kernel
theorem dX3_allBelow_30 : decode cX3_allBelow 30 = .ok (.iadd, 1) := by decide +kernel
theorem dX3_allBelow_31 : decode cX3_allBelow 31 = .ok (.istore_n 2, 1) := by decide +kernel
theorem dX3_allBelow_32 : decode cX3_allBelow 32 = .ok (.iinc 3 1, 3) := by decide +kernel
theorem dX3_allBelow_35 : decode cX3_allBelow 35 = .ok (.goto (-29), 3) := by decide +kernel
theorem dX3_allBelow_38 : decode cX3_allBelow 38 = .ok (.iload_n 2, 1) := by decide +kernel
theorem dX3_allBelow_39 : decode cX3_allBelow 39 = .ok (.ireturn, 1) := by decide +kernel
theorem dX3_behind_0 : decode cX3_behind 0 = .ok (.aload_n 0, 1) := by decide +kernel
theorem dX3_behind_1 : decode cX3_behind 1 = .ok (.iconst 0, 1) := by decide +kernel
theorem dX3_behind_2 : decode cX3_behind 2 = .ok (.putfield 35, 3) := by decide +kernel
theorem dX3_behind_5 : decode cX3_behind 5 = .ok (.aload_n 0, 1) := by decide +kernel
theorem dX3_behind_6 : decode cX3_behind 6 = .ok (.iload_n 1, 1) := by decide +kernel
theorem dX3_behind_7 : decode cX3_behind 7 = .ok (.invokevirtual 113, 3) := by decide +kernel
theorem dX3_behind_10 : decode cX3_behind 10 = .ok (.ifCond .eq 11, 3) := by decide +kernel
theorem dX3_behind_13 : decode cX3_behind 13 = .ok (.aload_n 0, 1) := by decide +kernel
theorem dX3_behind_14 : decode cX3_behind 14 = .ok (.iload_n 1, 1) := by decide +kernel
theorem dX3_behind_15 : decode cX3_behind 15 = .ok (.invokevirtual 135, 3) := by decide +kernel
theorem dX3_behind_18 : decode cX3_behind 18 = .ok (.goto 8, 3) := by decide +kernel
theorem dX3_behind_21 : decode cX3_behind 21 = .ok (.aload_n 0, 1) := by decide +kernel
theorem dX3_behind_22 : decode cX3_behind 22 = .ok (.iconst 1, 1) := by decide +kernel
theorem dX3_behind_23 : decode cX3_behind 23 = .ok (.invokevirtual 101, 3) := by decide +kernel
theorem dX3_behind_26 : decode cX3_behind 26 = .ok (.ireturn, 1) := by decide +kernel
theorem dX3_meet_0 : decode cX3_meet 0 = .ok (.aload_n 0, 1) := by decide +kernel
theorem dX3_meet_1 : decode cX3_meet 1 = .ok (.iconst 0, 1) := by decide +kernel
theorem dX3_meet_2 : decode cX3_meet 2 = .ok (.putfield 35, 3) := by decide +kernel
theorem dX3_meet_5 : decode cX3_meet 5 = .ok (.aload_n 0, 1) := by decide +kernel
theorem dX3_meet_6 : decode cX3_meet 6 = .ok (.iload_n 1, 1) := by decide +kernel
theorem dX3_meet_7 : decode cX3_meet 7 = .ok (.invokevirtual 113, 3) := by decide +kernel
theorem dX3_meet_10 : decode cX3_meet 10 = .ok (.ifCond .eq 20, 3) := by decide +kernel
theorem dX3_meet_13 : decode cX3_meet 13 = .ok (.aload_n 0, 1) := by decide +kernel
theorem dX3_meet_14 : decode cX3_meet 14 = .ok (.iload_n 2, 1) := by decide +kernel
theorem dX3_meet_15 : decode cX3_meet 15 = .ok (.invokevirtual 113, 3) := by decide +kernel
theorem dX3_meet_18 : decode cX3_meet 18 = .ok (.ifCond .eq 12, 3) := by decide +kernel
theorem dX3_meet_21 : decode cX3_meet 21 = .ok (.aload_n 0, 1) := by decide +kernel
theorem dX3_meet_22 : decode cX3_meet 22 = .ok (.iload_n 1, 1) := by decide +kernel
theorem dX3_meet_23 : decode cX3_meet 23 = .ok (.iload_n 2, 1) := by decide +kernel
theorem dX3_meet_24 : decode cX3_meet 24 = .ok (.invokevirtual 110, 3) := by decide +kernel
theorem dX3_meet_27 : decode cX3_meet 27 = .ok (.goto 8, 3) := by decide +kernel
theorem dX3_meet_30 : decode cX3_meet 30 = .ok (.aload_n 0, 1) := by decide +kernel
theorem dX3_meet_31 : decode cX3_meet 31 = .ok (.iconst 1, 1) := by decide +kernel
theorem dX3_meet_32 : decode cX3_meet 32 = .ok (.invokevirtual 101, 3) := by decide +kernel
theorem dX3_meet_35 : decode cX3_meet 35 = .ok (.ireturn, 1) := by decide +kernel
theorem dX3_apart_0 : decode cX3_apart 0 = .ok (.aload_n 0, 1) := by decide +kernel
theorem dX3_apart_1 : decode cX3_apart 1 = .ok (.iconst 0, 1) := by decide +kernel
theorem dX3_apart_2 : decode cX3_apart 2 = .ok (.putfield 35, 3) := by decide +kernel
theorem dX3_apart_5 : decode cX3_apart 5 = .ok (.aload_n 0, 1) := by decide +kernel
theorem dX3_apart_6 : decode cX3_apart 6 = .ok (.iload_n 1, 1) := by decide +kernel
theorem dX3_apart_7 : decode cX3_apart 7 = .ok (.invokevirtual 113, 3) := by decide +kernel
theorem dX3_apart_10 : decode cX3_apart 10 = .ok (.ifCond .eq 20, 3) := by decide +kernel
theorem dX3_apart_13 : decode cX3_apart 13 = .ok (.aload_n 0, 1) := by decide +kernel
theorem dX3_apart_14 : decode cX3_apart 14 = .ok (.iload_n 2, 1) := by decide +kernel
theorem dX3_apart_15 : decode cX3_apart 15 = .ok (.invokevirtual 113, 3) := by decide +kernel
theorem dX3_apart_18 : decode cX3_apart 18 = .ok (.ifCond .eq 12, 3) := by decide +kernel
theorem dX3_apart_21 : decode cX3_apart 21 = .ok (.aload_n 0, 1) := by decide +kernel
theorem dX3_apart_22 : decode cX3_apart 22 = .ok (.iload_n 1, 1) := by decide +kernel
theorem dX3_apart_23 : decode cX3_apart 23 = .ok (.iload_n 2, 1) := by decide +kernel
theorem dX3_apart_24 : decode cX3_apart 24 = .ok (.invokevirtual 116, 3) := by decide +kernel
theorem dX3_apart_27 : decode cX3_apart 27 = .ok (.goto 8, 3) := by decide +kernel
theorem dX3_apart_30 : decode cX3_apart 30 = .ok (.aload_n 0, 1) := by decide +kernel
theorem dX3_apart_31 : decode cX3_apart 31 = .ok (.iconst 1, 1) := by decide +kernel
theorem dX3_apart_32 : decode cX3_apart 32 = .ok (.invokevirtual 101, 3) := by decide +kernel
theorem dX3_apart_35 : decode cX3_apart 35 = .ok (.ireturn, 1) := by decide +kernel
theorem dX3_leaves_0 : decode cX3_leaves 0 = .ok (.iconst 0, 1) := by decide +kernel
theorem dX3_leaves_1 : decode cX3_leaves 1 = .ok (.istore_n 1, 1) := by decide +kernel
theorem dX3_leaves_2 : decode cX3_leaves 2 = .ok (.iconst 0, 1) := by decide +kernel
theorem dX3_leaves_3 : decode cX3_leaves 3 = .ok (.istore_n 2, 1) := by decide +kernel
theorem dX3_leaves_4 : decode cX3_leaves 4 = .ok (.iload_n 2, 1) := by decide +kernel
theorem dX3_leaves_5 : decode cX3_leaves 5 = .ok (.aload_n 0, 1) := by decide +kernel
theorem dX3_leaves_6 : decode cX3_leaves 6 = .ok (.getfield 9, 3) := by decide +kernel
theorem dX3_leaves_9 : decode cX3_leaves 9 = .ok (.if_icmp .ge 25, 3) := by decide +kernel
theorem dX3_leaves_12 : decode cX3_leaves 12 = .ok (.iload_n 1, 1) := by decide +kernel
theorem dX3_leaves_13 : decode cX3_leaves 13 = .ok (.aload_n 0, 1) := by decide +kernel
theorem dX3_leaves_14 : decode cX3_leaves 14 = .ok (.iload_n 2, 1) := by decide +kernel
theorem dX3_leaves_15 : decode cX3_leaves 15 = .ok (.invokevirtual 132, 3) := by decide +kernel
theorem dX3_leaves_18 : decode cX3_leaves 18 = .ok (.ifCond .ne 7, 3) := by decide +kernel
theorem dX3_leaves_21 : decode cX3_leaves 21 = .ok (.iconst 1, 1) := by decide +kernel
theorem dX3_leaves_22 : decode cX3_leaves 22 = .ok (.goto 4, 3) := by decide +kernel
theorem dX3_leaves_25 : decode cX3_leaves 25 = .ok (.iconst 0, 1) := by decide +kernel
theorem dX3_leaves_26 : decode cX3_leaves 26 = .ok (.iadd, 1) := by decide +kernel
theorem dX3_leaves_27 : decode cX3_leaves 27 = .ok (.istore_n 1, 1) := by decide +kernel
theorem dX3_leaves_28 : decode cX3_leaves 28 = .ok (.iinc 2 1, 3) := by decide +kernel
theorem dX3_leaves_31 : decode cX3_leaves 31 = .ok (.goto (-27), 3) := by decide +kernel
theorem dX3_leaves_34 : decode cX3_leaves 34 = .ok (.iload_n 1, 1) := by decide +kernel
theorem dX3_leaves_35 : decode cX3_leaves 35 = .ok (.ireturn, 1) := by decide +kernel
theorem dX3_ends_0 : decode cX3_ends 0 = .ok (.aload_n 0, 1) := by decide +kernel
theorem dX3_ends_1 : decode cX3_ends 1 = .ok (.aload_n 0, 1) := by decide +kernel
theorem dX3_ends_2 : decode cX3_ends 2 = .ok (.invokevirtual 138, 3) := by decide +kernel
theorem dX3_ends_5 : decode cX3_ends 5 = .ok (.invokevirtual 119, 3) := by decide +kernel
theorem dX3_ends_8 : decode cX3_ends 8 = .ok (.ireturn, 1) := by decide +kernel
theorem dX3_placeIn_0 : decode cX3_placeIn 0 = .ok (.aload_n 0, 1) := by decide +kernel
theorem dX3_placeIn_1 : decode cX3_placeIn 1 = .ok (.iconst 0, 1) := by decide +kernel
theorem dX3_placeIn_2 : decode cX3_placeIn 2 = .ok (.putfield 35, 3) := by decide +kernel
theorem dX3_placeIn_5 : decode cX3_placeIn 5 = .ok (.aload_n 0, 1) := by decide +kernel
theorem dX3_placeIn_6 : decode cX3_placeIn 6 = .ok (.iload_n 1, 1) := by decide +kernel
theorem dX3_placeIn_7 : decode cX3_placeIn 7 = .ok (.invokevirtual 113, 3) := by decide +kernel
theorem dX3_placeIn_10 : decode cX3_placeIn 10 = .ok (.ifCond .eq 20, 3) := by decide +kernel
theorem dX3_placeIn_13 : decode cX3_placeIn 13 = .ok (.aload_n 0, 1) := by decide +kernel
theorem dX3_placeIn_14 : decode cX3_placeIn 14 = .ok (.iload_n 2, 1) := by decide +kernel
theorem dX3_placeIn_15 : decode cX3_placeIn 15 = .ok (.invokevirtual 75, 3) := by decide +kernel
theorem dX3_placeIn_18 : decode cX3_placeIn 18 = .ok (.ifCond .eq 12, 3) := by decide +kernel
theorem dX3_placeIn_21 : decode cX3_placeIn 21 = .ok (.aload_n 0, 1) := by decide +kernel
theorem dX3_placeIn_22 : decode cX3_placeIn 22 = .ok (.iload_n 1, 1) := by decide +kernel
theorem dX3_placeIn_23 : decode cX3_placeIn 23 = .ok (.iload_n 2, 1) := by decide +kernel
theorem dX3_placeIn_24 : decode cX3_placeIn 24 = .ok (.invokevirtual 52, 3) := by decide +kernel
theorem dX3_placeIn_27 : decode cX3_placeIn 27 = .ok (.goto 8, 3) := by decide +kernel
theorem dX3_placeIn_30 : decode cX3_placeIn 30 = .ok (.aload_n 0, 1) := by decide +kernel
theorem dX3_placeIn_31 : decode cX3_placeIn 31 = .ok (.iconst 1, 1) := by decide +kernel
theorem dX3_placeIn_32 : decode cX3_placeIn 32 = .ok (.invokevirtual 101, 3) := by decide +kernel
theorem dX3_placeIn_35 : decode cX3_placeIn 35 = .ok (.ireturn, 1) := by decide +kernel
theorem dX3_lyingIn_0 : decode cX3_lyingIn 0 = .ok (.aload_n 0, 1) := by decide +kernel
theorem dX3_lyingIn_1 : decode cX3_lyingIn 1 = .ok (.iconst 0, 1) := by decide +kernel
theorem dX3_lyingIn_2 : decode cX3_lyingIn 2 = .ok (.putfield 35, 3) := by decide +kernel
theorem dX3_lyingIn_5 : decode cX3_lyingIn 5 = .ok (.aload_n 0, 1) := by decide +kernel
theorem dX3_lyingIn_6 : decode cX3_lyingIn 6 = .ok (.iload_n 1, 1) := by decide +kernel
theorem dX3_lyingIn_7 : decode cX3_lyingIn 7 = .ok (.invokevirtual 113, 3) := by decide +kernel
theorem dX3_lyingIn_10 : decode cX3_lyingIn 10 = .ok (.ifCond .eq 15, 3) := by decide +kernel
theorem dX3_lyingIn_13 : decode cX3_lyingIn 13 = .ok (.aload_n 0, 1) := by decide +kernel
theorem dX3_lyingIn_14 : decode cX3_lyingIn 14 = .ok (.iload_n 1, 1) := by decide +kernel
theorem dX3_lyingIn_15 : decode cX3_lyingIn 15 = .ok (.aload_n 0, 1) := by decide +kernel
theorem dX3_lyingIn_16 : decode cX3_lyingIn 16 = .ok (.getfield 42, 3) := by decide +kernel
theorem dX3_lyingIn_19 : decode cX3_lyingIn 19 = .ok (.invokevirtual 122, 3) := by decide +kernel
theorem dX3_lyingIn_22 : decode cX3_lyingIn 22 = .ok (.goto 8, 3) := by decide +kernel
theorem dX3_lyingIn_25 : decode cX3_lyingIn 25 = .ok (.aload_n 0, 1) := by decide +kernel
theorem dX3_lyingIn_26 : decode cX3_lyingIn 26 = .ok (.iconst 1, 1) := by decide +kernel
theorem dX3_lyingIn_27 : decode cX3_lyingIn 27 = .ok (.invokevirtual 101, 3) := by decide +kernel
theorem dX3_lyingIn_30 : decode cX3_lyingIn 30 = .ok (.ireturn, 1) := by decide +kernel
theorem dX3_isLike_0 : decode cX3_isLike 0 = .ok (.iconst 0, 1) := by decide +kernel
theorem dX3_isLike_1 : decode cX3_isLike 1 = .ok (.istore_n 3, 1) := by decide +kernel
theorem dX3_isLike_2 : decode cX3_isLike 2 = .ok (.iload_n 3, 1) := by decide +kernel
theorem dX3_isLike_3 : decode cX3_isLike 3 = .ok (.aload_n 0, 1) := by decide +kernel
theorem dX3_isLike_4 : decode cX3_isLike 4 = .ok (.getfield 42, 3) := by decide +kernel
theorem dX3_isLike_7 : decode cX3_isLike 7 = .ok (.if_icmp .gt 26, 3) := by decide +kernel
theorem dX3_isLike_10 : decode cX3_isLike 10 = .ok (.aload_n 0, 1) := by decide +kernel
theorem dX3_isLike_11 : decode cX3_isLike 11 = .ok (.iload_n 1, 1) := by decide +kernel
theorem dX3_isLike_12 : decode cX3_isLike 12 = .ok (.iload_n 3, 1) := by decide +kernel
theorem dX3_isLike_13 : decode cX3_isLike 13 = .ok (.invokevirtual 48, 3) := by decide +kernel
theorem dX3_isLike_16 : decode cX3_isLike 16 = .ok (.aload_n 0, 1) := by decide +kernel
theorem dX3_isLike_17 : decode cX3_isLike 17 = .ok (.iload_n 2, 1) := by decide +kernel
theorem dX3_isLike_18 : decode cX3_isLike 18 = .ok (.iload_n 3, 1) := by decide +kernel
theorem dX3_isLike_19 : decode cX3_isLike 19 = .ok (.invokevirtual 48, 3) := by decide +kernel
theorem dX3_isLike_22 : decode cX3_isLike 22 = .ok (.if_icmp .eq 5, 3) := by decide +kernel
theorem dX3_isLike_25 : decode cX3_isLike 25 = .ok (.iconst 0, 1) := by decide +kernel
theorem dX3_isLike_26 : decode cX3_isLike 26 = .ok (.ireturn, 1) := by decide +kernel
theorem dX3_isLike_27 : decode cX3_isLike 27 = .ok (.iinc 3 1, 3) := by decide +kernel
theorem dX3_isLike_30 : decode cX3_isLike 30 = .ok (.goto (-28), 3) := by decide +kernel
theorem dX3_isLike_33 : decode cX3_isLike 33 = .ok (.iconst 1, 1) := by decide +kernel
theorem dX3_isLike_34 : decode cX3_isLike 34 = .ok (.ireturn, 1) := by decide +kernel
theorem dX3_areAlike_0 : decode cX3_areAlike 0 = .ok (.aload_n 0, 1) := by decide +kernel
theorem dX3_areAlike_1 : decode cX3_areAlike 1 = .ok (.iconst 0, 1) := by decide +kernel
theorem dX3_areAlike_2 : decode cX3_areAlike 2 = .ok (.putfield 35, 3) := by decide +kernel
theorem dX3_areAlike_5 : decode cX3_areAlike 5 = .ok (.aload_n 0, 1) := by decide +kernel
theorem dX3_areAlike_6 : decode cX3_areAlike 6 = .ok (.iload_n 1, 1) := by decide +kernel
theorem dX3_areAlike_7 : decode cX3_areAlike 7 = .ok (.invokevirtual 113, 3) := by decide +kernel
theorem dX3_areAlike_10 : decode cX3_areAlike 10 = .ok (.ifCond .eq 20, 3) := by decide +kernel
theorem dX3_areAlike_13 : decode cX3_areAlike 13 = .ok (.aload_n 0, 1) := by decide +kernel
theorem dX3_areAlike_14 : decode cX3_areAlike 14 = .ok (.iload_n 2, 1) := by decide +kernel
theorem dX3_areAlike_15 : decode cX3_areAlike 15 = .ok (.invokevirtual 113, 3) := by decide +kernel
theorem dX3_areAlike_18 : decode cX3_areAlike 18 = .ok (.ifCond .eq 12, 3) := by decide +kernel
theorem dX3_areAlike_21 : decode cX3_areAlike 21 = .ok (.aload_n 0, 1) := by decide +kernel
theorem dX3_areAlike_22 : decode cX3_areAlike 22 = .ok (.iload_n 1, 1) := by decide +kernel
theorem dX3_areAlike_23 : decode cX3_areAlike 23 = .ok (.iload_n 2, 1) := by decide +kernel
theorem dX3_areAlike_24 : decode cX3_areAlike 24 = .ok (.invokevirtual 141, 3) := by decide +kernel
theorem dX3_areAlike_27 : decode cX3_areAlike 27 = .ok (.goto 8, 3) := by decide +kernel
theorem dX3_areAlike_30 : decode cX3_areAlike 30 = .ok (.aload_n 0, 1) := by decide +kernel
theorem dX3_areAlike_31 : decode cX3_areAlike 31 = .ok (.iconst 1, 1) := by decide +kernel
theorem dX3_areAlike_32 : decode cX3_areAlike 32 = .ok (.invokevirtual 125, 3) := by decide +kernel
theorem dX3_areAlike_35 : decode cX3_areAlike 35 = .ok (.ireturn, 1) := by decide +kernel
theorem dX3_knocks_0 : decode cX3_knocks 0 = .ok (.iconst 0, 1) := by decide +kernel
theorem dX3_knocks_1 : decode cX3_knocks 1 = .ok (.istore_n 2, 1) := by decide +kernel
theorem dX3_knocks_2 : decode cX3_knocks 2 = .ok (.iconst 1, 1) := by decide +kernel
theorem dX3_knocks_3 : decode cX3_knocks 3 = .ok (.istore_n 3, 1) := by decide +kernel
theorem dX3_knocks_4 : decode cX3_knocks 4 = .ok (.iload_n 3, 1) := by decide +kernel
theorem dX3_knocks_5 : decode cX3_knocks 5 = .ok (.aload_n 0, 1) := by decide +kernel
theorem dX3_knocks_6 : decode cX3_knocks 6 = .ok (.getfield 9, 3) := by decide +kernel
theorem dX3_knocks_9 : decode cX3_knocks 9 = .ok (.if_icmp .ge 37, 3) := by decide +kernel
theorem dX3_knocks_12 : decode cX3_knocks 12 = .ok (.iload_n 2, 1) := by decide +kernel
theorem dX3_knocks_13 : decode cX3_knocks 13 = .ok (.aload_n 0, 1) := by decide +kernel
theorem dX3_knocks_14 : decode cX3_knocks 14 = .ok (.getfield 17, 3) := by decide +kernel
theorem dX3_knocks_17 : decode cX3_knocks 17 = .ok (.iload_n 3, 1) := by decide +kernel
theorem dX3_knocks_18 : decode cX3_knocks 18 = .ok (.iaload, 1) := by decide +kernel
theorem dX3_knocks_19 : decode cX3_knocks 19 = .ok (.iconst 1, 1) := by decide +kernel
theorem dX3_knocks_20 : decode cX3_knocks 20 = .ok (.if_icmp .ne 17, 3) := by decide +kernel
theorem dX3_knocks_23 : decode cX3_knocks 23 = .ok (.aload_n 0, 1) := by decide +kernel
theorem dX3_knocks_24 : decode cX3_knocks 24 = .ok (.getfield 20, 3) := by decide +kernel
theorem dX3_knocks_27 : decode cX3_knocks 27 = .ok (.iload_n 3, 1) := by decide +kernel
theorem dX3_knocks_28 : decode cX3_knocks 28 = .ok (.iaload, 1) := by decide +kernel
theorem dX3_knocks_29 : decode cX3_knocks 29 = .ok (.iload_n 1, 1) := by decide +kernel
theorem dX3_knocks_30 : decode cX3_knocks 30 = .ok (.if_icmp .ne 7, 3) := by decide +kernel
theorem dX3_knocks_33 : decode cX3_knocks 33 = .ok (.iconst 1, 1) := by decide +kernel
theorem dX3_knocks_34 : decode cX3_knocks 34 = .ok (.goto 4, 3) := by decide +kernel
theorem dX3_knocks_37 : decode cX3_knocks 37 = .ok (.iconst 0, 1) := by decide +kernel
theorem dX3_knocks_38 : decode cX3_knocks 38 = .ok (.iadd, 1) := by decide +kernel
theorem dX3_knocks_39 : decode cX3_knocks 39 = .ok (.istore_n 2, 1) := by decide +kernel
theorem dX3_knocks_40 : decode cX3_knocks 40 = .ok (.iinc 3 1, 3) := by decide +kernel
theorem dX3_knocks_43 : decode cX3_knocks 43 = .ok (.goto (-39), 3) := by decide +kernel
theorem dX3_knocks_46 : decode cX3_knocks 46 = .ok (.iload_n 2, 1) := by decide +kernel
theorem dX3_knocks_47 : decode cX3_knocks 47 = .ok (.ireturn, 1) := by decide +kernel
theorem dX3_mostDown_0 : decode cX3_mostDown 0 = .ok (.iconst (-1), 1) := by decide +kernel
theorem dX3_mostDown_1 : decode cX3_mostDown 1 = .ok (.istore_n 1, 1) := by decide +kernel
theorem dX3_mostDown_2 : decode cX3_mostDown 2 = .ok (.iconst 0, 1) := by decide +kernel
theorem dX3_mostDown_3 : decode cX3_mostDown 3 = .ok (.istore_n 2, 1) := by decide +kernel
theorem dX3_mostDown_4 : decode cX3_mostDown 4 = .ok (.iload_n 2, 1) := by decide +kernel
theorem dX3_mostDown_5 : decode cX3_mostDown 5 = .ok (.aload_n 0, 1) := by decide +kernel
theorem dX3_mostDown_6 : decode cX3_mostDown 6 = .ok (.getfield 42, 3) := by decide +kernel
theorem dX3_mostDown_9 : decode cX3_mostDown 9 = .ok (.if_icmp .ge 29, 3) := by decide +kernel
theorem dX3_mostDown_12 : decode cX3_mostDown 12 = .ok (.iload_n 1, 1) := by decide +kernel
theorem dX3_mostDown_13 : decode cX3_mostDown 13 = .ok (.iconst (-1), 1) := by decide +kernel
theorem dX3_mostDown_14 : decode cX3_mostDown 14 = .ok (.if_icmp .eq 16, 3) := by decide +kernel
theorem dX3_mostDown_17 : decode cX3_mostDown 17 = .ok (.aload_n 0, 1) := by decide +kernel
theorem dX3_mostDown_18 : decode cX3_mostDown 18 = .ok (.iload_n 2, 1) := by decide +kernel
theorem dX3_mostDown_19 : decode cX3_mostDown 19 = .ok (.invokevirtual 144, 3) := by decide +kernel
theorem dX3_mostDown_22 : decode cX3_mostDown 22 = .ok (.aload_n 0, 1) := by decide +kernel
theorem dX3_mostDown_23 : decode cX3_mostDown 23 = .ok (.iload_n 1, 1) := by decide +kernel
theorem dX3_mostDown_24 : decode cX3_mostDown 24 = .ok (.invokevirtual 144, 3) := by decide +kernel
theorem dX3_mostDown_27 : decode cX3_mostDown 27 = .ok (.if_icmp .le 5, 3) := by decide +kernel
theorem dX3_mostDown_30 : decode cX3_mostDown 30 = .ok (.iload_n 2, 1) := by decide +kernel
theorem dX3_mostDown_31 : decode cX3_mostDown 31 = .ok (.istore_n 1, 1) := by decide +kernel
theorem dX3_mostDown_32 : decode cX3_mostDown 32 = .ok (.iinc 2 1, 3) := by decide +kernel
theorem dX3_mostDown_35 : decode cX3_mostDown 35 = .ok (.goto (-31), 3) := by decide +kernel
theorem dX3_mostDown_38 : decode cX3_mostDown 38 = .ok (.iload_n 1, 1) := by decide +kernel
theorem dX3_mostDown_39 : decode cX3_mostDown 39 = .ok (.ireturn, 1) := by decide +kernel
theorem dX3_mostKnocked_0 : decode cX3_mostKnocked 0 = .ok (.aload_n 0, 1) := by decide +kernel
theorem dX3_mostKnocked_1 : decode cX3_mostKnocked 1 = .ok (.aload_n 0, 1) := by decide +kernel
theorem dX3_mostKnocked_2 : decode cX3_mostKnocked 2 = .ok (.invokevirtual 147, 3) := by decide +kernel
theorem dX3_mostKnocked_5 : decode cX3_mostKnocked 5 = .ok (.invokevirtual 119, 3) := by decide +kernel
theorem dX3_mostKnocked_8 : decode cX3_mostKnocked 8 = .ok (.ireturn, 1) := by decide +kernel
theorem dX3_meanDepth_0 : decode cX3_meanDepth 0 = .ok (.aload_n 0, 1) := by decide +kernel
theorem dX3_meanDepth_1 : decode cX3_meanDepth 1 = .ok (.iconst 0, 1) := by decide +kernel
theorem dX3_meanDepth_2 : decode cX3_meanDepth 2 = .ok (.putfield 35, 3) := by decide +kernel
theorem dX3_meanDepth_5 : decode cX3_meanDepth 5 = .ok (.iconst 0, 1) := by decide +kernel
theorem dX3_meanDepth_6 : decode cX3_meanDepth 6 = .ok (.istore_n 1, 1) := by decide +kernel
theorem dX3_meanDepth_7 : decode cX3_meanDepth 7 = .ok (.iconst 0, 1) := by decide +kernel
theorem dX3_meanDepth_8 : decode cX3_meanDepth 8 = .ok (.istore_n 2, 1) := by decide +kernel
theorem dX3_meanDepth_9 : decode cX3_meanDepth 9 = .ok (.iload_n 2, 1) := by decide +kernel
theorem dX3_meanDepth_10 : decode cX3_meanDepth 10 = .ok (.aload_n 0, 1) := by decide +kernel
theorem dX3_meanDepth_11 : decode cX3_meanDepth 11 = .ok (.getfield 9, 3) := by decide +kernel
theorem dX3_meanDepth_14 : decode cX3_meanDepth 14 = .ok (.if_icmp .ge 30, 3) := by decide +kernel
theorem dX3_meanDepth_17 : decode cX3_meanDepth 17 = .ok (.iload_n 1, 1) := by decide +kernel
theorem dX3_meanDepth_18 : decode cX3_meanDepth 18 = .ok (.aload_n 0, 1) := by decide +kernel
theorem dX3_meanDepth_19 : decode cX3_meanDepth 19 = .ok (.iload_n 2, 1) := by decide +kernel
theorem dX3_meanDepth_20 : decode cX3_meanDepth 20 = .ok (.invokevirtual 132, 3) := by decide +kernel
theorem dX3_meanDepth_23 : decode cX3_meanDepth 23 = .ok (.ifCond .ne 12, 3) := by decide +kernel
theorem dX3_meanDepth_26 : decode cX3_meanDepth 26 = .ok (.aload_n 0, 1) := by decide +kernel
theorem dX3_meanDepth_27 : decode cX3_meanDepth 27 = .ok (.getfield 23, 3) := by decide +kernel
theorem dX3_meanDepth_30 : decode cX3_meanDepth 30 = .ok (.iload_n 2, 1) := by decide +kernel
theorem dX3_meanDepth_31 : decode cX3_meanDepth 31 = .ok (.iaload, 1) := by decide +kernel
theorem dX3_meanDepth_32 : decode cX3_meanDepth 32 = .ok (.goto 4, 3) := by decide +kernel
theorem dX3_meanDepth_35 : decode cX3_meanDepth 35 = .ok (.iconst 0, 1) := by decide +kernel
theorem dX3_meanDepth_36 : decode cX3_meanDepth 36 = .ok (.iadd, 1) := by decide +kernel
theorem dX3_meanDepth_37 : decode cX3_meanDepth 37 = .ok (.istore_n 1, 1) := by decide +kernel
theorem dX3_meanDepth_38 : decode cX3_meanDepth 38 = .ok (.iinc 2 1, 3) := by decide +kernel
theorem dX3_meanDepth_41 : decode cX3_meanDepth 41 = .ok (.goto (-32), 3) := by decide +kernel
theorem dX3_meanDepth_44 : decode cX3_meanDepth 44 = .ok (.iload_n 1, 1) := by decide +kernel
theorem dX3_meanDepth_45 : decode cX3_meanDepth 45 = .ok (.i2d, 1) := by decide +kernel
theorem dX3_meanDepth_46 : decode cX3_meanDepth 46 = .ok (.aload_n 0, 1) := by decide +kernel
theorem dX3_meanDepth_47 : decode cX3_meanDepth 47 = .ok (.invokevirtual 138, 3) := by decide +kernel
theorem dX3_meanDepth_50 : decode cX3_meanDepth 50 = .ok (.i2d, 1) := by decide +kernel
theorem dX3_meanDepth_51 : decode cX3_meanDepth 51 = .ok (.ddiv, 1) := by decide +kernel
theorem dX3_meanDepth_52 : decode cX3_meanDepth 52 = .ok (.dreturn, 1) := by decide +kernel
theorem dX3_digest_0 : decode cX3_digest 0 = .ok (.aload_n 0, 1) := by decide +kernel
theorem dX3_digest_1 : decode cX3_digest 1 = .ok (.iconst 0, 1) := by decide +kernel
theorem dX3_digest_2 : decode cX3_digest 2 = .ok (.putfield 35, 3) := by decide +kernel
theorem dX3_digest_5 : decode cX3_digest 5 = .ok (.bipush 8, 2) := by decide +kernel
theorem dX3_digest_7 : decode cX3_digest 7 = .ok (.newarray .int, 2) := by decide +kernel
theorem dX3_digest_9 : decode cX3_digest 9 = .ok (.dup, 1) := by decide +kernel
theorem dX3_digest_10 : decode cX3_digest 10 = .ok (.iconst 0, 1) := by decide +kernel
theorem dX3_digest_11 : decode cX3_digest 11 = .ok (.aload_n 0, 1) := by decide +kernel
theorem dX3_digest_12 : decode cX3_digest 12 = .ok (.getfield 45, 3) := by decide +kernel
theorem dX3_digest_15 : decode cX3_digest 15 = .ok (.iastore, 1) := by decide +kernel
theorem dX3_digest_16 : decode cX3_digest 16 = .ok (.dup, 1) := by decide +kernel
theorem dX3_digest_17 : decode cX3_digest 17 = .ok (.iconst 1, 1) := by decide +kernel
theorem dX3_digest_18 : decode cX3_digest 18 = .ok (.aload_n 0, 1) := by decide +kernel
theorem dX3_digest_19 : decode cX3_digest 19 = .ok (.getfield 9, 3) := by decide +kernel
theorem dX3_digest_22 : decode cX3_digest 22 = .ok (.iastore, 1) := by decide +kernel
theorem dX3_digest_23 : decode cX3_digest 23 = .ok (.dup, 1) := by decide +kernel
theorem dX3_digest_24 : decode cX3_digest 24 = .ok (.iconst 2, 1) := by decide +kernel
theorem dX3_digest_25 : decode cX3_digest 25 = .ok (.aload_n 0, 1) := by decide +kernel
theorem dX3_digest_26 : decode cX3_digest 26 = .ok (.getfield 42, 3) := by decide +kernel
theorem dX3_digest_29 : decode cX3_digest 29 = .ok (.iastore, 1) := by decide +kernel
theorem dX3_digest_30 : decode cX3_digest 30 = .ok (.dup, 1) := by decide +kernel
theorem dX3_digest_31 : decode cX3_digest 31 = .ok (.iconst 3, 1) := by decide +kernel
theorem dX3_digest_32 : decode cX3_digest 32 = .ok (.aload_n 0, 1) := by decide +kernel
theorem dX3_digest_33 : decode cX3_digest 33 = .ok (.invokevirtual 68, 3) := by decide +kernel
theorem dX3_digest_36 : decode cX3_digest 36 = .ok (.bipush 8, 2) := by decide +kernel
theorem dX3_digest_38 : decode cX3_digest 38 = .ok (.idiv, 1) := by decide +kernel
theorem dX3_digest_39 : decode cX3_digest 39 = .ok (.iastore, 1) := by decide +kernel
theorem dX3_digest_40 : decode cX3_digest 40 = .ok (.dup, 1) := by decide +kernel
theorem dX3_digest_41 : decode cX3_digest 41 = .ok (.iconst 4, 1) := by decide +kernel
theorem dX3_digest_42 : decode cX3_digest 42 = .ok (.aload_n 0, 1) := by decide +kernel
theorem dX3_digest_43 : decode cX3_digest 43 = .ok (.invokevirtual 68, 3) := by decide +kernel
theorem dX3_digest_46 : decode cX3_digest 46 = .ok (.bipush 8, 2) := by decide +kernel
theorem dX3_digest_48 : decode cX3_digest 48 = .ok (.irem, 1) := by decide +kernel
theorem dX3_digest_49 : decode cX3_digest 49 = .ok (.iastore, 1) := by decide +kernel
theorem dX3_digest_50 : decode cX3_digest 50 = .ok (.dup, 1) := by decide +kernel
theorem dX3_digest_51 : decode cX3_digest 51 = .ok (.iconst 5, 1) := by decide +kernel
theorem dX3_digest_52 : decode cX3_digest 52 = .ok (.aload_n 0, 1) := by decide +kernel
theorem dX3_digest_53 : decode cX3_digest 53 = .ok (.aload_n 0, 1) := by decide +kernel
theorem dX3_digest_54 : decode cX3_digest 54 = .ok (.getfield 45, 3) := by decide +kernel
theorem dX3_digest_57 : decode cX3_digest 57 = .ok (.aload_n 0, 1) := by decide +kernel
theorem dX3_digest_58 : decode cX3_digest 58 = .ok (.getfield 42, 3) := by decide +kernel
theorem dX3_digest_61 : decode cX3_digest 61 = .ok (.invokevirtual 122, 3) := by decide +kernel
theorem dX3_digest_64 : decode cX3_digest 64 = .ok (.iastore, 1) := by decide +kernel
theorem dX3_digest_65 : decode cX3_digest 65 = .ok (.dup, 1) := by decide +kernel
theorem dX3_digest_66 : decode cX3_digest 66 = .ok (.bipush 6, 2) := by decide +kernel
theorem dX3_digest_68 : decode cX3_digest 68 = .ok (.aload_n 0, 1) := by decide +kernel
theorem dX3_digest_69 : decode cX3_digest 69 = .ok (.invokevirtual 138, 3) := by decide +kernel
theorem dX3_digest_72 : decode cX3_digest 72 = .ok (.iastore, 1) := by decide +kernel
theorem dX3_digest_73 : decode cX3_digest 73 = .ok (.dup, 1) := by decide +kernel
theorem dX3_digest_74 : decode cX3_digest 74 = .ok (.bipush 7, 2) := by decide +kernel
theorem dX3_digest_76 : decode cX3_digest 76 = .ok (.aload_n 0, 1) := by decide +kernel
theorem dX3_digest_77 : decode cX3_digest 77 = .ok (.invokevirtual 147, 3) := by decide +kernel
theorem dX3_digest_80 : decode cX3_digest 80 = .ok (.iastore, 1) := by decide +kernel
theorem dX3_digest_81 : decode cX3_digest 81 = .ok (.astore_n 1, 1) := by decide +kernel
theorem dX3_digest_82 : decode cX3_digest 82 = .ok (.ldc2_w 150, 3) := by decide +kernel
theorem dX3_digest_85 : decode cX3_digest 85 = .ok (.lstore_n 2, 1) := by decide +kernel
theorem dX3_digest_86 : decode cX3_digest 86 = .ok (.aload_n 1, 1) := by decide +kernel
theorem dX3_digest_87 : decode cX3_digest 87 = .ok (.astore 4, 2) := by decide +kernel
theorem dX3_digest_89 : decode cX3_digest 89 = .ok (.aload 4, 2) := by decide +kernel
theorem dX3_digest_91 : decode cX3_digest 91 = .ok (.arraylength, 1) := by decide +kernel
theorem dX3_digest_92 : decode cX3_digest 92 = .ok (.istore 5, 2) := by decide +kernel
theorem dX3_digest_94 : decode cX3_digest 94 = .ok (.iconst 0, 1) := by decide +kernel
theorem dX3_digest_95 : decode cX3_digest 95 = .ok (.istore 6, 2) := by decide +kernel
theorem dX3_digest_97 : decode cX3_digest 97 = .ok (.iload 6, 2) := by decide +kernel
theorem dX3_digest_99 : decode cX3_digest 99 = .ok (.iload 5, 2) := by decide +kernel
theorem dX3_digest_101 : decode cX3_digest 101 = .ok (.if_icmp .ge 26, 3) := by decide +kernel
theorem dX3_digest_104 : decode cX3_digest 104 = .ok (.aload 4, 2) := by decide +kernel
theorem dX3_digest_106 : decode cX3_digest 106 = .ok (.iload 6, 2) := by decide +kernel
theorem dX3_digest_108 : decode cX3_digest 108 = .ok (.iaload, 1) := by decide +kernel
theorem dX3_digest_109 : decode cX3_digest 109 = .ok (.istore 7, 2) := by decide +kernel
theorem dX3_digest_111 : decode cX3_digest 111 = .ok (.lload_n 2, 1) := by decide +kernel
theorem dX3_digest_112 : decode cX3_digest 112 = .ok (.ldc2_w 152, 3) := by decide +kernel
theorem dX3_digest_115 : decode cX3_digest 115 = .ok (.lmul, 1) := by decide +kernel
theorem dX3_digest_116 : decode cX3_digest 116 = .ok (.iload 7, 2) := by decide +kernel
theorem dX3_digest_118 : decode cX3_digest 118 = .ok (.i2l, 1) := by decide +kernel
theorem dX3_digest_119 : decode cX3_digest 119 = .ok (.ladd, 1) := by decide +kernel
theorem dX3_digest_120 : decode cX3_digest 120 = .ok (.lstore_n 2, 1) := by decide +kernel
theorem dX3_digest_121 : decode cX3_digest 121 = .ok (.iinc 6 1, 3) := by decide +kernel
theorem dX3_digest_124 : decode cX3_digest 124 = .ok (.goto (-27), 3) := by decide +kernel
theorem dX3_digest_127 : decode cX3_digest 127 = .ok (.iconst 0, 1) := by decide +kernel
theorem dX3_digest_128 : decode cX3_digest 128 = .ok (.istore 4, 2) := by decide +kernel
theorem dX3_digest_130 : decode cX3_digest 130 = .ok (.iload 4, 2) := by decide +kernel
theorem dX3_digest_132 : decode cX3_digest 132 = .ok (.aload_n 0, 1) := by decide +kernel
theorem dX3_digest_133 : decode cX3_digest 133 = .ok (.getfield 42, 3) := by decide +kernel
theorem dX3_digest_136 : decode cX3_digest 136 = .ok (.if_icmp .ge 56, 3) := by decide +kernel
theorem dX3_digest_139 : decode cX3_digest 139 = .ok (.lload_n 2, 1) := by decide +kernel
theorem dX3_digest_140 : decode cX3_digest 140 = .ok (.ldc2_w 152, 3) := by decide +kernel
theorem dX3_digest_143 : decode cX3_digest 143 = .ok (.lmul, 1) := by decide +kernel
theorem dX3_digest_144 : decode cX3_digest 144 = .ok (.aload_n 0, 1) := by decide +kernel
theorem dX3_digest_145 : decode cX3_digest 145 = .ok (.aload_n 0, 1) := by decide +kernel
theorem dX3_digest_146 : decode cX3_digest 146 = .ok (.getfield 45, 3) := by decide +kernel
theorem dX3_digest_149 : decode cX3_digest 149 = .ok (.iload 4, 2) := by decide +kernel
theorem dX3_digest_151 : decode cX3_digest 151 = .ok (.invokevirtual 52, 3) := by decide +kernel
theorem dX3_digest_154 : decode cX3_digest 154 = .ok (.bipush 100, 2) := by decide +kernel
theorem dX3_digest_156 : decode cX3_digest 156 = .ok (.irem, 1) := by decide +kernel
theorem dX3_digest_157 : decode cX3_digest 157 = .ok (.i2l, 1) := by decide +kernel
theorem dX3_digest_158 : decode cX3_digest 158 = .ok (.ladd, 1) := by decide +kernel
theorem dX3_digest_159 : decode cX3_digest 159 = .ok (.ldc2_w 152, 3) := by decide +kernel
theorem dX3_digest_162 : decode cX3_digest 162 = .ok (.lmul, 1) := by decide +kernel
theorem dX3_digest_163 : decode cX3_digest 163 = .ok (.aload_n 0, 1) := by decide +kernel
theorem dX3_digest_164 : decode cX3_digest 164 = .ok (.aload_n 0, 1) := by decide +kernel
theorem dX3_digest_165 : decode cX3_digest 165 = .ok (.getfield 45, 3) := by decide +kernel
theorem dX3_digest_168 : decode cX3_digest 168 = .ok (.iload 4, 2) := by decide +kernel
theorem dX3_digest_170 : decode cX3_digest 170 = .ok (.invokevirtual 52, 3) := by decide +kernel
theorem dX3_digest_173 : decode cX3_digest 173 = .ok (.bipush 100, 2) := by decide +kernel
theorem dX3_digest_175 : decode cX3_digest 175 = .ok (.if_icmp .lt 7, 3) := by decide +kernel
theorem dX3_digest_178 : decode cX3_digest 178 = .ok (.iconst 1, 1) := by decide +kernel
theorem dX3_digest_179 : decode cX3_digest 179 = .ok (.goto 4, 3) := by decide +kernel
theorem dX3_digest_182 : decode cX3_digest 182 = .ok (.iconst 0, 1) := by decide +kernel
theorem dX3_digest_183 : decode cX3_digest 183 = .ok (.i2l, 1) := by decide +kernel
theorem dX3_digest_184 : decode cX3_digest 184 = .ok (.ladd, 1) := by decide +kernel
theorem dX3_digest_185 : decode cX3_digest 185 = .ok (.lstore_n 2, 1) := by decide +kernel
theorem dX3_digest_186 : decode cX3_digest 186 = .ok (.iinc 4 1, 3) := by decide +kernel
theorem dX3_digest_189 : decode cX3_digest 189 = .ok (.goto (-59), 3) := by decide +kernel
theorem dX3_digest_192 : decode cX3_digest 192 = .ok (.iconst 0, 1) := by decide +kernel
theorem dX3_digest_193 : decode cX3_digest 193 = .ok (.istore 4, 2) := by decide +kernel
theorem dX3_digest_195 : decode cX3_digest 195 = .ok (.iload 4, 2) := by decide +kernel
theorem dX3_digest_197 : decode cX3_digest 197 = .ok (.aload_n 0, 1) := by decide +kernel
theorem dX3_digest_198 : decode cX3_digest 198 = .ok (.getfield 9, 3) := by decide +kernel
theorem dX3_digest_201 : decode cX3_digest 201 = .ok (.if_icmp .ge 176, 3) := by decide +kernel
theorem dX3_digest_204 : decode cX3_digest 204 = .ok (.bipush 10, 2) := by decide +kernel
theorem dX3_digest_206 : decode cX3_digest 206 = .ok (.newarray .int, 2) := by decide +kernel
theorem dX3_digest_208 : decode cX3_digest 208 = .ok (.dup, 1) := by decide +kernel
theorem dX3_digest_209 : decode cX3_digest 209 = .ok (.iconst 0, 1) := by decide +kernel
theorem dX3_digest_210 : decode cX3_digest 210 = .ok (.aload_n 0, 1) := by decide +kernel
theorem dX3_digest_211 : decode cX3_digest 211 = .ok (.getfield 13, 3) := by decide +kernel
theorem dX3_digest_214 : decode cX3_digest 214 = .ok (.iload 4, 2) := by decide +kernel
theorem dX3_digest_216 : decode cX3_digest 216 = .ok (.iaload, 1) := by decide +kernel
theorem dX3_digest_217 : decode cX3_digest 217 = .ok (.iastore, 1) := by decide +kernel
theorem dX3_digest_218 : decode cX3_digest 218 = .ok (.dup, 1) := by decide +kernel
theorem dX3_digest_219 : decode cX3_digest 219 = .ok (.iconst 1, 1) := by decide +kernel
theorem dX3_digest_220 : decode cX3_digest 220 = .ok (.aload_n 0, 1) := by decide +kernel
theorem dX3_digest_221 : decode cX3_digest 221 = .ok (.getfield 17, 3) := by decide +kernel
theorem dX3_digest_224 : decode cX3_digest 224 = .ok (.iload 4, 2) := by decide +kernel
theorem dX3_digest_226 : decode cX3_digest 226 = .ok (.iaload, 1) := by decide +kernel
theorem dX3_digest_227 : decode cX3_digest 227 = .ok (.iastore, 1) := by decide +kernel
theorem dX3_digest_228 : decode cX3_digest 228 = .ok (.dup, 1) := by decide +kernel
theorem dX3_digest_229 : decode cX3_digest 229 = .ok (.iconst 2, 1) := by decide +kernel
theorem dX3_digest_230 : decode cX3_digest 230 = .ok (.aload_n 0, 1) := by decide +kernel
theorem dX3_digest_231 : decode cX3_digest 231 = .ok (.getfield 20, 3) := by decide +kernel
theorem dX3_digest_234 : decode cX3_digest 234 = .ok (.iload 4, 2) := by decide +kernel
theorem dX3_digest_236 : decode cX3_digest 236 = .ok (.iaload, 1) := by decide +kernel
theorem dX3_digest_237 : decode cX3_digest 237 = .ok (.iastore, 1) := by decide +kernel
theorem dX3_digest_238 : decode cX3_digest 238 = .ok (.dup, 1) := by decide +kernel
theorem dX3_digest_239 : decode cX3_digest 239 = .ok (.iconst 3, 1) := by decide +kernel
theorem dX3_digest_240 : decode cX3_digest 240 = .ok (.aload_n 0, 1) := by decide +kernel
theorem dX3_digest_241 : decode cX3_digest 241 = .ok (.getfield 23, 3) := by decide +kernel
theorem dX3_digest_244 : decode cX3_digest 244 = .ok (.iload 4, 2) := by decide +kernel
theorem dX3_digest_246 : decode cX3_digest 246 = .ok (.iaload, 1) := by decide +kernel
theorem dX3_digest_247 : decode cX3_digest 247 = .ok (.iastore, 1) := by decide +kernel
theorem dX3_digest_248 : decode cX3_digest 248 = .ok (.dup, 1) := by decide +kernel
theorem dX3_digest_249 : decode cX3_digest 249 = .ok (.iconst 4, 1) := by decide +kernel
theorem dX3_digest_250 : decode cX3_digest 250 = .ok (.aload_n 0, 1) := by decide +kernel
theorem dX3_digest_251 : decode cX3_digest 251 = .ok (.iload 4, 2) := by decide +kernel
theorem dX3_digest_253 : decode cX3_digest 253 = .ok (.invokevirtual 132, 3) := by decide +kernel
theorem dX3_digest_256 : decode cX3_digest 256 = .ok (.iastore, 1) := by decide +kernel
theorem dX3_digest_257 : decode cX3_digest 257 = .ok (.dup, 1) := by decide +kernel
theorem dX3_digest_258 : decode cX3_digest 258 = .ok (.iconst 5, 1) := by decide +kernel
theorem dX3_digest_259 : decode cX3_digest 259 = .ok (.aload_n 0, 1) := by decide +kernel
theorem dX3_digest_260 : decode cX3_digest 260 = .ok (.iload 4, 2) := by decide +kernel
theorem dX3_digest_262 : decode cX3_digest 262 = .ok (.invokevirtual 135, 3) := by decide +kernel
theorem dX3_digest_265 : decode cX3_digest 265 = .ok (.iastore, 1) := by decide +kernel
theorem dX3_digest_266 : decode cX3_digest 266 = .ok (.dup, 1) := by decide +kernel
theorem dX3_digest_267 : decode cX3_digest 267 = .ok (.bipush 6, 2) := by decide +kernel
theorem dX3_digest_269 : decode cX3_digest 269 = .ok (.aload_n 0, 1) := by decide +kernel
theorem dX3_digest_270 : decode cX3_digest 270 = .ok (.getfield 26, 3) := by decide +kernel
theorem dX3_digest_273 : decode cX3_digest 273 = .ok (.iload 4, 2) := by decide +kernel
theorem dX3_digest_275 : decode cX3_digest 275 = .ok (.iaload, 1) := by decide +kernel
theorem dX3_digest_276 : decode cX3_digest 276 = .ok (.iastore, 1) := by decide +kernel
theorem dX3_digest_277 : decode cX3_digest 277 = .ok (.dup, 1) := by decide +kernel
theorem dX3_digest_278 : decode cX3_digest 278 = .ok (.bipush 7, 2) := by decide +kernel
theorem dX3_digest_280 : decode cX3_digest 280 = .ok (.aload_n 0, 1) := by decide +kernel
theorem dX3_digest_281 : decode cX3_digest 281 = .ok (.iload 4, 2) := by decide +kernel
theorem dX3_digest_283 : decode cX3_digest 283 = .ok (.aload_n 0, 1) := by decide +kernel
theorem dX3_digest_284 : decode cX3_digest 284 = .ok (.getfield 42, 3) := by decide +kernel
theorem dX3_digest_287 : decode cX3_digest 287 = .ok (.invokevirtual 122, 3) := by decide +kernel
theorem dX3_digest_290 : decode cX3_digest 290 = .ok (.iastore, 1) := by decide +kernel
theorem dX3_digest_291 : decode cX3_digest 291 = .ok (.dup, 1) := by decide +kernel
theorem dX3_digest_292 : decode cX3_digest 292 = .ok (.bipush 8, 2) := by decide +kernel
theorem dX3_digest_294 : decode cX3_digest 294 = .ok (.aload_n 0, 1) := by decide +kernel
theorem dX3_digest_295 : decode cX3_digest 295 = .ok (.iload 4, 2) := by decide +kernel
theorem dX3_digest_297 : decode cX3_digest 297 = .ok (.aload_n 0, 1) := by decide +kernel
theorem dX3_digest_298 : decode cX3_digest 298 = .ok (.getfield 45, 3) := by decide +kernel
theorem dX3_digest_301 : decode cX3_digest 301 = .ok (.invokevirtual 116, 3) := by decide +kernel
theorem dX3_digest_304 : decode cX3_digest 304 = .ok (.iastore, 1) := by decide +kernel
theorem dX3_digest_305 : decode cX3_digest 305 = .ok (.dup, 1) := by decide +kernel
theorem dX3_digest_306 : decode cX3_digest 306 = .ok (.bipush 9, 2) := by decide +kernel
theorem dX3_digest_308 : decode cX3_digest 308 = .ok (.aload_n 0, 1) := by decide +kernel
theorem dX3_digest_309 : decode cX3_digest 309 = .ok (.iload 4, 2) := by decide +kernel
theorem dX3_digest_311 : decode cX3_digest 311 = .ok (.aload_n 0, 1) := by decide +kernel
theorem dX3_digest_312 : decode cX3_digest 312 = .ok (.getfield 45, 3) := by decide +kernel
theorem dX3_digest_315 : decode cX3_digest 315 = .ok (.invokevirtual 141, 3) := by decide +kernel
theorem dX3_digest_318 : decode cX3_digest 318 = .ok (.ifCond .eq 7, 3) := by decide +kernel
theorem dX3_digest_321 : decode cX3_digest 321 = .ok (.iconst 1, 1) := by decide +kernel
theorem dX3_digest_322 : decode cX3_digest 322 = .ok (.goto 4, 3) := by decide +kernel
theorem dX3_digest_325 : decode cX3_digest 325 = .ok (.iconst 0, 1) := by decide +kernel
theorem dX3_digest_326 : decode cX3_digest 326 = .ok (.iastore, 1) := by decide +kernel
theorem dX3_digest_327 : decode cX3_digest 327 = .ok (.astore 5, 2) := by decide +kernel
theorem dX3_digest_329 : decode cX3_digest 329 = .ok (.aload 5, 2) := by decide +kernel
theorem dX3_digest_331 : decode cX3_digest 331 = .ok (.astore 6, 2) := by decide +kernel
theorem dX3_digest_333 : decode cX3_digest 333 = .ok (.aload 6, 2) := by decide +kernel
theorem dX3_digest_335 : decode cX3_digest 335 = .ok (.arraylength, 1) := by decide +kernel
theorem dX3_digest_336 : decode cX3_digest 336 = .ok (.istore 7, 2) := by decide +kernel
theorem dX3_digest_338 : decode cX3_digest 338 = .ok (.iconst 0, 1) := by decide +kernel
theorem dX3_digest_339 : decode cX3_digest 339 = .ok (.istore 8, 2) := by decide +kernel
theorem dX3_digest_341 : decode cX3_digest 341 = .ok (.iload 8, 2) := by decide +kernel
theorem dX3_digest_343 : decode cX3_digest 343 = .ok (.iload 7, 2) := by decide +kernel
theorem dX3_digest_345 : decode cX3_digest 345 = .ok (.if_icmp .ge 26, 3) := by decide +kernel
theorem dX3_digest_348 : decode cX3_digest 348 = .ok (.aload 6, 2) := by decide +kernel
theorem dX3_digest_350 : decode cX3_digest 350 = .ok (.iload 8, 2) := by decide +kernel
theorem dX3_digest_352 : decode cX3_digest 352 = .ok (.iaload, 1) := by decide +kernel
theorem dX3_digest_353 : decode cX3_digest 353 = .ok (.istore 9, 2) := by decide +kernel
theorem dX3_digest_355 : decode cX3_digest 355 = .ok (.lload_n 2, 1) := by decide +kernel
theorem dX3_digest_356 : decode cX3_digest 356 = .ok (.ldc2_w 152, 3) := by decide +kernel
theorem dX3_digest_359 : decode cX3_digest 359 = .ok (.lmul, 1) := by decide +kernel
theorem dX3_digest_360 : decode cX3_digest 360 = .ok (.iload 9, 2) := by decide +kernel
theorem dX3_digest_362 : decode cX3_digest 362 = .ok (.i2l, 1) := by decide +kernel
theorem dX3_digest_363 : decode cX3_digest 363 = .ok (.ladd, 1) := by decide +kernel
theorem dX3_digest_364 : decode cX3_digest 364 = .ok (.lstore_n 2, 1) := by decide +kernel
theorem dX3_digest_365 : decode cX3_digest 365 = .ok (.iinc 8 1, 3) := by decide +kernel
theorem dX3_digest_368 : decode cX3_digest 368 = .ok (.goto (-27), 3) := by decide +kernel
theorem dX3_digest_371 : decode cX3_digest 371 = .ok (.iinc 4 1, 3) := by decide +kernel
theorem dX3_digest_374 : decode cX3_digest 374 = .ok (.goto (-179), 3) := by decide +kernel
theorem dX3_digest_377 : decode cX3_digest 377 = .ok (.lload_n 2, 1) := by decide +kernel
theorem dX3_digest_378 : decode cX3_digest 378 = .ok (.lreturn, 1) := by decide +kernel
end
section
theorem dL_setPiece_0 : decode cL_setPiece 0 = .ok (.aload_n 3, 1) := by decide +kernel
theorem dL_setPiece_1 : decode cL_setPiece 1 = .ok (.iconst 0, 1) := by decide +kernel
theorem dL_setPiece_2 : decode cL_setPiece 2 = .ok (.aload_n 0, 1) := by decide +kernel
theorem dL_setPiece_3 : decode cL_setPiece 3 = .ok (.iload_n 1, 1) := by decide +kernel
theorem dL_setPiece_4 : decode cL_setPiece 4 = .ok (.iload_n 2, 1) := by decide +kernel
theorem dL_setPiece_5 : decode cL_setPiece 5 = .ok (.invokevirtual 7, 3) := by decide +kernel
theorem dL_setPiece_8 : decode cL_setPiece 8 = .ok (.i2l, 1) := by decide +kernel
theorem dL_setPiece_9 : decode cL_setPiece 9 = .ok (.lastore, 1) := by decide +kernel
theorem dL_setPiece_10 : decode cL_setPiece 10 = .ok (.goto 11, 3) := by decide +kernel
theorem dL_setPiece_13 : decode cL_setPiece 13 = .ok (.astore 4, 2) := by decide +kernel
theorem dL_setPiece_15 : decode cL_setPiece 15 = .ok (.iconst 1, 1) := by decide +kernel
theorem dL_setPiece_16 : decode cL_setPiece 16 = .ok (.ireturn, 1) := by decide +kernel
theorem dL_setPiece_17 : decode cL_setPiece 17 = .ok (.astore 4, 2) := by decide +kernel
theorem dL_setPiece_19 : decode cL_setPiece 19 = .ok (.iconst 2, 1) := by decide +kernel
theorem dL_setPiece_20 : decode cL_setPiece 20 = .ok (.ireturn, 1) := by decide +kernel
theorem dL_setPiece_21 : decode cL_setPiece 21 = .ok (.iconst 0, 1) := by decide +kernel
theorem dL_setPiece_22 : decode cL_setPiece 22 = .ok (.ireturn, 1) := by decide +kernel
theorem dL_paw_0 : decode cL_paw 0 = .ok (.aload_n 3, 1) := by decide +kernel
theorem dL_paw_1 : decode cL_paw 1 = .ok (.iconst 0, 1) := by decide +kernel
theorem dL_paw_2 : decode cL_paw 2 = .ok (.aload_n 0, 1) := by decide +kernel
theorem dL_paw_3 : decode cL_paw 3 = .ok (.iload_n 1, 1) := by decide +kernel
theorem dL_paw_4 : decode cL_paw 4 = .ok (.iload_n 2, 1) := by decide +kernel
theorem dL_paw_5 : decode cL_paw 5 = .ok (.invokevirtual 17, 3) := by decide +kernel
theorem dL_paw_8 : decode cL_paw 8 = .ok (.i2l, 1) := by decide +kernel
theorem dL_paw_9 : decode cL_paw 9 = .ok (.lastore, 1) := by decide +kernel
theorem dL_paw_10 : decode cL_paw 10 = .ok (.goto 11, 3) := by decide +kernel
theorem dL_paw_13 : decode cL_paw 13 = .ok (.astore 4, 2) := by decide +kernel
theorem dL_paw_15 : decode cL_paw 15 = .ok (.iconst 1, 1) := by decide +kernel
theorem dL_paw_16 : decode cL_paw 16 = .ok (.ireturn, 1) := by decide +kernel
theorem dL_paw_17 : decode cL_paw 17 = .ok (.astore 4, 2) := by decide +kernel
theorem dL_paw_19 : decode cL_paw 19 = .ok (.iconst 2, 1) := by decide +kernel
theorem dL_paw_20 : decode cL_paw 20 = .ok (.ireturn, 1) := by decide +kernel
theorem dL_paw_21 : decode cL_paw 21 = .ok (.iconst 0, 1) := by decide +kernel
theorem dL_paw_22 : decode cL_paw 22 = .ok (.ireturn, 1) := by decide +kernel
theorem dL_undo_0 : decode cL_undo 0 = .ok (.aload_n 2, 1) := by decide +kernel
theorem dL_undo_1 : decode cL_undo 1 = .ok (.iconst 0, 1) := by decide +kernel
theorem dL_undo_2 : decode cL_undo 2 = .ok (.aload_n 0, 1) := by decide +kernel
theorem dL_undo_3 : decode cL_undo 3 = .ok (.iload_n 1, 1) := by decide +kernel
theorem dL_undo_4 : decode cL_undo 4 = .ok (.invokevirtual 20, 3) := by decide +kernel
theorem dL_undo_7 : decode cL_undo 7 = .ok (.i2l, 1) := by decide +kernel
theorem dL_undo_8 : decode cL_undo 8 = .ok (.lastore, 1) := by decide +kernel
theorem dL_undo_9 : decode cL_undo 9 = .ok (.goto 9, 3) := by decide +kernel
theorem dL_undo_12 : decode cL_undo 12 = .ok (.astore_n 3, 1) := by decide +kernel
theorem dL_undo_13 : decode cL_undo 13 = .ok (.iconst 1, 1) := by decide +kernel
theorem dL_undo_14 : decode cL_undo 14 = .ok (.ireturn, 1) := by decide +kernel
theorem dL_undo_15 : decode cL_undo 15 = .ok (.astore_n 3, 1) := by decide +kernel
theorem dL_undo_16 : decode cL_undo 16 = .ok (.iconst 2, 1) := by decide +kernel
theorem dL_undo_17 : decode cL_undo 17 = .ok (.ireturn, 1) := by decide +kernel
theorem dL_undo_18 : decode cL_undo 18 = .ok (.iconst 0, 1) := by decide +kernel
theorem dL_undo_19 : decode cL_undo 19 = .ok (.ireturn, 1) := by decide +kernel
theorem dL_redo_0 : decode cL_redo 0 = .ok (.aload_n 2, 1) := by decide +kernel
theorem dL_redo_1 : decode cL_redo 1 = .ok (.iconst 0, 1) := by decide +kernel
theorem dL_redo_2 : decode cL_redo 2 = .ok (.aload_n 0, 1) := by decide +kernel
theorem dL_redo_3 : decode cL_redo 3 = .ok (.iload_n 1, 1) := by decide +kernel
theorem dL_redo_4 : decode cL_redo 4 = .ok (.invokevirtual 24, 3) := by decide +kernel
theorem dL_redo_7 : decode cL_redo 7 = .ok (.i2l, 1) := by decide +kernel
theorem dL_redo_8 : decode cL_redo 8 = .ok (.lastore, 1) := by decide +kernel
theorem dL_redo_9 : decode cL_redo 9 = .ok (.goto 9, 3) := by decide +kernel
theorem dL_redo_12 : decode cL_redo 12 = .ok (.astore_n 3, 1) := by decide +kernel
theorem dL_redo_13 : decode cL_redo 13 = .ok (.iconst 1, 1) := by decide +kernel
theorem dL_redo_14 : decode cL_redo 14 = .ok (.ireturn, 1) := by decide +kernel
theorem dL_redo_15 : decode cL_redo 15 = .ok (.astore_n 3, 1) := by decide +kernel
theorem dL_redo_16 : decode cL_redo 16 = .ok (.iconst 2, 1) := by decide +kernel
theorem dL_redo_17 : decode cL_redo 17 = .ok (.ireturn, 1) := by decide +kernel
theorem dL_redo_18 : decode cL_redo 18 = .ok (.iconst 0, 1) := by decide +kernel
theorem dL_redo_19 : decode cL_redo 19 = .ok (.ireturn, 1) := by decide +kernel
theorem dL_goTo_0 : decode cL_goTo 0 = .ok (.aload_n 2, 1) := by decide +kernel
theorem dL_goTo_1 : decode cL_goTo 1 = .ok (.iconst 0, 1) := by decide +kernel
theorem dL_goTo_2 : decode cL_goTo 2 = .ok (.aload_n 0, 1) := by decide +kernel
theorem dL_goTo_3 : decode cL_goTo 3 = .ok (.iload_n 1, 1) := by decide +kernel
theorem dL_goTo_4 : decode cL_goTo 4 = .ok (.invokevirtual 27, 3) := by decide +kernel
theorem dL_goTo_7 : decode cL_goTo 7 = .ok (.i2l, 1) := by decide +kernel
theorem dL_goTo_8 : decode cL_goTo 8 = .ok (.lastore, 1) := by decide +kernel
theorem dL_goTo_9 : decode cL_goTo 9 = .ok (.goto 6, 3) := by decide +kernel
theorem dL_goTo_12 : decode cL_goTo 12 = .ok (.astore_n 3, 1) := by decide +kernel
theorem dL_goTo_13 : decode cL_goTo 13 = .ok (.iconst 1, 1) := by decide +kernel
theorem dL_goTo_14 : decode cL_goTo 14 = .ok (.ireturn, 1) := by decide +kernel
theorem dL_goTo_15 : decode cL_goTo 15 = .ok (.iconst 0, 1) := by decide +kernel
theorem dL_goTo_16 : decode cL_goTo 16 = .ok (.ireturn, 1) := by decide +kernel
theorem dL_placeOf_0 : decode cL_placeOf 0 = .ok (.aload_n 2, 1) := by decide +kernel
theorem dL_placeOf_1 : decode cL_placeOf 1 = .ok (.iconst 0, 1) := by decide +kernel
theorem dL_placeOf_2 : decode cL_placeOf 2 = .ok (.aload_n 0, 1) := by decide +kernel
theorem dL_placeOf_3 : decode cL_placeOf 3 = .ok (.iload_n 1, 1) := by decide +kernel
theorem dL_placeOf_4 : decode cL_placeOf 4 = .ok (.invokevirtual 32, 3) := by decide +kernel
theorem dL_placeOf_7 : decode cL_placeOf 7 = .ok (.i2l, 1) := by decide +kernel
theorem dL_placeOf_8 : decode cL_placeOf 8 = .ok (.lastore, 1) := by decide +kernel
theorem dL_placeOf_9 : decode cL_placeOf 9 = .ok (.goto 6, 3) := by decide +kernel
theorem dL_placeOf_12 : decode cL_placeOf 12 = .ok (.astore_n 3, 1) := by decide +kernel
theorem dL_placeOf_13 : decode cL_placeOf 13 = .ok (.iconst 1, 1) := by decide +kernel
theorem dL_placeOf_14 : decode cL_placeOf 14 = .ok (.ireturn, 1) := by decide +kernel
theorem dL_placeOf_15 : decode cL_placeOf 15 = .ok (.iconst 0, 1) := by decide +kernel
theorem dL_placeOf_16 : decode cL_placeOf 16 = .ok (.ireturn, 1) := by decide +kernel
theorem dL_lies_0 : decode cL_lies 0 = .ok (.aload_n 2, 1) := by decide +kernel
theorem dL_lies_1 : decode cL_lies 1 = .ok (.iconst 0, 1) := by decide +kernel
theorem dL_lies_2 : decode cL_lies 2 = .ok (.aload_n 0, 1) := by decide +kernel
theorem dL_lies_3 : decode cL_lies 3 = .ok (.iload_n 1, 1) := by decide +kernel
theorem dL_lies_4 : decode cL_lies 4 = .ok (.invokevirtual 35, 3) := by decide +kernel
theorem dL_lies_7 : decode cL_lies 7 = .ok (.ifCond .eq 7, 3) := by decide +kernel
theorem dL_lies_10 : decode cL_lies 10 = .ok (.lconst 1, 1) := by decide +kernel
theorem dL_lies_11 : decode cL_lies 11 = .ok (.goto 4, 3) := by decide +kernel
theorem dL_lies_14 : decode cL_lies 14 = .ok (.lconst 0, 1) := by decide +kernel
theorem dL_lies_15 : decode cL_lies 15 = .ok (.lastore, 1) := by decide +kernel
theorem dL_lies_16 : decode cL_lies 16 = .ok (.goto 6, 3) := by decide +kernel
theorem dL_lies_19 : decode cL_lies 19 = .ok (.astore_n 3, 1) := by decide +kernel
theorem dL_lies_20 : decode cL_lies 20 = .ok (.iconst 1, 1) := by decide +kernel
theorem dL_lies_21 : decode cL_lies 21 = .ok (.ireturn, 1) := by decide +kernel
theorem dL_lies_22 : decode cL_lies 22 = .ok (.iconst 0, 1) := by decide +kernel
theorem dL_lies_23 : decode cL_lies 23 = .ok (.ireturn, 1) := by decide +kernel
theorem dL_pieceAt_0 : decode cL_pieceAt 0 = .ok (.aload_n 3, 1) := by decide +kernel
theorem dL_pieceAt_1 : decode cL_pieceAt 1 = .ok (.iconst 0, 1) := by decide +kernel
theorem dL_pieceAt_2 : decode cL_pieceAt 2 = .ok (.aload_n 0, 1) := by decide +kernel
theorem dL_pieceAt_3 : decode cL_pieceAt 3 = .ok (.iload_n 1, 1) := by decide +kernel
theorem dL_pieceAt_4 : decode cL_pieceAt 4 = .ok (.iload_n 2, 1) := by decide +kernel
theorem dL_pieceAt_5 : decode cL_pieceAt 5 = .ok (.invokevirtual 39, 3) := by decide +kernel
theorem dL_pieceAt_8 : decode cL_pieceAt 8 = .ok (.i2l, 1) := by decide +kernel
theorem dL_pieceAt_9 : decode cL_pieceAt 9 = .ok (.lastore, 1) := by decide +kernel
theorem dL_pieceAt_10 : decode cL_pieceAt 10 = .ok (.goto 7, 3) := by decide +kernel
theorem dL_pieceAt_13 : decode cL_pieceAt 13 = .ok (.astore 4, 2) := by decide +kernel
theorem dL_pieceAt_15 : decode cL_pieceAt 15 = .ok (.iconst 1, 1) := by decide +kernel
theorem dL_pieceAt_16 : decode cL_pieceAt 16 = .ok (.ireturn, 1) := by decide +kernel
theorem dL_pieceAt_17 : decode cL_pieceAt 17 = .ok (.iconst 0, 1) := by decide +kernel
theorem dL_pieceAt_18 : decode cL_pieceAt 18 = .ok (.ireturn, 1) := by decide +kernel
theorem dL_canDo_0 : decode cL_canDo 0 = .ok (.aload_n 3, 1) := by decide +kernel
theorem dL_canDo_1 : decode cL_canDo 1 = .ok (.iconst 0, 1) := by decide +kernel
theorem dL_canDo_2 : decode cL_canDo 2 = .ok (.aload_n 0, 1) := by decide +kernel
theorem dL_canDo_3 : decode cL_canDo 3 = .ok (.iload_n 1, 1) := by decide +kernel
theorem dL_canDo_4 : decode cL_canDo 4 = .ok (.iload_n 2, 1) := by decide +kernel
theorem dL_canDo_5 : decode cL_canDo 5 = .ok (.invokevirtual 42, 3) := by decide +kernel
theorem dL_canDo_8 : decode cL_canDo 8 = .ok (.ifCond .eq 7, 3) := by decide +kernel
theorem dL_canDo_11 : decode cL_canDo 11 = .ok (.lconst 1, 1) := by decide +kernel
theorem dL_canDo_12 : decode cL_canDo 12 = .ok (.goto 4, 3) := by decide +kernel
theorem dL_canDo_15 : decode cL_canDo 15 = .ok (.lconst 0, 1) := by decide +kernel
theorem dL_canDo_16 : decode cL_canDo 16 = .ok (.lastore, 1) := by decide +kernel
theorem dL_canDo_17 : decode cL_canDo 17 = .ok (.goto 7, 3) := by decide +kernel
theorem dL_canDo_20 : decode cL_canDo 20 = .ok (.astore 4, 2) := by decide +kernel
theorem dL_canDo_22 : decode cL_canDo 22 = .ok (.iconst 1, 1) := by decide +kernel
theorem dL_canDo_23 : decode cL_canDo 23 = .ok (.ireturn, 1) := by decide +kernel
theorem dL_canDo_24 : decode cL_canDo 24 = .ok (.iconst 0, 1) := by decide +kernel
theorem dL_canDo_25 : decode cL_canDo 25 = .ok (.ireturn, 1) := by decide +kernel
theorem dL_hangsOn_0 : decode cL_hangsOn 0 = .ok (.aload_n 2, 1) := by decide +kernel
theorem dL_hangsOn_1 : decode cL_hangsOn 1 = .ok (.iconst 0, 1) := by decide +kernel
theorem dL_hangsOn_2 : decode cL_hangsOn 2 = .ok (.aload_n 0, 1) := by decide +kernel
theorem dL_hangsOn_3 : decode cL_hangsOn 3 = .ok (.iload_n 1, 1) := by decide +kernel
theorem dL_hangsOn_4 : decode cL_hangsOn 4 = .ok (.invokevirtual 46, 3) := by decide +kernel
theorem dL_hangsOn_7 : decode cL_hangsOn 7 = .ok (.i2l, 1) := by decide +kernel
theorem dL_hangsOn_8 : decode cL_hangsOn 8 = .ok (.lastore, 1) := by decide +kernel
theorem dL_hangsOn_9 : decode cL_hangsOn 9 = .ok (.goto 6, 3) := by decide +kernel
theorem dL_hangsOn_12 : decode cL_hangsOn 12 = .ok (.astore_n 3, 1) := by decide +kernel
theorem dL_hangsOn_13 : decode cL_hangsOn 13 = .ok (.iconst 1, 1) := by decide +kernel
theorem dL_hangsOn_14 : decode cL_hangsOn 14 = .ok (.ireturn, 1) := by decide +kernel
theorem dL_hangsOn_15 : decode cL_hangsOn 15 = .ok (.iconst 0, 1) := by decide +kernel
theorem dL_hangsOn_16 : decode cL_hangsOn 16 = .ok (.ireturn, 1) := by decide +kernel
theorem dL_kindOf_0 : decode cL_kindOf 0 = .ok (.aload_n 2, 1) := by decide +kernel
theorem dL_kindOf_1 : decode cL_kindOf 1 = .ok (.iconst 0, 1) := by decide +kernel
theorem dL_kindOf_2 : decode cL_kindOf 2 = .ok (.aload_n 0, 1) := by decide +kernel
theorem dL_kindOf_3 : decode cL_kindOf 3 = .ok (.iload_n 1, 1) := by decide +kernel
theorem dL_kindOf_4 : decode cL_kindOf 4 = .ok (.invokevirtual 49, 3) := by decide +kernel
theorem dL_kindOf_7 : decode cL_kindOf 7 = .ok (.i2l, 1) := by decide +kernel
theorem dL_kindOf_8 : decode cL_kindOf 8 = .ok (.lastore, 1) := by decide +kernel
theorem dL_kindOf_9 : decode cL_kindOf 9 = .ok (.goto 6, 3) := by decide +kernel
end
section
theorem dL_kindOf_12 : decode cL_kindOf 12 = .ok (.astore_n 3, 1) := by decide +kernel
theorem dL_kindOf_13 : decode cL_kindOf 13 = .ok (.iconst 1, 1) := by decide +kernel
theorem dL_kindOf_14 : decode cL_kindOf 14 = .ok (.ireturn, 1) := by decide +kernel
theorem dL_kindOf_15 : decode cL_kindOf 15 = .ok (.iconst 0, 1) := by decide +kernel
theorem dL_kindOf_16 : decode cL_kindOf 16 = .ok (.ireturn, 1) := by decide +kernel
theorem dL_numberOf_0 : decode cL_numberOf 0 = .ok (.aload_n 2, 1) := by decide +kernel
theorem dL_numberOf_1 : decode cL_numberOf 1 = .ok (.iconst 0, 1) := by decide +kernel
theorem dL_numberOf_2 : decode cL_numberOf 2 = .ok (.aload_n 0, 1) := by decide +kernel
theorem dL_numberOf_3 : decode cL_numberOf 3 = .ok (.iload_n 1, 1) := by decide +kernel
theorem dL_numberOf_4 : decode cL_numberOf 4 = .ok (.invokevirtual 52, 3) := by decide +kernel
theorem dL_numberOf_7 : decode cL_numberOf 7 = .ok (.i2l, 1) := by decide +kernel
theorem dL_numberOf_8 : decode cL_numberOf 8 = .ok (.lastore, 1) := by decide +kernel
theorem dL_numberOf_9 : decode cL_numberOf 9 = .ok (.goto 6, 3) := by decide +kernel
theorem dL_numberOf_12 : decode cL_numberOf 12 = .ok (.astore_n 3, 1) := by decide +kernel
theorem dL_numberOf_13 : decode cL_numberOf 13 = .ok (.iconst 1, 1) := by decide +kernel
theorem dL_numberOf_14 : decode cL_numberOf 14 = .ok (.ireturn, 1) := by decide +kernel
theorem dL_numberOf_15 : decode cL_numberOf 15 = .ok (.iconst 0, 1) := by decide +kernel
theorem dL_numberOf_16 : decode cL_numberOf 16 = .ok (.ireturn, 1) := by decide +kernel
theorem dL_depthOf_0 : decode cL_depthOf 0 = .ok (.aload_n 2, 1) := by decide +kernel
theorem dL_depthOf_1 : decode cL_depthOf 1 = .ok (.iconst 0, 1) := by decide +kernel
theorem dL_depthOf_2 : decode cL_depthOf 2 = .ok (.aload_n 0, 1) := by decide +kernel
theorem dL_depthOf_3 : decode cL_depthOf 3 = .ok (.iload_n 1, 1) := by decide +kernel
theorem dL_depthOf_4 : decode cL_depthOf 4 = .ok (.invokevirtual 55, 3) := by decide +kernel
theorem dL_depthOf_7 : decode cL_depthOf 7 = .ok (.i2l, 1) := by decide +kernel
theorem dL_depthOf_8 : decode cL_depthOf 8 = .ok (.lastore, 1) := by decide +kernel
theorem dL_depthOf_9 : decode cL_depthOf 9 = .ok (.goto 6, 3) := by decide +kernel
theorem dL_depthOf_12 : decode cL_depthOf 12 = .ok (.astore_n 3, 1) := by decide +kernel
theorem dL_depthOf_13 : decode cL_depthOf 13 = .ok (.iconst 1, 1) := by decide +kernel
theorem dL_depthOf_14 : decode cL_depthOf 14 = .ok (.ireturn, 1) := by decide +kernel
theorem dL_depthOf_15 : decode cL_depthOf 15 = .ok (.iconst 0, 1) := by decide +kernel
theorem dL_depthOf_16 : decode cL_depthOf 16 = .ok (.ireturn, 1) := by decide +kernel
theorem dL_branches_0 : decode cL_branches 0 = .ok (.aload_n 2, 1) := by decide +kernel
theorem dL_branches_1 : decode cL_branches 1 = .ok (.iconst 0, 1) := by decide +kernel
theorem dL_branches_2 : decode cL_branches 2 = .ok (.aload_n 0, 1) := by decide +kernel
theorem dL_branches_3 : decode cL_branches 3 = .ok (.iload_n 1, 1) := by decide +kernel
theorem dL_branches_4 : decode cL_branches 4 = .ok (.invokevirtual 58, 3) := by decide +kernel
theorem dL_branches_7 : decode cL_branches 7 = .ok (.i2l, 1) := by decide +kernel
theorem dL_branches_8 : decode cL_branches 8 = .ok (.lastore, 1) := by decide +kernel
theorem dL_branches_9 : decode cL_branches 9 = .ok (.goto 6, 3) := by decide +kernel
theorem dL_branches_12 : decode cL_branches 12 = .ok (.astore_n 3, 1) := by decide +kernel
theorem dL_branches_13 : decode cL_branches 13 = .ok (.iconst 1, 1) := by decide +kernel
theorem dL_branches_14 : decode cL_branches 14 = .ok (.ireturn, 1) := by decide +kernel
theorem dL_branches_15 : decode cL_branches 15 = .ok (.iconst 0, 1) := by decide +kernel
theorem dL_branches_16 : decode cL_branches 16 = .ok (.ireturn, 1) := by decide +kernel
theorem dL_behind_0 : decode cL_behind 0 = .ok (.aload_n 2, 1) := by decide +kernel
theorem dL_behind_1 : decode cL_behind 1 = .ok (.iconst 0, 1) := by decide +kernel
theorem dL_behind_2 : decode cL_behind 2 = .ok (.aload_n 0, 1) := by decide +kernel
theorem dL_behind_3 : decode cL_behind 3 = .ok (.iload_n 1, 1) := by decide +kernel
theorem dL_behind_4 : decode cL_behind 4 = .ok (.invokevirtual 61, 3) := by decide +kernel
theorem dL_behind_7 : decode cL_behind 7 = .ok (.i2l, 1) := by decide +kernel
theorem dL_behind_8 : decode cL_behind 8 = .ok (.lastore, 1) := by decide +kernel
theorem dL_behind_9 : decode cL_behind 9 = .ok (.goto 6, 3) := by decide +kernel
theorem dL_behind_12 : decode cL_behind 12 = .ok (.astore_n 3, 1) := by decide +kernel
theorem dL_behind_13 : decode cL_behind 13 = .ok (.iconst 1, 1) := by decide +kernel
theorem dL_behind_14 : decode cL_behind 14 = .ok (.ireturn, 1) := by decide +kernel
theorem dL_behind_15 : decode cL_behind 15 = .ok (.iconst 0, 1) := by decide +kernel
theorem dL_behind_16 : decode cL_behind 16 = .ok (.ireturn, 1) := by decide +kernel
theorem dL_again_0 : decode cL_again 0 = .ok (.aload_n 2, 1) := by decide +kernel
theorem dL_again_1 : decode cL_again 1 = .ok (.iconst 0, 1) := by decide +kernel
theorem dL_again_2 : decode cL_again 2 = .ok (.aload_n 0, 1) := by decide +kernel
theorem dL_again_3 : decode cL_again 3 = .ok (.iload_n 1, 1) := by decide +kernel
theorem dL_again_4 : decode cL_again 4 = .ok (.invokevirtual 64, 3) := by decide +kernel
theorem dL_again_7 : decode cL_again 7 = .ok (.i2l, 1) := by decide +kernel
theorem dL_again_8 : decode cL_again 8 = .ok (.lastore, 1) := by decide +kernel
theorem dL_again_9 : decode cL_again 9 = .ok (.goto 6, 3) := by decide +kernel
theorem dL_again_12 : decode cL_again 12 = .ok (.astore_n 3, 1) := by decide +kernel
theorem dL_again_13 : decode cL_again 13 = .ok (.iconst 1, 1) := by decide +kernel
theorem dL_again_14 : decode cL_again 14 = .ok (.ireturn, 1) := by decide +kernel
theorem dL_again_15 : decode cL_again 15 = .ok (.iconst 0, 1) := by decide +kernel
theorem dL_again_16 : decode cL_again 16 = .ok (.ireturn, 1) := by decide +kernel
theorem dL_meet_0 : decode cL_meet 0 = .ok (.aload_n 3, 1) := by decide +kernel
theorem dL_meet_1 : decode cL_meet 1 = .ok (.iconst 0, 1) := by decide +kernel
theorem dL_meet_2 : decode cL_meet 2 = .ok (.aload_n 0, 1) := by decide +kernel
theorem dL_meet_3 : decode cL_meet 3 = .ok (.iload_n 1, 1) := by decide +kernel
theorem dL_meet_4 : decode cL_meet 4 = .ok (.iload_n 2, 1) := by decide +kernel
theorem dL_meet_5 : decode cL_meet 5 = .ok (.invokevirtual 67, 3) := by decide +kernel
theorem dL_meet_8 : decode cL_meet 8 = .ok (.i2l, 1) := by decide +kernel
theorem dL_meet_9 : decode cL_meet 9 = .ok (.lastore, 1) := by decide +kernel
theorem dL_meet_10 : decode cL_meet 10 = .ok (.goto 7, 3) := by decide +kernel
theorem dL_meet_13 : decode cL_meet 13 = .ok (.astore 4, 2) := by decide +kernel
theorem dL_meet_15 : decode cL_meet 15 = .ok (.iconst 1, 1) := by decide +kernel
theorem dL_meet_16 : decode cL_meet 16 = .ok (.ireturn, 1) := by decide +kernel
theorem dL_meet_17 : decode cL_meet 17 = .ok (.iconst 0, 1) := by decide +kernel
theorem dL_meet_18 : decode cL_meet 18 = .ok (.ireturn, 1) := by decide +kernel
theorem dL_apart_0 : decode cL_apart 0 = .ok (.aload_n 3, 1) := by decide +kernel
theorem dL_apart_1 : decode cL_apart 1 = .ok (.iconst 0, 1) := by decide +kernel
theorem dL_apart_2 : decode cL_apart 2 = .ok (.aload_n 0, 1) := by decide +kernel
theorem dL_apart_3 : decode cL_apart 3 = .ok (.iload_n 1, 1) := by decide +kernel
theorem dL_apart_4 : decode cL_apart 4 = .ok (.iload_n 2, 1) := by decide +kernel
theorem dL_apart_5 : decode cL_apart 5 = .ok (.invokevirtual 70, 3) := by decide +kernel
theorem dL_apart_8 : decode cL_apart 8 = .ok (.i2l, 1) := by decide +kernel
theorem dL_apart_9 : decode cL_apart 9 = .ok (.lastore, 1) := by decide +kernel
theorem dL_apart_10 : decode cL_apart 10 = .ok (.goto 7, 3) := by decide +kernel
theorem dL_apart_13 : decode cL_apart 13 = .ok (.astore 4, 2) := by decide +kernel
theorem dL_apart_15 : decode cL_apart 15 = .ok (.iconst 1, 1) := by decide +kernel
theorem dL_apart_16 : decode cL_apart 16 = .ok (.ireturn, 1) := by decide +kernel
theorem dL_apart_17 : decode cL_apart 17 = .ok (.iconst 0, 1) := by decide +kernel
theorem dL_apart_18 : decode cL_apart 18 = .ok (.ireturn, 1) := by decide +kernel
theorem dL_placeIn_0 : decode cL_placeIn 0 = .ok (.aload_n 3, 1) := by decide +kernel
theorem dL_placeIn_1 : decode cL_placeIn 1 = .ok (.iconst 0, 1) := by decide +kernel
theorem dL_placeIn_2 : decode cL_placeIn 2 = .ok (.aload_n 0, 1) := by decide +kernel
theorem dL_placeIn_3 : decode cL_placeIn 3 = .ok (.iload_n 1, 1) := by decide +kernel
theorem dL_placeIn_4 : decode cL_placeIn 4 = .ok (.iload_n 2, 1) := by decide +kernel
theorem dL_placeIn_5 : decode cL_placeIn 5 = .ok (.invokevirtual 73, 3) := by decide +kernel
theorem dL_placeIn_8 : decode cL_placeIn 8 = .ok (.i2l, 1) := by decide +kernel
theorem dL_placeIn_9 : decode cL_placeIn 9 = .ok (.lastore, 1) := by decide +kernel
theorem dL_placeIn_10 : decode cL_placeIn 10 = .ok (.goto 7, 3) := by decide +kernel
theorem dL_placeIn_13 : decode cL_placeIn 13 = .ok (.astore 4, 2) := by decide +kernel
theorem dL_placeIn_15 : decode cL_placeIn 15 = .ok (.iconst 1, 1) := by decide +kernel
theorem dL_placeIn_16 : decode cL_placeIn 16 = .ok (.ireturn, 1) := by decide +kernel
theorem dL_placeIn_17 : decode cL_placeIn 17 = .ok (.iconst 0, 1) := by decide +kernel
theorem dL_placeIn_18 : decode cL_placeIn 18 = .ok (.ireturn, 1) := by decide +kernel
theorem dL_lyingIn_0 : decode cL_lyingIn 0 = .ok (.aload_n 2, 1) := by decide +kernel
theorem dL_lyingIn_1 : decode cL_lyingIn 1 = .ok (.iconst 0, 1) := by decide +kernel
theorem dL_lyingIn_2 : decode cL_lyingIn 2 = .ok (.aload_n 0, 1) := by decide +kernel
theorem dL_lyingIn_3 : decode cL_lyingIn 3 = .ok (.iload_n 1, 1) := by decide +kernel
theorem dL_lyingIn_4 : decode cL_lyingIn 4 = .ok (.invokevirtual 76, 3) := by decide +kernel
theorem dL_lyingIn_7 : decode cL_lyingIn 7 = .ok (.i2l, 1) := by decide +kernel
theorem dL_lyingIn_8 : decode cL_lyingIn 8 = .ok (.lastore, 1) := by decide +kernel
theorem dL_lyingIn_9 : decode cL_lyingIn 9 = .ok (.goto 6, 3) := by decide +kernel
theorem dL_lyingIn_12 : decode cL_lyingIn 12 = .ok (.astore_n 3, 1) := by decide +kernel
theorem dL_lyingIn_13 : decode cL_lyingIn 13 = .ok (.iconst 1, 1) := by decide +kernel
theorem dL_lyingIn_14 : decode cL_lyingIn 14 = .ok (.ireturn, 1) := by decide +kernel
theorem dL_lyingIn_15 : decode cL_lyingIn 15 = .ok (.iconst 0, 1) := by decide +kernel
theorem dL_lyingIn_16 : decode cL_lyingIn 16 = .ok (.ireturn, 1) := by decide +kernel
theorem dL_areAlike_0 : decode cL_areAlike 0 = .ok (.aload_n 3, 1) := by decide +kernel
theorem dL_areAlike_1 : decode cL_areAlike 1 = .ok (.iconst 0, 1) := by decide +kernel
theorem dL_areAlike_2 : decode cL_areAlike 2 = .ok (.aload_n 0, 1) := by decide +kernel
theorem dL_areAlike_3 : decode cL_areAlike 3 = .ok (.iload_n 1, 1) := by decide +kernel
theorem dL_areAlike_4 : decode cL_areAlike 4 = .ok (.iload_n 2, 1) := by decide +kernel
theorem dL_areAlike_5 : decode cL_areAlike 5 = .ok (.invokevirtual 79, 3) := by decide +kernel
theorem dL_areAlike_8 : decode cL_areAlike 8 = .ok (.ifCond .eq 7, 3) := by decide +kernel
theorem dL_areAlike_11 : decode cL_areAlike 11 = .ok (.lconst 1, 1) := by decide +kernel
theorem dL_areAlike_12 : decode cL_areAlike 12 = .ok (.goto 4, 3) := by decide +kernel
theorem dL_areAlike_15 : decode cL_areAlike 15 = .ok (.lconst 0, 1) := by decide +kernel
theorem dL_areAlike_16 : decode cL_areAlike 16 = .ok (.lastore, 1) := by decide +kernel
theorem dL_areAlike_17 : decode cL_areAlike 17 = .ok (.goto 7, 3) := by decide +kernel
theorem dL_areAlike_20 : decode cL_areAlike 20 = .ok (.astore 4, 2) := by decide +kernel
theorem dL_areAlike_22 : decode cL_areAlike 22 = .ok (.iconst 1, 1) := by decide +kernel
theorem dL_areAlike_23 : decode cL_areAlike 23 = .ok (.ireturn, 1) := by decide +kernel
theorem dL_areAlike_24 : decode cL_areAlike 24 = .ok (.iconst 0, 1) := by decide +kernel
theorem dL_areAlike_25 : decode cL_areAlike 25 = .ok (.ireturn, 1) := by decide +kernel
theorem dL_law_0 : decode cL_law 0 = .ok (.new 8, 3) := by decide +kernel
theorem dL_law_3 : decode cL_law 3 = .ok (.dup, 1) := by decide +kernel
theorem dL_law_4 : decode cL_law 4 = .ok (.invokespecial 82, 3) := by decide +kernel
theorem dL_law_7 : decode cL_law 7 = .ok (.astore_n 1, 1) := by decide +kernel
theorem dL_law_8 : decode cL_law 8 = .ok (.new 83, 3) := by decide +kernel
theorem dL_law_11 : decode cL_law 11 = .ok (.dup, 1) := by decide +kernel
theorem dL_law_12 : decode cL_law 12 = .ok (.invokespecial 85, 3) := by decide +kernel
theorem dL_law_15 : decode cL_law 15 = .ok (.astore_n 2, 1) := by decide +kernel
theorem dL_law_16 : decode cL_law 16 = .ok (.iconst 1, 1) := by decide +kernel
theorem dL_law_17 : decode cL_law 17 = .ok (.newarray .long, 2) := by decide +kernel
theorem dL_law_19 : decode cL_law 19 = .ok (.astore_n 3, 1) := by decide +kernel
theorem dL_law_20 : decode cL_law 20 = .ok (.iconst 0, 1) := by decide +kernel
theorem dL_law_21 : decode cL_law 21 = .ok (.istore 4, 2) := by decide +kernel
theorem dL_law_23 : decode cL_law 23 = .ok (.iload 4, 2) := by decide +kernel
theorem dL_law_25 : decode cL_law 25 = .ok (.aload_n 0, 1) := by decide +kernel
theorem dL_law_26 : decode cL_law 26 = .ok (.arraylength, 1) := by decide +kernel
theorem dL_law_27 : decode cL_law 27 = .ok (.iconst 3, 1) := by decide +kernel
theorem dL_law_28 : decode cL_law 28 = .ok (.isub, 1) := by decide +kernel
end
section
theorem dL_law_29 : decode cL_law 29 = .ok (.if_icmp .gt 1605, 3) := by decide +kernel
theorem dL_law_32 : decode cL_law 32 = .ok (.aload_n 0, 1) := by decide +kernel
theorem dL_law_33 : decode cL_law 33 = .ok (.iload 4, 2) := by decide +kernel
theorem dL_law_35 : decode cL_law 35 = .ok (.iaload, 1) := by decide +kernel
theorem dL_law_36 : decode cL_law 36 = .ok (.bipush 31, 2) := by decide +kernel
theorem dL_law_38 : decode cL_law 38 = .ok (.iand, 1) := by decide +kernel
theorem dL_law_39 : decode cL_law 39 = .ok (.tableswitch 1589 0 30 #[137, 205, 273, 329, 385, 441, 454, 467, 480, 493, 506, 519, 575, 638, 706, 781, 837, 893, 949, 1005, 1061, 1117, 1173, 1241, 1309, 1322, 1390, 1446, 1521, 1534, 1575], 137) := by decide +kernel
theorem dL_law_176 : decode cL_law 176 = .ok (.aload_n 1, 1) := by decide +kernel
theorem dL_law_177 : decode cL_law 177 = .ok (.aload_n 0, 1) := by decide +kernel
theorem dL_law_178 : decode cL_law 178 = .ok (.iload 4, 2) := by decide +kernel
theorem dL_law_180 : decode cL_law 180 = .ok (.iconst 1, 1) := by decide +kernel
theorem dL_law_181 : decode cL_law 181 = .ok (.iadd, 1) := by decide +kernel
theorem dL_law_182 : decode cL_law 182 = .ok (.iaload, 1) := by decide +kernel
theorem dL_law_183 : decode cL_law 183 = .ok (.aload_n 0, 1) := by decide +kernel
theorem dL_law_184 : decode cL_law 184 = .ok (.iload 4, 2) := by decide +kernel
theorem dL_law_186 : decode cL_law 186 = .ok (.iconst 2, 1) := by decide +kernel
theorem dL_law_187 : decode cL_law 187 = .ok (.iadd, 1) := by decide +kernel
theorem dL_law_188 : decode cL_law 188 = .ok (.iaload, 1) := by decide +kernel
theorem dL_law_189 : decode cL_law 189 = .ok (.aload_n 3, 1) := by decide +kernel
theorem dL_law_190 : decode cL_law 190 = .ok (.invokestatic 86, 3) := by decide +kernel
theorem dL_law_193 : decode cL_law 193 = .ok (.istore 5, 2) := by decide +kernel
theorem dL_law_195 : decode cL_law 195 = .ok (.aload_n 2, 1) := by decide +kernel
theorem dL_law_196 : decode cL_law 196 = .ok (.aload_n 0, 1) := by decide +kernel
theorem dL_law_197 : decode cL_law 197 = .ok (.iload 4, 2) := by decide +kernel
theorem dL_law_199 : decode cL_law 199 = .ok (.iconst 1, 1) := by decide +kernel
theorem dL_law_200 : decode cL_law 200 = .ok (.iadd, 1) := by decide +kernel
theorem dL_law_201 : decode cL_law 201 = .ok (.iaload, 1) := by decide +kernel
theorem dL_law_202 : decode cL_law 202 = .ok (.aload_n 0, 1) := by decide +kernel
theorem dL_law_203 : decode cL_law 203 = .ok (.iload 4, 2) := by decide +kernel
theorem dL_law_205 : decode cL_law 205 = .ok (.iconst 2, 1) := by decide +kernel
theorem dL_law_206 : decode cL_law 206 = .ok (.iadd, 1) := by decide +kernel
theorem dL_law_207 : decode cL_law 207 = .ok (.iaload, 1) := by decide +kernel
theorem dL_law_208 : decode cL_law 208 = .ok (.invokevirtual 91, 3) := by decide +kernel
theorem dL_law_211 : decode cL_law 211 = .ok (.istore 6, 2) := by decide +kernel
theorem dL_law_213 : decode cL_law 213 = .ok (.aload_n 2, 1) := by decide +kernel
theorem dL_law_214 : decode cL_law 214 = .ok (.invokevirtual 92, 3) := by decide +kernel
theorem dL_law_217 : decode cL_law 217 = .ok (.iload 5, 2) := by decide +kernel
theorem dL_law_219 : decode cL_law 219 = .ok (.if_icmp .eq 5, 3) := by decide +kernel
theorem dL_law_222 : decode cL_law 222 = .ok (.iconst 0, 1) := by decide +kernel
theorem dL_law_223 : decode cL_law 223 = .ok (.ireturn, 1) := by decide +kernel
theorem dL_law_224 : decode cL_law 224 = .ok (.iload 5, 2) := by decide +kernel
theorem dL_law_226 : decode cL_law 226 = .ok (.ifCond .ne 15, 3) := by decide +kernel
theorem dL_law_229 : decode cL_law 229 = .ok (.aload_n 3, 1) := by decide +kernel
theorem dL_law_230 : decode cL_law 230 = .ok (.iconst 0, 1) := by decide +kernel
theorem dL_law_231 : decode cL_law 231 = .ok (.laload, 1) := by decide +kernel
theorem dL_law_232 : decode cL_law 232 = .ok (.iload 6, 2) := by decide +kernel
theorem dL_law_234 : decode cL_law 234 = .ok (.i2l, 1) := by decide +kernel
theorem dL_law_235 : decode cL_law 235 = .ok (.lcmp, 1) := by decide +kernel
theorem dL_law_236 : decode cL_law 236 = .ok (.ifCond .eq 5, 3) := by decide +kernel
theorem dL_law_239 : decode cL_law 239 = .ok (.iconst 0, 1) := by decide +kernel
theorem dL_law_240 : decode cL_law 240 = .ok (.ireturn, 1) := by decide +kernel
theorem dL_law_241 : decode cL_law 241 = .ok (.goto 1387, 3) := by decide +kernel
theorem dL_law_244 : decode cL_law 244 = .ok (.aload_n 1, 1) := by decide +kernel
theorem dL_law_245 : decode cL_law 245 = .ok (.aload_n 0, 1) := by decide +kernel
theorem dL_law_246 : decode cL_law 246 = .ok (.iload 4, 2) := by decide +kernel
theorem dL_law_248 : decode cL_law 248 = .ok (.iconst 1, 1) := by decide +kernel
theorem dL_law_249 : decode cL_law 249 = .ok (.iadd, 1) := by decide +kernel
theorem dL_law_250 : decode cL_law 250 = .ok (.iaload, 1) := by decide +kernel
theorem dL_law_251 : decode cL_law 251 = .ok (.aload_n 0, 1) := by decide +kernel
theorem dL_law_252 : decode cL_law 252 = .ok (.iload 4, 2) := by decide +kernel
theorem dL_law_254 : decode cL_law 254 = .ok (.iconst 2, 1) := by decide +kernel
theorem dL_law_255 : decode cL_law 255 = .ok (.iadd, 1) := by decide +kernel
theorem dL_law_256 : decode cL_law 256 = .ok (.iaload, 1) := by decide +kernel
theorem dL_law_257 : decode cL_law 257 = .ok (.aload_n 3, 1) := by decide +kernel
theorem dL_law_258 : decode cL_law 258 = .ok (.invokestatic 96, 3) := by decide +kernel
theorem dL_law_261 : decode cL_law 261 = .ok (.istore 5, 2) := by decide +kernel
theorem dL_law_263 : decode cL_law 263 = .ok (.aload_n 2, 1) := by decide +kernel
theorem dL_law_264 : decode cL_law 264 = .ok (.aload_n 0, 1) := by decide +kernel
theorem dL_law_265 : decode cL_law 265 = .ok (.iload 4, 2) := by decide +kernel
theorem dL_law_267 : decode cL_law 267 = .ok (.iconst 1, 1) := by decide +kernel
theorem dL_law_268 : decode cL_law 268 = .ok (.iadd, 1) := by decide +kernel
theorem dL_law_269 : decode cL_law 269 = .ok (.iaload, 1) := by decide +kernel
theorem dL_law_270 : decode cL_law 270 = .ok (.aload_n 0, 1) := by decide +kernel
theorem dL_law_271 : decode cL_law 271 = .ok (.iload 4, 2) := by decide +kernel
theorem dL_law_273 : decode cL_law 273 = .ok (.iconst 2, 1) := by decide +kernel
theorem dL_law_274 : decode cL_law 274 = .ok (.iadd, 1) := by decide +kernel
theorem dL_law_275 : decode cL_law 275 = .ok (.iaload, 1) := by decide +kernel
theorem dL_law_276 : decode cL_law 276 = .ok (.invokevirtual 98, 3) := by decide +kernel
theorem dL_law_279 : decode cL_law 279 = .ok (.istore 6, 2) := by decide +kernel
theorem dL_law_281 : decode cL_law 281 = .ok (.aload_n 2, 1) := by decide +kernel
theorem dL_law_282 : decode cL_law 282 = .ok (.invokevirtual 92, 3) := by decide +kernel
theorem dL_law_285 : decode cL_law 285 = .ok (.iload 5, 2) := by decide +kernel
theorem dL_law_287 : decode cL_law 287 = .ok (.if_icmp .eq 5, 3) := by decide +kernel
theorem dL_law_290 : decode cL_law 290 = .ok (.iconst 0, 1) := by decide +kernel
theorem dL_law_291 : decode cL_law 291 = .ok (.ireturn, 1) := by decide +kernel
theorem dL_law_292 : decode cL_law 292 = .ok (.iload 5, 2) := by decide +kernel
theorem dL_law_294 : decode cL_law 294 = .ok (.ifCond .ne 15, 3) := by decide +kernel
theorem dL_law_297 : decode cL_law 297 = .ok (.aload_n 3, 1) := by decide +kernel
theorem dL_law_298 : decode cL_law 298 = .ok (.iconst 0, 1) := by decide +kernel
theorem dL_law_299 : decode cL_law 299 = .ok (.laload, 1) := by decide +kernel
theorem dL_law_300 : decode cL_law 300 = .ok (.iload 6, 2) := by decide +kernel
theorem dL_law_302 : decode cL_law 302 = .ok (.i2l, 1) := by decide +kernel
theorem dL_law_303 : decode cL_law 303 = .ok (.lcmp, 1) := by decide +kernel
theorem dL_law_304 : decode cL_law 304 = .ok (.ifCond .eq 5, 3) := by decide +kernel
theorem dL_law_307 : decode cL_law 307 = .ok (.iconst 0, 1) := by decide +kernel
theorem dL_law_308 : decode cL_law 308 = .ok (.ireturn, 1) := by decide +kernel
theorem dL_law_309 : decode cL_law 309 = .ok (.goto 1319, 3) := by decide +kernel
theorem dL_law_312 : decode cL_law 312 = .ok (.aload_n 1, 1) := by decide +kernel
theorem dL_law_313 : decode cL_law 313 = .ok (.aload_n 0, 1) := by decide +kernel
theorem dL_law_314 : decode cL_law 314 = .ok (.iload 4, 2) := by decide +kernel
theorem dL_law_316 : decode cL_law 316 = .ok (.iconst 1, 1) := by decide +kernel
theorem dL_law_317 : decode cL_law 317 = .ok (.iadd, 1) := by decide +kernel
theorem dL_law_318 : decode cL_law 318 = .ok (.iaload, 1) := by decide +kernel
theorem dL_law_319 : decode cL_law 319 = .ok (.aload_n 3, 1) := by decide +kernel
theorem dL_law_320 : decode cL_law 320 = .ok (.invokestatic 99, 3) := by decide +kernel
theorem dL_law_323 : decode cL_law 323 = .ok (.istore 5, 2) := by decide +kernel
theorem dL_law_325 : decode cL_law 325 = .ok (.aload_n 2, 1) := by decide +kernel
theorem dL_law_326 : decode cL_law 326 = .ok (.aload_n 0, 1) := by decide +kernel
theorem dL_law_327 : decode cL_law 327 = .ok (.iload 4, 2) := by decide +kernel
theorem dL_law_329 : decode cL_law 329 = .ok (.iconst 1, 1) := by decide +kernel
theorem dL_law_330 : decode cL_law 330 = .ok (.iadd, 1) := by decide +kernel
theorem dL_law_331 : decode cL_law 331 = .ok (.iaload, 1) := by decide +kernel
theorem dL_law_332 : decode cL_law 332 = .ok (.invokevirtual 102, 3) := by decide +kernel
theorem dL_law_335 : decode cL_law 335 = .ok (.istore 6, 2) := by decide +kernel
theorem dL_law_337 : decode cL_law 337 = .ok (.aload_n 2, 1) := by decide +kernel
theorem dL_law_338 : decode cL_law 338 = .ok (.invokevirtual 92, 3) := by decide +kernel
theorem dL_law_341 : decode cL_law 341 = .ok (.iload 5, 2) := by decide +kernel
theorem dL_law_343 : decode cL_law 343 = .ok (.if_icmp .eq 5, 3) := by decide +kernel
theorem dL_law_346 : decode cL_law 346 = .ok (.iconst 0, 1) := by decide +kernel
theorem dL_law_347 : decode cL_law 347 = .ok (.ireturn, 1) := by decide +kernel
theorem dL_law_348 : decode cL_law 348 = .ok (.iload 5, 2) := by decide +kernel
theorem dL_law_350 : decode cL_law 350 = .ok (.ifCond .ne 15, 3) := by decide +kernel
theorem dL_law_353 : decode cL_law 353 = .ok (.aload_n 3, 1) := by decide +kernel
theorem dL_law_354 : decode cL_law 354 = .ok (.iconst 0, 1) := by decide +kernel
theorem dL_law_355 : decode cL_law 355 = .ok (.laload, 1) := by decide +kernel
theorem dL_law_356 : decode cL_law 356 = .ok (.iload 6, 2) := by decide +kernel
theorem dL_law_358 : decode cL_law 358 = .ok (.i2l, 1) := by decide +kernel
theorem dL_law_359 : decode cL_law 359 = .ok (.lcmp, 1) := by decide +kernel
theorem dL_law_360 : decode cL_law 360 = .ok (.ifCond .eq 5, 3) := by decide +kernel
theorem dL_law_363 : decode cL_law 363 = .ok (.iconst 0, 1) := by decide +kernel
theorem dL_law_364 : decode cL_law 364 = .ok (.ireturn, 1) := by decide +kernel
theorem dL_law_365 : decode cL_law 365 = .ok (.goto 1263, 3) := by decide +kernel
theorem dL_law_368 : decode cL_law 368 = .ok (.aload_n 1, 1) := by decide +kernel
theorem dL_law_369 : decode cL_law 369 = .ok (.aload_n 0, 1) := by decide +kernel
theorem dL_law_370 : decode cL_law 370 = .ok (.iload 4, 2) := by decide +kernel
theorem dL_law_372 : decode cL_law 372 = .ok (.iconst 1, 1) := by decide +kernel
theorem dL_law_373 : decode cL_law 373 = .ok (.iadd, 1) := by decide +kernel
theorem dL_law_374 : decode cL_law 374 = .ok (.iaload, 1) := by decide +kernel
theorem dL_law_375 : decode cL_law 375 = .ok (.aload_n 3, 1) := by decide +kernel
theorem dL_law_376 : decode cL_law 376 = .ok (.invokestatic 103, 3) := by decide +kernel
theorem dL_law_379 : decode cL_law 379 = .ok (.istore 5, 2) := by decide +kernel
theorem dL_law_381 : decode cL_law 381 = .ok (.aload_n 2, 1) := by decide +kernel
theorem dL_law_382 : decode cL_law 382 = .ok (.aload_n 0, 1) := by decide +kernel
theorem dL_law_383 : decode cL_law 383 = .ok (.iload 4, 2) := by decide +kernel
theorem dL_law_385 : decode cL_law 385 = .ok (.iconst 1, 1) := by decide +kernel
theorem dL_law_386 : decode cL_law 386 = .ok (.iadd, 1) := by decide +kernel
theorem dL_law_387 : decode cL_law 387 = .ok (.iaload, 1) := by decide +kernel
theorem dL_law_388 : decode cL_law 388 = .ok (.invokevirtual 105, 3) := by decide +kernel
theorem dL_law_391 : decode cL_law 391 = .ok (.istore 6, 2) := by decide +kernel
theorem dL_law_393 : decode cL_law 393 = .ok (.aload_n 2, 1) := by decide +kernel
theorem dL_law_394 : decode cL_law 394 = .ok (.invokevirtual 92, 3) := by decide +kernel
theorem dL_law_397 : decode cL_law 397 = .ok (.iload 5, 2) := by decide +kernel
theorem dL_law_399 : decode cL_law 399 = .ok (.if_icmp .eq 5, 3) := by decide +kernel
theorem dL_law_402 : decode cL_law 402 = .ok (.iconst 0, 1) := by decide +kernel
theorem dL_law_403 : decode cL_law 403 = .ok (.ireturn, 1) := by decide +kernel
theorem dL_law_404 : decode cL_law 404 = .ok (.iload 5, 2) := by decide +kernel
theorem dL_law_406 : decode cL_law 406 = .ok (.ifCond .ne 15, 3) := by decide +kernel
theorem dL_law_409 : decode cL_law 409 = .ok (.aload_n 3, 1) := by decide +kernel
theorem dL_law_410 : decode cL_law 410 = .ok (.iconst 0, 1) := by decide +kernel
theorem dL_law_411 : decode cL_law 411 = .ok (.laload, 1) := by decide +kernel
end
section
theorem dL_law_412 : decode cL_law 412 = .ok (.iload 6, 2) := by decide +kernel
theorem dL_law_414 : decode cL_law 414 = .ok (.i2l, 1) := by decide +kernel
theorem dL_law_415 : decode cL_law 415 = .ok (.lcmp, 1) := by decide +kernel
theorem dL_law_416 : decode cL_law 416 = .ok (.ifCond .eq 5, 3) := by decide +kernel
theorem dL_law_419 : decode cL_law 419 = .ok (.iconst 0, 1) := by decide +kernel
theorem dL_law_420 : decode cL_law 420 = .ok (.ireturn, 1) := by decide +kernel
theorem dL_law_421 : decode cL_law 421 = .ok (.goto 1207, 3) := by decide +kernel
theorem dL_law_424 : decode cL_law 424 = .ok (.aload_n 1, 1) := by decide +kernel
theorem dL_law_425 : decode cL_law 425 = .ok (.aload_n 0, 1) := by decide +kernel
theorem dL_law_426 : decode cL_law 426 = .ok (.iload 4, 2) := by decide +kernel
theorem dL_law_428 : decode cL_law 428 = .ok (.iconst 1, 1) := by decide +kernel
theorem dL_law_429 : decode cL_law 429 = .ok (.iadd, 1) := by decide +kernel
theorem dL_law_430 : decode cL_law 430 = .ok (.iaload, 1) := by decide +kernel
theorem dL_law_431 : decode cL_law 431 = .ok (.aload_n 3, 1) := by decide +kernel
theorem dL_law_432 : decode cL_law 432 = .ok (.invokestatic 106, 3) := by decide +kernel
theorem dL_law_435 : decode cL_law 435 = .ok (.istore 5, 2) := by decide +kernel
theorem dL_law_437 : decode cL_law 437 = .ok (.aload_n 2, 1) := by decide +kernel
theorem dL_law_438 : decode cL_law 438 = .ok (.aload_n 0, 1) := by decide +kernel
theorem dL_law_439 : decode cL_law 439 = .ok (.iload 4, 2) := by decide +kernel
theorem dL_law_441 : decode cL_law 441 = .ok (.iconst 1, 1) := by decide +kernel
theorem dL_law_442 : decode cL_law 442 = .ok (.iadd, 1) := by decide +kernel
theorem dL_law_443 : decode cL_law 443 = .ok (.iaload, 1) := by decide +kernel
theorem dL_law_444 : decode cL_law 444 = .ok (.invokevirtual 108, 3) := by decide +kernel
theorem dL_law_447 : decode cL_law 447 = .ok (.istore 6, 2) := by decide +kernel
theorem dL_law_449 : decode cL_law 449 = .ok (.aload_n 2, 1) := by decide +kernel
theorem dL_law_450 : decode cL_law 450 = .ok (.invokevirtual 92, 3) := by decide +kernel
theorem dL_law_453 : decode cL_law 453 = .ok (.iload 5, 2) := by decide +kernel
theorem dL_law_455 : decode cL_law 455 = .ok (.if_icmp .eq 5, 3) := by decide +kernel
theorem dL_law_458 : decode cL_law 458 = .ok (.iconst 0, 1) := by decide +kernel
theorem dL_law_459 : decode cL_law 459 = .ok (.ireturn, 1) := by decide +kernel
theorem dL_law_460 : decode cL_law 460 = .ok (.iload 5, 2) := by decide +kernel
theorem dL_law_462 : decode cL_law 462 = .ok (.ifCond .ne 15, 3) := by decide +kernel
theorem dL_law_465 : decode cL_law 465 = .ok (.aload_n 3, 1) := by decide +kernel
theorem dL_law_466 : decode cL_law 466 = .ok (.iconst 0, 1) := by decide +kernel
theorem dL_law_467 : decode cL_law 467 = .ok (.laload, 1) := by decide +kernel
theorem dL_law_468 : decode cL_law 468 = .ok (.iload 6, 2) := by decide +kernel
theorem dL_law_470 : decode cL_law 470 = .ok (.i2l, 1) := by decide +kernel
theorem dL_law_471 : decode cL_law 471 = .ok (.lcmp, 1) := by decide +kernel
theorem dL_law_472 : decode cL_law 472 = .ok (.ifCond .eq 5, 3) := by decide +kernel
theorem dL_law_475 : decode cL_law 475 = .ok (.iconst 0, 1) := by decide +kernel
theorem dL_law_476 : decode cL_law 476 = .ok (.ireturn, 1) := by decide +kernel
theorem dL_law_477 : decode cL_law 477 = .ok (.goto 1151, 3) := by decide +kernel
theorem dL_law_480 : decode cL_law 480 = .ok (.aload_n 1, 1) := by decide +kernel
theorem dL_law_481 : decode cL_law 481 = .ok (.invokevirtual 109, 3) := by decide +kernel
theorem dL_law_484 : decode cL_law 484 = .ok (.aload_n 2, 1) := by decide +kernel
theorem dL_law_485 : decode cL_law 485 = .ok (.invokevirtual 112, 3) := by decide +kernel
theorem dL_law_488 : decode cL_law 488 = .ok (.if_icmp .eq 1140, 3) := by decide +kernel
theorem dL_law_491 : decode cL_law 491 = .ok (.iconst 0, 1) := by decide +kernel
theorem dL_law_492 : decode cL_law 492 = .ok (.ireturn, 1) := by decide +kernel
theorem dL_law_493 : decode cL_law 493 = .ok (.aload_n 1, 1) := by decide +kernel
theorem dL_law_494 : decode cL_law 494 = .ok (.invokevirtual 113, 3) := by decide +kernel
theorem dL_law_497 : decode cL_law 497 = .ok (.aload_n 2, 1) := by decide +kernel
theorem dL_law_498 : decode cL_law 498 = .ok (.invokevirtual 116, 3) := by decide +kernel
theorem dL_law_501 : decode cL_law 501 = .ok (.if_icmp .eq 1127, 3) := by decide +kernel
theorem dL_law_504 : decode cL_law 504 = .ok (.iconst 0, 1) := by decide +kernel
theorem dL_law_505 : decode cL_law 505 = .ok (.ireturn, 1) := by decide +kernel
theorem dL_law_506 : decode cL_law 506 = .ok (.aload_n 1, 1) := by decide +kernel
theorem dL_law_507 : decode cL_law 507 = .ok (.invokevirtual 117, 3) := by decide +kernel
theorem dL_law_510 : decode cL_law 510 = .ok (.aload_n 2, 1) := by decide +kernel
theorem dL_law_511 : decode cL_law 511 = .ok (.invokevirtual 120, 3) := by decide +kernel
theorem dL_law_514 : decode cL_law 514 = .ok (.if_icmp .eq 1114, 3) := by decide +kernel
theorem dL_law_517 : decode cL_law 517 = .ok (.iconst 0, 1) := by decide +kernel
theorem dL_law_518 : decode cL_law 518 = .ok (.ireturn, 1) := by decide +kernel
theorem dL_law_519 : decode cL_law 519 = .ok (.aload_n 1, 1) := by decide +kernel
theorem dL_law_520 : decode cL_law 520 = .ok (.invokevirtual 121, 3) := by decide +kernel
theorem dL_law_523 : decode cL_law 523 = .ok (.aload_n 2, 1) := by decide +kernel
theorem dL_law_524 : decode cL_law 524 = .ok (.invokevirtual 124, 3) := by decide +kernel
theorem dL_law_527 : decode cL_law 527 = .ok (.if_icmp .eq 1101, 3) := by decide +kernel
theorem dL_law_530 : decode cL_law 530 = .ok (.iconst 0, 1) := by decide +kernel
theorem dL_law_531 : decode cL_law 531 = .ok (.ireturn, 1) := by decide +kernel
theorem dL_law_532 : decode cL_law 532 = .ok (.aload_n 1, 1) := by decide +kernel
theorem dL_law_533 : decode cL_law 533 = .ok (.invokevirtual 125, 3) := by decide +kernel
theorem dL_law_536 : decode cL_law 536 = .ok (.aload_n 2, 1) := by decide +kernel
theorem dL_law_537 : decode cL_law 537 = .ok (.invokevirtual 128, 3) := by decide +kernel
theorem dL_law_540 : decode cL_law 540 = .ok (.if_icmp .eq 1088, 3) := by decide +kernel
theorem dL_law_543 : decode cL_law 543 = .ok (.iconst 0, 1) := by decide +kernel
theorem dL_law_544 : decode cL_law 544 = .ok (.ireturn, 1) := by decide +kernel
theorem dL_law_545 : decode cL_law 545 = .ok (.aload_n 1, 1) := by decide +kernel
theorem dL_law_546 : decode cL_law 546 = .ok (.invokevirtual 129, 3) := by decide +kernel
theorem dL_law_549 : decode cL_law 549 = .ok (.aload_n 2, 1) := by decide +kernel
theorem dL_law_550 : decode cL_law 550 = .ok (.invokevirtual 132, 3) := by decide +kernel
theorem dL_law_553 : decode cL_law 553 = .ok (.if_icmp .eq 1075, 3) := by decide +kernel
theorem dL_law_556 : decode cL_law 556 = .ok (.iconst 0, 1) := by decide +kernel
theorem dL_law_557 : decode cL_law 557 = .ok (.ireturn, 1) := by decide +kernel
theorem dL_law_558 : decode cL_law 558 = .ok (.aload_n 1, 1) := by decide +kernel
theorem dL_law_559 : decode cL_law 559 = .ok (.aload_n 0, 1) := by decide +kernel
theorem dL_law_560 : decode cL_law 560 = .ok (.iload 4, 2) := by decide +kernel
theorem dL_law_562 : decode cL_law 562 = .ok (.iconst 1, 1) := by decide +kernel
theorem dL_law_563 : decode cL_law 563 = .ok (.iadd, 1) := by decide +kernel
theorem dL_law_564 : decode cL_law 564 = .ok (.iaload, 1) := by decide +kernel
theorem dL_law_565 : decode cL_law 565 = .ok (.aload_n 3, 1) := by decide +kernel
theorem dL_law_566 : decode cL_law 566 = .ok (.invokestatic 133, 3) := by decide +kernel
theorem dL_law_569 : decode cL_law 569 = .ok (.istore 5, 2) := by decide +kernel
theorem dL_law_571 : decode cL_law 571 = .ok (.aload_n 2, 1) := by decide +kernel
theorem dL_law_572 : decode cL_law 572 = .ok (.aload_n 0, 1) := by decide +kernel
theorem dL_law_573 : decode cL_law 573 = .ok (.iload 4, 2) := by decide +kernel
theorem dL_law_575 : decode cL_law 575 = .ok (.iconst 1, 1) := by decide +kernel
theorem dL_law_576 : decode cL_law 576 = .ok (.iadd, 1) := by decide +kernel
theorem dL_law_577 : decode cL_law 577 = .ok (.iaload, 1) := by decide +kernel
theorem dL_law_578 : decode cL_law 578 = .ok (.invokevirtual 135, 3) := by decide +kernel
theorem dL_law_581 : decode cL_law 581 = .ok (.istore 6, 2) := by decide +kernel
theorem dL_law_583 : decode cL_law 583 = .ok (.aload_n 2, 1) := by decide +kernel
theorem dL_law_584 : decode cL_law 584 = .ok (.invokevirtual 92, 3) := by decide +kernel
theorem dL_law_587 : decode cL_law 587 = .ok (.iload 5, 2) := by decide +kernel
theorem dL_law_589 : decode cL_law 589 = .ok (.if_icmp .eq 5, 3) := by decide +kernel
theorem dL_law_592 : decode cL_law 592 = .ok (.iconst 0, 1) := by decide +kernel
theorem dL_law_593 : decode cL_law 593 = .ok (.ireturn, 1) := by decide +kernel
theorem dL_law_594 : decode cL_law 594 = .ok (.iload 5, 2) := by decide +kernel
theorem dL_law_596 : decode cL_law 596 = .ok (.ifCond .ne 15, 3) := by decide +kernel
theorem dL_law_599 : decode cL_law 599 = .ok (.aload_n 3, 1) := by decide +kernel
theorem dL_law_600 : decode cL_law 600 = .ok (.iconst 0, 1) := by decide +kernel
theorem dL_law_601 : decode cL_law 601 = .ok (.laload, 1) := by decide +kernel
theorem dL_law_602 : decode cL_law 602 = .ok (.iload 6, 2) := by decide +kernel
theorem dL_law_604 : decode cL_law 604 = .ok (.i2l, 1) := by decide +kernel
theorem dL_law_605 : decode cL_law 605 = .ok (.lcmp, 1) := by decide +kernel
theorem dL_law_606 : decode cL_law 606 = .ok (.ifCond .eq 5, 3) := by decide +kernel
theorem dL_law_609 : decode cL_law 609 = .ok (.iconst 0, 1) := by decide +kernel
theorem dL_law_610 : decode cL_law 610 = .ok (.ireturn, 1) := by decide +kernel
theorem dL_law_611 : decode cL_law 611 = .ok (.goto 1017, 3) := by decide +kernel
theorem dL_law_614 : decode cL_law 614 = .ok (.aload_n 1, 1) := by decide +kernel
theorem dL_law_615 : decode cL_law 615 = .ok (.aload_n 0, 1) := by decide +kernel
theorem dL_law_616 : decode cL_law 616 = .ok (.iload 4, 2) := by decide +kernel
theorem dL_law_618 : decode cL_law 618 = .ok (.iconst 1, 1) := by decide +kernel
theorem dL_law_619 : decode cL_law 619 = .ok (.iadd, 1) := by decide +kernel
theorem dL_law_620 : decode cL_law 620 = .ok (.iaload, 1) := by decide +kernel
theorem dL_law_621 : decode cL_law 621 = .ok (.aload_n 3, 1) := by decide +kernel
theorem dL_law_622 : decode cL_law 622 = .ok (.invokestatic 136, 3) := by decide +kernel
theorem dL_law_625 : decode cL_law 625 = .ok (.istore 5, 2) := by decide +kernel
theorem dL_law_627 : decode cL_law 627 = .ok (.aload_n 2, 1) := by decide +kernel
theorem dL_law_628 : decode cL_law 628 = .ok (.aload_n 0, 1) := by decide +kernel
theorem dL_law_629 : decode cL_law 629 = .ok (.iload 4, 2) := by decide +kernel
theorem dL_law_631 : decode cL_law 631 = .ok (.iconst 1, 1) := by decide +kernel
theorem dL_law_632 : decode cL_law 632 = .ok (.iadd, 1) := by decide +kernel
theorem dL_law_633 : decode cL_law 633 = .ok (.iaload, 1) := by decide +kernel
theorem dL_law_634 : decode cL_law 634 = .ok (.invokevirtual 138, 3) := by decide +kernel
theorem dL_law_637 : decode cL_law 637 = .ok (.istore 6, 2) := by decide +kernel
theorem dL_law_639 : decode cL_law 639 = .ok (.aload_n 2, 1) := by decide +kernel
theorem dL_law_640 : decode cL_law 640 = .ok (.invokevirtual 92, 3) := by decide +kernel
theorem dL_law_643 : decode cL_law 643 = .ok (.iload 5, 2) := by decide +kernel
theorem dL_law_645 : decode cL_law 645 = .ok (.if_icmp .eq 5, 3) := by decide +kernel
theorem dL_law_648 : decode cL_law 648 = .ok (.iconst 0, 1) := by decide +kernel
theorem dL_law_649 : decode cL_law 649 = .ok (.ireturn, 1) := by decide +kernel
theorem dL_law_650 : decode cL_law 650 = .ok (.iload 5, 2) := by decide +kernel
theorem dL_law_652 : decode cL_law 652 = .ok (.ifCond .ne 22, 3) := by decide +kernel
theorem dL_law_655 : decode cL_law 655 = .ok (.aload_n 3, 1) := by decide +kernel
theorem dL_law_656 : decode cL_law 656 = .ok (.iconst 0, 1) := by decide +kernel
theorem dL_law_657 : decode cL_law 657 = .ok (.laload, 1) := by decide +kernel
theorem dL_law_658 : decode cL_law 658 = .ok (.iload 6, 2) := by decide +kernel
theorem dL_law_660 : decode cL_law 660 = .ok (.ifCond .eq 7, 3) := by decide +kernel
theorem dL_law_663 : decode cL_law 663 = .ok (.lconst 1, 1) := by decide +kernel
theorem dL_law_664 : decode cL_law 664 = .ok (.goto 4, 3) := by decide +kernel
theorem dL_law_667 : decode cL_law 667 = .ok (.lconst 0, 1) := by decide +kernel
theorem dL_law_668 : decode cL_law 668 = .ok (.lcmp, 1) := by decide +kernel
theorem dL_law_669 : decode cL_law 669 = .ok (.ifCond .eq 5, 3) := by decide +kernel
theorem dL_law_672 : decode cL_law 672 = .ok (.iconst 0, 1) := by decide +kernel
theorem dL_law_673 : decode cL_law 673 = .ok (.ireturn, 1) := by decide +kernel
theorem dL_law_674 : decode cL_law 674 = .ok (.goto 954, 3) := by decide +kernel
theorem dL_law_677 : decode cL_law 677 = .ok (.aload_n 1, 1) := by decide +kernel
theorem dL_law_678 : decode cL_law 678 = .ok (.aload_n 0, 1) := by decide +kernel
theorem dL_law_679 : decode cL_law 679 = .ok (.iload 4, 2) := by decide +kernel
end
section
theorem dL_law_681 : decode cL_law 681 = .ok (.iconst 1, 1) := by decide +kernel
theorem dL_law_682 : decode cL_law 682 = .ok (.iadd, 1) := by decide +kernel
theorem dL_law_683 : decode cL_law 683 = .ok (.iaload, 1) := by decide +kernel
theorem dL_law_684 : decode cL_law 684 = .ok (.aload_n 0, 1) := by decide +kernel
theorem dL_law_685 : decode cL_law 685 = .ok (.iload 4, 2) := by decide +kernel
theorem dL_law_687 : decode cL_law 687 = .ok (.iconst 2, 1) := by decide +kernel
theorem dL_law_688 : decode cL_law 688 = .ok (.iadd, 1) := by decide +kernel
theorem dL_law_689 : decode cL_law 689 = .ok (.iaload, 1) := by decide +kernel
theorem dL_law_690 : decode cL_law 690 = .ok (.aload_n 3, 1) := by decide +kernel
theorem dL_law_691 : decode cL_law 691 = .ok (.invokestatic 139, 3) := by decide +kernel
theorem dL_law_694 : decode cL_law 694 = .ok (.istore 5, 2) := by decide +kernel
theorem dL_law_696 : decode cL_law 696 = .ok (.aload_n 2, 1) := by decide +kernel
theorem dL_law_697 : decode cL_law 697 = .ok (.aload_n 0, 1) := by decide +kernel
theorem dL_law_698 : decode cL_law 698 = .ok (.iload 4, 2) := by decide +kernel
theorem dL_law_700 : decode cL_law 700 = .ok (.iconst 1, 1) := by decide +kernel
theorem dL_law_701 : decode cL_law 701 = .ok (.iadd, 1) := by decide +kernel
theorem dL_law_702 : decode cL_law 702 = .ok (.iaload, 1) := by decide +kernel
theorem dL_law_703 : decode cL_law 703 = .ok (.aload_n 0, 1) := by decide +kernel
theorem dL_law_704 : decode cL_law 704 = .ok (.iload 4, 2) := by decide +kernel
theorem dL_law_706 : decode cL_law 706 = .ok (.iconst 2, 1) := by decide +kernel
theorem dL_law_707 : decode cL_law 707 = .ok (.iadd, 1) := by decide +kernel
theorem dL_law_708 : decode cL_law 708 = .ok (.iaload, 1) := by decide +kernel
theorem dL_law_709 : decode cL_law 709 = .ok (.invokevirtual 141, 3) := by decide +kernel
theorem dL_law_712 : decode cL_law 712 = .ok (.istore 6, 2) := by decide +kernel
theorem dL_law_714 : decode cL_law 714 = .ok (.aload_n 2, 1) := by decide +kernel
theorem dL_law_715 : decode cL_law 715 = .ok (.invokevirtual 92, 3) := by decide +kernel
theorem dL_law_718 : decode cL_law 718 = .ok (.iload 5, 2) := by decide +kernel
theorem dL_law_720 : decode cL_law 720 = .ok (.if_icmp .eq 5, 3) := by decide +kernel
theorem dL_law_723 : decode cL_law 723 = .ok (.iconst 0, 1) := by decide +kernel
theorem dL_law_724 : decode cL_law 724 = .ok (.ireturn, 1) := by decide +kernel
theorem dL_law_725 : decode cL_law 725 = .ok (.iload 5, 2) := by decide +kernel
theorem dL_law_727 : decode cL_law 727 = .ok (.ifCond .ne 15, 3) := by decide +kernel
theorem dL_law_730 : decode cL_law 730 = .ok (.aload_n 3, 1) := by decide +kernel
theorem dL_law_731 : decode cL_law 731 = .ok (.iconst 0, 1) := by decide +kernel
theorem dL_law_732 : decode cL_law 732 = .ok (.laload, 1) := by decide +kernel
theorem dL_law_733 : decode cL_law 733 = .ok (.iload 6, 2) := by decide +kernel
theorem dL_law_735 : decode cL_law 735 = .ok (.i2l, 1) := by decide +kernel
theorem dL_law_736 : decode cL_law 736 = .ok (.lcmp, 1) := by decide +kernel
theorem dL_law_737 : decode cL_law 737 = .ok (.ifCond .eq 5, 3) := by decide +kernel
theorem dL_law_740 : decode cL_law 740 = .ok (.iconst 0, 1) := by decide +kernel
theorem dL_law_741 : decode cL_law 741 = .ok (.ireturn, 1) := by decide +kernel
theorem dL_law_742 : decode cL_law 742 = .ok (.goto 886, 3) := by decide +kernel
theorem dL_law_745 : decode cL_law 745 = .ok (.aload_n 1, 1) := by decide +kernel
theorem dL_law_746 : decode cL_law 746 = .ok (.aload_n 0, 1) := by decide +kernel
theorem dL_law_747 : decode cL_law 747 = .ok (.iload 4, 2) := by decide +kernel
theorem dL_law_749 : decode cL_law 749 = .ok (.iconst 1, 1) := by decide +kernel
theorem dL_law_750 : decode cL_law 750 = .ok (.iadd, 1) := by decide +kernel
theorem dL_law_751 : decode cL_law 751 = .ok (.iaload, 1) := by decide +kernel
theorem dL_law_752 : decode cL_law 752 = .ok (.aload_n 0, 1) := by decide +kernel
theorem dL_law_753 : decode cL_law 753 = .ok (.iload 4, 2) := by decide +kernel
theorem dL_law_755 : decode cL_law 755 = .ok (.iconst 2, 1) := by decide +kernel
theorem dL_law_756 : decode cL_law 756 = .ok (.iadd, 1) := by decide +kernel
theorem dL_law_757 : decode cL_law 757 = .ok (.iaload, 1) := by decide +kernel
theorem dL_law_758 : decode cL_law 758 = .ok (.aload_n 3, 1) := by decide +kernel
theorem dL_law_759 : decode cL_law 759 = .ok (.invokestatic 142, 3) := by decide +kernel
theorem dL_law_762 : decode cL_law 762 = .ok (.istore 5, 2) := by decide +kernel
theorem dL_law_764 : decode cL_law 764 = .ok (.aload_n 2, 1) := by decide +kernel
theorem dL_law_765 : decode cL_law 765 = .ok (.aload_n 0, 1) := by decide +kernel
theorem dL_law_766 : decode cL_law 766 = .ok (.iload 4, 2) := by decide +kernel
theorem dL_law_768 : decode cL_law 768 = .ok (.iconst 1, 1) := by decide +kernel
theorem dL_law_769 : decode cL_law 769 = .ok (.iadd, 1) := by decide +kernel
theorem dL_law_770 : decode cL_law 770 = .ok (.iaload, 1) := by decide +kernel
theorem dL_law_771 : decode cL_law 771 = .ok (.aload_n 0, 1) := by decide +kernel
theorem dL_law_772 : decode cL_law 772 = .ok (.iload 4, 2) := by decide +kernel
theorem dL_law_774 : decode cL_law 774 = .ok (.iconst 2, 1) := by decide +kernel
theorem dL_law_775 : decode cL_law 775 = .ok (.iadd, 1) := by decide +kernel
theorem dL_law_776 : decode cL_law 776 = .ok (.iaload, 1) := by decide +kernel
theorem dL_law_777 : decode cL_law 777 = .ok (.invokevirtual 144, 3) := by decide +kernel
theorem dL_law_780 : decode cL_law 780 = .ok (.istore 6, 2) := by decide +kernel
theorem dL_law_782 : decode cL_law 782 = .ok (.aload_n 2, 1) := by decide +kernel
theorem dL_law_783 : decode cL_law 783 = .ok (.invokevirtual 92, 3) := by decide +kernel
theorem dL_law_786 : decode cL_law 786 = .ok (.iload 5, 2) := by decide +kernel
theorem dL_law_788 : decode cL_law 788 = .ok (.if_icmp .eq 5, 3) := by decide +kernel
theorem dL_law_791 : decode cL_law 791 = .ok (.iconst 0, 1) := by decide +kernel
theorem dL_law_792 : decode cL_law 792 = .ok (.ireturn, 1) := by decide +kernel
theorem dL_law_793 : decode cL_law 793 = .ok (.iload 5, 2) := by decide +kernel
theorem dL_law_795 : decode cL_law 795 = .ok (.ifCond .ne 22, 3) := by decide +kernel
theorem dL_law_798 : decode cL_law 798 = .ok (.aload_n 3, 1) := by decide +kernel
theorem dL_law_799 : decode cL_law 799 = .ok (.iconst 0, 1) := by decide +kernel
theorem dL_law_800 : decode cL_law 800 = .ok (.laload, 1) := by decide +kernel
theorem dL_law_801 : decode cL_law 801 = .ok (.iload 6, 2) := by decide +kernel
theorem dL_law_803 : decode cL_law 803 = .ok (.ifCond .eq 7, 3) := by decide +kernel
theorem dL_law_806 : decode cL_law 806 = .ok (.lconst 1, 1) := by decide +kernel
theorem dL_law_807 : decode cL_law 807 = .ok (.goto 4, 3) := by decide +kernel
theorem dL_law_810 : decode cL_law 810 = .ok (.lconst 0, 1) := by decide +kernel
theorem dL_law_811 : decode cL_law 811 = .ok (.lcmp, 1) := by decide +kernel
theorem dL_law_812 : decode cL_law 812 = .ok (.ifCond .eq 5, 3) := by decide +kernel
theorem dL_law_815 : decode cL_law 815 = .ok (.iconst 0, 1) := by decide +kernel
theorem dL_law_816 : decode cL_law 816 = .ok (.ireturn, 1) := by decide +kernel
theorem dL_law_817 : decode cL_law 817 = .ok (.goto 811, 3) := by decide +kernel
theorem dL_law_820 : decode cL_law 820 = .ok (.aload_n 1, 1) := by decide +kernel
theorem dL_law_821 : decode cL_law 821 = .ok (.aload_n 0, 1) := by decide +kernel
theorem dL_law_822 : decode cL_law 822 = .ok (.iload 4, 2) := by decide +kernel
theorem dL_law_824 : decode cL_law 824 = .ok (.iconst 1, 1) := by decide +kernel
theorem dL_law_825 : decode cL_law 825 = .ok (.iadd, 1) := by decide +kernel
theorem dL_law_826 : decode cL_law 826 = .ok (.iaload, 1) := by decide +kernel
theorem dL_law_827 : decode cL_law 827 = .ok (.aload_n 3, 1) := by decide +kernel
theorem dL_law_828 : decode cL_law 828 = .ok (.invokestatic 145, 3) := by decide +kernel
theorem dL_law_831 : decode cL_law 831 = .ok (.istore 5, 2) := by decide +kernel
theorem dL_law_833 : decode cL_law 833 = .ok (.aload_n 2, 1) := by decide +kernel
theorem dL_law_834 : decode cL_law 834 = .ok (.aload_n 0, 1) := by decide +kernel
theorem dL_law_835 : decode cL_law 835 = .ok (.iload 4, 2) := by decide +kernel
theorem dL_law_837 : decode cL_law 837 = .ok (.iconst 1, 1) := by decide +kernel
theorem dL_law_838 : decode cL_law 838 = .ok (.iadd, 1) := by decide +kernel
theorem dL_law_839 : decode cL_law 839 = .ok (.iaload, 1) := by decide +kernel
theorem dL_law_840 : decode cL_law 840 = .ok (.invokevirtual 147, 3) := by decide +kernel
theorem dL_law_843 : decode cL_law 843 = .ok (.istore 6, 2) := by decide +kernel
theorem dL_law_845 : decode cL_law 845 = .ok (.aload_n 2, 1) := by decide +kernel
theorem dL_law_846 : decode cL_law 846 = .ok (.invokevirtual 92, 3) := by decide +kernel
theorem dL_law_849 : decode cL_law 849 = .ok (.iload 5, 2) := by decide +kernel
theorem dL_law_851 : decode cL_law 851 = .ok (.if_icmp .eq 5, 3) := by decide +kernel
theorem dL_law_854 : decode cL_law 854 = .ok (.iconst 0, 1) := by decide +kernel
theorem dL_law_855 : decode cL_law 855 = .ok (.ireturn, 1) := by decide +kernel
theorem dL_law_856 : decode cL_law 856 = .ok (.iload 5, 2) := by decide +kernel
theorem dL_law_858 : decode cL_law 858 = .ok (.ifCond .ne 15, 3) := by decide +kernel
theorem dL_law_861 : decode cL_law 861 = .ok (.aload_n 3, 1) := by decide +kernel
theorem dL_law_862 : decode cL_law 862 = .ok (.iconst 0, 1) := by decide +kernel
theorem dL_law_863 : decode cL_law 863 = .ok (.laload, 1) := by decide +kernel
theorem dL_law_864 : decode cL_law 864 = .ok (.iload 6, 2) := by decide +kernel
theorem dL_law_866 : decode cL_law 866 = .ok (.i2l, 1) := by decide +kernel
theorem dL_law_867 : decode cL_law 867 = .ok (.lcmp, 1) := by decide +kernel
theorem dL_law_868 : decode cL_law 868 = .ok (.ifCond .eq 5, 3) := by decide +kernel
theorem dL_law_871 : decode cL_law 871 = .ok (.iconst 0, 1) := by decide +kernel
theorem dL_law_872 : decode cL_law 872 = .ok (.ireturn, 1) := by decide +kernel
theorem dL_law_873 : decode cL_law 873 = .ok (.goto 755, 3) := by decide +kernel
theorem dL_law_876 : decode cL_law 876 = .ok (.aload_n 1, 1) := by decide +kernel
theorem dL_law_877 : decode cL_law 877 = .ok (.aload_n 0, 1) := by decide +kernel
theorem dL_law_878 : decode cL_law 878 = .ok (.iload 4, 2) := by decide +kernel
theorem dL_law_880 : decode cL_law 880 = .ok (.iconst 1, 1) := by decide +kernel
theorem dL_law_881 : decode cL_law 881 = .ok (.iadd, 1) := by decide +kernel
theorem dL_law_882 : decode cL_law 882 = .ok (.iaload, 1) := by decide +kernel
theorem dL_law_883 : decode cL_law 883 = .ok (.aload_n 3, 1) := by decide +kernel
theorem dL_law_884 : decode cL_law 884 = .ok (.invokestatic 148, 3) := by decide +kernel
theorem dL_law_887 : decode cL_law 887 = .ok (.istore 5, 2) := by decide +kernel
theorem dL_law_889 : decode cL_law 889 = .ok (.aload_n 2, 1) := by decide +kernel
theorem dL_law_890 : decode cL_law 890 = .ok (.aload_n 0, 1) := by decide +kernel
theorem dL_law_891 : decode cL_law 891 = .ok (.iload 4, 2) := by decide +kernel
theorem dL_law_893 : decode cL_law 893 = .ok (.iconst 1, 1) := by decide +kernel
theorem dL_law_894 : decode cL_law 894 = .ok (.iadd, 1) := by decide +kernel
theorem dL_law_895 : decode cL_law 895 = .ok (.iaload, 1) := by decide +kernel
theorem dL_law_896 : decode cL_law 896 = .ok (.invokevirtual 150, 3) := by decide +kernel
theorem dL_law_899 : decode cL_law 899 = .ok (.istore 6, 2) := by decide +kernel
theorem dL_law_901 : decode cL_law 901 = .ok (.aload_n 2, 1) := by decide +kernel
theorem dL_law_902 : decode cL_law 902 = .ok (.invokevirtual 92, 3) := by decide +kernel
theorem dL_law_905 : decode cL_law 905 = .ok (.iload 5, 2) := by decide +kernel
theorem dL_law_907 : decode cL_law 907 = .ok (.if_icmp .eq 5, 3) := by decide +kernel
theorem dL_law_910 : decode cL_law 910 = .ok (.iconst 0, 1) := by decide +kernel
theorem dL_law_911 : decode cL_law 911 = .ok (.ireturn, 1) := by decide +kernel
theorem dL_law_912 : decode cL_law 912 = .ok (.iload 5, 2) := by decide +kernel
theorem dL_law_914 : decode cL_law 914 = .ok (.ifCond .ne 15, 3) := by decide +kernel
theorem dL_law_917 : decode cL_law 917 = .ok (.aload_n 3, 1) := by decide +kernel
theorem dL_law_918 : decode cL_law 918 = .ok (.iconst 0, 1) := by decide +kernel
theorem dL_law_919 : decode cL_law 919 = .ok (.laload, 1) := by decide +kernel
theorem dL_law_920 : decode cL_law 920 = .ok (.iload 6, 2) := by decide +kernel
theorem dL_law_922 : decode cL_law 922 = .ok (.i2l, 1) := by decide +kernel
theorem dL_law_923 : decode cL_law 923 = .ok (.lcmp, 1) := by decide +kernel
theorem dL_law_924 : decode cL_law 924 = .ok (.ifCond .eq 5, 3) := by decide +kernel
theorem dL_law_927 : decode cL_law 927 = .ok (.iconst 0, 1) := by decide +kernel
theorem dL_law_928 : decode cL_law 928 = .ok (.ireturn, 1) := by decide +kernel
theorem dL_law_929 : decode cL_law 929 = .ok (.goto 699, 3) := by decide +kernel
end
section
theorem dL_law_932 : decode cL_law 932 = .ok (.aload_n 1, 1) := by decide +kernel
theorem dL_law_933 : decode cL_law 933 = .ok (.aload_n 0, 1) := by decide +kernel
theorem dL_law_934 : decode cL_law 934 = .ok (.iload 4, 2) := by decide +kernel
theorem dL_law_936 : decode cL_law 936 = .ok (.iconst 1, 1) := by decide +kernel
theorem dL_law_937 : decode cL_law 937 = .ok (.iadd, 1) := by decide +kernel
theorem dL_law_938 : decode cL_law 938 = .ok (.iaload, 1) := by decide +kernel
theorem dL_law_939 : decode cL_law 939 = .ok (.aload_n 3, 1) := by decide +kernel
theorem dL_law_940 : decode cL_law 940 = .ok (.invokestatic 151, 3) := by decide +kernel
theorem dL_law_943 : decode cL_law 943 = .ok (.istore 5, 2) := by decide +kernel
theorem dL_law_945 : decode cL_law 945 = .ok (.aload_n 2, 1) := by decide +kernel
theorem dL_law_946 : decode cL_law 946 = .ok (.aload_n 0, 1) := by decide +kernel
theorem dL_law_947 : decode cL_law 947 = .ok (.iload 4, 2) := by decide +kernel
theorem dL_law_949 : decode cL_law 949 = .ok (.iconst 1, 1) := by decide +kernel
theorem dL_law_950 : decode cL_law 950 = .ok (.iadd, 1) := by decide +kernel
theorem dL_law_951 : decode cL_law 951 = .ok (.iaload, 1) := by decide +kernel
theorem dL_law_952 : decode cL_law 952 = .ok (.invokevirtual 153, 3) := by decide +kernel
theorem dL_law_955 : decode cL_law 955 = .ok (.istore 6, 2) := by decide +kernel
theorem dL_law_957 : decode cL_law 957 = .ok (.aload_n 2, 1) := by decide +kernel
theorem dL_law_958 : decode cL_law 958 = .ok (.invokevirtual 92, 3) := by decide +kernel
theorem dL_law_961 : decode cL_law 961 = .ok (.iload 5, 2) := by decide +kernel
theorem dL_law_963 : decode cL_law 963 = .ok (.if_icmp .eq 5, 3) := by decide +kernel
theorem dL_law_966 : decode cL_law 966 = .ok (.iconst 0, 1) := by decide +kernel
theorem dL_law_967 : decode cL_law 967 = .ok (.ireturn, 1) := by decide +kernel
theorem dL_law_968 : decode cL_law 968 = .ok (.iload 5, 2) := by decide +kernel
theorem dL_law_970 : decode cL_law 970 = .ok (.ifCond .ne 15, 3) := by decide +kernel
theorem dL_law_973 : decode cL_law 973 = .ok (.aload_n 3, 1) := by decide +kernel
theorem dL_law_974 : decode cL_law 974 = .ok (.iconst 0, 1) := by decide +kernel
theorem dL_law_975 : decode cL_law 975 = .ok (.laload, 1) := by decide +kernel
theorem dL_law_976 : decode cL_law 976 = .ok (.iload 6, 2) := by decide +kernel
theorem dL_law_978 : decode cL_law 978 = .ok (.i2l, 1) := by decide +kernel
theorem dL_law_979 : decode cL_law 979 = .ok (.lcmp, 1) := by decide +kernel
theorem dL_law_980 : decode cL_law 980 = .ok (.ifCond .eq 5, 3) := by decide +kernel
theorem dL_law_983 : decode cL_law 983 = .ok (.iconst 0, 1) := by decide +kernel
theorem dL_law_984 : decode cL_law 984 = .ok (.ireturn, 1) := by decide +kernel
theorem dL_law_985 : decode cL_law 985 = .ok (.goto 643, 3) := by decide +kernel
theorem dL_law_988 : decode cL_law 988 = .ok (.aload_n 1, 1) := by decide +kernel
theorem dL_law_989 : decode cL_law 989 = .ok (.aload_n 0, 1) := by decide +kernel
theorem dL_law_990 : decode cL_law 990 = .ok (.iload 4, 2) := by decide +kernel
theorem dL_law_992 : decode cL_law 992 = .ok (.iconst 1, 1) := by decide +kernel
theorem dL_law_993 : decode cL_law 993 = .ok (.iadd, 1) := by decide +kernel
theorem dL_law_994 : decode cL_law 994 = .ok (.iaload, 1) := by decide +kernel
theorem dL_law_995 : decode cL_law 995 = .ok (.aload_n 3, 1) := by decide +kernel
theorem dL_law_996 : decode cL_law 996 = .ok (.invokestatic 154, 3) := by decide +kernel
theorem dL_law_999 : decode cL_law 999 = .ok (.istore 5, 2) := by decide +kernel
theorem dL_law_1001 : decode cL_law 1001 = .ok (.aload_n 2, 1) := by decide +kernel
theorem dL_law_1002 : decode cL_law 1002 = .ok (.aload_n 0, 1) := by decide +kernel
theorem dL_law_1003 : decode cL_law 1003 = .ok (.iload 4, 2) := by decide +kernel
theorem dL_law_1005 : decode cL_law 1005 = .ok (.iconst 1, 1) := by decide +kernel
theorem dL_law_1006 : decode cL_law 1006 = .ok (.iadd, 1) := by decide +kernel
theorem dL_law_1007 : decode cL_law 1007 = .ok (.iaload, 1) := by decide +kernel
theorem dL_law_1008 : decode cL_law 1008 = .ok (.invokevirtual 156, 3) := by decide +kernel
theorem dL_law_1011 : decode cL_law 1011 = .ok (.istore 6, 2) := by decide +kernel
theorem dL_law_1013 : decode cL_law 1013 = .ok (.aload_n 2, 1) := by decide +kernel
theorem dL_law_1014 : decode cL_law 1014 = .ok (.invokevirtual 92, 3) := by decide +kernel
theorem dL_law_1017 : decode cL_law 1017 = .ok (.iload 5, 2) := by decide +kernel
theorem dL_law_1019 : decode cL_law 1019 = .ok (.if_icmp .eq 5, 3) := by decide +kernel
theorem dL_law_1022 : decode cL_law 1022 = .ok (.iconst 0, 1) := by decide +kernel
theorem dL_law_1023 : decode cL_law 1023 = .ok (.ireturn, 1) := by decide +kernel
theorem dL_law_1024 : decode cL_law 1024 = .ok (.iload 5, 2) := by decide +kernel
theorem dL_law_1026 : decode cL_law 1026 = .ok (.ifCond .ne 15, 3) := by decide +kernel
theorem dL_law_1029 : decode cL_law 1029 = .ok (.aload_n 3, 1) := by decide +kernel
theorem dL_law_1030 : decode cL_law 1030 = .ok (.iconst 0, 1) := by decide +kernel
theorem dL_law_1031 : decode cL_law 1031 = .ok (.laload, 1) := by decide +kernel
theorem dL_law_1032 : decode cL_law 1032 = .ok (.iload 6, 2) := by decide +kernel
theorem dL_law_1034 : decode cL_law 1034 = .ok (.i2l, 1) := by decide +kernel
theorem dL_law_1035 : decode cL_law 1035 = .ok (.lcmp, 1) := by decide +kernel
theorem dL_law_1036 : decode cL_law 1036 = .ok (.ifCond .eq 5, 3) := by decide +kernel
theorem dL_law_1039 : decode cL_law 1039 = .ok (.iconst 0, 1) := by decide +kernel
theorem dL_law_1040 : decode cL_law 1040 = .ok (.ireturn, 1) := by decide +kernel
theorem dL_law_1041 : decode cL_law 1041 = .ok (.goto 587, 3) := by decide +kernel
theorem dL_law_1044 : decode cL_law 1044 = .ok (.aload_n 1, 1) := by decide +kernel
theorem dL_law_1045 : decode cL_law 1045 = .ok (.aload_n 0, 1) := by decide +kernel
theorem dL_law_1046 : decode cL_law 1046 = .ok (.iload 4, 2) := by decide +kernel
theorem dL_law_1048 : decode cL_law 1048 = .ok (.iconst 1, 1) := by decide +kernel
theorem dL_law_1049 : decode cL_law 1049 = .ok (.iadd, 1) := by decide +kernel
theorem dL_law_1050 : decode cL_law 1050 = .ok (.iaload, 1) := by decide +kernel
theorem dL_law_1051 : decode cL_law 1051 = .ok (.aload_n 3, 1) := by decide +kernel
theorem dL_law_1052 : decode cL_law 1052 = .ok (.invokestatic 157, 3) := by decide +kernel
theorem dL_law_1055 : decode cL_law 1055 = .ok (.istore 5, 2) := by decide +kernel
theorem dL_law_1057 : decode cL_law 1057 = .ok (.aload_n 2, 1) := by decide +kernel
theorem dL_law_1058 : decode cL_law 1058 = .ok (.aload_n 0, 1) := by decide +kernel
theorem dL_law_1059 : decode cL_law 1059 = .ok (.iload 4, 2) := by decide +kernel
theorem dL_law_1061 : decode cL_law 1061 = .ok (.iconst 1, 1) := by decide +kernel
theorem dL_law_1062 : decode cL_law 1062 = .ok (.iadd, 1) := by decide +kernel
theorem dL_law_1063 : decode cL_law 1063 = .ok (.iaload, 1) := by decide +kernel
theorem dL_law_1064 : decode cL_law 1064 = .ok (.invokevirtual 159, 3) := by decide +kernel
theorem dL_law_1067 : decode cL_law 1067 = .ok (.istore 6, 2) := by decide +kernel
theorem dL_law_1069 : decode cL_law 1069 = .ok (.aload_n 2, 1) := by decide +kernel
theorem dL_law_1070 : decode cL_law 1070 = .ok (.invokevirtual 92, 3) := by decide +kernel
theorem dL_law_1073 : decode cL_law 1073 = .ok (.iload 5, 2) := by decide +kernel
theorem dL_law_1075 : decode cL_law 1075 = .ok (.if_icmp .eq 5, 3) := by decide +kernel
theorem dL_law_1078 : decode cL_law 1078 = .ok (.iconst 0, 1) := by decide +kernel
theorem dL_law_1079 : decode cL_law 1079 = .ok (.ireturn, 1) := by decide +kernel
theorem dL_law_1080 : decode cL_law 1080 = .ok (.iload 5, 2) := by decide +kernel
theorem dL_law_1082 : decode cL_law 1082 = .ok (.ifCond .ne 15, 3) := by decide +kernel
theorem dL_law_1085 : decode cL_law 1085 = .ok (.aload_n 3, 1) := by decide +kernel
theorem dL_law_1086 : decode cL_law 1086 = .ok (.iconst 0, 1) := by decide +kernel
theorem dL_law_1087 : decode cL_law 1087 = .ok (.laload, 1) := by decide +kernel
theorem dL_law_1088 : decode cL_law 1088 = .ok (.iload 6, 2) := by decide +kernel
theorem dL_law_1090 : decode cL_law 1090 = .ok (.i2l, 1) := by decide +kernel
theorem dL_law_1091 : decode cL_law 1091 = .ok (.lcmp, 1) := by decide +kernel
theorem dL_law_1092 : decode cL_law 1092 = .ok (.ifCond .eq 5, 3) := by decide +kernel
theorem dL_law_1095 : decode cL_law 1095 = .ok (.iconst 0, 1) := by decide +kernel
theorem dL_law_1096 : decode cL_law 1096 = .ok (.ireturn, 1) := by decide +kernel
theorem dL_law_1097 : decode cL_law 1097 = .ok (.goto 531, 3) := by decide +kernel
theorem dL_law_1100 : decode cL_law 1100 = .ok (.aload_n 1, 1) := by decide +kernel
theorem dL_law_1101 : decode cL_law 1101 = .ok (.aload_n 0, 1) := by decide +kernel
theorem dL_law_1102 : decode cL_law 1102 = .ok (.iload 4, 2) := by decide +kernel
theorem dL_law_1104 : decode cL_law 1104 = .ok (.iconst 1, 1) := by decide +kernel
theorem dL_law_1105 : decode cL_law 1105 = .ok (.iadd, 1) := by decide +kernel
theorem dL_law_1106 : decode cL_law 1106 = .ok (.iaload, 1) := by decide +kernel
theorem dL_law_1107 : decode cL_law 1107 = .ok (.aload_n 3, 1) := by decide +kernel
theorem dL_law_1108 : decode cL_law 1108 = .ok (.invokestatic 160, 3) := by decide +kernel
theorem dL_law_1111 : decode cL_law 1111 = .ok (.istore 5, 2) := by decide +kernel
theorem dL_law_1113 : decode cL_law 1113 = .ok (.aload_n 2, 1) := by decide +kernel
theorem dL_law_1114 : decode cL_law 1114 = .ok (.aload_n 0, 1) := by decide +kernel
theorem dL_law_1115 : decode cL_law 1115 = .ok (.iload 4, 2) := by decide +kernel
theorem dL_law_1117 : decode cL_law 1117 = .ok (.iconst 1, 1) := by decide +kernel
theorem dL_law_1118 : decode cL_law 1118 = .ok (.iadd, 1) := by decide +kernel
theorem dL_law_1119 : decode cL_law 1119 = .ok (.iaload, 1) := by decide +kernel
theorem dL_law_1120 : decode cL_law 1120 = .ok (.invokevirtual 162, 3) := by decide +kernel
theorem dL_law_1123 : decode cL_law 1123 = .ok (.istore 6, 2) := by decide +kernel
theorem dL_law_1125 : decode cL_law 1125 = .ok (.aload_n 2, 1) := by decide +kernel
theorem dL_law_1126 : decode cL_law 1126 = .ok (.invokevirtual 92, 3) := by decide +kernel
theorem dL_law_1129 : decode cL_law 1129 = .ok (.iload 5, 2) := by decide +kernel
theorem dL_law_1131 : decode cL_law 1131 = .ok (.if_icmp .eq 5, 3) := by decide +kernel
theorem dL_law_1134 : decode cL_law 1134 = .ok (.iconst 0, 1) := by decide +kernel
theorem dL_law_1135 : decode cL_law 1135 = .ok (.ireturn, 1) := by decide +kernel
theorem dL_law_1136 : decode cL_law 1136 = .ok (.iload 5, 2) := by decide +kernel
theorem dL_law_1138 : decode cL_law 1138 = .ok (.ifCond .ne 15, 3) := by decide +kernel
theorem dL_law_1141 : decode cL_law 1141 = .ok (.aload_n 3, 1) := by decide +kernel
theorem dL_law_1142 : decode cL_law 1142 = .ok (.iconst 0, 1) := by decide +kernel
theorem dL_law_1143 : decode cL_law 1143 = .ok (.laload, 1) := by decide +kernel
theorem dL_law_1144 : decode cL_law 1144 = .ok (.iload 6, 2) := by decide +kernel
theorem dL_law_1146 : decode cL_law 1146 = .ok (.i2l, 1) := by decide +kernel
theorem dL_law_1147 : decode cL_law 1147 = .ok (.lcmp, 1) := by decide +kernel
theorem dL_law_1148 : decode cL_law 1148 = .ok (.ifCond .eq 5, 3) := by decide +kernel
theorem dL_law_1151 : decode cL_law 1151 = .ok (.iconst 0, 1) := by decide +kernel
theorem dL_law_1152 : decode cL_law 1152 = .ok (.ireturn, 1) := by decide +kernel
theorem dL_law_1153 : decode cL_law 1153 = .ok (.goto 475, 3) := by decide +kernel
theorem dL_law_1156 : decode cL_law 1156 = .ok (.aload_n 1, 1) := by decide +kernel
theorem dL_law_1157 : decode cL_law 1157 = .ok (.aload_n 0, 1) := by decide +kernel
theorem dL_law_1158 : decode cL_law 1158 = .ok (.iload 4, 2) := by decide +kernel
theorem dL_law_1160 : decode cL_law 1160 = .ok (.iconst 1, 1) := by decide +kernel
theorem dL_law_1161 : decode cL_law 1161 = .ok (.iadd, 1) := by decide +kernel
theorem dL_law_1162 : decode cL_law 1162 = .ok (.iaload, 1) := by decide +kernel
theorem dL_law_1163 : decode cL_law 1163 = .ok (.aload_n 3, 1) := by decide +kernel
theorem dL_law_1164 : decode cL_law 1164 = .ok (.invokestatic 163, 3) := by decide +kernel
theorem dL_law_1167 : decode cL_law 1167 = .ok (.istore 5, 2) := by decide +kernel
theorem dL_law_1169 : decode cL_law 1169 = .ok (.aload_n 2, 1) := by decide +kernel
theorem dL_law_1170 : decode cL_law 1170 = .ok (.aload_n 0, 1) := by decide +kernel
theorem dL_law_1171 : decode cL_law 1171 = .ok (.iload 4, 2) := by decide +kernel
theorem dL_law_1173 : decode cL_law 1173 = .ok (.iconst 1, 1) := by decide +kernel
theorem dL_law_1174 : decode cL_law 1174 = .ok (.iadd, 1) := by decide +kernel
theorem dL_law_1175 : decode cL_law 1175 = .ok (.iaload, 1) := by decide +kernel
theorem dL_law_1176 : decode cL_law 1176 = .ok (.invokevirtual 165, 3) := by decide +kernel
theorem dL_law_1179 : decode cL_law 1179 = .ok (.istore 6, 2) := by decide +kernel
theorem dL_law_1181 : decode cL_law 1181 = .ok (.aload_n 2, 1) := by decide +kernel
theorem dL_law_1182 : decode cL_law 1182 = .ok (.invokevirtual 92, 3) := by decide +kernel
theorem dL_law_1185 : decode cL_law 1185 = .ok (.iload 5, 2) := by decide +kernel
end
section
theorem dL_law_1187 : decode cL_law 1187 = .ok (.if_icmp .eq 5, 3) := by decide +kernel
theorem dL_law_1190 : decode cL_law 1190 = .ok (.iconst 0, 1) := by decide +kernel
theorem dL_law_1191 : decode cL_law 1191 = .ok (.ireturn, 1) := by decide +kernel
theorem dL_law_1192 : decode cL_law 1192 = .ok (.iload 5, 2) := by decide +kernel
theorem dL_law_1194 : decode cL_law 1194 = .ok (.ifCond .ne 15, 3) := by decide +kernel
theorem dL_law_1197 : decode cL_law 1197 = .ok (.aload_n 3, 1) := by decide +kernel
theorem dL_law_1198 : decode cL_law 1198 = .ok (.iconst 0, 1) := by decide +kernel
theorem dL_law_1199 : decode cL_law 1199 = .ok (.laload, 1) := by decide +kernel
theorem dL_law_1200 : decode cL_law 1200 = .ok (.iload 6, 2) := by decide +kernel
theorem dL_law_1202 : decode cL_law 1202 = .ok (.i2l, 1) := by decide +kernel
theorem dL_law_1203 : decode cL_law 1203 = .ok (.lcmp, 1) := by decide +kernel
theorem dL_law_1204 : decode cL_law 1204 = .ok (.ifCond .eq 5, 3) := by decide +kernel
theorem dL_law_1207 : decode cL_law 1207 = .ok (.iconst 0, 1) := by decide +kernel
theorem dL_law_1208 : decode cL_law 1208 = .ok (.ireturn, 1) := by decide +kernel
theorem dL_law_1209 : decode cL_law 1209 = .ok (.goto 419, 3) := by decide +kernel
theorem dL_law_1212 : decode cL_law 1212 = .ok (.aload_n 1, 1) := by decide +kernel
theorem dL_law_1213 : decode cL_law 1213 = .ok (.aload_n 0, 1) := by decide +kernel
theorem dL_law_1214 : decode cL_law 1214 = .ok (.iload 4, 2) := by decide +kernel
theorem dL_law_1216 : decode cL_law 1216 = .ok (.iconst 1, 1) := by decide +kernel
theorem dL_law_1217 : decode cL_law 1217 = .ok (.iadd, 1) := by decide +kernel
theorem dL_law_1218 : decode cL_law 1218 = .ok (.iaload, 1) := by decide +kernel
theorem dL_law_1219 : decode cL_law 1219 = .ok (.aload_n 0, 1) := by decide +kernel
theorem dL_law_1220 : decode cL_law 1220 = .ok (.iload 4, 2) := by decide +kernel
theorem dL_law_1222 : decode cL_law 1222 = .ok (.iconst 2, 1) := by decide +kernel
theorem dL_law_1223 : decode cL_law 1223 = .ok (.iadd, 1) := by decide +kernel
theorem dL_law_1224 : decode cL_law 1224 = .ok (.iaload, 1) := by decide +kernel
theorem dL_law_1225 : decode cL_law 1225 = .ok (.aload_n 3, 1) := by decide +kernel
theorem dL_law_1226 : decode cL_law 1226 = .ok (.invokestatic 166, 3) := by decide +kernel
theorem dL_law_1229 : decode cL_law 1229 = .ok (.istore 5, 2) := by decide +kernel
theorem dL_law_1231 : decode cL_law 1231 = .ok (.aload_n 2, 1) := by decide +kernel
theorem dL_law_1232 : decode cL_law 1232 = .ok (.aload_n 0, 1) := by decide +kernel
theorem dL_law_1233 : decode cL_law 1233 = .ok (.iload 4, 2) := by decide +kernel
theorem dL_law_1235 : decode cL_law 1235 = .ok (.iconst 1, 1) := by decide +kernel
theorem dL_law_1236 : decode cL_law 1236 = .ok (.iadd, 1) := by decide +kernel
theorem dL_law_1237 : decode cL_law 1237 = .ok (.iaload, 1) := by decide +kernel
theorem dL_law_1238 : decode cL_law 1238 = .ok (.aload_n 0, 1) := by decide +kernel
theorem dL_law_1239 : decode cL_law 1239 = .ok (.iload 4, 2) := by decide +kernel
theorem dL_law_1241 : decode cL_law 1241 = .ok (.iconst 2, 1) := by decide +kernel
theorem dL_law_1242 : decode cL_law 1242 = .ok (.iadd, 1) := by decide +kernel
theorem dL_law_1243 : decode cL_law 1243 = .ok (.iaload, 1) := by decide +kernel
theorem dL_law_1244 : decode cL_law 1244 = .ok (.invokevirtual 168, 3) := by decide +kernel
theorem dL_law_1247 : decode cL_law 1247 = .ok (.istore 6, 2) := by decide +kernel
theorem dL_law_1249 : decode cL_law 1249 = .ok (.aload_n 2, 1) := by decide +kernel
theorem dL_law_1250 : decode cL_law 1250 = .ok (.invokevirtual 92, 3) := by decide +kernel
theorem dL_law_1253 : decode cL_law 1253 = .ok (.iload 5, 2) := by decide +kernel
theorem dL_law_1255 : decode cL_law 1255 = .ok (.if_icmp .eq 5, 3) := by decide +kernel
theorem dL_law_1258 : decode cL_law 1258 = .ok (.iconst 0, 1) := by decide +kernel
theorem dL_law_1259 : decode cL_law 1259 = .ok (.ireturn, 1) := by decide +kernel
theorem dL_law_1260 : decode cL_law 1260 = .ok (.iload 5, 2) := by decide +kernel
theorem dL_law_1262 : decode cL_law 1262 = .ok (.ifCond .ne 15, 3) := by decide +kernel
theorem dL_law_1265 : decode cL_law 1265 = .ok (.aload_n 3, 1) := by decide +kernel
theorem dL_law_1266 : decode cL_law 1266 = .ok (.iconst 0, 1) := by decide +kernel
theorem dL_law_1267 : decode cL_law 1267 = .ok (.laload, 1) := by decide +kernel
theorem dL_law_1268 : decode cL_law 1268 = .ok (.iload 6, 2) := by decide +kernel
theorem dL_law_1270 : decode cL_law 1270 = .ok (.i2l, 1) := by decide +kernel
theorem dL_law_1271 : decode cL_law 1271 = .ok (.lcmp, 1) := by decide +kernel
theorem dL_law_1272 : decode cL_law 1272 = .ok (.ifCond .eq 5, 3) := by decide +kernel
theorem dL_law_1275 : decode cL_law 1275 = .ok (.iconst 0, 1) := by decide +kernel
theorem dL_law_1276 : decode cL_law 1276 = .ok (.ireturn, 1) := by decide +kernel
theorem dL_law_1277 : decode cL_law 1277 = .ok (.goto 351, 3) := by decide +kernel
theorem dL_law_1280 : decode cL_law 1280 = .ok (.aload_n 1, 1) := by decide +kernel
theorem dL_law_1281 : decode cL_law 1281 = .ok (.aload_n 0, 1) := by decide +kernel
theorem dL_law_1282 : decode cL_law 1282 = .ok (.iload 4, 2) := by decide +kernel
theorem dL_law_1284 : decode cL_law 1284 = .ok (.iconst 1, 1) := by decide +kernel
theorem dL_law_1285 : decode cL_law 1285 = .ok (.iadd, 1) := by decide +kernel
theorem dL_law_1286 : decode cL_law 1286 = .ok (.iaload, 1) := by decide +kernel
theorem dL_law_1287 : decode cL_law 1287 = .ok (.aload_n 0, 1) := by decide +kernel
theorem dL_law_1288 : decode cL_law 1288 = .ok (.iload 4, 2) := by decide +kernel
theorem dL_law_1290 : decode cL_law 1290 = .ok (.iconst 2, 1) := by decide +kernel
theorem dL_law_1291 : decode cL_law 1291 = .ok (.iadd, 1) := by decide +kernel
theorem dL_law_1292 : decode cL_law 1292 = .ok (.iaload, 1) := by decide +kernel
theorem dL_law_1293 : decode cL_law 1293 = .ok (.aload_n 3, 1) := by decide +kernel
theorem dL_law_1294 : decode cL_law 1294 = .ok (.invokestatic 169, 3) := by decide +kernel
theorem dL_law_1297 : decode cL_law 1297 = .ok (.istore 5, 2) := by decide +kernel
theorem dL_law_1299 : decode cL_law 1299 = .ok (.aload_n 2, 1) := by decide +kernel
theorem dL_law_1300 : decode cL_law 1300 = .ok (.aload_n 0, 1) := by decide +kernel
theorem dL_law_1301 : decode cL_law 1301 = .ok (.iload 4, 2) := by decide +kernel
theorem dL_law_1303 : decode cL_law 1303 = .ok (.iconst 1, 1) := by decide +kernel
theorem dL_law_1304 : decode cL_law 1304 = .ok (.iadd, 1) := by decide +kernel
theorem dL_law_1305 : decode cL_law 1305 = .ok (.iaload, 1) := by decide +kernel
theorem dL_law_1306 : decode cL_law 1306 = .ok (.aload_n 0, 1) := by decide +kernel
theorem dL_law_1307 : decode cL_law 1307 = .ok (.iload 4, 2) := by decide +kernel
theorem dL_law_1309 : decode cL_law 1309 = .ok (.iconst 2, 1) := by decide +kernel
theorem dL_law_1310 : decode cL_law 1310 = .ok (.iadd, 1) := by decide +kernel
theorem dL_law_1311 : decode cL_law 1311 = .ok (.iaload, 1) := by decide +kernel
theorem dL_law_1312 : decode cL_law 1312 = .ok (.invokevirtual 171, 3) := by decide +kernel
theorem dL_law_1315 : decode cL_law 1315 = .ok (.istore 6, 2) := by decide +kernel
theorem dL_law_1317 : decode cL_law 1317 = .ok (.aload_n 2, 1) := by decide +kernel
theorem dL_law_1318 : decode cL_law 1318 = .ok (.invokevirtual 92, 3) := by decide +kernel
theorem dL_law_1321 : decode cL_law 1321 = .ok (.iload 5, 2) := by decide +kernel
theorem dL_law_1323 : decode cL_law 1323 = .ok (.if_icmp .eq 5, 3) := by decide +kernel
theorem dL_law_1326 : decode cL_law 1326 = .ok (.iconst 0, 1) := by decide +kernel
theorem dL_law_1327 : decode cL_law 1327 = .ok (.ireturn, 1) := by decide +kernel
theorem dL_law_1328 : decode cL_law 1328 = .ok (.iload 5, 2) := by decide +kernel
theorem dL_law_1330 : decode cL_law 1330 = .ok (.ifCond .ne 15, 3) := by decide +kernel
theorem dL_law_1333 : decode cL_law 1333 = .ok (.aload_n 3, 1) := by decide +kernel
theorem dL_law_1334 : decode cL_law 1334 = .ok (.iconst 0, 1) := by decide +kernel
theorem dL_law_1335 : decode cL_law 1335 = .ok (.laload, 1) := by decide +kernel
theorem dL_law_1336 : decode cL_law 1336 = .ok (.iload 6, 2) := by decide +kernel
theorem dL_law_1338 : decode cL_law 1338 = .ok (.i2l, 1) := by decide +kernel
theorem dL_law_1339 : decode cL_law 1339 = .ok (.lcmp, 1) := by decide +kernel
theorem dL_law_1340 : decode cL_law 1340 = .ok (.ifCond .eq 5, 3) := by decide +kernel
theorem dL_law_1343 : decode cL_law 1343 = .ok (.iconst 0, 1) := by decide +kernel
theorem dL_law_1344 : decode cL_law 1344 = .ok (.ireturn, 1) := by decide +kernel
theorem dL_law_1345 : decode cL_law 1345 = .ok (.goto 283, 3) := by decide +kernel
theorem dL_law_1348 : decode cL_law 1348 = .ok (.aload_n 1, 1) := by decide +kernel
theorem dL_law_1349 : decode cL_law 1349 = .ok (.invokevirtual 172, 3) := by decide +kernel
theorem dL_law_1352 : decode cL_law 1352 = .ok (.aload_n 2, 1) := by decide +kernel
theorem dL_law_1353 : decode cL_law 1353 = .ok (.invokevirtual 175, 3) := by decide +kernel
theorem dL_law_1356 : decode cL_law 1356 = .ok (.if_icmp .eq 272, 3) := by decide +kernel
theorem dL_law_1359 : decode cL_law 1359 = .ok (.iconst 0, 1) := by decide +kernel
theorem dL_law_1360 : decode cL_law 1360 = .ok (.ireturn, 1) := by decide +kernel
theorem dL_law_1361 : decode cL_law 1361 = .ok (.aload_n 1, 1) := by decide +kernel
theorem dL_law_1362 : decode cL_law 1362 = .ok (.aload_n 0, 1) := by decide +kernel
theorem dL_law_1363 : decode cL_law 1363 = .ok (.iload 4, 2) := by decide +kernel
theorem dL_law_1365 : decode cL_law 1365 = .ok (.iconst 1, 1) := by decide +kernel
theorem dL_law_1366 : decode cL_law 1366 = .ok (.iadd, 1) := by decide +kernel
theorem dL_law_1367 : decode cL_law 1367 = .ok (.iaload, 1) := by decide +kernel
theorem dL_law_1368 : decode cL_law 1368 = .ok (.aload_n 0, 1) := by decide +kernel
theorem dL_law_1369 : decode cL_law 1369 = .ok (.iload 4, 2) := by decide +kernel
theorem dL_law_1371 : decode cL_law 1371 = .ok (.iconst 2, 1) := by decide +kernel
theorem dL_law_1372 : decode cL_law 1372 = .ok (.iadd, 1) := by decide +kernel
theorem dL_law_1373 : decode cL_law 1373 = .ok (.iaload, 1) := by decide +kernel
theorem dL_law_1374 : decode cL_law 1374 = .ok (.aload_n 3, 1) := by decide +kernel
theorem dL_law_1375 : decode cL_law 1375 = .ok (.invokestatic 176, 3) := by decide +kernel
theorem dL_law_1378 : decode cL_law 1378 = .ok (.istore 5, 2) := by decide +kernel
theorem dL_law_1380 : decode cL_law 1380 = .ok (.aload_n 2, 1) := by decide +kernel
theorem dL_law_1381 : decode cL_law 1381 = .ok (.aload_n 0, 1) := by decide +kernel
theorem dL_law_1382 : decode cL_law 1382 = .ok (.iload 4, 2) := by decide +kernel
theorem dL_law_1384 : decode cL_law 1384 = .ok (.iconst 1, 1) := by decide +kernel
theorem dL_law_1385 : decode cL_law 1385 = .ok (.iadd, 1) := by decide +kernel
theorem dL_law_1386 : decode cL_law 1386 = .ok (.iaload, 1) := by decide +kernel
theorem dL_law_1387 : decode cL_law 1387 = .ok (.aload_n 0, 1) := by decide +kernel
theorem dL_law_1388 : decode cL_law 1388 = .ok (.iload 4, 2) := by decide +kernel
theorem dL_law_1390 : decode cL_law 1390 = .ok (.iconst 2, 1) := by decide +kernel
theorem dL_law_1391 : decode cL_law 1391 = .ok (.iadd, 1) := by decide +kernel
theorem dL_law_1392 : decode cL_law 1392 = .ok (.iaload, 1) := by decide +kernel
theorem dL_law_1393 : decode cL_law 1393 = .ok (.invokevirtual 178, 3) := by decide +kernel
theorem dL_law_1396 : decode cL_law 1396 = .ok (.istore 6, 2) := by decide +kernel
theorem dL_law_1398 : decode cL_law 1398 = .ok (.aload_n 2, 1) := by decide +kernel
theorem dL_law_1399 : decode cL_law 1399 = .ok (.invokevirtual 92, 3) := by decide +kernel
theorem dL_law_1402 : decode cL_law 1402 = .ok (.iload 5, 2) := by decide +kernel
theorem dL_law_1404 : decode cL_law 1404 = .ok (.if_icmp .eq 5, 3) := by decide +kernel
theorem dL_law_1407 : decode cL_law 1407 = .ok (.iconst 0, 1) := by decide +kernel
theorem dL_law_1408 : decode cL_law 1408 = .ok (.ireturn, 1) := by decide +kernel
theorem dL_law_1409 : decode cL_law 1409 = .ok (.iload 5, 2) := by decide +kernel
theorem dL_law_1411 : decode cL_law 1411 = .ok (.ifCond .ne 15, 3) := by decide +kernel
theorem dL_law_1414 : decode cL_law 1414 = .ok (.aload_n 3, 1) := by decide +kernel
theorem dL_law_1415 : decode cL_law 1415 = .ok (.iconst 0, 1) := by decide +kernel
theorem dL_law_1416 : decode cL_law 1416 = .ok (.laload, 1) := by decide +kernel
theorem dL_law_1417 : decode cL_law 1417 = .ok (.iload 6, 2) := by decide +kernel
theorem dL_law_1419 : decode cL_law 1419 = .ok (.i2l, 1) := by decide +kernel
theorem dL_law_1420 : decode cL_law 1420 = .ok (.lcmp, 1) := by decide +kernel
theorem dL_law_1421 : decode cL_law 1421 = .ok (.ifCond .eq 5, 3) := by decide +kernel
theorem dL_law_1424 : decode cL_law 1424 = .ok (.iconst 0, 1) := by decide +kernel
theorem dL_law_1425 : decode cL_law 1425 = .ok (.ireturn, 1) := by decide +kernel
theorem dL_law_1426 : decode cL_law 1426 = .ok (.goto 202, 3) := by decide +kernel
theorem dL_law_1429 : decode cL_law 1429 = .ok (.aload_n 1, 1) := by decide +kernel
theorem dL_law_1430 : decode cL_law 1430 = .ok (.aload_n 0, 1) := by decide +kernel
theorem dL_law_1431 : decode cL_law 1431 = .ok (.iload 4, 2) := by decide +kernel
end
section
theorem dL_law_1433 : decode cL_law 1433 = .ok (.iconst 1, 1) := by decide +kernel
theorem dL_law_1434 : decode cL_law 1434 = .ok (.iadd, 1) := by decide +kernel
theorem dL_law_1435 : decode cL_law 1435 = .ok (.iaload, 1) := by decide +kernel
theorem dL_law_1436 : decode cL_law 1436 = .ok (.aload_n 3, 1) := by decide +kernel
theorem dL_law_1437 : decode cL_law 1437 = .ok (.invokestatic 179, 3) := by decide +kernel
theorem dL_law_1440 : decode cL_law 1440 = .ok (.istore 5, 2) := by decide +kernel
theorem dL_law_1442 : decode cL_law 1442 = .ok (.aload_n 2, 1) := by decide +kernel
theorem dL_law_1443 : decode cL_law 1443 = .ok (.aload_n 0, 1) := by decide +kernel
theorem dL_law_1444 : decode cL_law 1444 = .ok (.iload 4, 2) := by decide +kernel
theorem dL_law_1446 : decode cL_law 1446 = .ok (.iconst 1, 1) := by decide +kernel
theorem dL_law_1447 : decode cL_law 1447 = .ok (.iadd, 1) := by decide +kernel
theorem dL_law_1448 : decode cL_law 1448 = .ok (.iaload, 1) := by decide +kernel
theorem dL_law_1449 : decode cL_law 1449 = .ok (.invokevirtual 181, 3) := by decide +kernel
theorem dL_law_1452 : decode cL_law 1452 = .ok (.istore 6, 2) := by decide +kernel
theorem dL_law_1454 : decode cL_law 1454 = .ok (.aload_n 2, 1) := by decide +kernel
theorem dL_law_1455 : decode cL_law 1455 = .ok (.invokevirtual 92, 3) := by decide +kernel
theorem dL_law_1458 : decode cL_law 1458 = .ok (.iload 5, 2) := by decide +kernel
theorem dL_law_1460 : decode cL_law 1460 = .ok (.if_icmp .eq 5, 3) := by decide +kernel
theorem dL_law_1463 : decode cL_law 1463 = .ok (.iconst 0, 1) := by decide +kernel
theorem dL_law_1464 : decode cL_law 1464 = .ok (.ireturn, 1) := by decide +kernel
theorem dL_law_1465 : decode cL_law 1465 = .ok (.iload 5, 2) := by decide +kernel
theorem dL_law_1467 : decode cL_law 1467 = .ok (.ifCond .ne 15, 3) := by decide +kernel
theorem dL_law_1470 : decode cL_law 1470 = .ok (.aload_n 3, 1) := by decide +kernel
theorem dL_law_1471 : decode cL_law 1471 = .ok (.iconst 0, 1) := by decide +kernel
theorem dL_law_1472 : decode cL_law 1472 = .ok (.laload, 1) := by decide +kernel
theorem dL_law_1473 : decode cL_law 1473 = .ok (.iload 6, 2) := by decide +kernel
theorem dL_law_1475 : decode cL_law 1475 = .ok (.i2l, 1) := by decide +kernel
theorem dL_law_1476 : decode cL_law 1476 = .ok (.lcmp, 1) := by decide +kernel
theorem dL_law_1477 : decode cL_law 1477 = .ok (.ifCond .eq 5, 3) := by decide +kernel
theorem dL_law_1480 : decode cL_law 1480 = .ok (.iconst 0, 1) := by decide +kernel
theorem dL_law_1481 : decode cL_law 1481 = .ok (.ireturn, 1) := by decide +kernel
theorem dL_law_1482 : decode cL_law 1482 = .ok (.goto 146, 3) := by decide +kernel
theorem dL_law_1485 : decode cL_law 1485 = .ok (.aload_n 1, 1) := by decide +kernel
theorem dL_law_1486 : decode cL_law 1486 = .ok (.aload_n 0, 1) := by decide +kernel
theorem dL_law_1487 : decode cL_law 1487 = .ok (.iload 4, 2) := by decide +kernel
theorem dL_law_1489 : decode cL_law 1489 = .ok (.iconst 1, 1) := by decide +kernel
theorem dL_law_1490 : decode cL_law 1490 = .ok (.iadd, 1) := by decide +kernel
theorem dL_law_1491 : decode cL_law 1491 = .ok (.iaload, 1) := by decide +kernel
theorem dL_law_1492 : decode cL_law 1492 = .ok (.aload_n 0, 1) := by decide +kernel
theorem dL_law_1493 : decode cL_law 1493 = .ok (.iload 4, 2) := by decide +kernel
theorem dL_law_1495 : decode cL_law 1495 = .ok (.iconst 2, 1) := by decide +kernel
theorem dL_law_1496 : decode cL_law 1496 = .ok (.iadd, 1) := by decide +kernel
theorem dL_law_1497 : decode cL_law 1497 = .ok (.iaload, 1) := by decide +kernel
theorem dL_law_1498 : decode cL_law 1498 = .ok (.aload_n 3, 1) := by decide +kernel
theorem dL_law_1499 : decode cL_law 1499 = .ok (.invokestatic 182, 3) := by decide +kernel
theorem dL_law_1502 : decode cL_law 1502 = .ok (.istore 5, 2) := by decide +kernel
theorem dL_law_1504 : decode cL_law 1504 = .ok (.aload_n 2, 1) := by decide +kernel
theorem dL_law_1505 : decode cL_law 1505 = .ok (.aload_n 0, 1) := by decide +kernel
theorem dL_law_1506 : decode cL_law 1506 = .ok (.iload 4, 2) := by decide +kernel
theorem dL_law_1508 : decode cL_law 1508 = .ok (.iconst 1, 1) := by decide +kernel
theorem dL_law_1509 : decode cL_law 1509 = .ok (.iadd, 1) := by decide +kernel
theorem dL_law_1510 : decode cL_law 1510 = .ok (.iaload, 1) := by decide +kernel
theorem dL_law_1511 : decode cL_law 1511 = .ok (.aload_n 0, 1) := by decide +kernel
theorem dL_law_1512 : decode cL_law 1512 = .ok (.iload 4, 2) := by decide +kernel
theorem dL_law_1514 : decode cL_law 1514 = .ok (.iconst 2, 1) := by decide +kernel
theorem dL_law_1515 : decode cL_law 1515 = .ok (.iadd, 1) := by decide +kernel
theorem dL_law_1516 : decode cL_law 1516 = .ok (.iaload, 1) := by decide +kernel
theorem dL_law_1517 : decode cL_law 1517 = .ok (.invokevirtual 184, 3) := by decide +kernel
theorem dL_law_1520 : decode cL_law 1520 = .ok (.istore 6, 2) := by decide +kernel
theorem dL_law_1522 : decode cL_law 1522 = .ok (.aload_n 2, 1) := by decide +kernel
theorem dL_law_1523 : decode cL_law 1523 = .ok (.invokevirtual 92, 3) := by decide +kernel
theorem dL_law_1526 : decode cL_law 1526 = .ok (.iload 5, 2) := by decide +kernel
theorem dL_law_1528 : decode cL_law 1528 = .ok (.if_icmp .eq 5, 3) := by decide +kernel
theorem dL_law_1531 : decode cL_law 1531 = .ok (.iconst 0, 1) := by decide +kernel
theorem dL_law_1532 : decode cL_law 1532 = .ok (.ireturn, 1) := by decide +kernel
theorem dL_law_1533 : decode cL_law 1533 = .ok (.iload 5, 2) := by decide +kernel
theorem dL_law_1535 : decode cL_law 1535 = .ok (.ifCond .ne 22, 3) := by decide +kernel
theorem dL_law_1538 : decode cL_law 1538 = .ok (.aload_n 3, 1) := by decide +kernel
theorem dL_law_1539 : decode cL_law 1539 = .ok (.iconst 0, 1) := by decide +kernel
theorem dL_law_1540 : decode cL_law 1540 = .ok (.laload, 1) := by decide +kernel
theorem dL_law_1541 : decode cL_law 1541 = .ok (.iload 6, 2) := by decide +kernel
theorem dL_law_1543 : decode cL_law 1543 = .ok (.ifCond .eq 7, 3) := by decide +kernel
theorem dL_law_1546 : decode cL_law 1546 = .ok (.lconst 1, 1) := by decide +kernel
theorem dL_law_1547 : decode cL_law 1547 = .ok (.goto 4, 3) := by decide +kernel
theorem dL_law_1550 : decode cL_law 1550 = .ok (.lconst 0, 1) := by decide +kernel
theorem dL_law_1551 : decode cL_law 1551 = .ok (.lcmp, 1) := by decide +kernel
theorem dL_law_1552 : decode cL_law 1552 = .ok (.ifCond .eq 5, 3) := by decide +kernel
theorem dL_law_1555 : decode cL_law 1555 = .ok (.iconst 0, 1) := by decide +kernel
theorem dL_law_1556 : decode cL_law 1556 = .ok (.ireturn, 1) := by decide +kernel
theorem dL_law_1557 : decode cL_law 1557 = .ok (.goto 71, 3) := by decide +kernel
theorem dL_law_1560 : decode cL_law 1560 = .ok (.aload_n 1, 1) := by decide +kernel
theorem dL_law_1561 : decode cL_law 1561 = .ok (.invokevirtual 185, 3) := by decide +kernel
theorem dL_law_1564 : decode cL_law 1564 = .ok (.aload_n 2, 1) := by decide +kernel
theorem dL_law_1565 : decode cL_law 1565 = .ok (.invokevirtual 188, 3) := by decide +kernel
theorem dL_law_1568 : decode cL_law 1568 = .ok (.if_icmp .eq 60, 3) := by decide +kernel
theorem dL_law_1571 : decode cL_law 1571 = .ok (.iconst 0, 1) := by decide +kernel
theorem dL_law_1572 : decode cL_law 1572 = .ok (.ireturn, 1) := by decide +kernel
theorem dL_law_1573 : decode cL_law 1573 = .ok (.aload_n 1, 1) := by decide +kernel
theorem dL_law_1574 : decode cL_law 1574 = .ok (.invokevirtual 189, 3) := by decide +kernel
theorem dL_law_1577 : decode cL_law 1577 = .ok (.dstore 5, 2) := by decide +kernel
theorem dL_law_1579 : decode cL_law 1579 = .ok (.aload_n 2, 1) := by decide +kernel
theorem dL_law_1580 : decode cL_law 1580 = .ok (.invokevirtual 193, 3) := by decide +kernel
theorem dL_law_1583 : decode cL_law 1583 = .ok (.dstore 7, 2) := by decide +kernel
theorem dL_law_1585 : decode cL_law 1585 = .ok (.dload 5, 2) := by decide +kernel
theorem dL_law_1587 : decode cL_law 1587 = .ok (.dload 7, 2) := by decide +kernel
theorem dL_law_1589 : decode cL_law 1589 = .ok (.dcmp .l, 1) := by decide +kernel
theorem dL_law_1590 : decode cL_law 1590 = .ok (.ifCond .eq 21, 3) := by decide +kernel
theorem dL_law_1593 : decode cL_law 1593 = .ok (.dload 5, 2) := by decide +kernel
theorem dL_law_1595 : decode cL_law 1595 = .ok (.dload 5, 2) := by decide +kernel
theorem dL_law_1597 : decode cL_law 1597 = .ok (.dcmp .l, 1) := by decide +kernel
theorem dL_law_1598 : decode cL_law 1598 = .ok (.ifCond .eq 11, 3) := by decide +kernel
theorem dL_law_1601 : decode cL_law 1601 = .ok (.dload 7, 2) := by decide +kernel
theorem dL_law_1603 : decode cL_law 1603 = .ok (.dload 7, 2) := by decide +kernel
theorem dL_law_1605 : decode cL_law 1605 = .ok (.dcmp .l, 1) := by decide +kernel
theorem dL_law_1606 : decode cL_law 1606 = .ok (.ifCond .ne 5, 3) := by decide +kernel
theorem dL_law_1609 : decode cL_law 1609 = .ok (.iconst 0, 1) := by decide +kernel
theorem dL_law_1610 : decode cL_law 1610 = .ok (.ireturn, 1) := by decide +kernel
theorem dL_law_1611 : decode cL_law 1611 = .ok (.goto 17, 3) := by decide +kernel
theorem dL_law_1614 : decode cL_law 1614 = .ok (.aload_n 1, 1) := by decide +kernel
theorem dL_law_1615 : decode cL_law 1615 = .ok (.invokevirtual 194, 3) := by decide +kernel
theorem dL_law_1618 : decode cL_law 1618 = .ok (.aload_n 2, 1) := by decide +kernel
theorem dL_law_1619 : decode cL_law 1619 = .ok (.invokevirtual 198, 3) := by decide +kernel
theorem dL_law_1622 : decode cL_law 1622 = .ok (.lcmp, 1) := by decide +kernel
theorem dL_law_1623 : decode cL_law 1623 = .ok (.ifCond .eq 5, 3) := by decide +kernel
theorem dL_law_1626 : decode cL_law 1626 = .ok (.iconst 0, 1) := by decide +kernel
theorem dL_law_1627 : decode cL_law 1627 = .ok (.ireturn, 1) := by decide +kernel
theorem dL_law_1628 : decode cL_law 1628 = .ok (.iinc 4 3, 3) := by decide +kernel
theorem dL_law_1631 : decode cL_law 1631 = .ok (.goto (-1608), 3) := by decide +kernel
theorem dL_law_1634 : decode cL_law 1634 = .ok (.iconst 1, 1) := by decide +kernel
theorem dL_law_1635 : decode cL_law 1635 = .ok (.ireturn, 1) := by decide +kernel
end
section
/-- the words that every contract asks: all that the tables say and that stays -/
def AllW : List Cond := lw_tbl.filter goodWord
theorem aw_t {w : Cond} {j : Nat} (h : tables_1[j]? = some w) (g : goodWord w = true) : w ∈ AllW := List.mem_filter.mpr ⟨List.mem_append_right _ (List.mem_of_getElem? h), g⟩
theorem aw_p {q : MethodName × Nat} {j : Nat} (h : lw_privs[j]? = some q) (g : goodWord (Cond.selects q.1.cls q.1 q.1) = true) : Cond.selects q.1.cls q.1 q.1 ∈ AllW := List.mem_filter.mpr ⟨List.mem_append_left _ (List.mem_map.mpr ⟨q, List.mem_of_getElem? h, rfl⟩), g⟩
theorem aw_lw {s : State} {args : Array Value} (h : ∀ w ∈ lw_tbl, w.before args s = true) : ∀ w ∈ AllW, w.before args s = true := fun w hw => h w (List.mem_filter.mp hw).1
theorem aw_good : ∀ w ∈ AllW, (w.onTables && w.keeps) = true ∨ ∃ ty, w = .arrayClass ty := fun _ hw => good_of_word (List.mem_filter.mp hw).2
theorem w0 : (Jvm.Cond.initialized "CatEveningsLaw") ∈ AllW := aw_t (j := 0) (by decide +kernel) (by decide +kernel)
theorem w1 : (Jvm.Cond.initialized "CatEvenings") ∈ AllW := aw_t (j := 1) (by decide +kernel) (by decide +kernel)
theorem w2 : (Jvm.Cond.initialized "CatEvenings$Evening") ∈ AllW := aw_t (j := 2) (by decide +kernel) (by decide +kernel)
theorem w3 : (Jvm.Cond.initialized "CatEvenings$Scene") ∈ AllW := aw_t (j := 3) (by decide +kernel) (by decide +kernel)
theorem w4 : (Jvm.Cond.initialized "java/util/AbstractCollection") ∈ AllW := aw_t (j := 4) (by decide +kernel) (by decide +kernel)
theorem w5 : (Jvm.Cond.initialized "java/util/AbstractList") ∈ AllW := aw_t (j := 5) (by decide +kernel) (by decide +kernel)
theorem w6 : (Jvm.Cond.initialized "java/util/ArrayList") ∈ AllW := aw_t (j := 6) (by decide +kernel) (by decide +kernel)
theorem w7 : (Jvm.Cond.initialized "jdk/internal/util/ArraysSupport") ∈ AllW := aw_t (j := 7) (by decide +kernel) (by decide +kernel)
theorem w8 : (Jvm.Cond.initialized "java/lang/Math") ∈ AllW := aw_t (j := 8) (by decide +kernel) (by decide +kernel)
theorem w9 : (Jvm.Cond.initialized "java/util/Arrays") ∈ AllW := aw_t (j := 9) (by decide +kernel) (by decide +kernel)
theorem w10 : (Jvm.Cond.initialized "java/lang/System") ∈ AllW := aw_t (j := 10) (by decide +kernel) (by decide +kernel)
theorem w11 : (Jvm.Cond.initialized "CatEveningsModel") ∈ AllW := aw_t (j := 11) (by decide +kernel) (by decide +kernel)
theorem w12 : (Jvm.Cond.initialized "java/lang/Throwable") ∈ AllW := aw_t (j := 12) (by decide +kernel) (by decide +kernel)
theorem w13 : (Jvm.Cond.initialized "java/lang/Exception") ∈ AllW := aw_t (j := 13) (by decide +kernel) (by decide +kernel)
theorem w14 : (Jvm.Cond.initialized "java/lang/RuntimeException") ∈ AllW := aw_t (j := 14) (by decide +kernel) (by decide +kernel)
theorem w15 : (Jvm.Cond.initialized "java/lang/IllegalArgumentException") ∈ AllW := aw_t (j := 15) (by decide +kernel) (by decide +kernel)
theorem w16 : (Jvm.Cond.initialized "java/lang/IllegalStateException") ∈ AllW := aw_t (j := 16) (by decide +kernel) (by decide +kernel)
theorem w17 : (Jvm.Cond.initialized "java/lang/IndexOutOfBoundsException") ∈ AllW := aw_t (j := 17) (by decide +kernel) (by decide +kernel)
theorem w18 : (Jvm.Cond.initialized "java/util/Objects") ∈ AllW := aw_t (j := 18) (by decide +kernel) (by decide +kernel)
theorem w19 : (Jvm.Cond.initialized "jdk/internal/util/Preconditions") ∈ AllW := aw_t (j := 19) (by decide +kernel) (by decide +kernel)
theorem w20 : (Jvm.Cond.initialized "java/lang/Integer") ∈ AllW := aw_t (j := 20) (by decide +kernel) (by decide +kernel)
theorem w21 : (Jvm.Cond.classLink "CatEveningsLaw" (8 : Nat) "CatEvenings") ∈ AllW := aw_t (j := 21) (by decide +kernel) (by decide +kernel)
theorem w22 : (Jvm.Cond.instantiable "CatEvenings" (2 : Nat)) ∈ AllW := aw_t (j := 22) (by decide +kernel) (by decide +kernel)
theorem w23 : (Jvm.Cond.methodLink "CatEveningsLaw" (82 : Nat) ({ cls := "CatEvenings", name := "<init>", desc := "()V" } : Jvm.MethodName)) ∈ AllW := aw_t (j := 23) (by decide +kernel) (by decide +kernel)
theorem w24 : (Jvm.Cond.instanceMethod ({ cls := "CatEvenings", name := "<init>", desc := "()V" } : Jvm.MethodName)) ∈ AllW := aw_t (j := 24) (by decide +kernel) (by decide +kernel)
theorem w25 : (Jvm.Cond.code ({ cls := "CatEvenings", name := "<init>", desc := "()V" } : Jvm.MethodName) prog_1_method_1_code (1 : Nat) (Option.none : Option Jvm.ClassFile.FieldType)) ∈ AllW := aw_t (j := 25) (by decide +kernel) (by decide +kernel)
theorem w26 : (Jvm.Cond.methodLink "CatEvenings" (1 : Nat) ({ cls := "java/lang/Object", name := "<init>", desc := "()V" } : Jvm.MethodName)) ∈ AllW := aw_t (j := 26) (by decide +kernel) (by decide +kernel)
theorem w27 : (Jvm.Cond.instanceMethod ({ cls := "java/lang/Object", name := "<init>", desc := "()V" } : Jvm.MethodName)) ∈ AllW := aw_t (j := 27) (by decide +kernel) (by decide +kernel)
theorem w28 : (Jvm.Cond.code ({ cls := "java/lang/Object", name := "<init>", desc := "()V" } : Jvm.MethodName) object_method_1_code (1 : Nat) (Option.none : Option Jvm.ClassFile.FieldType)) ∈ AllW := aw_t (j := 28) (by decide +kernel) (by decide +kernel)
theorem w29 : (Jvm.Cond.classLink "CatEvenings" (7 : Nat) "CatEvenings$Evening") ∈ AllW := aw_t (j := 29) (by decide +kernel) (by decide +kernel)
theorem w30 : (Jvm.Cond.instantiable "CatEvenings$Evening" (9 : Nat)) ∈ AllW := aw_t (j := 30) (by decide +kernel) (by decide +kernel)
theorem w31 : (Jvm.Cond.classLink "CatEvenings" (11 : Nat) "CatEvenings$Scene") ∈ AllW := aw_t (j := 31) (by decide +kernel) (by decide +kernel)
theorem w32 : (Jvm.Cond.instantiable "CatEvenings$Scene" (3 : Nat)) ∈ AllW := aw_t (j := 32) (by decide +kernel) (by decide +kernel)
theorem w33 : (Jvm.Cond.methodLink "CatEvenings" (13 : Nat) ({ cls := "CatEvenings$Scene", name := "<init>", desc := "(I[II)V" } : Jvm.MethodName)) ∈ AllW := aw_t (j := 33) (by decide +kernel) (by decide +kernel)
theorem w34 : (Jvm.Cond.instanceMethod ({ cls := "CatEvenings$Scene", name := "<init>", desc := "(I[II)V" } : Jvm.MethodName)) ∈ AllW := aw_t (j := 34) (by decide +kernel) (by decide +kernel)
theorem w35 : (Jvm.Cond.code ({ cls := "CatEvenings$Scene", name := "<init>", desc := "(I[II)V" } : Jvm.MethodName) prog_3_method_1_code (4 : Nat) (Option.none : Option Jvm.ClassFile.FieldType)) ∈ AllW := aw_t (j := 35) (by decide +kernel) (by decide +kernel)
theorem w36 : (Jvm.Cond.methodLink "CatEvenings$Scene" (3 : Nat) ({ cls := "java/lang/Object", name := "<init>", desc := "()V" } : Jvm.MethodName)) ∈ AllW := aw_t (j := 36) (by decide +kernel) (by decide +kernel)
theorem w37 : (Jvm.Cond.fieldLink "CatEvenings$Scene" (9 : Nat) "CatEvenings$Scene" "cat" "I") ∈ AllW := aw_t (j := 37) (by decide +kernel) (by decide +kernel)
theorem w38 : (Jvm.Cond.fieldLink "CatEvenings" (111 : Nat) "CatEvenings$Scene" "cat" "I") ∈ AllW := aw_t (j := 38) (by decide +kernel) (by decide +kernel)
theorem w39 : (Jvm.Cond.fieldLink "CatEvenings$Scene" (15 : Nat) "CatEvenings$Scene" "places" "[I") ∈ AllW := aw_t (j := 39) (by decide +kernel) (by decide +kernel)
theorem w40 : (Jvm.Cond.fieldLink "CatEvenings" (44 : Nat) "CatEvenings$Scene" "places" "[I") ∈ AllW := aw_t (j := 40) (by decide +kernel) (by decide +kernel)
theorem w41 : (Jvm.Cond.fieldLink "CatEvenings$Scene" (19 : Nat) "CatEvenings$Scene" "lyingBits" "I") ∈ AllW := aw_t (j := 41) (by decide +kernel) (by decide +kernel)
theorem w49 : (Jvm.Cond.arrayClass Jvm.ClassFile.FieldType.int) ∈ AllW := aw_t (j := 49) (by decide +kernel) (by decide +kernel)
theorem w50 : (Jvm.Cond.methodLink "CatEvenings" (16 : Nat) ({ cls := "CatEvenings$Evening", name := "<init>", desc := "(LCatEvenings$Evening;IIILCatEvenings$Scene;)V" } : Jvm.MethodName)) ∈ AllW := aw_t (j := 50) (by decide +kernel) (by decide +kernel)
theorem w51 : (Jvm.Cond.instanceMethod ({ cls := "CatEvenings$Evening", name := "<init>", desc := "(LCatEvenings$Evening;IIILCatEvenings$Scene;)V" } : Jvm.MethodName)) ∈ AllW := aw_t (j := 51) (by decide +kernel) (by decide +kernel)
theorem w52 : (Jvm.Cond.code ({ cls := "CatEvenings$Evening", name := "<init>", desc := "(LCatEvenings$Evening;IIILCatEvenings$Scene;)V" } : Jvm.MethodName) prog_2_method_1_code (6 : Nat) (Option.none : Option Jvm.ClassFile.FieldType)) ∈ AllW := aw_t (j := 52) (by decide +kernel) (by decide +kernel)
theorem w53 : (Jvm.Cond.methodLink "CatEvenings$Evening" (1 : Nat) ({ cls := "java/lang/Object", name := "<init>", desc := "()V" } : Jvm.MethodName)) ∈ AllW := aw_t (j := 53) (by decide +kernel) (by decide +kernel)
theorem w54 : (Jvm.Cond.fieldLink "CatEvenings$Evening" (7 : Nat) "CatEvenings$Evening" "parent" "LCatEvenings$Evening;") ∈ AllW := aw_t (j := 54) (by decide +kernel) (by decide +kernel)
theorem w55 : (Jvm.Cond.fieldLink "CatEvenings" (93 : Nat) "CatEvenings$Evening" "parent" "LCatEvenings$Evening;") ∈ AllW := aw_t (j := 55) (by decide +kernel) (by decide +kernel)
theorem w56 : (Jvm.Cond.fieldLink "CatEvenings$Evening" (13 : Nat) "CatEvenings$Evening" "label" "I") ∈ AllW := aw_t (j := 56) (by decide +kernel) (by decide +kernel)
theorem w57 : (Jvm.Cond.fieldLink "CatEvenings" (85 : Nat) "CatEvenings$Evening" "label" "I") ∈ AllW := aw_t (j := 57) (by decide +kernel) (by decide +kernel)
theorem w58 : (Jvm.Cond.fieldLink "CatEvenings$Evening" (17 : Nat) "CatEvenings$Evening" "kind" "I") ∈ AllW := aw_t (j := 58) (by decide +kernel) (by decide +kernel)
theorem w59 : (Jvm.Cond.fieldLink "CatEvenings" (137 : Nat) "CatEvenings$Evening" "kind" "I") ∈ AllW := aw_t (j := 59) (by decide +kernel) (by decide +kernel)
theorem w60 : (Jvm.Cond.fieldLink "CatEvenings$Evening" (20 : Nat) "CatEvenings$Evening" "number" "I") ∈ AllW := aw_t (j := 60) (by decide +kernel) (by decide +kernel)
theorem w61 : (Jvm.Cond.fieldLink "CatEvenings" (140 : Nat) "CatEvenings$Evening" "number" "I") ∈ AllW := aw_t (j := 61) (by decide +kernel) (by decide +kernel)
theorem w62 : (Jvm.Cond.fieldLink "CatEvenings$Evening" (23 : Nat) "CatEvenings$Evening" "depth" "I") ∈ AllW := aw_t (j := 62) (by decide +kernel) (by decide +kernel)
theorem w63 : (Jvm.Cond.fieldLink "CatEvenings" (143 : Nat) "CatEvenings$Evening" "depth" "I") ∈ AllW := aw_t (j := 63) (by decide +kernel) (by decide +kernel)
theorem w64 : (Jvm.Cond.fieldLink "CatEvenings$Evening" (26 : Nat) "CatEvenings$Evening" "scene" "LCatEvenings$Scene;") ∈ AllW := aw_t (j := 64) (by decide +kernel) (by decide +kernel)
theorem w65 : (Jvm.Cond.fieldLink "CatEvenings" (40 : Nat) "CatEvenings$Evening" "scene" "LCatEvenings$Scene;") ∈ AllW := aw_t (j := 65) (by decide +kernel) (by decide +kernel)
theorem w66 : (Jvm.Cond.fieldLink "CatEvenings$Evening" (30 : Nat) "CatEvenings$Evening" "latestChild" "LCatEvenings$Evening;") ∈ AllW := aw_t (j := 66) (by decide +kernel) (by decide +kernel)
theorem w67 : (Jvm.Cond.fieldLink "CatEvenings" (98 : Nat) "CatEvenings$Evening" "latestChild" "LCatEvenings$Evening;") ∈ AllW := aw_t (j := 67) (by decide +kernel) (by decide +kernel)
theorem w68 : (Jvm.Cond.fieldLink "CatEvenings$Evening" (33 : Nat) "CatEvenings$Evening" "children" "I") ∈ AllW := aw_t (j := 68) (by decide +kernel) (by decide +kernel)
theorem w69 : (Jvm.Cond.fieldLink "CatEvenings" (146 : Nat) "CatEvenings$Evening" "children" "I") ∈ AllW := aw_t (j := 69) (by decide +kernel) (by decide +kernel)
theorem w70 : (Jvm.Cond.fieldLink "CatEvenings$Evening" (36 : Nat) "CatEvenings$Evening" "descendants" "I") ∈ AllW := aw_t (j := 70) (by decide +kernel) (by decide +kernel)
theorem w71 : (Jvm.Cond.fieldLink "CatEvenings" (149 : Nat) "CatEvenings$Evening" "descendants" "I") ∈ AllW := aw_t (j := 71) (by decide +kernel) (by decide +kernel)
theorem w91 : (Jvm.Cond.classLink "CatEvenings" (23 : Nat) "java/util/ArrayList") ∈ AllW := aw_t (j := 91) (by decide +kernel) (by decide +kernel)
theorem w92 : (Jvm.Cond.instantiable "java/util/ArrayList" (3 : Nat)) ∈ AllW := aw_t (j := 92) (by decide +kernel) (by decide +kernel)
theorem w93 : (Jvm.Cond.methodLink "CatEvenings" (25 : Nat) ({ cls := "java/util/ArrayList", name := "<init>", desc := "()V" } : Jvm.MethodName)) ∈ AllW := aw_t (j := 93) (by decide +kernel) (by decide +kernel)
theorem w94 : (Jvm.Cond.instanceMethod ({ cls := "java/util/ArrayList", name := "<init>", desc := "()V" } : Jvm.MethodName)) ∈ AllW := aw_t (j := 94) (by decide +kernel) (by decide +kernel)
theorem w95 : (Jvm.Cond.code ({ cls := "java/util/ArrayList", name := "<init>", desc := "()V" } : Jvm.MethodName) prog_21_method_2_code (1 : Nat) (Option.none : Option Jvm.ClassFile.FieldType)) ∈ AllW := aw_t (j := 95) (by decide +kernel) (by decide +kernel)
theorem w96 : (Jvm.Cond.methodLink "java/util/ArrayList" (1 : Nat) ({ cls := "java/util/AbstractList", name := "<init>", desc := "()V" } : Jvm.MethodName)) ∈ AllW := aw_t (j := 96) (by decide +kernel) (by decide +kernel)
theorem w97 : (Jvm.Cond.instanceMethod ({ cls := "java/util/AbstractList", name := "<init>", desc := "()V" } : Jvm.MethodName)) ∈ AllW := aw_t (j := 97) (by decide +kernel) (by decide +kernel)
theorem w98 : (Jvm.Cond.code ({ cls := "java/util/AbstractList", name := "<init>", desc := "()V" } : Jvm.MethodName) prog_20_method_1_code (1 : Nat) (Option.none : Option Jvm.ClassFile.FieldType)) ∈ AllW := aw_t (j := 98) (by decide +kernel) (by decide +kernel)
theorem w99 : (Jvm.Cond.methodLink "java/util/AbstractList" (1 : Nat) ({ cls := "java/util/AbstractCollection", name := "<init>", desc := "()V" } : Jvm.MethodName)) ∈ AllW := aw_t (j := 99) (by decide +kernel) (by decide +kernel)
theorem w100 : (Jvm.Cond.instanceMethod ({ cls := "java/util/AbstractCollection", name := "<init>", desc := "()V" } : Jvm.MethodName)) ∈ AllW := aw_t (j := 100) (by decide +kernel) (by decide +kernel)
theorem w101 : (Jvm.Cond.code ({ cls := "java/util/AbstractCollection", name := "<init>", desc := "()V" } : Jvm.MethodName) prog_19_method_1_code (1 : Nat) (Option.none : Option Jvm.ClassFile.FieldType)) ∈ AllW := aw_t (j := 101) (by decide +kernel) (by decide +kernel)
theorem w102 : (Jvm.Cond.methodLink "java/util/AbstractCollection" (1 : Nat) ({ cls := "java/lang/Object", name := "<init>", desc := "()V" } : Jvm.MethodName)) ∈ AllW := aw_t (j := 102) (by decide +kernel) (by decide +kernel)
theorem w103 : (Jvm.Cond.fieldLink "java/util/ArrayList" (39 : Nat) "java/util/ArrayList" "DEFAULTCAPACITY_EMPTY_ELEMENTDATA" "[Ljava/lang/Object;") ∈ AllW := aw_t (j := 103) (by decide +kernel) (by decide +kernel)
theorem w105 : (Jvm.Cond.fieldLink "java/util/ArrayList" (9 : Nat) "java/util/ArrayList" "elementData" "[Ljava/lang/Object;") ∈ AllW := aw_t (j := 105) (by decide +kernel) (by decide +kernel)
theorem w106 : (Jvm.Cond.fieldLink "java/util/ArrayList" (48 : Nat) "java/util/ArrayList" "size" "I") ∈ AllW := aw_t (j := 106) (by decide +kernel) (by decide +kernel)
theorem w107 : (Jvm.Cond.fieldLink "java/util/AbstractList" (7 : Nat) "java/util/AbstractList" "modCount" "I") ∈ AllW := aw_t (j := 107) (by decide +kernel) (by decide +kernel)
theorem w108 : (Jvm.Cond.fieldLink "java/util/ArrayList" (63 : Nat) "java/util/ArrayList" "modCount" "I") ∈ AllW := aw_t (j := 108) (by decide +kernel) (by decide +kernel)
theorem w109 : (Jvm.Cond.sameField "java/util/ArrayList" "java/util/AbstractList" "modCount" "I") ∈ AllW := aw_t (j := 109) (by decide +kernel) (by decide +kernel)
theorem w118 : (Jvm.Cond.methodLink "CatEvenings" (30 : Nat) ({ cls := "java/util/List", name := "add", desc := "(Ljava/lang/Object;)Z" } : Jvm.MethodName)) ∈ AllW := aw_t (j := 118) (by decide +kernel) (by decide +kernel)
theorem w122 : (Jvm.Cond.selects "java/util/ArrayList" ({ cls := "java/util/List", name := "add", desc := "(Ljava/lang/Object;)Z" } : Jvm.MethodName) ({ cls := "java/util/ArrayList", name := "add", desc := "(Ljava/lang/Object;)Z" } : Jvm.MethodName)) ∈ AllW := aw_t (j := 122) (by decide +kernel) (by decide +kernel)
theorem w124 : (Jvm.Cond.instanceMethod ({ cls := "java/util/ArrayList", name := "add", desc := "(Ljava/lang/Object;)Z" } : Jvm.MethodName)) ∈ AllW := aw_t (j := 124) (by decide +kernel) (by decide +kernel)
theorem w126 : (Jvm.Cond.code ({ cls := "java/util/ArrayList", name := "add", desc := "(Ljava/lang/Object;)Z" } : Jvm.MethodName) prog_21_method_25_code (2 : Nat) (Option.some Jvm.ClassFile.FieldType.boolean)) ∈ AllW := aw_t (j := 126) (by decide +kernel) (by decide +kernel)
theorem w127 : (Jvm.Cond.methodLink "java/util/ArrayList" (131 : Nat) ({ cls := "java/util/ArrayList", name := "add", desc := "(Ljava/lang/Object;[Ljava/lang/Object;I)V" } : Jvm.MethodName)) ∈ AllW := aw_t (j := 127) (by decide +kernel) (by decide +kernel)
theorem w129 : (Jvm.Cond.instanceMethod ({ cls := "java/util/ArrayList", name := "add", desc := "(Ljava/lang/Object;[Ljava/lang/Object;I)V" } : Jvm.MethodName)) ∈ AllW := aw_t (j := 129) (by decide +kernel) (by decide +kernel)
theorem w130 : (Jvm.Cond.code ({ cls := "java/util/ArrayList", name := "add", desc := "(Ljava/lang/Object;[Ljava/lang/Object;I)V" } : Jvm.MethodName) prog_21_method_24_code (4 : Nat) (Option.none : Option Jvm.ClassFile.FieldType)) ∈ AllW := aw_t (j := 130) (by decide +kernel) (by decide +kernel)
theorem w131 : (Jvm.Cond.methodLink "java/util/ArrayList" (129 : Nat) ({ cls := "java/util/ArrayList", name := "grow", desc := "()[Ljava/lang/Object;" } : Jvm.MethodName)) ∈ AllW := aw_t (j := 131) (by decide +kernel) (by decide +kernel)
theorem w133 : (Jvm.Cond.instanceMethod ({ cls := "java/util/ArrayList", name := "grow", desc := "()[Ljava/lang/Object;" } : Jvm.MethodName)) ∈ AllW := aw_t (j := 133) (by decide +kernel) (by decide +kernel)
theorem w134 : (Jvm.Cond.code ({ cls := "java/util/ArrayList", name := "grow", desc := "()[Ljava/lang/Object;" } : Jvm.MethodName) prog_21_method_7_code (1 : Nat) (Option.some (Jvm.ClassFile.FieldType.array (Jvm.ClassFile.FieldType.object "java/lang/Object")))) ∈ AllW := aw_t (j := 134) (by decide +kernel) (by decide +kernel)
theorem w135 : (Jvm.Cond.methodLink "java/util/ArrayList" (69 : Nat) ({ cls := "java/util/ArrayList", name := "grow", desc := "(I)[Ljava/lang/Object;" } : Jvm.MethodName)) ∈ AllW := aw_t (j := 135) (by decide +kernel) (by decide +kernel)
theorem w137 : (Jvm.Cond.instanceMethod ({ cls := "java/util/ArrayList", name := "grow", desc := "(I)[Ljava/lang/Object;" } : Jvm.MethodName)) ∈ AllW := aw_t (j := 137) (by decide +kernel) (by decide +kernel)
theorem w138 : (Jvm.Cond.code ({ cls := "java/util/ArrayList", name := "grow", desc := "(I)[Ljava/lang/Object;" } : Jvm.MethodName) prog_21_method_6_code (4 : Nat) (Option.some (Jvm.ClassFile.FieldType.array (Jvm.ClassFile.FieldType.object "java/lang/Object")))) ∈ AllW := aw_t (j := 138) (by decide +kernel) (by decide +kernel)
theorem w139 : (Jvm.Cond.methodLink "java/util/ArrayList" (73 : Nat) ({ cls := "jdk/internal/util/ArraysSupport", name := "newLength", desc := "(III)I" } : Jvm.MethodName)) ∈ AllW := aw_t (j := 139) (by decide +kernel) (by decide +kernel)
theorem w140 : (Jvm.Cond.static ({ cls := "jdk/internal/util/ArraysSupport", name := "newLength", desc := "(III)I" } : Jvm.MethodName)) ∈ AllW := aw_t (j := 140) (by decide +kernel) (by decide +kernel)
theorem w141 : (Jvm.Cond.code ({ cls := "jdk/internal/util/ArraysSupport", name := "newLength", desc := "(III)I" } : Jvm.MethodName) prog_28_method_27_code (4 : Nat) (Option.some Jvm.ClassFile.FieldType.int)) ∈ AllW := aw_t (j := 141) (by decide +kernel) (by decide +kernel)
theorem w142 : (Jvm.Cond.methodLink "jdk/internal/util/ArraysSupport" (194 : Nat) ({ cls := "java/lang/Math", name := "max", desc := "(II)I" } : Jvm.MethodName)) ∈ AllW := aw_t (j := 142) (by decide +kernel) (by decide +kernel)
theorem w143 : (Jvm.Cond.static ({ cls := "java/lang/Math", name := "max", desc := "(II)I" } : Jvm.MethodName)) ∈ AllW := aw_t (j := 143) (by decide +kernel) (by decide +kernel)
theorem w144 : (Jvm.Cond.code ({ cls := "java/lang/Math", name := "max", desc := "(II)I" } : Jvm.MethodName) prog_14_method_65_code (2 : Nat) (Option.some Jvm.ClassFile.FieldType.int)) ∈ AllW := aw_t (j := 144) (by decide +kernel) (by decide +kernel)
theorem w145 : (Jvm.Cond.constant "jdk/internal/util/ArraysSupport" (200 : Nat) (2147483639 : Int32)) ∈ AllW := aw_t (j := 145) (by decide +kernel) (by decide +kernel)
theorem w146 : (Jvm.Cond.methodLink "jdk/internal/util/ArraysSupport" (201 : Nat) ({ cls := "jdk/internal/util/ArraysSupport", name := "hugeLength", desc := "(II)I" } : Jvm.MethodName)) ∈ AllW := aw_t (j := 146) (by decide +kernel) (by decide +kernel)
theorem w147 : (Jvm.Cond.static ({ cls := "jdk/internal/util/ArraysSupport", name := "hugeLength", desc := "(II)I" } : Jvm.MethodName)) ∈ AllW := aw_t (j := 147) (by decide +kernel) (by decide +kernel)
theorem w148 : (Jvm.Cond.code ({ cls := "jdk/internal/util/ArraysSupport", name := "hugeLength", desc := "(II)I" } : Jvm.MethodName) prog_28_method_28_code (3 : Nat) (Option.some Jvm.ClassFile.FieldType.int)) ∈ AllW := aw_t (j := 148) (by decide +kernel) (by decide +kernel)
theorem w149 : (Jvm.Cond.methodLink "java/util/ArrayList" (66 : Nat) ({ cls := "java/util/Arrays", name := "copyOf", desc := "([Ljava/lang/Object;I)[Ljava/lang/Object;" } : Jvm.MethodName)) ∈ AllW := aw_t (j := 149) (by decide +kernel) (by decide +kernel)
theorem w150 : (Jvm.Cond.static ({ cls := "java/util/Arrays", name := "copyOf", desc := "([Ljava/lang/Object;I)[Ljava/lang/Object;" } : Jvm.MethodName)) ∈ AllW := aw_t (j := 150) (by decide +kernel) (by decide +kernel)
theorem w151 : (Jvm.Cond.code ({ cls := "java/util/Arrays", name := "copyOf", desc := "([Ljava/lang/Object;I)[Ljava/lang/Object;" } : Jvm.MethodName) prog_22_method_119_code (2 : Nat) (Option.some (Jvm.ClassFile.FieldType.array (Jvm.ClassFile.FieldType.object "java/lang/Object")))) ∈ AllW := aw_t (j := 151) (by decide +kernel) (by decide +kernel)
theorem w152 : (Jvm.Cond.methodLink "java/util/Arrays" (86 : Nat) ({ cls := "java/lang/Object", name := "getClass", desc := "()Ljava/lang/Class;" } : Jvm.MethodName)) ∈ AllW := aw_t (j := 152) (by decide +kernel) (by decide +kernel)
theorem w153 : (Jvm.Cond.instanceMethod ({ cls := "java/lang/Object", name := "getClass", desc := "()Ljava/lang/Class;" } : Jvm.MethodName)) ∈ AllW := aw_t (j := 153) (by decide +kernel) (by decide +kernel)
theorem w154 : (Jvm.Cond.sameMethod "java/lang/Object" "java/lang/Object" "getClass" "()Ljava/lang/Class;") ∈ AllW := aw_t (j := 154) (by decide +kernel) (by decide +kernel)
theorem w155 : (Jvm.Cond.selects "CatEvenings" ({ cls := "java/lang/Object", name := "getClass", desc := "()Ljava/lang/Class;" } : Jvm.MethodName) ({ cls := "java/lang/Object", name := "getClass", desc := "()Ljava/lang/Class;" } : Jvm.MethodName)) ∈ AllW := aw_t (j := 155) (by decide +kernel) (by decide +kernel)
theorem w156 : (Jvm.Cond.selects "CatEvenings$Evening" ({ cls := "java/lang/Object", name := "getClass", desc := "()Ljava/lang/Class;" } : Jvm.MethodName) ({ cls := "java/lang/Object", name := "getClass", desc := "()Ljava/lang/Class;" } : Jvm.MethodName)) ∈ AllW := aw_t (j := 156) (by decide +kernel) (by decide +kernel)
theorem w157 : (Jvm.Cond.selects "CatEvenings$Scene" ({ cls := "java/lang/Object", name := "getClass", desc := "()Ljava/lang/Class;" } : Jvm.MethodName) ({ cls := "java/lang/Object", name := "getClass", desc := "()Ljava/lang/Class;" } : Jvm.MethodName)) ∈ AllW := aw_t (j := 157) (by decide +kernel) (by decide +kernel)
theorem w158 : (Jvm.Cond.selects "CatEveningsModel" ({ cls := "java/lang/Object", name := "getClass", desc := "()Ljava/lang/Class;" } : Jvm.MethodName) ({ cls := "java/lang/Object", name := "getClass", desc := "()Ljava/lang/Class;" } : Jvm.MethodName)) ∈ AllW := aw_t (j := 158) (by decide +kernel) (by decide +kernel)
theorem w159 : (Jvm.Cond.selects "java/lang/IllegalArgumentException" ({ cls := "java/lang/Object", name := "getClass", desc := "()Ljava/lang/Class;" } : Jvm.MethodName) ({ cls := "java/lang/Object", name := "getClass", desc := "()Ljava/lang/Class;" } : Jvm.MethodName)) ∈ AllW := aw_t (j := 159) (by decide +kernel) (by decide +kernel)
theorem w160 : (Jvm.Cond.selects "java/lang/IllegalStateException" ({ cls := "java/lang/Object", name := "getClass", desc := "()Ljava/lang/Class;" } : Jvm.MethodName) ({ cls := "java/lang/Object", name := "getClass", desc := "()Ljava/lang/Class;" } : Jvm.MethodName)) ∈ AllW := aw_t (j := 160) (by decide +kernel) (by decide +kernel)
theorem w161 : (Jvm.Cond.selects "java/lang/IndexOutOfBoundsException" ({ cls := "java/lang/Object", name := "getClass", desc := "()Ljava/lang/Class;" } : Jvm.MethodName) ({ cls := "java/lang/Object", name := "getClass", desc := "()Ljava/lang/Class;" } : Jvm.MethodName)) ∈ AllW := aw_t (j := 161) (by decide +kernel) (by decide +kernel)
theorem w162 : (Jvm.Cond.selects "java/util/ArrayList" ({ cls := "java/lang/Object", name := "getClass", desc := "()Ljava/lang/Class;" } : Jvm.MethodName) ({ cls := "java/lang/Object", name := "getClass", desc := "()Ljava/lang/Class;" } : Jvm.MethodName)) ∈ AllW := aw_t (j := 162) (by decide +kernel) (by decide +kernel)
theorem w163 : (Jvm.Cond.native ({ cls := "java/lang/Object", name := "getClass", desc := "()Ljava/lang/Class;" } : Jvm.MethodName)) ∈ AllW := aw_t (j := 163) (by decide +kernel) (by decide +kernel)
theorem w164 : (Jvm.Cond.methodLink "java/util/Arrays" (300 : Nat) ({ cls := "java/util/Arrays", name := "copyOf", desc := "([Ljava/lang/Object;ILjava/lang/Class;)[Ljava/lang/Object;" } : Jvm.MethodName)) ∈ AllW := aw_t (j := 164) (by decide +kernel) (by decide +kernel)
theorem w165 : (Jvm.Cond.static ({ cls := "java/util/Arrays", name := "copyOf", desc := "([Ljava/lang/Object;ILjava/lang/Class;)[Ljava/lang/Object;" } : Jvm.MethodName)) ∈ AllW := aw_t (j := 165) (by decide +kernel) (by decide +kernel)
theorem w166 : (Jvm.Cond.code ({ cls := "java/util/Arrays", name := "copyOf", desc := "([Ljava/lang/Object;ILjava/lang/Class;)[Ljava/lang/Object;" } : Jvm.MethodName) prog_22_method_120_code (4 : Nat) (Option.some (Jvm.ClassFile.FieldType.array (Jvm.ClassFile.FieldType.object "java/lang/Object")))) ∈ AllW := aw_t (j := 166) (by decide +kernel) (by decide +kernel)
theorem w167 : (Jvm.Cond.classLink "java/util/Arrays" (110 : Nat) "[Ljava/lang/Object;") ∈ AllW := aw_t (j := 167) (by decide +kernel) (by decide +kernel)
theorem w169 : (Jvm.Cond.classLink "java/util/Arrays" (2 : Nat) "java/lang/Object") ∈ AllW := aw_t (j := 169) (by decide +kernel) (by decide +kernel)
theorem w170 : (Jvm.Cond.methodLink "java/util/Arrays" (304 : Nat) ({ cls := "java/lang/Math", name := "min", desc := "(II)I" } : Jvm.MethodName)) ∈ AllW := aw_t (j := 170) (by decide +kernel) (by decide +kernel)
theorem w171 : (Jvm.Cond.static ({ cls := "java/lang/Math", name := "min", desc := "(II)I" } : Jvm.MethodName)) ∈ AllW := aw_t (j := 171) (by decide +kernel) (by decide +kernel)
theorem w172 : (Jvm.Cond.code ({ cls := "java/lang/Math", name := "min", desc := "(II)I" } : Jvm.MethodName) prog_14_method_69_code (2 : Nat) (Option.some Jvm.ClassFile.FieldType.int)) ∈ AllW := aw_t (j := 172) (by decide +kernel) (by decide +kernel)
theorem w173 : (Jvm.Cond.methodLink "java/util/Arrays" (150 : Nat) ({ cls := "java/lang/System", name := "arraycopy", desc := "(Ljava/lang/Object;ILjava/lang/Object;II)V" } : Jvm.MethodName)) ∈ AllW := aw_t (j := 173) (by decide +kernel) (by decide +kernel)
theorem w174 : (Jvm.Cond.static ({ cls := "java/lang/System", name := "arraycopy", desc := "(Ljava/lang/Object;ILjava/lang/Object;II)V" } : Jvm.MethodName)) ∈ AllW := aw_t (j := 174) (by decide +kernel) (by decide +kernel)
theorem w175 : (Jvm.Cond.native ({ cls := "java/lang/System", name := "arraycopy", desc := "(Ljava/lang/Object;ILjava/lang/Object;II)V" } : Jvm.MethodName)) ∈ AllW := aw_t (j := 175) (by decide +kernel) (by decide +kernel)
theorem w176 : (Jvm.Cond.methodLink "java/util/ArrayList" (79 : Nat) ({ cls := "java/lang/Math", name := "max", desc := "(II)I" } : Jvm.MethodName)) ∈ AllW := aw_t (j := 176) (by decide +kernel) (by decide +kernel)
theorem w177 : (Jvm.Cond.classLink "java/util/ArrayList" (7 : Nat) "java/lang/Object") ∈ AllW := aw_t (j := 177) (by decide +kernel) (by decide +kernel)
theorem w178 : (Jvm.Cond.fieldLink "CatEvenings" (26 : Nat) "CatEvenings" "tree" "Ljava/util/List;") ∈ AllW := aw_t (j := 178) (by decide +kernel) (by decide +kernel)
theorem w179 : (Jvm.Cond.fieldLink "CatEvenings" (19 : Nat) "CatEvenings" "now" "LCatEvenings$Evening;") ∈ AllW := aw_t (j := 179) (by decide +kernel) (by decide +kernel)
theorem w185 : (Jvm.Cond.methodLink "CatEveningsLaw" (109 : Nat) ({ cls := "CatEvenings", name := "evening", desc := "()I" } : Jvm.MethodName)) ∈ AllW := aw_t (j := 185) (by decide +kernel) (by decide +kernel)
theorem w186 : (Jvm.Cond.instanceMethod ({ cls := "CatEvenings", name := "evening", desc := "()I" } : Jvm.MethodName)) ∈ AllW := aw_t (j := 186) (by decide +kernel) (by decide +kernel)
theorem w187 : (Jvm.Cond.selects "CatEvenings" ({ cls := "CatEvenings", name := "evening", desc := "()I" } : Jvm.MethodName) ({ cls := "CatEvenings", name := "evening", desc := "()I" } : Jvm.MethodName)) ∈ AllW := aw_t (j := 187) (by decide +kernel) (by decide +kernel)
theorem w188 : (Jvm.Cond.code ({ cls := "CatEvenings", name := "evening", desc := "()I" } : Jvm.MethodName) prog_1_method_7_code (1 : Nat) (Option.some Jvm.ClassFile.FieldType.int)) ∈ AllW := aw_t (j := 188) (by decide +kernel) (by decide +kernel)
theorem w189 : (Jvm.Cond.methodLink "CatEveningsLaw" (113 : Nat) ({ cls := "CatEvenings", name := "evenings", desc := "()I" } : Jvm.MethodName)) ∈ AllW := aw_t (j := 189) (by decide +kernel) (by decide +kernel)
theorem w190 : (Jvm.Cond.instanceMethod ({ cls := "CatEvenings", name := "evenings", desc := "()I" } : Jvm.MethodName)) ∈ AllW := aw_t (j := 190) (by decide +kernel) (by decide +kernel)
theorem w191 : (Jvm.Cond.selects "CatEvenings" ({ cls := "CatEvenings", name := "evenings", desc := "()I" } : Jvm.MethodName) ({ cls := "CatEvenings", name := "evenings", desc := "()I" } : Jvm.MethodName)) ∈ AllW := aw_t (j := 191) (by decide +kernel) (by decide +kernel)
theorem w192 : (Jvm.Cond.code ({ cls := "CatEvenings", name := "evenings", desc := "()I" } : Jvm.MethodName) prog_1_method_8_code (1 : Nat) (Option.some Jvm.ClassFile.FieldType.int)) ∈ AllW := aw_t (j := 192) (by decide +kernel) (by decide +kernel)
theorem w194 : (Jvm.Cond.methodLink "CatEvenings" (55 : Nat) ({ cls := "java/util/List", name := "size", desc := "()I" } : Jvm.MethodName)) ∈ AllW := aw_t (j := 194) (by decide +kernel) (by decide +kernel)
theorem w197 : (Jvm.Cond.selects "java/util/ArrayList" ({ cls := "java/util/List", name := "size", desc := "()I" } : Jvm.MethodName) ({ cls := "java/util/ArrayList", name := "size", desc := "()I" } : Jvm.MethodName)) ∈ AllW := aw_t (j := 197) (by decide +kernel) (by decide +kernel)
theorem w199 : (Jvm.Cond.instanceMethod ({ cls := "java/util/ArrayList", name := "size", desc := "()I" } : Jvm.MethodName)) ∈ AllW := aw_t (j := 199) (by decide +kernel) (by decide +kernel)
theorem w201 : (Jvm.Cond.code ({ cls := "java/util/ArrayList", name := "size", desc := "()I" } : Jvm.MethodName) prog_21_method_8_code (1 : Nat) (Option.some Jvm.ClassFile.FieldType.int)) ∈ AllW := aw_t (j := 201) (by decide +kernel) (by decide +kernel)
theorem w202 : (Jvm.Cond.methodLink "CatEveningsLaw" (117 : Nat) ({ cls := "CatEvenings", name := "pieces", desc := "()I" } : Jvm.MethodName)) ∈ AllW := aw_t (j := 202) (by decide +kernel) (by decide +kernel)
theorem w203 : (Jvm.Cond.instanceMethod ({ cls := "CatEvenings", name := "pieces", desc := "()I" } : Jvm.MethodName)) ∈ AllW := aw_t (j := 203) (by decide +kernel) (by decide +kernel)
theorem w204 : (Jvm.Cond.selects "CatEvenings" ({ cls := "CatEvenings", name := "pieces", desc := "()I" } : Jvm.MethodName) ({ cls := "CatEvenings", name := "pieces", desc := "()I" } : Jvm.MethodName)) ∈ AllW := aw_t (j := 204) (by decide +kernel) (by decide +kernel)
theorem w205 : (Jvm.Cond.code ({ cls := "CatEvenings", name := "pieces", desc := "()I" } : Jvm.MethodName) prog_1_method_9_code (1 : Nat) (Option.some Jvm.ClassFile.FieldType.int)) ∈ AllW := aw_t (j := 205) (by decide +kernel) (by decide +kernel)
theorem w206 : (Jvm.Cond.methodLink "CatEveningsLaw" (121 : Nat) ({ cls := "CatEvenings", name := "catColumn", desc := "()I" } : Jvm.MethodName)) ∈ AllW := aw_t (j := 206) (by decide +kernel) (by decide +kernel)
theorem w207 : (Jvm.Cond.instanceMethod ({ cls := "CatEvenings", name := "catColumn", desc := "()I" } : Jvm.MethodName)) ∈ AllW := aw_t (j := 207) (by decide +kernel) (by decide +kernel)
theorem w208 : (Jvm.Cond.selects "CatEvenings" ({ cls := "CatEvenings", name := "catColumn", desc := "()I" } : Jvm.MethodName) ({ cls := "CatEvenings", name := "catColumn", desc := "()I" } : Jvm.MethodName)) ∈ AllW := aw_t (j := 208) (by decide +kernel) (by decide +kernel)
theorem w209 : (Jvm.Cond.code ({ cls := "CatEvenings", name := "catColumn", desc := "()I" } : Jvm.MethodName) prog_1_method_10_code (1 : Nat) (Option.some Jvm.ClassFile.FieldType.int)) ∈ AllW := aw_t (j := 209) (by decide +kernel) (by decide +kernel)
theorem w210 : (Jvm.Cond.methodLink "CatEveningsLaw" (125 : Nat) ({ cls := "CatEvenings", name := "catRow", desc := "()I" } : Jvm.MethodName)) ∈ AllW := aw_t (j := 210) (by decide +kernel) (by decide +kernel)
theorem w211 : (Jvm.Cond.instanceMethod ({ cls := "CatEvenings", name := "catRow", desc := "()I" } : Jvm.MethodName)) ∈ AllW := aw_t (j := 211) (by decide +kernel) (by decide +kernel)
theorem w212 : (Jvm.Cond.selects "CatEvenings" ({ cls := "CatEvenings", name := "catRow", desc := "()I" } : Jvm.MethodName) ({ cls := "CatEvenings", name := "catRow", desc := "()I" } : Jvm.MethodName)) ∈ AllW := aw_t (j := 212) (by decide +kernel) (by decide +kernel)
theorem w213 : (Jvm.Cond.code ({ cls := "CatEvenings", name := "catRow", desc := "()I" } : Jvm.MethodName) prog_1_method_11_code (1 : Nat) (Option.some Jvm.ClassFile.FieldType.int)) ∈ AllW := aw_t (j := 213) (by decide +kernel) (by decide +kernel)
theorem w214 : (Jvm.Cond.methodLink "CatEveningsLaw" (129 : Nat) ({ cls := "CatEvenings", name := "lying", desc := "()I" } : Jvm.MethodName)) ∈ AllW := aw_t (j := 214) (by decide +kernel) (by decide +kernel)
theorem w215 : (Jvm.Cond.instanceMethod ({ cls := "CatEvenings", name := "lying", desc := "()I" } : Jvm.MethodName)) ∈ AllW := aw_t (j := 215) (by decide +kernel) (by decide +kernel)
theorem w216 : (Jvm.Cond.selects "CatEvenings" ({ cls := "CatEvenings", name := "lying", desc := "()I" } : Jvm.MethodName) ({ cls := "CatEvenings", name := "lying", desc := "()I" } : Jvm.MethodName)) ∈ AllW := aw_t (j := 216) (by decide +kernel) (by decide +kernel)
theorem w217 : (Jvm.Cond.code ({ cls := "CatEvenings", name := "lying", desc := "()I" } : Jvm.MethodName) prog_1_method_12_code (1 : Nat) (Option.some Jvm.ClassFile.FieldType.int)) ∈ AllW := aw_t (j := 217) (by decide +kernel) (by decide +kernel)
theorem w218 : (Jvm.Cond.methodLink "CatEvenings" (114 : Nat) ({ cls := "CatEvenings$Scene", name := "countLying", desc := "()I" } : Jvm.MethodName)) ∈ AllW := aw_t (j := 218) (by decide +kernel) (by decide +kernel)
theorem w219 : (Jvm.Cond.instanceMethod ({ cls := "CatEvenings$Scene", name := "countLying", desc := "()I" } : Jvm.MethodName)) ∈ AllW := aw_t (j := 219) (by decide +kernel) (by decide +kernel)
theorem w220 : (Jvm.Cond.selects "CatEvenings$Scene" ({ cls := "CatEvenings$Scene", name := "countLying", desc := "()I" } : Jvm.MethodName) ({ cls := "CatEvenings$Scene", name := "countLying", desc := "()I" } : Jvm.MethodName)) ∈ AllW := aw_t (j := 220) (by decide +kernel) (by decide +kernel)
theorem w221 : (Jvm.Cond.code ({ cls := "CatEvenings$Scene", name := "countLying", desc := "()I" } : Jvm.MethodName) prog_3_method_5_code (1 : Nat) (Option.some Jvm.ClassFile.FieldType.int)) ∈ AllW := aw_t (j := 221) (by decide +kernel) (by decide +kernel)
theorem w222 : (Jvm.Cond.methodLink "CatEvenings$Scene" (29 : Nat) ({ cls := "java/lang/Integer", name := "bitCount", desc := "(I)I" } : Jvm.MethodName)) ∈ AllW := aw_t (j := 222) (by decide +kernel) (by decide +kernel)
theorem w223 : (Jvm.Cond.static ({ cls := "java/lang/Integer", name := "bitCount", desc := "(I)I" } : Jvm.MethodName)) ∈ AllW := aw_t (j := 223) (by decide +kernel) (by decide +kernel)
theorem w224 : (Jvm.Cond.code ({ cls := "java/lang/Integer", name := "bitCount", desc := "(I)I" } : Jvm.MethodName) prog_12_method_49_code (1 : Nat) (Option.some Jvm.ClassFile.FieldType.int)) ∈ AllW := aw_t (j := 224) (by decide +kernel) (by decide +kernel)
theorem w225 : (Jvm.Cond.constant "java/lang/Integer" (265 : Nat) (1431655765 : Int32)) ∈ AllW := aw_t (j := 225) (by decide +kernel) (by decide +kernel)
theorem w226 : (Jvm.Cond.constant "java/lang/Integer" (266 : Nat) (858993459 : Int32)) ∈ AllW := aw_t (j := 226) (by decide +kernel) (by decide +kernel)
theorem w227 : (Jvm.Cond.constant "java/lang/Integer" (267 : Nat) (252645135 : Int32)) ∈ AllW := aw_t (j := 227) (by decide +kernel) (by decide +kernel)
theorem w228 : (Jvm.Cond.methodLink "CatEveningsLaw" (172 : Nat) ({ cls := "CatEvenings", name := "ends", desc := "()I" } : Jvm.MethodName)) ∈ AllW := aw_t (j := 228) (by decide +kernel) (by decide +kernel)
theorem w229 : (Jvm.Cond.instanceMethod ({ cls := "CatEvenings", name := "ends", desc := "()I" } : Jvm.MethodName)) ∈ AllW := aw_t (j := 229) (by decide +kernel) (by decide +kernel)
theorem w230 : (Jvm.Cond.selects "CatEvenings" ({ cls := "CatEvenings", name := "ends", desc := "()I" } : Jvm.MethodName) ({ cls := "CatEvenings", name := "ends", desc := "()I" } : Jvm.MethodName)) ∈ AllW := aw_t (j := 230) (by decide +kernel) (by decide +kernel)
theorem w231 : (Jvm.Cond.code ({ cls := "CatEvenings", name := "ends", desc := "()I" } : Jvm.MethodName) prog_1_method_26_code (3 : Nat) (Option.some Jvm.ClassFile.FieldType.int)) ∈ AllW := aw_t (j := 231) (by decide +kernel) (by decide +kernel)
theorem w233 : (Jvm.Cond.methodLink "CatEvenings" (156 : Nat) ({ cls := "java/util/List", name := "get", desc := "(I)Ljava/lang/Object;" } : Jvm.MethodName)) ∈ AllW := aw_t (j := 233) (by decide +kernel) (by decide +kernel)
theorem w236 : (Jvm.Cond.selects "java/util/ArrayList" ({ cls := "java/util/List", name := "get", desc := "(I)Ljava/lang/Object;" } : Jvm.MethodName) ({ cls := "java/util/ArrayList", name := "get", desc := "(I)Ljava/lang/Object;" } : Jvm.MethodName)) ∈ AllW := aw_t (j := 236) (by decide +kernel) (by decide +kernel)
theorem w238 : (Jvm.Cond.instanceMethod ({ cls := "java/util/ArrayList", name := "get", desc := "(I)Ljava/lang/Object;" } : Jvm.MethodName)) ∈ AllW := aw_t (j := 238) (by decide +kernel) (by decide +kernel)
theorem w240 : (Jvm.Cond.code ({ cls := "java/util/ArrayList", name := "get", desc := "(I)Ljava/lang/Object;" } : Jvm.MethodName) prog_21_method_20_code (2 : Nat) (Option.some (Jvm.ClassFile.FieldType.object "java/lang/Object"))) ∈ AllW := aw_t (j := 240) (by decide +kernel) (by decide +kernel)
theorem w241 : (Jvm.Cond.methodLink "java/util/ArrayList" (118 : Nat) ({ cls := "java/util/Objects", name := "checkIndex", desc := "(II)I" } : Jvm.MethodName)) ∈ AllW := aw_t (j := 241) (by decide +kernel) (by decide +kernel)
theorem w242 : (Jvm.Cond.static ({ cls := "java/util/Objects", name := "checkIndex", desc := "(II)I" } : Jvm.MethodName)) ∈ AllW := aw_t (j := 242) (by decide +kernel) (by decide +kernel)
theorem w243 : (Jvm.Cond.code ({ cls := "java/util/Objects", name := "checkIndex", desc := "(II)I" } : Jvm.MethodName) prog_25_method_17_code (2 : Nat) (Option.some Jvm.ClassFile.FieldType.int)) ∈ AllW := aw_t (j := 243) (by decide +kernel) (by decide +kernel)
theorem w244 : (Jvm.Cond.methodLink "java/util/Objects" (105 : Nat) ({ cls := "jdk/internal/util/Preconditions", name := "checkIndex", desc := "(IILjava/util/function/BiFunction;)I" } : Jvm.MethodName)) ∈ AllW := aw_t (j := 244) (by decide +kernel) (by decide +kernel)
theorem w245 : (Jvm.Cond.static ({ cls := "jdk/internal/util/Preconditions", name := "checkIndex", desc := "(IILjava/util/function/BiFunction;)I" } : Jvm.MethodName)) ∈ AllW := aw_t (j := 245) (by decide +kernel) (by decide +kernel)
theorem w246 : (Jvm.Cond.code ({ cls := "jdk/internal/util/Preconditions", name := "checkIndex", desc := "(IILjava/util/function/BiFunction;)I" } : Jvm.MethodName) prog_29_method_11_code (3 : Nat) (Option.some Jvm.ClassFile.FieldType.int)) ∈ AllW := aw_t (j := 246) (by decide +kernel) (by decide +kernel)
theorem w247 : (Jvm.Cond.methodLink "java/util/ArrayList" (123 : Nat) ({ cls := "java/util/ArrayList", name := "elementData", desc := "(I)Ljava/lang/Object;" } : Jvm.MethodName)) ∈ AllW := aw_t (j := 247) (by decide +kernel) (by decide +kernel)
theorem w248 : (Jvm.Cond.instanceMethod ({ cls := "java/util/ArrayList", name := "elementData", desc := "(I)Ljava/lang/Object;" } : Jvm.MethodName)) ∈ AllW := aw_t (j := 248) (by decide +kernel) (by decide +kernel)
theorem w249 : (Jvm.Cond.selects "java/util/ArrayList" ({ cls := "java/util/ArrayList", name := "elementData", desc := "(I)Ljava/lang/Object;" } : Jvm.MethodName) ({ cls := "java/util/ArrayList", name := "elementData", desc := "(I)Ljava/lang/Object;" } : Jvm.MethodName)) ∈ AllW := aw_t (j := 249) (by decide +kernel) (by decide +kernel)
theorem w250 : (Jvm.Cond.code ({ cls := "java/util/ArrayList", name := "elementData", desc := "(I)Ljava/lang/Object;" } : Jvm.MethodName) prog_21_method_18_code (2 : Nat) (Option.some (Jvm.ClassFile.FieldType.object "java/lang/Object"))) ∈ AllW := aw_t (j := 250) (by decide +kernel) (by decide +kernel)
theorem w251 : (Jvm.Cond.methodLink "CatEvenings" (160 : Nat) ({ cls := "CatEvenings$Evening", name := "isEnd", desc := "()Z" } : Jvm.MethodName)) ∈ AllW := aw_t (j := 251) (by decide +kernel) (by decide +kernel)
theorem w252 : (Jvm.Cond.instanceMethod ({ cls := "CatEvenings$Evening", name := "isEnd", desc := "()Z" } : Jvm.MethodName)) ∈ AllW := aw_t (j := 252) (by decide +kernel) (by decide +kernel)
theorem w253 : (Jvm.Cond.selects "CatEvenings$Evening" ({ cls := "CatEvenings$Evening", name := "isEnd", desc := "()Z" } : Jvm.MethodName) ({ cls := "CatEvenings$Evening", name := "isEnd", desc := "()Z" } : Jvm.MethodName)) ∈ AllW := aw_t (j := 253) (by decide +kernel) (by decide +kernel)
theorem w254 : (Jvm.Cond.code ({ cls := "CatEvenings$Evening", name := "isEnd", desc := "()Z" } : Jvm.MethodName) prog_2_method_3_code (1 : Nat) (Option.some Jvm.ClassFile.FieldType.boolean)) ∈ AllW := aw_t (j := 254) (by decide +kernel) (by decide +kernel)
theorem w255 : (Jvm.Cond.methodLink "CatEveningsLaw" (185 : Nat) ({ cls := "CatEvenings", name := "mostKnocked", desc := "()I" } : Jvm.MethodName)) ∈ AllW := aw_t (j := 255) (by decide +kernel) (by decide +kernel)
theorem w256 : (Jvm.Cond.instanceMethod ({ cls := "CatEvenings", name := "mostKnocked", desc := "()I" } : Jvm.MethodName)) ∈ AllW := aw_t (j := 256) (by decide +kernel) (by decide +kernel)
theorem w257 : (Jvm.Cond.selects "CatEvenings" ({ cls := "CatEvenings", name := "mostKnocked", desc := "()I" } : Jvm.MethodName) ({ cls := "CatEvenings", name := "mostKnocked", desc := "()I" } : Jvm.MethodName)) ∈ AllW := aw_t (j := 257) (by decide +kernel) (by decide +kernel)
theorem w258 : (Jvm.Cond.code ({ cls := "CatEvenings", name := "mostKnocked", desc := "()I" } : Jvm.MethodName) prog_1_method_30_code (5 : Nat) (Option.some Jvm.ClassFile.FieldType.int)) ∈ AllW := aw_t (j := 258) (by decide +kernel) (by decide +kernel)
theorem w259 : (Jvm.Cond.methodLink "CatEvenings" (168 : Nat) ({ cls := "CatEvenings", name := "pieces", desc := "()I" } : Jvm.MethodName)) ∈ AllW := aw_t (j := 259) (by decide +kernel) (by decide +kernel)
theorem w260 : (Jvm.Cond.methodLink "CatEvenings" (171 : Nat) ({ cls := "CatEvenings", name := "knocksOf", desc := "(I)I" } : Jvm.MethodName)) ∈ AllW := aw_t (j := 260) (by decide +kernel) (by decide +kernel)
theorem w262 : (Jvm.Cond.instanceMethod ({ cls := "CatEvenings", name := "knocksOf", desc := "(I)I" } : Jvm.MethodName)) ∈ AllW := aw_t (j := 262) (by decide +kernel) (by decide +kernel)
theorem w263 : (Jvm.Cond.code ({ cls := "CatEvenings", name := "knocksOf", desc := "(I)I" } : Jvm.MethodName) prog_1_method_37_code (5 : Nat) (Option.some Jvm.ClassFile.FieldType.int)) ∈ AllW := aw_t (j := 263) (by decide +kernel) (by decide +kernel)
theorem w264 : (Jvm.Cond.methodLink "CatEveningsLaw" (189 : Nat) ({ cls := "CatEvenings", name := "meanDepth", desc := "()D" } : Jvm.MethodName)) ∈ AllW := aw_t (j := 264) (by decide +kernel) (by decide +kernel)
theorem w265 : (Jvm.Cond.instanceMethod ({ cls := "CatEvenings", name := "meanDepth", desc := "()D" } : Jvm.MethodName)) ∈ AllW := aw_t (j := 265) (by decide +kernel) (by decide +kernel)
theorem w266 : (Jvm.Cond.selects "CatEvenings" ({ cls := "CatEvenings", name := "meanDepth", desc := "()D" } : Jvm.MethodName) ({ cls := "CatEvenings", name := "meanDepth", desc := "()D" } : Jvm.MethodName)) ∈ AllW := aw_t (j := 266) (by decide +kernel) (by decide +kernel)
theorem w267 : (Jvm.Cond.code ({ cls := "CatEvenings", name := "meanDepth", desc := "()D" } : Jvm.MethodName) prog_1_method_31_code (5 : Nat) (Option.some Jvm.ClassFile.FieldType.double)) ∈ AllW := aw_t (j := 267) (by decide +kernel) (by decide +kernel)
theorem w268 : (Jvm.Cond.methodLink "CatEveningsLaw" (194 : Nat) ({ cls := "CatEvenings", name := "digest", desc := "()J" } : Jvm.MethodName)) ∈ AllW := aw_t (j := 268) (by decide +kernel) (by decide +kernel)
theorem w269 : (Jvm.Cond.instanceMethod ({ cls := "CatEvenings", name := "digest", desc := "()J" } : Jvm.MethodName)) ∈ AllW := aw_t (j := 269) (by decide +kernel) (by decide +kernel)
theorem w270 : (Jvm.Cond.selects "CatEvenings" ({ cls := "CatEvenings", name := "digest", desc := "()J" } : Jvm.MethodName) ({ cls := "CatEvenings", name := "digest", desc := "()J" } : Jvm.MethodName)) ∈ AllW := aw_t (j := 270) (by decide +kernel) (by decide +kernel)
theorem w271 : (Jvm.Cond.code ({ cls := "CatEvenings", name := "digest", desc := "()J" } : Jvm.MethodName) prog_1_method_32_code (4 : Nat) (Option.some Jvm.ClassFile.FieldType.long)) ∈ AllW := aw_t (j := 271) (by decide +kernel) (by decide +kernel)
theorem w272 : (Jvm.Cond.constantLong "CatEvenings" (174 : Nat) (2251 : Int64)) ∈ AllW := aw_t (j := 272) (by decide +kernel) (by decide +kernel)
theorem w273 : (Jvm.Cond.methodLink "CatEvenings" (176 : Nat) ({ cls := "CatEvenings", name := "evening", desc := "()I" } : Jvm.MethodName)) ∈ AllW := aw_t (j := 273) (by decide +kernel) (by decide +kernel)
theorem w274 : (Jvm.Cond.methodLink "CatEvenings" (179 : Nat) ({ cls := "CatEvenings", name := "mixed", desc := "(JJ)J" } : Jvm.MethodName)) ∈ AllW := aw_t (j := 274) (by decide +kernel) (by decide +kernel)
theorem w275 : (Jvm.Cond.static ({ cls := "CatEvenings", name := "mixed", desc := "(JJ)J" } : Jvm.MethodName)) ∈ AllW := aw_t (j := 275) (by decide +kernel) (by decide +kernel)
theorem w276 : (Jvm.Cond.code ({ cls := "CatEvenings", name := "mixed", desc := "(JJ)J" } : Jvm.MethodName) prog_1_method_34_code (4 : Nat) (Option.some Jvm.ClassFile.FieldType.long)) ∈ AllW := aw_t (j := 276) (by decide +kernel) (by decide +kernel)
theorem w277 : (Jvm.Cond.constantLong "CatEvenings" (211 : Nat) (31 : Int64)) ∈ AllW := aw_t (j := 277) (by decide +kernel) (by decide +kernel)
theorem w278 : (Jvm.Cond.methodLink "CatEvenings" (183 : Nat) ({ cls := "CatEvenings", name := "evenings", desc := "()I" } : Jvm.MethodName)) ∈ AllW := aw_t (j := 278) (by decide +kernel) (by decide +kernel)
theorem w279 : (Jvm.Cond.methodLink "CatEvenings" (186 : Nat) ({ cls := "CatEvenings", name := "catColumn", desc := "()I" } : Jvm.MethodName)) ∈ AllW := aw_t (j := 279) (by decide +kernel) (by decide +kernel)
theorem w280 : (Jvm.Cond.methodLink "CatEvenings" (189 : Nat) ({ cls := "CatEvenings", name := "catRow", desc := "()I" } : Jvm.MethodName)) ∈ AllW := aw_t (j := 280) (by decide +kernel) (by decide +kernel)
theorem w281 : (Jvm.Cond.methodLink "CatEvenings" (192 : Nat) ({ cls := "CatEvenings", name := "lying", desc := "()I" } : Jvm.MethodName)) ∈ AllW := aw_t (j := 281) (by decide +kernel) (by decide +kernel)
theorem w282 : (Jvm.Cond.methodLink "CatEvenings" (195 : Nat) ({ cls := "CatEvenings", name := "ends", desc := "()I" } : Jvm.MethodName)) ∈ AllW := aw_t (j := 282) (by decide +kernel) (by decide +kernel)
theorem w283 : (Jvm.Cond.methodLink "CatEvenings" (198 : Nat) ({ cls := "CatEvenings", name := "mostKnocked", desc := "()I" } : Jvm.MethodName)) ∈ AllW := aw_t (j := 283) (by decide +kernel) (by decide +kernel)
theorem w284 : (Jvm.Cond.methodLink "CatEvenings" (201 : Nat) ({ cls := "CatEvenings", name := "placeOf", desc := "(I)I" } : Jvm.MethodName)) ∈ AllW := aw_t (j := 284) (by decide +kernel) (by decide +kernel)
theorem w285 : (Jvm.Cond.instanceMethod ({ cls := "CatEvenings", name := "placeOf", desc := "(I)I" } : Jvm.MethodName)) ∈ AllW := aw_t (j := 285) (by decide +kernel) (by decide +kernel)
theorem w286 : (Jvm.Cond.selects "CatEvenings" ({ cls := "CatEvenings", name := "placeOf", desc := "(I)I" } : Jvm.MethodName) ({ cls := "CatEvenings", name := "placeOf", desc := "(I)I" } : Jvm.MethodName)) ∈ AllW := aw_t (j := 286) (by decide +kernel) (by decide +kernel)
theorem w287 : (Jvm.Cond.code ({ cls := "CatEvenings", name := "placeOf", desc := "(I)I" } : Jvm.MethodName) prog_1_method_13_code (2 : Nat) (Option.some Jvm.ClassFile.FieldType.int)) ∈ AllW := aw_t (j := 287) (by decide +kernel) (by decide +kernel)
theorem w288 : (Jvm.Cond.methodLink "CatEvenings" (117 : Nat) ({ cls := "CatEvenings", name := "placeInScene", desc := "(LCatEvenings$Scene;I)I" } : Jvm.MethodName)) ∈ AllW := aw_t (j := 288) (by decide +kernel) (by decide +kernel)
theorem w289 : (Jvm.Cond.static ({ cls := "CatEvenings", name := "placeInScene", desc := "(LCatEvenings$Scene;I)I" } : Jvm.MethodName)) ∈ AllW := aw_t (j := 289) (by decide +kernel) (by decide +kernel)
theorem w290 : (Jvm.Cond.code ({ cls := "CatEvenings", name := "placeInScene", desc := "(LCatEvenings$Scene;I)I" } : Jvm.MethodName) prog_1_method_38_code (2 : Nat) (Option.some Jvm.ClassFile.FieldType.int)) ∈ AllW := aw_t (j := 290) (by decide +kernel) (by decide +kernel)
theorem w291 : (Jvm.Cond.methodLink "CatEvenings" (121 : Nat) ({ cls := "CatEvenings$Scene", name := "has", desc := "(I)Z" } : Jvm.MethodName)) ∈ AllW := aw_t (j := 291) (by decide +kernel) (by decide +kernel)
theorem w292 : (Jvm.Cond.instanceMethod ({ cls := "CatEvenings$Scene", name := "has", desc := "(I)Z" } : Jvm.MethodName)) ∈ AllW := aw_t (j := 292) (by decide +kernel) (by decide +kernel)
theorem w293 : (Jvm.Cond.selects "CatEvenings$Scene" ({ cls := "CatEvenings$Scene", name := "has", desc := "(I)Z" } : Jvm.MethodName) ({ cls := "CatEvenings$Scene", name := "has", desc := "(I)Z" } : Jvm.MethodName)) ∈ AllW := aw_t (j := 293) (by decide +kernel) (by decide +kernel)
theorem w294 : (Jvm.Cond.code ({ cls := "CatEvenings$Scene", name := "has", desc := "(I)Z" } : Jvm.MethodName) prog_3_method_2_code (2 : Nat) (Option.some Jvm.ClassFile.FieldType.boolean)) ∈ AllW := aw_t (j := 294) (by decide +kernel) (by decide +kernel)
theorem w295 : (Jvm.Cond.classLink "CatEvenings" (125 : Nat) "java/lang/IndexOutOfBoundsException") ∈ AllW := aw_t (j := 295) (by decide +kernel) (by decide +kernel)
theorem w296 : (Jvm.Cond.instantiable "java/lang/IndexOutOfBoundsException" (6 : Nat)) ∈ AllW := aw_t (j := 296) (by decide +kernel) (by decide +kernel)
theorem w304 : (Jvm.Cond.selects "java/lang/IndexOutOfBoundsException" ({ cls := "java/lang/Throwable", name := "fillInStackTrace", desc := "(I)Ljava/lang/Throwable;" } : Jvm.MethodName) ({ cls := "java/lang/Throwable", name := "fillInStackTrace", desc := "(I)Ljava/lang/Throwable;" } : Jvm.MethodName)) ∈ AllW := aw_t (j := 304) (by decide +kernel) (by decide +kernel)
theorem w305 : (Jvm.Cond.selects "java/lang/IndexOutOfBoundsException" ({ cls := "java/lang/Throwable", name := "fillInStackTrace", desc := "()Ljava/lang/Throwable;" } : Jvm.MethodName) ({ cls := "java/lang/Throwable", name := "fillInStackTrace", desc := "()Ljava/lang/Throwable;" } : Jvm.MethodName)) ∈ AllW := aw_t (j := 305) (by decide +kernel) (by decide +kernel)
theorem w316 : (Jvm.Cond.fieldLink "java/lang/Throwable" (198 : Nat) "java/lang/Throwable" "backtrace" "Ljava/lang/Object;") ∈ AllW := aw_t (j := 316) (by decide +kernel) (by decide +kernel)
theorem w318 : (Jvm.Cond.instanceMethod ({ cls := "java/lang/Throwable", name := "<init>", desc := "()V" } : Jvm.MethodName)) ∈ AllW := aw_t (j := 318) (by decide +kernel) (by decide +kernel)
theorem w319 : (Jvm.Cond.code ({ cls := "java/lang/Throwable", name := "<init>", desc := "()V" } : Jvm.MethodName) prog_18_method_1_code (1 : Nat) (Option.none : Option Jvm.ClassFile.FieldType)) ∈ AllW := aw_t (j := 319) (by decide +kernel) (by decide +kernel)
theorem w320 : (Jvm.Cond.methodLink "java/lang/Throwable" (1 : Nat) ({ cls := "java/lang/Object", name := "<init>", desc := "()V" } : Jvm.MethodName)) ∈ AllW := aw_t (j := 320) (by decide +kernel) (by decide +kernel)
theorem w321 : (Jvm.Cond.fieldLink "java/lang/Throwable" (13 : Nat) "java/lang/Throwable" "UNASSIGNED_STACK" "[Ljava/lang/StackTraceElement;") ∈ AllW := aw_t (j := 321) (by decide +kernel) (by decide +kernel)
theorem w323 : (Jvm.Cond.fieldLink "java/lang/Throwable" (20 : Nat) "java/lang/Throwable" "SUPPRESSED_SENTINEL" "Ljava/util/List;") ∈ AllW := aw_t (j := 323) (by decide +kernel) (by decide +kernel)
theorem w325 : (Jvm.Cond.methodLink "java/lang/Throwable" (27 : Nat) ({ cls := "java/lang/Throwable", name := "fillInStackTrace", desc := "()Ljava/lang/Throwable;" } : Jvm.MethodName)) ∈ AllW := aw_t (j := 325) (by decide +kernel) (by decide +kernel)
theorem w326 : (Jvm.Cond.instanceMethod ({ cls := "java/lang/Throwable", name := "fillInStackTrace", desc := "()Ljava/lang/Throwable;" } : Jvm.MethodName)) ∈ AllW := aw_t (j := 326) (by decide +kernel) (by decide +kernel)
theorem w327 : (Jvm.Cond.sameMethod "java/lang/Throwable" "java/lang/Throwable" "fillInStackTrace" "()Ljava/lang/Throwable;") ∈ AllW := aw_t (j := 327) (by decide +kernel) (by decide +kernel)
theorem w328 : (Jvm.Cond.selects "java/lang/IllegalArgumentException" ({ cls := "java/lang/Throwable", name := "fillInStackTrace", desc := "()Ljava/lang/Throwable;" } : Jvm.MethodName) ({ cls := "java/lang/Throwable", name := "fillInStackTrace", desc := "()Ljava/lang/Throwable;" } : Jvm.MethodName)) ∈ AllW := aw_t (j := 328) (by decide +kernel) (by decide +kernel)
theorem w329 : (Jvm.Cond.selects "java/lang/IllegalStateException" ({ cls := "java/lang/Throwable", name := "fillInStackTrace", desc := "()Ljava/lang/Throwable;" } : Jvm.MethodName) ({ cls := "java/lang/Throwable", name := "fillInStackTrace", desc := "()Ljava/lang/Throwable;" } : Jvm.MethodName)) ∈ AllW := aw_t (j := 329) (by decide +kernel) (by decide +kernel)
theorem w331 : (Jvm.Cond.methodLink "java/lang/Throwable" (202 : Nat) ({ cls := "java/lang/Throwable", name := "fillInStackTrace", desc := "(I)Ljava/lang/Throwable;" } : Jvm.MethodName)) ∈ AllW := aw_t (j := 331) (by decide +kernel) (by decide +kernel)
theorem w333 : (Jvm.Cond.instanceMethod ({ cls := "java/lang/Throwable", name := "fillInStackTrace", desc := "(I)Ljava/lang/Throwable;" } : Jvm.MethodName)) ∈ AllW := aw_t (j := 333) (by decide +kernel) (by decide +kernel)
theorem w334 : (Jvm.Cond.instantiable "java/lang/Throwable" (6 : Nat)) ∈ AllW := aw_t (j := 334) (by decide +kernel) (by decide +kernel)
theorem w335 : (Jvm.Cond.native ({ cls := "java/lang/Throwable", name := "fillInStackTrace", desc := "(I)Ljava/lang/Throwable;" } : Jvm.MethodName)) ∈ AllW := aw_t (j := 335) (by decide +kernel) (by decide +kernel)
theorem w337 : (Jvm.Cond.methodLink "CatEvenings" (129 : Nat) ({ cls := "java/lang/IndexOutOfBoundsException", name := "<init>", desc := "(Ljava/lang/String;)V" } : Jvm.MethodName)) ∈ AllW := aw_t (j := 337) (by decide +kernel) (by decide +kernel)
theorem w338 : (Jvm.Cond.instanceMethod ({ cls := "java/lang/IndexOutOfBoundsException", name := "<init>", desc := "(Ljava/lang/String;)V" } : Jvm.MethodName)) ∈ AllW := aw_t (j := 338) (by decide +kernel) (by decide +kernel)
theorem w339 : (Jvm.Cond.code ({ cls := "java/lang/IndexOutOfBoundsException", name := "<init>", desc := "(Ljava/lang/String;)V" } : Jvm.MethodName) prog_11_method_2_code (2 : Nat) (Option.none : Option Jvm.ClassFile.FieldType)) ∈ AllW := aw_t (j := 339) (by decide +kernel) (by decide +kernel)
theorem w340 : (Jvm.Cond.methodLink "java/lang/IndexOutOfBoundsException" (7 : Nat) ({ cls := "java/lang/RuntimeException", name := "<init>", desc := "(Ljava/lang/String;)V" } : Jvm.MethodName)) ∈ AllW := aw_t (j := 340) (by decide +kernel) (by decide +kernel)
theorem w341 : (Jvm.Cond.instanceMethod ({ cls := "java/lang/RuntimeException", name := "<init>", desc := "(Ljava/lang/String;)V" } : Jvm.MethodName)) ∈ AllW := aw_t (j := 341) (by decide +kernel) (by decide +kernel)
theorem w342 : (Jvm.Cond.code ({ cls := "java/lang/RuntimeException", name := "<init>", desc := "(Ljava/lang/String;)V" } : Jvm.MethodName) prog_15_method_2_code (2 : Nat) (Option.none : Option Jvm.ClassFile.FieldType)) ∈ AllW := aw_t (j := 342) (by decide +kernel) (by decide +kernel)
theorem w343 : (Jvm.Cond.methodLink "java/lang/RuntimeException" (7 : Nat) ({ cls := "java/lang/Exception", name := "<init>", desc := "(Ljava/lang/String;)V" } : Jvm.MethodName)) ∈ AllW := aw_t (j := 343) (by decide +kernel) (by decide +kernel)
theorem w344 : (Jvm.Cond.instanceMethod ({ cls := "java/lang/Exception", name := "<init>", desc := "(Ljava/lang/String;)V" } : Jvm.MethodName)) ∈ AllW := aw_t (j := 344) (by decide +kernel) (by decide +kernel)
theorem w345 : (Jvm.Cond.code ({ cls := "java/lang/Exception", name := "<init>", desc := "(Ljava/lang/String;)V" } : Jvm.MethodName) prog_8_method_2_code (2 : Nat) (Option.none : Option Jvm.ClassFile.FieldType)) ∈ AllW := aw_t (j := 345) (by decide +kernel) (by decide +kernel)
theorem w346 : (Jvm.Cond.methodLink "java/lang/Exception" (7 : Nat) ({ cls := "java/lang/Throwable", name := "<init>", desc := "(Ljava/lang/String;)V" } : Jvm.MethodName)) ∈ AllW := aw_t (j := 346) (by decide +kernel) (by decide +kernel)
theorem w347 : (Jvm.Cond.instanceMethod ({ cls := "java/lang/Throwable", name := "<init>", desc := "(Ljava/lang/String;)V" } : Jvm.MethodName)) ∈ AllW := aw_t (j := 347) (by decide +kernel) (by decide +kernel)
theorem w348 : (Jvm.Cond.code ({ cls := "java/lang/Throwable", name := "<init>", desc := "(Ljava/lang/String;)V" } : Jvm.MethodName) prog_18_method_2_code (2 : Nat) (Option.none : Option Jvm.ClassFile.FieldType)) ∈ AllW := aw_t (j := 348) (by decide +kernel) (by decide +kernel)
theorem w349 : (Jvm.Cond.fieldLink "java/lang/Throwable" (198 : Nat) "java/lang/Throwable" "backtrace" "Ljava/lang/Object;") ∈ AllW := aw_t (j := 349) (by decide +kernel) (by decide +kernel)
theorem w350 : (Jvm.Cond.fieldLink "java/lang/Throwable" (31 : Nat) "java/lang/Throwable" "detailMessage" "Ljava/lang/String;") ∈ AllW := aw_t (j := 350) (by decide +kernel) (by decide +kernel)
theorem w351 : (Jvm.Cond.fieldLink "java/lang/Throwable" (7 : Nat) "java/lang/Throwable" "cause" "Ljava/lang/Throwable;") ∈ AllW := aw_t (j := 351) (by decide +kernel) (by decide +kernel)
theorem w352 : (Jvm.Cond.fieldLink "java/lang/Throwable" (17 : Nat) "java/lang/Throwable" "stackTrace" "[Ljava/lang/StackTraceElement;") ∈ AllW := aw_t (j := 352) (by decide +kernel) (by decide +kernel)
theorem w353 : (Jvm.Cond.fieldLink "java/lang/Throwable" (24 : Nat) "java/lang/Throwable" "suppressedExceptions" "Ljava/util/List;") ∈ AllW := aw_t (j := 353) (by decide +kernel) (by decide +kernel)
theorem w362 : (Jvm.Cond.arrayClass Jvm.ClassFile.FieldType.byte) ∈ AllW := aw_t (j := 362) (by decide +kernel) (by decide +kernel)
theorem w363 : (Jvm.Cond.methodLink "CatEvenings" (204 : Nat) ({ cls := "CatEvenings", name := "lies", desc := "(I)Z" } : Jvm.MethodName)) ∈ AllW := aw_t (j := 363) (by decide +kernel) (by decide +kernel)
theorem w364 : (Jvm.Cond.instanceMethod ({ cls := "CatEvenings", name := "lies", desc := "(I)Z" } : Jvm.MethodName)) ∈ AllW := aw_t (j := 364) (by decide +kernel) (by decide +kernel)
theorem w365 : (Jvm.Cond.selects "CatEvenings" ({ cls := "CatEvenings", name := "lies", desc := "(I)Z" } : Jvm.MethodName) ({ cls := "CatEvenings", name := "lies", desc := "(I)Z" } : Jvm.MethodName)) ∈ AllW := aw_t (j := 365) (by decide +kernel) (by decide +kernel)
theorem w366 : (Jvm.Cond.code ({ cls := "CatEvenings", name := "lies", desc := "(I)Z" } : Jvm.MethodName) prog_1_method_14_code (2 : Nat) (Option.some Jvm.ClassFile.FieldType.boolean)) ∈ AllW := aw_t (j := 366) (by decide +kernel) (by decide +kernel)
theorem w367 : (Jvm.Cond.methodLink "CatEvenings" (130 : Nat) ({ cls := "CatEvenings$Scene", name := "isLying", desc := "(I)Z" } : Jvm.MethodName)) ∈ AllW := aw_t (j := 367) (by decide +kernel) (by decide +kernel)
theorem w368 : (Jvm.Cond.instanceMethod ({ cls := "CatEvenings$Scene", name := "isLying", desc := "(I)Z" } : Jvm.MethodName)) ∈ AllW := aw_t (j := 368) (by decide +kernel) (by decide +kernel)
theorem w369 : (Jvm.Cond.selects "CatEvenings$Scene" ({ cls := "CatEvenings$Scene", name := "isLying", desc := "(I)Z" } : Jvm.MethodName) ({ cls := "CatEvenings$Scene", name := "isLying", desc := "(I)Z" } : Jvm.MethodName)) ∈ AllW := aw_t (j := 369) (by decide +kernel) (by decide +kernel)
theorem w370 : (Jvm.Cond.code ({ cls := "CatEvenings$Scene", name := "isLying", desc := "(I)Z" } : Jvm.MethodName) prog_3_method_3_code (2 : Nat) (Option.some Jvm.ClassFile.FieldType.boolean)) ∈ AllW := aw_t (j := 370) (by decide +kernel) (by decide +kernel)
theorem w371 : (Jvm.Cond.methodLink "CatEvenings$Scene" (22 : Nat) ({ cls := "CatEvenings$Scene", name := "has", desc := "(I)Z" } : Jvm.MethodName)) ∈ AllW := aw_t (j := 371) (by decide +kernel) (by decide +kernel)
theorem w372 : (Jvm.Cond.methodLink "CatEvenings" (207 : Nat) ({ cls := "CatEvenings", name := "withEvening", desc := "(JLCatEvenings$Evening;)J" } : Jvm.MethodName)) ∈ AllW := aw_t (j := 372) (by decide +kernel) (by decide +kernel)
theorem w374 : (Jvm.Cond.instanceMethod ({ cls := "CatEvenings", name := "withEvening", desc := "(JLCatEvenings$Evening;)J" } : Jvm.MethodName)) ∈ AllW := aw_t (j := 374) (by decide +kernel) (by decide +kernel)
theorem w375 : (Jvm.Cond.code ({ cls := "CatEvenings", name := "withEvening", desc := "(JLCatEvenings$Evening;)J" } : Jvm.MethodName) prog_1_method_33_code (6 : Nat) (Option.some Jvm.ClassFile.FieldType.long)) ∈ AllW := aw_t (j := 375) (by decide +kernel) (by decide +kernel)
theorem w376 : (Jvm.Cond.methodLink "CatEvenings" (133 : Nat) ({ cls := "CatEvenings", name := "labelOf", desc := "(LCatEvenings$Evening;)I" } : Jvm.MethodName)) ∈ AllW := aw_t (j := 376) (by decide +kernel) (by decide +kernel)
theorem w377 : (Jvm.Cond.static ({ cls := "CatEvenings", name := "labelOf", desc := "(LCatEvenings$Evening;)I" } : Jvm.MethodName)) ∈ AllW := aw_t (j := 377) (by decide +kernel) (by decide +kernel)
theorem w378 : (Jvm.Cond.code ({ cls := "CatEvenings", name := "labelOf", desc := "(LCatEvenings$Evening;)I" } : Jvm.MethodName) prog_1_method_39_code (1 : Nat) (Option.some Jvm.ClassFile.FieldType.int)) ∈ AllW := aw_t (j := 378) (by decide +kernel) (by decide +kernel)
theorem w379 : (Jvm.Cond.methodLink "CatEvenings" (107 : Nat) ({ cls := "CatEvenings", name := "wayLength", desc := "(LCatEvenings$Evening;LCatEvenings$Evening;)I" } : Jvm.MethodName)) ∈ AllW := aw_t (j := 379) (by decide +kernel) (by decide +kernel)
theorem w380 : (Jvm.Cond.static ({ cls := "CatEvenings", name := "wayLength", desc := "(LCatEvenings$Evening;LCatEvenings$Evening;)I" } : Jvm.MethodName)) ∈ AllW := aw_t (j := 380) (by decide +kernel) (by decide +kernel)
theorem w381 : (Jvm.Cond.code ({ cls := "CatEvenings", name := "wayLength", desc := "(LCatEvenings$Evening;LCatEvenings$Evening;)I" } : Jvm.MethodName) prog_1_method_46_code (2 : Nat) (Option.some Jvm.ClassFile.FieldType.int)) ∈ AllW := aw_t (j := 381) (by decide +kernel) (by decide +kernel)
theorem w382 : (Jvm.Cond.methodLink "CatEvenings" (152 : Nat) ({ cls := "CatEvenings", name := "meetingOf", desc := "(LCatEvenings$Evening;LCatEvenings$Evening;)LCatEvenings$Evening;" } : Jvm.MethodName)) ∈ AllW := aw_t (j := 382) (by decide +kernel) (by decide +kernel)
theorem w383 : (Jvm.Cond.static ({ cls := "CatEvenings", name := "meetingOf", desc := "(LCatEvenings$Evening;LCatEvenings$Evening;)LCatEvenings$Evening;" } : Jvm.MethodName)) ∈ AllW := aw_t (j := 383) (by decide +kernel) (by decide +kernel)
theorem w384 : (Jvm.Cond.code ({ cls := "CatEvenings", name := "meetingOf", desc := "(LCatEvenings$Evening;LCatEvenings$Evening;)LCatEvenings$Evening;" } : Jvm.MethodName) prog_1_method_45_code (5 : Nat) (Option.some (Jvm.ClassFile.FieldType.object "CatEvenings$Evening"))) ∈ AllW := aw_t (j := 384) (by decide +kernel) (by decide +kernel)
theorem w385 : (Jvm.Cond.methodLink "CatEvenings" (240 : Nat) ({ cls := "CatEvenings$Evening", name := "above", desc := "()LCatEvenings$Evening;" } : Jvm.MethodName)) ∈ AllW := aw_t (j := 385) (by decide +kernel) (by decide +kernel)
theorem w386 : (Jvm.Cond.instanceMethod ({ cls := "CatEvenings$Evening", name := "above", desc := "()LCatEvenings$Evening;" } : Jvm.MethodName)) ∈ AllW := aw_t (j := 386) (by decide +kernel) (by decide +kernel)
theorem w387 : (Jvm.Cond.selects "CatEvenings$Evening" ({ cls := "CatEvenings$Evening", name := "above", desc := "()LCatEvenings$Evening;" } : Jvm.MethodName) ({ cls := "CatEvenings$Evening", name := "above", desc := "()LCatEvenings$Evening;" } : Jvm.MethodName)) ∈ AllW := aw_t (j := 387) (by decide +kernel) (by decide +kernel)
theorem w388 : (Jvm.Cond.code ({ cls := "CatEvenings$Evening", name := "above", desc := "()LCatEvenings$Evening;" } : Jvm.MethodName) prog_2_method_2_code (1 : Nat) (Option.some (Jvm.ClassFile.FieldType.object "CatEvenings$Evening"))) ∈ AllW := aw_t (j := 388) (by decide +kernel) (by decide +kernel)
theorem w389 : (Jvm.Cond.methodLink "CatEvenings" (164 : Nat) ({ cls := "CatEvenings$Scene", name := "isLike", desc := "(LCatEvenings$Scene;)Z" } : Jvm.MethodName)) ∈ AllW := aw_t (j := 389) (by decide +kernel) (by decide +kernel)
theorem w390 : (Jvm.Cond.instanceMethod ({ cls := "CatEvenings$Scene", name := "isLike", desc := "(LCatEvenings$Scene;)Z" } : Jvm.MethodName)) ∈ AllW := aw_t (j := 390) (by decide +kernel) (by decide +kernel)
theorem w391 : (Jvm.Cond.selects "CatEvenings$Scene" ({ cls := "CatEvenings$Scene", name := "isLike", desc := "(LCatEvenings$Scene;)Z" } : Jvm.MethodName) ({ cls := "CatEvenings$Scene", name := "isLike", desc := "(LCatEvenings$Scene;)Z" } : Jvm.MethodName)) ∈ AllW := aw_t (j := 391) (by decide +kernel) (by decide +kernel)
theorem w392 : (Jvm.Cond.code ({ cls := "CatEvenings$Scene", name := "isLike", desc := "(LCatEvenings$Scene;)Z" } : Jvm.MethodName) prog_3_method_7_code (3 : Nat) (Option.some Jvm.ClassFile.FieldType.boolean)) ∈ AllW := aw_t (j := 392) (by decide +kernel) (by decide +kernel)
theorem w393 : (Jvm.Cond.methodLink "CatEveningsLaw" (86 : Nat) ({ cls := "CatEveningsLaw", name := "setPiece", desc := "(LCatEvenings;II[J)I" } : Jvm.MethodName)) ∈ AllW := aw_t (j := 393) (by decide +kernel) (by decide +kernel)
theorem w394 : (Jvm.Cond.static ({ cls := "CatEveningsLaw", name := "setPiece", desc := "(LCatEvenings;II[J)I" } : Jvm.MethodName)) ∈ AllW := aw_t (j := 394) (by decide +kernel) (by decide +kernel)
theorem w395 : (Jvm.Cond.codeWith ({ cls := "CatEveningsLaw", name := "setPiece", desc := "(LCatEvenings;II[J)I" } : Jvm.MethodName) method_3_code (5 : Nat) (Option.some Jvm.ClassFile.FieldType.int) [((0 : Nat), (10 : Nat), (13 : Nat), (13 : Nat)), ((0 : Nat), (10 : Nat), (17 : Nat), (15 : Nat))]) ∈ AllW := aw_t (j := 395) (by decide +kernel) (by decide +kernel)
theorem w396 : (Jvm.Cond.classLink "CatEveningsLaw" (13 : Nat) "java/lang/IllegalArgumentException") ∈ AllW := aw_t (j := 396) (by decide +kernel) (by decide +kernel)
theorem w397 : (Jvm.Cond.classLink "CatEveningsLaw" (15 : Nat) "java/lang/IllegalStateException") ∈ AllW := aw_t (j := 397) (by decide +kernel) (by decide +kernel)
theorem w398 : (Jvm.Cond.methodLink "CatEveningsLaw" (7 : Nat) ({ cls := "CatEvenings", name := "setPiece", desc := "(II)I" } : Jvm.MethodName)) ∈ AllW := aw_t (j := 398) (by decide +kernel) (by decide +kernel)
theorem w399 : (Jvm.Cond.instanceMethod ({ cls := "CatEvenings", name := "setPiece", desc := "(II)I" } : Jvm.MethodName)) ∈ AllW := aw_t (j := 399) (by decide +kernel) (by decide +kernel)
theorem w400 : (Jvm.Cond.selects "CatEvenings" ({ cls := "CatEvenings", name := "setPiece", desc := "(II)I" } : Jvm.MethodName) ({ cls := "CatEvenings", name := "setPiece", desc := "(II)I" } : Jvm.MethodName)) ∈ AllW := aw_t (j := 400) (by decide +kernel) (by decide +kernel)
theorem w401 : (Jvm.Cond.code ({ cls := "CatEvenings", name := "setPiece", desc := "(II)I" } : Jvm.MethodName) prog_1_method_2_code (5 : Nat) (Option.some Jvm.ClassFile.FieldType.int)) ∈ AllW := aw_t (j := 401) (by decide +kernel) (by decide +kernel)
theorem w402 : (Jvm.Cond.methodLink "CatEvenings" (36 : Nat) ({ cls := "CatEvenings", name := "boardPlace", desc := "(II)I" } : Jvm.MethodName)) ∈ AllW := aw_t (j := 402) (by decide +kernel) (by decide +kernel)
theorem w403 : (Jvm.Cond.static ({ cls := "CatEvenings", name := "boardPlace", desc := "(II)I" } : Jvm.MethodName)) ∈ AllW := aw_t (j := 403) (by decide +kernel) (by decide +kernel)
theorem w404 : (Jvm.Cond.code ({ cls := "CatEvenings", name := "boardPlace", desc := "(II)I" } : Jvm.MethodName) prog_1_method_43_code (2 : Nat) (Option.some Jvm.ClassFile.FieldType.int)) ∈ AllW := aw_t (j := 404) (by decide +kernel) (by decide +kernel)
theorem w405 : (Jvm.Cond.methodLink "CatEvenings" (229 : Nat) ({ cls := "CatEvenings", name := "isOnBoard", desc := "(II)Z" } : Jvm.MethodName)) ∈ AllW := aw_t (j := 405) (by decide +kernel) (by decide +kernel)
theorem w406 : (Jvm.Cond.static ({ cls := "CatEvenings", name := "isOnBoard", desc := "(II)Z" } : Jvm.MethodName)) ∈ AllW := aw_t (j := 406) (by decide +kernel) (by decide +kernel)
theorem w407 : (Jvm.Cond.code ({ cls := "CatEvenings", name := "isOnBoard", desc := "(II)Z" } : Jvm.MethodName) prog_1_method_42_code (2 : Nat) (Option.some Jvm.ClassFile.FieldType.boolean)) ∈ AllW := aw_t (j := 407) (by decide +kernel) (by decide +kernel)
theorem w408 : (Jvm.Cond.classLink "CatEvenings" (219 : Nat) "java/lang/IllegalArgumentException") ∈ AllW := aw_t (j := 408) (by decide +kernel) (by decide +kernel)
theorem w409 : (Jvm.Cond.instantiable "java/lang/IllegalArgumentException" (6 : Nat)) ∈ AllW := aw_t (j := 409) (by decide +kernel) (by decide +kernel)
theorem w411 : (Jvm.Cond.selects "java/lang/IllegalArgumentException" ({ cls := "java/lang/Throwable", name := "fillInStackTrace", desc := "(I)Ljava/lang/Throwable;" } : Jvm.MethodName) ({ cls := "java/lang/Throwable", name := "fillInStackTrace", desc := "(I)Ljava/lang/Throwable;" } : Jvm.MethodName)) ∈ AllW := aw_t (j := 411) (by decide +kernel) (by decide +kernel)
theorem w418 : (Jvm.Cond.methodLink "CatEvenings" (223 : Nat) ({ cls := "java/lang/IllegalArgumentException", name := "<init>", desc := "(Ljava/lang/String;)V" } : Jvm.MethodName)) ∈ AllW := aw_t (j := 418) (by decide +kernel) (by decide +kernel)
theorem w419 : (Jvm.Cond.instanceMethod ({ cls := "java/lang/IllegalArgumentException", name := "<init>", desc := "(Ljava/lang/String;)V" } : Jvm.MethodName)) ∈ AllW := aw_t (j := 419) (by decide +kernel) (by decide +kernel)
theorem w420 : (Jvm.Cond.code ({ cls := "java/lang/IllegalArgumentException", name := "<init>", desc := "(Ljava/lang/String;)V" } : Jvm.MethodName) prog_9_method_2_code (2 : Nat) (Option.none : Option Jvm.ClassFile.FieldType)) ∈ AllW := aw_t (j := 420) (by decide +kernel) (by decide +kernel)
theorem w421 : (Jvm.Cond.methodLink "java/lang/IllegalArgumentException" (7 : Nat) ({ cls := "java/lang/RuntimeException", name := "<init>", desc := "(Ljava/lang/String;)V" } : Jvm.MethodName)) ∈ AllW := aw_t (j := 421) (by decide +kernel) (by decide +kernel)
theorem w424 : (Jvm.Cond.classLink "CatEvenings" (48 : Nat) "java/lang/IllegalStateException") ∈ AllW := aw_t (j := 424) (by decide +kernel) (by decide +kernel)
theorem w425 : (Jvm.Cond.instantiable "java/lang/IllegalStateException" (6 : Nat)) ∈ AllW := aw_t (j := 425) (by decide +kernel) (by decide +kernel)
theorem w427 : (Jvm.Cond.selects "java/lang/IllegalStateException" ({ cls := "java/lang/Throwable", name := "fillInStackTrace", desc := "(I)Ljava/lang/Throwable;" } : Jvm.MethodName) ({ cls := "java/lang/Throwable", name := "fillInStackTrace", desc := "(I)Ljava/lang/Throwable;" } : Jvm.MethodName)) ∈ AllW := aw_t (j := 427) (by decide +kernel) (by decide +kernel)
theorem w434 : (Jvm.Cond.methodLink "CatEvenings" (52 : Nat) ({ cls := "java/lang/IllegalStateException", name := "<init>", desc := "(Ljava/lang/String;)V" } : Jvm.MethodName)) ∈ AllW := aw_t (j := 434) (by decide +kernel) (by decide +kernel)
theorem w435 : (Jvm.Cond.instanceMethod ({ cls := "java/lang/IllegalStateException", name := "<init>", desc := "(Ljava/lang/String;)V" } : Jvm.MethodName)) ∈ AllW := aw_t (j := 435) (by decide +kernel) (by decide +kernel)
theorem w436 : (Jvm.Cond.code ({ cls := "java/lang/IllegalStateException", name := "<init>", desc := "(Ljava/lang/String;)V" } : Jvm.MethodName) prog_10_method_2_code (2 : Nat) (Option.none : Option Jvm.ClassFile.FieldType)) ∈ AllW := aw_t (j := 436) (by decide +kernel) (by decide +kernel)
theorem w437 : (Jvm.Cond.methodLink "java/lang/IllegalStateException" (7 : Nat) ({ cls := "java/lang/RuntimeException", name := "<init>", desc := "(Ljava/lang/String;)V" } : Jvm.MethodName)) ∈ AllW := aw_t (j := 437) (by decide +kernel) (by decide +kernel)
theorem w441 : (Jvm.Cond.methodLink "CatEvenings" (61 : Nat) ({ cls := "CatEvenings$Scene", name := "pieceOn", desc := "(I)I" } : Jvm.MethodName)) ∈ AllW := aw_t (j := 441) (by decide +kernel) (by decide +kernel)
theorem w442 : (Jvm.Cond.instanceMethod ({ cls := "CatEvenings$Scene", name := "pieceOn", desc := "(I)I" } : Jvm.MethodName)) ∈ AllW := aw_t (j := 442) (by decide +kernel) (by decide +kernel)
theorem w443 : (Jvm.Cond.selects "CatEvenings$Scene" ({ cls := "CatEvenings$Scene", name := "pieceOn", desc := "(I)I" } : Jvm.MethodName) ({ cls := "CatEvenings$Scene", name := "pieceOn", desc := "(I)I" } : Jvm.MethodName)) ∈ AllW := aw_t (j := 443) (by decide +kernel) (by decide +kernel)
theorem w444 : (Jvm.Cond.code ({ cls := "CatEvenings$Scene", name := "pieceOn", desc := "(I)I" } : Jvm.MethodName) prog_3_method_6_code (3 : Nat) (Option.some Jvm.ClassFile.FieldType.int)) ∈ AllW := aw_t (j := 444) (by decide +kernel) (by decide +kernel)
theorem w446 : (Jvm.Cond.methodLink "CatEvenings" (67 : Nat) ({ cls := "CatEvenings$Scene", name := "withPieceOn", desc := "(I)LCatEvenings$Scene;" } : Jvm.MethodName)) ∈ AllW := aw_t (j := 446) (by decide +kernel) (by decide +kernel)
theorem w447 : (Jvm.Cond.instanceMethod ({ cls := "CatEvenings$Scene", name := "withPieceOn", desc := "(I)LCatEvenings$Scene;" } : Jvm.MethodName)) ∈ AllW := aw_t (j := 447) (by decide +kernel) (by decide +kernel)
theorem w448 : (Jvm.Cond.selects "CatEvenings$Scene" ({ cls := "CatEvenings$Scene", name := "withPieceOn", desc := "(I)LCatEvenings$Scene;" } : Jvm.MethodName) ({ cls := "CatEvenings$Scene", name := "withPieceOn", desc := "(I)LCatEvenings$Scene;" } : Jvm.MethodName)) ∈ AllW := aw_t (j := 448) (by decide +kernel) (by decide +kernel)
theorem w449 : (Jvm.Cond.code ({ cls := "CatEvenings$Scene", name := "withPieceOn", desc := "(I)LCatEvenings$Scene;" } : Jvm.MethodName) prog_3_method_8_code (3 : Nat) (Option.some (Jvm.ClassFile.FieldType.object "CatEvenings$Scene"))) ∈ AllW := aw_t (j := 449) (by decide +kernel) (by decide +kernel)
theorem w450 : (Jvm.Cond.methodLink "CatEvenings$Scene" (35 : Nat) ({ cls := "java/lang/System", name := "arraycopy", desc := "(Ljava/lang/Object;ILjava/lang/Object;II)V" } : Jvm.MethodName)) ∈ AllW := aw_t (j := 450) (by decide +kernel) (by decide +kernel)
theorem w451 : (Jvm.Cond.classLink "CatEvenings$Scene" (10 : Nat) "CatEvenings$Scene") ∈ AllW := aw_t (j := 451) (by decide +kernel) (by decide +kernel)
theorem w452 : (Jvm.Cond.methodLink "CatEvenings$Scene" (41 : Nat) ({ cls := "CatEvenings$Scene", name := "<init>", desc := "(I[II)V" } : Jvm.MethodName)) ∈ AllW := aw_t (j := 452) (by decide +kernel) (by decide +kernel)
theorem w453 : (Jvm.Cond.methodLink "CatEveningsLaw" (96 : Nat) ({ cls := "CatEveningsLaw", name := "paw", desc := "(LCatEvenings;II[J)I" } : Jvm.MethodName)) ∈ AllW := aw_t (j := 453) (by decide +kernel) (by decide +kernel)
theorem w454 : (Jvm.Cond.static ({ cls := "CatEveningsLaw", name := "paw", desc := "(LCatEvenings;II[J)I" } : Jvm.MethodName)) ∈ AllW := aw_t (j := 454) (by decide +kernel) (by decide +kernel)
theorem w455 : (Jvm.Cond.codeWith ({ cls := "CatEveningsLaw", name := "paw", desc := "(LCatEvenings;II[J)I" } : Jvm.MethodName) method_4_code (5 : Nat) (Option.some Jvm.ClassFile.FieldType.int) [((0 : Nat), (10 : Nat), (13 : Nat), (13 : Nat)), ((0 : Nat), (10 : Nat), (17 : Nat), (15 : Nat))]) ∈ AllW := aw_t (j := 455) (by decide +kernel) (by decide +kernel)
theorem w456 : (Jvm.Cond.methodLink "CatEveningsLaw" (17 : Nat) ({ cls := "CatEvenings", name := "paw", desc := "(II)I" } : Jvm.MethodName)) ∈ AllW := aw_t (j := 456) (by decide +kernel) (by decide +kernel)
theorem w457 : (Jvm.Cond.instanceMethod ({ cls := "CatEvenings", name := "paw", desc := "(II)I" } : Jvm.MethodName)) ∈ AllW := aw_t (j := 457) (by decide +kernel) (by decide +kernel)
theorem w458 : (Jvm.Cond.selects "CatEvenings" ({ cls := "CatEvenings", name := "paw", desc := "(II)I" } : Jvm.MethodName) ({ cls := "CatEvenings", name := "paw", desc := "(II)I" } : Jvm.MethodName)) ∈ AllW := aw_t (j := 458) (by decide +kernel) (by decide +kernel)
theorem w459 : (Jvm.Cond.code ({ cls := "CatEvenings", name := "paw", desc := "(II)I" } : Jvm.MethodName) prog_1_method_3_code (5 : Nat) (Option.some Jvm.ClassFile.FieldType.int)) ∈ AllW := aw_t (j := 459) (by decide +kernel) (by decide +kernel)
theorem w460 : (Jvm.Cond.methodLink "CatEvenings" (71 : Nat) ({ cls := "CatEvenings", name := "sceneAfter", desc := "(II)LCatEvenings$Scene;" } : Jvm.MethodName)) ∈ AllW := aw_t (j := 460) (by decide +kernel) (by decide +kernel)
theorem w462 : (Jvm.Cond.instanceMethod ({ cls := "CatEvenings", name := "sceneAfter", desc := "(II)LCatEvenings$Scene;" } : Jvm.MethodName)) ∈ AllW := aw_t (j := 462) (by decide +kernel) (by decide +kernel)
theorem w463 : (Jvm.Cond.code ({ cls := "CatEvenings", name := "sceneAfter", desc := "(II)LCatEvenings$Scene;" } : Jvm.MethodName) prog_1_method_36_code (3 : Nat) (Option.some (Jvm.ClassFile.FieldType.object "CatEvenings$Scene"))) ∈ AllW := aw_t (j := 463) (by decide +kernel) (by decide +kernel)
theorem w464 : (Jvm.Cond.methodLink "CatEvenings" (215 : Nat) ({ cls := "CatEvenings", name := "isPaw", desc := "(II)Z" } : Jvm.MethodName)) ∈ AllW := aw_t (j := 464) (by decide +kernel) (by decide +kernel)
theorem w465 : (Jvm.Cond.static ({ cls := "CatEvenings", name := "isPaw", desc := "(II)Z" } : Jvm.MethodName)) ∈ AllW := aw_t (j := 465) (by decide +kernel) (by decide +kernel)
theorem w466 : (Jvm.Cond.code ({ cls := "CatEvenings", name := "isPaw", desc := "(II)Z" } : Jvm.MethodName) prog_1_method_41_code (2 : Nat) (Option.some Jvm.ClassFile.FieldType.boolean)) ∈ AllW := aw_t (j := 466) (by decide +kernel) (by decide +kernel)
theorem w468 : (Jvm.Cond.methodLink "CatEvenings" (224 : Nat) ({ cls := "CatEvenings$Scene", name := "after", desc := "(II)LCatEvenings$Scene;" } : Jvm.MethodName)) ∈ AllW := aw_t (j := 468) (by decide +kernel) (by decide +kernel)
theorem w469 : (Jvm.Cond.instanceMethod ({ cls := "CatEvenings$Scene", name := "after", desc := "(II)LCatEvenings$Scene;" } : Jvm.MethodName)) ∈ AllW := aw_t (j := 469) (by decide +kernel) (by decide +kernel)
theorem w470 : (Jvm.Cond.selects "CatEvenings$Scene" ({ cls := "CatEvenings$Scene", name := "after", desc := "(II)LCatEvenings$Scene;" } : Jvm.MethodName) ({ cls := "CatEvenings$Scene", name := "after", desc := "(II)LCatEvenings$Scene;" } : Jvm.MethodName)) ∈ AllW := aw_t (j := 470) (by decide +kernel) (by decide +kernel)
theorem w471 : (Jvm.Cond.code ({ cls := "CatEvenings$Scene", name := "after", desc := "(II)LCatEvenings$Scene;" } : Jvm.MethodName) prog_3_method_9_code (3 : Nat) (Option.some (Jvm.ClassFile.FieldType.object "CatEvenings$Scene"))) ∈ AllW := aw_t (j := 471) (by decide +kernel) (by decide +kernel)
theorem w472 : (Jvm.Cond.methodLink "CatEvenings$Scene" (44 : Nat) ({ cls := "CatEvenings$Scene", name := "afterStep", desc := "(I)LCatEvenings$Scene;" } : Jvm.MethodName)) ∈ AllW := aw_t (j := 472) (by decide +kernel) (by decide +kernel)
theorem w474 : (Jvm.Cond.instanceMethod ({ cls := "CatEvenings$Scene", name := "afterStep", desc := "(I)LCatEvenings$Scene;" } : Jvm.MethodName)) ∈ AllW := aw_t (j := 474) (by decide +kernel) (by decide +kernel)
theorem w475 : (Jvm.Cond.code ({ cls := "CatEvenings$Scene", name := "afterStep", desc := "(I)LCatEvenings$Scene;" } : Jvm.MethodName) prog_3_method_10_code (3 : Nat) (Option.some (Jvm.ClassFile.FieldType.object "CatEvenings$Scene"))) ∈ AllW := aw_t (j := 475) (by decide +kernel) (by decide +kernel)
theorem w477 : (Jvm.Cond.static ({ cls := "CatEvenings", name := "farther", desc := "(II)I" } : Jvm.MethodName)) ∈ AllW := aw_t (j := 477) (by decide +kernel) (by decide +kernel)
theorem w478 : (Jvm.Cond.code ({ cls := "CatEvenings", name := "farther", desc := "(II)I" } : Jvm.MethodName) prog_1_method_44_code (4 : Nat) (Option.some Jvm.ClassFile.FieldType.int)) ∈ AllW := aw_t (j := 478) (by decide +kernel) (by decide +kernel)
theorem w479 : (Jvm.Cond.fieldLink "CatEvenings" (234 : Nat) "CatEvenings" "COLUMN_STEPS" "[I") ∈ AllW := aw_t (j := 479) (by decide +kernel) (by decide +kernel)
theorem w481 : (Jvm.Cond.fieldLink "CatEvenings" (237 : Nat) "CatEvenings" "ROW_STEPS" "[I") ∈ AllW := aw_t (j := 481) (by decide +kernel) (by decide +kernel)
theorem w483 : (Jvm.Cond.methodLink "CatEvenings$Scene" (48 : Nat) ({ cls := "CatEvenings$Scene", name := "afterKnock", desc := "(I)LCatEvenings$Scene;" } : Jvm.MethodName)) ∈ AllW := aw_t (j := 483) (by decide +kernel) (by decide +kernel)
theorem w485 : (Jvm.Cond.instanceMethod ({ cls := "CatEvenings$Scene", name := "afterKnock", desc := "(I)LCatEvenings$Scene;" } : Jvm.MethodName)) ∈ AllW := aw_t (j := 485) (by decide +kernel) (by decide +kernel)
theorem w486 : (Jvm.Cond.code ({ cls := "CatEvenings$Scene", name := "afterKnock", desc := "(I)LCatEvenings$Scene;" } : Jvm.MethodName) prog_3_method_11_code (2 : Nat) (Option.some (Jvm.ClassFile.FieldType.object "CatEvenings$Scene"))) ∈ AllW := aw_t (j := 486) (by decide +kernel) (by decide +kernel)
theorem w487 : (Jvm.Cond.methodLink "CatEvenings$Scene" (61 : Nat) ({ cls := "CatEvenings$Scene", name := "isStanding", desc := "(I)Z" } : Jvm.MethodName)) ∈ AllW := aw_t (j := 487) (by decide +kernel) (by decide +kernel)
theorem w488 : (Jvm.Cond.instanceMethod ({ cls := "CatEvenings$Scene", name := "isStanding", desc := "(I)Z" } : Jvm.MethodName)) ∈ AllW := aw_t (j := 488) (by decide +kernel) (by decide +kernel)
theorem w489 : (Jvm.Cond.selects "CatEvenings$Scene" ({ cls := "CatEvenings$Scene", name := "isStanding", desc := "(I)Z" } : Jvm.MethodName) ({ cls := "CatEvenings$Scene", name := "isStanding", desc := "(I)Z" } : Jvm.MethodName)) ∈ AllW := aw_t (j := 489) (by decide +kernel) (by decide +kernel)
theorem w490 : (Jvm.Cond.code ({ cls := "CatEvenings$Scene", name := "isStanding", desc := "(I)Z" } : Jvm.MethodName) prog_3_method_4_code (2 : Nat) (Option.some Jvm.ClassFile.FieldType.boolean)) ∈ AllW := aw_t (j := 490) (by decide +kernel) (by decide +kernel)
theorem w491 : (Jvm.Cond.methodLink "CatEvenings$Scene" (26 : Nat) ({ cls := "CatEvenings$Scene", name := "isLying", desc := "(I)Z" } : Jvm.MethodName)) ∈ AllW := aw_t (j := 491) (by decide +kernel) (by decide +kernel)
theorem w492 : (Jvm.Cond.methodLink "CatEvenings$Scene" (64 : Nat) ({ cls := "CatEvenings$Scene", name := "isInReach", desc := "(I)Z" } : Jvm.MethodName)) ∈ AllW := aw_t (j := 492) (by decide +kernel) (by decide +kernel)
theorem w494 : (Jvm.Cond.instanceMethod ({ cls := "CatEvenings$Scene", name := "isInReach", desc := "(I)Z" } : Jvm.MethodName)) ∈ AllW := aw_t (j := 494) (by decide +kernel) (by decide +kernel)
theorem w495 : (Jvm.Cond.code ({ cls := "CatEvenings$Scene", name := "isInReach", desc := "(I)Z" } : Jvm.MethodName) prog_3_method_14_code (4 : Nat) (Option.some Jvm.ClassFile.FieldType.boolean)) ∈ AllW := aw_t (j := 495) (by decide +kernel) (by decide +kernel)
theorem w496 : (Jvm.Cond.methodLink "CatEvenings$Scene" (75 : Nat) ({ cls := "java/lang/Math", name := "abs", desc := "(I)I" } : Jvm.MethodName)) ∈ AllW := aw_t (j := 496) (by decide +kernel) (by decide +kernel)
theorem w497 : (Jvm.Cond.static ({ cls := "java/lang/Math", name := "abs", desc := "(I)I" } : Jvm.MethodName)) ∈ AllW := aw_t (j := 497) (by decide +kernel) (by decide +kernel)
theorem w498 : (Jvm.Cond.code ({ cls := "java/lang/Math", name := "abs", desc := "(I)I" } : Jvm.MethodName) prog_14_method_59_code (1 : Nat) (Option.some Jvm.ClassFile.FieldType.int)) ∈ AllW := aw_t (j := 498) (by decide +kernel) (by decide +kernel)
theorem w499 : (Jvm.Cond.methodLink "CatEvenings$Scene" (51 : Nat) ({ cls := "CatEvenings$Scene", name := "afterSetUp", desc := "(I)LCatEvenings$Scene;" } : Jvm.MethodName)) ∈ AllW := aw_t (j := 499) (by decide +kernel) (by decide +kernel)
theorem w501 : (Jvm.Cond.instanceMethod ({ cls := "CatEvenings$Scene", name := "afterSetUp", desc := "(I)LCatEvenings$Scene;" } : Jvm.MethodName)) ∈ AllW := aw_t (j := 501) (by decide +kernel) (by decide +kernel)
theorem w502 : (Jvm.Cond.code ({ cls := "CatEvenings$Scene", name := "afterSetUp", desc := "(I)LCatEvenings$Scene;" } : Jvm.MethodName) prog_3_method_12_code (2 : Nat) (Option.some (Jvm.ClassFile.FieldType.object "CatEvenings$Scene"))) ∈ AllW := aw_t (j := 502) (by decide +kernel) (by decide +kernel)
theorem w503 : (Jvm.Cond.methodLink "CatEvenings$Scene" (54 : Nat) ({ cls := "CatEvenings$Scene", name := "afterPush", desc := "(I)LCatEvenings$Scene;" } : Jvm.MethodName)) ∈ AllW := aw_t (j := 503) (by decide +kernel) (by decide +kernel)
theorem w505 : (Jvm.Cond.instanceMethod ({ cls := "CatEvenings$Scene", name := "afterPush", desc := "(I)LCatEvenings$Scene;" } : Jvm.MethodName)) ∈ AllW := aw_t (j := 505) (by decide +kernel) (by decide +kernel)
theorem w506 : (Jvm.Cond.code ({ cls := "CatEvenings$Scene", name := "afterPush", desc := "(I)LCatEvenings$Scene;" } : Jvm.MethodName) prog_3_method_13_code (6 : Nat) (Option.some (Jvm.ClassFile.FieldType.object "CatEvenings$Scene"))) ∈ AllW := aw_t (j := 506) (by decide +kernel) (by decide +kernel)
theorem w507 : (Jvm.Cond.methodLink "CatEvenings$Scene" (67 : Nat) ({ cls := "CatEvenings$Scene", name := "pieceOn", desc := "(I)I" } : Jvm.MethodName)) ∈ AllW := aw_t (j := 507) (by decide +kernel) (by decide +kernel)
theorem w508 : (Jvm.Cond.methodLink "CatEvenings$Scene" (70 : Nat) ({ cls := "[I", name := "clone", desc := "()Ljava/lang/Object;" } : Jvm.MethodName)) ∈ AllW := aw_t (j := 508) (by decide +kernel) (by decide +kernel)
theorem w509 : (Jvm.Cond.sameMethod "[I" "java/lang/Object" "clone" "()Ljava/lang/Object;") ∈ AllW := aw_t (j := 509) (by decide +kernel) (by decide +kernel)
theorem w510 : (Jvm.Cond.native ({ cls := "java/lang/Object", name := "clone", desc := "()Ljava/lang/Object;" } : Jvm.MethodName)) ∈ AllW := aw_t (j := 510) (by decide +kernel) (by decide +kernel)
theorem w511 : (Jvm.Cond.instanceMethod ({ cls := "java/lang/Object", name := "clone", desc := "()Ljava/lang/Object;" } : Jvm.MethodName)) ∈ AllW := aw_t (j := 511) (by decide +kernel) (by decide +kernel)
theorem w512 : (Jvm.Cond.selects "[I" ({ cls := "[I", name := "clone", desc := "()Ljava/lang/Object;" } : Jvm.MethodName) ({ cls := "java/lang/Object", name := "clone", desc := "()Ljava/lang/Object;" } : Jvm.MethodName)) ∈ AllW := aw_t (j := 512) (by decide +kernel) (by decide +kernel)
theorem w514 : (Jvm.Cond.classLink "CatEvenings$Scene" (71 : Nat) "[I") ∈ AllW := aw_t (j := 514) (by decide +kernel) (by decide +kernel)
theorem w517 : (Jvm.Cond.methodLink "CatEvenings" (79 : Nat) ({ cls := "CatEvenings$Evening", name := "countAbove", desc := "()V" } : Jvm.MethodName)) ∈ AllW := aw_t (j := 517) (by decide +kernel) (by decide +kernel)
theorem w518 : (Jvm.Cond.instanceMethod ({ cls := "CatEvenings$Evening", name := "countAbove", desc := "()V" } : Jvm.MethodName)) ∈ AllW := aw_t (j := 518) (by decide +kernel) (by decide +kernel)
theorem w519 : (Jvm.Cond.selects "CatEvenings$Evening" ({ cls := "CatEvenings$Evening", name := "countAbove", desc := "()V" } : Jvm.MethodName) ({ cls := "CatEvenings$Evening", name := "countAbove", desc := "()V" } : Jvm.MethodName)) ∈ AllW := aw_t (j := 519) (by decide +kernel) (by decide +kernel)
theorem w520 : (Jvm.Cond.code ({ cls := "CatEvenings$Evening", name := "countAbove", desc := "()V" } : Jvm.MethodName) prog_2_method_4_code (2 : Nat) (Option.none : Option Jvm.ClassFile.FieldType)) ∈ AllW := aw_t (j := 520) (by decide +kernel) (by decide +kernel)
theorem w521 : (Jvm.Cond.methodLink "CatEvenings" (82 : Nat) ({ cls := "CatEvenings$Evening", name := "pointToFromAbove", desc := "()V" } : Jvm.MethodName)) ∈ AllW := aw_t (j := 521) (by decide +kernel) (by decide +kernel)
theorem w522 : (Jvm.Cond.instanceMethod ({ cls := "CatEvenings$Evening", name := "pointToFromAbove", desc := "()V" } : Jvm.MethodName)) ∈ AllW := aw_t (j := 522) (by decide +kernel) (by decide +kernel)
theorem w523 : (Jvm.Cond.selects "CatEvenings$Evening" ({ cls := "CatEvenings$Evening", name := "pointToFromAbove", desc := "()V" } : Jvm.MethodName) ({ cls := "CatEvenings$Evening", name := "pointToFromAbove", desc := "()V" } : Jvm.MethodName)) ∈ AllW := aw_t (j := 523) (by decide +kernel) (by decide +kernel)
theorem w524 : (Jvm.Cond.code ({ cls := "CatEvenings$Evening", name := "pointToFromAbove", desc := "()V" } : Jvm.MethodName) prog_2_method_5_code (3 : Nat) (Option.none : Option Jvm.ClassFile.FieldType)) ∈ AllW := aw_t (j := 524) (by decide +kernel) (by decide +kernel)
theorem w525 : (Jvm.Cond.methodLink "CatEveningsLaw" (99 : Nat) ({ cls := "CatEveningsLaw", name := "undo", desc := "(LCatEvenings;I[J)I" } : Jvm.MethodName)) ∈ AllW := aw_t (j := 525) (by decide +kernel) (by decide +kernel)
theorem w526 : (Jvm.Cond.static ({ cls := "CatEveningsLaw", name := "undo", desc := "(LCatEvenings;I[J)I" } : Jvm.MethodName)) ∈ AllW := aw_t (j := 526) (by decide +kernel) (by decide +kernel)
theorem w527 : (Jvm.Cond.codeWith ({ cls := "CatEveningsLaw", name := "undo", desc := "(LCatEvenings;I[J)I" } : Jvm.MethodName) method_5_code (4 : Nat) (Option.some Jvm.ClassFile.FieldType.int) [((0 : Nat), (9 : Nat), (12 : Nat), (13 : Nat)), ((0 : Nat), (9 : Nat), (15 : Nat), (15 : Nat))]) ∈ AllW := aw_t (j := 527) (by decide +kernel) (by decide +kernel)
theorem w528 : (Jvm.Cond.methodLink "CatEveningsLaw" (20 : Nat) ({ cls := "CatEvenings", name := "undo", desc := "(I)I" } : Jvm.MethodName)) ∈ AllW := aw_t (j := 528) (by decide +kernel) (by decide +kernel)
theorem w529 : (Jvm.Cond.instanceMethod ({ cls := "CatEvenings", name := "undo", desc := "(I)I" } : Jvm.MethodName)) ∈ AllW := aw_t (j := 529) (by decide +kernel) (by decide +kernel)
theorem w530 : (Jvm.Cond.selects "CatEvenings" ({ cls := "CatEvenings", name := "undo", desc := "(I)I" } : Jvm.MethodName) ({ cls := "CatEvenings", name := "undo", desc := "(I)I" } : Jvm.MethodName)) ∈ AllW := aw_t (j := 530) (by decide +kernel) (by decide +kernel)
theorem w531 : (Jvm.Cond.code ({ cls := "CatEvenings", name := "undo", desc := "(I)I" } : Jvm.MethodName) prog_1_method_4_code (4 : Nat) (Option.some Jvm.ClassFile.FieldType.int)) ∈ AllW := aw_t (j := 531) (by decide +kernel) (by decide +kernel)
theorem w532 : (Jvm.Cond.methodLink "CatEvenings" (89 : Nat) ({ cls := "CatEvenings", name := "checkMany", desc := "(I)V" } : Jvm.MethodName)) ∈ AllW := aw_t (j := 532) (by decide +kernel) (by decide +kernel)
theorem w533 : (Jvm.Cond.static ({ cls := "CatEvenings", name := "checkMany", desc := "(I)V" } : Jvm.MethodName)) ∈ AllW := aw_t (j := 533) (by decide +kernel) (by decide +kernel)
theorem w534 : (Jvm.Cond.code ({ cls := "CatEvenings", name := "checkMany", desc := "(I)V" } : Jvm.MethodName) prog_1_method_40_code (1 : Nat) (Option.none : Option Jvm.ClassFile.FieldType)) ∈ AllW := aw_t (j := 534) (by decide +kernel) (by decide +kernel)
theorem w537 : (Jvm.Cond.methodLink "CatEveningsLaw" (103 : Nat) ({ cls := "CatEveningsLaw", name := "redo", desc := "(LCatEvenings;I[J)I" } : Jvm.MethodName)) ∈ AllW := aw_t (j := 537) (by decide +kernel) (by decide +kernel)
theorem w538 : (Jvm.Cond.static ({ cls := "CatEveningsLaw", name := "redo", desc := "(LCatEvenings;I[J)I" } : Jvm.MethodName)) ∈ AllW := aw_t (j := 538) (by decide +kernel) (by decide +kernel)
theorem w539 : (Jvm.Cond.codeWith ({ cls := "CatEveningsLaw", name := "redo", desc := "(LCatEvenings;I[J)I" } : Jvm.MethodName) method_6_code (4 : Nat) (Option.some Jvm.ClassFile.FieldType.int) [((0 : Nat), (9 : Nat), (12 : Nat), (13 : Nat)), ((0 : Nat), (9 : Nat), (15 : Nat), (15 : Nat))]) ∈ AllW := aw_t (j := 539) (by decide +kernel) (by decide +kernel)
theorem w540 : (Jvm.Cond.methodLink "CatEveningsLaw" (24 : Nat) ({ cls := "CatEvenings", name := "redo", desc := "(I)I" } : Jvm.MethodName)) ∈ AllW := aw_t (j := 540) (by decide +kernel) (by decide +kernel)
theorem w541 : (Jvm.Cond.instanceMethod ({ cls := "CatEvenings", name := "redo", desc := "(I)I" } : Jvm.MethodName)) ∈ AllW := aw_t (j := 541) (by decide +kernel) (by decide +kernel)
theorem w542 : (Jvm.Cond.selects "CatEvenings" ({ cls := "CatEvenings", name := "redo", desc := "(I)I" } : Jvm.MethodName) ({ cls := "CatEvenings", name := "redo", desc := "(I)I" } : Jvm.MethodName)) ∈ AllW := aw_t (j := 542) (by decide +kernel) (by decide +kernel)
theorem w543 : (Jvm.Cond.code ({ cls := "CatEvenings", name := "redo", desc := "(I)I" } : Jvm.MethodName) prog_1_method_5_code (4 : Nat) (Option.some Jvm.ClassFile.FieldType.int)) ∈ AllW := aw_t (j := 543) (by decide +kernel) (by decide +kernel)
theorem w545 : (Jvm.Cond.methodLink "CatEveningsLaw" (106 : Nat) ({ cls := "CatEveningsLaw", name := "goTo", desc := "(LCatEvenings;I[J)I" } : Jvm.MethodName)) ∈ AllW := aw_t (j := 545) (by decide +kernel) (by decide +kernel)
theorem w546 : (Jvm.Cond.static ({ cls := "CatEveningsLaw", name := "goTo", desc := "(LCatEvenings;I[J)I" } : Jvm.MethodName)) ∈ AllW := aw_t (j := 546) (by decide +kernel) (by decide +kernel)
theorem w547 : (Jvm.Cond.codeWith ({ cls := "CatEveningsLaw", name := "goTo", desc := "(LCatEvenings;I[J)I" } : Jvm.MethodName) method_7_code (4 : Nat) (Option.some Jvm.ClassFile.FieldType.int) [((0 : Nat), (9 : Nat), (12 : Nat), (30 : Nat))]) ∈ AllW := aw_t (j := 547) (by decide +kernel) (by decide +kernel)
theorem w548 : (Jvm.Cond.classLink "CatEveningsLaw" (30 : Nat) "java/lang/IndexOutOfBoundsException") ∈ AllW := aw_t (j := 548) (by decide +kernel) (by decide +kernel)
theorem w549 : (Jvm.Cond.methodLink "CatEveningsLaw" (27 : Nat) ({ cls := "CatEvenings", name := "goTo", desc := "(I)I" } : Jvm.MethodName)) ∈ AllW := aw_t (j := 549) (by decide +kernel) (by decide +kernel)
theorem w550 : (Jvm.Cond.instanceMethod ({ cls := "CatEvenings", name := "goTo", desc := "(I)I" } : Jvm.MethodName)) ∈ AllW := aw_t (j := 550) (by decide +kernel) (by decide +kernel)
theorem w551 : (Jvm.Cond.selects "CatEvenings" ({ cls := "CatEvenings", name := "goTo", desc := "(I)I" } : Jvm.MethodName) ({ cls := "CatEvenings", name := "goTo", desc := "(I)I" } : Jvm.MethodName)) ∈ AllW := aw_t (j := 551) (by decide +kernel) (by decide +kernel)
theorem w552 : (Jvm.Cond.code ({ cls := "CatEvenings", name := "goTo", desc := "(I)I" } : Jvm.MethodName) prog_1_method_6_code (4 : Nat) (Option.some Jvm.ClassFile.FieldType.int)) ∈ AllW := aw_t (j := 552) (by decide +kernel) (by decide +kernel)
theorem w553 : (Jvm.Cond.methodLink "CatEvenings" (103 : Nat) ({ cls := "CatEvenings", name := "existing", desc := "(I)LCatEvenings$Evening;" } : Jvm.MethodName)) ∈ AllW := aw_t (j := 553) (by decide +kernel) (by decide +kernel)
theorem w555 : (Jvm.Cond.instanceMethod ({ cls := "CatEvenings", name := "existing", desc := "(I)LCatEvenings$Evening;" } : Jvm.MethodName)) ∈ AllW := aw_t (j := 555) (by decide +kernel) (by decide +kernel)
theorem w556 : (Jvm.Cond.code ({ cls := "CatEvenings", name := "existing", desc := "(I)LCatEvenings$Evening;" } : Jvm.MethodName) prog_1_method_35_code (2 : Nat) (Option.some (Jvm.ClassFile.FieldType.object "CatEvenings$Evening"))) ∈ AllW := aw_t (j := 556) (by decide +kernel) (by decide +kernel)
theorem w558 : (Jvm.Cond.methodLink "CatEveningsLaw" (133 : Nat) ({ cls := "CatEveningsLaw", name := "placeOf", desc := "(LCatEvenings;I[J)I" } : Jvm.MethodName)) ∈ AllW := aw_t (j := 558) (by decide +kernel) (by decide +kernel)
theorem w559 : (Jvm.Cond.static ({ cls := "CatEveningsLaw", name := "placeOf", desc := "(LCatEvenings;I[J)I" } : Jvm.MethodName)) ∈ AllW := aw_t (j := 559) (by decide +kernel) (by decide +kernel)
theorem w560 : (Jvm.Cond.codeWith ({ cls := "CatEveningsLaw", name := "placeOf", desc := "(LCatEvenings;I[J)I" } : Jvm.MethodName) method_8_code (4 : Nat) (Option.some Jvm.ClassFile.FieldType.int) [((0 : Nat), (9 : Nat), (12 : Nat), (30 : Nat))]) ∈ AllW := aw_t (j := 560) (by decide +kernel) (by decide +kernel)
theorem w561 : (Jvm.Cond.methodLink "CatEveningsLaw" (32 : Nat) ({ cls := "CatEvenings", name := "placeOf", desc := "(I)I" } : Jvm.MethodName)) ∈ AllW := aw_t (j := 561) (by decide +kernel) (by decide +kernel)
theorem w562 : (Jvm.Cond.methodLink "CatEveningsLaw" (136 : Nat) ({ cls := "CatEveningsLaw", name := "lies", desc := "(LCatEvenings;I[J)I" } : Jvm.MethodName)) ∈ AllW := aw_t (j := 562) (by decide +kernel) (by decide +kernel)
theorem w563 : (Jvm.Cond.static ({ cls := "CatEveningsLaw", name := "lies", desc := "(LCatEvenings;I[J)I" } : Jvm.MethodName)) ∈ AllW := aw_t (j := 563) (by decide +kernel) (by decide +kernel)
theorem w564 : (Jvm.Cond.codeWith ({ cls := "CatEveningsLaw", name := "lies", desc := "(LCatEvenings;I[J)I" } : Jvm.MethodName) method_9_code (4 : Nat) (Option.some Jvm.ClassFile.FieldType.int) [((0 : Nat), (16 : Nat), (19 : Nat), (30 : Nat))]) ∈ AllW := aw_t (j := 564) (by decide +kernel) (by decide +kernel)
theorem w565 : (Jvm.Cond.methodLink "CatEveningsLaw" (35 : Nat) ({ cls := "CatEvenings", name := "lies", desc := "(I)Z" } : Jvm.MethodName)) ∈ AllW := aw_t (j := 565) (by decide +kernel) (by decide +kernel)
theorem w566 : (Jvm.Cond.methodLink "CatEveningsLaw" (139 : Nat) ({ cls := "CatEveningsLaw", name := "pieceAt", desc := "(LCatEvenings;II[J)I" } : Jvm.MethodName)) ∈ AllW := aw_t (j := 566) (by decide +kernel) (by decide +kernel)
theorem w567 : (Jvm.Cond.static ({ cls := "CatEveningsLaw", name := "pieceAt", desc := "(LCatEvenings;II[J)I" } : Jvm.MethodName)) ∈ AllW := aw_t (j := 567) (by decide +kernel) (by decide +kernel)
theorem w568 : (Jvm.Cond.codeWith ({ cls := "CatEveningsLaw", name := "pieceAt", desc := "(LCatEvenings;II[J)I" } : Jvm.MethodName) method_10_code (5 : Nat) (Option.some Jvm.ClassFile.FieldType.int) [((0 : Nat), (10 : Nat), (13 : Nat), (13 : Nat))]) ∈ AllW := aw_t (j := 568) (by decide +kernel) (by decide +kernel)
theorem w569 : (Jvm.Cond.methodLink "CatEveningsLaw" (39 : Nat) ({ cls := "CatEvenings", name := "pieceAt", desc := "(II)I" } : Jvm.MethodName)) ∈ AllW := aw_t (j := 569) (by decide +kernel) (by decide +kernel)
theorem w570 : (Jvm.Cond.instanceMethod ({ cls := "CatEvenings", name := "pieceAt", desc := "(II)I" } : Jvm.MethodName)) ∈ AllW := aw_t (j := 570) (by decide +kernel) (by decide +kernel)
theorem w571 : (Jvm.Cond.selects "CatEvenings" ({ cls := "CatEvenings", name := "pieceAt", desc := "(II)I" } : Jvm.MethodName) ({ cls := "CatEvenings", name := "pieceAt", desc := "(II)I" } : Jvm.MethodName)) ∈ AllW := aw_t (j := 571) (by decide +kernel) (by decide +kernel)
theorem w572 : (Jvm.Cond.code ({ cls := "CatEvenings", name := "pieceAt", desc := "(II)I" } : Jvm.MethodName) prog_1_method_15_code (3 : Nat) (Option.some Jvm.ClassFile.FieldType.int)) ∈ AllW := aw_t (j := 572) (by decide +kernel) (by decide +kernel)
theorem w573 : (Jvm.Cond.methodLink "CatEveningsLaw" (142 : Nat) ({ cls := "CatEveningsLaw", name := "canDo", desc := "(LCatEvenings;II[J)I" } : Jvm.MethodName)) ∈ AllW := aw_t (j := 573) (by decide +kernel) (by decide +kernel)
theorem w574 : (Jvm.Cond.static ({ cls := "CatEveningsLaw", name := "canDo", desc := "(LCatEvenings;II[J)I" } : Jvm.MethodName)) ∈ AllW := aw_t (j := 574) (by decide +kernel) (by decide +kernel)
theorem w575 : (Jvm.Cond.codeWith ({ cls := "CatEveningsLaw", name := "canDo", desc := "(LCatEvenings;II[J)I" } : Jvm.MethodName) method_11_code (5 : Nat) (Option.some Jvm.ClassFile.FieldType.int) [((0 : Nat), (17 : Nat), (20 : Nat), (13 : Nat))]) ∈ AllW := aw_t (j := 575) (by decide +kernel) (by decide +kernel)
theorem w576 : (Jvm.Cond.methodLink "CatEveningsLaw" (42 : Nat) ({ cls := "CatEvenings", name := "canDo", desc := "(II)Z" } : Jvm.MethodName)) ∈ AllW := aw_t (j := 576) (by decide +kernel) (by decide +kernel)
theorem w577 : (Jvm.Cond.instanceMethod ({ cls := "CatEvenings", name := "canDo", desc := "(II)Z" } : Jvm.MethodName)) ∈ AllW := aw_t (j := 577) (by decide +kernel) (by decide +kernel)
theorem w578 : (Jvm.Cond.selects "CatEvenings" ({ cls := "CatEvenings", name := "canDo", desc := "(II)Z" } : Jvm.MethodName) ({ cls := "CatEvenings", name := "canDo", desc := "(II)Z" } : Jvm.MethodName)) ∈ AllW := aw_t (j := 578) (by decide +kernel) (by decide +kernel)
theorem w579 : (Jvm.Cond.code ({ cls := "CatEvenings", name := "canDo", desc := "(II)Z" } : Jvm.MethodName) prog_1_method_16_code (3 : Nat) (Option.some Jvm.ClassFile.FieldType.boolean)) ∈ AllW := aw_t (j := 579) (by decide +kernel) (by decide +kernel)
theorem w580 : (Jvm.Cond.methodLink "CatEveningsLaw" (145 : Nat) ({ cls := "CatEveningsLaw", name := "hangsOn", desc := "(LCatEvenings;I[J)I" } : Jvm.MethodName)) ∈ AllW := aw_t (j := 580) (by decide +kernel) (by decide +kernel)
theorem w581 : (Jvm.Cond.static ({ cls := "CatEveningsLaw", name := "hangsOn", desc := "(LCatEvenings;I[J)I" } : Jvm.MethodName)) ∈ AllW := aw_t (j := 581) (by decide +kernel) (by decide +kernel)
theorem w582 : (Jvm.Cond.codeWith ({ cls := "CatEveningsLaw", name := "hangsOn", desc := "(LCatEvenings;I[J)I" } : Jvm.MethodName) method_12_code (4 : Nat) (Option.some Jvm.ClassFile.FieldType.int) [((0 : Nat), (9 : Nat), (12 : Nat), (30 : Nat))]) ∈ AllW := aw_t (j := 582) (by decide +kernel) (by decide +kernel)
theorem w583 : (Jvm.Cond.methodLink "CatEveningsLaw" (46 : Nat) ({ cls := "CatEvenings", name := "hangsOn", desc := "(I)I" } : Jvm.MethodName)) ∈ AllW := aw_t (j := 583) (by decide +kernel) (by decide +kernel)
theorem w584 : (Jvm.Cond.instanceMethod ({ cls := "CatEvenings", name := "hangsOn", desc := "(I)I" } : Jvm.MethodName)) ∈ AllW := aw_t (j := 584) (by decide +kernel) (by decide +kernel)
theorem w585 : (Jvm.Cond.selects "CatEvenings" ({ cls := "CatEvenings", name := "hangsOn", desc := "(I)I" } : Jvm.MethodName) ({ cls := "CatEvenings", name := "hangsOn", desc := "(I)I" } : Jvm.MethodName)) ∈ AllW := aw_t (j := 585) (by decide +kernel) (by decide +kernel)
theorem w586 : (Jvm.Cond.code ({ cls := "CatEvenings", name := "hangsOn", desc := "(I)I" } : Jvm.MethodName) prog_1_method_17_code (2 : Nat) (Option.some Jvm.ClassFile.FieldType.int)) ∈ AllW := aw_t (j := 586) (by decide +kernel) (by decide +kernel)
theorem w587 : (Jvm.Cond.methodLink "CatEveningsLaw" (148 : Nat) ({ cls := "CatEveningsLaw", name := "kindOf", desc := "(LCatEvenings;I[J)I" } : Jvm.MethodName)) ∈ AllW := aw_t (j := 587) (by decide +kernel) (by decide +kernel)
theorem w588 : (Jvm.Cond.static ({ cls := "CatEveningsLaw", name := "kindOf", desc := "(LCatEvenings;I[J)I" } : Jvm.MethodName)) ∈ AllW := aw_t (j := 588) (by decide +kernel) (by decide +kernel)
theorem w589 : (Jvm.Cond.codeWith ({ cls := "CatEveningsLaw", name := "kindOf", desc := "(LCatEvenings;I[J)I" } : Jvm.MethodName) method_13_code (4 : Nat) (Option.some Jvm.ClassFile.FieldType.int) [((0 : Nat), (9 : Nat), (12 : Nat), (30 : Nat))]) ∈ AllW := aw_t (j := 589) (by decide +kernel) (by decide +kernel)
theorem w590 : (Jvm.Cond.methodLink "CatEveningsLaw" (49 : Nat) ({ cls := "CatEvenings", name := "kindOf", desc := "(I)I" } : Jvm.MethodName)) ∈ AllW := aw_t (j := 590) (by decide +kernel) (by decide +kernel)
theorem w591 : (Jvm.Cond.instanceMethod ({ cls := "CatEvenings", name := "kindOf", desc := "(I)I" } : Jvm.MethodName)) ∈ AllW := aw_t (j := 591) (by decide +kernel) (by decide +kernel)
theorem w592 : (Jvm.Cond.selects "CatEvenings" ({ cls := "CatEvenings", name := "kindOf", desc := "(I)I" } : Jvm.MethodName) ({ cls := "CatEvenings", name := "kindOf", desc := "(I)I" } : Jvm.MethodName)) ∈ AllW := aw_t (j := 592) (by decide +kernel) (by decide +kernel)
theorem w593 : (Jvm.Cond.code ({ cls := "CatEvenings", name := "kindOf", desc := "(I)I" } : Jvm.MethodName) prog_1_method_18_code (2 : Nat) (Option.some Jvm.ClassFile.FieldType.int)) ∈ AllW := aw_t (j := 593) (by decide +kernel) (by decide +kernel)
theorem w594 : (Jvm.Cond.methodLink "CatEveningsLaw" (151 : Nat) ({ cls := "CatEveningsLaw", name := "numberOf", desc := "(LCatEvenings;I[J)I" } : Jvm.MethodName)) ∈ AllW := aw_t (j := 594) (by decide +kernel) (by decide +kernel)
theorem w595 : (Jvm.Cond.static ({ cls := "CatEveningsLaw", name := "numberOf", desc := "(LCatEvenings;I[J)I" } : Jvm.MethodName)) ∈ AllW := aw_t (j := 595) (by decide +kernel) (by decide +kernel)
theorem w596 : (Jvm.Cond.codeWith ({ cls := "CatEveningsLaw", name := "numberOf", desc := "(LCatEvenings;I[J)I" } : Jvm.MethodName) method_14_code (4 : Nat) (Option.some Jvm.ClassFile.FieldType.int) [((0 : Nat), (9 : Nat), (12 : Nat), (30 : Nat))]) ∈ AllW := aw_t (j := 596) (by decide +kernel) (by decide +kernel)
theorem w597 : (Jvm.Cond.methodLink "CatEveningsLaw" (52 : Nat) ({ cls := "CatEvenings", name := "numberOf", desc := "(I)I" } : Jvm.MethodName)) ∈ AllW := aw_t (j := 597) (by decide +kernel) (by decide +kernel)
theorem w598 : (Jvm.Cond.instanceMethod ({ cls := "CatEvenings", name := "numberOf", desc := "(I)I" } : Jvm.MethodName)) ∈ AllW := aw_t (j := 598) (by decide +kernel) (by decide +kernel)
theorem w599 : (Jvm.Cond.selects "CatEvenings" ({ cls := "CatEvenings", name := "numberOf", desc := "(I)I" } : Jvm.MethodName) ({ cls := "CatEvenings", name := "numberOf", desc := "(I)I" } : Jvm.MethodName)) ∈ AllW := aw_t (j := 599) (by decide +kernel) (by decide +kernel)
theorem w600 : (Jvm.Cond.code ({ cls := "CatEvenings", name := "numberOf", desc := "(I)I" } : Jvm.MethodName) prog_1_method_19_code (2 : Nat) (Option.some Jvm.ClassFile.FieldType.int)) ∈ AllW := aw_t (j := 600) (by decide +kernel) (by decide +kernel)
theorem w601 : (Jvm.Cond.methodLink "CatEveningsLaw" (154 : Nat) ({ cls := "CatEveningsLaw", name := "depthOf", desc := "(LCatEvenings;I[J)I" } : Jvm.MethodName)) ∈ AllW := aw_t (j := 601) (by decide +kernel) (by decide +kernel)
theorem w602 : (Jvm.Cond.static ({ cls := "CatEveningsLaw", name := "depthOf", desc := "(LCatEvenings;I[J)I" } : Jvm.MethodName)) ∈ AllW := aw_t (j := 602) (by decide +kernel) (by decide +kernel)
theorem w603 : (Jvm.Cond.codeWith ({ cls := "CatEveningsLaw", name := "depthOf", desc := "(LCatEvenings;I[J)I" } : Jvm.MethodName) method_15_code (4 : Nat) (Option.some Jvm.ClassFile.FieldType.int) [((0 : Nat), (9 : Nat), (12 : Nat), (30 : Nat))]) ∈ AllW := aw_t (j := 603) (by decide +kernel) (by decide +kernel)
theorem w604 : (Jvm.Cond.methodLink "CatEveningsLaw" (55 : Nat) ({ cls := "CatEvenings", name := "depthOf", desc := "(I)I" } : Jvm.MethodName)) ∈ AllW := aw_t (j := 604) (by decide +kernel) (by decide +kernel)
theorem w605 : (Jvm.Cond.instanceMethod ({ cls := "CatEvenings", name := "depthOf", desc := "(I)I" } : Jvm.MethodName)) ∈ AllW := aw_t (j := 605) (by decide +kernel) (by decide +kernel)
theorem w606 : (Jvm.Cond.selects "CatEvenings" ({ cls := "CatEvenings", name := "depthOf", desc := "(I)I" } : Jvm.MethodName) ({ cls := "CatEvenings", name := "depthOf", desc := "(I)I" } : Jvm.MethodName)) ∈ AllW := aw_t (j := 606) (by decide +kernel) (by decide +kernel)
theorem w607 : (Jvm.Cond.code ({ cls := "CatEvenings", name := "depthOf", desc := "(I)I" } : Jvm.MethodName) prog_1_method_20_code (2 : Nat) (Option.some Jvm.ClassFile.FieldType.int)) ∈ AllW := aw_t (j := 607) (by decide +kernel) (by decide +kernel)
theorem w608 : (Jvm.Cond.methodLink "CatEveningsLaw" (157 : Nat) ({ cls := "CatEveningsLaw", name := "branches", desc := "(LCatEvenings;I[J)I" } : Jvm.MethodName)) ∈ AllW := aw_t (j := 608) (by decide +kernel) (by decide +kernel)
theorem w609 : (Jvm.Cond.static ({ cls := "CatEveningsLaw", name := "branches", desc := "(LCatEvenings;I[J)I" } : Jvm.MethodName)) ∈ AllW := aw_t (j := 609) (by decide +kernel) (by decide +kernel)
theorem w610 : (Jvm.Cond.codeWith ({ cls := "CatEveningsLaw", name := "branches", desc := "(LCatEvenings;I[J)I" } : Jvm.MethodName) method_16_code (4 : Nat) (Option.some Jvm.ClassFile.FieldType.int) [((0 : Nat), (9 : Nat), (12 : Nat), (30 : Nat))]) ∈ AllW := aw_t (j := 610) (by decide +kernel) (by decide +kernel)
theorem w611 : (Jvm.Cond.methodLink "CatEveningsLaw" (58 : Nat) ({ cls := "CatEvenings", name := "branches", desc := "(I)I" } : Jvm.MethodName)) ∈ AllW := aw_t (j := 611) (by decide +kernel) (by decide +kernel)
theorem w612 : (Jvm.Cond.instanceMethod ({ cls := "CatEvenings", name := "branches", desc := "(I)I" } : Jvm.MethodName)) ∈ AllW := aw_t (j := 612) (by decide +kernel) (by decide +kernel)
theorem w613 : (Jvm.Cond.selects "CatEvenings" ({ cls := "CatEvenings", name := "branches", desc := "(I)I" } : Jvm.MethodName) ({ cls := "CatEvenings", name := "branches", desc := "(I)I" } : Jvm.MethodName)) ∈ AllW := aw_t (j := 613) (by decide +kernel) (by decide +kernel)
theorem w614 : (Jvm.Cond.code ({ cls := "CatEvenings", name := "branches", desc := "(I)I" } : Jvm.MethodName) prog_1_method_21_code (2 : Nat) (Option.some Jvm.ClassFile.FieldType.int)) ∈ AllW := aw_t (j := 614) (by decide +kernel) (by decide +kernel)
theorem w615 : (Jvm.Cond.methodLink "CatEveningsLaw" (160 : Nat) ({ cls := "CatEveningsLaw", name := "behind", desc := "(LCatEvenings;I[J)I" } : Jvm.MethodName)) ∈ AllW := aw_t (j := 615) (by decide +kernel) (by decide +kernel)
theorem w616 : (Jvm.Cond.static ({ cls := "CatEveningsLaw", name := "behind", desc := "(LCatEvenings;I[J)I" } : Jvm.MethodName)) ∈ AllW := aw_t (j := 616) (by decide +kernel) (by decide +kernel)
theorem w617 : (Jvm.Cond.codeWith ({ cls := "CatEveningsLaw", name := "behind", desc := "(LCatEvenings;I[J)I" } : Jvm.MethodName) method_17_code (4 : Nat) (Option.some Jvm.ClassFile.FieldType.int) [((0 : Nat), (9 : Nat), (12 : Nat), (30 : Nat))]) ∈ AllW := aw_t (j := 617) (by decide +kernel) (by decide +kernel)
theorem w618 : (Jvm.Cond.methodLink "CatEveningsLaw" (61 : Nat) ({ cls := "CatEvenings", name := "behind", desc := "(I)I" } : Jvm.MethodName)) ∈ AllW := aw_t (j := 618) (by decide +kernel) (by decide +kernel)
theorem w619 : (Jvm.Cond.instanceMethod ({ cls := "CatEvenings", name := "behind", desc := "(I)I" } : Jvm.MethodName)) ∈ AllW := aw_t (j := 619) (by decide +kernel) (by decide +kernel)
theorem w620 : (Jvm.Cond.selects "CatEvenings" ({ cls := "CatEvenings", name := "behind", desc := "(I)I" } : Jvm.MethodName) ({ cls := "CatEvenings", name := "behind", desc := "(I)I" } : Jvm.MethodName)) ∈ AllW := aw_t (j := 620) (by decide +kernel) (by decide +kernel)
theorem w621 : (Jvm.Cond.code ({ cls := "CatEvenings", name := "behind", desc := "(I)I" } : Jvm.MethodName) prog_1_method_22_code (2 : Nat) (Option.some Jvm.ClassFile.FieldType.int)) ∈ AllW := aw_t (j := 621) (by decide +kernel) (by decide +kernel)
theorem w622 : (Jvm.Cond.methodLink "CatEveningsLaw" (163 : Nat) ({ cls := "CatEveningsLaw", name := "again", desc := "(LCatEvenings;I[J)I" } : Jvm.MethodName)) ∈ AllW := aw_t (j := 622) (by decide +kernel) (by decide +kernel)
theorem w623 : (Jvm.Cond.static ({ cls := "CatEveningsLaw", name := "again", desc := "(LCatEvenings;I[J)I" } : Jvm.MethodName)) ∈ AllW := aw_t (j := 623) (by decide +kernel) (by decide +kernel)
theorem w624 : (Jvm.Cond.codeWith ({ cls := "CatEveningsLaw", name := "again", desc := "(LCatEvenings;I[J)I" } : Jvm.MethodName) method_18_code (4 : Nat) (Option.some Jvm.ClassFile.FieldType.int) [((0 : Nat), (9 : Nat), (12 : Nat), (30 : Nat))]) ∈ AllW := aw_t (j := 624) (by decide +kernel) (by decide +kernel)
theorem w625 : (Jvm.Cond.methodLink "CatEveningsLaw" (64 : Nat) ({ cls := "CatEvenings", name := "again", desc := "(I)I" } : Jvm.MethodName)) ∈ AllW := aw_t (j := 625) (by decide +kernel) (by decide +kernel)
theorem w626 : (Jvm.Cond.instanceMethod ({ cls := "CatEvenings", name := "again", desc := "(I)I" } : Jvm.MethodName)) ∈ AllW := aw_t (j := 626) (by decide +kernel) (by decide +kernel)
theorem w627 : (Jvm.Cond.selects "CatEvenings" ({ cls := "CatEvenings", name := "again", desc := "(I)I" } : Jvm.MethodName) ({ cls := "CatEvenings", name := "again", desc := "(I)I" } : Jvm.MethodName)) ∈ AllW := aw_t (j := 627) (by decide +kernel) (by decide +kernel)
theorem w628 : (Jvm.Cond.code ({ cls := "CatEvenings", name := "again", desc := "(I)I" } : Jvm.MethodName) prog_1_method_23_code (2 : Nat) (Option.some Jvm.ClassFile.FieldType.int)) ∈ AllW := aw_t (j := 628) (by decide +kernel) (by decide +kernel)
theorem w629 : (Jvm.Cond.methodLink "CatEveningsLaw" (166 : Nat) ({ cls := "CatEveningsLaw", name := "meet", desc := "(LCatEvenings;II[J)I" } : Jvm.MethodName)) ∈ AllW := aw_t (j := 629) (by decide +kernel) (by decide +kernel)
theorem w630 : (Jvm.Cond.static ({ cls := "CatEveningsLaw", name := "meet", desc := "(LCatEvenings;II[J)I" } : Jvm.MethodName)) ∈ AllW := aw_t (j := 630) (by decide +kernel) (by decide +kernel)
theorem w631 : (Jvm.Cond.codeWith ({ cls := "CatEveningsLaw", name := "meet", desc := "(LCatEvenings;II[J)I" } : Jvm.MethodName) method_19_code (5 : Nat) (Option.some Jvm.ClassFile.FieldType.int) [((0 : Nat), (10 : Nat), (13 : Nat), (30 : Nat))]) ∈ AllW := aw_t (j := 631) (by decide +kernel) (by decide +kernel)
theorem w632 : (Jvm.Cond.methodLink "CatEveningsLaw" (67 : Nat) ({ cls := "CatEvenings", name := "meet", desc := "(II)I" } : Jvm.MethodName)) ∈ AllW := aw_t (j := 632) (by decide +kernel) (by decide +kernel)
theorem w633 : (Jvm.Cond.instanceMethod ({ cls := "CatEvenings", name := "meet", desc := "(II)I" } : Jvm.MethodName)) ∈ AllW := aw_t (j := 633) (by decide +kernel) (by decide +kernel)
theorem w634 : (Jvm.Cond.selects "CatEvenings" ({ cls := "CatEvenings", name := "meet", desc := "(II)I" } : Jvm.MethodName) ({ cls := "CatEvenings", name := "meet", desc := "(II)I" } : Jvm.MethodName)) ∈ AllW := aw_t (j := 634) (by decide +kernel) (by decide +kernel)
theorem w635 : (Jvm.Cond.code ({ cls := "CatEvenings", name := "meet", desc := "(II)I" } : Jvm.MethodName) prog_1_method_24_code (3 : Nat) (Option.some Jvm.ClassFile.FieldType.int)) ∈ AllW := aw_t (j := 635) (by decide +kernel) (by decide +kernel)
theorem w636 : (Jvm.Cond.methodLink "CatEveningsLaw" (169 : Nat) ({ cls := "CatEveningsLaw", name := "apart", desc := "(LCatEvenings;II[J)I" } : Jvm.MethodName)) ∈ AllW := aw_t (j := 636) (by decide +kernel) (by decide +kernel)
theorem w637 : (Jvm.Cond.static ({ cls := "CatEveningsLaw", name := "apart", desc := "(LCatEvenings;II[J)I" } : Jvm.MethodName)) ∈ AllW := aw_t (j := 637) (by decide +kernel) (by decide +kernel)
theorem w638 : (Jvm.Cond.codeWith ({ cls := "CatEveningsLaw", name := "apart", desc := "(LCatEvenings;II[J)I" } : Jvm.MethodName) method_20_code (5 : Nat) (Option.some Jvm.ClassFile.FieldType.int) [((0 : Nat), (10 : Nat), (13 : Nat), (30 : Nat))]) ∈ AllW := aw_t (j := 638) (by decide +kernel) (by decide +kernel)
theorem w639 : (Jvm.Cond.methodLink "CatEveningsLaw" (70 : Nat) ({ cls := "CatEvenings", name := "apart", desc := "(II)I" } : Jvm.MethodName)) ∈ AllW := aw_t (j := 639) (by decide +kernel) (by decide +kernel)
theorem w640 : (Jvm.Cond.instanceMethod ({ cls := "CatEvenings", name := "apart", desc := "(II)I" } : Jvm.MethodName)) ∈ AllW := aw_t (j := 640) (by decide +kernel) (by decide +kernel)
theorem w641 : (Jvm.Cond.selects "CatEvenings" ({ cls := "CatEvenings", name := "apart", desc := "(II)I" } : Jvm.MethodName) ({ cls := "CatEvenings", name := "apart", desc := "(II)I" } : Jvm.MethodName)) ∈ AllW := aw_t (j := 641) (by decide +kernel) (by decide +kernel)
theorem w642 : (Jvm.Cond.code ({ cls := "CatEvenings", name := "apart", desc := "(II)I" } : Jvm.MethodName) prog_1_method_25_code (3 : Nat) (Option.some Jvm.ClassFile.FieldType.int)) ∈ AllW := aw_t (j := 642) (by decide +kernel) (by decide +kernel)
theorem w643 : (Jvm.Cond.methodLink "CatEveningsLaw" (176 : Nat) ({ cls := "CatEveningsLaw", name := "placeIn", desc := "(LCatEvenings;II[J)I" } : Jvm.MethodName)) ∈ AllW := aw_t (j := 643) (by decide +kernel) (by decide +kernel)
theorem w644 : (Jvm.Cond.static ({ cls := "CatEveningsLaw", name := "placeIn", desc := "(LCatEvenings;II[J)I" } : Jvm.MethodName)) ∈ AllW := aw_t (j := 644) (by decide +kernel) (by decide +kernel)
theorem w645 : (Jvm.Cond.codeWith ({ cls := "CatEveningsLaw", name := "placeIn", desc := "(LCatEvenings;II[J)I" } : Jvm.MethodName) method_21_code (5 : Nat) (Option.some Jvm.ClassFile.FieldType.int) [((0 : Nat), (10 : Nat), (13 : Nat), (30 : Nat))]) ∈ AllW := aw_t (j := 645) (by decide +kernel) (by decide +kernel)
theorem w646 : (Jvm.Cond.methodLink "CatEveningsLaw" (73 : Nat) ({ cls := "CatEvenings", name := "placeIn", desc := "(II)I" } : Jvm.MethodName)) ∈ AllW := aw_t (j := 646) (by decide +kernel) (by decide +kernel)
theorem w647 : (Jvm.Cond.instanceMethod ({ cls := "CatEvenings", name := "placeIn", desc := "(II)I" } : Jvm.MethodName)) ∈ AllW := aw_t (j := 647) (by decide +kernel) (by decide +kernel)
theorem w648 : (Jvm.Cond.selects "CatEvenings" ({ cls := "CatEvenings", name := "placeIn", desc := "(II)I" } : Jvm.MethodName) ({ cls := "CatEvenings", name := "placeIn", desc := "(II)I" } : Jvm.MethodName)) ∈ AllW := aw_t (j := 648) (by decide +kernel) (by decide +kernel)
theorem w649 : (Jvm.Cond.code ({ cls := "CatEvenings", name := "placeIn", desc := "(II)I" } : Jvm.MethodName) prog_1_method_27_code (5 : Nat) (Option.some Jvm.ClassFile.FieldType.int)) ∈ AllW := aw_t (j := 649) (by decide +kernel) (by decide +kernel)
theorem w650 : (Jvm.Cond.methodLink "CatEveningsLaw" (179 : Nat) ({ cls := "CatEveningsLaw", name := "lyingIn", desc := "(LCatEvenings;I[J)I" } : Jvm.MethodName)) ∈ AllW := aw_t (j := 650) (by decide +kernel) (by decide +kernel)
theorem w651 : (Jvm.Cond.static ({ cls := "CatEveningsLaw", name := "lyingIn", desc := "(LCatEvenings;I[J)I" } : Jvm.MethodName)) ∈ AllW := aw_t (j := 651) (by decide +kernel) (by decide +kernel)
theorem w652 : (Jvm.Cond.codeWith ({ cls := "CatEveningsLaw", name := "lyingIn", desc := "(LCatEvenings;I[J)I" } : Jvm.MethodName) method_22_code (4 : Nat) (Option.some Jvm.ClassFile.FieldType.int) [((0 : Nat), (9 : Nat), (12 : Nat), (30 : Nat))]) ∈ AllW := aw_t (j := 652) (by decide +kernel) (by decide +kernel)
theorem w653 : (Jvm.Cond.methodLink "CatEveningsLaw" (76 : Nat) ({ cls := "CatEvenings", name := "lyingIn", desc := "(I)I" } : Jvm.MethodName)) ∈ AllW := aw_t (j := 653) (by decide +kernel) (by decide +kernel)
theorem w654 : (Jvm.Cond.instanceMethod ({ cls := "CatEvenings", name := "lyingIn", desc := "(I)I" } : Jvm.MethodName)) ∈ AllW := aw_t (j := 654) (by decide +kernel) (by decide +kernel)
theorem w655 : (Jvm.Cond.selects "CatEvenings" ({ cls := "CatEvenings", name := "lyingIn", desc := "(I)I" } : Jvm.MethodName) ({ cls := "CatEvenings", name := "lyingIn", desc := "(I)I" } : Jvm.MethodName)) ∈ AllW := aw_t (j := 655) (by decide +kernel) (by decide +kernel)
theorem w656 : (Jvm.Cond.code ({ cls := "CatEvenings", name := "lyingIn", desc := "(I)I" } : Jvm.MethodName) prog_1_method_28_code (2 : Nat) (Option.some Jvm.ClassFile.FieldType.int)) ∈ AllW := aw_t (j := 656) (by decide +kernel) (by decide +kernel)
theorem w657 : (Jvm.Cond.methodLink "CatEveningsLaw" (182 : Nat) ({ cls := "CatEveningsLaw", name := "areAlike", desc := "(LCatEvenings;II[J)I" } : Jvm.MethodName)) ∈ AllW := aw_t (j := 657) (by decide +kernel) (by decide +kernel)
theorem w658 : (Jvm.Cond.static ({ cls := "CatEveningsLaw", name := "areAlike", desc := "(LCatEvenings;II[J)I" } : Jvm.MethodName)) ∈ AllW := aw_t (j := 658) (by decide +kernel) (by decide +kernel)
theorem w659 : (Jvm.Cond.codeWith ({ cls := "CatEveningsLaw", name := "areAlike", desc := "(LCatEvenings;II[J)I" } : Jvm.MethodName) method_23_code (5 : Nat) (Option.some Jvm.ClassFile.FieldType.int) [((0 : Nat), (17 : Nat), (20 : Nat), (30 : Nat))]) ∈ AllW := aw_t (j := 659) (by decide +kernel) (by decide +kernel)
theorem w660 : (Jvm.Cond.methodLink "CatEveningsLaw" (79 : Nat) ({ cls := "CatEvenings", name := "areAlike", desc := "(II)Z" } : Jvm.MethodName)) ∈ AllW := aw_t (j := 660) (by decide +kernel) (by decide +kernel)
theorem w661 : (Jvm.Cond.instanceMethod ({ cls := "CatEvenings", name := "areAlike", desc := "(II)Z" } : Jvm.MethodName)) ∈ AllW := aw_t (j := 661) (by decide +kernel) (by decide +kernel)
theorem w662 : (Jvm.Cond.selects "CatEvenings" ({ cls := "CatEvenings", name := "areAlike", desc := "(II)Z" } : Jvm.MethodName) ({ cls := "CatEvenings", name := "areAlike", desc := "(II)Z" } : Jvm.MethodName)) ∈ AllW := aw_t (j := 662) (by decide +kernel) (by decide +kernel)
theorem w663 : (Jvm.Cond.code ({ cls := "CatEvenings", name := "areAlike", desc := "(II)Z" } : Jvm.MethodName) prog_1_method_29_code (5 : Nat) (Option.some Jvm.ClassFile.FieldType.boolean)) ∈ AllW := aw_t (j := 663) (by decide +kernel) (by decide +kernel)
theorem w664 : (Jvm.Cond.classLink "CatEveningsLaw" (83 : Nat) "CatEveningsModel") ∈ AllW := aw_t (j := 664) (by decide +kernel) (by decide +kernel)
theorem w665 : (Jvm.Cond.instantiable "CatEveningsModel" (11 : Nat)) ∈ AllW := aw_t (j := 665) (by decide +kernel) (by decide +kernel)
theorem w666 : (Jvm.Cond.methodLink "CatEveningsLaw" (85 : Nat) ({ cls := "CatEveningsModel", name := "<init>", desc := "()V" } : Jvm.MethodName)) ∈ AllW := aw_t (j := 666) (by decide +kernel) (by decide +kernel)
theorem w667 : (Jvm.Cond.instanceMethod ({ cls := "CatEveningsModel", name := "<init>", desc := "()V" } : Jvm.MethodName)) ∈ AllW := aw_t (j := 667) (by decide +kernel) (by decide +kernel)
theorem w668 : (Jvm.Cond.code ({ cls := "CatEveningsModel", name := "<init>", desc := "()V" } : Jvm.MethodName) prog_5_method_1_code (1 : Nat) (Option.none : Option Jvm.ClassFile.FieldType)) ∈ AllW := aw_t (j := 668) (by decide +kernel) (by decide +kernel)
theorem w669 : (Jvm.Cond.methodLink "CatEveningsModel" (3 : Nat) ({ cls := "java/lang/Object", name := "<init>", desc := "()V" } : Jvm.MethodName)) ∈ AllW := aw_t (j := 669) (by decide +kernel) (by decide +kernel)
theorem w670 : (Jvm.Cond.fieldLink "CatEveningsModel" (35 : Nat) "CatEveningsModel" "thrown" "I") ∈ AllW := aw_t (j := 670) (by decide +kernel) (by decide +kernel)
theorem w671 : (Jvm.Cond.fieldLink "CatEveningsModel" (42 : Nat) "CatEveningsModel" "pieces" "I") ∈ AllW := aw_t (j := 671) (by decide +kernel) (by decide +kernel)
theorem w672 : (Jvm.Cond.fieldLink "CatEveningsModel" (9 : Nat) "CatEveningsModel" "evenings" "I") ∈ AllW := aw_t (j := 672) (by decide +kernel) (by decide +kernel)
theorem w673 : (Jvm.Cond.fieldLink "CatEveningsModel" (45 : Nat) "CatEveningsModel" "now" "I") ∈ AllW := aw_t (j := 673) (by decide +kernel) (by decide +kernel)
theorem w674 : (Jvm.Cond.fieldLink "CatEveningsModel" (13 : Nat) "CatEveningsModel" "on" "[I") ∈ AllW := aw_t (j := 674) (by decide +kernel) (by decide +kernel)
theorem w675 : (Jvm.Cond.fieldLink "CatEveningsModel" (17 : Nat) "CatEveningsModel" "kind" "[I") ∈ AllW := aw_t (j := 675) (by decide +kernel) (by decide +kernel)
theorem w676 : (Jvm.Cond.fieldLink "CatEveningsModel" (20 : Nat) "CatEveningsModel" "number" "[I") ∈ AllW := aw_t (j := 676) (by decide +kernel) (by decide +kernel)
theorem w677 : (Jvm.Cond.fieldLink "CatEveningsModel" (23 : Nat) "CatEveningsModel" "deep" "[I") ∈ AllW := aw_t (j := 677) (by decide +kernel) (by decide +kernel)
theorem w678 : (Jvm.Cond.fieldLink "CatEveningsModel" (26 : Nat) "CatEveningsModel" "last" "[I") ∈ AllW := aw_t (j := 678) (by decide +kernel) (by decide +kernel)
theorem w679 : (Jvm.Cond.fieldLink "CatEveningsModel" (29 : Nat) "CatEveningsModel" "all" "[I") ∈ AllW := aw_t (j := 679) (by decide +kernel) (by decide +kernel)
theorem w680 : (Jvm.Cond.fieldLink "CatEveningsModel" (32 : Nat) "CatEveningsModel" "next" "[I") ∈ AllW := aw_t (j := 680) (by decide +kernel) (by decide +kernel)
theorem w704 : (Jvm.Cond.methodLink "CatEveningsLaw" (92 : Nat) ({ cls := "CatEveningsModel", name := "thrown", desc := "()I" } : Jvm.MethodName)) ∈ AllW := aw_t (j := 704) (by decide +kernel) (by decide +kernel)
theorem w705 : (Jvm.Cond.instanceMethod ({ cls := "CatEveningsModel", name := "thrown", desc := "()I" } : Jvm.MethodName)) ∈ AllW := aw_t (j := 705) (by decide +kernel) (by decide +kernel)
theorem w706 : (Jvm.Cond.selects "CatEveningsModel" ({ cls := "CatEveningsModel", name := "thrown", desc := "()I" } : Jvm.MethodName) ({ cls := "CatEveningsModel", name := "thrown", desc := "()I" } : Jvm.MethodName)) ∈ AllW := aw_t (j := 706) (by decide +kernel) (by decide +kernel)
theorem w707 : (Jvm.Cond.code ({ cls := "CatEveningsModel", name := "thrown", desc := "()I" } : Jvm.MethodName) prog_5_method_2_code (1 : Nat) (Option.some Jvm.ClassFile.FieldType.int)) ∈ AllW := aw_t (j := 707) (by decide +kernel) (by decide +kernel)
theorem w708 : (Jvm.Cond.methodLink "CatEveningsLaw" (91 : Nat) ({ cls := "CatEveningsModel", name := "setPiece", desc := "(II)I" } : Jvm.MethodName)) ∈ AllW := aw_t (j := 708) (by decide +kernel) (by decide +kernel)
theorem w709 : (Jvm.Cond.instanceMethod ({ cls := "CatEveningsModel", name := "setPiece", desc := "(II)I" } : Jvm.MethodName)) ∈ AllW := aw_t (j := 709) (by decide +kernel) (by decide +kernel)
theorem w710 : (Jvm.Cond.selects "CatEveningsModel" ({ cls := "CatEveningsModel", name := "setPiece", desc := "(II)I" } : Jvm.MethodName) ({ cls := "CatEveningsModel", name := "setPiece", desc := "(II)I" } : Jvm.MethodName)) ∈ AllW := aw_t (j := 710) (by decide +kernel) (by decide +kernel)
theorem w711 : (Jvm.Cond.code ({ cls := "CatEveningsModel", name := "setPiece", desc := "(II)I" } : Jvm.MethodName) prog_5_method_22_code (4 : Nat) (Option.some Jvm.ClassFile.FieldType.int)) ∈ AllW := aw_t (j := 711) (by decide +kernel) (by decide +kernel)
theorem w712 : (Jvm.Cond.methodLink "CatEveningsModel" (58 : Nat) ({ cls := "CatEveningsModel", name := "isOn", desc := "(I)Z" } : Jvm.MethodName)) ∈ AllW := aw_t (j := 712) (by decide +kernel) (by decide +kernel)
theorem w713 : (Jvm.Cond.static ({ cls := "CatEveningsModel", name := "isOn", desc := "(I)Z" } : Jvm.MethodName)) ∈ AllW := aw_t (j := 713) (by decide +kernel) (by decide +kernel)
theorem w714 : (Jvm.Cond.code ({ cls := "CatEveningsModel", name := "isOn", desc := "(I)Z" } : Jvm.MethodName) prog_5_method_9_code (1 : Nat) (Option.some Jvm.ClassFile.FieldType.boolean)) ∈ AllW := aw_t (j := 714) (by decide +kernel) (by decide +kernel)
theorem w715 : (Jvm.Cond.methodLink "CatEveningsModel" (38 : Nat) ({ cls := "CatEveningsModel", name := "isIn", desc := "(III)Z" } : Jvm.MethodName)) ∈ AllW := aw_t (j := 715) (by decide +kernel) (by decide +kernel)
theorem w716 : (Jvm.Cond.static ({ cls := "CatEveningsModel", name := "isIn", desc := "(III)Z" } : Jvm.MethodName)) ∈ AllW := aw_t (j := 716) (by decide +kernel) (by decide +kernel)
theorem w717 : (Jvm.Cond.code ({ cls := "CatEveningsModel", name := "isIn", desc := "(III)Z" } : Jvm.MethodName) prog_5_method_6_code (3 : Nat) (Option.some Jvm.ClassFile.FieldType.boolean)) ∈ AllW := aw_t (j := 717) (by decide +kernel) (by decide +kernel)
theorem w718 : (Jvm.Cond.methodLink "CatEveningsModel" (101 : Nat) ({ cls := "CatEveningsModel", name := "no", desc := "(I)I" } : Jvm.MethodName)) ∈ AllW := aw_t (j := 718) (by decide +kernel) (by decide +kernel)
theorem w720 : (Jvm.Cond.instanceMethod ({ cls := "CatEveningsModel", name := "no", desc := "(I)I" } : Jvm.MethodName)) ∈ AllW := aw_t (j := 720) (by decide +kernel) (by decide +kernel)
theorem w721 : (Jvm.Cond.code ({ cls := "CatEveningsModel", name := "no", desc := "(I)I" } : Jvm.MethodName) prog_5_method_3_code (2 : Nat) (Option.some Jvm.ClassFile.FieldType.int)) ∈ AllW := aw_t (j := 721) (by decide +kernel) (by decide +kernel)
theorem w722 : (Jvm.Cond.methodLink "CatEveningsModel" (82 : Nat) ({ cls := "CatEveningsModel", name := "pieceOn", desc := "(I)I" } : Jvm.MethodName)) ∈ AllW := aw_t (j := 722) (by decide +kernel) (by decide +kernel)
theorem w724 : (Jvm.Cond.instanceMethod ({ cls := "CatEveningsModel", name := "pieceOn", desc := "(I)I" } : Jvm.MethodName)) ∈ AllW := aw_t (j := 724) (by decide +kernel) (by decide +kernel)
theorem w725 : (Jvm.Cond.code ({ cls := "CatEveningsModel", name := "pieceOn", desc := "(I)I" } : Jvm.MethodName) prog_5_method_14_code (3 : Nat) (Option.some Jvm.ClassFile.FieldType.int)) ∈ AllW := aw_t (j := 725) (by decide +kernel) (by decide +kernel)
theorem w726 : (Jvm.Cond.methodLink "CatEveningsModel" (52 : Nat) ({ cls := "CatEveningsModel", name := "piece", desc := "(II)I" } : Jvm.MethodName)) ∈ AllW := aw_t (j := 726) (by decide +kernel) (by decide +kernel)
theorem w728 : (Jvm.Cond.instanceMethod ({ cls := "CatEveningsModel", name := "piece", desc := "(II)I" } : Jvm.MethodName)) ∈ AllW := aw_t (j := 728) (by decide +kernel) (by decide +kernel)
theorem w729 : (Jvm.Cond.code ({ cls := "CatEveningsModel", name := "piece", desc := "(II)I" } : Jvm.MethodName) prog_5_method_13_code (3 : Nat) (Option.some Jvm.ClassFile.FieldType.int)) ∈ AllW := aw_t (j := 729) (by decide +kernel) (by decide +kernel)
theorem w730 : (Jvm.Cond.methodLink "CatEveningsModel" (48 : Nat) ({ cls := "CatEveningsModel", name := "at", desc := "(II)I" } : Jvm.MethodName)) ∈ AllW := aw_t (j := 730) (by decide +kernel) (by decide +kernel)
theorem w732 : (Jvm.Cond.instanceMethod ({ cls := "CatEveningsModel", name := "at", desc := "(II)I" } : Jvm.MethodName)) ∈ AllW := aw_t (j := 732) (by decide +kernel) (by decide +kernel)
theorem w733 : (Jvm.Cond.code ({ cls := "CatEveningsModel", name := "at", desc := "(II)I" } : Jvm.MethodName) prog_5_method_11_code (3 : Nat) (Option.some Jvm.ClassFile.FieldType.int)) ∈ AllW := aw_t (j := 733) (by decide +kernel) (by decide +kernel)
theorem w734 : (Jvm.Cond.methodLink "CatEveningsLaw" (98 : Nat) ({ cls := "CatEveningsModel", name := "paw", desc := "(II)I" } : Jvm.MethodName)) ∈ AllW := aw_t (j := 734) (by decide +kernel) (by decide +kernel)
theorem w735 : (Jvm.Cond.instanceMethod ({ cls := "CatEveningsModel", name := "paw", desc := "(II)I" } : Jvm.MethodName)) ∈ AllW := aw_t (j := 735) (by decide +kernel) (by decide +kernel)
theorem w736 : (Jvm.Cond.selects "CatEveningsModel" ({ cls := "CatEveningsModel", name := "paw", desc := "(II)I" } : Jvm.MethodName) ({ cls := "CatEveningsModel", name := "paw", desc := "(II)I" } : Jvm.MethodName)) ∈ AllW := aw_t (j := 736) (by decide +kernel) (by decide +kernel)
theorem w737 : (Jvm.Cond.code ({ cls := "CatEveningsModel", name := "paw", desc := "(II)I" } : Jvm.MethodName) prog_5_method_23_code (3 : Nat) (Option.some Jvm.ClassFile.FieldType.int)) ∈ AllW := aw_t (j := 737) (by decide +kernel) (by decide +kernel)
theorem w738 : (Jvm.Cond.methodLink "CatEveningsModel" (104 : Nat) ({ cls := "CatEveningsModel", name := "isPaw", desc := "(II)Z" } : Jvm.MethodName)) ∈ AllW := aw_t (j := 738) (by decide +kernel) (by decide +kernel)
theorem w739 : (Jvm.Cond.static ({ cls := "CatEveningsModel", name := "isPaw", desc := "(II)Z" } : Jvm.MethodName)) ∈ AllW := aw_t (j := 739) (by decide +kernel) (by decide +kernel)
theorem w740 : (Jvm.Cond.code ({ cls := "CatEveningsModel", name := "isPaw", desc := "(II)Z" } : Jvm.MethodName) prog_5_method_10_code (2 : Nat) (Option.some Jvm.ClassFile.FieldType.boolean)) ∈ AllW := aw_t (j := 740) (by decide +kernel) (by decide +kernel)
theorem w741 : (Jvm.Cond.methodLink "CatEveningsModel" (107 : Nat) ({ cls := "CatEveningsModel", name := "does", desc := "(II)Z" } : Jvm.MethodName)) ∈ AllW := aw_t (j := 741) (by decide +kernel) (by decide +kernel)
theorem w743 : (Jvm.Cond.instanceMethod ({ cls := "CatEveningsModel", name := "does", desc := "(II)Z" } : Jvm.MethodName)) ∈ AllW := aw_t (j := 743) (by decide +kernel) (by decide +kernel)
theorem w744 : (Jvm.Cond.code ({ cls := "CatEveningsModel", name := "does", desc := "(II)Z" } : Jvm.MethodName) prog_5_method_20_code (3 : Nat) (Option.some Jvm.ClassFile.FieldType.boolean)) ∈ AllW := aw_t (j := 744) (by decide +kernel) (by decide +kernel)
theorem w745 : (Jvm.Cond.methodLink "CatEveningsModel" (85 : Nat) ({ cls := "java/lang/System", name := "arraycopy", desc := "(Ljava/lang/Object;ILjava/lang/Object;II)V" } : Jvm.MethodName)) ∈ AllW := aw_t (j := 745) (by decide +kernel) (by decide +kernel)
theorem w746 : (Jvm.Cond.methodLink "CatEveningsModel" (91 : Nat) ({ cls := "CatEveningsModel", name := "steps", desc := "(I)Z" } : Jvm.MethodName)) ∈ AllW := aw_t (j := 746) (by decide +kernel) (by decide +kernel)
theorem w748 : (Jvm.Cond.instanceMethod ({ cls := "CatEveningsModel", name := "steps", desc := "(I)Z" } : Jvm.MethodName)) ∈ AllW := aw_t (j := 748) (by decide +kernel) (by decide +kernel)
theorem w749 : (Jvm.Cond.code ({ cls := "CatEveningsModel", name := "steps", desc := "(I)Z" } : Jvm.MethodName) prog_5_method_17_code (2 : Nat) (Option.some Jvm.ClassFile.FieldType.boolean)) ∈ AllW := aw_t (j := 749) (by decide +kernel) (by decide +kernel)
theorem w750 : (Jvm.Cond.methodLink "CatEveningsModel" (68 : Nat) ({ cls := "CatEveningsModel", name := "cat", desc := "()I" } : Jvm.MethodName)) ∈ AllW := aw_t (j := 750) (by decide +kernel) (by decide +kernel)
theorem w752 : (Jvm.Cond.instanceMethod ({ cls := "CatEveningsModel", name := "cat", desc := "()I" } : Jvm.MethodName)) ∈ AllW := aw_t (j := 752) (by decide +kernel) (by decide +kernel)
theorem w753 : (Jvm.Cond.code ({ cls := "CatEveningsModel", name := "cat", desc := "()I" } : Jvm.MethodName) prog_5_method_12_code (1 : Nat) (Option.some Jvm.ClassFile.FieldType.int)) ∈ AllW := aw_t (j := 753) (by decide +kernel) (by decide +kernel)
theorem w754 : (Jvm.Cond.methodLink "CatEveningsModel" (72 : Nat) ({ cls := "CatEveningsModel", name := "farther", desc := "(II)I" } : Jvm.MethodName)) ∈ AllW := aw_t (j := 754) (by decide +kernel) (by decide +kernel)
theorem w755 : (Jvm.Cond.static ({ cls := "CatEveningsModel", name := "farther", desc := "(II)I" } : Jvm.MethodName)) ∈ AllW := aw_t (j := 755) (by decide +kernel) (by decide +kernel)
theorem w756 : (Jvm.Cond.code ({ cls := "CatEveningsModel", name := "farther", desc := "(II)I" } : Jvm.MethodName) prog_5_method_15_code (4 : Nat) (Option.some Jvm.ClassFile.FieldType.int)) ∈ AllW := aw_t (j := 756) (by decide +kernel) (by decide +kernel)
theorem w757 : (Jvm.Cond.fieldLink "CatEveningsModel" (55 : Nat) "CatEveningsModel" "ASIDE" "[I") ∈ AllW := aw_t (j := 757) (by decide +kernel) (by decide +kernel)
theorem w759 : (Jvm.Cond.methodLink "CatEveningsModel" (94 : Nat) ({ cls := "CatEveningsModel", name := "pushes", desc := "(I)Z" } : Jvm.MethodName)) ∈ AllW := aw_t (j := 759) (by decide +kernel) (by decide +kernel)
theorem w761 : (Jvm.Cond.instanceMethod ({ cls := "CatEveningsModel", name := "pushes", desc := "(I)Z" } : Jvm.MethodName)) ∈ AllW := aw_t (j := 761) (by decide +kernel) (by decide +kernel)
theorem w762 : (Jvm.Cond.code ({ cls := "CatEveningsModel", name := "pushes", desc := "(I)Z" } : Jvm.MethodName) prog_5_method_19_code (5 : Nat) (Option.some Jvm.ClassFile.FieldType.boolean)) ∈ AllW := aw_t (j := 762) (by decide +kernel) (by decide +kernel)
theorem w763 : (Jvm.Cond.methodLink "CatEveningsModel" (97 : Nat) ({ cls := "CatEveningsModel", name := "turns", desc := "(IZ)Z" } : Jvm.MethodName)) ∈ AllW := aw_t (j := 763) (by decide +kernel) (by decide +kernel)
theorem w765 : (Jvm.Cond.instanceMethod ({ cls := "CatEveningsModel", name := "turns", desc := "(IZ)Z" } : Jvm.MethodName)) ∈ AllW := aw_t (j := 765) (by decide +kernel) (by decide +kernel)
theorem w766 : (Jvm.Cond.code ({ cls := "CatEveningsModel", name := "turns", desc := "(IZ)Z" } : Jvm.MethodName) prog_5_method_18_code (3 : Nat) (Option.some Jvm.ClassFile.FieldType.boolean)) ∈ AllW := aw_t (j := 766) (by decide +kernel) (by decide +kernel)
theorem w767 : (Jvm.Cond.methodLink "CatEveningsModel" (75 : Nat) ({ cls := "CatEveningsModel", name := "isPiece", desc := "(I)Z" } : Jvm.MethodName)) ∈ AllW := aw_t (j := 767) (by decide +kernel) (by decide +kernel)
theorem w769 : (Jvm.Cond.instanceMethod ({ cls := "CatEveningsModel", name := "isPiece", desc := "(I)Z" } : Jvm.MethodName)) ∈ AllW := aw_t (j := 769) (by decide +kernel) (by decide +kernel)
theorem w770 : (Jvm.Cond.code ({ cls := "CatEveningsModel", name := "isPiece", desc := "(I)Z" } : Jvm.MethodName) prog_5_method_8_code (2 : Nat) (Option.some Jvm.ClassFile.FieldType.boolean)) ∈ AllW := aw_t (j := 770) (by decide +kernel) (by decide +kernel)
theorem w771 : (Jvm.Cond.methodLink "CatEveningsModel" (78 : Nat) ({ cls := "CatEveningsModel", name := "isBeside", desc := "(II)Z" } : Jvm.MethodName)) ∈ AllW := aw_t (j := 771) (by decide +kernel) (by decide +kernel)
theorem w772 : (Jvm.Cond.static ({ cls := "CatEveningsModel", name := "isBeside", desc := "(II)Z" } : Jvm.MethodName)) ∈ AllW := aw_t (j := 772) (by decide +kernel) (by decide +kernel)
theorem w773 : (Jvm.Cond.code ({ cls := "CatEveningsModel", name := "isBeside", desc := "(II)Z" } : Jvm.MethodName) prog_5_method_16_code (2 : Nat) (Option.some Jvm.ClassFile.FieldType.boolean)) ∈ AllW := aw_t (j := 773) (by decide +kernel) (by decide +kernel)
theorem w774 : (Jvm.Cond.methodLink "CatEveningsModel" (62 : Nat) ({ cls := "java/lang/Math", name := "abs", desc := "(I)I" } : Jvm.MethodName)) ∈ AllW := aw_t (j := 774) (by decide +kernel) (by decide +kernel)
theorem w775 : (Jvm.Cond.methodLink "CatEveningsLaw" (102 : Nat) ({ cls := "CatEveningsModel", name := "undo", desc := "(I)I" } : Jvm.MethodName)) ∈ AllW := aw_t (j := 775) (by decide +kernel) (by decide +kernel)
theorem w776 : (Jvm.Cond.instanceMethod ({ cls := "CatEveningsModel", name := "undo", desc := "(I)I" } : Jvm.MethodName)) ∈ AllW := aw_t (j := 776) (by decide +kernel) (by decide +kernel)
theorem w777 : (Jvm.Cond.selects "CatEveningsModel" ({ cls := "CatEveningsModel", name := "undo", desc := "(I)I" } : Jvm.MethodName) ({ cls := "CatEveningsModel", name := "undo", desc := "(I)I" } : Jvm.MethodName)) ∈ AllW := aw_t (j := 777) (by decide +kernel) (by decide +kernel)
theorem w778 : (Jvm.Cond.code ({ cls := "CatEveningsModel", name := "undo", desc := "(I)I" } : Jvm.MethodName) prog_5_method_24_code (3 : Nat) (Option.some Jvm.ClassFile.FieldType.int)) ∈ AllW := aw_t (j := 778) (by decide +kernel) (by decide +kernel)
theorem w779 : (Jvm.Cond.methodLink "CatEveningsLaw" (105 : Nat) ({ cls := "CatEveningsModel", name := "redo", desc := "(I)I" } : Jvm.MethodName)) ∈ AllW := aw_t (j := 779) (by decide +kernel) (by decide +kernel)
theorem w780 : (Jvm.Cond.instanceMethod ({ cls := "CatEveningsModel", name := "redo", desc := "(I)I" } : Jvm.MethodName)) ∈ AllW := aw_t (j := 780) (by decide +kernel) (by decide +kernel)
theorem w781 : (Jvm.Cond.selects "CatEveningsModel" ({ cls := "CatEveningsModel", name := "redo", desc := "(I)I" } : Jvm.MethodName) ({ cls := "CatEveningsModel", name := "redo", desc := "(I)I" } : Jvm.MethodName)) ∈ AllW := aw_t (j := 781) (by decide +kernel) (by decide +kernel)
theorem w782 : (Jvm.Cond.code ({ cls := "CatEveningsModel", name := "redo", desc := "(I)I" } : Jvm.MethodName) prog_5_method_25_code (4 : Nat) (Option.some Jvm.ClassFile.FieldType.int)) ∈ AllW := aw_t (j := 782) (by decide +kernel) (by decide +kernel)
theorem w783 : (Jvm.Cond.methodLink "CatEveningsLaw" (108 : Nat) ({ cls := "CatEveningsModel", name := "goTo", desc := "(I)I" } : Jvm.MethodName)) ∈ AllW := aw_t (j := 783) (by decide +kernel) (by decide +kernel)
theorem w784 : (Jvm.Cond.instanceMethod ({ cls := "CatEveningsModel", name := "goTo", desc := "(I)I" } : Jvm.MethodName)) ∈ AllW := aw_t (j := 784) (by decide +kernel) (by decide +kernel)
theorem w785 : (Jvm.Cond.selects "CatEveningsModel" ({ cls := "CatEveningsModel", name := "goTo", desc := "(I)I" } : Jvm.MethodName) ({ cls := "CatEveningsModel", name := "goTo", desc := "(I)I" } : Jvm.MethodName)) ∈ AllW := aw_t (j := 785) (by decide +kernel) (by decide +kernel)
theorem w786 : (Jvm.Cond.code ({ cls := "CatEveningsModel", name := "goTo", desc := "(I)I" } : Jvm.MethodName) prog_5_method_28_code (5 : Nat) (Option.some Jvm.ClassFile.FieldType.int)) ∈ AllW := aw_t (j := 786) (by decide +kernel) (by decide +kernel)
theorem w787 : (Jvm.Cond.methodLink "CatEveningsModel" (113 : Nat) ({ cls := "CatEveningsModel", name := "isEvening", desc := "(I)Z" } : Jvm.MethodName)) ∈ AllW := aw_t (j := 787) (by decide +kernel) (by decide +kernel)
theorem w789 : (Jvm.Cond.instanceMethod ({ cls := "CatEveningsModel", name := "isEvening", desc := "(I)Z" } : Jvm.MethodName)) ∈ AllW := aw_t (j := 789) (by decide +kernel) (by decide +kernel)
theorem w790 : (Jvm.Cond.code ({ cls := "CatEveningsModel", name := "isEvening", desc := "(I)Z" } : Jvm.MethodName) prog_5_method_7_code (2 : Nat) (Option.some Jvm.ClassFile.FieldType.boolean)) ∈ AllW := aw_t (j := 790) (by decide +kernel) (by decide +kernel)
theorem w791 : (Jvm.Cond.methodLink "CatEveningsModel" (116 : Nat) ({ cls := "CatEveningsModel", name := "way", desc := "(II)I" } : Jvm.MethodName)) ∈ AllW := aw_t (j := 791) (by decide +kernel) (by decide +kernel)
theorem w793 : (Jvm.Cond.instanceMethod ({ cls := "CatEveningsModel", name := "way", desc := "(II)I" } : Jvm.MethodName)) ∈ AllW := aw_t (j := 793) (by decide +kernel) (by decide +kernel)
theorem w794 : (Jvm.Cond.code ({ cls := "CatEveningsModel", name := "way", desc := "(II)I" } : Jvm.MethodName) prog_5_method_27_code (3 : Nat) (Option.some Jvm.ClassFile.FieldType.int)) ∈ AllW := aw_t (j := 794) (by decide +kernel) (by decide +kernel)
theorem w795 : (Jvm.Cond.methodLink "CatEveningsModel" (110 : Nat) ({ cls := "CatEveningsModel", name := "meeting", desc := "(II)I" } : Jvm.MethodName)) ∈ AllW := aw_t (j := 795) (by decide +kernel) (by decide +kernel)
theorem w797 : (Jvm.Cond.instanceMethod ({ cls := "CatEveningsModel", name := "meeting", desc := "(II)I" } : Jvm.MethodName)) ∈ AllW := aw_t (j := 797) (by decide +kernel) (by decide +kernel)
theorem w798 : (Jvm.Cond.code ({ cls := "CatEveningsModel", name := "meeting", desc := "(II)I" } : Jvm.MethodName) prog_5_method_26_code (5 : Nat) (Option.some Jvm.ClassFile.FieldType.int)) ∈ AllW := aw_t (j := 798) (by decide +kernel) (by decide +kernel)
theorem w799 : (Jvm.Cond.methodLink "CatEveningsLaw" (112 : Nat) ({ cls := "CatEveningsModel", name := "evening", desc := "()I" } : Jvm.MethodName)) ∈ AllW := aw_t (j := 799) (by decide +kernel) (by decide +kernel)
theorem w800 : (Jvm.Cond.instanceMethod ({ cls := "CatEveningsModel", name := "evening", desc := "()I" } : Jvm.MethodName)) ∈ AllW := aw_t (j := 800) (by decide +kernel) (by decide +kernel)
theorem w801 : (Jvm.Cond.selects "CatEveningsModel" ({ cls := "CatEveningsModel", name := "evening", desc := "()I" } : Jvm.MethodName) ({ cls := "CatEveningsModel", name := "evening", desc := "()I" } : Jvm.MethodName)) ∈ AllW := aw_t (j := 801) (by decide +kernel) (by decide +kernel)
theorem w802 : (Jvm.Cond.code ({ cls := "CatEveningsModel", name := "evening", desc := "()I" } : Jvm.MethodName) prog_5_method_29_code (1 : Nat) (Option.some Jvm.ClassFile.FieldType.int)) ∈ AllW := aw_t (j := 802) (by decide +kernel) (by decide +kernel)
theorem w803 : (Jvm.Cond.methodLink "CatEveningsModel" (119 : Nat) ({ cls := "CatEveningsModel", name := "ok", desc := "(I)I" } : Jvm.MethodName)) ∈ AllW := aw_t (j := 803) (by decide +kernel) (by decide +kernel)
theorem w805 : (Jvm.Cond.instanceMethod ({ cls := "CatEveningsModel", name := "ok", desc := "(I)I" } : Jvm.MethodName)) ∈ AllW := aw_t (j := 805) (by decide +kernel) (by decide +kernel)
theorem w806 : (Jvm.Cond.code ({ cls := "CatEveningsModel", name := "ok", desc := "(I)I" } : Jvm.MethodName) prog_5_method_5_code (2 : Nat) (Option.some Jvm.ClassFile.FieldType.int)) ∈ AllW := aw_t (j := 806) (by decide +kernel) (by decide +kernel)
theorem w807 : (Jvm.Cond.methodLink "CatEveningsLaw" (116 : Nat) ({ cls := "CatEveningsModel", name := "evenings", desc := "()I" } : Jvm.MethodName)) ∈ AllW := aw_t (j := 807) (by decide +kernel) (by decide +kernel)
theorem w808 : (Jvm.Cond.instanceMethod ({ cls := "CatEveningsModel", name := "evenings", desc := "()I" } : Jvm.MethodName)) ∈ AllW := aw_t (j := 808) (by decide +kernel) (by decide +kernel)
theorem w809 : (Jvm.Cond.selects "CatEveningsModel" ({ cls := "CatEveningsModel", name := "evenings", desc := "()I" } : Jvm.MethodName) ({ cls := "CatEveningsModel", name := "evenings", desc := "()I" } : Jvm.MethodName)) ∈ AllW := aw_t (j := 809) (by decide +kernel) (by decide +kernel)
theorem w810 : (Jvm.Cond.code ({ cls := "CatEveningsModel", name := "evenings", desc := "()I" } : Jvm.MethodName) prog_5_method_30_code (1 : Nat) (Option.some Jvm.ClassFile.FieldType.int)) ∈ AllW := aw_t (j := 810) (by decide +kernel) (by decide +kernel)
theorem w811 : (Jvm.Cond.methodLink "CatEveningsLaw" (120 : Nat) ({ cls := "CatEveningsModel", name := "pieces", desc := "()I" } : Jvm.MethodName)) ∈ AllW := aw_t (j := 811) (by decide +kernel) (by decide +kernel)
theorem w812 : (Jvm.Cond.instanceMethod ({ cls := "CatEveningsModel", name := "pieces", desc := "()I" } : Jvm.MethodName)) ∈ AllW := aw_t (j := 812) (by decide +kernel) (by decide +kernel)
theorem w813 : (Jvm.Cond.selects "CatEveningsModel" ({ cls := "CatEveningsModel", name := "pieces", desc := "()I" } : Jvm.MethodName) ({ cls := "CatEveningsModel", name := "pieces", desc := "()I" } : Jvm.MethodName)) ∈ AllW := aw_t (j := 813) (by decide +kernel) (by decide +kernel)
theorem w814 : (Jvm.Cond.code ({ cls := "CatEveningsModel", name := "pieces", desc := "()I" } : Jvm.MethodName) prog_5_method_31_code (1 : Nat) (Option.some Jvm.ClassFile.FieldType.int)) ∈ AllW := aw_t (j := 814) (by decide +kernel) (by decide +kernel)
theorem w815 : (Jvm.Cond.methodLink "CatEveningsLaw" (124 : Nat) ({ cls := "CatEveningsModel", name := "catColumn", desc := "()I" } : Jvm.MethodName)) ∈ AllW := aw_t (j := 815) (by decide +kernel) (by decide +kernel)
theorem w816 : (Jvm.Cond.instanceMethod ({ cls := "CatEveningsModel", name := "catColumn", desc := "()I" } : Jvm.MethodName)) ∈ AllW := aw_t (j := 816) (by decide +kernel) (by decide +kernel)
theorem w817 : (Jvm.Cond.selects "CatEveningsModel" ({ cls := "CatEveningsModel", name := "catColumn", desc := "()I" } : Jvm.MethodName) ({ cls := "CatEveningsModel", name := "catColumn", desc := "()I" } : Jvm.MethodName)) ∈ AllW := aw_t (j := 817) (by decide +kernel) (by decide +kernel)
theorem w818 : (Jvm.Cond.code ({ cls := "CatEveningsModel", name := "catColumn", desc := "()I" } : Jvm.MethodName) prog_5_method_32_code (1 : Nat) (Option.some Jvm.ClassFile.FieldType.int)) ∈ AllW := aw_t (j := 818) (by decide +kernel) (by decide +kernel)
theorem w819 : (Jvm.Cond.methodLink "CatEveningsLaw" (128 : Nat) ({ cls := "CatEveningsModel", name := "catRow", desc := "()I" } : Jvm.MethodName)) ∈ AllW := aw_t (j := 819) (by decide +kernel) (by decide +kernel)
theorem w820 : (Jvm.Cond.instanceMethod ({ cls := "CatEveningsModel", name := "catRow", desc := "()I" } : Jvm.MethodName)) ∈ AllW := aw_t (j := 820) (by decide +kernel) (by decide +kernel)
theorem w821 : (Jvm.Cond.selects "CatEveningsModel" ({ cls := "CatEveningsModel", name := "catRow", desc := "()I" } : Jvm.MethodName) ({ cls := "CatEveningsModel", name := "catRow", desc := "()I" } : Jvm.MethodName)) ∈ AllW := aw_t (j := 821) (by decide +kernel) (by decide +kernel)
theorem w822 : (Jvm.Cond.code ({ cls := "CatEveningsModel", name := "catRow", desc := "()I" } : Jvm.MethodName) prog_5_method_33_code (1 : Nat) (Option.some Jvm.ClassFile.FieldType.int)) ∈ AllW := aw_t (j := 822) (by decide +kernel) (by decide +kernel)
theorem w823 : (Jvm.Cond.methodLink "CatEveningsLaw" (132 : Nat) ({ cls := "CatEveningsModel", name := "lying", desc := "()I" } : Jvm.MethodName)) ∈ AllW := aw_t (j := 823) (by decide +kernel) (by decide +kernel)
theorem w824 : (Jvm.Cond.instanceMethod ({ cls := "CatEveningsModel", name := "lying", desc := "()I" } : Jvm.MethodName)) ∈ AllW := aw_t (j := 824) (by decide +kernel) (by decide +kernel)
theorem w825 : (Jvm.Cond.selects "CatEveningsModel" ({ cls := "CatEveningsModel", name := "lying", desc := "()I" } : Jvm.MethodName) ({ cls := "CatEveningsModel", name := "lying", desc := "()I" } : Jvm.MethodName)) ∈ AllW := aw_t (j := 825) (by decide +kernel) (by decide +kernel)
theorem w826 : (Jvm.Cond.code ({ cls := "CatEveningsModel", name := "lying", desc := "()I" } : Jvm.MethodName) prog_5_method_34_code (1 : Nat) (Option.some Jvm.ClassFile.FieldType.int)) ∈ AllW := aw_t (j := 826) (by decide +kernel) (by decide +kernel)
theorem w827 : (Jvm.Cond.methodLink "CatEveningsModel" (122 : Nat) ({ cls := "CatEveningsModel", name := "down", desc := "(II)I" } : Jvm.MethodName)) ∈ AllW := aw_t (j := 827) (by decide +kernel) (by decide +kernel)
theorem w829 : (Jvm.Cond.instanceMethod ({ cls := "CatEveningsModel", name := "down", desc := "(II)I" } : Jvm.MethodName)) ∈ AllW := aw_t (j := 829) (by decide +kernel) (by decide +kernel)
theorem w830 : (Jvm.Cond.code ({ cls := "CatEveningsModel", name := "down", desc := "(II)I" } : Jvm.MethodName) prog_5_method_21_code (5 : Nat) (Option.some Jvm.ClassFile.FieldType.int)) ∈ AllW := aw_t (j := 830) (by decide +kernel) (by decide +kernel)
theorem w831 : (Jvm.Cond.methodLink "CatEveningsLaw" (135 : Nat) ({ cls := "CatEveningsModel", name := "placeOf", desc := "(I)I" } : Jvm.MethodName)) ∈ AllW := aw_t (j := 831) (by decide +kernel) (by decide +kernel)
theorem w832 : (Jvm.Cond.instanceMethod ({ cls := "CatEveningsModel", name := "placeOf", desc := "(I)I" } : Jvm.MethodName)) ∈ AllW := aw_t (j := 832) (by decide +kernel) (by decide +kernel)
theorem w833 : (Jvm.Cond.selects "CatEveningsModel" ({ cls := "CatEveningsModel", name := "placeOf", desc := "(I)I" } : Jvm.MethodName) ({ cls := "CatEveningsModel", name := "placeOf", desc := "(I)I" } : Jvm.MethodName)) ∈ AllW := aw_t (j := 833) (by decide +kernel) (by decide +kernel)
theorem w834 : (Jvm.Cond.code ({ cls := "CatEveningsModel", name := "placeOf", desc := "(I)I" } : Jvm.MethodName) prog_5_method_35_code (2 : Nat) (Option.some Jvm.ClassFile.FieldType.int)) ∈ AllW := aw_t (j := 834) (by decide +kernel) (by decide +kernel)
theorem w835 : (Jvm.Cond.methodLink "CatEveningsLaw" (138 : Nat) ({ cls := "CatEveningsModel", name := "lies", desc := "(I)Z" } : Jvm.MethodName)) ∈ AllW := aw_t (j := 835) (by decide +kernel) (by decide +kernel)
theorem w836 : (Jvm.Cond.instanceMethod ({ cls := "CatEveningsModel", name := "lies", desc := "(I)Z" } : Jvm.MethodName)) ∈ AllW := aw_t (j := 836) (by decide +kernel) (by decide +kernel)
theorem w837 : (Jvm.Cond.selects "CatEveningsModel" ({ cls := "CatEveningsModel", name := "lies", desc := "(I)Z" } : Jvm.MethodName) ({ cls := "CatEveningsModel", name := "lies", desc := "(I)Z" } : Jvm.MethodName)) ∈ AllW := aw_t (j := 837) (by decide +kernel) (by decide +kernel)
theorem w838 : (Jvm.Cond.code ({ cls := "CatEveningsModel", name := "lies", desc := "(I)Z" } : Jvm.MethodName) prog_5_method_36_code (2 : Nat) (Option.some Jvm.ClassFile.FieldType.boolean)) ∈ AllW := aw_t (j := 838) (by decide +kernel) (by decide +kernel)
theorem w839 : (Jvm.Cond.methodLink "CatEveningsModel" (125 : Nat) ({ cls := "CatEveningsModel", name := "isNot", desc := "(I)Z" } : Jvm.MethodName)) ∈ AllW := aw_t (j := 839) (by decide +kernel) (by decide +kernel)
theorem w841 : (Jvm.Cond.instanceMethod ({ cls := "CatEveningsModel", name := "isNot", desc := "(I)Z" } : Jvm.MethodName)) ∈ AllW := aw_t (j := 841) (by decide +kernel) (by decide +kernel)
theorem w842 : (Jvm.Cond.code ({ cls := "CatEveningsModel", name := "isNot", desc := "(I)Z" } : Jvm.MethodName) prog_5_method_4_code (2 : Nat) (Option.some Jvm.ClassFile.FieldType.boolean)) ∈ AllW := aw_t (j := 842) (by decide +kernel) (by decide +kernel)
theorem w843 : (Jvm.Cond.methodLink "CatEveningsLaw" (141 : Nat) ({ cls := "CatEveningsModel", name := "pieceAt", desc := "(II)I" } : Jvm.MethodName)) ∈ AllW := aw_t (j := 843) (by decide +kernel) (by decide +kernel)
theorem w844 : (Jvm.Cond.instanceMethod ({ cls := "CatEveningsModel", name := "pieceAt", desc := "(II)I" } : Jvm.MethodName)) ∈ AllW := aw_t (j := 844) (by decide +kernel) (by decide +kernel)
theorem w845 : (Jvm.Cond.selects "CatEveningsModel" ({ cls := "CatEveningsModel", name := "pieceAt", desc := "(II)I" } : Jvm.MethodName) ({ cls := "CatEveningsModel", name := "pieceAt", desc := "(II)I" } : Jvm.MethodName)) ∈ AllW := aw_t (j := 845) (by decide +kernel) (by decide +kernel)
theorem w846 : (Jvm.Cond.code ({ cls := "CatEveningsModel", name := "pieceAt", desc := "(II)I" } : Jvm.MethodName) prog_5_method_37_code (3 : Nat) (Option.some Jvm.ClassFile.FieldType.int)) ∈ AllW := aw_t (j := 846) (by decide +kernel) (by decide +kernel)
theorem w847 : (Jvm.Cond.methodLink "CatEveningsLaw" (144 : Nat) ({ cls := "CatEveningsModel", name := "canDo", desc := "(II)Z" } : Jvm.MethodName)) ∈ AllW := aw_t (j := 847) (by decide +kernel) (by decide +kernel)
theorem w848 : (Jvm.Cond.instanceMethod ({ cls := "CatEveningsModel", name := "canDo", desc := "(II)Z" } : Jvm.MethodName)) ∈ AllW := aw_t (j := 848) (by decide +kernel) (by decide +kernel)
theorem w849 : (Jvm.Cond.selects "CatEveningsModel" ({ cls := "CatEveningsModel", name := "canDo", desc := "(II)Z" } : Jvm.MethodName) ({ cls := "CatEveningsModel", name := "canDo", desc := "(II)Z" } : Jvm.MethodName)) ∈ AllW := aw_t (j := 849) (by decide +kernel) (by decide +kernel)
theorem w850 : (Jvm.Cond.code ({ cls := "CatEveningsModel", name := "canDo", desc := "(II)Z" } : Jvm.MethodName) prog_5_method_38_code (3 : Nat) (Option.some Jvm.ClassFile.FieldType.boolean)) ∈ AllW := aw_t (j := 850) (by decide +kernel) (by decide +kernel)
theorem w851 : (Jvm.Cond.methodLink "CatEveningsLaw" (147 : Nat) ({ cls := "CatEveningsModel", name := "hangsOn", desc := "(I)I" } : Jvm.MethodName)) ∈ AllW := aw_t (j := 851) (by decide +kernel) (by decide +kernel)
theorem w852 : (Jvm.Cond.instanceMethod ({ cls := "CatEveningsModel", name := "hangsOn", desc := "(I)I" } : Jvm.MethodName)) ∈ AllW := aw_t (j := 852) (by decide +kernel) (by decide +kernel)
theorem w853 : (Jvm.Cond.selects "CatEveningsModel" ({ cls := "CatEveningsModel", name := "hangsOn", desc := "(I)I" } : Jvm.MethodName) ({ cls := "CatEveningsModel", name := "hangsOn", desc := "(I)I" } : Jvm.MethodName)) ∈ AllW := aw_t (j := 853) (by decide +kernel) (by decide +kernel)
theorem w854 : (Jvm.Cond.code ({ cls := "CatEveningsModel", name := "hangsOn", desc := "(I)I" } : Jvm.MethodName) prog_5_method_40_code (2 : Nat) (Option.some Jvm.ClassFile.FieldType.int)) ∈ AllW := aw_t (j := 854) (by decide +kernel) (by decide +kernel)
theorem w855 : (Jvm.Cond.methodLink "CatEveningsModel" (128 : Nat) ({ cls := "CatEveningsModel", name := "of", desc := "([II)I" } : Jvm.MethodName)) ∈ AllW := aw_t (j := 855) (by decide +kernel) (by decide +kernel)
theorem w857 : (Jvm.Cond.instanceMethod ({ cls := "CatEveningsModel", name := "of", desc := "([II)I" } : Jvm.MethodName)) ∈ AllW := aw_t (j := 857) (by decide +kernel) (by decide +kernel)
theorem w858 : (Jvm.Cond.code ({ cls := "CatEveningsModel", name := "of", desc := "([II)I" } : Jvm.MethodName) prog_5_method_39_code (3 : Nat) (Option.some Jvm.ClassFile.FieldType.int)) ∈ AllW := aw_t (j := 858) (by decide +kernel) (by decide +kernel)
theorem w859 : (Jvm.Cond.methodLink "CatEveningsLaw" (150 : Nat) ({ cls := "CatEveningsModel", name := "kindOf", desc := "(I)I" } : Jvm.MethodName)) ∈ AllW := aw_t (j := 859) (by decide +kernel) (by decide +kernel)
theorem w860 : (Jvm.Cond.instanceMethod ({ cls := "CatEveningsModel", name := "kindOf", desc := "(I)I" } : Jvm.MethodName)) ∈ AllW := aw_t (j := 860) (by decide +kernel) (by decide +kernel)
theorem w861 : (Jvm.Cond.selects "CatEveningsModel" ({ cls := "CatEveningsModel", name := "kindOf", desc := "(I)I" } : Jvm.MethodName) ({ cls := "CatEveningsModel", name := "kindOf", desc := "(I)I" } : Jvm.MethodName)) ∈ AllW := aw_t (j := 861) (by decide +kernel) (by decide +kernel)
theorem w862 : (Jvm.Cond.code ({ cls := "CatEveningsModel", name := "kindOf", desc := "(I)I" } : Jvm.MethodName) prog_5_method_41_code (2 : Nat) (Option.some Jvm.ClassFile.FieldType.int)) ∈ AllW := aw_t (j := 862) (by decide +kernel) (by decide +kernel)
theorem w863 : (Jvm.Cond.methodLink "CatEveningsLaw" (153 : Nat) ({ cls := "CatEveningsModel", name := "numberOf", desc := "(I)I" } : Jvm.MethodName)) ∈ AllW := aw_t (j := 863) (by decide +kernel) (by decide +kernel)
theorem w864 : (Jvm.Cond.instanceMethod ({ cls := "CatEveningsModel", name := "numberOf", desc := "(I)I" } : Jvm.MethodName)) ∈ AllW := aw_t (j := 864) (by decide +kernel) (by decide +kernel)
theorem w865 : (Jvm.Cond.selects "CatEveningsModel" ({ cls := "CatEveningsModel", name := "numberOf", desc := "(I)I" } : Jvm.MethodName) ({ cls := "CatEveningsModel", name := "numberOf", desc := "(I)I" } : Jvm.MethodName)) ∈ AllW := aw_t (j := 865) (by decide +kernel) (by decide +kernel)
theorem w866 : (Jvm.Cond.code ({ cls := "CatEveningsModel", name := "numberOf", desc := "(I)I" } : Jvm.MethodName) prog_5_method_42_code (2 : Nat) (Option.some Jvm.ClassFile.FieldType.int)) ∈ AllW := aw_t (j := 866) (by decide +kernel) (by decide +kernel)
theorem w867 : (Jvm.Cond.methodLink "CatEveningsLaw" (156 : Nat) ({ cls := "CatEveningsModel", name := "depthOf", desc := "(I)I" } : Jvm.MethodName)) ∈ AllW := aw_t (j := 867) (by decide +kernel) (by decide +kernel)
theorem w868 : (Jvm.Cond.instanceMethod ({ cls := "CatEveningsModel", name := "depthOf", desc := "(I)I" } : Jvm.MethodName)) ∈ AllW := aw_t (j := 868) (by decide +kernel) (by decide +kernel)
theorem w869 : (Jvm.Cond.selects "CatEveningsModel" ({ cls := "CatEveningsModel", name := "depthOf", desc := "(I)I" } : Jvm.MethodName) ({ cls := "CatEveningsModel", name := "depthOf", desc := "(I)I" } : Jvm.MethodName)) ∈ AllW := aw_t (j := 869) (by decide +kernel) (by decide +kernel)
theorem w870 : (Jvm.Cond.code ({ cls := "CatEveningsModel", name := "depthOf", desc := "(I)I" } : Jvm.MethodName) prog_5_method_43_code (2 : Nat) (Option.some Jvm.ClassFile.FieldType.int)) ∈ AllW := aw_t (j := 870) (by decide +kernel) (by decide +kernel)
theorem w871 : (Jvm.Cond.methodLink "CatEveningsLaw" (165 : Nat) ({ cls := "CatEveningsModel", name := "again", desc := "(I)I" } : Jvm.MethodName)) ∈ AllW := aw_t (j := 871) (by decide +kernel) (by decide +kernel)
theorem w872 : (Jvm.Cond.instanceMethod ({ cls := "CatEveningsModel", name := "again", desc := "(I)I" } : Jvm.MethodName)) ∈ AllW := aw_t (j := 872) (by decide +kernel) (by decide +kernel)
theorem w873 : (Jvm.Cond.selects "CatEveningsModel" ({ cls := "CatEveningsModel", name := "again", desc := "(I)I" } : Jvm.MethodName) ({ cls := "CatEveningsModel", name := "again", desc := "(I)I" } : Jvm.MethodName)) ∈ AllW := aw_t (j := 873) (by decide +kernel) (by decide +kernel)
theorem w874 : (Jvm.Cond.code ({ cls := "CatEveningsModel", name := "again", desc := "(I)I" } : Jvm.MethodName) prog_5_method_44_code (2 : Nat) (Option.some Jvm.ClassFile.FieldType.int)) ∈ AllW := aw_t (j := 874) (by decide +kernel) (by decide +kernel)
theorem w875 : (Jvm.Cond.methodLink "CatEveningsLaw" (159 : Nat) ({ cls := "CatEveningsModel", name := "branches", desc := "(I)I" } : Jvm.MethodName)) ∈ AllW := aw_t (j := 875) (by decide +kernel) (by decide +kernel)
theorem w876 : (Jvm.Cond.instanceMethod ({ cls := "CatEveningsModel", name := "branches", desc := "(I)I" } : Jvm.MethodName)) ∈ AllW := aw_t (j := 876) (by decide +kernel) (by decide +kernel)
theorem w877 : (Jvm.Cond.selects "CatEveningsModel" ({ cls := "CatEveningsModel", name := "branches", desc := "(I)I" } : Jvm.MethodName) ({ cls := "CatEveningsModel", name := "branches", desc := "(I)I" } : Jvm.MethodName)) ∈ AllW := aw_t (j := 877) (by decide +kernel) (by decide +kernel)
theorem w878 : (Jvm.Cond.code ({ cls := "CatEveningsModel", name := "branches", desc := "(I)I" } : Jvm.MethodName) prog_5_method_46_code (2 : Nat) (Option.some Jvm.ClassFile.FieldType.int)) ∈ AllW := aw_t (j := 878) (by decide +kernel) (by decide +kernel)
theorem w879 : (Jvm.Cond.methodLink "CatEveningsModel" (132 : Nat) ({ cls := "CatEveningsModel", name := "below", desc := "(I)I" } : Jvm.MethodName)) ∈ AllW := aw_t (j := 879) (by decide +kernel) (by decide +kernel)
theorem w881 : (Jvm.Cond.instanceMethod ({ cls := "CatEveningsModel", name := "below", desc := "(I)I" } : Jvm.MethodName)) ∈ AllW := aw_t (j := 881) (by decide +kernel) (by decide +kernel)
theorem w882 : (Jvm.Cond.code ({ cls := "CatEveningsModel", name := "below", desc := "(I)I" } : Jvm.MethodName) prog_5_method_45_code (4 : Nat) (Option.some Jvm.ClassFile.FieldType.int)) ∈ AllW := aw_t (j := 882) (by decide +kernel) (by decide +kernel)
theorem w883 : (Jvm.Cond.methodLink "CatEveningsLaw" (162 : Nat) ({ cls := "CatEveningsModel", name := "behind", desc := "(I)I" } : Jvm.MethodName)) ∈ AllW := aw_t (j := 883) (by decide +kernel) (by decide +kernel)
theorem w884 : (Jvm.Cond.instanceMethod ({ cls := "CatEveningsModel", name := "behind", desc := "(I)I" } : Jvm.MethodName)) ∈ AllW := aw_t (j := 884) (by decide +kernel) (by decide +kernel)
theorem w885 : (Jvm.Cond.selects "CatEveningsModel" ({ cls := "CatEveningsModel", name := "behind", desc := "(I)I" } : Jvm.MethodName) ({ cls := "CatEveningsModel", name := "behind", desc := "(I)I" } : Jvm.MethodName)) ∈ AllW := aw_t (j := 885) (by decide +kernel) (by decide +kernel)
theorem w886 : (Jvm.Cond.code ({ cls := "CatEveningsModel", name := "behind", desc := "(I)I" } : Jvm.MethodName) prog_5_method_48_code (2 : Nat) (Option.some Jvm.ClassFile.FieldType.int)) ∈ AllW := aw_t (j := 886) (by decide +kernel) (by decide +kernel)
theorem w887 : (Jvm.Cond.methodLink "CatEveningsModel" (135 : Nat) ({ cls := "CatEveningsModel", name := "allBelow", desc := "(I)I" } : Jvm.MethodName)) ∈ AllW := aw_t (j := 887) (by decide +kernel) (by decide +kernel)
theorem w889 : (Jvm.Cond.instanceMethod ({ cls := "CatEveningsModel", name := "allBelow", desc := "(I)I" } : Jvm.MethodName)) ∈ AllW := aw_t (j := 889) (by decide +kernel) (by decide +kernel)
theorem w890 : (Jvm.Cond.code ({ cls := "CatEveningsModel", name := "allBelow", desc := "(I)I" } : Jvm.MethodName) prog_5_method_47_code (4 : Nat) (Option.some Jvm.ClassFile.FieldType.int)) ∈ AllW := aw_t (j := 890) (by decide +kernel) (by decide +kernel)
theorem w891 : (Jvm.Cond.methodLink "CatEveningsLaw" (168 : Nat) ({ cls := "CatEveningsModel", name := "meet", desc := "(II)I" } : Jvm.MethodName)) ∈ AllW := aw_t (j := 891) (by decide +kernel) (by decide +kernel)
theorem w892 : (Jvm.Cond.instanceMethod ({ cls := "CatEveningsModel", name := "meet", desc := "(II)I" } : Jvm.MethodName)) ∈ AllW := aw_t (j := 892) (by decide +kernel) (by decide +kernel)
theorem w893 : (Jvm.Cond.selects "CatEveningsModel" ({ cls := "CatEveningsModel", name := "meet", desc := "(II)I" } : Jvm.MethodName) ({ cls := "CatEveningsModel", name := "meet", desc := "(II)I" } : Jvm.MethodName)) ∈ AllW := aw_t (j := 893) (by decide +kernel) (by decide +kernel)
theorem w894 : (Jvm.Cond.code ({ cls := "CatEveningsModel", name := "meet", desc := "(II)I" } : Jvm.MethodName) prog_5_method_49_code (3 : Nat) (Option.some Jvm.ClassFile.FieldType.int)) ∈ AllW := aw_t (j := 894) (by decide +kernel) (by decide +kernel)
theorem w895 : (Jvm.Cond.methodLink "CatEveningsLaw" (171 : Nat) ({ cls := "CatEveningsModel", name := "apart", desc := "(II)I" } : Jvm.MethodName)) ∈ AllW := aw_t (j := 895) (by decide +kernel) (by decide +kernel)
theorem w896 : (Jvm.Cond.instanceMethod ({ cls := "CatEveningsModel", name := "apart", desc := "(II)I" } : Jvm.MethodName)) ∈ AllW := aw_t (j := 896) (by decide +kernel) (by decide +kernel)
theorem w897 : (Jvm.Cond.selects "CatEveningsModel" ({ cls := "CatEveningsModel", name := "apart", desc := "(II)I" } : Jvm.MethodName) ({ cls := "CatEveningsModel", name := "apart", desc := "(II)I" } : Jvm.MethodName)) ∈ AllW := aw_t (j := 897) (by decide +kernel) (by decide +kernel)
theorem w898 : (Jvm.Cond.code ({ cls := "CatEveningsModel", name := "apart", desc := "(II)I" } : Jvm.MethodName) prog_5_method_50_code (3 : Nat) (Option.some Jvm.ClassFile.FieldType.int)) ∈ AllW := aw_t (j := 898) (by decide +kernel) (by decide +kernel)
theorem w899 : (Jvm.Cond.methodLink "CatEveningsLaw" (175 : Nat) ({ cls := "CatEveningsModel", name := "ends", desc := "()I" } : Jvm.MethodName)) ∈ AllW := aw_t (j := 899) (by decide +kernel) (by decide +kernel)
theorem w900 : (Jvm.Cond.instanceMethod ({ cls := "CatEveningsModel", name := "ends", desc := "()I" } : Jvm.MethodName)) ∈ AllW := aw_t (j := 900) (by decide +kernel) (by decide +kernel)
theorem w901 : (Jvm.Cond.selects "CatEveningsModel" ({ cls := "CatEveningsModel", name := "ends", desc := "()I" } : Jvm.MethodName) ({ cls := "CatEveningsModel", name := "ends", desc := "()I" } : Jvm.MethodName)) ∈ AllW := aw_t (j := 901) (by decide +kernel) (by decide +kernel)
theorem w902 : (Jvm.Cond.code ({ cls := "CatEveningsModel", name := "ends", desc := "()I" } : Jvm.MethodName) prog_5_method_52_code (1 : Nat) (Option.some Jvm.ClassFile.FieldType.int)) ∈ AllW := aw_t (j := 902) (by decide +kernel) (by decide +kernel)
theorem w903 : (Jvm.Cond.methodLink "CatEveningsModel" (138 : Nat) ({ cls := "CatEveningsModel", name := "leaves", desc := "()I" } : Jvm.MethodName)) ∈ AllW := aw_t (j := 903) (by decide +kernel) (by decide +kernel)
theorem w905 : (Jvm.Cond.instanceMethod ({ cls := "CatEveningsModel", name := "leaves", desc := "()I" } : Jvm.MethodName)) ∈ AllW := aw_t (j := 905) (by decide +kernel) (by decide +kernel)
theorem w906 : (Jvm.Cond.code ({ cls := "CatEveningsModel", name := "leaves", desc := "()I" } : Jvm.MethodName) prog_5_method_51_code (3 : Nat) (Option.some Jvm.ClassFile.FieldType.int)) ∈ AllW := aw_t (j := 906) (by decide +kernel) (by decide +kernel)
theorem w907 : (Jvm.Cond.methodLink "CatEveningsLaw" (178 : Nat) ({ cls := "CatEveningsModel", name := "placeIn", desc := "(II)I" } : Jvm.MethodName)) ∈ AllW := aw_t (j := 907) (by decide +kernel) (by decide +kernel)
theorem w908 : (Jvm.Cond.instanceMethod ({ cls := "CatEveningsModel", name := "placeIn", desc := "(II)I" } : Jvm.MethodName)) ∈ AllW := aw_t (j := 908) (by decide +kernel) (by decide +kernel)
theorem w909 : (Jvm.Cond.selects "CatEveningsModel" ({ cls := "CatEveningsModel", name := "placeIn", desc := "(II)I" } : Jvm.MethodName) ({ cls := "CatEveningsModel", name := "placeIn", desc := "(II)I" } : Jvm.MethodName)) ∈ AllW := aw_t (j := 909) (by decide +kernel) (by decide +kernel)
theorem w910 : (Jvm.Cond.code ({ cls := "CatEveningsModel", name := "placeIn", desc := "(II)I" } : Jvm.MethodName) prog_5_method_53_code (3 : Nat) (Option.some Jvm.ClassFile.FieldType.int)) ∈ AllW := aw_t (j := 910) (by decide +kernel) (by decide +kernel)
theorem w911 : (Jvm.Cond.methodLink "CatEveningsLaw" (181 : Nat) ({ cls := "CatEveningsModel", name := "lyingIn", desc := "(I)I" } : Jvm.MethodName)) ∈ AllW := aw_t (j := 911) (by decide +kernel) (by decide +kernel)
theorem w912 : (Jvm.Cond.instanceMethod ({ cls := "CatEveningsModel", name := "lyingIn", desc := "(I)I" } : Jvm.MethodName)) ∈ AllW := aw_t (j := 912) (by decide +kernel) (by decide +kernel)
theorem w913 : (Jvm.Cond.selects "CatEveningsModel" ({ cls := "CatEveningsModel", name := "lyingIn", desc := "(I)I" } : Jvm.MethodName) ({ cls := "CatEveningsModel", name := "lyingIn", desc := "(I)I" } : Jvm.MethodName)) ∈ AllW := aw_t (j := 913) (by decide +kernel) (by decide +kernel)
theorem w914 : (Jvm.Cond.code ({ cls := "CatEveningsModel", name := "lyingIn", desc := "(I)I" } : Jvm.MethodName) prog_5_method_54_code (2 : Nat) (Option.some Jvm.ClassFile.FieldType.int)) ∈ AllW := aw_t (j := 914) (by decide +kernel) (by decide +kernel)
theorem w915 : (Jvm.Cond.methodLink "CatEveningsLaw" (184 : Nat) ({ cls := "CatEveningsModel", name := "areAlike", desc := "(II)Z" } : Jvm.MethodName)) ∈ AllW := aw_t (j := 915) (by decide +kernel) (by decide +kernel)
theorem w916 : (Jvm.Cond.instanceMethod ({ cls := "CatEveningsModel", name := "areAlike", desc := "(II)Z" } : Jvm.MethodName)) ∈ AllW := aw_t (j := 916) (by decide +kernel) (by decide +kernel)
theorem w917 : (Jvm.Cond.selects "CatEveningsModel" ({ cls := "CatEveningsModel", name := "areAlike", desc := "(II)Z" } : Jvm.MethodName) ({ cls := "CatEveningsModel", name := "areAlike", desc := "(II)Z" } : Jvm.MethodName)) ∈ AllW := aw_t (j := 917) (by decide +kernel) (by decide +kernel)
theorem w918 : (Jvm.Cond.code ({ cls := "CatEveningsModel", name := "areAlike", desc := "(II)Z" } : Jvm.MethodName) prog_5_method_56_code (3 : Nat) (Option.some Jvm.ClassFile.FieldType.boolean)) ∈ AllW := aw_t (j := 918) (by decide +kernel) (by decide +kernel)
theorem w919 : (Jvm.Cond.methodLink "CatEveningsModel" (141 : Nat) ({ cls := "CatEveningsModel", name := "isLike", desc := "(II)Z" } : Jvm.MethodName)) ∈ AllW := aw_t (j := 919) (by decide +kernel) (by decide +kernel)
theorem w921 : (Jvm.Cond.instanceMethod ({ cls := "CatEveningsModel", name := "isLike", desc := "(II)Z" } : Jvm.MethodName)) ∈ AllW := aw_t (j := 921) (by decide +kernel) (by decide +kernel)
theorem w922 : (Jvm.Cond.code ({ cls := "CatEveningsModel", name := "isLike", desc := "(II)Z" } : Jvm.MethodName) prog_5_method_55_code (4 : Nat) (Option.some Jvm.ClassFile.FieldType.boolean)) ∈ AllW := aw_t (j := 922) (by decide +kernel) (by decide +kernel)
theorem w923 : (Jvm.Cond.methodLink "CatEveningsLaw" (188 : Nat) ({ cls := "CatEveningsModel", name := "mostKnocked", desc := "()I" } : Jvm.MethodName)) ∈ AllW := aw_t (j := 923) (by decide +kernel) (by decide +kernel)
theorem w924 : (Jvm.Cond.instanceMethod ({ cls := "CatEveningsModel", name := "mostKnocked", desc := "()I" } : Jvm.MethodName)) ∈ AllW := aw_t (j := 924) (by decide +kernel) (by decide +kernel)
theorem w925 : (Jvm.Cond.selects "CatEveningsModel" ({ cls := "CatEveningsModel", name := "mostKnocked", desc := "()I" } : Jvm.MethodName) ({ cls := "CatEveningsModel", name := "mostKnocked", desc := "()I" } : Jvm.MethodName)) ∈ AllW := aw_t (j := 925) (by decide +kernel) (by decide +kernel)
theorem w926 : (Jvm.Cond.code ({ cls := "CatEveningsModel", name := "mostKnocked", desc := "()I" } : Jvm.MethodName) prog_5_method_59_code (1 : Nat) (Option.some Jvm.ClassFile.FieldType.int)) ∈ AllW := aw_t (j := 926) (by decide +kernel) (by decide +kernel)
theorem w927 : (Jvm.Cond.methodLink "CatEveningsModel" (147 : Nat) ({ cls := "CatEveningsModel", name := "mostDown", desc := "()I" } : Jvm.MethodName)) ∈ AllW := aw_t (j := 927) (by decide +kernel) (by decide +kernel)
theorem w929 : (Jvm.Cond.instanceMethod ({ cls := "CatEveningsModel", name := "mostDown", desc := "()I" } : Jvm.MethodName)) ∈ AllW := aw_t (j := 929) (by decide +kernel) (by decide +kernel)
theorem w930 : (Jvm.Cond.code ({ cls := "CatEveningsModel", name := "mostDown", desc := "()I" } : Jvm.MethodName) prog_5_method_58_code (3 : Nat) (Option.some Jvm.ClassFile.FieldType.int)) ∈ AllW := aw_t (j := 930) (by decide +kernel) (by decide +kernel)
theorem w931 : (Jvm.Cond.methodLink "CatEveningsModel" (144 : Nat) ({ cls := "CatEveningsModel", name := "knocks", desc := "(I)I" } : Jvm.MethodName)) ∈ AllW := aw_t (j := 931) (by decide +kernel) (by decide +kernel)
theorem w933 : (Jvm.Cond.instanceMethod ({ cls := "CatEveningsModel", name := "knocks", desc := "(I)I" } : Jvm.MethodName)) ∈ AllW := aw_t (j := 933) (by decide +kernel) (by decide +kernel)
theorem w934 : (Jvm.Cond.code ({ cls := "CatEveningsModel", name := "knocks", desc := "(I)I" } : Jvm.MethodName) prog_5_method_57_code (4 : Nat) (Option.some Jvm.ClassFile.FieldType.int)) ∈ AllW := aw_t (j := 934) (by decide +kernel) (by decide +kernel)
theorem w935 : (Jvm.Cond.methodLink "CatEveningsLaw" (193 : Nat) ({ cls := "CatEveningsModel", name := "meanDepth", desc := "()D" } : Jvm.MethodName)) ∈ AllW := aw_t (j := 935) (by decide +kernel) (by decide +kernel)
theorem w936 : (Jvm.Cond.instanceMethod ({ cls := "CatEveningsModel", name := "meanDepth", desc := "()D" } : Jvm.MethodName)) ∈ AllW := aw_t (j := 936) (by decide +kernel) (by decide +kernel)
theorem w937 : (Jvm.Cond.selects "CatEveningsModel" ({ cls := "CatEveningsModel", name := "meanDepth", desc := "()D" } : Jvm.MethodName) ({ cls := "CatEveningsModel", name := "meanDepth", desc := "()D" } : Jvm.MethodName)) ∈ AllW := aw_t (j := 937) (by decide +kernel) (by decide +kernel)
theorem w938 : (Jvm.Cond.code ({ cls := "CatEveningsModel", name := "meanDepth", desc := "()D" } : Jvm.MethodName) prog_5_method_60_code (3 : Nat) (Option.some Jvm.ClassFile.FieldType.double)) ∈ AllW := aw_t (j := 938) (by decide +kernel) (by decide +kernel)
theorem w939 : (Jvm.Cond.methodLink "CatEveningsLaw" (198 : Nat) ({ cls := "CatEveningsModel", name := "digest", desc := "()J" } : Jvm.MethodName)) ∈ AllW := aw_t (j := 939) (by decide +kernel) (by decide +kernel)
theorem w940 : (Jvm.Cond.instanceMethod ({ cls := "CatEveningsModel", name := "digest", desc := "()J" } : Jvm.MethodName)) ∈ AllW := aw_t (j := 940) (by decide +kernel) (by decide +kernel)
theorem w941 : (Jvm.Cond.selects "CatEveningsModel" ({ cls := "CatEveningsModel", name := "digest", desc := "()J" } : Jvm.MethodName) ({ cls := "CatEveningsModel", name := "digest", desc := "()J" } : Jvm.MethodName)) ∈ AllW := aw_t (j := 941) (by decide +kernel) (by decide +kernel)
theorem w942 : (Jvm.Cond.code ({ cls := "CatEveningsModel", name := "digest", desc := "()J" } : Jvm.MethodName) prog_5_method_61_code (10 : Nat) (Option.some Jvm.ClassFile.FieldType.long)) ∈ AllW := aw_t (j := 942) (by decide +kernel) (by decide +kernel)
theorem w943 : (Jvm.Cond.constantLong "CatEveningsModel" (150 : Nat) (2251 : Int64)) ∈ AllW := aw_t (j := 943) (by decide +kernel) (by decide +kernel)
theorem w944 : (Jvm.Cond.constantLong "CatEveningsModel" (152 : Nat) (31 : Int64)) ∈ AllW := aw_t (j := 944) (by decide +kernel) (by decide +kernel)
theorem w945 : (Jvm.Cond.arrayClass Jvm.ClassFile.FieldType.long) ∈ AllW := aw_t (j := 945) (by decide +kernel) (by decide +kernel)
theorem w946 : (Jvm.Cond.sameMethod "java/lang/Throwable" "java/lang/Throwable" "fillInStackTrace" "(I)Ljava/lang/Throwable;") ∈ AllW := aw_t (j := 946) (by decide +kernel) (by decide +kernel)
theorem w957 : (Jvm.Cond.sameMethod "[Ljava/lang/Object;" "java/lang/Object" "getClass" "()Ljava/lang/Class;") ∈ AllW := aw_t (j := 957) (by decide +kernel) (by decide +kernel)
theorem w958 : (Jvm.Cond.selects "[Ljava/lang/Object;" ({ cls := "java/lang/Object", name := "getClass", desc := "()Ljava/lang/Class;" } : Jvm.MethodName) ({ cls := "java/lang/Object", name := "getClass", desc := "()Ljava/lang/Class;" } : Jvm.MethodName)) ∈ AllW := aw_t (j := 958) (by decide +kernel) (by decide +kernel)
theorem wp0 : Cond.selects (⟨"java/util/ArrayList", "add", "(Ljava/lang/Object;[Ljava/lang/Object;I)V"⟩ : MethodName).cls ⟨"java/util/ArrayList", "add", "(Ljava/lang/Object;[Ljava/lang/Object;I)V"⟩ ⟨"java/util/ArrayList", "add", "(Ljava/lang/Object;[Ljava/lang/Object;I)V"⟩ ∈ AllW := aw_p (q := (⟨"java/util/ArrayList", "add", "(Ljava/lang/Object;[Ljava/lang/Object;I)V"⟩, 3)) (j := 0) (by decide +kernel) (by decide +kernel)
theorem wp1 : Cond.selects (⟨"java/util/ArrayList", "grow", "()[Ljava/lang/Object;"⟩ : MethodName).cls ⟨"java/util/ArrayList", "grow", "()[Ljava/lang/Object;"⟩ ⟨"java/util/ArrayList", "grow", "()[Ljava/lang/Object;"⟩ ∈ AllW := aw_p (q := (⟨"java/util/ArrayList", "grow", "()[Ljava/lang/Object;"⟩, 3)) (j := 1) (by decide +kernel) (by decide +kernel)
theorem wp2 : Cond.selects (⟨"java/util/ArrayList", "grow", "(I)[Ljava/lang/Object;"⟩ : MethodName).cls ⟨"java/util/ArrayList", "grow", "(I)[Ljava/lang/Object;"⟩ ⟨"java/util/ArrayList", "grow", "(I)[Ljava/lang/Object;"⟩ ∈ AllW := aw_p (q := (⟨"java/util/ArrayList", "grow", "(I)[Ljava/lang/Object;"⟩, 3)) (j := 2) (by decide +kernel) (by decide +kernel)
theorem wp3 : Cond.selects (⟨"CatEvenings", "knocksOf", "(I)I"⟩ : MethodName).cls ⟨"CatEvenings", "knocksOf", "(I)I"⟩ ⟨"CatEvenings", "knocksOf", "(I)I"⟩ ∈ AllW := aw_p (q := (⟨"CatEvenings", "knocksOf", "(I)I"⟩, 2)) (j := 3) (by decide +kernel) (by decide +kernel)
theorem wp4 : Cond.selects (⟨"java/lang/Throwable", "fillInStackTrace", "(I)Ljava/lang/Throwable;"⟩ : MethodName).cls ⟨"java/lang/Throwable", "fillInStackTrace", "(I)Ljava/lang/Throwable;"⟩ ⟨"java/lang/Throwable", "fillInStackTrace", "(I)Ljava/lang/Throwable;"⟩ ∈ AllW := aw_p (q := (⟨"java/lang/Throwable", "fillInStackTrace", "(I)Ljava/lang/Throwable;"⟩, 6)) (j := 4) (by decide +kernel) (by decide +kernel)
theorem wp5 : Cond.selects (⟨"CatEvenings", "withEvening", "(JLCatEvenings$Evening;)J"⟩ : MethodName).cls ⟨"CatEvenings", "withEvening", "(JLCatEvenings$Evening;)J"⟩ ⟨"CatEvenings", "withEvening", "(JLCatEvenings$Evening;)J"⟩ ∈ AllW := aw_p (q := (⟨"CatEvenings", "withEvening", "(JLCatEvenings$Evening;)J"⟩, 2)) (j := 5) (by decide +kernel) (by decide +kernel)
theorem wp6 : Cond.selects (⟨"CatEvenings", "sceneAfter", "(II)LCatEvenings$Scene;"⟩ : MethodName).cls ⟨"CatEvenings", "sceneAfter", "(II)LCatEvenings$Scene;"⟩ ⟨"CatEvenings", "sceneAfter", "(II)LCatEvenings$Scene;"⟩ ∈ AllW := aw_p (q := (⟨"CatEvenings", "sceneAfter", "(II)LCatEvenings$Scene;"⟩, 2)) (j := 6) (by decide +kernel) (by decide +kernel)
theorem wp7 : Cond.selects (⟨"CatEvenings$Scene", "afterStep", "(I)LCatEvenings$Scene;"⟩ : MethodName).cls ⟨"CatEvenings$Scene", "afterStep", "(I)LCatEvenings$Scene;"⟩ ⟨"CatEvenings$Scene", "afterStep", "(I)LCatEvenings$Scene;"⟩ ∈ AllW := aw_p (q := (⟨"CatEvenings$Scene", "afterStep", "(I)LCatEvenings$Scene;"⟩, 3)) (j := 7) (by decide +kernel) (by decide +kernel)
theorem wp8 : Cond.selects (⟨"CatEvenings$Scene", "afterKnock", "(I)LCatEvenings$Scene;"⟩ : MethodName).cls ⟨"CatEvenings$Scene", "afterKnock", "(I)LCatEvenings$Scene;"⟩ ⟨"CatEvenings$Scene", "afterKnock", "(I)LCatEvenings$Scene;"⟩ ∈ AllW := aw_p (q := (⟨"CatEvenings$Scene", "afterKnock", "(I)LCatEvenings$Scene;"⟩, 3)) (j := 8) (by decide +kernel) (by decide +kernel)
theorem wp9 : Cond.selects (⟨"CatEvenings$Scene", "isInReach", "(I)Z"⟩ : MethodName).cls ⟨"CatEvenings$Scene", "isInReach", "(I)Z"⟩ ⟨"CatEvenings$Scene", "isInReach", "(I)Z"⟩ ∈ AllW := aw_p (q := (⟨"CatEvenings$Scene", "isInReach", "(I)Z"⟩, 3)) (j := 9) (by decide +kernel) (by decide +kernel)
theorem wp10 : Cond.selects (⟨"CatEvenings$Scene", "afterSetUp", "(I)LCatEvenings$Scene;"⟩ : MethodName).cls ⟨"CatEvenings$Scene", "afterSetUp", "(I)LCatEvenings$Scene;"⟩ ⟨"CatEvenings$Scene", "afterSetUp", "(I)LCatEvenings$Scene;"⟩ ∈ AllW := aw_p (q := (⟨"CatEvenings$Scene", "afterSetUp", "(I)LCatEvenings$Scene;"⟩, 3)) (j := 10) (by decide +kernel) (by decide +kernel)
theorem wp11 : Cond.selects (⟨"CatEvenings$Scene", "afterPush", "(I)LCatEvenings$Scene;"⟩ : MethodName).cls ⟨"CatEvenings$Scene", "afterPush", "(I)LCatEvenings$Scene;"⟩ ⟨"CatEvenings$Scene", "afterPush", "(I)LCatEvenings$Scene;"⟩ ∈ AllW := aw_p (q := (⟨"CatEvenings$Scene", "afterPush", "(I)LCatEvenings$Scene;"⟩, 3)) (j := 11) (by decide +kernel) (by decide +kernel)
theorem wp12 : Cond.selects (⟨"CatEvenings", "existing", "(I)LCatEvenings$Evening;"⟩ : MethodName).cls ⟨"CatEvenings", "existing", "(I)LCatEvenings$Evening;"⟩ ⟨"CatEvenings", "existing", "(I)LCatEvenings$Evening;"⟩ ∈ AllW := aw_p (q := (⟨"CatEvenings", "existing", "(I)LCatEvenings$Evening;"⟩, 2)) (j := 12) (by decide +kernel) (by decide +kernel)
theorem wp13 : Cond.selects (⟨"CatEveningsModel", "no", "(I)I"⟩ : MethodName).cls ⟨"CatEveningsModel", "no", "(I)I"⟩ ⟨"CatEveningsModel", "no", "(I)I"⟩ ∈ AllW := aw_p (q := (⟨"CatEveningsModel", "no", "(I)I"⟩, 11)) (j := 13) (by decide +kernel) (by decide +kernel)
theorem wp14 : Cond.selects (⟨"CatEveningsModel", "pieceOn", "(I)I"⟩ : MethodName).cls ⟨"CatEveningsModel", "pieceOn", "(I)I"⟩ ⟨"CatEveningsModel", "pieceOn", "(I)I"⟩ ∈ AllW := aw_p (q := (⟨"CatEveningsModel", "pieceOn", "(I)I"⟩, 11)) (j := 14) (by decide +kernel) (by decide +kernel)
theorem wp15 : Cond.selects (⟨"CatEveningsModel", "piece", "(II)I"⟩ : MethodName).cls ⟨"CatEveningsModel", "piece", "(II)I"⟩ ⟨"CatEveningsModel", "piece", "(II)I"⟩ ∈ AllW := aw_p (q := (⟨"CatEveningsModel", "piece", "(II)I"⟩, 11)) (j := 15) (by decide +kernel) (by decide +kernel)
theorem wp16 : Cond.selects (⟨"CatEveningsModel", "at", "(II)I"⟩ : MethodName).cls ⟨"CatEveningsModel", "at", "(II)I"⟩ ⟨"CatEveningsModel", "at", "(II)I"⟩ ∈ AllW := aw_p (q := (⟨"CatEveningsModel", "at", "(II)I"⟩, 11)) (j := 16) (by decide +kernel) (by decide +kernel)
theorem wp17 : Cond.selects (⟨"CatEveningsModel", "does", "(II)Z"⟩ : MethodName).cls ⟨"CatEveningsModel", "does", "(II)Z"⟩ ⟨"CatEveningsModel", "does", "(II)Z"⟩ ∈ AllW := aw_p (q := (⟨"CatEveningsModel", "does", "(II)Z"⟩, 11)) (j := 17) (by decide +kernel) (by decide +kernel)
theorem wp18 : Cond.selects (⟨"CatEveningsModel", "steps", "(I)Z"⟩ : MethodName).cls ⟨"CatEveningsModel", "steps", "(I)Z"⟩ ⟨"CatEveningsModel", "steps", "(I)Z"⟩ ∈ AllW := aw_p (q := (⟨"CatEveningsModel", "steps", "(I)Z"⟩, 11)) (j := 18) (by decide +kernel) (by decide +kernel)
theorem wp19 : Cond.selects (⟨"CatEveningsModel", "cat", "()I"⟩ : MethodName).cls ⟨"CatEveningsModel", "cat", "()I"⟩ ⟨"CatEveningsModel", "cat", "()I"⟩ ∈ AllW := aw_p (q := (⟨"CatEveningsModel", "cat", "()I"⟩, 11)) (j := 19) (by decide +kernel) (by decide +kernel)
theorem wp20 : Cond.selects (⟨"CatEveningsModel", "pushes", "(I)Z"⟩ : MethodName).cls ⟨"CatEveningsModel", "pushes", "(I)Z"⟩ ⟨"CatEveningsModel", "pushes", "(I)Z"⟩ ∈ AllW := aw_p (q := (⟨"CatEveningsModel", "pushes", "(I)Z"⟩, 11)) (j := 20) (by decide +kernel) (by decide +kernel)
theorem wp21 : Cond.selects (⟨"CatEveningsModel", "turns", "(IZ)Z"⟩ : MethodName).cls ⟨"CatEveningsModel", "turns", "(IZ)Z"⟩ ⟨"CatEveningsModel", "turns", "(IZ)Z"⟩ ∈ AllW := aw_p (q := (⟨"CatEveningsModel", "turns", "(IZ)Z"⟩, 11)) (j := 21) (by decide +kernel) (by decide +kernel)
theorem wp22 : Cond.selects (⟨"CatEveningsModel", "isPiece", "(I)Z"⟩ : MethodName).cls ⟨"CatEveningsModel", "isPiece", "(I)Z"⟩ ⟨"CatEveningsModel", "isPiece", "(I)Z"⟩ ∈ AllW := aw_p (q := (⟨"CatEveningsModel", "isPiece", "(I)Z"⟩, 11)) (j := 22) (by decide +kernel) (by decide +kernel)
theorem wp23 : Cond.selects (⟨"CatEveningsModel", "isEvening", "(I)Z"⟩ : MethodName).cls ⟨"CatEveningsModel", "isEvening", "(I)Z"⟩ ⟨"CatEveningsModel", "isEvening", "(I)Z"⟩ ∈ AllW := aw_p (q := (⟨"CatEveningsModel", "isEvening", "(I)Z"⟩, 11)) (j := 23) (by decide +kernel) (by decide +kernel)
theorem wp24 : Cond.selects (⟨"CatEveningsModel", "way", "(II)I"⟩ : MethodName).cls ⟨"CatEveningsModel", "way", "(II)I"⟩ ⟨"CatEveningsModel", "way", "(II)I"⟩ ∈ AllW := aw_p (q := (⟨"CatEveningsModel", "way", "(II)I"⟩, 11)) (j := 24) (by decide +kernel) (by decide +kernel)
theorem wp25 : Cond.selects (⟨"CatEveningsModel", "meeting", "(II)I"⟩ : MethodName).cls ⟨"CatEveningsModel", "meeting", "(II)I"⟩ ⟨"CatEveningsModel", "meeting", "(II)I"⟩ ∈ AllW := aw_p (q := (⟨"CatEveningsModel", "meeting", "(II)I"⟩, 11)) (j := 25) (by decide +kernel) (by decide +kernel)
theorem wp26 : Cond.selects (⟨"CatEveningsModel", "ok", "(I)I"⟩ : MethodName).cls ⟨"CatEveningsModel", "ok", "(I)I"⟩ ⟨"CatEveningsModel", "ok", "(I)I"⟩ ∈ AllW := aw_p (q := (⟨"CatEveningsModel", "ok", "(I)I"⟩, 11)) (j := 26) (by decide +kernel) (by decide +kernel)
theorem wp27 : Cond.selects (⟨"CatEveningsModel", "down", "(II)I"⟩ : MethodName).cls ⟨"CatEveningsModel", "down", "(II)I"⟩ ⟨"CatEveningsModel", "down", "(II)I"⟩ ∈ AllW := aw_p (q := (⟨"CatEveningsModel", "down", "(II)I"⟩, 11)) (j := 27) (by decide +kernel) (by decide +kernel)
theorem wp28 : Cond.selects (⟨"CatEveningsModel", "isNot", "(I)Z"⟩ : MethodName).cls ⟨"CatEveningsModel", "isNot", "(I)Z"⟩ ⟨"CatEveningsModel", "isNot", "(I)Z"⟩ ∈ AllW := aw_p (q := (⟨"CatEveningsModel", "isNot", "(I)Z"⟩, 11)) (j := 28) (by decide +kernel) (by decide +kernel)
theorem wp29 : Cond.selects (⟨"CatEveningsModel", "of", "([II)I"⟩ : MethodName).cls ⟨"CatEveningsModel", "of", "([II)I"⟩ ⟨"CatEveningsModel", "of", "([II)I"⟩ ∈ AllW := aw_p (q := (⟨"CatEveningsModel", "of", "([II)I"⟩, 11)) (j := 29) (by decide +kernel) (by decide +kernel)
theorem wp30 : Cond.selects (⟨"CatEveningsModel", "below", "(I)I"⟩ : MethodName).cls ⟨"CatEveningsModel", "below", "(I)I"⟩ ⟨"CatEveningsModel", "below", "(I)I"⟩ ∈ AllW := aw_p (q := (⟨"CatEveningsModel", "below", "(I)I"⟩, 11)) (j := 30) (by decide +kernel) (by decide +kernel)
theorem wp31 : Cond.selects (⟨"CatEveningsModel", "allBelow", "(I)I"⟩ : MethodName).cls ⟨"CatEveningsModel", "allBelow", "(I)I"⟩ ⟨"CatEveningsModel", "allBelow", "(I)I"⟩ ∈ AllW := aw_p (q := (⟨"CatEveningsModel", "allBelow", "(I)I"⟩, 11)) (j := 31) (by decide +kernel) (by decide +kernel)
theorem wp32 : Cond.selects (⟨"CatEveningsModel", "leaves", "()I"⟩ : MethodName).cls ⟨"CatEveningsModel", "leaves", "()I"⟩ ⟨"CatEveningsModel", "leaves", "()I"⟩ ∈ AllW := aw_p (q := (⟨"CatEveningsModel", "leaves", "()I"⟩, 11)) (j := 32) (by decide +kernel) (by decide +kernel)
theorem wp33 : Cond.selects (⟨"CatEveningsModel", "isLike", "(II)Z"⟩ : MethodName).cls ⟨"CatEveningsModel", "isLike", "(II)Z"⟩ ⟨"CatEveningsModel", "isLike", "(II)Z"⟩ ∈ AllW := aw_p (q := (⟨"CatEveningsModel", "isLike", "(II)Z"⟩, 11)) (j := 33) (by decide +kernel) (by decide +kernel)
theorem wp34 : Cond.selects (⟨"CatEveningsModel", "mostDown", "()I"⟩ : MethodName).cls ⟨"CatEveningsModel", "mostDown", "()I"⟩ ⟨"CatEveningsModel", "mostDown", "()I"⟩ ∈ AllW := aw_p (q := (⟨"CatEveningsModel", "mostDown", "()I"⟩, 11)) (j := 34) (by decide +kernel) (by decide +kernel)
theorem wp35 : Cond.selects (⟨"CatEveningsModel", "knocks", "(I)I"⟩ : MethodName).cls ⟨"CatEveningsModel", "knocks", "(I)I"⟩ ⟨"CatEveningsModel", "knocks", "(I)I"⟩ ∈ AllW := aw_p (q := (⟨"CatEveningsModel", "knocks", "(I)I"⟩, 11)) (j := 35) (by decide +kernel) (by decide +kernel)
end
section
/-! ===== an abstract heap: what is known of which cell ===== -/
abbrev AH : Type := Nat → Option va_E
def hup (h : AH) (a : Nat) (e : va_E) : AH := fun b => if b = a then some e else h b
theorem hup_eq {h : AH} {a : Nat} {e : va_E} : hup h a e a = some e := if_pos rfl
theorem hup_ne {h : AH} {a b : Nat} {e : va_E} (hb : b ≠ a) : hup h a e b = h b := if_neg hb
theorem hup_old {h : AH} {a b : Nat} {e e2 : va_E} (ha : h a = none) (hb : h b = some e2) : hup h a e b = some e2 := by
  rw [hup_ne]
  · exact hb
  · intro z
    rw [z, ha] at hb
    cases hb
theorem hup_hup {h : AH} {a : Nat} {e e2 : va_E} : hup (hup h a e) a e2 = hup h a e2 := by
  funext b
  unfold hup
  by_cases hb : b = a
  · rw [if_pos hb, if_pos hb]
  · rw [if_neg hb, if_neg hb, if_neg hb]
/-- the same for all of a run: which class is where, what may be changed, the array classes of int, long, Object, the empty row of ArrayList -/
abbrev YG : Type := va_G × (Nat → Prop) × ClassId × ClassId × ClassId × Nat
abbrev YG.D (Y : YG) : va_G := Y.1
abbrev YG.A (Y : YG) : Nat → Prop := Y.2.1
abbrev YG.cI (Y : YG) : ClassId := Y.2.2.1
abbrev YG.cJ (Y : YG) : ClassId := Y.2.2.2.1
abbrev YG.cO (Y : YG) : ClassId := Y.2.2.2.2.1
abbrev YG.tE (Y : YG) : Nat := Y.2.2.2.2.2
abbrev YG.tys (Y : YG) : List (ClassId × FieldType) := [(Y.cI, .int), (Y.cJ, .long), (Y.cO, .object "java/lang/Object")]
abbrev aI (Y : YG) (n : Nat) (f : Nat → Int32) : va_E := .inl (Y.cI, n, .inl f)
abbrev aJ (Y : YG) (n : Nat) (f : Nat → Int64) : va_E := .inl (Y.cJ, n, .inr (.inl f))
abbrev aO (Y : YG) (n : Nat) (f : Nat → Option Nat) : va_E := .inl (Y.cO, n, .inr (.inr (.inr (.inr f))))
def cw (Y : YG) (h : AH) (H : Heap) : Prop := ∃ ws : va_W, va_P Y.D vwCl ws H ∧ va_D Y.A ws ∧ ∀ (a : Nat) (e : va_E), h a = some e → ∃ k : Nat, ws[k]? = some (a, e)
theorem cw.at {Y : YG} {h : AH} {H : Heap} (c : cw Y h H) {a : Nat} {e : va_E} (ha : h a = some e) : va_at Y.D vwCl (a, e) H := by
  obtain ⟨ws, hP, hD, hw⟩ := c
  obtain ⟨k, hk⟩ := hw a e ha
  exact hP k _ hk
theorem cw.inA {Y : YG} {h : AH} {H : Heap} (c : cw Y h H) {a : Nat} {e : va_E} (ha : h a = some e) : Y.A a := by
  obtain ⟨ws, hP, hD, hw⟩ := c
  obtain ⟨k, hk⟩ := hw a e ha
  exact hD.2 k _ hk
theorem cw.lt {Y : YG} {h : AH} {H : Heap} (c : cw Y h H) {a : Nat} {e : va_E} (ha : h a = some e) : a < H.size := (c.at ha).lt
/-- a heap in which the old cells of A are as before -/
theorem cw.kept {Y : YG} {h : AH} {H H1 : Heap} (c : cw Y h H) (hk : ∀ q : Nat, q < H.size → H1[q]? = H[q]?) : cw Y h H1 := by
  obtain ⟨ws, hP, hD, hw⟩ := c
  exact ⟨ws, hP.kept (fun k q hq => hk q.1 (hP k q hq).lt), hD, hw⟩
theorem cw.less {Y : YG} {h h2 : AH} {H : Heap} (c : cw Y h H) (hk : ∀ a e, h2 a = some e → h a = some e) : cw Y h2 H := by
  obtain ⟨ws, hP, hD, hw⟩ := c
  exact ⟨ws, hP, hD, fun a e he => hw a e (hk a e he)⟩
/-- the world behind a change of one cell -/
theorem cw_set {Y : YG} {h : AH} {H1 : Heap} {ws : va_W} {a k : Nat} {e0 e1 : va_E} (hD0 : va_D Y.A ws) (hw : ∀ (a : Nat) (e : va_E), h a = some e → ∃ k : Nat, ws[k]? = some (a, e)) (hk : ws[k]? = some (a, e0)) (hP : va_P Y.D vwCl (ws.set k (a, e1)) H1) (hD : va_D Y.A (ws.set k (a, e1))) : cw Y (hup h a e1) H1 := by
  refine ⟨_, hP, hD, fun b e hb => ?_⟩
  have hl := (List.getElem?_eq_some_iff.mp hk).1
  by_cases hba : b = a
  · subst hba
    rw [hup_eq] at hb
    cases hb
    exact ⟨k, List.getElem?_set_self hl⟩
  · rw [hup_ne hba] at hb
    obtain ⟨j, hj⟩ := hw b e hb
    have hjk : j ≠ k := by
      intro z
      subst z
      rw [hk] at hj
      cases hj
      exact hba rfl
    exact ⟨j, by rw [List.getElem?_set_ne (Ne.symm hjk)]; exact hj⟩
/-- .. and behind a new cell -/
theorem cw_push {Y : YG} {h : AH} {H1 : Heap} {ws : va_W} {a : Nat} {e1 : va_E} (hw : ∀ (a : Nat) (e : va_E), h a = some e → ∃ k : Nat, ws[k]? = some (a, e)) (hP : va_P Y.D vwCl (ws ++ [(a, e1)]) H1) (hD : va_D Y.A (ws ++ [(a, e1)])) : h a = none ∧ cw Y (hup h a e1) H1 := by
  have hlast : (ws ++ [(a, e1)])[ws.length]? = some (a, e1) := by
    rw [List.getElem?_append_right (Nat.le_refl _), Nat.sub_self]
    rfl
  have hn : h a = none := by
    cases hz : h a with
    | none => rfl
    | some e =>
      obtain ⟨k, hk⟩ := hw a e hz
      have hl := (List.getElem?_eq_some_iff.mp hk).1
      have h2 : (ws ++ [(a, e1)])[k]? = some (a, e) := by
        rw [List.getElem?_append_left hl]
        exact hk
      have := hD.1 k ws.length _ _ h2 hlast rfl
      omega
  refine ⟨hn, _, hP, hD, fun b e hb => ?_⟩
  by_cases hba : b = a
  · subst hba
    rw [hup_eq] at hb
    cases hb
    exact ⟨_, hlast⟩
  · rw [hup_ne hba] at hb
    obtain ⟨j, hj⟩ := hw b e hb
    exact ⟨j, by rw [List.getElem?_append_left (List.getElem?_eq_some_iff.mp hj).1]; exact hj⟩
/-! ===== the locals by their places ===== -/
def lkill (a : Option Value) : Option Value := match a with
  | some w => if w.category = 2 then none else some w
  | none => none
def lset : List (Option Value) → Nat → Value → List (Option Value)
  | [], _, _ => []
  | _ :: r, 0, v => some v :: r
  | a :: r, 1, v => lkill a :: lset r 0 v
  | a :: r, n + 2, v => a :: lset r (n + 1) v
def lset2 : List (Option Value) → Nat → Value → List (Option Value)
  | [], _, _ => []
  | [_], 0, v => [some v]
  | _ :: _ :: r, 0, v => some v :: none :: r
  | a :: r, 1, v => lkill a :: lset2 r 0 v
  | a :: r, n + 2, v => a :: lset2 r (n + 1) v
theorem lkill_some {a : Option Value} {w : Value} (h : lkill a = some w) : a = some w ∧ ¬ w.category = 2 := by
  cases a with
  | none => cases h
  | some z =>
    simp only [lkill] at h
    split at h
    · cases h
    · cases h
      exact ⟨rfl, by assumption⟩
theorem lset_at : ∀ (lv : List (Option Value)) (i : Nat) (v : Value) (j : Nat) (w : Value), (lset lv i v)[j]? = some (some w) → (j = i ∧ w = v) ∨ (j ≠ i ∧ lv[j]? = some (some w) ∧ ¬ (j + 1 = i ∧ w.category = 2))
  | [], _, _, j, w, h => by simp [lset] at h
  | a :: r, 0, v, 0, w, h => by
    simp only [lset, List.getElem?_cons_zero] at h
    cases h
    exact Or.inl ⟨rfl, rfl⟩
  | a :: r, 0, v, j + 1, w, h => by
    simp only [lset, List.getElem?_cons_succ] at h
    exact Or.inr ⟨by omega, by rw [List.getElem?_cons_succ]; exact h, by omega⟩
  | a :: r, 1, v, 0, w, h => by
    simp only [lset, List.getElem?_cons_zero] at h
    obtain ⟨h1, h2⟩ := lkill_some (Option.some.inj h)
    exact Or.inr ⟨by omega, by rw [List.getElem?_cons_zero, h1], fun z => h2 z.2⟩
  | a :: r, 1, v, j + 1, w, h => by
    simp only [lset, List.getElem?_cons_succ] at h
    rcases lset_at r 0 v j w h with ⟨h1, h2⟩ | ⟨h1, h2, h3⟩
    · exact Or.inl ⟨by omega, h2⟩
    · exact Or.inr ⟨by omega, by rw [List.getElem?_cons_succ]; exact h2, by omega⟩
  | a :: r, n + 2, v, 0, w, h => by
    simp only [lset, List.getElem?_cons_zero] at h
    exact Or.inr ⟨by omega, by rw [List.getElem?_cons_zero, h], by omega⟩
  | a :: r, n + 2, v, j + 1, w, h => by
    simp only [lset, List.getElem?_cons_succ] at h
    rcases lset_at r (n + 1) v j w h with ⟨h1, h2⟩ | ⟨h1, h2, h3⟩
    · exact Or.inl ⟨by omega, h2⟩
    · exact Or.inr ⟨by omega, by rw [List.getElem?_cons_succ]; exact h2, fun z => h3 ⟨by omega, z.2⟩⟩
theorem lset2_at : ∀ (lv : List (Option Value)) (i : Nat) (v : Value) (j : Nat) (w : Value), (lset2 lv i v)[j]? = some (some w) → (j = i ∧ w = v) ∨ (j ≠ i ∧ j ≠ i + 1 ∧ lv[j]? = some (some w) ∧ ¬ (j + 1 = i ∧ w.category = 2))
  | [], _, _, j, w, h => by simp [lset2] at h
  | [a], 0, v, 0, w, h => by
    simp only [lset2, List.getElem?_cons_zero] at h
    cases h
    exact Or.inl ⟨rfl, rfl⟩
  | [a], 0, v, j + 1, w, h => by simp [lset2] at h
  | a :: b :: r, 0, v, 0, w, h => by
    simp only [lset2, List.getElem?_cons_zero] at h
    cases h
    exact Or.inl ⟨rfl, rfl⟩
  | a :: b :: r, 0, v, 1, w, h => by simp [lset2] at h
  | a :: b :: r, 0, v, j + 2, w, h => by
    simp only [lset2, List.getElem?_cons_succ] at h
    exact Or.inr ⟨by omega, by omega, by simp only [List.getElem?_cons_succ]; exact h, by omega⟩
  | a :: r, 1, v, 0, w, h => by
    simp only [lset2, List.getElem?_cons_zero] at h
    obtain ⟨h1, h2⟩ := lkill_some (Option.some.inj h)
    exact Or.inr ⟨by omega, by omega, by rw [List.getElem?_cons_zero, h1], fun z => h2 z.2⟩
  | a :: r, 1, v, j + 1, w, h => by
    simp only [lset2, List.getElem?_cons_succ] at h
    rcases lset2_at r 0 v j w h with ⟨h1, h2⟩ | ⟨h0, h1, h2, h3⟩
    · exact Or.inl ⟨by omega, h2⟩
    · exact Or.inr ⟨by omega, by omega, by rw [List.getElem?_cons_succ]; exact h2, by omega⟩
  | a :: r, n + 2, v, 0, w, h => by
    simp only [lset2, List.getElem?_cons_zero] at h
    exact Or.inr ⟨by omega, by omega, by rw [List.getElem?_cons_zero, h], by omega⟩
  | a :: r, n + 2, v, j + 1, w, h => by
    simp only [lset2, List.getElem?_cons_succ] at h
    rcases lset2_at r (n + 1) v j w h with ⟨h1, h2⟩ | ⟨h0, h1, h2, h3⟩
    · exact Or.inl ⟨by omega, h2⟩
    · exact Or.inr ⟨by omega, by omega, by rw [List.getElem?_cons_succ]; exact h2, fun z => h3 ⟨by omega, z.2⟩⟩
def lpr : Nat → List (Option Value) → List (Nat × Value)
  | _, [] => []
  | n, some v :: r => (n, v) :: lpr (n + 1) r
  | n, none :: r => lpr (n + 1) r
theorem lpr_of : ∀ (lv : List (Option Value)) (n j : Nat) (w : Value), (j, w) ∈ lpr n lv → ∃ i, j = n + i ∧ lv[i]? = some (some w)
  | [], _, _, _, h => by simp [lpr] at h
  | some v :: r, n, j, w, h => by
    simp only [lpr, List.mem_cons] at h
    rcases h with h | h
    · cases h
      exact ⟨0, rfl, rfl⟩
    · obtain ⟨i, h1, h2⟩ := lpr_of r (n + 1) j w h
      exact ⟨i + 1, by omega, by rw [List.getElem?_cons_succ]; exact h2⟩
  | none :: r, n, j, w, h => by
    simp only [lpr] at h
    obtain ⟨i, h1, h2⟩ := lpr_of r (n + 1) j w h
    exact ⟨i + 1, by omega, by rw [List.getElem?_cons_succ]; exact h2⟩
theorem lpr_in : ∀ (lv : List (Option Value)) (n i : Nat) (w : Value), lv[i]? = some (some w) → (n + i, w) ∈ lpr n lv
  | [], _, _, _, h => by simp at h
  | some v :: r, n, 0, w, h => by
    simp only [List.getElem?_cons_zero] at h
    cases h
    exact List.mem_cons_self
  | some v :: r, n, i + 1, w, h => by
    rw [List.getElem?_cons_succ] at h
    have := lpr_in r (n + 1) i w h
    rw [show n + 1 + i = n + (i + 1) by omega] at this
    exact List.mem_cons_of_mem _ this
  | none :: r, n, 0, w, h => by simp at h
  | none :: r, n, i + 1, w, h => by
    rw [List.getElem?_cons_succ] at h
    have := lpr_in r (n + 1) i w h
    rw [show n + 1 + i = n + (i + 1) by omega] at this
    exact this
def lh (ls : Array Slot) (nL : Nat) (lv : List (Option Value)) : Prop := lv_has ls nL (lpr 0 lv)
theorem lh.at {ls : Array Slot} {nL : Nat} {lv : List (Option Value)} (h : lh ls nL lv) {i : Nat} {v : Value} (hv : lv[i]? = some (some v)) : ls[i]? = some (.val v) := by
  have := lpr_in lv 0 i v hv
  rw [Nat.zero_add] at this
  exact h.2.2 (i, v) this
theorem lh.of {ls : Array Slot} {nL : Nat} {lv : List (Option Value)} (h1 : ls.size = nL) (h2 : lv_wf ls) (h3 : ∀ (i : Nat) (v : Value), lv[i]? = some (some v) → ls[i]? = some (.val v)) : lh ls nL lv := by
  refine ⟨h1, h2, fun q hq => ?_⟩
  obtain ⟨i, e1, e2⟩ := lpr_of lv 0 q.1 q.2 hq
  rw [Nat.zero_add] at e1
  rw [e1]
  exact h3 i q.2 e2
theorem lh.set {ls : Array Slot} {nL i : Nat} {v : Value} {lv : List (Option Value)} (h : lv_has ls nL ((i, v) :: (lpr 0 lv).filter (fun q => !(q.1 == i) && !(q.1 + 1 == i && q.2.category == 2)))) : lh ls nL (lset lv i v) := by
  refine lh.of h.1 h.2.1 (fun j w hj => ?_)
  rcases lset_at lv i v j w hj with ⟨h1, h2⟩ | ⟨h1, h2, h3⟩
  · subst h1; subst h2
    exact h.2.2 _ List.mem_cons_self
  · refine h.2.2 (j, w) (List.mem_cons_of_mem _ (List.mem_filter.mpr ⟨?_, ?_⟩))
    · have := lpr_in lv 0 j w h2
      rw [Nat.zero_add] at this
      exact this
    · have e1 : (j == i) = false := by simpa using h1
      have e2 : (j + 1 == i && w.category == 2) = false := by
        cases hz : (j + 1 == i && w.category == 2) with
        | false => rfl
        | true =>
          simp only [Bool.and_eq_true, beq_iff_eq] at hz
          exact absurd hz h3
      simp only [e1, e2]
      rfl
theorem lh.set2 {ls : Array Slot} {nL i : Nat} {v : Value} {lv : List (Option Value)} (h : lv_has ls nL ((i, v) :: (lpr 0 lv).filter (fun q => !(q.1 == i) && (!(q.1 == i + 1) && !(q.1 + 1 == i && q.2.category == 2))))) : lh ls nL (lset2 lv i v) := by
  refine lh.of h.1 h.2.1 (fun j w hj => ?_)
  rcases lset2_at lv i v j w hj with ⟨h1, h2⟩ | ⟨h1, h0, h2, h3⟩
  · subst h1; subst h2
    exact h.2.2 _ List.mem_cons_self
  · refine h.2.2 (j, w) (List.mem_cons_of_mem _ (List.mem_filter.mpr ⟨?_, ?_⟩))
    · have := lpr_in lv 0 j w h2
      rw [Nat.zero_add] at this
      exact this
    · have e1 : (j == i) = false := by simpa using h1
      have e0 : (j == i + 1) = false := by simpa using h0
      have e2 : (j + 1 == i && w.category == 2) = false := by
        cases hz : (j + 1 == i && w.category == 2) with
        | false => rfl
        | true =>
          simp only [Bool.and_eq_true, beq_iff_eq] at hz
          exact absurd hz h3
      simp only [e1, e0, e2]
      rfl
/-- the entry's locals, from the arguments -/
def lent : List Value → Nat → List (Option Value)
  | [], n => List.replicate n none
  | v :: r, n => if v.category = 2 then some v :: none :: lent r (n - 2) else some v :: lent r (n - 1)
theorem lent_args : ∀ (vs : List Value) (n q i : Nat) (v : Value), (lent vs n)[i]? = some (some v) → (q + i, v) ∈ lv_args q vs
  | [], n, q, i, v, h => by
    simp only [lent, List.getElem?_replicate] at h
    split at h
    · cases h
    · cases h
  | w :: r, n, q, i, v, h => by
    rcases lv_cat w with hc | hc
    · have e : (lent (w :: r) n) = some w :: lent r (n - 1) := by rw [lent, if_neg (by omega)]
      rw [e] at h
      cases i with
      | zero =>
        rw [List.getElem?_cons_zero] at h
        cases h
        simp [lv_args]
      | succ i =>
        rw [List.getElem?_cons_succ] at h
        have := lent_args r (n - 1) (q + 1) i v h
        rw [show q + 1 + i = q + (i + 1) by omega] at this
        simp only [lv_args, hc, List.mem_cons]
        exact Or.inr (by simpa using this)
    · have e : (lent (w :: r) n) = some w :: none :: lent r (n - 2) := by rw [lent, if_pos hc]
      rw [e] at h
      match i, h with
      | 0, h =>
        rw [List.getElem?_cons_zero] at h
        cases h
        simp [lv_args]
      | 1, h => simp at h
      | i + 2, h =>
        rw [List.getElem?_cons_succ, List.getElem?_cons_succ] at h
        have := lent_args r (n - 2) (q + 2) i v h
        rw [show q + 2 + i = q + (i + 2) by omega] at this
        simp only [lv_args, hc, List.mem_cons]
        exact Or.inr (by simpa using this)
theorem lh.entry (vs : List Value) {n : Nat} (h : (lg_sl vs).length ≤ n) : lh ((lg_sl vs ++ List.replicate (n - (lg_sl vs).length) Slot.unset).toArray) n (lent vs n) := by
  have e := lv_entry vs h
  refine lh.of e.1 e.2.1 (fun i v hi => ?_)
  have := lent_args vs n 0 i v hi
  rw [Nat.zero_add] at this
  exact e.2.2 (i, v) this
def isR : Value → Bool
  | .ref _ => true
  | .null => true
  | _ => false
theorem isR_rf (r : Option Nat) : isR (va_rf r) = true := by cases r <;> rfl
theorem isR_or {v : Value} (h : isR v = true) : v = .null ∨ ∃ a, v = .ref a := by
  cases v <;> first | exact Or.inl rfl | exact Or.inr ⟨_, rfl⟩ | cases h
theorem isR_ex {v : Value} (h : isR v = true) : ∃ r : Option Nat, v = va_rf r := by
  rcases isR_or h with rfl | ⟨a, rfl⟩
  · exact ⟨none, rfl⟩
  · exact ⟨some a, rfl⟩
end
section
/-! ===== what the tables say that is no good word, and the statics ===== -/
def nL_add : MethodName := ⟨"java/util/List", "add", "(Ljava/lang/Object;)Z"⟩
def nL_size : MethodName := ⟨"java/util/List", "size", "()I"⟩
def nL_get : MethodName := ⟨"java/util/List", "get", "(I)Ljava/lang/Object;"⟩
abbrev sIS : String := "java/lang/IllegalStateException"
abbrev sIA : String := "java/lang/IllegalArgumentException"
abbrev sIO : String := "java/lang/IndexOutOfBoundsException"
def colS : Nat → Int32 := fun j => match j with
  | 0 => 0 | 1 => 1 | 2 => 1 | 3 => 1 | 4 => 0 | 5 => -1 | 6 => -1 | _ => -1
def rowS : Nat → Int32 := fun j => match j with
  | 0 => 1 | 1 => 1 | 2 => 0 | 3 => -1 | 4 => -1 | 5 => -1 | 6 => 0 | _ => 1
def va_Ca (C T : String) (U : State) : Prop := (Cond.castable C T).before #[] U = true
theorem va_Ca.of {C T : String} {A : Array Value} {U : State} (h : (Cond.castable C T).before A U = true) : va_Ca C T U := va_any rfl h
theorem va_Ca.use {C T : String} {A : Array Value} {U : State} (h : va_Ca C T U) : (Cond.castable C T).before A U = true := va_any rfl h
theorem va_Ca.moved {C T : String} {u U : State} (hvm : u.vm.Alike U.vm) (h : va_Ca C T u) : va_Ca C T U := by
  have h1 : (Cond.castable C T).before #[] (u.setVm U.vm) = true := by
    rw [Cond.castable_setVm hvm]
    exact h
  have e := Cond.onTables_vm (A := #[]) (A' := #[]) (U := u) (U' := U) U.vm (Cond.castable C T) rfl
  have hU : U.setVm U.vm = U := rfl
  rw [hU] at e
  unfold va_Ca
  rw [← e]
  exact h1
/-- the exceptions' constructors, declared -/
def declY : List MethodName := [⟨"java/lang/RuntimeException", "<init>", "()V"⟩, ⟨"java/lang/RuntimeException", "<init>", "(Ljava/lang/String;)V"⟩, ⟨"java/lang/Exception", "<init>", "()V"⟩, ⟨"java/lang/Exception", "<init>", "(Ljava/lang/String;)V"⟩, ⟨"java/lang/Throwable", "<init>", "()V"⟩, ⟨"java/lang/Throwable", "<init>", "(Ljava/lang/String;)V"⟩]
def declW : List Cond := declY.map Cond.declares
/-- facts of the tables -/
def TF (U : State) : Prop :=
  va_Fw RJx4a65c nL_add yJx4a65c_add_9ea2d U ∧ va_Fw RJx4a65c nL_size yJx4a65c_size_8abf5 U ∧ va_Fw RJx4a65c nL_get yJx4a65c_get_915e3 U ∧
  va_Nw (.methodLinkNest RX1 57 yX2_farther RX2) U ∧ (va_Ca sIS sIS U ∧ va_Ca sIA sIA U ∧ va_Ca sIO sIO U ∧ va_Ca RX0 "java/lang/Object" U ∧ va_Ca "[I" "java/lang/Cloneable" U) ∧ va_Nc sIS sIA U ∧
  (∃ mi : Nat, va_Mi "[Ljava/lang/Object;" mi U) ∧ va_Dc U ∧ va_AO "java/lang/Object" U ∧ (∀ y ∈ declY, va_Nw (.declares y) U) ∧
  (∃ a : Nat, vk_R RX2 50 "no more pieces" a U) ∧ (∃ a : Nat, vk_R RX2 59 "a paw was done already" a U) ∧ (∃ a : Nat, vk_R RX2 65 "another piece is there" a U) ∧ (∃ a : Nat, vk_R RX2 75 "the paw is refused" a U) ∧ (∃ a : Nat, vk_R RX2 77 "no more evenings" a U) ∧ (∃ a : Nat, vk_R RX2 96 "fewer paws were done" a U) ∧ (∃ a : Nat, vk_R RX2 101 "nothing to do again" a U) ∧ (∃ a : Nat, vk_R RX2 127 "no such piece" a U) ∧ (∃ a : Nat, vk_R RX2 213 "no such evening" a U) ∧ (∃ a : Nat, vk_R RX2 221 "no such paw" a U) ∧ (∃ a : Nat, vk_R RX2 227 "many is not 1 to 60" a U) ∧ (∃ a : Nat, vk_R RX2 232 "column or row is not 0 to 7" a U)
theorem TF.warm {s U : State} (hW : s.WarmedH U.vm) (h : TF s) : TF U := by
  obtain ⟨h1, h2, h3, h4, ⟨c1, c2, c3, c4, c5⟩, h5, ⟨mi, h6⟩, h7, h8, h9, ⟨a0, s0⟩, ⟨a1, s1⟩, ⟨a2, s2⟩, ⟨a3, s3⟩, ⟨a4, s4⟩, ⟨a5, s5⟩, ⟨a6, s6⟩, ⟨a7, s7⟩, ⟨a8, s8⟩, ⟨a9, s9⟩, ⟨a10, s10⟩, ⟨a11, s11⟩⟩ := h
  exact ⟨va_Fw.moved (by decide) hW.alike h1, va_Fw.moved (by decide) hW.alike h2, va_Fw.moved (by decide) hW.alike h3, va_Nw.warmM hW h4, ⟨c1.moved hW.alike, c2.moved hW.alike, c3.moved hW.alike, c4.moved hW.alike, c5.moved hW.alike⟩, h5.moved hW.alike, ⟨mi, h6.moved hW.alike⟩, h7.moved hW.alike, h8.moved hW.alike, fun y hy => va_Nw.warmD hW (h9 y hy), ⟨a0, s0.warm hW⟩, ⟨a1, s1.warm hW⟩, ⟨a2, s2.warm hW⟩, ⟨a3, s3.warm hW⟩, ⟨a4, s4.warm hW⟩, ⟨a5, s5.warm hW⟩, ⟨a6, s6.warm hW⟩, ⟨a7, s7.warm hW⟩, ⟨a8, s8.warm hW⟩, ⟨a9, s9.warm hW⟩, ⟨a10, s10.warm hW⟩, ⟨a11, s11.warm hW⟩⟩
/-- an int table that nobody writes -/
def tab (C n : String) (f : Nat → Int32) (A : Nat → Prop) (U : State) (H : Heap) : Prop := ∃ t : Nat, va_Z C n "[I" (.ref t) A U H ∧ va_T .int t 8 (fun j => .int (f j)) A U H
theorem tab.go {C n : String} {f : Nat → Int32} {A : Nat → Prop} {u U : State} {H H1 : Heap} (hvm : u.vm.Alike U.vm) (hq : ∀ a : Nat, a < H.size → ¬ A a → H1[a]? = H[a]?) (h : tab C n f A u H) : tab C n f A U H1 := by
  obtain ⟨t, h1, h2⟩ := h
  exact ⟨t, (h1.moved hvm).kept hq, (h2.moved hvm).kept hq⟩
def sE (A : Nat → Prop) (tE : Nat) (U : State) (H : Heap) : Prop := va_Z "java/util/ArrayList" "DEFAULTCAPACITY_EMPTY_ELEMENTDATA" "[Ljava/lang/Object;" (.ref tE) A U H ∧ va_T (.object "java/lang/Object") tE 0 (fun _ => .null) A U H
def SFh (A : Nat → Prop) (tE : Nat) (U : State) (H : Heap) : Prop :=
  tab "CatEvenings" "COLUMN_STEPS" colS A U H ∧ tab "CatEvenings" "ROW_STEPS" rowS A U H ∧ tab "CatEveningsModel" "ASIDE" colS A U H ∧ sE A tE U H ∧ vx_Zq Bundle.tN "UNASSIGNED_STACK" Bundle.steD A U H ∧ vx_Zq Bundle.tN "SUPPRESSED_SENTINEL" Bundle.listD A U H
theorem SFh.go {A : Nat → Prop} {tE : Nat} {u U : State} {H H1 : Heap} (hvm : u.vm.Alike U.vm) (hq : ∀ a : Nat, a < H.size → ¬ A a → H1[a]? = H[a]?) (h : SFh A tE u H) : SFh A tE U H1 := by
  obtain ⟨h1, h2, h3, ⟨h4, h5⟩, h6, h7⟩ := h
  exact ⟨h1.go hvm hq, h2.go hvm hq, h3.go hvm hq, ⟨(va_Z.moved hvm h4).kept hq, (va_T.moved hvm h5).kept hq⟩, (vx_Zq.moved hvm h6).kept hq, (vx_Zq.moved hvm h7).kept hq⟩
def SF (Y : YG) (U : State) (H : Heap) : Prop := SFh Y.A Y.tE U H ∧ TF U
/-- what holds where a method begins, and is given at a call -/
def WD (Y : YG) (h : AH) (U : State) : Prop := cw Y h U.heap ∧ (∀ q : Nat, U.heap.size ≤ q → Y.A q) ∧ va_K Y.D vwCl Y.tys U ∧ SF Y U U.heap
/-- what holds all through a method's frame -/
def Cx (p : Program) (s : State) (m : MethodId) (args : Array Value) (meth : Method) (c : Code) (Y : YG) (cc : ByteArray) (nL : Nat) (own : String) : Prop :=
  p.tables.exec = Jvm.exec ∧ c.code = cc ∧ c.maxLocals = nL ∧ s.vm.findClass own = some m.cls ∧ (∀ w ∈ AllW, w.before args s = true) ∧ va_K Y.D vwCl Y.tys s ∧ SF Y s s.heap ∧ (∀ q : Nat, s.heap.size ≤ q → Y.A q) ∧ meth.locks = false
def Gd (p : Program) (l : Launch) (e : Env) (R : Room) (s : State) (m : MethodId) (args : Array Value) (below : List Frame) (meth : Method) (c : Code) (Q : State → Prop) (Y : YG) (nL : Nat) (pc : Nat) (lv : List (Option Value)) (st : List Value) (h : AH) (k n : Nat) : Prop :=
  ∀ (H : Heap) (locs : List Loc) (ls : Array Slot), cw Y h H → va_S Y.A s.heap H locs → lh ls nL lv → W p l e R s m args below meth c H locs k n Q (F0 m pc ls st)
section GD
variable {p : Program} {l : Launch} {e : Env} {R : Room} {s : State} {m : MethodId} {args : Array Value} {below : List Frame} {meth : Method} {c : Code} {Q : State → Prop} {Y : YG} {nL : Nat} {cc : ByteArray} {own : String} {pc : Nat} {lv : List (Option Value)} {st : List Value} {h : AH} {k n : Nat}
theorem Cx.wd (C : Cx p s m args meth c Y cc nL own) {H : Heap} {locs : List Loc} (hc : cw Y h H) (hS : va_S Y.A s.heap H locs) : ∀ U : State, U.heap = H → s.WarmedH U.vm → WD Y h U := by
  obtain ⟨-, -, -, -, -, hK, ⟨hF1, hF2⟩, hA, -⟩ := C
  intro U hU hW
  subst hU
  exact ⟨hc, fun q hq => hA q (Nat.le_trans hS.1 hq), hK.moved hW.alike, hF1.go hW.alike hS.2.1, hF2.warm hW⟩
theorem WD.blind {As : List Value} : FrameBlind (va_Pc As (WD Y h)) := by
  intro a U g mk q
  obtain ⟨q0, q1, q2, q3, q4, q5⟩ := q
  exact ⟨q0, q1, q2, q3.moved (u := U) (U := U.calling g mk a) (Vm.Alike.refl U.vm), q4.go (u := U) (U := U.calling g mk a) (Vm.Alike.refl U.vm) (fun _ _ _ => rfl), q5.warm (s := U) (U := U.calling g mk a) (State.WarmedH.refl U)⟩
abbrev gQ (Gp : Nat → List (Option Value) → List Value → AH → Nat → Nat → Prop) : Prop := True
theorem Gd.wide {k2 n2 : Nat} (h1 : k ≤ k2) (h2 : n ≤ n2) (kk : Gd p l e R s m args below meth c Q Y nL pc lv st h k2 n2) : Gd p l e R s m args below meth c Q Y nL pc lv st h k n := fun H locs ls hc hS hl => W.widen h1 h2 (kk H locs ls hc hS hl)
theorem Gd.less {h2 : AH} (hk : ∀ a e, h2 a = some e → h a = some e) (kk : Gd p l e R s m args below meth c Q Y nL pc lv st h2 k n) : Gd p l e R s m args below meth c Q Y nL pc lv st h k n := fun H locs ls hc hS hl => kk H locs ls (hc.less hk) hS hl
theorem Gd.relv {lv2 : List (Option Value)} (hk : ∀ (i : Nat) (v : Value), lv2[i]? = some (some v) → lv[i]? = some (some v)) (kk : Gd p l e R s m args below meth c Q Y nL pc lv2 st h k n) : Gd p l e R s m args below meth c Q Y nL pc lv st h k n := fun H locs ls hc hS hl => kk H locs ls hc hS (lh.of hl.1 hl.2.1 (fun i v hv => hl.at (hk i v hv)))
theorem g_iconst (C : Cx p s m args meth c Y cc nL own) {i : Int} {v : Int32} (hd : decode cc pc = .ok (.iconst i, 1)) (hv : Int32.ofInt i = v) (kk : Gd p l e R s m args below meth c Q Y nL (pc + 1) lv (.int v :: st) h k n) : Gd p l e R s m args below meth c Q Y nL pc lv st h k n := by
  obtain ⟨hx, hb, -, hown, hts, -⟩ := C
  intro H locs ls hc hS hl
  exact lv_iconst hx hb hd hv (kk H locs ls hc hS hl)
theorem g_bipush (C : Cx p s m args meth c Y cc nL own) {i : Int} {v : Int32} (hd : decode cc pc = .ok (.bipush i, 2)) (hv : (Int8.ofInt i).toInt32 = v) (kk : Gd p l e R s m args below meth c Q Y nL (pc + 2) lv (.int v :: st) h k n) : Gd p l e R s m args below meth c Q Y nL pc lv st h k n := by
  obtain ⟨hx, hb, -, hown, hts, -⟩ := C
  intro H locs ls hc hS hl
  exact lv_bipush hx hb hd hv (kk H locs ls hc hS hl)
theorem g_sipush (C : Cx p s m args meth c Y cc nL own) {i : Int} {v : Int32} (hd : decode cc pc = .ok (.sipush i, 3)) (hv : (Int16.ofInt i).toInt32 = v) (kk : Gd p l e R s m args below meth c Q Y nL (pc + 3) lv (.int v :: st) h k n) : Gd p l e R s m args below meth c Q Y nL pc lv st h k n := by
  obtain ⟨hx, hb, -, hown, hts, -⟩ := C
  intro H locs ls hc hS hl
  exact lv_sipush hx hb hd hv (kk H locs ls hc hS hl)
theorem g_lconst (C : Cx p s m args meth c Y cc nL own) {i : Fin 2} {v : Int64} (hd : decode cc pc = .ok (.lconst i, 1)) (hv : Int64.ofNat (i : Nat) = v) (kk : Gd p l e R s m args below meth c Q Y nL (pc + 1) lv (.long v :: st) h k n) : Gd p l e R s m args below meth c Q Y nL pc lv st h k n := by
  obtain ⟨hx, hb, -, hown, hts, -⟩ := C
  intro H locs ls hc hS hl
  exact lv_lconst hx hb hd hv (kk H locs ls hc hS hl)
theorem g_dconst0 (C : Cx p s m args meth c Y cc nL own) (hd : decode cc pc = .ok (.dconst 0, 1)) (kk : Gd p l e R s m args below meth c Q Y nL (pc + 1) lv (.double FP.dconst0 :: st) h k n) : Gd p l e R s m args below meth c Q Y nL pc lv st h k n := by
  obtain ⟨hx, hb, -, hown, hts, -⟩ := C
  intro H locs ls hc hS hl
  exact lv_dconst0 hx hb hd (kk H locs ls hc hS hl)
theorem g_null (C : Cx p s m args meth c Y cc nL own) (hd : decode cc pc = .ok (.aconst_null, 1)) (kk : Gd p l e R s m args below meth c Q Y nL (pc + 1) lv (.null :: st) h k n) : Gd p l e R s m args below meth c Q Y nL pc lv st h k n := by
  obtain ⟨hx, hb, -, hown, hts, -⟩ := C
  intro H locs ls hc hS hl
  exact lv_null hx hb hd (kk H locs ls hc hS hl)
theorem g_ldc (C : Cx p s m args meth c Y cc nL own) {i : Nat} {v : Int32} (hd : decode cc pc = .ok (.ldc i, 2)) (hw : Cond.constant own i v ∈ AllW) (kk : Gd p l e R s m args below meth c Q Y nL (pc + 2) lv (.int v :: st) h k n) : Gd p l e R s m args below meth c Q Y nL pc lv st h k n := by
  obtain ⟨hx, hb, -, hown, hts, -⟩ := C
  intro H locs ls hc hS hl
  exact lv_ldc hx hb hown (hts _ hw) hd (kk H locs ls hc hS hl)
theorem g_ldcw (C : Cx p s m args meth c Y cc nL own) {i : Nat} {v : Int32} (hd : decode cc pc = .ok (.ldc_w i, 3)) (hw : Cond.constant own i v ∈ AllW) (kk : Gd p l e R s m args below meth c Q Y nL (pc + 3) lv (.int v :: st) h k n) : Gd p l e R s m args below meth c Q Y nL pc lv st h k n := by
  obtain ⟨hx, hb, -, hown, hts, -⟩ := C
  intro H locs ls hc hS hl
  exact lv_ldcw hx hb hown (hts _ hw) hd (kk H locs ls hc hS hl)
theorem g_ldc2 (C : Cx p s m args meth c Y cc nL own) {i : Nat} {v : Int64} (hd : decode cc pc = .ok (.ldc2_w i, 3)) (hw : Cond.constantLong own i v ∈ AllW) (kk : Gd p l e R s m args below meth c Q Y nL (pc + 3) lv (.long v :: st) h k n) : Gd p l e R s m args below meth c Q Y nL pc lv st h k n := by
  obtain ⟨hx, hb, -, hown, hts, -⟩ := C
  intro H locs ls hc hS hl
  exact lv_ldc2 hx hb hown (hts _ hw) hd (kk H locs ls hc hS hl)
theorem g_iload_n (C : Cx p s m args meth c Y cc nL own) {i : Fin 4} {x : Int32} (hd : decode cc pc = .ok (.iload_n i, 1)) (hv : lv[(i : Nat)]? = some (some (.int x))) (kk : Gd p l e R s m args below meth c Q Y nL (pc + 1) lv (.int x :: st) h k n) : Gd p l e R s m args below meth c Q Y nL pc lv st h k n := by
  obtain ⟨hx, hb, -, hown, hts, -⟩ := C
  intro H locs ls hc hS hl
  exact lv_iload_n hx hb hd rfl (hl.at hv) (kk H locs ls hc hS hl)
theorem g_iload (C : Cx p s m args meth c Y cc nL own) {i : Nat} {x : Int32} (hd : decode cc pc = .ok (.iload i, 2)) (hv : lv[i]? = some (some (.int x))) (kk : Gd p l e R s m args below meth c Q Y nL (pc + 2) lv (.int x :: st) h k n) : Gd p l e R s m args below meth c Q Y nL pc lv st h k n := by
  obtain ⟨hx, hb, -, hown, hts, -⟩ := C
  intro H locs ls hc hS hl
  exact lv_iload hx hb hd (hl.at hv) (kk H locs ls hc hS hl)
theorem g_istore_n (C : Cx p s m args meth c Y cc nL own) {i : Fin 4} {x : Int32} (hd : decode cc pc = .ok (.istore_n i, 1)) (hn : (i : Nat) < nL) (kk : Gd p l e R s m args below meth c Q Y nL (pc + 1) (lset lv (i : Nat) (.int x)) st h k n) : Gd p l e R s m args below meth c Q Y nL pc lv (.int x :: st) h k n := by
  obtain ⟨hx, hb, -, hown, hts, -⟩ := C
  intro H locs ls hc hS hl
  exact lv_istore_n hx hb hd rfl hl hn rfl (fun ls2 hl2 => kk H locs ls2 hc hS (lh.set hl2))
theorem g_istore (C : Cx p s m args meth c Y cc nL own) {i : Nat} {x : Int32} (hd : decode cc pc = .ok (.istore i, 2)) (hn : i < nL) (kk : Gd p l e R s m args below meth c Q Y nL (pc + 2) (lset lv i (.int x)) st h k n) : Gd p l e R s m args below meth c Q Y nL pc lv (.int x :: st) h k n := by
  obtain ⟨hx, hb, -, hown, hts, -⟩ := C
  intro H locs ls hc hS hl
  exact lv_istore hx hb hd hl hn rfl (fun ls2 hl2 => kk H locs ls2 hc hS (lh.set hl2))
theorem g_lload_n (C : Cx p s m args meth c Y cc nL own) {i : Fin 4} {x : Int64} (hd : decode cc pc = .ok (.lload_n i, 1)) (hv : lv[(i : Nat)]? = some (some (.long x))) (kk : Gd p l e R s m args below meth c Q Y nL (pc + 1) lv (.long x :: st) h k n) : Gd p l e R s m args below meth c Q Y nL pc lv st h k n := by
  obtain ⟨hx, hb, -, hown, hts, -⟩ := C
  intro H locs ls hc hS hl
  exact lv_lload_n hx hb hd rfl (hl.at hv) (kk H locs ls hc hS hl)
theorem g_lload (C : Cx p s m args meth c Y cc nL own) {i : Nat} {x : Int64} (hd : decode cc pc = .ok (.lload i, 2)) (hv : lv[i]? = some (some (.long x))) (kk : Gd p l e R s m args below meth c Q Y nL (pc + 2) lv (.long x :: st) h k n) : Gd p l e R s m args below meth c Q Y nL pc lv st h k n := by
  obtain ⟨hx, hb, -, hown, hts, -⟩ := C
  intro H locs ls hc hS hl
  exact lv_lload hx hb hd (hl.at hv) (kk H locs ls hc hS hl)
theorem g_lstore_n (C : Cx p s m args meth c Y cc nL own) {i : Fin 4} {x : Int64} (hd : decode cc pc = .ok (.lstore_n i, 1)) (hn : (i : Nat) + 1 < nL) (kk : Gd p l e R s m args below meth c Q Y nL (pc + 1) (lset2 lv (i : Nat) (.long x)) st h k n) : Gd p l e R s m args below meth c Q Y nL pc lv (.long x :: st) h k n := by
  obtain ⟨hx, hb, -, hown, hts, -⟩ := C
  intro H locs ls hc hS hl
  exact lv_lstore_n hx hb hd rfl hl hn rfl (fun ls2 hl2 => kk H locs ls2 hc hS (lh.set2 hl2))
theorem g_lstore (C : Cx p s m args meth c Y cc nL own) {i : Nat} {x : Int64} (hd : decode cc pc = .ok (.lstore i, 2)) (hn : i + 1 < nL) (kk : Gd p l e R s m args below meth c Q Y nL (pc + 2) (lset2 lv i (.long x)) st h k n) : Gd p l e R s m args below meth c Q Y nL pc lv (.long x :: st) h k n := by
  obtain ⟨hx, hb, -, hown, hts, -⟩ := C
  intro H locs ls hc hS hl
  exact lv_lstore hx hb hd hl hn rfl (fun ls2 hl2 => kk H locs ls2 hc hS (lh.set2 hl2))
theorem g_dload_n (C : Cx p s m args meth c Y cc nL own) {i : Fin 4} {x : UInt64} (hd : decode cc pc = .ok (.dload_n i, 1)) (hv : lv[(i : Nat)]? = some (some (.double x))) (kk : Gd p l e R s m args below meth c Q Y nL (pc + 1) lv (.double x :: st) h k n) : Gd p l e R s m args below meth c Q Y nL pc lv st h k n := by
  obtain ⟨hx, hb, -, hown, hts, -⟩ := C
  intro H locs ls hc hS hl
  exact lv_dload_n hx hb hd rfl (hl.at hv) (kk H locs ls hc hS hl)
theorem g_dload (C : Cx p s m args meth c Y cc nL own) {i : Nat} {x : UInt64} (hd : decode cc pc = .ok (.dload i, 2)) (hv : lv[i]? = some (some (.double x))) (kk : Gd p l e R s m args below meth c Q Y nL (pc + 2) lv (.double x :: st) h k n) : Gd p l e R s m args below meth c Q Y nL pc lv st h k n := by
  obtain ⟨hx, hb, -, hown, hts, -⟩ := C
  intro H locs ls hc hS hl
  exact lv_dload hx hb hd (hl.at hv) (kk H locs ls hc hS hl)
theorem g_dstore_n (C : Cx p s m args meth c Y cc nL own) {i : Fin 4} {x : UInt64} (hd : decode cc pc = .ok (.dstore_n i, 1)) (hn : (i : Nat) + 1 < nL) (kk : Gd p l e R s m args below meth c Q Y nL (pc + 1) (lset2 lv (i : Nat) (.double x)) st h k n) : Gd p l e R s m args below meth c Q Y nL pc lv (.double x :: st) h k n := by
  obtain ⟨hx, hb, -, hown, hts, -⟩ := C
  intro H locs ls hc hS hl
  exact lv_dstore_n hx hb hd rfl hl hn rfl (fun ls2 hl2 => kk H locs ls2 hc hS (lh.set2 hl2))
theorem g_dstore (C : Cx p s m args meth c Y cc nL own) {i : Nat} {x : UInt64} (hd : decode cc pc = .ok (.dstore i, 2)) (hn : i + 1 < nL) (kk : Gd p l e R s m args below meth c Q Y nL (pc + 2) (lset2 lv i (.double x)) st h k n) : Gd p l e R s m args below meth c Q Y nL pc lv (.double x :: st) h k n := by
  obtain ⟨hx, hb, -, hown, hts, -⟩ := C
  intro H locs ls hc hS hl
  exact lv_dstore hx hb hd hl hn rfl (fun ls2 hl2 => kk H locs ls2 hc hS (lh.set2 hl2))
theorem g_aload_n (C : Cx p s m args meth c Y cc nL own) {i : Fin 4} {v : Value} (hd : decode cc pc = .ok (.aload_n i, 1)) (hv : lv[(i : Nat)]? = some (some v)) (hr : isR v = true) (kk : Gd p l e R s m args below meth c Q Y nL (pc + 1) lv (v :: st) h k n) : Gd p l e R s m args below meth c Q Y nL pc lv st h k n := by
  obtain ⟨hx, hb, -⟩ := C
  intro H locs ls hc hS hl
  rcases isR_or hr with rfl | ⟨a, rfl⟩
  · exact lv_aload_nN hx hb hd rfl (hl.at hv) (kk H locs ls hc hS hl)
  · exact lv_aload_n hx hb hd rfl (hl.at hv) (kk H locs ls hc hS hl)
theorem g_astore_n (C : Cx p s m args meth c Y cc nL own) {i : Fin 4} {v : Value} (hd : decode cc pc = .ok (.astore_n i, 1)) (hn : (i : Nat) < nL) (hr : isR v = true) (kk : Gd p l e R s m args below meth c Q Y nL (pc + 1) (lset lv (i : Nat) v) st h k n) : Gd p l e R s m args below meth c Q Y nL pc lv (v :: st) h k n := by
  obtain ⟨hx, hb, -⟩ := C
  intro H locs ls hc hS hl
  rcases isR_or hr with rfl | ⟨a, rfl⟩
  · exact lv_astore_nN hx hb hd rfl hl hn rfl (fun ls2 hl2 => kk H locs ls2 hc hS (lh.set hl2))
  · exact lv_astore_n hx hb hd rfl hl hn rfl (fun ls2 hl2 => kk H locs ls2 hc hS (lh.set hl2))
theorem g_aload (C : Cx p s m args meth c Y cc nL own) {i : Nat} {v : Value} (hd : decode cc pc = .ok (.aload i, 2)) (hv : lv[i]? = some (some v)) (hr : isR v = true) (kk : Gd p l e R s m args below meth c Q Y nL (pc + 2) lv (v :: st) h k n) : Gd p l e R s m args below meth c Q Y nL pc lv st h k n := by
  obtain ⟨hx, hb, -⟩ := C
  intro H locs ls hc hS hl
  rcases isR_or hr with rfl | ⟨a, rfl⟩
  · exact lv_aloadN hx hb hd (hl.at hv) (kk H locs ls hc hS hl)
  · exact lv_aload hx hb hd (hl.at hv) (kk H locs ls hc hS hl)
theorem g_astore (C : Cx p s m args meth c Y cc nL own) {i : Nat} {v : Value} (hd : decode cc pc = .ok (.astore i, 2)) (hn : i < nL) (hr : isR v = true) (kk : Gd p l e R s m args below meth c Q Y nL (pc + 2) (lset lv i v) st h k n) : Gd p l e R s m args below meth c Q Y nL pc lv (v :: st) h k n := by
  obtain ⟨hx, hb, -⟩ := C
  intro H locs ls hc hS hl
  rcases isR_or hr with rfl | ⟨a, rfl⟩
  · exact lv_astoreN hx hb hd hl hn rfl (fun ls2 hl2 => kk H locs ls2 hc hS (lh.set hl2))
  · exact lv_astore hx hb hd hl hn rfl (fun ls2 hl2 => kk H locs ls2 hc hS (lh.set hl2))
theorem lpr_place {lv : List (Option Value)} {i : Nat} {v : Value} (hv : lv[i]? = some (some v)) : ∃ j : Nat, (lpr 0 lv)[j]? = some (i, v) := by
  have := lpr_in lv 0 i v hv
  rw [Nat.zero_add] at this
  exact List.getElem?_of_mem this
theorem g_iinc (C : Cx p s m args meth c Y cc nL own) {i : Nat} {q : Int} {x : Int32} (hd : decode cc pc = .ok (.iinc i q, 3)) (hv : lv[i]? = some (some (.int x))) (hn : i < nL) (kk : Gd p l e R s m args below meth c Q Y nL (pc + 3) (lset lv i (.int (x + Int32.ofInt q))) st h k n) : Gd p l e R s m args below meth c Q Y nL pc lv st h k n := by
  obtain ⟨hx, hb, -⟩ := C
  intro H locs ls hc hS hl
  obtain ⟨j, hj⟩ := lpr_place hv
  exact lv_iinc hx hb hd hl hj rfl hn rfl (fun ls2 hl2 => kk H locs ls2 hc hS (lh.set hl2))
theorem g_iadd (C : Cx p s m args meth c Y cc nL own) {x y : Int32} (hd : decode cc pc = .ok (.iadd, 1)) (kk : Gd p l e R s m args below meth c Q Y nL (pc + 1) lv (.int (x + y) :: st) h k n) : Gd p l e R s m args below meth c Q Y nL pc lv (.int y :: .int x :: st) h k n := by
  obtain ⟨hx, hb, -, hown, hts, -⟩ := C
  intro H locs ls hc hS hl
  exact lv_iadd hx hb hd (kk H locs ls hc hS hl)
theorem g_isub (C : Cx p s m args meth c Y cc nL own) {x y : Int32} (hd : decode cc pc = .ok (.isub, 1)) (kk : Gd p l e R s m args below meth c Q Y nL (pc + 1) lv (.int (x - y) :: st) h k n) : Gd p l e R s m args below meth c Q Y nL pc lv (.int y :: .int x :: st) h k n := by
  obtain ⟨hx, hb, -, hown, hts, -⟩ := C
  intro H locs ls hc hS hl
  exact lv_isub hx hb hd (kk H locs ls hc hS hl)
theorem g_imul (C : Cx p s m args meth c Y cc nL own) {x y : Int32} (hd : decode cc pc = .ok (.imul, 1)) (kk : Gd p l e R s m args below meth c Q Y nL (pc + 1) lv (.int (x * y) :: st) h k n) : Gd p l e R s m args below meth c Q Y nL pc lv (.int y :: .int x :: st) h k n := by
  obtain ⟨hx, hb, -, hown, hts, -⟩ := C
  intro H locs ls hc hS hl
  exact lv_imul hx hb hd (kk H locs ls hc hS hl)
theorem g_iand (C : Cx p s m args meth c Y cc nL own) {x y : Int32} (hd : decode cc pc = .ok (.iand, 1)) (kk : Gd p l e R s m args below meth c Q Y nL (pc + 1) lv (.int (x &&& y) :: st) h k n) : Gd p l e R s m args below meth c Q Y nL pc lv (.int y :: .int x :: st) h k n := by
  obtain ⟨hx, hb, -, hown, hts, -⟩ := C
  intro H locs ls hc hS hl
  exact lv_iand hx hb hd (kk H locs ls hc hS hl)
theorem g_ior (C : Cx p s m args meth c Y cc nL own) {x y : Int32} (hd : decode cc pc = .ok (.ior, 1)) (kk : Gd p l e R s m args below meth c Q Y nL (pc + 1) lv (.int (x ||| y) :: st) h k n) : Gd p l e R s m args below meth c Q Y nL pc lv (.int y :: .int x :: st) h k n := by
  obtain ⟨hx, hb, -, hown, hts, -⟩ := C
  intro H locs ls hc hS hl
  exact lv_ior hx hb hd (kk H locs ls hc hS hl)
theorem g_ixor (C : Cx p s m args meth c Y cc nL own) {x y : Int32} (hd : decode cc pc = .ok (.ixor, 1)) (kk : Gd p l e R s m args below meth c Q Y nL (pc + 1) lv (.int (x ^^^ y) :: st) h k n) : Gd p l e R s m args below meth c Q Y nL pc lv (.int y :: .int x :: st) h k n := by
  obtain ⟨hx, hb, -, hown, hts, -⟩ := C
  intro H locs ls hc hS hl
  exact lv_ixor hx hb hd (kk H locs ls hc hS hl)
theorem g_ishl (C : Cx p s m args meth c Y cc nL own) {x y : Int32} (hd : decode cc pc = .ok (.ishl, 1)) (kk : Gd p l e R s m args below meth c Q Y nL (pc + 1) lv (.int (x <<< (y &&& 31)) :: st) h k n) : Gd p l e R s m args below meth c Q Y nL pc lv (.int y :: .int x :: st) h k n := by
  obtain ⟨hx, hb, -, hown, hts, -⟩ := C
  intro H locs ls hc hS hl
  exact lv_ishl hx hb hd (kk H locs ls hc hS hl)
theorem g_ishr (C : Cx p s m args meth c Y cc nL own) {x y : Int32} (hd : decode cc pc = .ok (.ishr, 1)) (kk : Gd p l e R s m args below meth c Q Y nL (pc + 1) lv (.int (x >>> (y &&& 31)) :: st) h k n) : Gd p l e R s m args below meth c Q Y nL pc lv (.int y :: .int x :: st) h k n := by
  obtain ⟨hx, hb, -, hown, hts, -⟩ := C
  intro H locs ls hc hS hl
  exact lv_ishr hx hb hd (kk H locs ls hc hS hl)
theorem g_idiv (C : Cx p s m args meth c Y cc nL own) {x y : Int32} (hd : decode cc pc = .ok (.idiv, 1)) (hne : ¬ y = 0) (kk : Gd p l e R s m args below meth c Q Y nL (pc + 1) lv (.int (x / y) :: st) h k n) : Gd p l e R s m args below meth c Q Y nL pc lv (.int y :: .int x :: st) h k n := by
  obtain ⟨hx, hb, -, hown, hts, -⟩ := C
  intro H locs ls hc hS hl
  exact lv_idiv hx hb hd hne (kk H locs ls hc hS hl)
theorem g_irem (C : Cx p s m args meth c Y cc nL own) {x y : Int32} (hd : decode cc pc = .ok (.irem, 1)) (hne : ¬ y = 0) (kk : Gd p l e R s m args below meth c Q Y nL (pc + 1) lv (.int (x - x / y * y) :: st) h k n) : Gd p l e R s m args below meth c Q Y nL pc lv (.int y :: .int x :: st) h k n := by
  obtain ⟨hx, hb, -, hown, hts, -⟩ := C
  intro H locs ls hc hS hl
  exact lv_irem hx hb hd hne (kk H locs ls hc hS hl)
theorem g_iushr (C : Cx p s m args meth c Y cc nL own) {x y : Int32} (hd : decode cc pc = .ok (.iushr, 1)) (kk : Gd p l e R s m args below meth c Q Y nL (pc + 1) lv (.int ((x.toUInt32 >>> (y.toUInt32 &&& Int32.toUInt32 31)).toInt32) :: st) h k n) : Gd p l e R s m args below meth c Q Y nL pc lv (.int y :: .int x :: st) h k n := by
  obtain ⟨hx, hb, -, hown, hts, -⟩ := C
  intro H locs ls hc hS hl
  exact lv_iushr hx hb hd rfl (kk H locs ls hc hS hl)
theorem g_ineg (C : Cx p s m args meth c Y cc nL own) {x : Int32} (hd : decode cc pc = .ok (.ineg, 1)) (kk : Gd p l e R s m args below meth c Q Y nL (pc + 1) lv (.int (0 - x) :: st) h k n) : Gd p l e R s m args below meth c Q Y nL pc lv (.int x :: st) h k n := by
  obtain ⟨hx, hb, -, hown, hts, -⟩ := C
  intro H locs ls hc hS hl
  exact lv_ineg hx hb hd (kk H locs ls hc hS hl)
theorem g_ladd (C : Cx p s m args meth c Y cc nL own) {x y : Int64} (hd : decode cc pc = .ok (.ladd, 1)) (kk : Gd p l e R s m args below meth c Q Y nL (pc + 1) lv (.long (x + y) :: st) h k n) : Gd p l e R s m args below meth c Q Y nL pc lv (.long y :: .long x :: st) h k n := by
  obtain ⟨hx, hb, -, hown, hts, -⟩ := C
  intro H locs ls hc hS hl
  exact lv_ladd hx hb hd (kk H locs ls hc hS hl)
theorem g_lmul (C : Cx p s m args meth c Y cc nL own) {x y : Int64} (hd : decode cc pc = .ok (.lmul, 1)) (kk : Gd p l e R s m args below meth c Q Y nL (pc + 1) lv (.long (x * y) :: st) h k n) : Gd p l e R s m args below meth c Q Y nL pc lv (.long y :: .long x :: st) h k n := by
  obtain ⟨hx, hb, -, hown, hts, -⟩ := C
  intro H locs ls hc hS hl
  exact lv_lmul hx hb hd (kk H locs ls hc hS hl)
theorem g_i2l (C : Cx p s m args meth c Y cc nL own) {x : Int32} (hd : decode cc pc = .ok (.i2l, 1)) (kk : Gd p l e R s m args below meth c Q Y nL (pc + 1) lv (.long x.toInt64 :: st) h k n) : Gd p l e R s m args below meth c Q Y nL pc lv (.int x :: st) h k n := by
  obtain ⟨hx, hb, -, hown, hts, -⟩ := C
  intro H locs ls hc hS hl
  exact lv_i2l hx hb hd rfl (kk H locs ls hc hS hl)
theorem g_i2d (C : Cx p s m args meth c Y cc nL own) {x : Int32} (hd : decode cc pc = .ok (.i2d, 1)) (kk : Gd p l e R s m args below meth c Q Y nL (pc + 1) lv (.double (FP.i2d x) :: st) h k n) : Gd p l e R s m args below meth c Q Y nL pc lv (.int x :: st) h k n := by
  obtain ⟨hx, hb, -, hown, hts, -⟩ := C
  intro H locs ls hc hS hl
  exact lv_i2d hx hb hd (kk H locs ls hc hS hl)
theorem g_ddiv (C : Cx p s m args meth c Y cc nL own) {x y : UInt64} (hd : decode cc pc = .ok (.ddiv, 1)) (hne : vf_n64 (FP.ddiv x y)) (kk : Gd p l e R s m args below meth c Q Y nL (pc + 1) lv (.double (FP.ddiv x y) :: st) h k n) : Gd p l e R s m args below meth c Q Y nL pc lv (.double y :: .double x :: st) h k n := by
  obtain ⟨hx, hb, -, hown, hts, -⟩ := C
  intro H locs ls hc hS hl
  exact lv_ddiv hx hb hd hne (kk H locs ls hc hS hl)
theorem g_dcmp (C : Cx p s m args meth c Y cc nL own) {x y : UInt64} {op : CmpOp} (hd : decode cc pc = .ok (.dcmp op, 1)) (kk : Gd p l e R s m args below meth c Q Y nL (pc + 1) lv (.int (Op.cmpValue (FP.dcmp x y) op) :: st) h k n) : Gd p l e R s m args below meth c Q Y nL pc lv (.double y :: .double x :: st) h k n := by
  obtain ⟨hx, hb, -, hown, hts, -⟩ := C
  intro H locs ls hc hS hl
  exact lv_dcmp hx hb hd (kk H locs ls hc hS hl)
theorem g_lcmp (C : Cx p s m args meth c Y cc nL own) {x y : Int64} (hd : decode cc pc = .ok (.lcmp, 1)) (kk : Gd p l e R s m args below meth c Q Y nL (pc + 1) lv (.int (lg_cmp x y) :: st) h k n) : Gd p l e R s m args below meth c Q Y nL pc lv (.long y :: .long x :: st) h k n := by
  obtain ⟨hx, hb, -, hown, hts, -⟩ := C
  intro H locs ls hc hS hl
  exact W.lcmp hx hb hd (kk H locs ls hc hS hl)
theorem g_dup (C : Cx p s m args meth c Y cc nL own) {v : Value} (hd : decode cc pc = .ok (.dup, 1)) (hc1 : v.category = 1) (kk : Gd p l e R s m args below meth c Q Y nL (pc + 1) lv (v :: v :: st) h k n) : Gd p l e R s m args below meth c Q Y nL pc lv (v :: st) h k n := by
  obtain ⟨hx, hb, -, hown, hts, -⟩ := C
  intro H locs ls hc hS hl
  exact lv_dup hx hb hd hc1 (kk H locs ls hc hS hl)
theorem g_pop (C : Cx p s m args meth c Y cc nL own) {v : Value} (hd : decode cc pc = .ok (.pop, 1)) (hc1 : v.category = 1) (kk : Gd p l e R s m args below meth c Q Y nL (pc + 1) lv st h k n) : Gd p l e R s m args below meth c Q Y nL pc lv (v :: st) h k n := by
  obtain ⟨hx, hb, -, hown, hts, -⟩ := C
  intro H locs ls hc hS hl
  exact lv_pop hx hb hd hc1 (kk H locs ls hc hS hl)
theorem g_dup_x1 (C : Cx p s m args meth c Y cc nL own) {v w : Value} (hd : decode cc pc = .ok (.dup_x1, 1)) (hc1 : v.category = 1) (hc2 : w.category = 1) (kk : Gd p l e R s m args below meth c Q Y nL (pc + 1) lv (v :: w :: v :: st) h k n) : Gd p l e R s m args below meth c Q Y nL pc lv (v :: w :: st) h k n := by
  obtain ⟨hx, hb, -, hown, hts, -⟩ := C
  intro H locs ls hc hS hl
  exact lv_dup_x1 hx hb hd hc1 hc2 (kk H locs ls hc hS hl)
theorem g_dup2 (C : Cx p s m args meth c Y cc nL own) {v w : Value} (hd : decode cc pc = .ok (.dup2, 1)) (hc1 : v.category = 1) (hc2 : w.category = 1) (kk : Gd p l e R s m args below meth c Q Y nL (pc + 1) lv (v :: w :: v :: w :: st) h k n) : Gd p l e R s m args below meth c Q Y nL pc lv (v :: w :: st) h k n := by
  obtain ⟨hx, hb, -, hown, hts, -⟩ := C
  intro H locs ls hc hS hl
  exact lv_dup2_11 hx hb hd hc1 hc2 (kk H locs ls hc hS hl)
theorem g_if_eq (C : Cx p s m args meth c Y cc nL own) {x : Int32} {off : Int} {tgt : Nat} (hd : decode cc pc = .ok (.ifCond .eq off, 3)) (ht : (pc : Int) + off = (tgt : Int)) (kt : x = 0 → Gd p l e R s m args below meth c Q Y nL tgt lv st h k n) (kf : ¬ (x = 0) → Gd p l e R s m args below meth c Q Y nL (pc + 3) lv st h k n) : Gd p l e R s m args below meth c Q Y nL pc lv (.int x :: st) h k n := by
  obtain ⟨hx, hb, -⟩ := C
  intro H locs ls hc hS hl
  exact lv_if_eq hx hb hd ht (fun q => kt q H locs ls hc hS hl) (fun q => kf q H locs ls hc hS hl)
theorem g_if_ne (C : Cx p s m args meth c Y cc nL own) {x : Int32} {off : Int} {tgt : Nat} (hd : decode cc pc = .ok (.ifCond .ne off, 3)) (ht : (pc : Int) + off = (tgt : Int)) (kt : ¬ x = 0 → Gd p l e R s m args below meth c Q Y nL tgt lv st h k n) (kf : x = 0 → Gd p l e R s m args below meth c Q Y nL (pc + 3) lv st h k n) : Gd p l e R s m args below meth c Q Y nL pc lv (.int x :: st) h k n := by
  obtain ⟨hx, hb, -⟩ := C
  intro H locs ls hc hS hl
  exact lv_if_ne hx hb hd ht (fun q => kt q H locs ls hc hS hl) (fun q => kf q H locs ls hc hS hl)
theorem g_if_lt (C : Cx p s m args meth c Y cc nL own) {x : Int32} {off : Int} {tgt : Nat} (hd : decode cc pc = .ok (.ifCond .lt off, 3)) (ht : (pc : Int) + off = (tgt : Int)) (kt : x < 0 → Gd p l e R s m args below meth c Q Y nL tgt lv st h k n) (kf : ¬ (x < 0) → Gd p l e R s m args below meth c Q Y nL (pc + 3) lv st h k n) : Gd p l e R s m args below meth c Q Y nL pc lv (.int x :: st) h k n := by
  obtain ⟨hx, hb, -⟩ := C
  intro H locs ls hc hS hl
  exact lv_if_lt hx hb hd ht (fun q => kt q H locs ls hc hS hl) (fun q => kf q H locs ls hc hS hl)
theorem g_if_ge (C : Cx p s m args meth c Y cc nL own) {x : Int32} {off : Int} {tgt : Nat} (hd : decode cc pc = .ok (.ifCond .ge off, 3)) (ht : (pc : Int) + off = (tgt : Int)) (kt : 0 ≤ x → Gd p l e R s m args below meth c Q Y nL tgt lv st h k n) (kf : ¬ (0 ≤ x) → Gd p l e R s m args below meth c Q Y nL (pc + 3) lv st h k n) : Gd p l e R s m args below meth c Q Y nL pc lv (.int x :: st) h k n := by
  obtain ⟨hx, hb, -⟩ := C
  intro H locs ls hc hS hl
  exact lv_if_ge hx hb hd ht (fun q => kt q H locs ls hc hS hl) (fun q => kf q H locs ls hc hS hl)
theorem g_if_gt (C : Cx p s m args meth c Y cc nL own) {x : Int32} {off : Int} {tgt : Nat} (hd : decode cc pc = .ok (.ifCond .gt off, 3)) (ht : (pc : Int) + off = (tgt : Int)) (kt : 0 < x → Gd p l e R s m args below meth c Q Y nL tgt lv st h k n) (kf : ¬ (0 < x) → Gd p l e R s m args below meth c Q Y nL (pc + 3) lv st h k n) : Gd p l e R s m args below meth c Q Y nL pc lv (.int x :: st) h k n := by
  obtain ⟨hx, hb, -⟩ := C
  intro H locs ls hc hS hl
  exact lv_if_gt hx hb hd ht (fun q => kt q H locs ls hc hS hl) (fun q => kf q H locs ls hc hS hl)
theorem g_if_le (C : Cx p s m args meth c Y cc nL own) {x : Int32} {off : Int} {tgt : Nat} (hd : decode cc pc = .ok (.ifCond .le off, 3)) (ht : (pc : Int) + off = (tgt : Int)) (kt : x ≤ 0 → Gd p l e R s m args below meth c Q Y nL tgt lv st h k n) (kf : ¬ (x ≤ 0) → Gd p l e R s m args below meth c Q Y nL (pc + 3) lv st h k n) : Gd p l e R s m args below meth c Q Y nL pc lv (.int x :: st) h k n := by
  obtain ⟨hx, hb, -⟩ := C
  intro H locs ls hc hS hl
  exact lv_if_le hx hb hd ht (fun q => kt q H locs ls hc hS hl) (fun q => kf q H locs ls hc hS hl)
theorem g_icmp_eq (C : Cx p s m args meth c Y cc nL own) {x y : Int32} {off : Int} {tgt : Nat} (hd : decode cc pc = .ok (.if_icmp .eq off, 3)) (ht : (pc : Int) + off = (tgt : Int)) (kt : x = y → Gd p l e R s m args below meth c Q Y nL tgt lv st h k n) (kf : ¬ (x = y) → Gd p l e R s m args below meth c Q Y nL (pc + 3) lv st h k n) : Gd p l e R s m args below meth c Q Y nL pc lv (.int y :: .int x :: st) h k n := by
  obtain ⟨hx, hb, -⟩ := C
  intro H locs ls hc hS hl
  exact lv_icmp_eq hx hb hd ht (fun q => kt q H locs ls hc hS hl) (fun q => kf q H locs ls hc hS hl)
theorem g_icmp_ne (C : Cx p s m args meth c Y cc nL own) {x y : Int32} {off : Int} {tgt : Nat} (hd : decode cc pc = .ok (.if_icmp .ne off, 3)) (ht : (pc : Int) + off = (tgt : Int)) (kt : ¬ x = y → Gd p l e R s m args below meth c Q Y nL tgt lv st h k n) (kf : x = y → Gd p l e R s m args below meth c Q Y nL (pc + 3) lv st h k n) : Gd p l e R s m args below meth c Q Y nL pc lv (.int y :: .int x :: st) h k n := by
  obtain ⟨hx, hb, -⟩ := C
  intro H locs ls hc hS hl
  exact lv_icmp_ne hx hb hd ht (fun q => kt q H locs ls hc hS hl) (fun q => kf q H locs ls hc hS hl)
theorem g_icmp_lt (C : Cx p s m args meth c Y cc nL own) {x y : Int32} {off : Int} {tgt : Nat} (hd : decode cc pc = .ok (.if_icmp .lt off, 3)) (ht : (pc : Int) + off = (tgt : Int)) (kt : x < y → Gd p l e R s m args below meth c Q Y nL tgt lv st h k n) (kf : ¬ (x < y) → Gd p l e R s m args below meth c Q Y nL (pc + 3) lv st h k n) : Gd p l e R s m args below meth c Q Y nL pc lv (.int y :: .int x :: st) h k n := by
  obtain ⟨hx, hb, -⟩ := C
  intro H locs ls hc hS hl
  exact lv_icmp_lt hx hb hd ht (fun q => kt q H locs ls hc hS hl) (fun q => kf q H locs ls hc hS hl)
theorem g_icmp_ge (C : Cx p s m args meth c Y cc nL own) {x y : Int32} {off : Int} {tgt : Nat} (hd : decode cc pc = .ok (.if_icmp .ge off, 3)) (ht : (pc : Int) + off = (tgt : Int)) (kt : y ≤ x → Gd p l e R s m args below meth c Q Y nL tgt lv st h k n) (kf : ¬ (y ≤ x) → Gd p l e R s m args below meth c Q Y nL (pc + 3) lv st h k n) : Gd p l e R s m args below meth c Q Y nL pc lv (.int y :: .int x :: st) h k n := by
  obtain ⟨hx, hb, -⟩ := C
  intro H locs ls hc hS hl
  exact lv_icmp_ge hx hb hd ht (fun q => kt q H locs ls hc hS hl) (fun q => kf q H locs ls hc hS hl)
theorem g_icmp_gt (C : Cx p s m args meth c Y cc nL own) {x y : Int32} {off : Int} {tgt : Nat} (hd : decode cc pc = .ok (.if_icmp .gt off, 3)) (ht : (pc : Int) + off = (tgt : Int)) (kt : y < x → Gd p l e R s m args below meth c Q Y nL tgt lv st h k n) (kf : ¬ (y < x) → Gd p l e R s m args below meth c Q Y nL (pc + 3) lv st h k n) : Gd p l e R s m args below meth c Q Y nL pc lv (.int y :: .int x :: st) h k n := by
  obtain ⟨hx, hb, -⟩ := C
  intro H locs ls hc hS hl
  exact lv_icmp_gt hx hb hd ht (fun q => kt q H locs ls hc hS hl) (fun q => kf q H locs ls hc hS hl)
theorem g_icmp_le (C : Cx p s m args meth c Y cc nL own) {x y : Int32} {off : Int} {tgt : Nat} (hd : decode cc pc = .ok (.if_icmp .le off, 3)) (ht : (pc : Int) + off = (tgt : Int)) (kt : x ≤ y → Gd p l e R s m args below meth c Q Y nL tgt lv st h k n) (kf : ¬ (x ≤ y) → Gd p l e R s m args below meth c Q Y nL (pc + 3) lv st h k n) : Gd p l e R s m args below meth c Q Y nL pc lv (.int y :: .int x :: st) h k n := by
  obtain ⟨hx, hb, -⟩ := C
  intro H locs ls hc hS hl
  exact lv_icmp_le hx hb hd ht (fun q => kt q H locs ls hc hS hl) (fun q => kf q H locs ls hc hS hl)
theorem g_acmp_eq (C : Cx p s m args meth c Y cc nL own) {rx ry : Option Nat} {off : Int} {tgt : Nat} (hd : decode cc pc = .ok (.if_acmp .eq off, 3)) (ht : (pc : Int) + off = (tgt : Int)) (kt : rx = ry → Gd p l e R s m args below meth c Q Y nL tgt lv st h k n) (kf : ¬ (rx = ry) → Gd p l e R s m args below meth c Q Y nL (pc + 3) lv st h k n) : Gd p l e R s m args below meth c Q Y nL pc lv (va_rf ry :: va_rf rx :: st) h k n := by
  obtain ⟨hx, hb, -⟩ := C
  intro H locs ls hc hS hl
  exact lv_acmp_eq hx hb hd ht (fun q => kt q H locs ls hc hS hl) (fun q => kf q H locs ls hc hS hl)
theorem g_acmp_ne (C : Cx p s m args meth c Y cc nL own) {rx ry : Option Nat} {off : Int} {tgt : Nat} (hd : decode cc pc = .ok (.if_acmp .ne off, 3)) (ht : (pc : Int) + off = (tgt : Int)) (kt : ¬ rx = ry → Gd p l e R s m args below meth c Q Y nL tgt lv st h k n) (kf : rx = ry → Gd p l e R s m args below meth c Q Y nL (pc + 3) lv st h k n) : Gd p l e R s m args below meth c Q Y nL pc lv (va_rf ry :: va_rf rx :: st) h k n := by
  obtain ⟨hx, hb, -⟩ := C
  intro H locs ls hc hS hl
  exact lv_acmp_ne hx hb hd ht (fun q => kt q H locs ls hc hS hl) (fun q => kf q H locs ls hc hS hl)
theorem g_goto (C : Cx p s m args meth c Y cc nL own) {off : Int} {tgt : Nat} (hd : decode cc pc = .ok (.goto off, 3)) (ht : (pc : Int) + off = (tgt : Int)) (kk : Gd p l e R s m args below meth c Q Y nL tgt lv st h k n) : Gd p l e R s m args below meth c Q Y nL pc lv st h k n := by
  obtain ⟨hx, hb, -, hown, hts, -⟩ := C
  intro H locs ls hc hS hl
  exact lv_goto hx hb hd ht (kk H locs ls hc hS hl)
theorem g_ifnull (C : Cx p s m args meth c Y cc nL own) {a : Nat} {off : Int} (hd : decode cc pc = .ok (.ifnull off, 3)) (kk : Gd p l e R s m args below meth c Q Y nL (pc + 3) lv st h k n) : Gd p l e R s m args below meth c Q Y nL pc lv (.ref a :: st) h k n := by
  obtain ⟨hx, hb, -, hown, hts, -⟩ := C
  intro H locs ls hc hS hl
  exact lv_ifnull hx hb hd (kk H locs ls hc hS hl)
theorem g_ifnullN (C : Cx p s m args meth c Y cc nL own) {off : Int} {tgt : Nat} (hd : decode cc pc = .ok (.ifnull off, 3)) (ht : (pc : Int) + off = (tgt : Int)) (kk : Gd p l e R s m args below meth c Q Y nL tgt lv st h k n) : Gd p l e R s m args below meth c Q Y nL pc lv (.null :: st) h k n := by
  obtain ⟨hx, hb, -, hown, hts, -⟩ := C
  intro H locs ls hc hS hl
  exact lv_ifnullN hx hb hd ht (kk H locs ls hc hS hl)
theorem g_ifnonnull (C : Cx p s m args meth c Y cc nL own) {a : Nat} {off : Int} {tgt : Nat} (hd : decode cc pc = .ok (.ifnonnull off, 3)) (ht : (pc : Int) + off = (tgt : Int)) (kk : Gd p l e R s m args below meth c Q Y nL tgt lv st h k n) : Gd p l e R s m args below meth c Q Y nL pc lv (.ref a :: st) h k n := by
  obtain ⟨hx, hb, -, hown, hts, -⟩ := C
  intro H locs ls hc hS hl
  exact lv_ifnonnull hx hb hd ht (kk H locs ls hc hS hl)
theorem g_ifnonnullN (C : Cx p s m args meth c Y cc nL own) {off : Int} (hd : decode cc pc = .ok (.ifnonnull off, 3)) (kk : Gd p l e R s m args below meth c Q Y nL (pc + 3) lv st h k n) : Gd p l e R s m args below meth c Q Y nL pc lv (.null :: st) h k n := by
  obtain ⟨hx, hb, -, hown, hts, -⟩ := C
  intro H locs ls hc hS hl
  exact lv_ifnonnullN hx hb hd (kk H locs ls hc hS hl)
theorem g_tsIn (C : Cx p s m args meth c Y cc nL own) {dflt lo hi : Int} {offs : Array Int} {len : Nat} {x : Int32} {off : Int} {tgt : Nat} (hd : decode cc pc = .ok (.tableswitch dflt lo hi offs, len)) (h1 : ¬ x.toInt < lo) (h2 : ¬ hi < x.toInt) (ho : offs[(x.toInt - lo).toNat]? = some off) (ht : (pc : Int) + off = (tgt : Int)) (kk : Gd p l e R s m args below meth c Q Y nL tgt lv st h k n) : Gd p l e R s m args below meth c Q Y nL pc lv (.int x :: st) h k n := by
  obtain ⟨hx, hb, -, hown, hts, -⟩ := C
  intro H locs ls hc hS hl
  exact lv_tableIn hx hb hd h1 h2 ho ht (kk H locs ls hc hS hl)
theorem g_tsOut (C : Cx p s m args meth c Y cc nL own) {dflt lo hi : Int} {offs : Array Int} {len : Nat} {x : Int32} {tgt : Nat} (hd : decode cc pc = .ok (.tableswitch dflt lo hi offs, len)) (h1 : x.toInt < lo ∨ hi < x.toInt) (ht : (pc : Int) + dflt = (tgt : Int)) (kk : Gd p l e R s m args below meth c Q Y nL tgt lv st h k n) : Gd p l e R s m args below meth c Q Y nL pc lv (.int x :: st) h k n := by
  obtain ⟨hx, hb, -, hown, hts, -⟩ := C
  intro H locs ls hc hS hl
  exact lv_tableOut hx hb hd h1 ht (kk H locs ls hc hS hl)
end GD
end
section
/-! ===== contracts ===== -/
def Qk (Y : YG) (post : Option Value → AH → Prop) : Array Value → State → Outcome → State → Prop := fun _ st o t => (∃ (v : Option Value) (h' : AH), o = .returned v ∧ post v h' ∧ cw Y h' t.heap) ∧ va_F Y.A st t
def Xk (Y : YG) (px : String → AH → Prop) : String → State → State → Prop := fun E st t => (∃ h' : AH, px E h' ∧ cw Y h' t.heap) ∧ va_F Y.A st t
abbrev rmO (f L mc ms : Nat) : Room := { frames := f, cells := mc, slots := ms, locals := L }
def MK (l : Launch) (Y : YG) (y : MethodName) (cc : ByteArray) (maxL : Nat) (ret : Option FieldType) (f L mc ms : Nat) (As : List Value) (h : AH) (post : Option Value → AH → Prop) : Prop :=
  Met l y (Cond.code y cc maxL ret :: AllW) (rmO f L mc ms) (va_Pc As (WD Y h)) (Qk Y post) mc ms Y.A
def MX (l : Launch) (Y : YG) (y : MethodName) (cc : ByteArray) (maxL : Nat) (ret : Option FieldType) (f L mc ms : Nat) (As : List Value) (h : AH) (post : Option Value → AH → Prop) (px : String → AH → Prop) : Prop :=
  vx_Met l y (Cond.code y cc maxL ret :: AllW) (rmO f L mc ms) (va_Pc As (WD Y h)) (Qk Y post) (Xk Y px) mc ms Y.A
/-- a method with a table of its own -/
def MW (l : Launch) (Y : YG) (y : MethodName) (cc : ByteArray) (maxL : Nat) (ret : Option FieldType) (hh : List (Nat × Nat × Nat × Nat)) (f L mc ms : Nat) (As : List Value) (h : AH) (post : Option Value → AH → Prop) : Prop :=
  Met l y (Cond.codeWith y cc maxL ret hh :: AllW) (rmO f L mc ms) (va_Pc As (WD Y h)) (Qk Y post) mc ms Y.A
def noX : String → AH → Prop := fun _ _ => False
theorem met_of_vx {l : Launch} {y : MethodName} {ws : List Cond} {rm : Room} {Pc : Array Value → State → Prop} {Qc : Array Value → State → Outcome → State → Prop} {XC : String → State → State → Prop} {mc ms : Nat} {free : Addr → Prop} (hX : ∀ E st t, ¬ XC E st t) (h : vx_Met l y ws rm Pc Qc XC mc ms free) : Met l y ws rm Pc Qc mc ms free := by
  intro p e ha hc hk s m args below hf happ hP hK
  obtain ⟨n, o, h1, h2, h3, h4⟩ := h p e ha hc hk s m args below hf happ hP hK
  refine ⟨n, o, h1, h2, h3, ?_⟩
  rcases h4 with h4 | ⟨q, -, E, ce, L, hx, -⟩
  · exact h4
  · exact absurd hx (hX _ _ _)
theorem MX.K {l : Launch} {Y : YG} {y : MethodName} {cc : ByteArray} {maxL : Nat} {ret : Option FieldType} {f L mc ms : Nat} {As : List Value} {h : AH} {post : Option Value → AH → Prop} (hM : MX l Y y cc maxL ret f L mc ms As h post noX) : MK l Y y cc maxL ret f L mc ms As h post :=
  met_of_vx (fun E st t hx => by obtain ⟨⟨h', hf, -⟩, -⟩ := hx; exact hf) hM
def pI (q : Int32 → AH → Prop) : Option Value → AH → Prop := fun v h => ∃ r, v = some (.int r) ∧ q r h
def pL (q : Int64 → AH → Prop) : Option Value → AH → Prop := fun v h => ∃ r, v = some (.long r) ∧ q r h
def pD (q : UInt64 → AH → Prop) : Option Value → AH → Prop := fun v h => ∃ r, v = some (.double r) ∧ q r h
def pR (q : Option Nat → AH → Prop) : Option Value → AH → Prop := fun v h => ∃ r, v = some (va_rf r) ∧ q r h
def pV (q : AH → Prop) : Option Value → AH → Prop := fun v h => v = none ∧ q h
/-- one answer, the heap as it was -/
def pS (x : Option Value) (h0 : AH) : Option Value → AH → Prop := fun v h => v = x ∧ h = h0
abbrev bI (b : Bool) : Value := .int (if b then 1 else 0)
theorem MX.imp {l : Launch} {Y : YG} {y : MethodName} {cc : ByteArray} {maxL : Nat} {ret : Option FieldType} {f L mc ms : Nat} {As : List Value} {h : AH} {post post2 : Option Value → AH → Prop} {px px2 : String → AH → Prop} (hM : MX l Y y cc maxL ret f L mc ms As h post px) (h1 : ∀ v h', post v h' → post2 v h') (h2 : ∀ E h', px E h' → px2 E h') : MX l Y y cc maxL ret f L mc ms As h post2 px2 := by
  intro p e ha hc hk s m args below hf happ hP hK
  obtain ⟨n, o, g1, g2, g3, g4⟩ := hM p e ha hc hk s m args below hf happ hP hK
  refine ⟨n, o, g1, g2, g3, ?_⟩
  rcases g4 with ⟨⟨⟨v, h', e1, e2, e3⟩, e4⟩, e5⟩ | ⟨q, e0, E, ce, L, ⟨⟨h', e1, e2⟩, e3⟩, e4⟩
  · exact Or.inl ⟨⟨⟨v, h', e1, h1 v h' e2, e3⟩, e4⟩, e5⟩
  · exact Or.inr ⟨q, e0, E, ce, L, ⟨⟨h', h2 E h' e1, e2⟩, e3⟩, e4⟩
theorem MK.imp {l : Launch} {Y : YG} {y : MethodName} {cc : ByteArray} {maxL : Nat} {ret : Option FieldType} {f L mc ms : Nat} {As : List Value} {h : AH} {post post2 : Option Value → AH → Prop} (hM : MK l Y y cc maxL ret f L mc ms As h post) (h1 : ∀ v h', post v h' → post2 v h') : MK l Y y cc maxL ret f L mc ms As h post2 := by
  intro p e ha hc hk s m args below hf happ hP hK
  obtain ⟨n, o, g1, g2, g3, ⟨⟨v, h', e1, e2, e3⟩, e4⟩, e5⟩ := hM p e ha hc hk s m args below hf happ hP hK
  exact ⟨n, o, g1, g2, g3, ⟨⟨v, h', e1, h1 v h' e2, e3⟩, e4⟩, e5⟩
def Gx (p : Program) (l : Launch) (e : Env) (R : Room) (s : State) (m : MethodId) (args : Array Value) (below : List Frame) (meth : Method) (c : Code) (Q : State → Prop) (Y : YG) (nL : Nat) (pc : Nat) (lv : List (Option Value)) (st : List Value) (h : AH) (k n : Nat) (E : String) : Prop :=
  ∀ (H : Heap) (locs : List Loc) (ls : Array Slot) (q : Nat) (ce : Cell), cw Y h H → va_S Y.A s.heap H locs → lh ls nL lv → H[q]? = some ce → ce.vm = .none → s.vm.findClass E = some ce.cls → vx_W p l e R s m args below meth c H locs k n Q (F0 m pc ls st) q
theorem gi_V {own : String} {i : Nat} {y : MethodName} {cy : ByteArray} {maxL : Nat} {ret : Option FieldType} (h1 : Cond.methodLink own i y ∈ AllW) (h2 : Cond.instanceMethod y ∈ AllW) (h3 : Cond.selects y.cls y y ∈ AllW) (h4 : Cond.initialized y.cls ∈ AllW) (h5 : Cond.code y cy maxL ret ∈ AllW) : GoodIn AllW (wsV own i y.cls y (Cond.code y cy maxL ret :: AllW)) := by
  intro w hw
  have hm : w ∈ AllW := by
    simp only [wsV, List.cons_append, List.nil_append, List.mem_cons] at hw
    rcases hw with rfl | rfl | rfl | rfl | rfl | hw
    · exact h1
    · exact h2
    · exact h3
    · exact h4
    · exact h5
    · exact hw
  exact ⟨hm, aw_good w hm⟩
theorem gi_S {own : String} {i : Nat} {y : MethodName} {cy : ByteArray} {maxL : Nat} {ret : Option FieldType} (h1 : Cond.methodLink own i y ∈ AllW) (h2 : Cond.static y ∈ AllW) (h4 : Cond.initialized y.cls ∈ AllW) (h5 : Cond.code y cy maxL ret ∈ AllW) : GoodIn AllW (va_wsS own i y (Cond.code y cy maxL ret :: AllW)) := by
  intro w hw
  have hm : w ∈ AllW := by
    simp only [va_wsS, List.cons_append, List.nil_append, List.mem_cons] at hw
    rcases hw with rfl | rfl | rfl | rfl | hw
    · exact h1
    · exact h2
    · exact h4
    · exact h5
    · exact hw
  exact ⟨hm, aw_good w hm⟩
theorem gi_W {own : String} {i : Nat} {y : MethodName} {cy : ByteArray} {maxL : Nat} {ret : Option FieldType} {hh : List (Nat × Nat × Nat × Nat)} (h1 : Cond.methodLink own i y ∈ AllW) (h2 : Cond.static y ∈ AllW) (h4 : Cond.initialized y.cls ∈ AllW) (h5 : Cond.codeWith y cy maxL ret hh ∈ AllW) : GoodIn AllW (va_wsS own i y (Cond.codeWith y cy maxL ret hh :: AllW)) := by
  intro w hw
  have hm : w ∈ AllW := by
    simp only [va_wsS, List.cons_append, List.nil_append, List.mem_cons] at hw
    rcases hw with rfl | rfl | rfl | rfl | hw
    · exact h1
    · exact h2
    · exact h4
    · exact h5
    · exact hw
  exact ⟨hm, aw_good w hm⟩
theorem gi_F {own C : String} {i : Nat} {x y : MethodName} {cy : ByteArray} {maxL : Nat} {ret : Option FieldType} (h1 : Cond.methodLink own i x ∈ AllW) (h2 : Cond.selects C x y ∈ AllW) (h3 : Cond.instanceMethod y ∈ AllW) (h4 : Cond.initialized y.cls ∈ AllW) (h5 : Cond.code y cy maxL ret ∈ AllW) : GoodIn AllW (va_wsF own i C x y (Cond.code y cy maxL ret :: AllW)) := by
  intro w hw
  have hm : w ∈ AllW := by
    simp only [va_wsF, List.cons_append, List.nil_append, List.mem_cons] at hw
    rcases hw with rfl | rfl | rfl | rfl | rfl | hw
    · exact h1
    · exact h2
    · exact h3
    · exact h4
    · exact h5
    · exact hw
  exact ⟨hm, aw_good w hm⟩
theorem gi_c {y : MethodName} {cy : ByteArray} {maxL : Nat} {ret : Option FieldType} (h5 : Cond.code y cy maxL ret ∈ AllW) : GoodIn AllW (Cond.code y cy maxL ret :: AllW) := by
  intro w hw
  have hm : w ∈ AllW := (List.mem_cons.mp hw).elim (fun z => by rw [z]; exact h5) id
  exact ⟨hm, aw_good w hm⟩
/-- words of a callee: virtual; static; a constructor -/
def okV (y : MethodName) (cy : ByteArray) (maxL : Nat) (ret : Option FieldType) (n : Nat) : Prop := Cond.instanceMethod y ∈ AllW ∧ Cond.selects y.cls y y ∈ AllW ∧ Cond.initialized y.cls ∈ AllW ∧ Cond.code y cy maxL ret ∈ AllW ∧ y.cls ≠ "java/lang/invoke/MethodHandle" ∧ y.cls ≠ "java/lang/invoke/VarHandle" ∧ (parseMethodDescriptor y.desc).map (fun d => d.parameters.length) = some n
def okS (y : MethodName) (cy : ByteArray) (maxL : Nat) (ret : Option FieldType) (n : Nat) : Prop := Cond.static y ∈ AllW ∧ Cond.initialized y.cls ∈ AllW ∧ Cond.code y cy maxL ret ∈ AllW ∧ y.cls ≠ "java/lang/invoke/MethodHandle" ∧ y.cls ≠ "java/lang/invoke/VarHandle" ∧ (parseMethodDescriptor y.desc).map (fun d => d.parameters.length) = some n
def okI (y : MethodName) (cy : ByteArray) (maxL : Nat) (n : Nat) : Prop := Cond.instanceMethod y ∈ AllW ∧ Cond.initialized y.cls ∈ AllW ∧ Cond.code y cy maxL none ∈ AllW ∧ y.name = "<init>" ∧ y.cls ≠ "java/lang/invoke/MethodHandle" ∧ y.cls ≠ "java/lang/invoke/VarHandle" ∧ (parseMethodDescriptor y.desc).map (fun d => d.parameters.length) = some n
section GD
variable {p : Program} {l : Launch} {e : Env} {R : Room} {s : State} {m : MethodId} {args : Array Value} {below : List Frame} {meth : Method} {c : Code} {Q : State → Prop} {Y : YG} {nL : Nat} {cc : ByteArray} {own : String} {pc : Nat} {lv : List (Option Value)} {st : List Value} {h : AH} {k n : Nat}
theorem ofS {x : Value} {h0 : AH} {pc2 : Nat} (kk : Gd p l e R s m args below meth c Q Y nL pc2 lv (x :: st) h0 k n) : ∀ (v : Option Value) (h' : AH), pS (some x) h0 v h' → Gd p l e R s m args below meth c Q Y nL pc2 lv (v.toList ++ st) h' k n := fun v h' q => by
  obtain ⟨rfl, rfl⟩ := q
  exact kk
theorem ofSv {h0 : AH} {pc2 : Nat} (kk : Gd p l e R s m args below meth c Q Y nL pc2 lv st h0 k n) : ∀ (v : Option Value) (h' : AH), pS none h0 v h' → Gd p l e R s m args below meth c Q Y nL pc2 lv (v.toList ++ st) (h') k n := fun v h' q => by
  obtain ⟨rfl, rfl⟩ := q
  exact kk
theorem ofI {q : Int32 → AH → Prop} {pc2 : Nat} (kk : ∀ (r : Int32) (h' : AH), q r h' → Gd p l e R s m args below meth c Q Y nL pc2 lv (.int r :: st) (h') k n) : ∀ (v : Option Value) (h' : AH), pI q v h' → Gd p l e R s m args below meth c Q Y nL pc2 lv (v.toList ++ st) (h') k n := fun v h' z => by
  obtain ⟨r, rfl, z⟩ := z
  exact kk r h' z
theorem ofL {q : Int64 → AH → Prop} {pc2 : Nat} (kk : ∀ (r : Int64) (h' : AH), q r h' → Gd p l e R s m args below meth c Q Y nL pc2 lv (.long r :: st) (h') k n) : ∀ (v : Option Value) (h' : AH), pL q v h' → Gd p l e R s m args below meth c Q Y nL pc2 lv (v.toList ++ st) (h') k n := fun v h' z => by
  obtain ⟨r, rfl, z⟩ := z
  exact kk r h' z
theorem ofD {q : UInt64 → AH → Prop} {pc2 : Nat} (kk : ∀ (r : UInt64) (h' : AH), q r h' → Gd p l e R s m args below meth c Q Y nL pc2 lv (.double r :: st) (h') k n) : ∀ (v : Option Value) (h' : AH), pD q v h' → Gd p l e R s m args below meth c Q Y nL pc2 lv (v.toList ++ st) (h') k n := fun v h' z => by
  obtain ⟨r, rfl, z⟩ := z
  exact kk r h' z
theorem ofR {q : Option Nat → AH → Prop} {pc2 : Nat} (kk : ∀ (r : Option Nat) (h' : AH), q r h' → Gd p l e R s m args below meth c Q Y nL pc2 lv (va_rf r :: st) (h') k n) : ∀ (v : Option Value) (h' : AH), pR q v h' → Gd p l e R s m args below meth c Q Y nL pc2 lv (v.toList ++ st) (h') k n := fun v h' z => by
  obtain ⟨r, rfl, z⟩ := z
  exact kk r h' z
theorem ofV {q : AH → Prop} {pc2 : Nat} (kk : ∀ (h' : AH), q h' → Gd p l e R s m args below meth c Q Y nL pc2 lv st (h') k n) : ∀ (v : Option Value) (h' : AH), pV q v h' → Gd p l e R s m args below meth c Q Y nL pc2 lv (v.toList ++ st) (h') k n := fun v h' z => by
  obtain ⟨rfl, z⟩ := z
  exact kk h' z
theorem g_getf (C : Cx p s m args meth c Y cc nL own) {ci j idx : Nat} {Cn ref : String} {T : u_T} {N a : Nat} {fs : List Value} (hci : vwCl[ci]? = some (Cn, T, N)) (hin : ∀ w ∈ u_ws Cn T N, w ∈ AllW) (hj : j < N) (hlink : Cond.fieldLink own idx ref (T j).2.1 (T j).2.2.1 ∈ AllW) (hsame : ∀ x, s.fieldFound? (T j).1 (T j).2.1 (T j).2.2.1 = some x → s.fieldFound? ref (T j).2.1 (T j).2.2.1 = some x) {v : Value} (ha : h a = some (.inr (ci, fs))) (hv : fs[j]? = some v) (hd : decode cc pc = .ok (.getfield idx, 3)) (kk : Gd p l e R s m args below meth c Q Y nL (pc + 3) lv (v :: st) h k n) : Gd p l e R s m args below meth c Q Y nL pc lv (.ref a :: st) h k n := by
  obtain ⟨hx, hb, -, hown, hts, hK, -, hA, -⟩ := C
  intro H locs ls hc hS hl
  obtain ⟨ws, hP, hD, hw⟩ := id hc
  obtain ⟨q0, hq⟩ := hw a _ ha
  exact va_get hx hb hts hin hown hK hP q0 hq hci j hj (hts _ hlink) hsame hv hd (kk H locs ls hc hS hl)
theorem g_putf (C : Cx p s m args meth c Y cc nL own) {ci j idx : Nat} {Cn ref : String} {T : u_T} {N a : Nat} {fs : List Value} (hci : vwCl[ci]? = some (Cn, T, N)) (hin : ∀ w ∈ u_ws Cn T N, w ∈ AllW) (hj : j < N) (hlink : Cond.fieldLink own idx ref (T j).2.1 (T j).2.2.1 ∈ AllW) (hsame : ∀ x, s.fieldFound? (T j).1 (T j).2.1 (T j).2.2.1 = some x → s.fieldFound? ref (T j).2.1 (T j).2.2.1 = some x) (ty0 : Nat → FieldType) (hty : ∀ k, k < N → parseFieldDescriptor (T k).2.2.1 = some (ty0 k)) (hnm : ∀ a, a < N → ∀ b, b < N → a ≠ b → (T a).2.1 ≠ (T b).2.1) {ty : FieldType} {v : Value} (hdt : parseFieldDescriptor (T j).2.2.1 = some ty) (hnw : narrow ty v = v) (hft : fits ty v = true) (ha : h a = some (.inr (ci, fs))) (hjl : j < fs.length) (hd : decode cc pc = .ok (.putfield idx, 3)) (hfin : (T j).2.2.2 = false) (kk : Gd p l e R s m args below meth c Q Y nL (pc + 3) lv st (hup h a (.inr (ci, fs.set j v))) k n) : Gd p l e R s m args below meth c Q Y nL pc lv (v :: .ref a :: st) h k n := by
  obtain ⟨hx, hb, -, hown, hts, hK, -, hA, -⟩ := C
  intro H locs ls hc hS hl
  obtain ⟨ws, hP, hD, hw⟩ := id hc
  obtain ⟨q0, hq⟩ := hw a _ ha
  exact va_put hx hb hts hin ty0 hty hnm hown hK hP hD hS q0 hq hci j hj (hts _ hlink) hsame hfin hdt hnw hft hjl hd (fun H1 locs1 hP1 hD1 hS1 => kk H1 locs1 ls (cw_set hD hw hq hP1 hD1) hS1 hl)
theorem g_putF (C : Cx p s m args meth c Y cc nL own) {ci j idx : Nat} {Cn ref : String} {T : u_T} {N a : Nat} {fs : List Value} (hci : vwCl[ci]? = some (Cn, T, N)) (hin : ∀ w ∈ u_ws Cn T N, w ∈ AllW) (hj : j < N) (hlink : Cond.fieldLink own idx ref (T j).2.1 (T j).2.2.1 ∈ AllW) (hsame : ∀ x, s.fieldFound? (T j).1 (T j).2.1 (T j).2.2.1 = some x → s.fieldFound? ref (T j).2.1 (T j).2.2.1 = some x) (ty0 : Nat → FieldType) (hty : ∀ k, k < N → parseFieldDescriptor (T k).2.2.1 = some (ty0 k)) (hnm : ∀ a, a < N → ∀ b, b < N → a ≠ b → (T a).2.1 ≠ (T b).2.1) {ty : FieldType} {v : Value} (hdt : parseFieldDescriptor (T j).2.2.1 = some ty) (hnw : narrow ty v = v) (hft : fits ty v = true) (ha : h a = some (.inr (ci, fs))) (hjl : j < fs.length) (hd : decode cc pc = .ok (.putfield idx, 3)) (hfin : (T j).2.2.2 = true) (hnm2 : meth.name = "<init>") (hdecl : (T j).1 = own) (kk : Gd p l e R s m args below meth c Q Y nL (pc + 3) lv st (hup h a (.inr (ci, fs.set j v))) k n) : Gd p l e R s m args below meth c Q Y nL pc lv (v :: .ref a :: st) h k n := by
  obtain ⟨hx, hb, -, hown, hts, hK, -, hA, -⟩ := C
  intro H locs ls hc hS hl
  obtain ⟨ws, hP, hD, hw⟩ := id hc
  obtain ⟨q0, hq⟩ := hw a _ ha
  exact va_putF hx hb hts hin ty0 hty hnm hown hK hP hD hS q0 hq hci j hj (hts _ hlink) hsame hfin hnm2 hdecl hdt hnw hft hjl hd (fun H1 locs1 hP1 hD1 hS1 => kk H1 locs1 ls (cw_set hD hw hq hP1 hD1) hS1 hl)
theorem g_new (C : Cx p s m args meth c Y cc nL own) {ci idx : Nat} {Cn : String} {T : u_T} {N : Nat} {fs : List Value} (hci : vwCl[ci]? = some (Cn, T, N)) (hin : ∀ w ∈ u_ws Cn T N, w ∈ AllW) (ty0 : Nat → FieldType) (hty : ∀ k, k < N → parseFieldDescriptor (T k).2.2.1 = some (ty0 k)) (hcl : Cond.classLink own idx Cn ∈ AllW) (hins : Cond.instantiable Cn N ∈ AllW) (hini : Cond.initialized Cn ∈ AllW) (hfs : ∀ j, j < N → defaultValue (ty0 j) = vp_V fs j) (hk : k + 1 ≤ R.cells) (hn : n + N ≤ R.slots) (hd : decode cc pc = .ok (.new idx, 3)) (kk : ∀ q : Nat, h q = none → Gd p l e R s m args below meth c Q Y nL (pc + 3) lv (.ref q :: st) (hup h q (.inr (ci, fs))) (k + 1) (n + N)) : Gd p l e R s m args below meth c Q Y nL pc lv st h k n := by
  obtain ⟨hx, hb, -, hown, hts, hK, -, hA, -⟩ := C
  intro H locs ls hc hS hl
  obtain ⟨ws, hP, hD, hw⟩ := id hc
  exact va_new hx hb hts hin ty0 hty hown (hts _ hcl) (hts _ hins) (hts _ hini) hK hP hD hS hA hci hfs hk hn hd (fun q H1 hP1 hD1 hS1 => by obtain ⟨z1, z2⟩ := cw_push hw hP1 hD1; exact kk q z1 H1 locs ls z2 hS1 hl)
theorem g_iald (C : Cx p s m args meth c Y cc nL own) {a N j : Nat} {f : Nat → Int32} {i : Int32} (ha : h a = some (aI Y N f)) (hi : i = nI j) (hj : j < N) (hN : N < 2 ^ 31) (hd : decode cc pc = .ok (.iaload, 1)) (kk : Gd p l e R s m args below meth c Q Y nL (pc + 1) lv (.int (f j) :: st) h k n) : Gd p l e R s m args below meth c Q Y nL pc lv (.int i :: .ref a :: st) h k n := by
  obtain ⟨hx, hb, -, hown, hts, hK, -, hA, -⟩ := C
  intro H locs ls hc hS hl
  obtain ⟨ws, hP, hD, hw⟩ := id hc
  obtain ⟨q0, hq⟩ := hw a _ ha
  subst hi
  have z := kk H locs ls hc hS hl
  rw [← nI_clamp (n := j) (by omega)] at z
  exact va_iald hx hb hK hP q0 0 hq rfl (vp_in_nI hj hN) hd z
theorem g_iast (C : Cx p s m args meth c Y cc nL own) {a N j : Nat} {f : Nat → Int32} {i : Int32} {x : Int32} (ha : h a = some (aI Y N f)) (hi : i = nI j) (hj : j < N) (hN : N < 2 ^ 31) (hd : decode cc pc = .ok (.iastore, 1)) (kk : Gd p l e R s m args below meth c Q Y nL (pc + 1) lv st (hup h a (aI Y N (upd f j x))) k n) : Gd p l e R s m args below meth c Q Y nL pc lv (.int x :: .int i :: .ref a :: st) h k n := by
  obtain ⟨hx, hb, -, hown, hts, hK, -, hA, -⟩ := C
  intro H locs ls hc hS hl
  obtain ⟨ws, hP, hD, hw⟩ := id hc
  obtain ⟨q0, hq⟩ := hw a _ ha
  subst hi
  refine va_iast hx hb hK hP hD hS q0 0 hq rfl (vp_in_nI hj hN) hd (fun H1 locs1 hP1 hD1 hS1 => ?_)
  rw [nI_clamp (by omega)] at hP1 hD1
  exact kk H1 locs1 ls (cw_set hD hw hq hP1 hD1) hS1 hl
theorem g_lald (C : Cx p s m args meth c Y cc nL own) {a N j : Nat} {f : Nat → Int64} {i : Int32} (ha : h a = some (aJ Y N f)) (hi : i = nI j) (hj : j < N) (hN : N < 2 ^ 31) (hd : decode cc pc = .ok (.laload, 1)) (kk : Gd p l e R s m args below meth c Q Y nL (pc + 1) lv (.long (f j) :: st) h k n) : Gd p l e R s m args below meth c Q Y nL pc lv (.int i :: .ref a :: st) h k n := by
  obtain ⟨hx, hb, -, hown, hts, hK, -, hA, -⟩ := C
  intro H locs ls hc hS hl
  obtain ⟨ws, hP, hD, hw⟩ := id hc
  obtain ⟨q0, hq⟩ := hw a _ ha
  subst hi
  have z := kk H locs ls hc hS hl
  rw [← nI_clamp (n := j) (by omega)] at z
  exact va_lald hx hb hK hP q0 1 hq rfl (vp_in_nI hj hN) hd z
theorem g_last (C : Cx p s m args meth c Y cc nL own) {a N j : Nat} {f : Nat → Int64} {i : Int32} {x : Int64} (ha : h a = some (aJ Y N f)) (hi : i = nI j) (hj : j < N) (hN : N < 2 ^ 31) (hd : decode cc pc = .ok (.lastore, 1)) (kk : Gd p l e R s m args below meth c Q Y nL (pc + 1) lv st (hup h a (aJ Y N (vp_updL f j x))) k n) : Gd p l e R s m args below meth c Q Y nL pc lv (.long x :: .int i :: .ref a :: st) h k n := by
  obtain ⟨hx, hb, -, hown, hts, hK, -, hA, -⟩ := C
  intro H locs ls hc hS hl
  obtain ⟨ws, hP, hD, hw⟩ := id hc
  obtain ⟨q0, hq⟩ := hw a _ ha
  subst hi
  refine va_last hx hb hK hP hD hS q0 1 hq rfl (vp_in_nI hj hN) hd (fun H1 locs1 hP1 hD1 hS1 => ?_)
  rw [nI_clamp (by omega)] at hP1 hD1
  exact kk H1 locs1 ls (cw_set hD hw hq hP1 hD1) hS1 hl
theorem g_aleni (C : Cx p s m args meth c Y cc nL own) {a N : Nat} {f : Nat → Int32} (ha : h a = some (aI Y N f)) (hd : decode cc pc = .ok (.arraylength, 1)) (kk : Gd p l e R s m args below meth c Q Y nL (pc + 1) lv (.int (nI N) :: st) h k n) : Gd p l e R s m args below meth c Q Y nL pc lv (.ref a :: st) h k n := by
  obtain ⟨hx, hb, -, hown, hts, hK, -, hA, -⟩ := C
  intro H locs ls hc hS hl
  obtain ⟨ws, hP, hD, hw⟩ := id hc
  obtain ⟨q0, hq⟩ := hw a _ ha
  exact va_alen hx hb hK hP q0 0 hq rfl rfl hd (kk H locs ls hc hS hl)
theorem g_alenl (C : Cx p s m args meth c Y cc nL own) {a N : Nat} {f : Nat → Int64} (ha : h a = some (aJ Y N f)) (hd : decode cc pc = .ok (.arraylength, 1)) (kk : Gd p l e R s m args below meth c Q Y nL (pc + 1) lv (.int (nI N) :: st) h k n) : Gd p l e R s m args below meth c Q Y nL pc lv (.ref a :: st) h k n := by
  obtain ⟨hx, hb, -, hown, hts, hK, -, hA, -⟩ := C
  intro H locs ls hc hS hl
  obtain ⟨ws, hP, hD, hw⟩ := id hc
  obtain ⟨q0, hq⟩ := hw a _ ha
  exact va_alen hx hb hK hP q0 1 hq rfl rfl hd (kk H locs ls hc hS hl)
theorem g_aleno (C : Cx p s m args meth c Y cc nL own) {a N : Nat} {f : Nat → Option Nat} (ha : h a = some (aO Y N f)) (hd : decode cc pc = .ok (.arraylength, 1)) (kk : Gd p l e R s m args below meth c Q Y nL (pc + 1) lv (.int (nI N) :: st) h k n) : Gd p l e R s m args below meth c Q Y nL pc lv (.ref a :: st) h k n := by
  obtain ⟨hx, hb, -, hown, hts, hK, -, hA, -⟩ := C
  intro H locs ls hc hS hl
  obtain ⟨ws, hP, hD, hw⟩ := id hc
  obtain ⟨q0, hq⟩ := hw a _ ha
  exact va_alen hx hb hK hP q0 2 hq rfl rfl hd (kk H locs ls hc hS hl)
theorem g_oald (C : Cx p s m args meth c Y cc nL own) {a N j : Nat} {f : Nat → Option Nat} {i : Int32} (ha : h a = some (aO Y N f)) (hi : i = nI j) (hj : j < N) (hN : N < 2 ^ 31) (hd : decode cc pc = .ok (.aaload, 1)) (kk : Gd p l e R s m args below meth c Q Y nL (pc + 1) lv (va_rf (f j) :: st) h k n) : Gd p l e R s m args below meth c Q Y nL pc lv (.int i :: .ref a :: st) h k n := by
  obtain ⟨hx, hb, -, hown, hts, hK, -, hA, -⟩ := C
  intro H locs ls hc hS hl
  obtain ⟨ws, hP, hD, hw⟩ := id hc
  obtain ⟨q0, hq⟩ := hw a _ ha
  subst hi
  have z := kk H locs ls hc hS hl
  rw [← nI_clamp (n := j) (by omega)] at z
  exact va_aldq hx hb hK hP q0 2 hq rfl (vp_in_nI hj hN) hd z
theorem cls_one {D : va_G} {cl : List vw_C} {tys : List (ClassId × FieldType)} {cA cB : ClassId} {ty : FieldType} {t : Nat} {s : State} (hK : va_K D cl tys s) (ht : tys[t]? = some (cB, ty)) (h1 : va_RA s cA ty) : cA = cB := by
  have h2 := (hK.2 t _ ht).2
  cases ty with
  | object C =>
    obtain ⟨k1, c1, -, -, -, e1⟩ := h1
    obtain ⟨k2, c2, -, -, -, e2⟩ := h2
    exact Option.some.inj (e1.symm.trans e2)
  | _ => exact Option.some.inj (h1.symm.trans h2)
theorem K_last {D : va_G} {cl : List vw_C} {tys : List (ClassId × FieldType)} {q : ClassId × FieldType} {s : State} (hK : va_K D cl (tys ++ [q]) s) : va_RA s q.1 q.2 := (hK.2 tys.length q (by rw [List.getElem?_append_right (Nat.le_refl _), Nat.sub_self]; rfl)).2
theorem g_newI (C : Cx p s m args meth c Y cc nL own) {N : Nat} {i : Int32} (hi : i = nI N) (hN : N ≤ 60000000) (hac : Cond.arrayClass (newarray.typeOf .int) ∈ AllW) (hk : k + 1 ≤ R.cells) (hn : n + N ≤ R.slots) (hd : decode cc pc = .ok (.newarray .int, 2)) (kk : ∀ q : Nat, h q = none → Gd p l e R s m args below meth c Q Y nL (pc + 2) lv (.ref q :: st) (hup h q (aI Y N (fun _ => 0))) (k + 1) (n + N)) : Gd p l e R s m args below meth c Q Y nL pc lv (.int i :: st) h k n := by
  obtain ⟨hx, hb, -, hown, hts, hK, -, hA, -⟩ := C
  intro H locs ls hc hS hl
  obtain ⟨ws, hP, hD, hw⟩ := id hc
  subst hi
  refine va_newa (atype := .int) (ty := .int) (a0 := (N, .inl (fun _ => 0))) hx hb (hts _ hac) rfl hK hP hD hS hA (fun cA => rfl) (nI_pos (by omega)) (nI_clamp (by omega)) (by show N * 4 ≤ 536870912; omega) hk hn hd (fun q cA H1 hK1 hP1 hD1 hS1 => ?_)
  have e1 : cA = Y.cI := cls_one hK (t := 0) rfl (K_last hK1)
  subst e1
  obtain ⟨z1, z2⟩ := cw_push hw hP1 hD1
  exact kk q z1 H1 locs ls z2 hS1 hl
theorem g_newJ (C : Cx p s m args meth c Y cc nL own) {N : Nat} {i : Int32} (hi : i = nI N) (hN : N ≤ 60000000) (hac : Cond.arrayClass (newarray.typeOf .long) ∈ AllW) (hk : k + 1 ≤ R.cells) (hn : n + N ≤ R.slots) (hd : decode cc pc = .ok (.newarray .long, 2)) (kk : ∀ q : Nat, h q = none → Gd p l e R s m args below meth c Q Y nL (pc + 2) lv (.ref q :: st) (hup h q (aJ Y N (fun _ => 0))) (k + 1) (n + N)) : Gd p l e R s m args below meth c Q Y nL pc lv (.int i :: st) h k n := by
  obtain ⟨hx, hb, -, hown, hts, hK, -, hA, -⟩ := C
  intro H locs ls hc hS hl
  obtain ⟨ws, hP, hD, hw⟩ := id hc
  subst hi
  refine va_newa (atype := .long) (ty := .long) (a0 := (N, .inr (.inl (fun _ => 0)))) hx hb (hts _ hac) rfl hK hP hD hS hA (fun cA => rfl) (nI_pos (by omega)) (nI_clamp (by omega)) (by show N * 8 ≤ 536870912; omega) hk hn hd (fun q cA H1 hK1 hP1 hD1 hS1 => ?_)
  have e1 : cA = Y.cJ := cls_one hK (t := 1) rfl (K_last hK1)
  subst e1
  obtain ⟨z1, z2⟩ := cw_push hw hP1 hD1
  exact kk q z1 H1 locs ls z2 hS1 hl
theorem g_gettab (C : Cx p s m args meth c Y cc nL own) {idx : Nat} {Cn fn : String} {f : Nat → Int32} (ht : tab Cn fn f Y.A s s.heap) (hlink : Cond.fieldLink own idx Cn fn "[I" ∈ AllW) (hd : decode cc pc = .ok (.getstatic idx, 3)) (kk : ∀ t : Nat, va_T .int t 8 (fun j => .int (f j)) Y.A s s.heap → Gd p l e R s m args below meth c Q Y nL (pc + 3) lv (.ref t :: st) h k n) : Gd p l e R s m args below meth c Q Y nL pc lv st h k n := by
  obtain ⟨hx, hb, -, hown, hts, hK, -, hA, -⟩ := C
  intro H locs ls hc hS hl
  obtain ⟨t, h1, h2⟩ := ht
  exact va_gets hx hb h1 hS hown (hts _ hlink) (fun _ z => z) hd (kk t h2 H locs ls hc hS hl)
theorem g_tald (C : Cx p s m args meth c Y cc nL own) {t j : Nat} {f : Nat → Int32} {i : Int32} (ht : va_T .int t 8 (fun j => .int (f j)) Y.A s s.heap) (hi : i = nI j) (hj : j < 8) (hd : decode cc pc = .ok (.iaload, 1)) (kk : Gd p l e R s m args below meth c Q Y nL (pc + 1) lv (.int (f j) :: st) h k n) : Gd p l e R s m args below meth c Q Y nL pc lv (.int i :: .ref t :: st) h k n := by
  obtain ⟨hx, hb, -, hown, hts, hK, -, hA, -⟩ := C
  intro H locs ls hc hS hl
  subst hi
  exact va_ti hx hb ht hS (vp_in_nI hj (by decide)) (by rw [nI_clamp (by omega)]) hd (kk H locs ls hc hS hl)
theorem g_tlen (C : Cx p s m args meth c Y cc nL own) {t : Nat} {f : Nat → Int32} (ht : va_T .int t 8 (fun j => .int (f j)) Y.A s s.heap) (hd : decode cc pc = .ok (.arraylength, 1)) (kk : Gd p l e R s m args below meth c Q Y nL (pc + 1) lv (.int (nI 8) :: st) h k n) : Gd p l e R s m args below meth c Q Y nL pc lv (.ref t :: st) h k n := by
  obtain ⟨hx, hb, -, hown, hts, hK, -, hA, -⟩ := C
  intro H locs ls hc hS hl
  exact va_tlen hx hb ht hS rfl hd (kk H locs ls hc hS hl)
theorem g_castS (C : Cx p s m args meth c Y cc nL own) {idx ci a : Nat} {Cn : String} {T : u_T} {N : Nat} {fs : List Value} (hci : vwCl[ci]? = some (Cn, T, N)) (hlink : Cond.classLink own idx Cn ∈ AllW) (ha : h a = some (.inr (ci, fs))) (hd : decode cc pc = .ok (.checkcast idx, 3)) (kk : Gd p l e R s m args below meth c Q Y nL (pc + 3) lv (.ref a :: st) h k n) : Gd p l e R s m args below meth c Q Y nL pc lv (.ref a :: st) h k n := by
  obtain ⟨hx, hb, -, hown, hts, hK, -, hA, -⟩ := C
  intro H locs ls hc hS hl
  obtain ⟨ws, hP, hD, hw⟩ := id hc
  obtain ⟨q0, hq⟩ := hw a _ ha
  exact va_castS hx hb hown (hts _ hlink) (hK.1 ci _ hci).2 (va_recv hK hP hci hq) hd (kk H locs ls hc hS hl)
theorem g_objinit (C : Cx p s m args meth c Y cc nL own) {idx a : Nat} (hlink : Cond.methodLink own idx objectInit ∈ AllW) (hi : Cond.instanceMethod objectInit ∈ AllW) (hcd : Cond.code objectInit ⟨#[0xb1]⟩ 1 none ∈ AllW) (hd : decode cc pc = .ok (.invokespecial idx, 3)) (hR : 1 ≤ R.frames) (hR2 : (st.map fun v => v.category).sum + 12 ≤ R.locals) (kk : Gd p l e R s m args below meth c Q Y nL (pc + 3) lv st h k n) : Gd p l e R s m args below meth c Q Y nL pc lv (.ref a :: st) h k n := by
  obtain ⟨hx, hb, hml, hown, hts, -⟩ := C
  intro H locs ls hc hS hl
  exact W.objInit hx hb hown (hts _ hlink) (hts _ hi) (hts _ hcd) rfl (by rw [hml]; exact hl.1) rfl hd hR (by show 2 * 0 + _ + 12 ≤ _; omega) (kk H locs ls hc hS hl)
theorem g_mabs (C : Cx p s m args meth c Y cc nL own) {idx : Nat} {x : Int32} (hlink : Cond.methodLink own idx Lib.Math.abs.name ∈ AllW) (h2 : Cond.static Lib.Math.abs.name ∈ AllW) (h3 : Cond.initialized "java/lang/Math" ∈ AllW) (h4 : Cond.code Lib.Math.abs.name Lib.Math.abs.code 1 (some .int) ∈ AllW) (hd : decode cc pc = .ok (.invokestatic idx, 3)) (hR : 1 ≤ R.frames) (hR2 : (st.map fun v => v.category).sum + 13 ≤ R.locals) (hk : k ≤ R.cells) (hn : n ≤ R.slots) (kk : Gd p l e R s m args below meth c Q Y nL (pc + 3) lv (.int (if 0 ≤ x then x else 0 - x) :: st) h k n) : Gd p l e R s m args below meth c Q Y nL pc lv (.int x :: st) h k n := by
  obtain ⟨hx, hb, hml, hown, hts, -⟩ := C
  intro H locs ls hc hS hl
  exact va_mabs hx hb (by rw [hml]; exact hl.1.symm) hown (hts _ hlink) (hts _ h2) (hts _ h3) (hts _ h4) hR hR2 hk hn hd (kk H locs ls hc hS hl)
theorem g_mmax (C : Cx p s m args meth c Y cc nL own) {idx : Nat} {x y : Int32} (hlink : Cond.methodLink own idx Lib.Math.max.name ∈ AllW) (h2 : Cond.static Lib.Math.max.name ∈ AllW) (h3 : Cond.initialized "java/lang/Math" ∈ AllW) (h4 : Cond.code Lib.Math.max.name Lib.Math.max.code 2 (some .int) ∈ AllW) (hd : decode cc pc = .ok (.invokestatic idx, 3)) (hR : 1 ≤ R.frames) (hR2 : (st.map fun v => v.category).sum + 13 ≤ R.locals) (hk : k ≤ R.cells) (hn : n ≤ R.slots) (kk : Gd p l e R s m args below meth c Q Y nL (pc + 3) lv (.int (if x < y then y else x) :: st) h k n) : Gd p l e R s m args below meth c Q Y nL pc lv (.int y :: .int x :: st) h k n := by
  obtain ⟨hx, hb, hml, hown, hts, -⟩ := C
  intro H locs ls hc hS hl
  exact va_mmax hx hb (by rw [hml]; exact hl.1.symm) hown (hts _ hlink) (hts _ h2) (hts _ h3) (hts _ h4) hR hR2 hk hn hd (kk H locs ls hc hS hl)
theorem g_mmin (C : Cx p s m args meth c Y cc nL own) {idx : Nat} {x y : Int32} (hlink : Cond.methodLink own idx Lib.Math.min.name ∈ AllW) (h2 : Cond.static Lib.Math.min.name ∈ AllW) (h3 : Cond.initialized "java/lang/Math" ∈ AllW) (h4 : Cond.code Lib.Math.min.name Lib.Math.min.code 2 (some .int) ∈ AllW) (hd : decode cc pc = .ok (.invokestatic idx, 3)) (hR : 1 ≤ R.frames) (hR2 : (st.map fun v => v.category).sum + 13 ≤ R.locals) (hk : k ≤ R.cells) (hn : n ≤ R.slots) (kk : Gd p l e R s m args below meth c Q Y nL (pc + 3) lv (.int (if y < x then y else x) :: st) h k n) : Gd p l e R s m args below meth c Q Y nL pc lv (.int y :: .int x :: st) h k n := by
  obtain ⟨hx, hb, hml, hown, hts, -⟩ := C
  intro H locs ls hc hS hl
  exact va_mmin hx hb (by rw [hml]; exact hl.1.symm) hown (hts _ hlink) (hts _ h2) (hts _ h3) (hts _ h4) hR hR2 hk hn hd (kk H locs ls hc hS hl)
theorem g_run {mc ms : Nat} {st0 : List Value} {post : Option Value → AH → Prop} {av : Array Value}
    (hr : ∀ (H : Heap) (locs : List Loc) (ls : Array Slot), cw Y h H → va_S Y.A s.heap H locs → lh ls nL lv → va_Run p l e R s m args below meth c H locs k n mc ms (F0 m pc ls st0) st (Qk Y post av) Y.A)
    (kk : ∀ (v : Option Value) (h' : AH), post v h' → Gd p l e R s m args below meth c Q Y nL (pc + 3) lv (v.toList ++ st) (h') (k + mc) (n + ms)) : Gd p l e R s m args below meth c Q Y nL pc lv st0 h k n := by
  intro H locs ls hc hS hl T hT X
  obtain ⟨v, st₀, t, T', L, h0, X', hL, e1, e2, ⟨⟨v2, h', hv, hp, hc2⟩, hz, hk⟩, stp⟩ := hr H locs ls hc hS hl T hT X
  cases hv
  rw [h0] at hz hk
  obtain ⟨t2, a1, b1⟩ := kk v h' hp T'.heap (locs ++ L) ls (by rw [e1]; exact hc2)
    ⟨Nat.le_trans hS.1 (by rw [e1]; exact hz), fun q h1 h2 => by rw [e1, hk q (Nat.lt_of_lt_of_le h1 hS.1) h2]; exact hS.2.1 q h1 h2, fun q hq => by
      rcases List.mem_append.mp hq with h | h
      · exact hS.2.2 q h
      · exact hL q h⟩ hl T' rfl X'
  exact ⟨t2, stp t2 a1, b1⟩
theorem g_run5 {mc ms : Nat} {st0 : List Value} {post : Option Value → AH → Prop} {av : Array Value}
    (hr : ∀ (H : Heap) (locs : List Loc) (ls : Array Slot), cw Y h H → va_S Y.A s.heap H locs → lh ls nL lv → va_Run5 p l e R s m args below meth c H locs k n mc ms (F0 m pc ls st0) st (Qk Y post av) Y.A)
    (kk : ∀ (v : Option Value) (h' : AH), post v h' → Gd p l e R s m args below meth c Q Y nL (pc + 5) lv (v.toList ++ st) (h') (k + mc) (n + ms)) : Gd p l e R s m args below meth c Q Y nL pc lv st0 h k n := by
  intro H locs ls hc hS hl T hT X
  obtain ⟨v, st₀, t, T', L, h0, X', hL, e1, e2, ⟨⟨v2, h', hv, hp, hc2⟩, hz, hk⟩, stp⟩ := hr H locs ls hc hS hl T hT X
  cases hv
  rw [h0] at hz hk
  obtain ⟨t2, a1, b1⟩ := kk v h' hp T'.heap (locs ++ L) ls (by rw [e1]; exact hc2)
    ⟨Nat.le_trans hS.1 (by rw [e1]; exact hz), fun q h1 h2 => by rw [e1, hk q (Nat.lt_of_lt_of_le h1 hS.1) h2]; exact hS.2.1 q h1 h2, fun q hq => by
      rcases List.mem_append.mp hq with h | h
      · exact hS.2.2 q h
      · exact hL q h⟩ hl T' rfl X'
  exact ⟨t2, stp t2 a1, b1⟩
theorem g_runX {mc ms : Nat} {st0 : List Value} {post : Option Value → AH → Prop} {px : String → AH → Prop} {av : Array Value}
    (hr : ∀ (H : Heap) (locs : List Loc) (ls : Array Slot), cw Y h H → va_S Y.A s.heap H locs → lh ls nL lv → vx_Run p l e R s m args below meth c H locs k n mc ms (F0 m pc ls st0) st (Qk Y post av) (Xk Y px) Y.A)
    (kx : ∀ (E : String) (h' : AH), px E h' → Gx p l e R s m args below meth c Q Y nL pc lv st (h') (k + mc) (n + ms) E)
    (kk : ∀ (v : Option Value) (h' : AH), post v h' → Gd p l e R s m args below meth c Q Y nL (pc + 3) lv (v.toList ++ st) (h') (k + mc) (n + ms)) : Gd p l e R s m args below meth c Q Y nL pc lv st0 h k n := by
  intro H locs ls hc hS hl T hT X
  rcases hr H locs ls hc hS hl T hT X with ⟨v, st₀, t, T', L, h0, X', hL, e1, e2, ⟨⟨v2, h', hv, hp, hc2⟩, hz, hk⟩, stp⟩ | ⟨q, st₀, t, T', L, E, ce, h0, X', hL, e1, e2, ⟨⟨h', hp, hc2⟩, hz, hk⟩, hce, hcv, hcl, stp⟩
  · cases hv
    rw [h0] at hz hk
    obtain ⟨t2, a1, b1⟩ := kk v h' hp T'.heap (locs ++ L) ls (by rw [e1]; exact hc2)
      ⟨Nat.le_trans hS.1 (by rw [e1]; exact hz), fun q h1 h2 => by rw [e1, hk q (Nat.lt_of_lt_of_le h1 hS.1) h2]; exact hS.2.1 q h1 h2, fun q hq => by
        rcases List.mem_append.mp hq with h | h
        · exact hS.2.2 q h
        · exact hL q h⟩ hl T' rfl X'
    exact ⟨t2, stp t2 a1, b1⟩
  · rw [h0] at hz hk
    obtain ⟨t2, a1, b1⟩ := kx E h' hp T'.heap (locs ++ L) ls q ce (by rw [e1]; exact hc2)
      ⟨Nat.le_trans hS.1 (by rw [e1]; exact hz), fun q h1 h2 => by rw [e1, hk q (Nat.lt_of_lt_of_le h1 hS.1) h2]; exact hS.2.1 q h1 h2, fun q hq => by
        rcases List.mem_append.mp hq with h | h
        · exact hS.2.2 q h
        · exact hL q h⟩ hl (by rw [e1]; exact hce) hcv hcl T' rfl X'
    exact ⟨t2, stp.trans a1, b1⟩
theorem g_callV (C : Cx p s m args meth c Y cc nL own) {y : MethodName} {cy : ByteArray} {maxL : Nat} {ret : Option FieldType} {f L mc ms idx na : Nat} {As st0 : List Value} {post : Option Value → AH → Prop} {b ci : Nat} {T : u_T} {N : Nat} {fs : List Value} (hM : MK l Y y cy maxL ret f L mc ms (.ref b :: As) h post) (hy : okV y cy maxL ret na) (hlink : Cond.methodLink own idx y ∈ AllW) (ha : h b = some (.inr (ci, fs))) (hci : vwCl[ci]? = some (y.cls, T, N)) (hsk : st0 = As.reverse ++ .ref b :: st) (hna : As.length = na) (hd : decode cc pc = .ok (.invokevirtual idx, 3)) (hst : (st.map fun v => v.category).sum ≤ 8) (hf : f + 1 ≤ R.frames) (hL : 8 + (maxL + 11) + L ≤ R.locals) (hkc : k + mc ≤ R.cells) (hns : n + ms ≤ R.slots) (kk : ∀ (v : Option Value) (h' : AH), post v h' → Gd p l e R s m args below meth c Q Y nL (pc + 3) lv (v.toList ++ st) (h') (k + mc) (n + ms)) : Gd p l e R s m args below meth c Q Y nL pc lv st0 h k n := by
  have hC := C
  obtain ⟨hx, hb, hml, hown, hts, hK, -, hA, -⟩ := C
  obtain ⟨y1, y2, y3, y4, y5, y6, y7⟩ := hy
  refine g_run (av := (Value.ref b :: As).toArray) (post := post) (st0 := st0) (mc := mc) (ms := ms) (fun H locs ls hc hS hl => ?_) kk
  obtain ⟨ws, hP, hD, hw⟩ := id hc
  obtain ⟨q0, hq⟩ := hw b _ ha
  exact va_runV (As := As) (rest := st) (C := y.cls) ⟨hx, hb, hml, hown, hts⟩ hM (cwV na hts (gi_V hlink y1 y2 y3 y4) rfl rfl rfl ⟨rfl, y5, y6, y7⟩ ⟨hf, hL⟩) ⟨WD.blind, va_recv hK hP hci hq, fun U hU hW => ⟨rfl, hC.wd hc hS U hU hW⟩⟩ rfl hna hl.1 hsk (lv_room hst) hd ⟨hkc, hns⟩
theorem g_callS (C : Cx p s m args meth c Y cc nL own) {y : MethodName} {cy : ByteArray} {maxL : Nat} {ret : Option FieldType} {f L mc ms idx na : Nat} {As st0 : List Value} {post : Option Value → AH → Prop} (hM : MK l Y y cy maxL ret f L mc ms As h post) (hy : okS y cy maxL ret na) (hlink : Cond.methodLink own idx y ∈ AllW) (hsk : st0 = As.reverse ++ st) (hna : As.length = na) (hd : decode cc pc = .ok (.invokestatic idx, 3)) (hst : (st.map fun v => v.category).sum ≤ 8) (hf : f + 1 ≤ R.frames) (hL : 8 + (maxL + 11) + L ≤ R.locals) (hkc : k + mc ≤ R.cells) (hns : n + ms ≤ R.slots) (kk : ∀ (v : Option Value) (h' : AH), post v h' → Gd p l e R s m args below meth c Q Y nL (pc + 3) lv (v.toList ++ st) (h') (k + mc) (n + ms)) : Gd p l e R s m args below meth c Q Y nL pc lv st0 h k n := by
  have hC := C
  obtain ⟨hx, hb, hml, hown, hts, hK, -, hA, -⟩ := C
  obtain ⟨y1, y3, y4, y5, y6, y7⟩ := hy
  refine g_run (av := As.toArray) (post := post) (st0 := st0) (mc := mc) (ms := ms) (fun H locs ls hc hS hl => ?_) kk
  exact va_runS (As := As) (rest := st) ⟨hx, hb, hml, hown, hts⟩ hM (va_cwS na hts (gi_S hlink y1 y3 y4) rfl rfl rfl ⟨y5, y6, y7⟩ ⟨hf, hL⟩) ⟨WD.blind, fun U hU hW => ⟨rfl, hC.wd hc hS U hU hW⟩⟩ rfl hna hl.1 hsk (lv_room hst) hd ⟨hkc, hns⟩
theorem g_callVX (C : Cx p s m args meth c Y cc nL own) {y : MethodName} {cy : ByteArray} {maxL : Nat} {ret : Option FieldType} {f L mc ms idx na : Nat} {As st0 : List Value} {post : Option Value → AH → Prop} {px : String → AH → Prop} {b ci : Nat} {T : u_T} {N : Nat} {fs : List Value} (hM : MX l Y y cy maxL ret f L mc ms (.ref b :: As) h post px) (hy : okV y cy maxL ret na) (hlink : Cond.methodLink own idx y ∈ AllW) (ha : h b = some (.inr (ci, fs))) (hci : vwCl[ci]? = some (y.cls, T, N)) (hsk : st0 = As.reverse ++ .ref b :: st) (hna : As.length = na) (hd : decode cc pc = .ok (.invokevirtual idx, 3)) (hst : (st.map fun v => v.category).sum ≤ 8) (hf : f + 1 ≤ R.frames) (hL : 8 + (maxL + 11) + L ≤ R.locals) (hkc : k + mc ≤ R.cells) (hns : n + ms ≤ R.slots) (kx : ∀ (E : String) (h' : AH), px E h' → Gx p l e R s m args below meth c Q Y nL pc lv st (h') (k + mc) (n + ms) E) (kk : ∀ (v : Option Value) (h' : AH), post v h' → Gd p l e R s m args below meth c Q Y nL (pc + 3) lv (v.toList ++ st) (h') (k + mc) (n + ms)) : Gd p l e R s m args below meth c Q Y nL pc lv st0 h k n := by
  have hC := C
  obtain ⟨hx, hb, hml, hown, hts, hK, -, hA, -⟩ := C
  obtain ⟨y1, y2, y3, y4, y5, y6, y7⟩ := hy
  refine g_runX (av := (Value.ref b :: As).toArray) (post := post) (st0 := st0) (mc := mc) (ms := ms) (fun H locs ls hc hS hl => ?_) kx kk
  obtain ⟨ws, hP, hD, hw⟩ := id hc
  obtain ⟨q0, hq⟩ := hw b _ ha
  exact vx_runV (As := As) (rest := st) (C := y.cls) ⟨hx, hb, hml, hown, hts⟩ hM (cwV na hts (gi_V hlink y1 y2 y3 y4) rfl rfl rfl ⟨rfl, y5, y6, y7⟩ ⟨hf, hL⟩) ⟨WD.blind, va_recv hK hP hci hq, fun U hU hW => ⟨rfl, hC.wd hc hS U hU hW⟩⟩ rfl hna hl.1 hsk (lv_room hst) hd ⟨hkc, hns⟩
theorem g_callSX (C : Cx p s m args meth c Y cc nL own) {y : MethodName} {cy : ByteArray} {maxL : Nat} {ret : Option FieldType} {f L mc ms idx na : Nat} {As st0 : List Value} {post : Option Value → AH → Prop} {px : String → AH → Prop} (hM : MX l Y y cy maxL ret f L mc ms As h post px) (hy : okS y cy maxL ret na) (hlink : Cond.methodLink own idx y ∈ AllW) (hsk : st0 = As.reverse ++ st) (hna : As.length = na) (hd : decode cc pc = .ok (.invokestatic idx, 3)) (hst : (st.map fun v => v.category).sum ≤ 8) (hf : f + 1 ≤ R.frames) (hL : 8 + (maxL + 11) + L ≤ R.locals) (hkc : k + mc ≤ R.cells) (hns : n + ms ≤ R.slots) (kx : ∀ (E : String) (h' : AH), px E h' → Gx p l e R s m args below meth c Q Y nL pc lv st (h') (k + mc) (n + ms) E) (kk : ∀ (v : Option Value) (h' : AH), post v h' → Gd p l e R s m args below meth c Q Y nL (pc + 3) lv (v.toList ++ st) (h') (k + mc) (n + ms)) : Gd p l e R s m args below meth c Q Y nL pc lv st0 h k n := by
  have hC := C
  obtain ⟨hx, hb, hml, hown, hts, hK, -, hA, -⟩ := C
  obtain ⟨y1, y3, y4, y5, y6, y7⟩ := hy
  refine g_runX (av := As.toArray) (post := post) (st0 := st0) (mc := mc) (ms := ms) (fun H locs ls hc hS hl => ?_) kx kk
  exact vx_runS (As := As) (rest := st) ⟨hx, hb, hml, hown, hts⟩ hM (va_cwS na hts (gi_S hlink y1 y3 y4) rfl rfl rfl ⟨y5, y6, y7⟩ ⟨hf, hL⟩) ⟨WD.blind, fun U hU hW => ⟨rfl, hC.wd hc hS U hU hW⟩⟩ rfl hna hl.1 hsk (lv_room hst) hd ⟨hkc, hns⟩
theorem g_callI (C : Cx p s m args meth c Y cc nL own) {y : MethodName} {cy : ByteArray} {maxL : Nat} {f L mc ms idx na : Nat} {As st0 : List Value} {post : Option Value → AH → Prop} {b : Nat} (hM : MK l Y y cy maxL none f L mc ms (.ref b :: As) h post) (hy : okI y cy maxL na) (hlink : Cond.methodLink own idx y ∈ AllW) (hsk : st0 = As.reverse ++ .ref b :: st) (hna : As.length = na) (hd : decode cc pc = .ok (.invokespecial idx, 3)) (hst : (st.map fun v => v.category).sum ≤ 8) (hf : f + 1 ≤ R.frames) (hL : 8 + (maxL + 11) + L ≤ R.locals) (hkc : k + mc ≤ R.cells) (hns : n + ms ≤ R.slots) (kk : ∀ (v : Option Value) (h' : AH), post v h' → Gd p l e R s m args below meth c Q Y nL (pc + 3) lv (v.toList ++ st) (h') (k + mc) (n + ms)) : Gd p l e R s m args below meth c Q Y nL pc lv st0 h k n := by
  have hC := C
  obtain ⟨hx, hb, hml, hown, hts, hK, -, hA, -⟩ := C
  obtain ⟨y1, y3, y4, y8, y5, y6, y7⟩ := hy
  refine g_run (av := (Value.ref b :: As).toArray) (post := post) (st0 := st0) (mc := mc) (ms := ms) (fun H locs ls hc hS hl => ?_) kk
  exact va_runI (As := As) (rest := st) ⟨hx, hb, hml, hown, hts⟩ hM (cwI na hts (gi_c y4) rfl rfl rfl (hts _ y3) (hts _ hlink) (hts _ y1) y8 ⟨y5, y6, y7⟩ ⟨hf, hL⟩) ⟨WD.blind, fun U hU hW => ⟨rfl, hC.wd hc hS U hU hW⟩⟩ rfl hna hl.1 hsk (lv_room hst) hd ⟨hkc, hns⟩
theorem g_callSN (C : Cx p s m args meth c Y cc nL own) {y : MethodName} {cy : ByteArray} {maxL : Nat} {ret : Option FieldType} {f L mc ms idx na : Nat} {As st0 : List Value} {post : Option Value → AH → Prop} {host : String} (hM : MK l Y y cy maxL ret f L mc ms As h post) (hy : okS y cy maxL ret na) (hlink : va_Nw (.methodLinkNest own idx y host) s) (hsk : st0 = As.reverse ++ st) (hna : As.length = na) (hd : decode cc pc = .ok (.invokestatic idx, 3)) (hst : (st.map fun v => v.category).sum ≤ 8) (hf : f + 1 ≤ R.frames) (hL : 8 + (maxL + 11) + L ≤ R.locals) (hkc : k + mc ≤ R.cells) (hns : n + ms ≤ R.slots) (kk : ∀ (v : Option Value) (h' : AH), post v h' → Gd p l e R s m args below meth c Q Y nL (pc + 3) lv (v.toList ++ st) (h') (k + mc) (n + ms)) : Gd p l e R s m args below meth c Q Y nL pc lv st0 h k n := by
  have hC := C
  obtain ⟨hx, hb, hml, hown, hts, hK, -, hA, -⟩ := C
  obtain ⟨y1, y3, y4, y5, y6, y7⟩ := hy
  refine g_run (av := As.toArray) (post := post) (st0 := st0) (mc := mc) (ms := ms) (fun H locs ls hc hS hl => ?_) kk
  exact va_runSN (As := As) (rest := st) ⟨hx, hb, hml, hown, hts⟩ hM ⟨va_cnB na hts (gi_c y4) rfl rfl rfl hlink (hts _ y3) ⟨y5, y6, y7⟩ ⟨hf, hL⟩, hts _ y1, trivial⟩ ⟨WD.blind, fun U hU hW => ⟨rfl, hC.wd hc hS U hU hW⟩⟩ rfl hna hl.1 hsk (lv_room hst) hd ⟨hkc, hns⟩
theorem g_callSW (C : Cx p s m args meth c Y cc nL own) {y : MethodName} {cy : ByteArray} {maxL : Nat} {ret : Option FieldType} {f L mc ms idx na : Nat} {As st0 : List Value} {post : Option Value → AH → Prop} {hh : List (Nat × Nat × Nat × Nat)} (hM : MW l Y y cy maxL ret hh f L mc ms As h post) (y1 : Cond.static y ∈ AllW) (y3 : Cond.initialized y.cls ∈ AllW) (y4 : Cond.codeWith y cy maxL ret hh ∈ AllW) (y5 : y.cls ≠ "java/lang/invoke/MethodHandle" ∧ y.cls ≠ "java/lang/invoke/VarHandle" ∧ (parseMethodDescriptor y.desc).map (fun d => d.parameters.length) = some na) (hlink : Cond.methodLink own idx y ∈ AllW) (hsk : st0 = As.reverse ++ st) (hna : As.length = na) (hd : decode cc pc = .ok (.invokestatic idx, 3)) (hst : (st.map fun v => v.category).sum ≤ 8) (hf : f + 1 ≤ R.frames) (hL : 8 + (maxL + 11) + L ≤ R.locals) (hkc : k + mc ≤ R.cells) (hns : n + ms ≤ R.slots) (kk : ∀ (v : Option Value) (h' : AH), post v h' → Gd p l e R s m args below meth c Q Y nL (pc + 3) lv (v.toList ++ st) (h') (k + mc) (n + ms)) : Gd p l e R s m args below meth c Q Y nL pc lv st0 h k n := by
  have hC := C
  obtain ⟨hx, hb, hml, hown, hts, hK, -, hA, -⟩ := C
  refine g_run (av := As.toArray) (post := post) (st0 := st0) (mc := mc) (ms := ms) (fun H locs ls hc hS hl => ?_) kk
  exact vx_runSW (As := As) (rest := st) ⟨hx, hb, hml, hown, hts⟩ hM (vx_cwSW na hts (gi_W hlink y1 y3 y4) rfl rfl rfl y5 ⟨hf, hL⟩) ⟨WD.blind, fun U hU hW => ⟨rfl, hC.wd hc hS U hU hW⟩⟩ rfl hna hl.1 hsk (lv_room hst) hd ⟨hkc, hns⟩
theorem g_callF (C : Cx p s m args meth c Y cc nL own) {y : MethodName} {cy : ByteArray} {maxL : Nat} {ret : Option FieldType} {f L mc ms idx na : Nat} {As st0 : List Value} {post : Option Value → AH → Prop} {x : MethodName} {b ci count : Nat} {Cn : String} {T : u_T} {N : Nat} {fs : List Value} (hM : MK l Y y cy maxL ret f L mc ms (.ref b :: As) h post) (hF : va_Fw Cn x y s) (h1 : Cond.methodLink own idx x ∈ AllW) (h2 : Cond.selects Cn x y ∈ AllW) (h3 : Cond.instanceMethod y ∈ AllW) (h4 : Cond.initialized y.cls ∈ AllW) (h5 : Cond.code y cy maxL ret ∈ AllW) (hdx : x.cls ≠ "java/lang/invoke/MethodHandle" ∧ x.cls ≠ "java/lang/invoke/VarHandle" ∧ (parseMethodDescriptor x.desc).map (fun d => d.parameters.length) = some na) (ha : h b = some (.inr (ci, fs))) (hci : vwCl[ci]? = some (Cn, T, N)) (hsk : st0 = As.reverse ++ .ref b :: st) (hna : As.length = na) (hd : decode cc pc = .ok (.invokeinterface idx count, 5)) (hst : (st.map fun v => v.category).sum ≤ 8) (hf : f + 1 ≤ R.frames) (hL : 8 + (maxL + 11) + L ≤ R.locals) (hkc : k + mc ≤ R.cells) (hns : n + ms ≤ R.slots) (kk : ∀ (v : Option Value) (h' : AH), post v h' → Gd p l e R s m args below meth c Q Y nL (pc + 5) lv (v.toList ++ st) (h') (k + mc) (n + ms)) : Gd p l e R s m args below meth c Q Y nL pc lv st0 h k n := by
  have hC := C
  obtain ⟨hx, hb, hml, hown, hts, hK, -, hA, -⟩ := C
  refine g_run5 (av := (Value.ref b :: As).toArray) (post := post) (st0 := st0) (mc := mc) (ms := ms) (fun H locs ls hc hS hl => ?_) kk
  obtain ⟨ws, hP, hD, hw⟩ := id hc
  obtain ⟨q0, hq⟩ := hw b _ ha
  exact va_runF (As := As) (rest := st) (C := Cn) (hK.1 ci _ hci).2 ⟨hx, hb, hml, hown, hts⟩ hM (va_cwF na hts (gi_F h1 h2 h3 h4 h5) rfl rfl rfl hF hdx ⟨hf, hL⟩) ⟨WD.blind, va_recv hK hP hci hq, fun U hU hW => ⟨rfl, hC.wd hc hS U hU hW⟩⟩ rfl hna hl.1 hsk (lv_room hst) hd ⟨hkc, hns⟩
variable {post : Option Value → AH → Prop} {px : String → AH → Prop} {mc ms : Nat}
theorem g_iret (C : Cx p s m args meth c Y cc nL own) {x : Int32} (hr : meth.sig.returnType = some .int) (hd : decode cc pc = .ok (.ireturn, 1)) (hk : k ≤ mc) (hn : n ≤ ms) (hp : post (some (.int x)) h) : Gd p l e R s m args below meth c (vx_MQ below (Qk Y post) (Xk Y px) args s mc ms Y.A) Y nL pc lv ([.int x]) h k n := by
  obtain ⟨hx, hb, -, -, -, -, -, -, hlocks⟩ := C
  intro H locs ls hc hS hl
  refine W.widen hk hn (vx_ret ?_)
  exact W.iret (v := x) hx hb hr (fun t ht hW => ⟨⟨_, h, rfl, hp, by rw [ht]; exact hc⟩, hS.F ht⟩) hS.2.2 hd hlocks
theorem g_zret (C : Cx p s m args meth c Y cc nL own) {x : Int32} (hr : meth.sig.returnType = some .boolean) (hx01 : x = 0 ∨ x = 1) (hd : decode cc pc = .ok (.ireturn, 1)) (hk : k ≤ mc) (hn : n ≤ ms) (hp : post (some (.int x)) h) : Gd p l e R s m args below meth c (vx_MQ below (Qk Y post) (Xk Y px) args s mc ms Y.A) Y nL pc lv ([.int x]) h k n := by
  obtain ⟨hx, hb, -, -, -, -, -, -, hlocks⟩ := C
  intro H locs ls hc hS hl
  refine W.widen hk hn (vx_ret ?_)
  exact W.zret (v := x) (ty := .boolean) hx hb hr (by rcases hx01 with rfl | rfl <;> rfl) (fun t ht hW => ⟨⟨_, h, rfl, hp, by rw [ht]; exact hc⟩, hS.F ht⟩) hS.2.2 hd hlocks
theorem g_lret (C : Cx p s m args meth c Y cc nL own) {x : Int64} (hr : meth.sig.returnType = some .long) (hd : decode cc pc = .ok (.lreturn, 1)) (hk : k ≤ mc) (hn : n ≤ ms) (hp : post (some (.long x)) h) : Gd p l e R s m args below meth c (vx_MQ below (Qk Y post) (Xk Y px) args s mc ms Y.A) Y nL pc lv ([.long x]) h k n := by
  obtain ⟨hx, hb, -, -, -, -, -, -, hlocks⟩ := C
  intro H locs ls hc hS hl
  refine W.widen hk hn (vx_ret ?_)
  exact W.lret (v := x) hx hb hr (fun t ht hW => ⟨⟨_, h, rfl, hp, by rw [ht]; exact hc⟩, hS.F ht⟩) hS.2.2 hd hlocks
theorem g_dret (C : Cx p s m args meth c Y cc nL own) {x : UInt64} (hr : meth.sig.returnType = some .double) (hd : decode cc pc = .ok (.dreturn, 1)) (hk : k ≤ mc) (hn : n ≤ ms) (hp : post (some (.double x)) h) : Gd p l e R s m args below meth c (vx_MQ below (Qk Y post) (Xk Y px) args s mc ms Y.A) Y nL pc lv ([.double x]) h k n := by
  obtain ⟨hx, hb, -, -, -, -, -, -, hlocks⟩ := C
  intro H locs ls hc hS hl
  refine W.widen hk hn (vx_ret ?_)
  exact W.dret (v := x) hx hb hr (fun t ht hW => ⟨⟨_, h, rfl, hp, by rw [ht]; exact hc⟩, hS.F ht⟩) hS.2.2 hd hlocks
theorem g_aret (C : Cx p s m args meth c Y cc nL own) {x : Value} {rt : FieldType} (hr : meth.sig.returnType = some rt) (hrt : (∃ n, rt = .object n) ∨ ∃ t, rt = .array t) (hv : isR x = true) (hd : decode cc pc = .ok (.areturn, 1)) (hk : k ≤ mc) (hn : n ≤ ms) (hp : post (some x) h) : Gd p l e R s m args below meth c (vx_MQ below (Qk Y post) (Xk Y px) args s mc ms Y.A) Y nL pc lv ([x]) h k n := by
  obtain ⟨hx, hb, -, -, -, -, -, -, hlocks⟩ := C
  intro H locs ls hc hS hl
  refine W.widen hk hn (vx_ret ?_)
  exact W.aret (v := x) hx hb hr hrt (isR_or hv) (fun t ht hW => ⟨⟨_, h, rfl, hp, by rw [ht]; exact hc⟩, hS.F ht⟩) hS.2.2 hd hlocks
theorem g_vret (C : Cx p s m args meth c Y cc nL own) (hr : meth.sig.returnType = none) (hd : decode cc pc = .ok (.return_, 1)) (hk : k ≤ mc) (hn : n ≤ ms) (hp : post none h) : Gd p l e R s m args below meth c (vx_MQ below (Qk Y post) (Xk Y px) args s mc ms Y.A) Y nL pc lv ([]) h k n := by
  obtain ⟨hx, hb, -, -, -, -, -, -, hlocks⟩ := C
  intro H locs ls hc hS hl
  refine W.widen hk hn (vx_ret ?_)
  exact W.vret hx hb hr (fun t ht hW => ⟨⟨_, h, rfl, hp, by rw [ht]; exact hc⟩, hS.F ht⟩) hS.2.2 hd hlocks
theorem g_out (C : Cx p s m args meth c Y cc nL own) {E : String} (hout : ∀ x ∈ c.exceptionTable.toList, False) (hp : px E h) (hk : k ≤ mc) (hn : n ≤ ms) : Gx p l e R s m args below meth c (vx_MQ below (Qk Y post) (Xk Y px) args s mc ms Y.A) Y nL pc lv st h k n E := by
  obtain ⟨hx, hb, -, -, -, -, -, -, hlocks⟩ := C
  intro H locs ls q ce hc hS hl h1 h2 h3
  exact vx_out (fun x hx => (hout x hx).elim) hlocks h1 h2 h3 (fun t ht hW => ⟨⟨h, hp, by rw [ht]; exact hc⟩, hS.F ht⟩) hS.2.2 hk hn
/-- what a throw of the class X at the place ic of the class own wants of the words -/
def okT (own : String) (ik ic : Nat) (X : String) : Prop := Cond.classLink own ik X ∈ AllW ∧ Cond.initialized X ∈ AllW ∧ (∀ w ∈ (vx_atS own ic X ["java/lang/RuntimeException", "java/lang/Exception"]).filter goodWord, w ∈ AllW) ∧ (∀ w ∈ (vx_atS own ic X ["java/lang/RuntimeException", "java/lang/Exception"]).filter (fun w => !goodWord w), w ∈ Cond.castable X X :: declW) ∧ (∀ w ∈ vx_atS own ic X ["java/lang/RuntimeException", "java/lang/Exception"], vx_ot w = true) ∧ Bundle.fit X = true
theorem g_throwS (C : Cx p s m args meth c Y cc nL own) {ik is ic : Nat} {E text : String} (hfl : l.stackTraces = false) (hout : ∀ x ∈ c.exceptionTable.toList, False) (hT : okT own ik ic E) (hca : va_Ca E E s) (hs : ∃ a : Nat, vk_R own is text a s) (d0 : decode cc pc = .ok (.new ik, 3)) (d3 : decode cc (pc + 3) = .ok (.dup, 1)) (d4 : decode cc (pc + 4) = .ok (.ldc is, 2)) (d6 : decode cc (pc + 6) = .ok (.invokespecial ic, 3)) (d9 : decode cc (pc + 9) = .ok (.athrow, 1))
    (hRf : 5 < R.frames) (hRl : (st.map fun v => v.category).sum + 82 ≤ R.locals) (hRc : k + 1 ≤ R.cells) (hRs : n + 6 ≤ R.slots) (hk : k + 1 ≤ mc) (hn : n + 6 ≤ ms) (hp : px E h) : Gd p l e R s m args below meth c (vx_MQ below (Qk Y post) (Xk Y px) args s mc ms Y.A) Y nL pc lv st h k n := by
  obtain ⟨hx, hb, hml, hown, hts, hK, ⟨hF, hTF⟩, hA, hlocks⟩ := C
  obtain ⟨t1, t2, t3, t4, t5, t6⟩ := hT
  have hDY := hTF.2.2.2.2.2.2.2.2.2.1
  obtain ⟨sa, hs⟩ := hs
  intro H locs ls hc hS hl
  exact vx_throwS (names := ["java/lang/RuntimeException", "java/lang/Exception"]) (A := Y.A) hx hb hfl hown t6 (by decide) (hts _ t1) (hts _ t2) hs
    (vx_hat (fun w hw => hts w (t3 w hw)) t4 (vx_c (va_Ca.use hca) (fun w hw => by obtain ⟨y, hy, rfl⟩ := List.mem_map.mp hw; exact va_Nw.use rfl (hDY y hy))))
    (fun w hw => (List.mem_cons.mp hw).elim (fun z => by rw [z]; rfl) (fun hw => (List.mem_cons.mp hw).elim (fun z => by rw [z]; rfl) (t5 w)))
    hF.2.2.2.2.1 hF.2.2.2.2.2 hS (by rw [hml]; exact hl.1) d0 d3 d4 d6 d9 (fun x hx => (hout x hx).elim) hRf (by simpa using hRl) hRc hRs hlocks (fun t hW h1 h2 => ⟨⟨h, hp, hc.kept h2⟩, ⟨Nat.le_trans hS.1 h1, fun q q1 q2 => (h2 q (Nat.lt_of_lt_of_le q1 hS.1)).trans (hS.2.1 q q1 q2)⟩⟩) hS.2.2 hk hn
end GD
/-- a method's body, from its entry -/
theorem MX.of {l : Launch} {Y : YG} {y : MethodName} {cc : ByteArray} {maxL : Nat} {ret : Option FieldType} {f L mc ms : Nat} {As : List Value} {h : AH} {post : Option Value → AH → Prop} {px : String → AH → Prop} (hy : plainName y.cls = true) (hLL : (lg_sl As).length ≤ maxL)
    (body : ∀ p e s m args below meth c, Cx p s m args meth c Y cc maxL y.cls → meth.sig.returnType = ret → (∀ x ∈ c.exceptionTable.toList, False) → meth.name = y.name → Gd p l e (rmO f L mc ms) s m args below meth c (vx_MQ below (Qk Y post) (Xk Y px) args s mc ms Y.A) Y maxL 0 (lent As maxL) [] h 0 0) : MX l Y y cc maxL ret f L mc ms As h post px := by
  refine vx_ofW (cc := cc) (maxL := maxL) (ret := ret) hy rfl ?_
  intro p e s m args below meth c s₁ B hml hout hv
  obtain ⟨rfl, hc, hA, hK, hF⟩ := hv
  have hts0 := atoms_spec (ws := Cond.code y cc maxL ret :: AllW) B.pre
  rw [lg_entry_eq]
  exact body p e s m _ below meth c ⟨B.exec, B.bytes, hml, findClass_of_methodNamed B.named, fun w hw => hts0 w (List.mem_cons_of_mem _ hw), hK, hF, hA, B.notSynchronized⟩ B.returns hout (name_of_methodNamed B.named B.method).1 s.heap [] _ hc va_S.rf (lh.entry As hLL)
end
section
theorem in_Jx4a65c : ∀ w ∈ u_ws RJx4a65c TJx4a65c 3, w ∈ AllW := by decide +kernel
theorem in_X0 : ∀ w ∈ u_ws RX0 TX0 9, w ∈ AllW := by decide +kernel
theorem in_X1 : ∀ w ∈ u_ws RX1 TX1 3, w ∈ AllW := by decide +kernel
theorem in_X2 : ∀ w ∈ u_ws RX2 TX2 2, w ∈ AllW := by decide +kernel
theorem in_X3 : ∀ w ∈ u_ws RX3 TX3 11, w ∈ AllW := by decide +kernel
theorem nw_obj {nm : String} {v : Value} (h : isR v = true) : narrow (.object nm) v = v ∧ fits (.object nm) v = true := by
  rcases isR_or h with rfl | ⟨a, rfl⟩ <;> exact ⟨rfl, rfl⟩
theorem nw_arr {ty : FieldType} {v : Value} (h : isR v = true) : narrow (.array ty) v = v ∧ fits (.array ty) v = true := by
  rcases isR_or h with rfl | ⟨a, rfl⟩ <;> exact ⟨rfl, rfl⟩
section GD
variable {p : Program} {l : Launch} {e : Env} {R : Room} {s : State} {m : MethodId} {args : Array Value} {below : List Frame} {meth : Method} {c : Code} {Q : State → Prop} {Y : YG} {nL : Nat} {cc : ByteArray} {pc : Nat} {lv : List (Option Value)} {st : List Value} {h : AH} {k n : Nat}
theorem gf_Jx4a65c_9 (C : Cx p s m args meth c Y cc nL RJx4a65c) {a : Nat} {fs : List Value} {v : Value} (ha : h a = some (.inr (0, fs))) (hv : fs[1]? = some v) (hd : decode cc pc = .ok (.getfield 9, 3)) (kk : Gd p l e R s m args below meth c Q Y nL (pc + 3) lv (v :: st) h k n) : Gd p l e R s m args below meth c Q Y nL pc lv (.ref a :: st) h k n :=
  g_getf C (ci := 0) (j := 1) (idx := 9) (T := TJx4a65c) (N := 3) (ref := "java/util/ArrayList") rfl in_Jx4a65c (by decide) w105 (fun _ z => z) ha hv hd kk
theorem gf_Jx4a65c_48 (C : Cx p s m args meth c Y cc nL RJx4a65c) {a : Nat} {fs : List Value} {v : Value} (ha : h a = some (.inr (0, fs))) (hv : fs[2]? = some v) (hd : decode cc pc = .ok (.getfield 48, 3)) (kk : Gd p l e R s m args below meth c Q Y nL (pc + 3) lv (v :: st) h k n) : Gd p l e R s m args below meth c Q Y nL pc lv (.ref a :: st) h k n :=
  g_getf C (ci := 0) (j := 2) (idx := 48) (T := TJx4a65c) (N := 3) (ref := "java/util/ArrayList") rfl in_Jx4a65c (by decide) w106 (fun _ z => z) ha hv hd kk
theorem gf_Jx4a65c_63 (C : Cx p s m args meth c Y cc nL RJx4a65c) {a : Nat} {fs : List Value} {v : Value} (ha : h a = some (.inr (0, fs))) (hv : fs[0]? = some v) (hd : decode cc pc = .ok (.getfield 63, 3)) (kk : Gd p l e R s m args below meth c Q Y nL (pc + 3) lv (v :: st) h k n) : Gd p l e R s m args below meth c Q Y nL pc lv (.ref a :: st) h k n :=
  g_getf C (ci := 0) (j := 0) (idx := 63) (T := TJx4a65c) (N := 3) (ref := "java/util/ArrayList") rfl in_Jx4a65c (by decide) w108 (fun x z => u_same (C.2.2.2.2.1 _ w109) x z) ha hv hd kk
theorem pf_Jx4a65c_9 (C : Cx p s m args meth c Y cc nL RJx4a65c) {a : Nat} {fs : List Value} {v : Value} (ha : h a = some (.inr (0, fs))) (hjl : 1 < fs.length) (hr : isR v = true) (hd : decode cc pc = .ok (.putfield 9, 3)) (kk : Gd p l e R s m args below meth c Q Y nL (pc + 3) lv st (hup h a (.inr (0, fs.set 1 (v)))) k n) : Gd p l e R s m args below meth c Q Y nL pc lv (v :: .ref a :: st) h k n :=
  g_putf C (ci := 0) (j := 1) (idx := 9) (T := TJx4a65c) (N := 3) (ref := "java/util/ArrayList") rfl in_Jx4a65c (by decide) w105 (fun _ z => z) tyJx4a65c tyJx4a65c_ok nmJx4a65c (ty := tyJx4a65c 1) (tyJx4a65c_ok 1 (by decide)) (nw_arr hr).1 (nw_arr hr).2 ha hjl hd rfl kk
theorem pf_Jx4a65c_48 (C : Cx p s m args meth c Y cc nL RJx4a65c) {a : Nat} {fs : List Value} {x : Int32} (ha : h a = some (.inr (0, fs))) (hjl : 2 < fs.length)  (hd : decode cc pc = .ok (.putfield 48, 3)) (kk : Gd p l e R s m args below meth c Q Y nL (pc + 3) lv st (hup h a (.inr (0, fs.set 2 (.int x)))) k n) : Gd p l e R s m args below meth c Q Y nL pc lv (.int x :: .ref a :: st) h k n :=
  g_putf C (ci := 0) (j := 2) (idx := 48) (T := TJx4a65c) (N := 3) (ref := "java/util/ArrayList") rfl in_Jx4a65c (by decide) w106 (fun _ z => z) tyJx4a65c tyJx4a65c_ok nmJx4a65c (ty := tyJx4a65c 2) (tyJx4a65c_ok 2 (by decide)) rfl rfl ha hjl hd rfl kk
theorem pf_Jx4a65c_63 (C : Cx p s m args meth c Y cc nL RJx4a65c) {a : Nat} {fs : List Value} {x : Int32} (ha : h a = some (.inr (0, fs))) (hjl : 0 < fs.length)  (hd : decode cc pc = .ok (.putfield 63, 3)) (kk : Gd p l e R s m args below meth c Q Y nL (pc + 3) lv st (hup h a (.inr (0, fs.set 0 (.int x)))) k n) : Gd p l e R s m args below meth c Q Y nL pc lv (.int x :: .ref a :: st) h k n :=
  g_putf C (ci := 0) (j := 0) (idx := 63) (T := TJx4a65c) (N := 3) (ref := "java/util/ArrayList") rfl in_Jx4a65c (by decide) w108 (fun x z => u_same (C.2.2.2.2.1 _ w109) x z) tyJx4a65c tyJx4a65c_ok nmJx4a65c (ty := tyJx4a65c 0) (tyJx4a65c_ok 0 (by decide)) rfl rfl ha hjl hd rfl kk
theorem cn_L_8 (C : Cx p s m args meth c Y cc nL RL) (hd : decode cc pc = .ok (.new 8, 3)) (hk : k + 1 ≤ R.cells) (hn : n + 2 ≤ R.slots) (kk : ∀ q : Nat, h q = none → Gd p l e R s m args below meth c Q Y nL (pc + 3) lv (.ref q :: st) (hup h q (.inr (3, [.null, .null]))) (k + 1) (n + 2)) : Gd p l e R s m args below meth c Q Y nL pc lv st h k n :=
  g_new C (ci := 3) (idx := 8) (T := TX2) (N := 2) (fs := [.null, .null]) rfl in_X2 tyX2 tyX2_ok w21 w22 w1 (fun j hj => by rcases (show j = 0 ∨ j = 1 by omega) with rfl | rfl <;> rfl) hk hn hd kk
theorem cn_L_83 (C : Cx p s m args meth c Y cc nL RL) (hd : decode cc pc = .ok (.new 83, 3)) (hk : k + 1 ≤ R.cells) (hn : n + 11 ≤ R.slots) (kk : ∀ q : Nat, h q = none → Gd p l e R s m args below meth c Q Y nL (pc + 3) lv (.ref q :: st) (hup h q (.inr (4, [.int 0, .int 0, .int 0, .int 0, .null, .null, .null, .null, .null, .null, .null]))) (k + 1) (n + 11)) : Gd p l e R s m args below meth c Q Y nL pc lv st h k n :=
  g_new C (ci := 4) (idx := 83) (T := TX3) (N := 11) (fs := [.int 0, .int 0, .int 0, .int 0, .null, .null, .null, .null, .null, .null, .null]) rfl in_X3 tyX3 tyX3_ok w664 w665 w11 (fun j hj => by rcases (show j = 0 ∨ j = 1 ∨ j = 2 ∨ j = 3 ∨ j = 4 ∨ j = 5 ∨ j = 6 ∨ j = 7 ∨ j = 8 ∨ j = 9 ∨ j = 10 by omega) with rfl | rfl | rfl | rfl | rfl | rfl | rfl | rfl | rfl | rfl | rfl <;> rfl) hk hn hd kk
theorem gf_X0_7 (C : Cx p s m args meth c Y cc nL RX0) {a : Nat} {fs : List Value} {v : Value} (ha : h a = some (.inr (1, fs))) (hv : fs[0]? = some v) (hd : decode cc pc = .ok (.getfield 7, 3)) (kk : Gd p l e R s m args below meth c Q Y nL (pc + 3) lv (v :: st) h k n) : Gd p l e R s m args below meth c Q Y nL pc lv (.ref a :: st) h k n :=
  g_getf C (ci := 1) (j := 0) (idx := 7) (T := TX0) (N := 9) (ref := "CatEvenings$Evening") rfl in_X0 (by decide) w54 (fun _ z => z) ha hv hd kk
theorem gf_X0_23 (C : Cx p s m args meth c Y cc nL RX0) {a : Nat} {fs : List Value} {v : Value} (ha : h a = some (.inr (1, fs))) (hv : fs[4]? = some v) (hd : decode cc pc = .ok (.getfield 23, 3)) (kk : Gd p l e R s m args below meth c Q Y nL (pc + 3) lv (v :: st) h k n) : Gd p l e R s m args below meth c Q Y nL pc lv (.ref a :: st) h k n :=
  g_getf C (ci := 1) (j := 4) (idx := 23) (T := TX0) (N := 9) (ref := "CatEvenings$Evening") rfl in_X0 (by decide) w62 (fun _ z => z) ha hv hd kk
theorem gf_X0_30 (C : Cx p s m args meth c Y cc nL RX0) {a : Nat} {fs : List Value} {v : Value} (ha : h a = some (.inr (1, fs))) (hv : fs[6]? = some v) (hd : decode cc pc = .ok (.getfield 30, 3)) (kk : Gd p l e R s m args below meth c Q Y nL (pc + 3) lv (v :: st) h k n) : Gd p l e R s m args below meth c Q Y nL pc lv (.ref a :: st) h k n :=
  g_getf C (ci := 1) (j := 6) (idx := 30) (T := TX0) (N := 9) (ref := "CatEvenings$Evening") rfl in_X0 (by decide) w66 (fun _ z => z) ha hv hd kk
theorem gf_X0_33 (C : Cx p s m args meth c Y cc nL RX0) {a : Nat} {fs : List Value} {v : Value} (ha : h a = some (.inr (1, fs))) (hv : fs[7]? = some v) (hd : decode cc pc = .ok (.getfield 33, 3)) (kk : Gd p l e R s m args below meth c Q Y nL (pc + 3) lv (v :: st) h k n) : Gd p l e R s m args below meth c Q Y nL pc lv (.ref a :: st) h k n :=
  g_getf C (ci := 1) (j := 7) (idx := 33) (T := TX0) (N := 9) (ref := "CatEvenings$Evening") rfl in_X0 (by decide) w68 (fun _ z => z) ha hv hd kk
theorem gf_X0_36 (C : Cx p s m args meth c Y cc nL RX0) {a : Nat} {fs : List Value} {v : Value} (ha : h a = some (.inr (1, fs))) (hv : fs[8]? = some v) (hd : decode cc pc = .ok (.getfield 36, 3)) (kk : Gd p l e R s m args below meth c Q Y nL (pc + 3) lv (v :: st) h k n) : Gd p l e R s m args below meth c Q Y nL pc lv (.ref a :: st) h k n :=
  g_getf C (ci := 1) (j := 8) (idx := 36) (T := TX0) (N := 9) (ref := "CatEvenings$Evening") rfl in_X0 (by decide) w70 (fun _ z => z) ha hv hd kk
theorem pf_X0_7 (C : Cx p s m args meth c Y cc nL RX0) {a : Nat} {fs : List Value} {v : Value} (hnm : meth.name = "<init>") (ha : h a = some (.inr (1, fs))) (hjl : 0 < fs.length) (hr : isR v = true) (hd : decode cc pc = .ok (.putfield 7, 3)) (kk : Gd p l e R s m args below meth c Q Y nL (pc + 3) lv st (hup h a (.inr (1, fs.set 0 (v)))) k n) : Gd p l e R s m args below meth c Q Y nL pc lv (v :: .ref a :: st) h k n :=
  g_putF C (ci := 1) (j := 0) (idx := 7) (T := TX0) (N := 9) (ref := "CatEvenings$Evening") rfl in_X0 (by decide) w54 (fun _ z => z) tyX0 tyX0_ok nmX0 (ty := tyX0 0) (tyX0_ok 0 (by decide)) (nw_obj hr).1 (nw_obj hr).2 ha hjl hd rfl hnm rfl kk
theorem pf_X0_13 (C : Cx p s m args meth c Y cc nL RX0) {a : Nat} {fs : List Value} {x : Int32} (hnm : meth.name = "<init>") (ha : h a = some (.inr (1, fs))) (hjl : 1 < fs.length)  (hd : decode cc pc = .ok (.putfield 13, 3)) (kk : Gd p l e R s m args below meth c Q Y nL (pc + 3) lv st (hup h a (.inr (1, fs.set 1 (.int x)))) k n) : Gd p l e R s m args below meth c Q Y nL pc lv (.int x :: .ref a :: st) h k n :=
  g_putF C (ci := 1) (j := 1) (idx := 13) (T := TX0) (N := 9) (ref := "CatEvenings$Evening") rfl in_X0 (by decide) w56 (fun _ z => z) tyX0 tyX0_ok nmX0 (ty := tyX0 1) (tyX0_ok 1 (by decide)) rfl rfl ha hjl hd rfl hnm rfl kk
theorem pf_X0_17 (C : Cx p s m args meth c Y cc nL RX0) {a : Nat} {fs : List Value} {x : Int32} (hnm : meth.name = "<init>") (ha : h a = some (.inr (1, fs))) (hjl : 2 < fs.length)  (hd : decode cc pc = .ok (.putfield 17, 3)) (kk : Gd p l e R s m args below meth c Q Y nL (pc + 3) lv st (hup h a (.inr (1, fs.set 2 (.int x)))) k n) : Gd p l e R s m args below meth c Q Y nL pc lv (.int x :: .ref a :: st) h k n :=
  g_putF C (ci := 1) (j := 2) (idx := 17) (T := TX0) (N := 9) (ref := "CatEvenings$Evening") rfl in_X0 (by decide) w58 (fun _ z => z) tyX0 tyX0_ok nmX0 (ty := tyX0 2) (tyX0_ok 2 (by decide)) rfl rfl ha hjl hd rfl hnm rfl kk
theorem pf_X0_20 (C : Cx p s m args meth c Y cc nL RX0) {a : Nat} {fs : List Value} {x : Int32} (hnm : meth.name = "<init>") (ha : h a = some (.inr (1, fs))) (hjl : 3 < fs.length)  (hd : decode cc pc = .ok (.putfield 20, 3)) (kk : Gd p l e R s m args below meth c Q Y nL (pc + 3) lv st (hup h a (.inr (1, fs.set 3 (.int x)))) k n) : Gd p l e R s m args below meth c Q Y nL pc lv (.int x :: .ref a :: st) h k n :=
  g_putF C (ci := 1) (j := 3) (idx := 20) (T := TX0) (N := 9) (ref := "CatEvenings$Evening") rfl in_X0 (by decide) w60 (fun _ z => z) tyX0 tyX0_ok nmX0 (ty := tyX0 3) (tyX0_ok 3 (by decide)) rfl rfl ha hjl hd rfl hnm rfl kk
theorem pf_X0_23 (C : Cx p s m args meth c Y cc nL RX0) {a : Nat} {fs : List Value} {x : Int32} (hnm : meth.name = "<init>") (ha : h a = some (.inr (1, fs))) (hjl : 4 < fs.length)  (hd : decode cc pc = .ok (.putfield 23, 3)) (kk : Gd p l e R s m args below meth c Q Y nL (pc + 3) lv st (hup h a (.inr (1, fs.set 4 (.int x)))) k n) : Gd p l e R s m args below meth c Q Y nL pc lv (.int x :: .ref a :: st) h k n :=
  g_putF C (ci := 1) (j := 4) (idx := 23) (T := TX0) (N := 9) (ref := "CatEvenings$Evening") rfl in_X0 (by decide) w62 (fun _ z => z) tyX0 tyX0_ok nmX0 (ty := tyX0 4) (tyX0_ok 4 (by decide)) rfl rfl ha hjl hd rfl hnm rfl kk
theorem pf_X0_26 (C : Cx p s m args meth c Y cc nL RX0) {a : Nat} {fs : List Value} {v : Value} (ha : h a = some (.inr (1, fs))) (hjl : 5 < fs.length) (hr : isR v = true) (hd : decode cc pc = .ok (.putfield 26, 3)) (kk : Gd p l e R s m args below meth c Q Y nL (pc + 3) lv st (hup h a (.inr (1, fs.set 5 (v)))) k n) : Gd p l e R s m args below meth c Q Y nL pc lv (v :: .ref a :: st) h k n :=
  g_putf C (ci := 1) (j := 5) (idx := 26) (T := TX0) (N := 9) (ref := "CatEvenings$Evening") rfl in_X0 (by decide) w64 (fun _ z => z) tyX0 tyX0_ok nmX0 (ty := tyX0 5) (tyX0_ok 5 (by decide)) (nw_obj hr).1 (nw_obj hr).2 ha hjl hd rfl kk
theorem pf_X0_30 (C : Cx p s m args meth c Y cc nL RX0) {a : Nat} {fs : List Value} {v : Value} (ha : h a = some (.inr (1, fs))) (hjl : 6 < fs.length) (hr : isR v = true) (hd : decode cc pc = .ok (.putfield 30, 3)) (kk : Gd p l e R s m args below meth c Q Y nL (pc + 3) lv st (hup h a (.inr (1, fs.set 6 (v)))) k n) : Gd p l e R s m args below meth c Q Y nL pc lv (v :: .ref a :: st) h k n :=
  g_putf C (ci := 1) (j := 6) (idx := 30) (T := TX0) (N := 9) (ref := "CatEvenings$Evening") rfl in_X0 (by decide) w66 (fun _ z => z) tyX0 tyX0_ok nmX0 (ty := tyX0 6) (tyX0_ok 6 (by decide)) (nw_obj hr).1 (nw_obj hr).2 ha hjl hd rfl kk
theorem pf_X0_33 (C : Cx p s m args meth c Y cc nL RX0) {a : Nat} {fs : List Value} {x : Int32} (ha : h a = some (.inr (1, fs))) (hjl : 7 < fs.length)  (hd : decode cc pc = .ok (.putfield 33, 3)) (kk : Gd p l e R s m args below meth c Q Y nL (pc + 3) lv st (hup h a (.inr (1, fs.set 7 (.int x)))) k n) : Gd p l e R s m args below meth c Q Y nL pc lv (.int x :: .ref a :: st) h k n :=
  g_putf C (ci := 1) (j := 7) (idx := 33) (T := TX0) (N := 9) (ref := "CatEvenings$Evening") rfl in_X0 (by decide) w68 (fun _ z => z) tyX0 tyX0_ok nmX0 (ty := tyX0 7) (tyX0_ok 7 (by decide)) rfl rfl ha hjl hd rfl kk
theorem pf_X0_36 (C : Cx p s m args meth c Y cc nL RX0) {a : Nat} {fs : List Value} {x : Int32} (ha : h a = some (.inr (1, fs))) (hjl : 8 < fs.length)  (hd : decode cc pc = .ok (.putfield 36, 3)) (kk : Gd p l e R s m args below meth c Q Y nL (pc + 3) lv st (hup h a (.inr (1, fs.set 8 (.int x)))) k n) : Gd p l e R s m args below meth c Q Y nL pc lv (.int x :: .ref a :: st) h k n :=
  g_putf C (ci := 1) (j := 8) (idx := 36) (T := TX0) (N := 9) (ref := "CatEvenings$Evening") rfl in_X0 (by decide) w70 (fun _ z => z) tyX0 tyX0_ok nmX0 (ty := tyX0 8) (tyX0_ok 8 (by decide)) rfl rfl ha hjl hd rfl kk
theorem gf_X1_9 (C : Cx p s m args meth c Y cc nL RX1) {a : Nat} {fs : List Value} {v : Value} (ha : h a = some (.inr (2, fs))) (hv : fs[0]? = some v) (hd : decode cc pc = .ok (.getfield 9, 3)) (kk : Gd p l e R s m args below meth c Q Y nL (pc + 3) lv (v :: st) h k n) : Gd p l e R s m args below meth c Q Y nL pc lv (.ref a :: st) h k n :=
  g_getf C (ci := 2) (j := 0) (idx := 9) (T := TX1) (N := 3) (ref := "CatEvenings$Scene") rfl in_X1 (by decide) w37 (fun _ z => z) ha hv hd kk
theorem gf_X1_15 (C : Cx p s m args meth c Y cc nL RX1) {a : Nat} {fs : List Value} {v : Value} (ha : h a = some (.inr (2, fs))) (hv : fs[1]? = some v) (hd : decode cc pc = .ok (.getfield 15, 3)) (kk : Gd p l e R s m args below meth c Q Y nL (pc + 3) lv (v :: st) h k n) : Gd p l e R s m args below meth c Q Y nL pc lv (.ref a :: st) h k n :=
  g_getf C (ci := 2) (j := 1) (idx := 15) (T := TX1) (N := 3) (ref := "CatEvenings$Scene") rfl in_X1 (by decide) w39 (fun _ z => z) ha hv hd kk
theorem gf_X1_19 (C : Cx p s m args meth c Y cc nL RX1) {a : Nat} {fs : List Value} {v : Value} (ha : h a = some (.inr (2, fs))) (hv : fs[2]? = some v) (hd : decode cc pc = .ok (.getfield 19, 3)) (kk : Gd p l e R s m args below meth c Q Y nL (pc + 3) lv (v :: st) h k n) : Gd p l e R s m args below meth c Q Y nL pc lv (.ref a :: st) h k n :=
  g_getf C (ci := 2) (j := 2) (idx := 19) (T := TX1) (N := 3) (ref := "CatEvenings$Scene") rfl in_X1 (by decide) w41 (fun _ z => z) ha hv hd kk
theorem cn_X1_10 (C : Cx p s m args meth c Y cc nL RX1) (hd : decode cc pc = .ok (.new 10, 3)) (hk : k + 1 ≤ R.cells) (hn : n + 3 ≤ R.slots) (kk : ∀ q : Nat, h q = none → Gd p l e R s m args below meth c Q Y nL (pc + 3) lv (.ref q :: st) (hup h q (.inr (2, [.int 0, .null, .int 0]))) (k + 1) (n + 3)) : Gd p l e R s m args below meth c Q Y nL pc lv st h k n :=
  g_new C (ci := 2) (idx := 10) (T := TX1) (N := 3) (fs := [.int 0, .null, .int 0]) rfl in_X1 tyX1 tyX1_ok w451 w32 w3 (fun j hj => by rcases (show j = 0 ∨ j = 1 ∨ j = 2 by omega) with rfl | rfl | rfl <;> rfl) hk hn hd kk
theorem pf_X1_9 (C : Cx p s m args meth c Y cc nL RX1) {a : Nat} {fs : List Value} {x : Int32} (hnm : meth.name = "<init>") (ha : h a = some (.inr (2, fs))) (hjl : 0 < fs.length)  (hd : decode cc pc = .ok (.putfield 9, 3)) (kk : Gd p l e R s m args below meth c Q Y nL (pc + 3) lv st (hup h a (.inr (2, fs.set 0 (.int x)))) k n) : Gd p l e R s m args below meth c Q Y nL pc lv (.int x :: .ref a :: st) h k n :=
  g_putF C (ci := 2) (j := 0) (idx := 9) (T := TX1) (N := 3) (ref := "CatEvenings$Scene") rfl in_X1 (by decide) w37 (fun _ z => z) tyX1 tyX1_ok nmX1 (ty := tyX1 0) (tyX1_ok 0 (by decide)) rfl rfl ha hjl hd rfl hnm rfl kk
theorem pf_X1_15 (C : Cx p s m args meth c Y cc nL RX1) {a : Nat} {fs : List Value} {v : Value} (hnm : meth.name = "<init>") (ha : h a = some (.inr (2, fs))) (hjl : 1 < fs.length) (hr : isR v = true) (hd : decode cc pc = .ok (.putfield 15, 3)) (kk : Gd p l e R s m args below meth c Q Y nL (pc + 3) lv st (hup h a (.inr (2, fs.set 1 (v)))) k n) : Gd p l e R s m args below meth c Q Y nL pc lv (v :: .ref a :: st) h k n :=
  g_putF C (ci := 2) (j := 1) (idx := 15) (T := TX1) (N := 3) (ref := "CatEvenings$Scene") rfl in_X1 (by decide) w39 (fun _ z => z) tyX1 tyX1_ok nmX1 (ty := tyX1 1) (tyX1_ok 1 (by decide)) (nw_arr hr).1 (nw_arr hr).2 ha hjl hd rfl hnm rfl kk
theorem pf_X1_19 (C : Cx p s m args meth c Y cc nL RX1) {a : Nat} {fs : List Value} {x : Int32} (hnm : meth.name = "<init>") (ha : h a = some (.inr (2, fs))) (hjl : 2 < fs.length)  (hd : decode cc pc = .ok (.putfield 19, 3)) (kk : Gd p l e R s m args below meth c Q Y nL (pc + 3) lv st (hup h a (.inr (2, fs.set 2 (.int x)))) k n) : Gd p l e R s m args below meth c Q Y nL pc lv (.int x :: .ref a :: st) h k n :=
  g_putF C (ci := 2) (j := 2) (idx := 19) (T := TX1) (N := 3) (ref := "CatEvenings$Scene") rfl in_X1 (by decide) w41 (fun _ z => z) tyX1 tyX1_ok nmX1 (ty := tyX1 2) (tyX1_ok 2 (by decide)) rfl rfl ha hjl hd rfl hnm rfl kk
theorem cc_X2_7 (C : Cx p s m args meth c Y cc nL RX2) {a : Nat} {fs : List Value} (ha : h a = some (.inr (1, fs))) (hd : decode cc pc = .ok (.checkcast 7, 3)) (kk : Gd p l e R s m args below meth c Q Y nL (pc + 3) lv (.ref a :: st) h k n) : Gd p l e R s m args below meth c Q Y nL pc lv (.ref a :: st) h k n :=
  g_castS C (ci := 1) (T := TX0) (N := 9) rfl w29 ha hd kk
theorem gf_X2_19 (C : Cx p s m args meth c Y cc nL RX2) {a : Nat} {fs : List Value} {v : Value} (ha : h a = some (.inr (3, fs))) (hv : fs[1]? = some v) (hd : decode cc pc = .ok (.getfield 19, 3)) (kk : Gd p l e R s m args below meth c Q Y nL (pc + 3) lv (v :: st) h k n) : Gd p l e R s m args below meth c Q Y nL pc lv (.ref a :: st) h k n :=
  g_getf C (ci := 3) (j := 1) (idx := 19) (T := TX2) (N := 2) (ref := "CatEvenings") rfl in_X2 (by decide) w179 (fun _ z => z) ha hv hd kk
theorem gf_X2_26 (C : Cx p s m args meth c Y cc nL RX2) {a : Nat} {fs : List Value} {v : Value} (ha : h a = some (.inr (3, fs))) (hv : fs[0]? = some v) (hd : decode cc pc = .ok (.getfield 26, 3)) (kk : Gd p l e R s m args below meth c Q Y nL (pc + 3) lv (v :: st) h k n) : Gd p l e R s m args below meth c Q Y nL pc lv (.ref a :: st) h k n :=
  g_getf C (ci := 3) (j := 0) (idx := 26) (T := TX2) (N := 2) (ref := "CatEvenings") rfl in_X2 (by decide) w178 (fun _ z => z) ha hv hd kk
theorem gf_X2_40 (C : Cx p s m args meth c Y cc nL RX2) {a : Nat} {fs : List Value} {v : Value} (ha : h a = some (.inr (1, fs))) (hv : fs[5]? = some v) (hd : decode cc pc = .ok (.getfield 40, 3)) (kk : Gd p l e R s m args below meth c Q Y nL (pc + 3) lv (v :: st) h k n) : Gd p l e R s m args below meth c Q Y nL pc lv (.ref a :: st) h k n :=
  g_getf C (ci := 1) (j := 5) (idx := 40) (T := TX0) (N := 9) (ref := "CatEvenings$Evening") rfl in_X0 (by decide) w65 (fun _ z => z) ha hv hd kk
theorem gf_X2_44 (C : Cx p s m args meth c Y cc nL RX2) {a : Nat} {fs : List Value} {v : Value} (ha : h a = some (.inr (2, fs))) (hv : fs[1]? = some v) (hd : decode cc pc = .ok (.getfield 44, 3)) (kk : Gd p l e R s m args below meth c Q Y nL (pc + 3) lv (v :: st) h k n) : Gd p l e R s m args below meth c Q Y nL pc lv (.ref a :: st) h k n :=
  g_getf C (ci := 2) (j := 1) (idx := 44) (T := TX1) (N := 3) (ref := "CatEvenings$Scene") rfl in_X1 (by decide) w40 (fun _ z => z) ha hv hd kk
theorem gf_X2_85 (C : Cx p s m args meth c Y cc nL RX2) {a : Nat} {fs : List Value} {v : Value} (ha : h a = some (.inr (1, fs))) (hv : fs[1]? = some v) (hd : decode cc pc = .ok (.getfield 85, 3)) (kk : Gd p l e R s m args below meth c Q Y nL (pc + 3) lv (v :: st) h k n) : Gd p l e R s m args below meth c Q Y nL pc lv (.ref a :: st) h k n :=
  g_getf C (ci := 1) (j := 1) (idx := 85) (T := TX0) (N := 9) (ref := "CatEvenings$Evening") rfl in_X0 (by decide) w57 (fun _ z => z) ha hv hd kk
theorem gf_X2_93 (C : Cx p s m args meth c Y cc nL RX2) {a : Nat} {fs : List Value} {v : Value} (ha : h a = some (.inr (1, fs))) (hv : fs[0]? = some v) (hd : decode cc pc = .ok (.getfield 93, 3)) (kk : Gd p l e R s m args below meth c Q Y nL (pc + 3) lv (v :: st) h k n) : Gd p l e R s m args below meth c Q Y nL pc lv (.ref a :: st) h k n :=
  g_getf C (ci := 1) (j := 0) (idx := 93) (T := TX0) (N := 9) (ref := "CatEvenings$Evening") rfl in_X0 (by decide) w55 (fun _ z => z) ha hv hd kk
theorem gf_X2_98 (C : Cx p s m args meth c Y cc nL RX2) {a : Nat} {fs : List Value} {v : Value} (ha : h a = some (.inr (1, fs))) (hv : fs[6]? = some v) (hd : decode cc pc = .ok (.getfield 98, 3)) (kk : Gd p l e R s m args below meth c Q Y nL (pc + 3) lv (v :: st) h k n) : Gd p l e R s m args below meth c Q Y nL pc lv (.ref a :: st) h k n :=
  g_getf C (ci := 1) (j := 6) (idx := 98) (T := TX0) (N := 9) (ref := "CatEvenings$Evening") rfl in_X0 (by decide) w67 (fun _ z => z) ha hv hd kk
theorem gf_X2_111 (C : Cx p s m args meth c Y cc nL RX2) {a : Nat} {fs : List Value} {v : Value} (ha : h a = some (.inr (2, fs))) (hv : fs[0]? = some v) (hd : decode cc pc = .ok (.getfield 111, 3)) (kk : Gd p l e R s m args below meth c Q Y nL (pc + 3) lv (v :: st) h k n) : Gd p l e R s m args below meth c Q Y nL pc lv (.ref a :: st) h k n :=
  g_getf C (ci := 2) (j := 0) (idx := 111) (T := TX1) (N := 3) (ref := "CatEvenings$Scene") rfl in_X1 (by decide) w38 (fun _ z => z) ha hv hd kk
theorem gf_X2_137 (C : Cx p s m args meth c Y cc nL RX2) {a : Nat} {fs : List Value} {v : Value} (ha : h a = some (.inr (1, fs))) (hv : fs[2]? = some v) (hd : decode cc pc = .ok (.getfield 137, 3)) (kk : Gd p l e R s m args below meth c Q Y nL (pc + 3) lv (v :: st) h k n) : Gd p l e R s m args below meth c Q Y nL pc lv (.ref a :: st) h k n :=
  g_getf C (ci := 1) (j := 2) (idx := 137) (T := TX0) (N := 9) (ref := "CatEvenings$Evening") rfl in_X0 (by decide) w59 (fun _ z => z) ha hv hd kk
theorem gf_X2_140 (C : Cx p s m args meth c Y cc nL RX2) {a : Nat} {fs : List Value} {v : Value} (ha : h a = some (.inr (1, fs))) (hv : fs[3]? = some v) (hd : decode cc pc = .ok (.getfield 140, 3)) (kk : Gd p l e R s m args below meth c Q Y nL (pc + 3) lv (v :: st) h k n) : Gd p l e R s m args below meth c Q Y nL pc lv (.ref a :: st) h k n :=
  g_getf C (ci := 1) (j := 3) (idx := 140) (T := TX0) (N := 9) (ref := "CatEvenings$Evening") rfl in_X0 (by decide) w61 (fun _ z => z) ha hv hd kk
theorem gf_X2_143 (C : Cx p s m args meth c Y cc nL RX2) {a : Nat} {fs : List Value} {v : Value} (ha : h a = some (.inr (1, fs))) (hv : fs[4]? = some v) (hd : decode cc pc = .ok (.getfield 143, 3)) (kk : Gd p l e R s m args below meth c Q Y nL (pc + 3) lv (v :: st) h k n) : Gd p l e R s m args below meth c Q Y nL pc lv (.ref a :: st) h k n :=
  g_getf C (ci := 1) (j := 4) (idx := 143) (T := TX0) (N := 9) (ref := "CatEvenings$Evening") rfl in_X0 (by decide) w63 (fun _ z => z) ha hv hd kk
theorem gf_X2_146 (C : Cx p s m args meth c Y cc nL RX2) {a : Nat} {fs : List Value} {v : Value} (ha : h a = some (.inr (1, fs))) (hv : fs[7]? = some v) (hd : decode cc pc = .ok (.getfield 146, 3)) (kk : Gd p l e R s m args below meth c Q Y nL (pc + 3) lv (v :: st) h k n) : Gd p l e R s m args below meth c Q Y nL pc lv (.ref a :: st) h k n :=
  g_getf C (ci := 1) (j := 7) (idx := 146) (T := TX0) (N := 9) (ref := "CatEvenings$Evening") rfl in_X0 (by decide) w69 (fun _ z => z) ha hv hd kk
theorem gf_X2_149 (C : Cx p s m args meth c Y cc nL RX2) {a : Nat} {fs : List Value} {v : Value} (ha : h a = some (.inr (1, fs))) (hv : fs[8]? = some v) (hd : decode cc pc = .ok (.getfield 149, 3)) (kk : Gd p l e R s m args below meth c Q Y nL (pc + 3) lv (v :: st) h k n) : Gd p l e R s m args below meth c Q Y nL pc lv (.ref a :: st) h k n :=
  g_getf C (ci := 1) (j := 8) (idx := 149) (T := TX0) (N := 9) (ref := "CatEvenings$Evening") rfl in_X0 (by decide) w71 (fun _ z => z) ha hv hd kk
theorem cn_X2_7 (C : Cx p s m args meth c Y cc nL RX2) (hd : decode cc pc = .ok (.new 7, 3)) (hk : k + 1 ≤ R.cells) (hn : n + 9 ≤ R.slots) (kk : ∀ q : Nat, h q = none → Gd p l e R s m args below meth c Q Y nL (pc + 3) lv (.ref q :: st) (hup h q (.inr (1, [.null, .int 0, .int 0, .int 0, .int 0, .null, .null, .int 0, .int 0]))) (k + 1) (n + 9)) : Gd p l e R s m args below meth c Q Y nL pc lv st h k n :=
  g_new C (ci := 1) (idx := 7) (T := TX0) (N := 9) (fs := [.null, .int 0, .int 0, .int 0, .int 0, .null, .null, .int 0, .int 0]) rfl in_X0 tyX0 tyX0_ok w29 w30 w2 (fun j hj => by rcases (show j = 0 ∨ j = 1 ∨ j = 2 ∨ j = 3 ∨ j = 4 ∨ j = 5 ∨ j = 6 ∨ j = 7 ∨ j = 8 by omega) with rfl | rfl | rfl | rfl | rfl | rfl | rfl | rfl | rfl <;> rfl) hk hn hd kk
theorem cn_X2_11 (C : Cx p s m args meth c Y cc nL RX2) (hd : decode cc pc = .ok (.new 11, 3)) (hk : k + 1 ≤ R.cells) (hn : n + 3 ≤ R.slots) (kk : ∀ q : Nat, h q = none → Gd p l e R s m args below meth c Q Y nL (pc + 3) lv (.ref q :: st) (hup h q (.inr (2, [.int 0, .null, .int 0]))) (k + 1) (n + 3)) : Gd p l e R s m args below meth c Q Y nL pc lv st h k n :=
  g_new C (ci := 2) (idx := 11) (T := TX1) (N := 3) (fs := [.int 0, .null, .int 0]) rfl in_X1 tyX1 tyX1_ok w31 w32 w3 (fun j hj => by rcases (show j = 0 ∨ j = 1 ∨ j = 2 by omega) with rfl | rfl | rfl <;> rfl) hk hn hd kk
theorem cn_X2_23 (C : Cx p s m args meth c Y cc nL RX2) (hd : decode cc pc = .ok (.new 23, 3)) (hk : k + 1 ≤ R.cells) (hn : n + 3 ≤ R.slots) (kk : ∀ q : Nat, h q = none → Gd p l e R s m args below meth c Q Y nL (pc + 3) lv (.ref q :: st) (hup h q (.inr (0, [.int 0, .null, .int 0]))) (k + 1) (n + 3)) : Gd p l e R s m args below meth c Q Y nL pc lv st h k n :=
  g_new C (ci := 0) (idx := 23) (T := TJx4a65c) (N := 3) (fs := [.int 0, .null, .int 0]) rfl in_Jx4a65c tyJx4a65c tyJx4a65c_ok w91 w92 w6 (fun j hj => by rcases (show j = 0 ∨ j = 1 ∨ j = 2 by omega) with rfl | rfl | rfl <;> rfl) hk hn hd kk
theorem pf_X2_19 (C : Cx p s m args meth c Y cc nL RX2) {a : Nat} {fs : List Value} {v : Value} (ha : h a = some (.inr (3, fs))) (hjl : 1 < fs.length) (hr : isR v = true) (hd : decode cc pc = .ok (.putfield 19, 3)) (kk : Gd p l e R s m args below meth c Q Y nL (pc + 3) lv st (hup h a (.inr (3, fs.set 1 (v)))) k n) : Gd p l e R s m args below meth c Q Y nL pc lv (v :: .ref a :: st) h k n :=
  g_putf C (ci := 3) (j := 1) (idx := 19) (T := TX2) (N := 2) (ref := "CatEvenings") rfl in_X2 (by decide) w179 (fun _ z => z) tyX2 tyX2_ok nmX2 (ty := tyX2 1) (tyX2_ok 1 (by decide)) (nw_obj hr).1 (nw_obj hr).2 ha hjl hd rfl kk
theorem pf_X2_26 (C : Cx p s m args meth c Y cc nL RX2) {a : Nat} {fs : List Value} {v : Value} (hnm : meth.name = "<init>") (ha : h a = some (.inr (3, fs))) (hjl : 0 < fs.length) (hr : isR v = true) (hd : decode cc pc = .ok (.putfield 26, 3)) (kk : Gd p l e R s m args below meth c Q Y nL (pc + 3) lv st (hup h a (.inr (3, fs.set 0 (v)))) k n) : Gd p l e R s m args below meth c Q Y nL pc lv (v :: .ref a :: st) h k n :=
  g_putF C (ci := 3) (j := 0) (idx := 26) (T := TX2) (N := 2) (ref := "CatEvenings") rfl in_X2 (by decide) w178 (fun _ z => z) tyX2 tyX2_ok nmX2 (ty := tyX2 0) (tyX2_ok 0 (by decide)) (nw_obj hr).1 (nw_obj hr).2 ha hjl hd rfl hnm rfl kk
theorem pf_X2_40 (C : Cx p s m args meth c Y cc nL RX2) {a : Nat} {fs : List Value} {v : Value} (ha : h a = some (.inr (1, fs))) (hjl : 5 < fs.length) (hr : isR v = true) (hd : decode cc pc = .ok (.putfield 40, 3)) (kk : Gd p l e R s m args below meth c Q Y nL (pc + 3) lv st (hup h a (.inr (1, fs.set 5 (v)))) k n) : Gd p l e R s m args below meth c Q Y nL pc lv (v :: .ref a :: st) h k n :=
  g_putf C (ci := 1) (j := 5) (idx := 40) (T := TX0) (N := 9) (ref := "CatEvenings$Evening") rfl in_X0 (by decide) w65 (fun _ z => z) tyX0 tyX0_ok nmX0 (ty := tyX0 5) (tyX0_ok 5 (by decide)) (nw_obj hr).1 (nw_obj hr).2 ha hjl hd rfl kk
theorem gf_X3_9 (C : Cx p s m args meth c Y cc nL RX3) {a : Nat} {fs : List Value} {v : Value} (ha : h a = some (.inr (4, fs))) (hv : fs[2]? = some v) (hd : decode cc pc = .ok (.getfield 9, 3)) (kk : Gd p l e R s m args below meth c Q Y nL (pc + 3) lv (v :: st) h k n) : Gd p l e R s m args below meth c Q Y nL pc lv (.ref a :: st) h k n :=
  g_getf C (ci := 4) (j := 2) (idx := 9) (T := TX3) (N := 11) (ref := "CatEveningsModel") rfl in_X3 (by decide) w672 (fun _ z => z) ha hv hd kk
theorem gf_X3_13 (C : Cx p s m args meth c Y cc nL RX3) {a : Nat} {fs : List Value} {v : Value} (ha : h a = some (.inr (4, fs))) (hv : fs[4]? = some v) (hd : decode cc pc = .ok (.getfield 13, 3)) (kk : Gd p l e R s m args below meth c Q Y nL (pc + 3) lv (v :: st) h k n) : Gd p l e R s m args below meth c Q Y nL pc lv (.ref a :: st) h k n :=
  g_getf C (ci := 4) (j := 4) (idx := 13) (T := TX3) (N := 11) (ref := "CatEveningsModel") rfl in_X3 (by decide) w674 (fun _ z => z) ha hv hd kk
theorem gf_X3_17 (C : Cx p s m args meth c Y cc nL RX3) {a : Nat} {fs : List Value} {v : Value} (ha : h a = some (.inr (4, fs))) (hv : fs[5]? = some v) (hd : decode cc pc = .ok (.getfield 17, 3)) (kk : Gd p l e R s m args below meth c Q Y nL (pc + 3) lv (v :: st) h k n) : Gd p l e R s m args below meth c Q Y nL pc lv (.ref a :: st) h k n :=
  g_getf C (ci := 4) (j := 5) (idx := 17) (T := TX3) (N := 11) (ref := "CatEveningsModel") rfl in_X3 (by decide) w675 (fun _ z => z) ha hv hd kk
theorem gf_X3_20 (C : Cx p s m args meth c Y cc nL RX3) {a : Nat} {fs : List Value} {v : Value} (ha : h a = some (.inr (4, fs))) (hv : fs[6]? = some v) (hd : decode cc pc = .ok (.getfield 20, 3)) (kk : Gd p l e R s m args below meth c Q Y nL (pc + 3) lv (v :: st) h k n) : Gd p l e R s m args below meth c Q Y nL pc lv (.ref a :: st) h k n :=
  g_getf C (ci := 4) (j := 6) (idx := 20) (T := TX3) (N := 11) (ref := "CatEveningsModel") rfl in_X3 (by decide) w676 (fun _ z => z) ha hv hd kk
theorem gf_X3_23 (C : Cx p s m args meth c Y cc nL RX3) {a : Nat} {fs : List Value} {v : Value} (ha : h a = some (.inr (4, fs))) (hv : fs[7]? = some v) (hd : decode cc pc = .ok (.getfield 23, 3)) (kk : Gd p l e R s m args below meth c Q Y nL (pc + 3) lv (v :: st) h k n) : Gd p l e R s m args below meth c Q Y nL pc lv (.ref a :: st) h k n :=
  g_getf C (ci := 4) (j := 7) (idx := 23) (T := TX3) (N := 11) (ref := "CatEveningsModel") rfl in_X3 (by decide) w677 (fun _ z => z) ha hv hd kk
theorem gf_X3_26 (C : Cx p s m args meth c Y cc nL RX3) {a : Nat} {fs : List Value} {v : Value} (ha : h a = some (.inr (4, fs))) (hv : fs[8]? = some v) (hd : decode cc pc = .ok (.getfield 26, 3)) (kk : Gd p l e R s m args below meth c Q Y nL (pc + 3) lv (v :: st) h k n) : Gd p l e R s m args below meth c Q Y nL pc lv (.ref a :: st) h k n :=
  g_getf C (ci := 4) (j := 8) (idx := 26) (T := TX3) (N := 11) (ref := "CatEveningsModel") rfl in_X3 (by decide) w678 (fun _ z => z) ha hv hd kk
theorem gf_X3_29 (C : Cx p s m args meth c Y cc nL RX3) {a : Nat} {fs : List Value} {v : Value} (ha : h a = some (.inr (4, fs))) (hv : fs[9]? = some v) (hd : decode cc pc = .ok (.getfield 29, 3)) (kk : Gd p l e R s m args below meth c Q Y nL (pc + 3) lv (v :: st) h k n) : Gd p l e R s m args below meth c Q Y nL pc lv (.ref a :: st) h k n :=
  g_getf C (ci := 4) (j := 9) (idx := 29) (T := TX3) (N := 11) (ref := "CatEveningsModel") rfl in_X3 (by decide) w679 (fun _ z => z) ha hv hd kk
theorem gf_X3_32 (C : Cx p s m args meth c Y cc nL RX3) {a : Nat} {fs : List Value} {v : Value} (ha : h a = some (.inr (4, fs))) (hv : fs[10]? = some v) (hd : decode cc pc = .ok (.getfield 32, 3)) (kk : Gd p l e R s m args below meth c Q Y nL (pc + 3) lv (v :: st) h k n) : Gd p l e R s m args below meth c Q Y nL pc lv (.ref a :: st) h k n :=
  g_getf C (ci := 4) (j := 10) (idx := 32) (T := TX3) (N := 11) (ref := "CatEveningsModel") rfl in_X3 (by decide) w680 (fun _ z => z) ha hv hd kk
theorem gf_X3_35 (C : Cx p s m args meth c Y cc nL RX3) {a : Nat} {fs : List Value} {v : Value} (ha : h a = some (.inr (4, fs))) (hv : fs[0]? = some v) (hd : decode cc pc = .ok (.getfield 35, 3)) (kk : Gd p l e R s m args below meth c Q Y nL (pc + 3) lv (v :: st) h k n) : Gd p l e R s m args below meth c Q Y nL pc lv (.ref a :: st) h k n :=
  g_getf C (ci := 4) (j := 0) (idx := 35) (T := TX3) (N := 11) (ref := "CatEveningsModel") rfl in_X3 (by decide) w670 (fun _ z => z) ha hv hd kk
theorem gf_X3_42 (C : Cx p s m args meth c Y cc nL RX3) {a : Nat} {fs : List Value} {v : Value} (ha : h a = some (.inr (4, fs))) (hv : fs[1]? = some v) (hd : decode cc pc = .ok (.getfield 42, 3)) (kk : Gd p l e R s m args below meth c Q Y nL (pc + 3) lv (v :: st) h k n) : Gd p l e R s m args below meth c Q Y nL pc lv (.ref a :: st) h k n :=
  g_getf C (ci := 4) (j := 1) (idx := 42) (T := TX3) (N := 11) (ref := "CatEveningsModel") rfl in_X3 (by decide) w671 (fun _ z => z) ha hv hd kk
theorem gf_X3_45 (C : Cx p s m args meth c Y cc nL RX3) {a : Nat} {fs : List Value} {v : Value} (ha : h a = some (.inr (4, fs))) (hv : fs[3]? = some v) (hd : decode cc pc = .ok (.getfield 45, 3)) (kk : Gd p l e R s m args below meth c Q Y nL (pc + 3) lv (v :: st) h k n) : Gd p l e R s m args below meth c Q Y nL pc lv (.ref a :: st) h k n :=
  g_getf C (ci := 4) (j := 3) (idx := 45) (T := TX3) (N := 11) (ref := "CatEveningsModel") rfl in_X3 (by decide) w673 (fun _ z => z) ha hv hd kk
theorem pf_X3_9 (C : Cx p s m args meth c Y cc nL RX3) {a : Nat} {fs : List Value} {x : Int32} (ha : h a = some (.inr (4, fs))) (hjl : 2 < fs.length)  (hd : decode cc pc = .ok (.putfield 9, 3)) (kk : Gd p l e R s m args below meth c Q Y nL (pc + 3) lv st (hup h a (.inr (4, fs.set 2 (.int x)))) k n) : Gd p l e R s m args below meth c Q Y nL pc lv (.int x :: .ref a :: st) h k n :=
  g_putf C (ci := 4) (j := 2) (idx := 9) (T := TX3) (N := 11) (ref := "CatEveningsModel") rfl in_X3 (by decide) w672 (fun _ z => z) tyX3 tyX3_ok nmX3 (ty := tyX3 2) (tyX3_ok 2 (by decide)) rfl rfl ha hjl hd rfl kk
theorem pf_X3_13 (C : Cx p s m args meth c Y cc nL RX3) {a : Nat} {fs : List Value} {v : Value} (hnm : meth.name = "<init>") (ha : h a = some (.inr (4, fs))) (hjl : 4 < fs.length) (hr : isR v = true) (hd : decode cc pc = .ok (.putfield 13, 3)) (kk : Gd p l e R s m args below meth c Q Y nL (pc + 3) lv st (hup h a (.inr (4, fs.set 4 (v)))) k n) : Gd p l e R s m args below meth c Q Y nL pc lv (v :: .ref a :: st) h k n :=
  g_putF C (ci := 4) (j := 4) (idx := 13) (T := TX3) (N := 11) (ref := "CatEveningsModel") rfl in_X3 (by decide) w674 (fun _ z => z) tyX3 tyX3_ok nmX3 (ty := tyX3 4) (tyX3_ok 4 (by decide)) (nw_arr hr).1 (nw_arr hr).2 ha hjl hd rfl hnm rfl kk
theorem pf_X3_17 (C : Cx p s m args meth c Y cc nL RX3) {a : Nat} {fs : List Value} {v : Value} (hnm : meth.name = "<init>") (ha : h a = some (.inr (4, fs))) (hjl : 5 < fs.length) (hr : isR v = true) (hd : decode cc pc = .ok (.putfield 17, 3)) (kk : Gd p l e R s m args below meth c Q Y nL (pc + 3) lv st (hup h a (.inr (4, fs.set 5 (v)))) k n) : Gd p l e R s m args below meth c Q Y nL pc lv (v :: .ref a :: st) h k n :=
  g_putF C (ci := 4) (j := 5) (idx := 17) (T := TX3) (N := 11) (ref := "CatEveningsModel") rfl in_X3 (by decide) w675 (fun _ z => z) tyX3 tyX3_ok nmX3 (ty := tyX3 5) (tyX3_ok 5 (by decide)) (nw_arr hr).1 (nw_arr hr).2 ha hjl hd rfl hnm rfl kk
theorem pf_X3_20 (C : Cx p s m args meth c Y cc nL RX3) {a : Nat} {fs : List Value} {v : Value} (hnm : meth.name = "<init>") (ha : h a = some (.inr (4, fs))) (hjl : 6 < fs.length) (hr : isR v = true) (hd : decode cc pc = .ok (.putfield 20, 3)) (kk : Gd p l e R s m args below meth c Q Y nL (pc + 3) lv st (hup h a (.inr (4, fs.set 6 (v)))) k n) : Gd p l e R s m args below meth c Q Y nL pc lv (v :: .ref a :: st) h k n :=
  g_putF C (ci := 4) (j := 6) (idx := 20) (T := TX3) (N := 11) (ref := "CatEveningsModel") rfl in_X3 (by decide) w676 (fun _ z => z) tyX3 tyX3_ok nmX3 (ty := tyX3 6) (tyX3_ok 6 (by decide)) (nw_arr hr).1 (nw_arr hr).2 ha hjl hd rfl hnm rfl kk
theorem pf_X3_23 (C : Cx p s m args meth c Y cc nL RX3) {a : Nat} {fs : List Value} {v : Value} (hnm : meth.name = "<init>") (ha : h a = some (.inr (4, fs))) (hjl : 7 < fs.length) (hr : isR v = true) (hd : decode cc pc = .ok (.putfield 23, 3)) (kk : Gd p l e R s m args below meth c Q Y nL (pc + 3) lv st (hup h a (.inr (4, fs.set 7 (v)))) k n) : Gd p l e R s m args below meth c Q Y nL pc lv (v :: .ref a :: st) h k n :=
  g_putF C (ci := 4) (j := 7) (idx := 23) (T := TX3) (N := 11) (ref := "CatEveningsModel") rfl in_X3 (by decide) w677 (fun _ z => z) tyX3 tyX3_ok nmX3 (ty := tyX3 7) (tyX3_ok 7 (by decide)) (nw_arr hr).1 (nw_arr hr).2 ha hjl hd rfl hnm rfl kk
theorem pf_X3_26 (C : Cx p s m args meth c Y cc nL RX3) {a : Nat} {fs : List Value} {v : Value} (hnm : meth.name = "<init>") (ha : h a = some (.inr (4, fs))) (hjl : 8 < fs.length) (hr : isR v = true) (hd : decode cc pc = .ok (.putfield 26, 3)) (kk : Gd p l e R s m args below meth c Q Y nL (pc + 3) lv st (hup h a (.inr (4, fs.set 8 (v)))) k n) : Gd p l e R s m args below meth c Q Y nL pc lv (v :: .ref a :: st) h k n :=
  g_putF C (ci := 4) (j := 8) (idx := 26) (T := TX3) (N := 11) (ref := "CatEveningsModel") rfl in_X3 (by decide) w678 (fun _ z => z) tyX3 tyX3_ok nmX3 (ty := tyX3 8) (tyX3_ok 8 (by decide)) (nw_arr hr).1 (nw_arr hr).2 ha hjl hd rfl hnm rfl kk
theorem pf_X3_29 (C : Cx p s m args meth c Y cc nL RX3) {a : Nat} {fs : List Value} {v : Value} (hnm : meth.name = "<init>") (ha : h a = some (.inr (4, fs))) (hjl : 9 < fs.length) (hr : isR v = true) (hd : decode cc pc = .ok (.putfield 29, 3)) (kk : Gd p l e R s m args below meth c Q Y nL (pc + 3) lv st (hup h a (.inr (4, fs.set 9 (v)))) k n) : Gd p l e R s m args below meth c Q Y nL pc lv (v :: .ref a :: st) h k n :=
  g_putF C (ci := 4) (j := 9) (idx := 29) (T := TX3) (N := 11) (ref := "CatEveningsModel") rfl in_X3 (by decide) w679 (fun _ z => z) tyX3 tyX3_ok nmX3 (ty := tyX3 9) (tyX3_ok 9 (by decide)) (nw_arr hr).1 (nw_arr hr).2 ha hjl hd rfl hnm rfl kk
theorem pf_X3_32 (C : Cx p s m args meth c Y cc nL RX3) {a : Nat} {fs : List Value} {v : Value} (hnm : meth.name = "<init>") (ha : h a = some (.inr (4, fs))) (hjl : 10 < fs.length) (hr : isR v = true) (hd : decode cc pc = .ok (.putfield 32, 3)) (kk : Gd p l e R s m args below meth c Q Y nL (pc + 3) lv st (hup h a (.inr (4, fs.set 10 (v)))) k n) : Gd p l e R s m args below meth c Q Y nL pc lv (v :: .ref a :: st) h k n :=
  g_putF C (ci := 4) (j := 10) (idx := 32) (T := TX3) (N := 11) (ref := "CatEveningsModel") rfl in_X3 (by decide) w680 (fun _ z => z) tyX3 tyX3_ok nmX3 (ty := tyX3 10) (tyX3_ok 10 (by decide)) (nw_arr hr).1 (nw_arr hr).2 ha hjl hd rfl hnm rfl kk
theorem pf_X3_35 (C : Cx p s m args meth c Y cc nL RX3) {a : Nat} {fs : List Value} {x : Int32} (ha : h a = some (.inr (4, fs))) (hjl : 0 < fs.length)  (hd : decode cc pc = .ok (.putfield 35, 3)) (kk : Gd p l e R s m args below meth c Q Y nL (pc + 3) lv st (hup h a (.inr (4, fs.set 0 (.int x)))) k n) : Gd p l e R s m args below meth c Q Y nL pc lv (.int x :: .ref a :: st) h k n :=
  g_putf C (ci := 4) (j := 0) (idx := 35) (T := TX3) (N := 11) (ref := "CatEveningsModel") rfl in_X3 (by decide) w670 (fun _ z => z) tyX3 tyX3_ok nmX3 (ty := tyX3 0) (tyX3_ok 0 (by decide)) rfl rfl ha hjl hd rfl kk
theorem pf_X3_42 (C : Cx p s m args meth c Y cc nL RX3) {a : Nat} {fs : List Value} {x : Int32} (ha : h a = some (.inr (4, fs))) (hjl : 1 < fs.length)  (hd : decode cc pc = .ok (.putfield 42, 3)) (kk : Gd p l e R s m args below meth c Q Y nL (pc + 3) lv st (hup h a (.inr (4, fs.set 1 (.int x)))) k n) : Gd p l e R s m args below meth c Q Y nL pc lv (.int x :: .ref a :: st) h k n :=
  g_putf C (ci := 4) (j := 1) (idx := 42) (T := TX3) (N := 11) (ref := "CatEveningsModel") rfl in_X3 (by decide) w671 (fun _ z => z) tyX3 tyX3_ok nmX3 (ty := tyX3 1) (tyX3_ok 1 (by decide)) rfl rfl ha hjl hd rfl kk
theorem pf_X3_45 (C : Cx p s m args meth c Y cc nL RX3) {a : Nat} {fs : List Value} {x : Int32} (ha : h a = some (.inr (4, fs))) (hjl : 3 < fs.length)  (hd : decode cc pc = .ok (.putfield 45, 3)) (kk : Gd p l e R s m args below meth c Q Y nL (pc + 3) lv st (hup h a (.inr (4, fs.set 3 (.int x)))) k n) : Gd p l e R s m args below meth c Q Y nL pc lv (.int x :: .ref a :: st) h k n :=
  g_putf C (ci := 4) (j := 3) (idx := 45) (T := TX3) (N := 11) (ref := "CatEveningsModel") rfl in_X3 (by decide) w673 (fun _ z => z) tyX3 tyX3_ok nmX3 (ty := tyX3 3) (tyX3_ok 3 (by decide)) rfl rfl ha hjl hd rfl kk
end GD
theorem ok_J15_checkIndex_7cf53 : okS yJ15_checkIndex_7cf53 cJ15_checkIndex_7cf53 2 (some .int) 2 := ⟨w242, w18, w243, by decide, by decide, by decide +kernel⟩
theorem ok_J3_checkIndex_8e157 : okS yJ3_checkIndex_8e157 cJ3_checkIndex_8e157 3 (some .int) 3 := ⟨w245, w19, w246, by decide, by decide, by decide +kernel⟩
theorem ok_J6_bitCount_0f7a4 : okS yJ6_bitCount_0f7a4 cJ6_bitCount_0f7a4 1 (some .int) 1 := ⟨w223, w20, w224, by decide, by decide, by decide +kernel⟩
theorem ok_J7_copyOf_1904c : okS yJ7_copyOf_1904c cJ7_copyOf_1904c 2 (some (.array (.object "java/lang/Object"))) 2 := ⟨w150, w9, w151, by decide, by decide, by decide +kernel⟩
theorem ok_J7_copyOf_6403c : okS yJ7_copyOf_6403c cJ7_copyOf_6403c 4 (some (.array (.object "java/lang/Object"))) 3 := ⟨w165, w9, w166, by decide, by decide, by decide +kernel⟩
theorem ok_J8_hugeLength_7cf53 : okS yJ8_hugeLength_7cf53 cJ8_hugeLength_7cf53 3 (some .int) 2 := ⟨w147, w7, w148, by decide, by decide, by decide +kernel⟩
theorem ok_J8_newLength_cabcc : okS yJ8_newLength_cabcc cJ8_newLength_cabcc 4 (some .int) 3 := ⟨w140, w7, w141, by decide, by decide, by decide +kernel⟩
theorem ok_J9_abs_0f7a4 : okS yJ9_abs_0f7a4 cJ9_abs_0f7a4 1 (some .int) 1 := ⟨w497, w8, w498, by decide, by decide, by decide +kernel⟩
theorem ok_J9_max_7cf53 : okS yJ9_max_7cf53 cJ9_max_7cf53 2 (some .int) 2 := ⟨w143, w8, w144, by decide, by decide, by decide +kernel⟩
theorem ok_J9_min_7cf53 : okS yJ9_min_7cf53 cJ9_min_7cf53 2 (some .int) 2 := ⟨w171, w8, w172, by decide, by decide, by decide +kernel⟩
theorem ok_Jx4a65c_add_72be8 : okV yJx4a65c_add_72be8 cJx4a65c_add_72be8 4 none 3 := ⟨w129, wp0, w6, w130, by decide, by decide, by decide +kernel⟩
theorem ok_Jx4a65c_elementData_915e3 : okV yJx4a65c_elementData_915e3 cJx4a65c_elementData_915e3 2 (some (.object "java/lang/Object")) 1 := ⟨w248, w249, w6, w250, by decide, by decide, by decide +kernel⟩
theorem ok_Jx4a65c_grow_92f84 : okV yJx4a65c_grow_92f84 cJx4a65c_grow_92f84 4 (some (.array (.object "java/lang/Object"))) 1 := ⟨w137, wp2, w6, w138, by decide, by decide, by decide +kernel⟩
theorem ok_Jx4a65c_grow_d5877 : okV yJx4a65c_grow_d5877 cJx4a65c_grow_d5877 1 (some (.array (.object "java/lang/Object"))) 0 := ⟨w133, wp1, w6, w134, by decide, by decide, by decide +kernel⟩
theorem ok_Jx4a65c_init_da8c8 : okI yJx4a65c_init_da8c8 cJx4a65c_init_da8c8 1 0 := ⟨w94, w6, w95, rfl, by decide, by decide, by decide +kernel⟩
theorem ok_Jxa1e45_init_da8c8 : okI yJxa1e45_init_da8c8 cJxa1e45_init_da8c8 1 0 := ⟨w100, w4, w101, rfl, by decide, by decide, by decide +kernel⟩
theorem ok_Jxc12de_init_da8c8 : okI yJxc12de_init_da8c8 cJxc12de_init_da8c8 1 0 := ⟨w97, w5, w98, rfl, by decide, by decide, by decide +kernel⟩
theorem ok_X0_above : okV yX0_above cX0_above 1 (some (.object "CatEvenings$Evening")) 0 := ⟨w386, w387, w2, w388, by decide, by decide, by decide +kernel⟩
theorem ok_X0_countAbove : okV yX0_countAbove cX0_countAbove 2 none 0 := ⟨w518, w519, w2, w520, by decide, by decide, by decide +kernel⟩
theorem ok_X0_init : okI yX0_init cX0_init 6 5 := ⟨w51, w2, w52, rfl, by decide, by decide, by decide +kernel⟩
theorem ok_X0_isEnd : okV yX0_isEnd cX0_isEnd 1 (some .boolean) 0 := ⟨w252, w253, w2, w254, by decide, by decide, by decide +kernel⟩
theorem ok_X0_pointToFromAbove : okV yX0_pointToFromAbove cX0_pointToFromAbove 3 none 0 := ⟨w522, w523, w2, w524, by decide, by decide, by decide +kernel⟩
theorem ok_X1_after : okV yX1_after cX1_after 3 (some (.object "CatEvenings$Scene")) 2 := ⟨w469, w470, w3, w471, by decide, by decide, by decide +kernel⟩
theorem ok_X1_afterKnock : okV yX1_afterKnock cX1_afterKnock 2 (some (.object "CatEvenings$Scene")) 1 := ⟨w485, wp8, w3, w486, by decide, by decide, by decide +kernel⟩
theorem ok_X1_afterPush : okV yX1_afterPush cX1_afterPush 6 (some (.object "CatEvenings$Scene")) 1 := ⟨w505, wp11, w3, w506, by decide, by decide, by decide +kernel⟩
theorem ok_X1_afterSetUp : okV yX1_afterSetUp cX1_afterSetUp 2 (some (.object "CatEvenings$Scene")) 1 := ⟨w501, wp10, w3, w502, by decide, by decide, by decide +kernel⟩
theorem ok_X1_afterStep : okV yX1_afterStep cX1_afterStep 3 (some (.object "CatEvenings$Scene")) 1 := ⟨w474, wp7, w3, w475, by decide, by decide, by decide +kernel⟩
theorem ok_X1_countLying : okV yX1_countLying cX1_countLying 1 (some .int) 0 := ⟨w219, w220, w3, w221, by decide, by decide, by decide +kernel⟩
theorem ok_X1_has : okV yX1_has cX1_has 2 (some .boolean) 1 := ⟨w292, w293, w3, w294, by decide, by decide, by decide +kernel⟩
theorem ok_X1_init : okI yX1_init cX1_init 4 3 := ⟨w34, w3, w35, rfl, by decide, by decide, by decide +kernel⟩
theorem ok_X1_isInReach : okV yX1_isInReach cX1_isInReach 4 (some .boolean) 1 := ⟨w494, wp9, w3, w495, by decide, by decide, by decide +kernel⟩
theorem ok_X1_isLike : okV yX1_isLike cX1_isLike 3 (some .boolean) 1 := ⟨w390, w391, w3, w392, by decide, by decide, by decide +kernel⟩
theorem ok_X1_isLying : okV yX1_isLying cX1_isLying 2 (some .boolean) 1 := ⟨w368, w369, w3, w370, by decide, by decide, by decide +kernel⟩
theorem ok_X1_isStanding : okV yX1_isStanding cX1_isStanding 2 (some .boolean) 1 := ⟨w488, w489, w3, w490, by decide, by decide, by decide +kernel⟩
theorem ok_X1_pieceOn : okV yX1_pieceOn cX1_pieceOn 3 (some .int) 1 := ⟨w442, w443, w3, w444, by decide, by decide, by decide +kernel⟩
theorem ok_X1_withPieceOn : okV yX1_withPieceOn cX1_withPieceOn 3 (some (.object "CatEvenings$Scene")) 1 := ⟨w447, w448, w3, w449, by decide, by decide, by decide +kernel⟩
theorem ok_X2_again : okV yX2_again cX2_again 2 (some .int) 1 := ⟨w626, w627, w1, w628, by decide, by decide, by decide +kernel⟩
theorem ok_X2_apart : okV yX2_apart cX2_apart 3 (some .int) 2 := ⟨w640, w641, w1, w642, by decide, by decide, by decide +kernel⟩
theorem ok_X2_areAlike : okV yX2_areAlike cX2_areAlike 5 (some .boolean) 2 := ⟨w661, w662, w1, w663, by decide, by decide, by decide +kernel⟩
theorem ok_X2_behind : okV yX2_behind cX2_behind 2 (some .int) 1 := ⟨w619, w620, w1, w621, by decide, by decide, by decide +kernel⟩
theorem ok_X2_boardPlace : okS yX2_boardPlace cX2_boardPlace 2 (some .int) 2 := ⟨w403, w1, w404, by decide, by decide, by decide +kernel⟩
theorem ok_X2_branches : okV yX2_branches cX2_branches 2 (some .int) 1 := ⟨w612, w613, w1, w614, by decide, by decide, by decide +kernel⟩
theorem ok_X2_canDo : okV yX2_canDo cX2_canDo 3 (some .boolean) 2 := ⟨w577, w578, w1, w579, by decide, by decide, by decide +kernel⟩
theorem ok_X2_catColumn : okV yX2_catColumn cX2_catColumn 1 (some .int) 0 := ⟨w207, w208, w1, w209, by decide, by decide, by decide +kernel⟩
theorem ok_X2_catRow : okV yX2_catRow cX2_catRow 1 (some .int) 0 := ⟨w211, w212, w1, w213, by decide, by decide, by decide +kernel⟩
theorem ok_X2_checkMany : okS yX2_checkMany cX2_checkMany 1 none 1 := ⟨w533, w1, w534, by decide, by decide, by decide +kernel⟩
theorem ok_X2_depthOf : okV yX2_depthOf cX2_depthOf 2 (some .int) 1 := ⟨w605, w606, w1, w607, by decide, by decide, by decide +kernel⟩
theorem ok_X2_digest : okV yX2_digest cX2_digest 4 (some .long) 0 := ⟨w269, w270, w1, w271, by decide, by decide, by decide +kernel⟩
theorem ok_X2_ends : okV yX2_ends cX2_ends 3 (some .int) 0 := ⟨w229, w230, w1, w231, by decide, by decide, by decide +kernel⟩
theorem ok_X2_evening : okV yX2_evening cX2_evening 1 (some .int) 0 := ⟨w186, w187, w1, w188, by decide, by decide, by decide +kernel⟩
theorem ok_X2_evenings : okV yX2_evenings cX2_evenings 1 (some .int) 0 := ⟨w190, w191, w1, w192, by decide, by decide, by decide +kernel⟩
theorem ok_X2_existing : okV yX2_existing cX2_existing 2 (some (.object "CatEvenings$Evening")) 1 := ⟨w555, wp12, w1, w556, by decide, by decide, by decide +kernel⟩
theorem ok_X2_farther : okS yX2_farther cX2_farther 4 (some .int) 2 := ⟨w477, w1, w478, by decide, by decide, by decide +kernel⟩
theorem ok_X2_goTo : okV yX2_goTo cX2_goTo 4 (some .int) 1 := ⟨w550, w551, w1, w552, by decide, by decide, by decide +kernel⟩
theorem ok_X2_hangsOn : okV yX2_hangsOn cX2_hangsOn 2 (some .int) 1 := ⟨w584, w585, w1, w586, by decide, by decide, by decide +kernel⟩
theorem ok_X2_init : okI yX2_init cX2_init 1 0 := ⟨w24, w1, w25, rfl, by decide, by decide, by decide +kernel⟩
theorem ok_X2_isOnBoard : okS yX2_isOnBoard cX2_isOnBoard 2 (some .boolean) 2 := ⟨w406, w1, w407, by decide, by decide, by decide +kernel⟩
theorem ok_X2_isPaw : okS yX2_isPaw cX2_isPaw 2 (some .boolean) 2 := ⟨w465, w1, w466, by decide, by decide, by decide +kernel⟩
theorem ok_X2_kindOf : okV yX2_kindOf cX2_kindOf 2 (some .int) 1 := ⟨w591, w592, w1, w593, by decide, by decide, by decide +kernel⟩
theorem ok_X2_knocksOf : okV yX2_knocksOf cX2_knocksOf 5 (some .int) 1 := ⟨w262, wp3, w1, w263, by decide, by decide, by decide +kernel⟩
theorem ok_X2_labelOf : okS yX2_labelOf cX2_labelOf 1 (some .int) 1 := ⟨w377, w1, w378, by decide, by decide, by decide +kernel⟩
theorem ok_X2_lies : okV yX2_lies cX2_lies 2 (some .boolean) 1 := ⟨w364, w365, w1, w366, by decide, by decide, by decide +kernel⟩
theorem ok_X2_lying : okV yX2_lying cX2_lying 1 (some .int) 0 := ⟨w215, w216, w1, w217, by decide, by decide, by decide +kernel⟩
theorem ok_X2_lyingIn : okV yX2_lyingIn cX2_lyingIn 2 (some .int) 1 := ⟨w654, w655, w1, w656, by decide, by decide, by decide +kernel⟩
theorem ok_X2_meanDepth : okV yX2_meanDepth cX2_meanDepth 5 (some .double) 0 := ⟨w265, w266, w1, w267, by decide, by decide, by decide +kernel⟩
theorem ok_X2_meet : okV yX2_meet cX2_meet 3 (some .int) 2 := ⟨w633, w634, w1, w635, by decide, by decide, by decide +kernel⟩
theorem ok_X2_meetingOf : okS yX2_meetingOf cX2_meetingOf 5 (some (.object "CatEvenings$Evening")) 2 := ⟨w383, w1, w384, by decide, by decide, by decide +kernel⟩
theorem ok_X2_mixed : okS yX2_mixed cX2_mixed 4 (some .long) 2 := ⟨w275, w1, w276, by decide, by decide, by decide +kernel⟩
theorem ok_X2_mostKnocked : okV yX2_mostKnocked cX2_mostKnocked 5 (some .int) 0 := ⟨w256, w257, w1, w258, by decide, by decide, by decide +kernel⟩
theorem ok_X2_numberOf : okV yX2_numberOf cX2_numberOf 2 (some .int) 1 := ⟨w598, w599, w1, w600, by decide, by decide, by decide +kernel⟩
theorem ok_X2_paw : okV yX2_paw cX2_paw 5 (some .int) 2 := ⟨w457, w458, w1, w459, by decide, by decide, by decide +kernel⟩
theorem ok_X2_pieceAt : okV yX2_pieceAt cX2_pieceAt 3 (some .int) 2 := ⟨w570, w571, w1, w572, by decide, by decide, by decide +kernel⟩
theorem ok_X2_pieces : okV yX2_pieces cX2_pieces 1 (some .int) 0 := ⟨w203, w204, w1, w205, by decide, by decide, by decide +kernel⟩
theorem ok_X2_placeIn : okV yX2_placeIn cX2_placeIn 5 (some .int) 2 := ⟨w647, w648, w1, w649, by decide, by decide, by decide +kernel⟩
theorem ok_X2_placeInScene : okS yX2_placeInScene cX2_placeInScene 2 (some .int) 2 := ⟨w289, w1, w290, by decide, by decide, by decide +kernel⟩
theorem ok_X2_placeOf : okV yX2_placeOf cX2_placeOf 2 (some .int) 1 := ⟨w285, w286, w1, w287, by decide, by decide, by decide +kernel⟩
theorem ok_X2_redo : okV yX2_redo cX2_redo 4 (some .int) 1 := ⟨w541, w542, w1, w543, by decide, by decide, by decide +kernel⟩
theorem ok_X2_sceneAfter : okV yX2_sceneAfter cX2_sceneAfter 3 (some (.object "CatEvenings$Scene")) 2 := ⟨w462, wp6, w1, w463, by decide, by decide, by decide +kernel⟩
theorem ok_X2_setPiece : okV yX2_setPiece cX2_setPiece 5 (some .int) 2 := ⟨w399, w400, w1, w401, by decide, by decide, by decide +kernel⟩
theorem ok_X2_undo : okV yX2_undo cX2_undo 4 (some .int) 1 := ⟨w529, w530, w1, w531, by decide, by decide, by decide +kernel⟩
theorem ok_X2_wayLength : okS yX2_wayLength cX2_wayLength 2 (some .int) 2 := ⟨w380, w1, w381, by decide, by decide, by decide +kernel⟩
theorem ok_X2_withEvening : okV yX2_withEvening cX2_withEvening 6 (some .long) 2 := ⟨w374, wp5, w1, w375, by decide, by decide, by decide +kernel⟩
theorem ok_X3_again : okV yX3_again cX3_again 2 (some .int) 1 := ⟨w872, w873, w11, w874, by decide, by decide, by decide +kernel⟩
theorem ok_X3_allBelow : okV yX3_allBelow cX3_allBelow 4 (some .int) 1 := ⟨w889, wp31, w11, w890, by decide, by decide, by decide +kernel⟩
theorem ok_X3_apart : okV yX3_apart cX3_apart 3 (some .int) 2 := ⟨w896, w897, w11, w898, by decide, by decide, by decide +kernel⟩
theorem ok_X3_areAlike : okV yX3_areAlike cX3_areAlike 3 (some .boolean) 2 := ⟨w916, w917, w11, w918, by decide, by decide, by decide +kernel⟩
theorem ok_X3_at : okV yX3_at cX3_at 3 (some .int) 2 := ⟨w732, wp16, w11, w733, by decide, by decide, by decide +kernel⟩
theorem ok_X3_behind : okV yX3_behind cX3_behind 2 (some .int) 1 := ⟨w884, w885, w11, w886, by decide, by decide, by decide +kernel⟩
theorem ok_X3_below : okV yX3_below cX3_below 4 (some .int) 1 := ⟨w881, wp30, w11, w882, by decide, by decide, by decide +kernel⟩
theorem ok_X3_branches : okV yX3_branches cX3_branches 2 (some .int) 1 := ⟨w876, w877, w11, w878, by decide, by decide, by decide +kernel⟩
theorem ok_X3_canDo : okV yX3_canDo cX3_canDo 3 (some .boolean) 2 := ⟨w848, w849, w11, w850, by decide, by decide, by decide +kernel⟩
theorem ok_X3_cat : okV yX3_cat cX3_cat 1 (some .int) 0 := ⟨w752, wp19, w11, w753, by decide, by decide, by decide +kernel⟩
theorem ok_X3_catColumn : okV yX3_catColumn cX3_catColumn 1 (some .int) 0 := ⟨w816, w817, w11, w818, by decide, by decide, by decide +kernel⟩
theorem ok_X3_catRow : okV yX3_catRow cX3_catRow 1 (some .int) 0 := ⟨w820, w821, w11, w822, by decide, by decide, by decide +kernel⟩
theorem ok_X3_depthOf : okV yX3_depthOf cX3_depthOf 2 (some .int) 1 := ⟨w868, w869, w11, w870, by decide, by decide, by decide +kernel⟩
theorem ok_X3_digest : okV yX3_digest cX3_digest 10 (some .long) 0 := ⟨w940, w941, w11, w942, by decide, by decide, by decide +kernel⟩
theorem ok_X3_does : okV yX3_does cX3_does 3 (some .boolean) 2 := ⟨w743, wp17, w11, w744, by decide, by decide, by decide +kernel⟩
theorem ok_X3_down : okV yX3_down cX3_down 5 (some .int) 2 := ⟨w829, wp27, w11, w830, by decide, by decide, by decide +kernel⟩
theorem ok_X3_ends : okV yX3_ends cX3_ends 1 (some .int) 0 := ⟨w900, w901, w11, w902, by decide, by decide, by decide +kernel⟩
theorem ok_X3_evening : okV yX3_evening cX3_evening 1 (some .int) 0 := ⟨w800, w801, w11, w802, by decide, by decide, by decide +kernel⟩
theorem ok_X3_evenings : okV yX3_evenings cX3_evenings 1 (some .int) 0 := ⟨w808, w809, w11, w810, by decide, by decide, by decide +kernel⟩
theorem ok_X3_farther : okS yX3_farther cX3_farther 4 (some .int) 2 := ⟨w755, w11, w756, by decide, by decide, by decide +kernel⟩
theorem ok_X3_goTo : okV yX3_goTo cX3_goTo 5 (some .int) 1 := ⟨w784, w785, w11, w786, by decide, by decide, by decide +kernel⟩
theorem ok_X3_hangsOn : okV yX3_hangsOn cX3_hangsOn 2 (some .int) 1 := ⟨w852, w853, w11, w854, by decide, by decide, by decide +kernel⟩
theorem ok_X3_init : okI yX3_init cX3_init 1 0 := ⟨w667, w11, w668, rfl, by decide, by decide, by decide +kernel⟩
theorem ok_X3_isBeside : okS yX3_isBeside cX3_isBeside 2 (some .boolean) 2 := ⟨w772, w11, w773, by decide, by decide, by decide +kernel⟩
theorem ok_X3_isEvening : okV yX3_isEvening cX3_isEvening 2 (some .boolean) 1 := ⟨w789, wp23, w11, w790, by decide, by decide, by decide +kernel⟩
theorem ok_X3_isIn : okS yX3_isIn cX3_isIn 3 (some .boolean) 3 := ⟨w716, w11, w717, by decide, by decide, by decide +kernel⟩
theorem ok_X3_isLike : okV yX3_isLike cX3_isLike 4 (some .boolean) 2 := ⟨w921, wp33, w11, w922, by decide, by decide, by decide +kernel⟩
theorem ok_X3_isNot : okV yX3_isNot cX3_isNot 2 (some .boolean) 1 := ⟨w841, wp28, w11, w842, by decide, by decide, by decide +kernel⟩
theorem ok_X3_isOn : okS yX3_isOn cX3_isOn 1 (some .boolean) 1 := ⟨w713, w11, w714, by decide, by decide, by decide +kernel⟩
theorem ok_X3_isPaw : okS yX3_isPaw cX3_isPaw 2 (some .boolean) 2 := ⟨w739, w11, w740, by decide, by decide, by decide +kernel⟩
theorem ok_X3_isPiece : okV yX3_isPiece cX3_isPiece 2 (some .boolean) 1 := ⟨w769, wp22, w11, w770, by decide, by decide, by decide +kernel⟩
theorem ok_X3_kindOf : okV yX3_kindOf cX3_kindOf 2 (some .int) 1 := ⟨w860, w861, w11, w862, by decide, by decide, by decide +kernel⟩
theorem ok_X3_knocks : okV yX3_knocks cX3_knocks 4 (some .int) 1 := ⟨w933, wp35, w11, w934, by decide, by decide, by decide +kernel⟩
theorem ok_X3_leaves : okV yX3_leaves cX3_leaves 3 (some .int) 0 := ⟨w905, wp32, w11, w906, by decide, by decide, by decide +kernel⟩
theorem ok_X3_lies : okV yX3_lies cX3_lies 2 (some .boolean) 1 := ⟨w836, w837, w11, w838, by decide, by decide, by decide +kernel⟩
theorem ok_X3_lying : okV yX3_lying cX3_lying 1 (some .int) 0 := ⟨w824, w825, w11, w826, by decide, by decide, by decide +kernel⟩
theorem ok_X3_lyingIn : okV yX3_lyingIn cX3_lyingIn 2 (some .int) 1 := ⟨w912, w913, w11, w914, by decide, by decide, by decide +kernel⟩
theorem ok_X3_meanDepth : okV yX3_meanDepth cX3_meanDepth 3 (some .double) 0 := ⟨w936, w937, w11, w938, by decide, by decide, by decide +kernel⟩
theorem ok_X3_meet : okV yX3_meet cX3_meet 3 (some .int) 2 := ⟨w892, w893, w11, w894, by decide, by decide, by decide +kernel⟩
theorem ok_X3_meeting : okV yX3_meeting cX3_meeting 5 (some .int) 2 := ⟨w797, wp25, w11, w798, by decide, by decide, by decide +kernel⟩
theorem ok_X3_mostDown : okV yX3_mostDown cX3_mostDown 3 (some .int) 0 := ⟨w929, wp34, w11, w930, by decide, by decide, by decide +kernel⟩
theorem ok_X3_mostKnocked : okV yX3_mostKnocked cX3_mostKnocked 1 (some .int) 0 := ⟨w924, w925, w11, w926, by decide, by decide, by decide +kernel⟩
theorem ok_X3_no : okV yX3_no cX3_no 2 (some .int) 1 := ⟨w720, wp13, w11, w721, by decide, by decide, by decide +kernel⟩
theorem ok_X3_numberOf : okV yX3_numberOf cX3_numberOf 2 (some .int) 1 := ⟨w864, w865, w11, w866, by decide, by decide, by decide +kernel⟩
theorem ok_X3_of : okV yX3_of cX3_of 3 (some .int) 2 := ⟨w857, wp29, w11, w858, by decide, by decide, by decide +kernel⟩
theorem ok_X3_ok : okV yX3_ok cX3_ok 2 (some .int) 1 := ⟨w805, wp26, w11, w806, by decide, by decide, by decide +kernel⟩
theorem ok_X3_paw : okV yX3_paw cX3_paw 3 (some .int) 2 := ⟨w735, w736, w11, w737, by decide, by decide, by decide +kernel⟩
theorem ok_X3_piece : okV yX3_piece cX3_piece 3 (some .int) 2 := ⟨w728, wp15, w11, w729, by decide, by decide, by decide +kernel⟩
theorem ok_X3_pieceAt : okV yX3_pieceAt cX3_pieceAt 3 (some .int) 2 := ⟨w844, w845, w11, w846, by decide, by decide, by decide +kernel⟩
theorem ok_X3_pieceOn : okV yX3_pieceOn cX3_pieceOn 3 (some .int) 1 := ⟨w724, wp14, w11, w725, by decide, by decide, by decide +kernel⟩
theorem ok_X3_pieces : okV yX3_pieces cX3_pieces 1 (some .int) 0 := ⟨w812, w813, w11, w814, by decide, by decide, by decide +kernel⟩
theorem ok_X3_placeIn : okV yX3_placeIn cX3_placeIn 3 (some .int) 2 := ⟨w908, w909, w11, w910, by decide, by decide, by decide +kernel⟩
theorem ok_X3_placeOf : okV yX3_placeOf cX3_placeOf 2 (some .int) 1 := ⟨w832, w833, w11, w834, by decide, by decide, by decide +kernel⟩
theorem ok_X3_pushes : okV yX3_pushes cX3_pushes 5 (some .boolean) 1 := ⟨w761, wp20, w11, w762, by decide, by decide, by decide +kernel⟩
theorem ok_X3_redo : okV yX3_redo cX3_redo 4 (some .int) 1 := ⟨w780, w781, w11, w782, by decide, by decide, by decide +kernel⟩
theorem ok_X3_setPiece : okV yX3_setPiece cX3_setPiece 4 (some .int) 2 := ⟨w709, w710, w11, w711, by decide, by decide, by decide +kernel⟩
theorem ok_X3_steps : okV yX3_steps cX3_steps 2 (some .boolean) 1 := ⟨w748, wp18, w11, w749, by decide, by decide, by decide +kernel⟩
theorem ok_X3_thrown : okV yX3_thrown cX3_thrown 1 (some .int) 0 := ⟨w705, w706, w11, w707, by decide, by decide, by decide +kernel⟩
theorem ok_X3_turns : okV yX3_turns cX3_turns 3 (some .boolean) 2 := ⟨w765, wp21, w11, w766, by decide, by decide, by decide +kernel⟩
theorem ok_X3_undo : okV yX3_undo cX3_undo 3 (some .int) 1 := ⟨w776, w777, w11, w778, by decide, by decide, by decide +kernel⟩
theorem ok_X3_way : okV yX3_way cX3_way 3 (some .int) 2 := ⟨w793, wp24, w11, w794, by decide, by decide, by decide +kernel⟩
theorem okT_48 : okT RX2 48 52 "java/lang/IllegalStateException" := ⟨w424, w16, by decide +kernel, by decide +kernel, by decide +kernel, by decide⟩
theorem okT_125 : okT RX2 125 129 "java/lang/IndexOutOfBoundsException" := ⟨w295, w17, by decide +kernel, by decide +kernel, by decide +kernel, by decide⟩
theorem okT_219 : okT RX2 219 223 "java/lang/IllegalArgumentException" := ⟨w408, w15, by decide +kernel, by decide +kernel, by decide +kernel, by decide⟩
end
section
/-! ===== the mathematical state: evenings, their tree, how cat and pieces are in each ===== -/
/-- n evenings, the one of now, np pieces; on which each hangs; kind and number of its paw; its depth; where doing again goes; the cat's place; the pieces' places; which lie (bits) -/
abbrev Sg : Type := Nat × Nat × Nat × (Nat → Nat) × (Nat → Int32) × (Nat → Int32) × (Nat → Nat) × (Nat → Option Nat) × (Nat → Nat) × (Nat → Nat → Nat) × (Nat → Nat)
abbrev Sg.n (g : Sg) : Nat := g.1
abbrev Sg.now (g : Sg) : Nat := g.2.1
abbrev Sg.np (g : Sg) : Nat := g.2.2.1
abbrev Sg.par (g : Sg) : Nat → Nat := g.2.2.2.1
abbrev Sg.kd (g : Sg) : Nat → Int32 := g.2.2.2.2.1
abbrev Sg.nm (g : Sg) : Nat → Int32 := g.2.2.2.2.2.1
abbrev Sg.dp (g : Sg) : Nat → Nat := g.2.2.2.2.2.2.1
abbrev Sg.last (g : Sg) : Nat → Option Nat := g.2.2.2.2.2.2.2.1
abbrev Sg.ct (g : Sg) : Nat → Nat := g.2.2.2.2.2.2.2.2.1
abbrev Sg.pos (g : Sg) : Nat → Nat → Nat := g.2.2.2.2.2.2.2.2.2.1
abbrev Sg.lb (g : Sg) : Nat → Nat := g.2.2.2.2.2.2.2.2.2.2
def uN (f : Nat → Nat) (k v : Nat) : Nat → Nat := fun j => if j = k then v else f j
def uO (f : Nat → Option Nat) (k : Nat) (v : Option Nat) : Nat → Option Nat := fun j => if j = k then v else f j
def uF (f : Nat → Nat → Nat) (k : Nat) (v : Nat → Nat) : Nat → Nat → Nat := fun j => if j = k then v else f j
def uI (f : Nat → Int32) (k : Nat) (v : Int32) : Nat → Int32 := fun j => if j = k then v else f j
/-! the tree -/
def Tr (par : Nat → Nat) : Prop := par 0 = 0 ∧ ∀ k, 0 < k → par k < k
def anc (par : Nat → Nat) (i : Nat) : Nat → Nat → Bool
  | 0, k => k == i
  | f + 1, k => k == i || (decide (0 < k) && anc par i f (par k))
/-- k is i, or hangs on it, at once or over others -/
def an (par : Nat → Nat) (i k : Nat) : Bool := anc par i k k
theorem anc_0 (par : Nat → Nat) (i f : Nat) : anc par i f 0 = (0 == i) := by
  cases f <;> simp [anc]
theorem anc_fuel {par : Nat → Nat} (ht : Tr par) (i : Nat) : ∀ (f k : Nat), k ≤ f → anc par i f k = anc par i k k := by
  intro f
  induction f using Nat.strongRecOn with
  | ind f ih =>
    intro k hk
    cases k with
    | zero => rw [anc_0, anc_0]
    | succ k =>
      cases f with
      | zero => omega
      | succ f =>
        have hp := ht.2 (k + 1) (by omega)
        have e1 : anc par i f (par (k + 1)) = anc par i (par (k + 1)) (par (k + 1)) := ih f (by omega) _ (by omega)
        have e2 : anc par i k (par (k + 1)) = anc par i (par (k + 1)) (par (k + 1)) := ih k (by omega) _ (by omega)
        simp only [anc, e1, e2]
theorem an_0 (par : Nat → Nat) (i : Nat) : an par i 0 = (0 == i) := anc_0 par i 0
theorem an_up {par : Nat → Nat} (ht : Tr par) (i : Nat) {k : Nat} (hk : 0 < k) : an par i k = (k == i || an par i (par k)) := by
  cases k with
  | zero => omega
  | succ k =>
    have hp := ht.2 (k + 1) (by omega)
    have e2 : anc par i k (par (k + 1)) = anc par i (par (k + 1)) (par (k + 1)) := anc_fuel ht i k _ (by omega)
    simp [an, anc, e2]
theorem an_rf (par : Nat → Nat) (i : Nat) : an par i i = true := by
  cases i <;> simp [an, anc]
theorem an_le {par : Nat → Nat} (ht : Tr par) {i : Nat} : ∀ {k : Nat}, an par i k = true → i ≤ k := by
  intro k
  induction k using Nat.strongRecOn with
  | ind k ih =>
    intro h
    rcases Nat.eq_zero_or_pos k with h0 | h0
    · subst h0
      rw [an_0] at h
      have : 0 = i := by simpa using h
      omega
    · rw [an_up ht i h0] at h
      have hp := ht.2 k h0
      simp only [Bool.or_eq_true, beq_iff_eq] at h
      rcases h with h | h
      · omega
      · have := ih _ hp h
        omega
theorem an_tr {par : Nat → Nat} (ht : Tr par) {i j : Nat} (h1 : an par i j = true) : ∀ {k : Nat}, an par j k = true → an par i k = true := by
  intro k
  induction k using Nat.strongRecOn with
  | ind k ih =>
    intro h
    rcases Nat.eq_zero_or_pos k with h0 | h0
    · subst h0
      rw [an_0] at h
      have : 0 = j := by simpa using h
      subst this
      exact h1
    · rw [an_up ht j h0] at h
      simp only [Bool.or_eq_true, beq_iff_eq] at h
      rcases h with h | h
      · subst h; exact h1
      · rw [an_up ht i h0, ih _ (ht.2 k h0) h, Bool.or_true]
/-- of two on one way up, the lower number is above -/
theorem an_lin {par : Nat → Nat} (ht : Tr par) {i j : Nat} (hij : i ≤ j) : ∀ {k : Nat}, an par i k = true → an par j k = true → an par i j = true := by
  intro k
  induction k using Nat.strongRecOn with
  | ind k ih =>
    intro h1 h2
    rcases Nat.eq_zero_or_pos k with h0 | h0
    · subst h0
      rw [an_0] at h2
      have : 0 = j := by simpa using h2
      have hi : i = j := by omega
      rw [hi]
      exact an_rf par j
    · have h1' := h1
      rw [an_up ht i h0] at h1
      rw [an_up ht j h0] at h2
      simp only [Bool.or_eq_true, beq_iff_eq] at h1 h2
      rcases h2 with h2 | h2
      · subst h2; exact h1'
      · rcases h1 with h1 | h1
        · have := an_le ht h2
          have := ht.2 k h0
          omega
        · exact ih _ (ht.2 k h0) h1 h2
theorem an_root {par : Nat → Nat} (ht : Tr par) : ∀ (k : Nat), an par 0 k = true := by
  intro k
  induction k using Nat.strongRecOn with
  | ind k ih =>
    rcases Nat.eq_zero_or_pos k with h0 | h0
    · subst h0; exact an_rf par 0
    · rw [an_up ht 0 h0, ih _ (ht.2 k h0), Bool.or_true]
/-- strictly above k: above what k hangs on -/
theorem an_ne {par : Nat → Nat} (ht : Tr par) {i k : Nat} (h : an par i k = true) (hne : i ≠ k) : an par i (par k) = true := by
  rcases Nat.eq_zero_or_pos k with h0 | h0
  · subst h0
    rw [an_0] at h
    exact absurd (by simpa using h : 0 = i).symm hne
  · rw [an_up ht i h0] at h
    simp only [Bool.or_eq_true, beq_iff_eq] at h
    exact h.resolve_left (fun z => hne z.symm)
theorem an_par {par : Nat → Nat} (ht : Tr par) (k : Nat) : an par (par k) k = true := by
  rcases Nat.eq_zero_or_pos k with h0 | h0
  · subst h0; rw [ht.1]; exact an_rf par 0
  · rw [an_up ht _ h0, an_rf, Bool.or_true]
/-- m is where the ways up of a and b meet -/
def mt (par : Nat → Nat) (a b m : Nat) : Prop := ∀ c, an par c m = true ↔ (an par c a = true ∧ an par c b = true)
theorem mt_one {par : Nat → Nat} (ht : Tr par) {a b m m2 : Nat} (h1 : mt par a b m) (h2 : mt par a b m2) : m = m2 := by
  have e1 := an_le ht ((h2 m).mpr ((h1 m).mp (an_rf par m)))
  have e2 := an_le ht ((h1 m2).mpr ((h2 m2).mp (an_rf par m2)))
  omega
theorem mt_self (par : Nat → Nat) (a : Nat) : mt par a a a := fun c => ⟨fun h => ⟨h, h⟩, fun h => h.1⟩
theorem mt_sym {par : Nat → Nat} {a b m : Nat} (h : mt par a b m) : mt par b a m := fun c => (h c).trans And.comm
/-- a is no way up of b: a may go up -/
theorem mt_up {par : Nat → Nat} (ht : Tr par) {a b m : Nat} (hn : an par a b = false) (h : mt par (par a) b m) : mt par a b m := by
  intro c
  rw [h c]
  constructor
  · intro q
    exact ⟨an_tr ht q.1 (an_par ht a), q.2⟩
  · intro q
    refine ⟨an_ne ht q.1 (fun z => ?_), q.2⟩
    subst z
    rw [hn] at q
    exact absurd q.2 (by decide)
def lcaF (par : Nat → Nat) : Nat → Nat → Nat → Nat
  | 0, a, _ => a
  | f + 1, a, b => if a = b then a else if b < a then lcaF par f (par a) b else lcaF par f a (par b)
def lc (par : Nat → Nat) (a b : Nat) : Nat := lcaF par (a + b) a b
theorem lcaF_mt {par : Nat → Nat} (ht : Tr par) : ∀ (f a b : Nat), a + b ≤ f → mt par a b (lcaF par f a b) := by
  intro f
  induction f with
  | zero =>
    intro a b h
    have ha : a = 0 := by omega
    have hb : b = 0 := by omega
    subst ha; subst hb
    exact mt_self par 0
  | succ f ih =>
    intro a b h
    by_cases hab : a = b
    · subst hab
      simp only [lcaF, if_true]
      exact mt_self par a
    · by_cases hlt : b < a
      · have hp := ht.2 a (by omega)
        simp only [lcaF, if_neg hab, if_pos hlt]
        refine mt_up ht ?_ (ih _ _ (by omega))
        cases hz : an par a b with
        | false => rfl
        | true =>
          have := an_le ht hz
          omega
      · have hp := ht.2 b (by omega)
        simp only [lcaF, if_neg hab, if_neg hlt]
        refine mt_sym (mt_up ht ?_ (mt_sym (ih _ _ (by omega))))
        cases hz : an par b a with
        | false => rfl
        | true =>
          have := an_le ht hz
          omega
theorem lc_mt {par : Nat → Nat} (ht : Tr par) (a b : Nat) : mt par a b (lc par a b) := lcaF_mt ht _ _ _ (Nat.le_refl _)
theorem lc_of {par : Nat → Nat} (ht : Tr par) {a b m : Nat} (h : mt par a b m) : lc par a b = m := mt_one ht (lc_mt ht a b) h
theorem lc_le {par : Nat → Nat} (ht : Tr par) (a b : Nat) : lc par a b ≤ a ∧ lc par a b ≤ b := by
  have h := ((lc_mt ht a b) _).mp (an_rf par _)
  exact ⟨an_le ht h.1, an_le ht h.2⟩
theorem lc_an {par : Nat → Nat} (ht : Tr par) (a b : Nat) : an par (lc par a b) a = true ∧ an par (lc par a b) b = true := ((lc_mt ht a b) _).mp (an_rf par _)
theorem lc_iff {par : Nat → Nat} (ht : Tr par) {e k : Nat} : lc par k e = e ↔ an par e k = true := by
  constructor
  · intro h
    have := (lc_an ht k e).1
    rw [h] at this
    exact this
  · intro h
    exact lc_of ht (fun c => ⟨fun q => ⟨an_tr ht q h, q⟩, fun q => q.2⟩)
/-! depths -/
def Dp (par dp : Nat → Nat) : Prop := dp 0 = 0 ∧ ∀ k, 0 < k → dp k = dp (par k) + 1
theorem dp_le {par dp : Nat → Nat} (ht : Tr par) (hd : Dp par dp) : ∀ (k : Nat), dp k ≤ k := by
  intro k
  induction k using Nat.strongRecOn with
  | ind k ih =>
    rcases Nat.eq_zero_or_pos k with h0 | h0
    · subst h0; rw [hd.1]; exact Nat.le_refl 0
    · have := ih _ (ht.2 k h0)
      have := ht.2 k h0
      have := hd.2 k h0
      omega
theorem dp_an {par dp : Nat → Nat} (ht : Tr par) (hd : Dp par dp) {i : Nat} : ∀ {k : Nat}, an par i k = true → i = k ∨ dp i < dp k := by
  intro k
  induction k using Nat.strongRecOn with
  | ind k ih =>
    intro h
    by_cases hik : i = k
    · exact Or.inl hik
    · have h2 := an_ne ht h hik
      have h0 : 0 < k := by
        have := an_le ht h
        omega
      have e := hd.2 k h0
      rcases ih _ (ht.2 k h0) h2 with q | q
      · rw [q]; omega
      · omega
theorem dp_0 {par dp : Nat → Nat} (hd : Dp par dp) {k : Nat} (h : dp k = 0) : k = 0 := by
  rcases Nat.eq_zero_or_pos k with h0 | h0
  · exact h0
  · have := hd.2 k h0
    omega
/-- m up from k -/
def upN (par : Nat → Nat) : Nat → Nat → Nat
  | 0, k => k
  | m + 1, k => upN par m (par k)
theorem up_s (par : Nat → Nat) : ∀ (m k : Nat), upN par (m + 1) k = par (upN par m k) := by
  intro m
  induction m with
  | zero => intro k; rfl
  | succ m ih => intro k; exact ih (par k)
theorem up_le {par : Nat → Nat} (ht : Tr par) : ∀ (m k : Nat), upN par m k ≤ k := by
  intro m
  induction m with
  | zero => intro k; exact Nat.le_refl k
  | succ m ih =>
    intro k
    have h1 := ih (par k)
    rcases Nat.eq_zero_or_pos k with h0 | h0
    · subst h0
      have := ht.1
      rw [this] at h1
      show upN par m (par 0) ≤ 0
      rw [this]
      exact h1
    · have := ht.2 k h0
      show upN par m (par k) ≤ k
      omega
theorem up_an {par : Nat → Nat} (ht : Tr par) : ∀ (m k : Nat), an par (upN par m k) k = true := by
  intro m
  induction m with
  | zero => intro k; exact an_rf par k
  | succ m ih => intro k; exact an_tr ht (ih (par k)) (an_par ht k)
theorem up_dp {par dp : Nat → Nat} (hd : Dp par dp) : ∀ (m k : Nat), m ≤ dp k → dp (upN par m k) = dp k - m := by
  intro m
  induction m with
  | zero => intro k _; rfl
  | succ m ih =>
    intro k h
    have h0 : 0 < k := by
      rcases Nat.eq_zero_or_pos k with h0 | h0
      · subst h0; rw [hd.1] at h; omega
      · exact h0
    have e := hd.2 k h0
    have := ih (par k) (by omega)
    show dp (upN par m (par k)) = _
    omega
/-! counts over the evenings below n -/
def cnt (P : Nat → Bool) : Nat → Nat
  | 0 => 0
  | k + 1 => cnt P k + (if P k then 1 else 0)
theorem cnt_le (P : Nat → Bool) : ∀ n, cnt P n ≤ n := by
  intro n
  induction n with
  | zero => exact Nat.le_refl 0
  | succ n ih =>
    simp only [cnt]
    split <;> omega
theorem cnt_congr {P Q : Nat → Bool} : ∀ {n : Nat}, (∀ k, k < n → P k = Q k) → cnt P n = cnt Q n := by
  intro n
  induction n with
  | zero => intro _; rfl
  | succ n ih =>
    intro h
    simp only [cnt]
    rw [ih (fun k hk => h k (by omega)), h n (by omega)]
theorem cnt_0 {P : Nat → Bool} : ∀ {n : Nat}, cnt P n = 0 ↔ ∀ k, k < n → P k = false := by
  intro n
  induction n with
  | zero => exact ⟨fun _ k hk => absurd hk (Nat.not_lt_zero k), fun _ => rfl⟩
  | succ n ih =>
    simp only [cnt]
    constructor
    · intro h k hk
      have h1 : cnt P n = 0 := by omega
      rcases Nat.lt_or_ge k n with q | q
      · exact ih.mp h1 k q
      · have : k = n := by omega
        subst this
        cases hz : P k with
        | false => rfl
        | true => rw [hz] at h; simp at h
    · intro h
      rw [ih.mpr (fun k hk => h k (by omega)), h n (by omega)]
      rfl
def isCh (par : Nat → Nat) (i k : Nat) : Bool := decide (0 < k) && (par k == i)
def isDs (par : Nat → Nat) (i k : Nat) : Bool := decide (i < k) && an par i k
def chN (par : Nat → Nat) (n i : Nat) : Nat := cnt (isCh par i) n
def dsN (par : Nat → Nat) (n i : Nat) : Nat := cnt (isDs par i) n
/-! where doing again goes -/
def ptF (par : Nat → Nat) : Nat → Nat → (Nat → Option Nat) → (Nat → Option Nat)
  | 0, _, L => L
  | f + 1, e, L => if e = 0 then L else ptF par f (par e) (uO L (par e) (some e))
def reF (L : Nat → Option Nat) : Nat → Nat → Option Nat
  | 0, a => some a
  | m + 1, a => match L a with
    | none => none
    | some b => reF L m b
theorem ptF_fuel {par : Nat → Nat} (ht : Tr par) : ∀ (f f2 e : Nat) (L : Nat → Option Nat), e ≤ f → e ≤ f2 → ptF par f e L = ptF par f2 e L := by
  intro f
  induction f with
  | zero =>
    intro f2 e L h1 h2
    have : e = 0 := by omega
    subst this
    cases f2 with
    | zero => rfl
    | succ f2 => rfl
  | succ f ih =>
    intro f2 e L h1 h2
    cases f2 with
    | zero =>
      have : e = 0 := by omega
      subst this
      rfl
    | succ f2 =>
      simp only [ptF]
      by_cases h0 : e = 0
      · rw [if_pos h0, if_pos h0]
      · have hp := ht.2 e (by omega)
        rw [if_neg h0, if_neg h0]
        exact ih f2 _ _ (by omega) (by omega)
/-- the pointers along e's way up are set: nothing changes -/
theorem ptF_id {par : Nat → Nat} (ht : Tr par) : ∀ (f e : Nat) (L : Nat → Option Nat), (∀ c, 0 < c → an par c e = true → L (par c) = some c) → ptF par f e L = L := by
  intro f
  induction f with
  | zero => intro e L _; rfl
  | succ f ih =>
    intro e L h
    simp only [ptF]
    by_cases h0 : e = 0
    · rw [if_pos h0]
    · rw [if_neg h0]
      have e1 : uO L (par e) (some e) = L := by
        funext j
        unfold uO
        by_cases hj : j = par e
        · rw [if_pos hj, hj, h e (by omega) (an_rf par e)]
        · rw [if_neg hj]
      rw [e1]
      exact ih _ L (fun c hc hca => h c hc (an_tr ht hca (an_par ht e)))
/-- what the pointers are behind it: along the way up set, else as before -/
theorem ptF_at {par : Nat → Nat} (ht : Tr par) : ∀ (f e : Nat) (L : Nat → Option Nat), e ≤ f → (∀ c, 0 < c → an par c e = true → ptF par f e L (par c) = some c) ∧ (∀ i, (∀ c, 0 < c → an par c e = true → par c ≠ i) → ptF par f e L i = L i) := by
  intro f
  induction f with
  | zero =>
    intro e L h
    have : e = 0 := by omega
    subst this
    refine ⟨fun c hc hca => ?_, fun i _ => rfl⟩
    have := an_le ht hca
    omega
  | succ f ih =>
    intro e L h
    simp only [ptF]
    by_cases h0 : e = 0
    · subst h0
      simp only [if_true]
      refine ⟨fun c hc hca => ?_, fun _ _ => trivial⟩
      have := an_le ht hca
      omega
    · rw [if_neg h0]
      have hp := ht.2 e (by omega)
      obtain ⟨i1, i2⟩ := ih (par e) (uO L (par e) (some e)) (by omega)
      refine ⟨fun c hc hca => ?_, fun i hi => ?_⟩
      · by_cases hce : c = e
        · subst hce
          rw [i2 (par c) (fun c2 h2 h3 => ?_)]
          · simp [uO]
          · have := an_le ht h3
            have := ht.2 c2 h2
            omega
        · exact i1 c hc (an_ne ht hca hce)
      · rw [i2 i (fun c2 h2 h3 => hi c2 h2 (an_tr ht h3 (an_par ht e)))]
        have : i ≠ par e := fun z => hi e (by omega) (an_rf par e) z.symm
        simp [uO, this]
/-! places -/
/-- one farther in a heading -/
def fa (p d : Nat) : Option Nat :=
  let c : Int := (p / 8 : Nat) + (colS d).toInt
  let r : Int := (p % 8 : Nat) + (rowS d).toInt
  if 0 ≤ c ∧ c < 8 ∧ 0 ≤ r ∧ r < 8 then some (8 * c.toNat + r.toNat) else none
def bes (a b : Nat) : Bool := decide (a / 8 ≤ b / 8 + 1 ∧ b / 8 ≤ a / 8 + 1 ∧ a % 8 ≤ b % 8 + 1 ∧ b % 8 ≤ a % 8 + 1)
theorem fa_lt {p d q : Nat} (h : fa p d = some q) : q < 64 := by
  unfold fa at h
  simp only at h
  split at h
  · cases h
    omega
  · cases h
/-- the first place from i on, among d, that holds v -/
def pon (f : Nat → Nat) (v : Nat) : Nat → Nat → Option Nat
  | 0, _ => none
  | d + 1, i => if f i = v then some i else pon f v d (i + 1)
theorem pon_lt {f : Nat → Nat} {v : Nat} : ∀ {d i q : Nat}, pon f v d i = some q → i ≤ q ∧ q < i + d ∧ f q = v := by
  intro d
  induction d with
  | zero => intro i q h; cases h
  | succ d ih =>
    intro i q h
    simp only [pon] at h
    split at h
    · cases h
      exact ⟨by omega, by omega, by assumption⟩
    · obtain ⟨h1, h2, h3⟩ := ih h
      exact ⟨by omega, by omega, h3⟩
theorem pon_congr {f g : Nat → Nat} {v : Nat} : ∀ {d i : Nat}, (∀ q, i ≤ q → q < i + d → f q = g q) → pon f v d i = pon g v d i := by
  intro d
  induction d with
  | zero => intro i _; rfl
  | succ d ih =>
    intro i h
    simp only [pon]
    rw [h i (by omega) (by omega), ih (fun q h1 h2 => h q (by omega) (by omega))]
def nxt (np ct : Nat) (pos : Nat → Nat) (lb k v : Nat) : Option (Nat × (Nat → Nat) × Nat) :=
  if k = 0 then (match fa ct v with
    | none => none
    | some c => some (c, pos, lb))
  else if k = 1 then (if v < np ∧ lb.testBit v = false ∧ bes ct (pos v) = true then some (ct, pos, lb ||| 2 ^ v) else none)
  else if k = 2 then (if v < np ∧ lb.testBit v = true ∧ bes ct (pos v) = true then some (ct, pos, lb ^^^ 2 ^ v) else none)
  else (match fa ct v with
    | none => none
    | some a => match pon pos a np 0 with
      | none => none
      | some q => if lb.testBit q = true then none else match fa a v with
        | none => none
        | some b => match pon pos b np 0 with
          | none => some (a, uN pos q b, lb)
          | some _ => none)
/-- what holds of the state at all times -/
def Inv (g : Sg) : Prop :=
  (1 ≤ g.n ∧ g.n ≤ 60 ∧ g.now < g.n ∧ g.np ≤ 16) ∧ Tr g.par ∧ Dp g.par g.dp ∧ (g.kd 0 = -1 ∧ g.nm 0 = -1) ∧
  (∀ i, i < g.n → g.ct i < 64) ∧ (∀ i p, i < g.n → p < g.np → g.pos i p < 64) ∧ (∀ i, i < g.n → g.lb i < 2 ^ g.np) ∧
  (∀ i j, i < g.n → g.last i = some j → 0 < j ∧ j < g.n ∧ g.par j = i) ∧ (∀ j, 0 < j → j < g.n → g.last (g.par j) ≠ none) ∧
  (∀ c, 0 < c → an g.par c g.now = true → g.last (g.par c) = some c)
end
section
theorem cat_rf (r : Option Nat) : (va_rf r).category = 1 := by cases r <;> rfl
section GD
variable {p : Program} {l : Launch} {e : Env} {R : Room} {s : State} {m : MethodId} {args : Array Value} {below : List Frame} {meth : Method} {c : Code} {Q : State → Prop} {Y : YG} {nL : Nat} {cc : ByteArray} {own : String} {pc : Nat} {lv : List (Option Value)} {st : List Value} {h : AH} {k n : Nat}
theorem g_iincN (C : Cx p s m args meth c Y cc nL own) {i a : Nat} (hd : decode cc pc = .ok (.iinc i 1, 3)) (hv : lv[i]? = some (some (.int (nI a)))) (hn : i < nL) (kk : Gd p l e R s m args below meth c Q Y nL (pc + 3) (lset lv i (.int (nI (a + 1)))) st h k n) : Gd p l e R s m args below meth c Q Y nL pc lv st h k n := g_iinc C hd hv hn (by rw [show nI a + Int32.ofInt 1 = nI (a + 1) from nI_1 a]; exact kk)
theorem g_iaddN (C : Cx p s m args meth c Y cc nL own) {a b : Nat} (hd : decode cc pc = .ok (.iadd, 1)) (kk : Gd p l e R s m args below meth c Q Y nL (pc + 1) lv (.int (nI (a + b)) :: st) h k n) : Gd p l e R s m args below meth c Q Y nL pc lv (.int (nI b) :: .int (nI a) :: st) h k n := g_iadd C hd (by rw [nI_add]; exact kk)
theorem g_imulN (C : Cx p s m args meth c Y cc nL own) {a b : Nat} (hd : decode cc pc = .ok (.imul, 1)) (kk : Gd p l e R s m args below meth c Q Y nL (pc + 1) lv (.int (nI (a * b)) :: st) h k n) : Gd p l e R s m args below meth c Q Y nL pc lv (.int (nI b) :: .int (nI a) :: st) h k n := g_imul C hd (by rw [pk_mul]; exact kk)
theorem g_isubN (C : Cx p s m args meth c Y cc nL own) {a b : Nat} (hab : b ≤ a) (hd : decode cc pc = .ok (.isub, 1)) (kk : Gd p l e R s m args below meth c Q Y nL (pc + 1) lv (.int (nI (a - b)) :: st) h k n) : Gd p l e R s m args below meth c Q Y nL pc lv (.int (nI b) :: .int (nI a) :: st) h k n := g_isub C hd (by rw [pk_sub hab]; exact kk)
theorem g_idivN (C : Cx p s m args meth c Y cc nL own) {a b : Nat} (hd : decode cc pc = .ok (.idiv, 1)) (ha : a < 2 ^ 31) (hb : 0 < b ∧ b < 2 ^ 31) (kk : Gd p l e R s m args below meth c Q Y nL (pc + 1) lv (.int (nI (a / b)) :: st) h k n) : Gd p l e R s m args below meth c Q Y nL pc lv (.int (nI b) :: .int (nI a) :: st) h k n := g_idiv C hd (nI_ne0 hb.1 hb.2) (by rw [pk_div ha hb.1 hb.2]; exact kk)
theorem g_iremN (C : Cx p s m args meth c Y cc nL own) {a b : Nat} (hd : decode cc pc = .ok (.irem, 1)) (ha : a < 2 ^ 31) (hb : 0 < b ∧ b < 2 ^ 31) (kk : Gd p l e R s m args below meth c Q Y nL (pc + 1) lv (.int (nI (a % b)) :: st) h k n) : Gd p l e R s m args below meth c Q Y nL pc lv (.int (nI b) :: .int (nI a) :: st) h k n := g_irem C hd (nI_ne0 hb.1 hb.2) (by rw [pk_rem ha hb.1 hb.2]; exact kk)
theorem g_icmp_eqN (C : Cx p s m args meth c Y cc nL own) {a b : Nat} {off : Int} {tgt : Nat} (hd : decode cc pc = .ok (.if_icmp .eq off, 3)) (ht : (pc : Int) + off = (tgt : Int)) (ha : a < 2 ^ 31) (hb : b < 2 ^ 31) (kt : a = b → Gd p l e R s m args below meth c Q Y nL tgt lv st h k n) (kf : a ≠ b → Gd p l e R s m args below meth c Q Y nL (pc + 3) lv st h k n) : Gd p l e R s m args below meth c Q Y nL pc lv (.int (nI b) :: .int (nI a) :: st) h k n := g_icmp_eq C hd ht (fun q => kt ((nI_eq ha hb).mp q)) (fun q => kf (fun z => q ((nI_eq ha hb).mpr z)))
theorem g_icmp_neN (C : Cx p s m args meth c Y cc nL own) {a b : Nat} {off : Int} {tgt : Nat} (hd : decode cc pc = .ok (.if_icmp .ne off, 3)) (ht : (pc : Int) + off = (tgt : Int)) (ha : a < 2 ^ 31) (hb : b < 2 ^ 31) (kt : a ≠ b → Gd p l e R s m args below meth c Q Y nL tgt lv st h k n) (kf : a = b → Gd p l e R s m args below meth c Q Y nL (pc + 3) lv st h k n) : Gd p l e R s m args below meth c Q Y nL pc lv (.int (nI b) :: .int (nI a) :: st) h k n := g_icmp_ne C hd ht (fun q => kt (fun z => q ((nI_eq ha hb).mpr z))) (fun q => kf ((nI_eq ha hb).mp q))
theorem g_icmp_ltN (C : Cx p s m args meth c Y cc nL own) {a b : Nat} {off : Int} {tgt : Nat} (hd : decode cc pc = .ok (.if_icmp .lt off, 3)) (ht : (pc : Int) + off = (tgt : Int)) (ha : a < 2 ^ 31) (hb : b < 2 ^ 31) (kt : a < b → Gd p l e R s m args below meth c Q Y nL tgt lv st h k n) (kf : b ≤ a → Gd p l e R s m args below meth c Q Y nL (pc + 3) lv st h k n) : Gd p l e R s m args below meth c Q Y nL pc lv (.int (nI b) :: .int (nI a) :: st) h k n := g_icmp_lt C hd ht (fun q => kt ((nI_ltI ha hb).mp q)) (fun q => kf (Nat.not_lt.mp (fun z => q ((nI_ltI ha hb).mpr z))))
theorem g_icmp_geN (C : Cx p s m args meth c Y cc nL own) {a b : Nat} {off : Int} {tgt : Nat} (hd : decode cc pc = .ok (.if_icmp .ge off, 3)) (ht : (pc : Int) + off = (tgt : Int)) (ha : a < 2 ^ 31) (hb : b < 2 ^ 31) (kt : b ≤ a → Gd p l e R s m args below meth c Q Y nL tgt lv st h k n) (kf : a < b → Gd p l e R s m args below meth c Q Y nL (pc + 3) lv st h k n) : Gd p l e R s m args below meth c Q Y nL pc lv (.int (nI b) :: .int (nI a) :: st) h k n := g_icmp_ge C hd ht (fun q => kt ((nI_leI hb ha).mp q)) (fun q => kf (Nat.not_le.mp (fun z => q ((nI_leI hb ha).mpr z))))
theorem g_icmp_gtN (C : Cx p s m args meth c Y cc nL own) {a b : Nat} {off : Int} {tgt : Nat} (hd : decode cc pc = .ok (.if_icmp .gt off, 3)) (ht : (pc : Int) + off = (tgt : Int)) (ha : a < 2 ^ 31) (hb : b < 2 ^ 31) (kt : b < a → Gd p l e R s m args below meth c Q Y nL tgt lv st h k n) (kf : a ≤ b → Gd p l e R s m args below meth c Q Y nL (pc + 3) lv st h k n) : Gd p l e R s m args below meth c Q Y nL pc lv (.int (nI b) :: .int (nI a) :: st) h k n := g_icmp_gt C hd ht (fun q => kt ((nI_ltI hb ha).mp q)) (fun q => kf (Nat.not_lt.mp (fun z => q ((nI_ltI hb ha).mpr z))))
theorem g_icmp_leN (C : Cx p s m args meth c Y cc nL own) {a b : Nat} {off : Int} {tgt : Nat} (hd : decode cc pc = .ok (.if_icmp .le off, 3)) (ht : (pc : Int) + off = (tgt : Int)) (ha : a < 2 ^ 31) (hb : b < 2 ^ 31) (kt : a ≤ b → Gd p l e R s m args below meth c Q Y nL tgt lv st h k n) (kf : b < a → Gd p l e R s m args below meth c Q Y nL (pc + 3) lv st h k n) : Gd p l e R s m args below meth c Q Y nL pc lv (.int (nI b) :: .int (nI a) :: st) h k n := g_icmp_le C hd ht (fun q => kt ((nI_leI ha hb).mp q)) (fun q => kf (Nat.not_le.mp (fun z => q ((nI_leI ha hb).mpr z))))
theorem g_if_eqN (C : Cx p s m args meth c Y cc nL own) {a : Nat} {off : Int} {tgt : Nat} (hd : decode cc pc = .ok (.ifCond .eq off, 3)) (ht : (pc : Int) + off = (tgt : Int)) (ha : a < 2 ^ 31) (kt : a = 0 → Gd p l e R s m args below meth c Q Y nL tgt lv st h k n) (kf : 0 < a → Gd p l e R s m args below meth c Q Y nL (pc + 3) lv st h k n) : Gd p l e R s m args below meth c Q Y nL pc lv (.int (nI a) :: st) h k n := g_if_eq C hd ht (fun q => kt (Nat.eq_zero_of_not_pos (fun z => nI_ne0 z ha q))) (fun q => kf (Nat.pos_of_ne_zero (fun z => q (by rw [z]; rfl))))
theorem g_if_neN (C : Cx p s m args meth c Y cc nL own) {a : Nat} {off : Int} {tgt : Nat} (hd : decode cc pc = .ok (.ifCond .ne off, 3)) (ht : (pc : Int) + off = (tgt : Int)) (ha : a < 2 ^ 31) (kt : 0 < a → Gd p l e R s m args below meth c Q Y nL tgt lv st h k n) (kf : a = 0 → Gd p l e R s m args below meth c Q Y nL (pc + 3) lv st h k n) : Gd p l e R s m args below meth c Q Y nL pc lv (.int (nI a) :: st) h k n := g_if_ne C hd ht (fun q => kt (Nat.pos_of_ne_zero (fun z => q (by rw [z]; rfl)))) (fun q => kf (Nat.eq_zero_of_not_pos (fun z => nI_ne0 z ha q)))
theorem g_if_eqB (C : Cx p s m args meth c Y cc nL own) {b : Bool} {off : Int} {tgt : Nat} (hd : decode cc pc = .ok (.ifCond .eq off, 3)) (ht : (pc : Int) + off = (tgt : Int)) (kt : b = false → Gd p l e R s m args below meth c Q Y nL tgt lv st h k n) (kf : b = true → Gd p l e R s m args below meth c Q Y nL (pc + 3) lv st h k n) : Gd p l e R s m args below meth c Q Y nL pc lv (bI b :: st) h k n := g_if_eq C hd ht (fun q => kt (by cases b <;> first | rfl | exact absurd q (by decide))) (fun q => kf (by cases b <;> first | rfl | exact absurd q (by decide)))
theorem g_if_neB (C : Cx p s m args meth c Y cc nL own) {b : Bool} {off : Int} {tgt : Nat} (hd : decode cc pc = .ok (.ifCond .ne off, 3)) (ht : (pc : Int) + off = (tgt : Int)) (kt : b = true → Gd p l e R s m args below meth c Q Y nL tgt lv st h k n) (kf : b = false → Gd p l e R s m args below meth c Q Y nL (pc + 3) lv st h k n) : Gd p l e R s m args below meth c Q Y nL pc lv (bI b :: st) h k n := g_if_ne C hd ht (fun q => kt (by cases b <;> first | rfl | exact absurd q (by decide))) (fun q => kf (by cases b <;> first | rfl | exact absurd q (by decide)))
theorem bI_t : bI true = .int (nI 1) := rfl
theorem bI_f : bI false = .int (nI 0) := rfl
theorem tf_Fadd (C : Cx p s m args meth c Y cc nL own) : va_Fw RJx4a65c nL_add yJx4a65c_add_9ea2d s := C.2.2.2.2.2.2.1.2.1
theorem tf_Fsize (C : Cx p s m args meth c Y cc nL own) : va_Fw RJx4a65c nL_size yJx4a65c_size_8abf5 s := C.2.2.2.2.2.2.1.2.2.1
theorem tf_Fget (C : Cx p s m args meth c Y cc nL own) : va_Fw RJx4a65c nL_get yJx4a65c_get_915e3 s := C.2.2.2.2.2.2.1.2.2.2.1
theorem tf_nest (C : Cx p s m args meth c Y cc nL own) : va_Nw (.methodLinkNest RX1 57 yX2_farther RX2) s := C.2.2.2.2.2.2.1.2.2.2.2.1
theorem tf_ca_IllegalStateException (C : Cx p s m args meth c Y cc nL own) : va_Ca sIS sIS s := C.2.2.2.2.2.2.1.2.2.2.2.2.1.1
theorem tf_ca_IllegalArgumentException (C : Cx p s m args meth c Y cc nL own) : va_Ca sIA sIA s := C.2.2.2.2.2.2.1.2.2.2.2.2.1.2.1
theorem tf_ca_IndexOutOfBoundsException (C : Cx p s m args meth c Y cc nL own) : va_Ca sIO sIO s := C.2.2.2.2.2.2.1.2.2.2.2.2.1.2.2.1
theorem tf_ca_EvO (C : Cx p s m args meth c Y cc nL own) : va_Ca RX0 "java/lang/Object" s := C.2.2.2.2.2.2.1.2.2.2.2.2.1.2.2.2.1
theorem tf_ca_clone (C : Cx p s m args meth c Y cc nL own) : va_Ca "[I" "java/lang/Cloneable" s := C.2.2.2.2.2.2.1.2.2.2.2.2.1.2.2.2.2
theorem tf_ncISIA (C : Cx p s m args meth c Y cc nL own) : va_Nc sIS sIA s := C.2.2.2.2.2.2.1.2.2.2.2.2.2.1
theorem tf_mi (C : Cx p s m args meth c Y cc nL own) : ∃ mi : Nat, va_Mi "[Ljava/lang/Object;" mi s := C.2.2.2.2.2.2.1.2.2.2.2.2.2.2.1
theorem tf_dc (C : Cx p s m args meth c Y cc nL own) : va_Dc s := C.2.2.2.2.2.2.1.2.2.2.2.2.2.2.2.1
theorem tf_ao (C : Cx p s m args meth c Y cc nL own) : va_AO "java/lang/Object" s := C.2.2.2.2.2.2.1.2.2.2.2.2.2.2.2.2.1
theorem tf_s50 (C : Cx p s m args meth c Y cc nL own) : ∃ a : Nat, vk_R RX2 50 "no more pieces" a s := C.2.2.2.2.2.2.1.2.2.2.2.2.2.2.2.2.2.2.1
theorem tf_s59 (C : Cx p s m args meth c Y cc nL own) : ∃ a : Nat, vk_R RX2 59 "a paw was done already" a s := C.2.2.2.2.2.2.1.2.2.2.2.2.2.2.2.2.2.2.2.1
theorem tf_s65 (C : Cx p s m args meth c Y cc nL own) : ∃ a : Nat, vk_R RX2 65 "another piece is there" a s := C.2.2.2.2.2.2.1.2.2.2.2.2.2.2.2.2.2.2.2.2.1
theorem tf_s75 (C : Cx p s m args meth c Y cc nL own) : ∃ a : Nat, vk_R RX2 75 "the paw is refused" a s := C.2.2.2.2.2.2.1.2.2.2.2.2.2.2.2.2.2.2.2.2.2.1
theorem tf_s77 (C : Cx p s m args meth c Y cc nL own) : ∃ a : Nat, vk_R RX2 77 "no more evenings" a s := C.2.2.2.2.2.2.1.2.2.2.2.2.2.2.2.2.2.2.2.2.2.2.1
theorem tf_s96 (C : Cx p s m args meth c Y cc nL own) : ∃ a : Nat, vk_R RX2 96 "fewer paws were done" a s := C.2.2.2.2.2.2.1.2.2.2.2.2.2.2.2.2.2.2.2.2.2.2.2.1
theorem tf_s101 (C : Cx p s m args meth c Y cc nL own) : ∃ a : Nat, vk_R RX2 101 "nothing to do again" a s := C.2.2.2.2.2.2.1.2.2.2.2.2.2.2.2.2.2.2.2.2.2.2.2.2.1
theorem tf_s127 (C : Cx p s m args meth c Y cc nL own) : ∃ a : Nat, vk_R RX2 127 "no such piece" a s := C.2.2.2.2.2.2.1.2.2.2.2.2.2.2.2.2.2.2.2.2.2.2.2.2.2.1
theorem tf_s213 (C : Cx p s m args meth c Y cc nL own) : ∃ a : Nat, vk_R RX2 213 "no such evening" a s := C.2.2.2.2.2.2.1.2.2.2.2.2.2.2.2.2.2.2.2.2.2.2.2.2.2.2.1
theorem tf_s221 (C : Cx p s m args meth c Y cc nL own) : ∃ a : Nat, vk_R RX2 221 "no such paw" a s := C.2.2.2.2.2.2.1.2.2.2.2.2.2.2.2.2.2.2.2.2.2.2.2.2.2.2.2.1
theorem tf_s227 (C : Cx p s m args meth c Y cc nL own) : ∃ a : Nat, vk_R RX2 227 "many is not 1 to 60" a s := C.2.2.2.2.2.2.1.2.2.2.2.2.2.2.2.2.2.2.2.2.2.2.2.2.2.2.2.2.1
theorem tf_s232 (C : Cx p s m args meth c Y cc nL own) : ∃ a : Nat, vk_R RX2 232 "column or row is not 0 to 7" a s := C.2.2.2.2.2.2.1.2.2.2.2.2.2.2.2.2.2.2.2.2.2.2.2.2.2.2.2.2.2
theorem tf_col (C : Cx p s m args meth c Y cc nL own) : tab "CatEvenings" "COLUMN_STEPS" colS Y.A s s.heap := C.2.2.2.2.2.2.1.1.1
theorem tf_row (C : Cx p s m args meth c Y cc nL own) : tab "CatEvenings" "ROW_STEPS" rowS Y.A s s.heap := C.2.2.2.2.2.2.1.1.2.1
theorem tf_asd (C : Cx p s m args meth c Y cc nL own) : tab "CatEveningsModel" "ASIDE" colS Y.A s s.heap := C.2.2.2.2.2.2.1.1.2.2.1
theorem tf_E (C : Cx p s m args meth c Y cc nL own) : sE Y.A Y.tE s s.heap := C.2.2.2.2.2.2.1.1.2.2.2.1
end GD
theorem w_oi : Cond.code objectInit ⟨#[0xb1]⟩ 1 none ∈ AllW := aw_t (j := 28) (by decide +kernel) (by decide +kernel)
theorem w_mabs : Cond.static Lib.Math.abs.name ∈ AllW ∧ Cond.initialized "java/lang/Math" ∈ AllW ∧ Cond.code Lib.Math.abs.name Lib.Math.abs.code 1 (some .int) ∈ AllW := ⟨w497, w8, aw_t (j := 498) (by decide +kernel) (by decide +kernel)⟩
theorem w_mmax : Cond.static Lib.Math.max.name ∈ AllW ∧ Cond.initialized "java/lang/Math" ∈ AllW ∧ Cond.code Lib.Math.max.name Lib.Math.max.code 2 (some .int) ∈ AllW := ⟨w143, w8, aw_t (j := 144) (by decide +kernel) (by decide +kernel)⟩
theorem w_mmin : Cond.static Lib.Math.min.name ∈ AllW ∧ Cond.initialized "java/lang/Math" ∈ AllW ∧ Cond.code Lib.Math.min.name Lib.Math.min.code 2 (some .int) ∈ AllW := ⟨w171, w8, aw_t (j := 172) (by decide +kernel) (by decide +kernel)⟩
/-! ===== how the class holds the state ===== -/
/-- the list, its row, the row's length, its changes; where evenings, scenes, places are; the row, the places -/
abbrev Vw : Type := Nat × Nat × Nat × Int32 × (Nat → Nat) × (Nat → Nat) × (Nat → Nat) × (Nat → Option Nat) × (Nat → Nat → Int32)
abbrev Vw.t (v : Vw) : Nat := v.1
abbrev Vw.d (v : Vw) : Nat := v.2.1
abbrev Vw.cap (v : Vw) : Nat := v.2.2.1
abbrev Vw.md (v : Vw) : Int32 := v.2.2.2.1
abbrev Vw.ev (v : Vw) : Nat → Nat := v.2.2.2.2.1
abbrev Vw.sc (v : Vw) : Nat → Nat := v.2.2.2.2.2.1
abbrev Vw.pl (v : Vw) : Nat → Nat := v.2.2.2.2.2.2.1
abbrev Vw.fd (v : Vw) : Nat → Option Nat := v.2.2.2.2.2.2.2.1
abbrev Vw.fp (v : Vw) : Nat → Nat → Int32 := v.2.2.2.2.2.2.2.2
abbrev evP (g : Sg) (ev : Nat → Nat) (i : Nat) : Option Nat := if i = 0 then none else some (ev (g.par i))
abbrev evC (g : Sg) (ev sc : Nat → Nat) (i : Nat) : va_E := .inr (1, [va_rf (evP g ev i), .int (nI i), .int (g.kd i), .int (g.nm i), .int (nI (g.dp i)), .ref (sc i), va_rf ((g.last i).map ev), .int (nI (chN g.par g.n i)), .int (nI (dsN g.par g.n i))])
abbrev scC (g : Sg) (pl : Nat → Nat) (i : Nat) : va_E := .inr (2, [.int (nI (g.ct i)), .ref (pl i), .int (nI (g.lb i))])
def RepC (Y : YG) (x : Nat) (v : Vw) (g : Sg) (Z : Nat → Prop) (h : AH) : Prop :=
  h x = some (.inr (3, [.ref v.t, .ref (v.ev g.now)])) ∧ h v.t = some (.inr (0, [.int v.md, .ref v.d, .int (nI g.n)])) ∧ h v.d = some (aO Y v.cap v.fd) ∧ (g.n ≤ v.cap ∧ 10 ≤ v.cap ∧ v.cap ≤ 100) ∧
  (∀ i, i < g.n → v.fd i = some (v.ev i)) ∧ (∀ i, i < g.n → h (v.ev i) = some (evC g v.ev v.sc i)) ∧ (∀ i, i < g.n → h (v.sc i) = some (scC g v.pl i)) ∧ (∀ i, i < g.n → h (v.pl i) = some (aI Y g.np (v.fp i))) ∧
  (∀ i q, i < g.n → q < g.np → v.fp i q = nI (g.pos i q)) ∧ (∀ i j, i < g.n → j < g.n → v.ev i = v.ev j → i = j) ∧ (∀ i, i < g.n → ¬ Z (v.pl i))
section RC
variable {Y : YG} {xx : Nat} {v : Vw} {g : Sg} {Z : Nat → Prop} {h : AH}
theorem RepC.x (r : RepC Y xx v g Z h) : h xx = some (.inr (3, [.ref v.t, .ref (v.ev g.now)])) := r.1
theorem RepC.t (r : RepC Y xx v g Z h) : h v.t = some (.inr (0, [.int v.md, .ref v.d, .int (nI g.n)])) := r.2.1
theorem RepC.d (r : RepC Y xx v g Z h) : h v.d = some (aO Y v.cap v.fd) := r.2.2.1
theorem RepC.cap (r : RepC Y xx v g Z h) : g.n ≤ v.cap ∧ 10 ≤ v.cap ∧ v.cap ≤ 100 := r.2.2.2.1
theorem RepC.fd (r : RepC Y xx v g Z h) {i : Nat} (hi : i < g.n) : v.fd i = some (v.ev i) := r.2.2.2.2.1 i hi
theorem RepC.ev (r : RepC Y xx v g Z h) {i : Nat} (hi : i < g.n) : h (v.ev i) = some (evC g v.ev v.sc i) := r.2.2.2.2.2.1 i hi
theorem RepC.sc (r : RepC Y xx v g Z h) {i : Nat} (hi : i < g.n) : h (v.sc i) = some (scC g v.pl i) := r.2.2.2.2.2.2.1 i hi
theorem RepC.pl (r : RepC Y xx v g Z h) {i : Nat} (hi : i < g.n) : h (v.pl i) = some (aI Y g.np (v.fp i)) := r.2.2.2.2.2.2.2.1 i hi
theorem RepC.fp (r : RepC Y xx v g Z h) {i q : Nat} (hi : i < g.n) (hq : q < g.np) : v.fp i q = nI (g.pos i q) := r.2.2.2.2.2.2.2.2.1 i q hi hq
theorem RepC.inj (r : RepC Y xx v g Z h) {i j : Nat} (hi : i < g.n) (hj : j < g.n) (e : v.ev i = v.ev j) : i = j := r.2.2.2.2.2.2.2.2.2.1 i j hi hj e
theorem RepC.z (r : RepC Y xx v g Z h) {i : Nat} (hi : i < g.n) : ¬ Z (v.pl i) := r.2.2.2.2.2.2.2.2.2.2 i hi
end RC
section IV
variable {g : Sg}
theorem Inv.n1 (i : Inv g) : 1 ≤ g.n := i.1.1
theorem Inv.n60 (i : Inv g) : g.n ≤ 60 := i.1.2.1
theorem Inv.now (i : Inv g) : g.now < g.n := i.1.2.2.1
theorem Inv.np (i : Inv g) : g.np ≤ 16 := i.1.2.2.2
theorem Inv.tr (i : Inv g) : Tr g.par := i.2.1
theorem Inv.dp (i : Inv g) : Dp g.par g.dp := i.2.2.1
theorem Inv.ct (i : Inv g) {j : Nat} (hj : j < g.n) : g.ct j < 64 := i.2.2.2.2.1 j hj
theorem Inv.pos (i : Inv g) {j q : Nat} (hj : j < g.n) (hq : q < g.np) : g.pos j q < 64 := i.2.2.2.2.2.1 j q hj hq
theorem Inv.lb (i : Inv g) {j : Nat} (hj : j < g.n) : g.lb j < 2 ^ g.np := i.2.2.2.2.2.2.1 j hj
theorem Inv.last (i : Inv g) {a j : Nat} (hj : a < g.n) (h : g.last a = some j) : 0 < j ∧ j < g.n ∧ g.par j = a := i.2.2.2.2.2.2.2.1 a j hj h
theorem Inv.some (i : Inv g) {j : Nat} (h0 : 0 < j) (hj : j < g.n) : g.last (g.par j) ≠ none := i.2.2.2.2.2.2.2.2.1 j h0 hj
theorem Inv.path (i : Inv g) {c : Nat} (h0 : 0 < c) (hc : an g.par c g.now = true) : g.last (g.par c) = Option.some c := i.2.2.2.2.2.2.2.2.2 c h0 hc
theorem Inv.par (i : Inv g) {j : Nat} (hj : j < g.n) : g.par j < g.n := by
  rcases Nat.eq_zero_or_pos j with h0 | h0
  · rw [h0, i.tr.1]; exact i.n1
  · have := i.tr.2 j h0; omega
theorem Inv.dp60 (i : Inv g) {j : Nat} (hj : j < g.n) : g.dp j < 60 := by
  have := dp_le i.tr i.dp j
  have := i.n60
  omega
theorem Inv.lb16 (i : Inv g) {j : Nat} (hj : j < g.n) : g.lb j < 65536 := Nat.lt_of_lt_of_le (i.lb hj) (Nat.pow_le_pow_right (by decide) i.np)
end IV
end
section
def hasP (np : Nat) (i : Int32) : Bool := decide (0 ≤ i) && decide (i < nI np)
theorem hasP_N {np j : Nat} (hnp : np ≤ 16) (hj : j < 2 ^ 31) : hasP np (nI j) = decide (j < np) := by
  unfold hasP
  rw [decide_eq_true (nI_pos' hj), Bool.true_and]
  exact decide_eq_decide.mpr (nI_ltI hj (by omega))
theorem hasP_of {np : Nat} {i : Int32} (hnp : np ≤ 16) (h : hasP np i = true) : ∃ j, j < np ∧ i = nI j := by
  unfold hasP at h
  simp only [Bool.and_eq_true, decide_eq_true_eq] at h
  obtain ⟨j, hj, rfl⟩ := nI_of (x := i) (Int32.not_lt.mpr h.1)
  exact ⟨j, (nI_ltI hj (by omega)).mp h.2, rfl⟩
set_option maxRecDepth 100000 in
set_option maxHeartbeats 4000000 in
theorem K_X1_init (l : Launch) (Y : YG) {q pa : Nat} {a b : Int32} {h : AH} (hq : h q = some (.inr (2, [.int 0, .null, .int 0]))) : MX l Y yX1_init cX1_init 4 none 1 20 0 0 [.ref q, .int a, .ref pa, .int b] h (pV (fun h' => h' = hup h q (.inr (2, [.int a, .ref pa, .int b])))) (noX) := by
  refine MX.of (by decide +kernel) (Nat.le_of_ble_eq_true rfl) ?_
  intro p e s m args0 below meth c C hr hout hnm
  refine g_aload_n C dX1_init_0 rfl (by first | rfl | exact isR_rf _) ?_
  refine g_objinit C w36 w27 w_oi dX1_init_1 (Nat.le_of_ble_eq_true rfl) (Nat.le_of_ble_eq_true rfl) ?_
  refine g_aload_n C dX1_init_4 rfl (by first | rfl | exact isR_rf _) ?_
  refine g_iload_n C dX1_init_5 rfl ?_
  refine pf_X1_9 C hnm (hq) (Nat.le_of_ble_eq_true rfl) dX1_init_6 ?_
  refine g_aload_n C dX1_init_9 rfl (by first | rfl | exact isR_rf _) ?_
  refine g_aload_n C dX1_init_10 rfl (by first | rfl | exact isR_rf _) ?_
  refine pf_X1_15 C hnm (hup_eq) (Nat.le_of_ble_eq_true rfl) (by first | rfl | exact isR_rf _) dX1_init_11 ?_
  refine g_aload_n C dX1_init_14 rfl (by first | rfl | exact isR_rf _) ?_
  refine g_iload_n C dX1_init_15 rfl ?_
  refine pf_X1_19 C hnm (hup_eq) (Nat.le_of_ble_eq_true rfl) dX1_init_16 ?_
  exact g_vret C hr dX1_init_19 (Nat.le_of_ble_eq_true rfl) (Nat.le_of_ble_eq_true rfl) (⟨rfl, by rw [hup_hup, hup_hup]; rfl⟩)
set_option maxRecDepth 100000 in
set_option maxHeartbeats 4000000 in
theorem K_X1_has (l : Launch) (Y : YG) {q pa np ct lb : Nat} {fp : Nat → Int32} {h : AH} (hq : h q = some (.inr (2, [.int (nI ct), .ref pa, .int (nI lb)]))) (hp : h pa = some (aI Y np fp)) (hnp : np ≤ 16) (i : Int32) : MX l Y yX1_has cX1_has 2 (some .boolean) 0 0 0 0 [.ref q, .int i] h (pS (some (bI (hasP np i))) h) (noX) := by
  refine MX.of (by decide +kernel) (Nat.le_of_ble_eq_true rfl) ?_
  intro p e s m args0 below meth c C hr hout hnm
  refine g_iload_n C dX1_has_0 rfl ?_
  refine g_if_lt C (tgt := 17) dX1_has_1 (by decide) (fun q1 => ?_) (fun q1 => ?_)
  · refine g_iconst C (v := nI 0) dX1_has_17 (by decide) ?_
    exact g_zret C hr (by first | exact Or.inl rfl | exact Or.inr rfl) dX1_has_18 (Nat.le_of_ble_eq_true rfl) (Nat.le_of_ble_eq_true rfl) (⟨by rw [show hasP np i = false from by unfold hasP; rw [decide_eq_false (Int32.not_le.mpr q1), Bool.false_and]]; rfl, rfl⟩)
  · refine g_iload_n C dX1_has_4 rfl ?_
    refine g_aload_n C dX1_has_5 rfl (by first | rfl | exact isR_rf _) ?_
    refine gf_X1_15 C (hq) rfl dX1_has_6 ?_
    refine g_aleni C (hp) dX1_has_9 ?_
    refine g_icmp_ge C (tgt := 17) dX1_has_10 (by decide) (fun q2 => ?_) (fun q2 => ?_)
    · refine g_iconst C (v := nI 0) dX1_has_17 (by decide) ?_
      exact g_zret C hr (by first | exact Or.inl rfl | exact Or.inr rfl) dX1_has_18 (Nat.le_of_ble_eq_true rfl) (Nat.le_of_ble_eq_true rfl) (⟨by rw [show hasP np i = false from by unfold hasP; rw [decide_eq_false (Int32.not_lt.mpr q2), Bool.and_false]]; rfl, rfl⟩)
    · refine g_iconst C (v := nI 1) dX1_has_13 (by decide) ?_
      refine g_goto C (tgt := 18) dX1_has_14 (by decide) ?_
      exact g_zret C hr (by first | exact Or.inl rfl | exact Or.inr rfl) dX1_has_18 (Nat.le_of_ble_eq_true rfl) (Nat.le_of_ble_eq_true rfl) (⟨by rw [show hasP np i = true from by unfold hasP; rw [decide_eq_true (Int32.not_lt.mp q1), decide_eq_true (Int32.not_le.mp q2)]; rfl]; rfl, rfl⟩)
def lyB (np lb j : Nat) : Bool := decide (j < np) && lb.testBit j
theorem shr_bit {lb j : Nat} (hl : lb < 65536) (hj : j < 16) : (nI lb >>> (nI j &&& 31)) &&& nI 1 = if lb.testBit j then nI 1 else nI 0 := by
  have hs : ((nI j &&& 31).toBitVec.smod 32).toNat = j := by
    have : ∀ j, j < 16 → ((nI j &&& 31).toBitVec.smod 32).toNat = j := by decide +kernel
    exact this j hj
  rw [pk_shrN (n := lb) (by omega) _ j hs]
  have e : (1 : Int32) = nI 1 := rfl
  rw [pk_andN (n := lb / 2 ^ j) (by have := Nat.div_le_self lb (2 ^ j); omega) 1 (by decide)]
  rw [Nat.testBit_eq_decide_div_mod_eq]
  have h2 := Nat.mod_two_eq_zero_or_one (lb / 2 ^ j)
  rcases h2 with h2 | h2
  · rw [show lb / 2 ^ j % 2 ^ 1 = lb / 2 ^ j % 2 from rfl, h2]; rfl
  · rw [show lb / 2 ^ j % 2 ^ 1 = lb / 2 ^ j % 2 from rfl, h2]; rfl
set_option maxRecDepth 100000 in
set_option maxHeartbeats 4000000 in
theorem K_X1_isLying (l : Launch) (Y : YG) {q pa np ct lb : Nat} {fp : Nat → Int32} {h : AH} (hq : h q = some (.inr (2, [.int (nI ct), .ref pa, .int (nI lb)]))) (hp : h pa = some (aI Y np fp)) (hnp : np ≤ 16) (hlb : lb < 65536) {j : Nat} (hj : j < 2 ^ 31) : MX l Y yX1_isLying cX1_isLying 2 (some .boolean) 1 21 0 0 [.ref q, .int (nI j)] h (pS (some (bI (lyB np lb j))) h) (noX) := by
  refine MX.of (by decide +kernel) (Nat.le_of_ble_eq_true rfl) ?_
  intro p e s m args0 below meth c C hr hout hnm
  by_cases hjn : j < np
  · refine g_aload_n C dX1_isLying_0 rfl (by first | rfl | exact isR_rf _) ?_
    refine g_iload_n C dX1_isLying_1 rfl ?_
    refine g_callV C ((K_X1_has l Y hq hp hnp (nI j)).K) ok_X1_has w371 (hq) rfl rfl rfl dX1_isLying_2 (Nat.le_of_ble_eq_true rfl) (Nat.le_of_ble_eq_true rfl) (Nat.le_of_ble_eq_true rfl) (Nat.le_of_ble_eq_true rfl) (Nat.le_of_ble_eq_true rfl) (ofS ?_)
    rw [hasP_N hnp hj, decide_eq_true hjn]
    refine g_if_eq C (tgt := 24) dX1_isLying_5 (by decide) (fun q1 => ?_) (fun q1 => ?_)
    · exact absurd q1 (by decide)
    · refine g_aload_n C dX1_isLying_8 rfl (by first | rfl | exact isR_rf _) ?_
      refine gf_X1_19 C (hq) rfl dX1_isLying_9 ?_
      have hsb := shr_bit hlb (show j < 16 by omega)
      refine g_iload_n C dX1_isLying_12 rfl ?_
      refine g_ishr C dX1_isLying_13 ?_
      refine g_iconst C (v := nI 1) dX1_isLying_14 (by decide) ?_
      refine g_iand C dX1_isLying_15 ?_
      rw [hsb]
      cases hbt : lb.testBit j
      · rw [if_neg (by decide)]
        refine g_iconst C (v := nI 1) dX1_isLying_16 (by decide) ?_
        refine g_icmp_ne C (tgt := 24) dX1_isLying_17 (by decide) (fun q => ?_) (fun q => absurd q (by decide))
        refine g_iconst C (v := nI 0) dX1_isLying_24 (by decide) ?_
        exact g_zret C hr (Or.inl rfl) dX1_isLying_25 (Nat.le_of_ble_eq_true rfl) (Nat.le_of_ble_eq_true rfl) ⟨by rw [show lyB np lb j = false from by unfold lyB; rw [hbt, Bool.and_false]]; rfl, rfl⟩
      rw [if_pos rfl]
      refine g_iconst C (v := nI 1) dX1_isLying_16 (by decide) ?_
      refine g_icmp_ne C (tgt := 24) dX1_isLying_17 (by decide) (fun q => absurd rfl q) (fun q => ?_)
      refine g_iconst C (v := nI 1) dX1_isLying_20 (by decide) ?_
      refine g_goto C (tgt := 25) dX1_isLying_21 (by decide) ?_
      exact g_zret C hr (by first | exact Or.inl rfl | exact Or.inr rfl) dX1_isLying_25 (Nat.le_of_ble_eq_true rfl) (Nat.le_of_ble_eq_true rfl) (⟨by rw [show lyB np lb j = true from by unfold lyB; rw [hbt, decide_eq_true hjn]; rfl]; rfl, rfl⟩)
  · refine g_aload_n C dX1_isLying_0 rfl (by first | rfl | exact isR_rf _) ?_
    refine g_iload_n C dX1_isLying_1 rfl ?_
    refine g_callV C ((K_X1_has l Y hq hp hnp (nI j)).K) ok_X1_has w371 (hq) rfl rfl rfl dX1_isLying_2 (Nat.le_of_ble_eq_true rfl) (Nat.le_of_ble_eq_true rfl) (Nat.le_of_ble_eq_true rfl) (Nat.le_of_ble_eq_true rfl) (Nat.le_of_ble_eq_true rfl) (ofS ?_)
    rw [hasP_N hnp hj, decide_eq_false hjn]
    refine g_if_eq C (tgt := 24) dX1_isLying_5 (by decide) (fun q1 => ?_) (fun q1 => ?_)
    · refine g_iconst C (v := nI 0) dX1_isLying_24 (by decide) ?_
      exact g_zret C hr (by first | exact Or.inl rfl | exact Or.inr rfl) dX1_isLying_25 (Nat.le_of_ble_eq_true rfl) (Nat.le_of_ble_eq_true rfl) (⟨by rw [show lyB np lb j = false from by unfold lyB; rw [decide_eq_false hjn]; rfl]; rfl, rfl⟩)
    · exact absurd rfl q1
set_option maxRecDepth 100000 in
set_option maxHeartbeats 4000000 in
theorem K_X1_isStanding (l : Launch) (Y : YG) {q pa np ct lb : Nat} {fp : Nat → Int32} {h : AH} (hq : h q = some (.inr (2, [.int (nI ct), .ref pa, .int (nI lb)]))) (hp : h pa = some (aI Y np fp)) (hnp : np ≤ 16) (hlb : lb < 65536) {j : Nat} (hj : j < 2 ^ 31) : MX l Y yX1_isStanding cX1_isStanding 2 (some .boolean) 2 42 0 0 [.ref q, .int (nI j)] h (pS (some (bI (decide (j < np) && !lb.testBit j))) h) (noX) := by
  refine MX.of (by decide +kernel) (Nat.le_of_ble_eq_true rfl) ?_
  intro p e s m args0 below meth c C hr hout hnm
  by_cases hjn : j < np
  · refine g_aload_n C dX1_isStanding_0 rfl (by first | rfl | exact isR_rf _) ?_
    refine g_iload_n C dX1_isStanding_1 rfl ?_
    refine g_callV C ((K_X1_has l Y hq hp hnp (nI j)).K) ok_X1_has w371 (hq) rfl rfl rfl dX1_isStanding_2 (Nat.le_of_ble_eq_true rfl) (Nat.le_of_ble_eq_true rfl) (Nat.le_of_ble_eq_true rfl) (Nat.le_of_ble_eq_true rfl) (Nat.le_of_ble_eq_true rfl) (ofS ?_)
    rw [hasP_N hnp hj, decide_eq_true hjn]
    refine g_if_eq C (tgt := 20) dX1_isStanding_5 (by decide) (fun q1 => ?_) (fun q1 => ?_)
    · exact absurd q1 (by decide)
    · refine g_aload_n C dX1_isStanding_8 rfl (by first | rfl | exact isR_rf _) ?_
      refine g_iload_n C dX1_isStanding_9 rfl ?_
      refine g_callV C ((K_X1_isLying l Y hq hp hnp hlb hj).K) ok_X1_isLying w491 (hq) rfl rfl rfl dX1_isStanding_10 (Nat.le_of_ble_eq_true rfl) (Nat.le_of_ble_eq_true rfl) (Nat.le_of_ble_eq_true rfl) (Nat.le_of_ble_eq_true rfl) (Nat.le_of_ble_eq_true rfl) (ofS ?_)
      rw [show lyB np lb j = lb.testBit j from by unfold lyB; rw [decide_eq_true hjn, Bool.true_and]]
      cases hbt : lb.testBit j
      · refine g_if_ne C (tgt := 20) dX1_isStanding_13 (by decide) (fun q => absurd rfl q) (fun q => ?_)
        refine g_iconst C (v := nI 1) dX1_isStanding_16 (by decide) ?_
        refine g_goto C (tgt := 21) dX1_isStanding_17 (by decide) ?_
        exact g_zret C hr (Or.inr rfl) dX1_isStanding_21 (Nat.le_of_ble_eq_true rfl) (Nat.le_of_ble_eq_true rfl) ⟨rfl, rfl⟩
      refine g_if_ne C (tgt := 20) dX1_isStanding_13 (by decide) (fun q => ?_) (fun q => absurd q (by decide))
      refine g_iconst C (v := nI 0) dX1_isStanding_20 (by decide) ?_
      exact g_zret C hr (by first | exact Or.inl rfl | exact Or.inr rfl) dX1_isStanding_21 (Nat.le_of_ble_eq_true rfl) (Nat.le_of_ble_eq_true rfl) (⟨rfl, rfl⟩)
  · refine g_aload_n C dX1_isStanding_0 rfl (by first | rfl | exact isR_rf _) ?_
    refine g_iload_n C dX1_isStanding_1 rfl ?_
    refine g_callV C ((K_X1_has l Y hq hp hnp (nI j)).K) ok_X1_has w371 (hq) rfl rfl rfl dX1_isStanding_2 (Nat.le_of_ble_eq_true rfl) (Nat.le_of_ble_eq_true rfl) (Nat.le_of_ble_eq_true rfl) (Nat.le_of_ble_eq_true rfl) (Nat.le_of_ble_eq_true rfl) (ofS ?_)
    rw [hasP_N hnp hj, decide_eq_false hjn]
    refine g_if_eq C (tgt := 20) dX1_isStanding_5 (by decide) (fun q1 => ?_) (fun q1 => ?_)
    · refine g_iconst C (v := nI 0) dX1_isStanding_20 (by decide) ?_
      exact g_zret C hr (by first | exact Or.inl rfl | exact Or.inr rfl) dX1_isStanding_21 (Nat.le_of_ble_eq_true rfl) (Nat.le_of_ble_eq_true rfl) (⟨rfl, rfl⟩)
    · exact absurd rfl q1
def bcE (v : Int32) : Int32 :=
  let a := v - ((v.toUInt32 >>> ((nI 1).toUInt32 &&& Int32.toUInt32 31)).toInt32 &&& 1431655765)
  let b := (a &&& 858993459) + ((a.toUInt32 >>> ((nI 2).toUInt32 &&& Int32.toUInt32 31)).toInt32 &&& 858993459)
  let c := (b + (b.toUInt32 >>> ((nI 4).toUInt32 &&& Int32.toUInt32 31)).toInt32) &&& 252645135
  let d := c + (c.toUInt32 >>> ((nI 8).toUInt32 &&& Int32.toUInt32 31)).toInt32
  (d + (d.toUInt32 >>> ((nI 16).toUInt32 &&& Int32.toUInt32 31)).toInt32) &&& nI 63
set_option maxRecDepth 100000 in
set_option maxHeartbeats 4000000 in
theorem K_J6_bitCount_0f7a4 (l : Launch) (Y : YG) {h : AH} (v : Int32) : MX l Y yJ6_bitCount_0f7a4 cJ6_bitCount_0f7a4 1 (some .int) 0 0 0 0 [.int v] h (pS (some (.int (bcE v))) h) (noX) := by
  refine MX.of (by decide +kernel) (Nat.le_of_ble_eq_true rfl) ?_
  intro p e s m args0 below meth c C hr hout hnm
  refine g_iload_n C dJ6_bitCount_0f7a4_0 rfl ?_
  refine g_iload_n C dJ6_bitCount_0f7a4_1 rfl ?_
  refine g_iconst C (v := nI 1) dJ6_bitCount_0f7a4_2 (by decide) ?_
  refine g_iushr C dJ6_bitCount_0f7a4_3 ?_
  refine g_ldcw C dJ6_bitCount_0f7a4_4 w225 ?_
  refine g_iand C dJ6_bitCount_0f7a4_7 ?_
  refine g_isub C dJ6_bitCount_0f7a4_8 ?_
  refine g_istore_n C dJ6_bitCount_0f7a4_9 (by decide) ?_
  refine g_iload_n C dJ6_bitCount_0f7a4_10 rfl ?_
  refine g_ldcw C dJ6_bitCount_0f7a4_11 w226 ?_
  refine g_iand C dJ6_bitCount_0f7a4_14 ?_
  refine g_iload_n C dJ6_bitCount_0f7a4_15 rfl ?_
  refine g_iconst C (v := nI 2) dJ6_bitCount_0f7a4_16 (by decide) ?_
  refine g_iushr C dJ6_bitCount_0f7a4_17 ?_
  refine g_ldcw C dJ6_bitCount_0f7a4_18 w226 ?_
  refine g_iand C dJ6_bitCount_0f7a4_21 ?_
  first | with_reducible refine g_iaddN C dJ6_bitCount_0f7a4_22 ?_ | refine g_iadd C dJ6_bitCount_0f7a4_22 ?_
  refine g_istore_n C dJ6_bitCount_0f7a4_23 (by decide) ?_
  refine g_iload_n C dJ6_bitCount_0f7a4_24 rfl ?_
  refine g_iload_n C dJ6_bitCount_0f7a4_25 rfl ?_
  refine g_iconst C (v := nI 4) dJ6_bitCount_0f7a4_26 (by decide) ?_
  refine g_iushr C dJ6_bitCount_0f7a4_27 ?_
  first | with_reducible refine g_iaddN C dJ6_bitCount_0f7a4_28 ?_ | refine g_iadd C dJ6_bitCount_0f7a4_28 ?_
  refine g_ldcw C dJ6_bitCount_0f7a4_29 w227 ?_
  refine g_iand C dJ6_bitCount_0f7a4_32 ?_
  refine g_istore_n C dJ6_bitCount_0f7a4_33 (by decide) ?_
  refine g_iload_n C dJ6_bitCount_0f7a4_34 rfl ?_
  refine g_iload_n C dJ6_bitCount_0f7a4_35 rfl ?_
  refine g_bipush C (v := nI 8) dJ6_bitCount_0f7a4_36 (by decide) ?_
  refine g_iushr C dJ6_bitCount_0f7a4_38 ?_
  first | with_reducible refine g_iaddN C dJ6_bitCount_0f7a4_39 ?_ | refine g_iadd C dJ6_bitCount_0f7a4_39 ?_
  refine g_istore_n C dJ6_bitCount_0f7a4_40 (by decide) ?_
  refine g_iload_n C dJ6_bitCount_0f7a4_41 rfl ?_
  refine g_iload_n C dJ6_bitCount_0f7a4_42 rfl ?_
  refine g_bipush C (v := nI 16) dJ6_bitCount_0f7a4_43 (by decide) ?_
  refine g_iushr C dJ6_bitCount_0f7a4_45 ?_
  first | with_reducible refine g_iaddN C dJ6_bitCount_0f7a4_46 ?_ | refine g_iadd C dJ6_bitCount_0f7a4_46 ?_
  refine g_istore_n C dJ6_bitCount_0f7a4_47 (by decide) ?_
  refine g_iload_n C dJ6_bitCount_0f7a4_48 rfl ?_
  refine g_bipush C (v := nI 63) dJ6_bitCount_0f7a4_49 (by decide) ?_
  refine g_iand C dJ6_bitCount_0f7a4_51 ?_
  exact g_iret C hr dJ6_bitCount_0f7a4_52 (Nat.le_of_ble_eq_true rfl) (Nat.le_of_ble_eq_true rfl) (⟨rfl, rfl⟩)
set_option maxRecDepth 100000 in
set_option maxHeartbeats 4000000 in
theorem K_X1_countLying (l : Launch) (Y : YG) {q pa np ct lb : Nat} {fp : Nat → Int32} {h : AH} (hq : h q = some (.inr (2, [.int (nI ct), .ref pa, .int (nI lb)]))) (hp : h pa = some (aI Y np fp)) (hnp : np ≤ 16) : MX l Y yX1_countLying cX1_countLying 1 (some .int) 1 20 0 0 [.ref q] h (pS (some (.int (bcE (nI lb)))) h) (noX) := by
  refine MX.of (by decide +kernel) (Nat.le_of_ble_eq_true rfl) ?_
  intro p e s m args0 below meth c C hr hout hnm
  refine g_aload_n C dX1_countLying_0 rfl (by first | rfl | exact isR_rf _) ?_
  refine gf_X1_19 C (hq) rfl dX1_countLying_1 ?_
  refine g_callS C ((K_J6_bitCount_0f7a4 l Y (nI lb)).K) ok_J6_bitCount_0f7a4 w222 rfl rfl dX1_countLying_4 (Nat.le_of_ble_eq_true rfl) (Nat.le_of_ble_eq_true rfl) (Nat.le_of_ble_eq_true rfl) (Nat.le_of_ble_eq_true rfl) (Nat.le_of_ble_eq_true rfl) (ofS ?_)
  exact g_iret C hr dX1_countLying_7 (Nat.le_of_ble_eq_true rfl) (Nat.le_of_ble_eq_true rfl) (⟨rfl, rfl⟩)
def nO (r : Option Nat) : Int32 := match r with
  | none => -1
  | some j => nI j
set_option maxRecDepth 100000 in
set_option maxHeartbeats 4000000 in
theorem K_X1_pieceOn (l : Launch) (Y : YG) {q pa np ct lb : Nat} {fp : Nat → Int32} {h : AH} (hq : h q = some (.inr (2, [.int (nI ct), .ref pa, .int (nI lb)]))) (hp : h pa = some (aI Y np fp)) (hnp : np ≤ 16) {pos : Nat → Nat} {w : Int32} {pl : Nat} (hfp : ∀ j, j < np → fp j = nI (pos j)) (hw : ∀ j, j < np → (nI (pos j) = w ↔ pos j = pl)) : MX l Y yX1_pieceOn cX1_pieceOn 3 (some .int) 0 0 0 0 [.ref q, .int w] h (pS (some (.int (nO (pon pos pl np 0)))) h) (noX) := by
  refine MX.of (by decide +kernel) (Nat.le_of_ble_eq_true rfl) ?_
  intro p e s m args0 below meth c C hr hout hnm
  have lp : ∀ (d i : Nat), i ≤ np → np - i < d → pon pos pl (np - i) i = pon pos pl np 0 → Gd p l e (rmO 0 0 0 0) s m args0 below meth c (vx_MQ below (Qk Y (pS (some (.int (nO (pon pos pl np 0)))) h)) (Xk Y (noX)) args0 s 0 0 Y.A) Y 3 2 [some (.ref q), some (.int w), some (.int (nI i))] [] h 0 0 := by
    intro d
    induction d with
    | zero => intro i h1 h2; omega
    | succ d ih =>
      intro i hi hd hS
      refine g_iload_n C dX1_pieceOn_2 rfl ?_
      refine g_aload_n C dX1_pieceOn_3 rfl (by first | rfl | exact isR_rf _) ?_
      refine gf_X1_15 C (hq) rfl dX1_pieceOn_4 ?_
      refine g_aleni C (hp) dX1_pieceOn_7 ?_
      refine g_icmp_geN C (tgt := 29) dX1_pieceOn_8 (by decide) (by omega) (by omega) (fun q1 => ?_) (fun q1 => ?_)
      · have e0 : np - i = 0 := by omega
        rw [e0] at hS
        refine g_iconst C (v := (-1)) dX1_pieceOn_29 (by decide) ?_
        exact g_iret C hr dX1_pieceOn_30 (Nat.le_of_ble_eq_true rfl) (Nat.le_of_ble_eq_true rfl) (⟨by rw [← hS]; rfl, rfl⟩)
      · refine g_aload_n C dX1_pieceOn_11 rfl (by first | rfl | exact isR_rf _) ?_
        refine gf_X1_15 C (hq) rfl dX1_pieceOn_12 ?_
        refine g_iload_n C dX1_pieceOn_15 rfl ?_
        refine g_iald C hp rfl q1 (by omega) dX1_pieceOn_16 ?_
        have eS : pon pos pl (np - i) i = if pos i = pl then some i else pon pos pl (np - (i + 1)) (i + 1) := by
          rw [show np - i = (np - (i + 1)) + 1 by omega]
          rfl
        rw [hfp i q1]
        refine g_iload_n C dX1_pieceOn_17 rfl ?_
        refine g_icmp_ne C (tgt := 23) dX1_pieceOn_18 (by decide) (fun q2 => ?_) (fun q2 => ?_)
        · rw [if_neg (fun z => q2 ((hw i q1).mpr z))] at eS
          refine g_iincN C dX1_pieceOn_23 rfl (by decide) ?_
          refine g_goto C (tgt := 2) dX1_pieceOn_26 (by decide) ?_
          exact ih (i + 1) (by omega) (by omega) (eS.symm.trans hS)
        · rw [if_pos ((hw i q1).mp q2)] at eS
          refine g_iload_n C dX1_pieceOn_21 rfl ?_
          exact g_iret C hr dX1_pieceOn_22 (Nat.le_of_ble_eq_true rfl) (Nat.le_of_ble_eq_true rfl) (⟨by rw [← hS, eS]; rfl, rfl⟩)
  refine g_iconst C (v := nI 0) dX1_pieceOn_0 (by decide) ?_
  refine g_istore_n C dX1_pieceOn_1 (by decide) ?_
  exact lp (np + 1) 0 (Nat.zero_le _) (by omega) rfl
end
section
def onB (c r : Int32) : Bool := if c < 0 then false else if nI 8 ≤ c then false else if r < 0 then false else if nI 8 ≤ r then false else true
theorem far_ok : ∀ p, p < 64 → ∀ d, d < 8 → (if onB (nI (p / 8) + colS d) (nI (p % 8) + rowS d) = true then (nI (p / 8) + colS d) * nI 8 + (nI (p % 8) + rowS d) else -1) = nO (fa p d) := by decide +kernel
def in8 (n : Int32) : Bool := if n < 0 then false else if nI 8 ≤ n then false else true
def in16 (n : Int32) : Bool := if n < 0 then false else if nI 16 ≤ n then false else true
def ispB (k n : Int32) : Bool := if k = nI 0 ∨ k = nI 3 then in8 n else if k = nI 1 ∨ k = nI 2 then in16 n else false
theorem k4_out {k : Int32} (h0 : k ≠ nI 0) (h1 : k ≠ nI 1) (h2 : k ≠ nI 2) (h3 : k ≠ nI 3) : k.toInt < 0 ∨ 3 < k.toInt := by
  rcases Int.lt_or_le k.toInt 0 with q | q
  · exact Or.inl q
  · rcases Int.lt_or_le 3 k.toInt with q2 | q2
    · exact Or.inr q2
    · exfalso
      obtain ⟨j, hj, rfl⟩ := nI_of (x := k) (fun z => by have := Int32.lt_iff_toInt_lt.mp z; have e : (0 : Int32).toInt = 0 := by decide
                                                         rw [e] at this; omega)
      rw [nI_toInt hj] at q2
      have : j = 0 ∨ j = 1 ∨ j = 2 ∨ j = 3 := by omega
      rcases this with rfl | rfl | rfl | rfl
      · exact h0 rfl
      · exact h1 rfl
      · exact h2 rfl
      · exact h3 rfl
set_option maxRecDepth 100000 in
set_option maxHeartbeats 4000000 in
theorem K_X2_isOnBoard (l : Launch) (Y : YG) {h : AH} (c0 r0 : Int32) : MX l Y yX2_isOnBoard cX2_isOnBoard 2 (some .boolean) 0 0 0 0 [.int c0, .int r0] h (pS (some (bI (onB c0 r0))) h) (noX) := by
  refine MX.of (by decide +kernel) (Nat.le_of_ble_eq_true rfl) ?_
  intro p e s m args0 below meth c C hr hout hnm
  refine g_iload_n C dX2_isOnBoard_0 rfl ?_
  refine g_if_lt C (tgt := 24) dX2_isOnBoard_1 (by decide) (fun q1 => ?_) (fun q1 => ?_)
  · refine g_iconst C (v := nI 0) dX2_isOnBoard_24 (by decide) ?_
    exact g_zret C hr (by first | exact Or.inl rfl | exact Or.inr rfl) dX2_isOnBoard_25 (Nat.le_of_ble_eq_true rfl) (Nat.le_of_ble_eq_true rfl) (⟨by rw [show onB c0 r0 = false from by unfold onB; rw [if_pos q1]]; rfl, rfl⟩)
  · refine g_iload_n C dX2_isOnBoard_4 rfl ?_
    refine g_bipush C (v := nI 8) dX2_isOnBoard_5 (by decide) ?_
    refine g_icmp_ge C (tgt := 24) dX2_isOnBoard_7 (by decide) (fun q2 => ?_) (fun q2 => ?_)
    · refine g_iconst C (v := nI 0) dX2_isOnBoard_24 (by decide) ?_
      exact g_zret C hr (by first | exact Or.inl rfl | exact Or.inr rfl) dX2_isOnBoard_25 (Nat.le_of_ble_eq_true rfl) (Nat.le_of_ble_eq_true rfl) (⟨by rw [show onB c0 r0 = false from by unfold onB; rw [if_neg q1, if_pos q2]]; rfl, rfl⟩)
    · refine g_iload_n C dX2_isOnBoard_10 rfl ?_
      refine g_if_lt C (tgt := 24) dX2_isOnBoard_11 (by decide) (fun q3 => ?_) (fun q3 => ?_)
      · refine g_iconst C (v := nI 0) dX2_isOnBoard_24 (by decide) ?_
        exact g_zret C hr (by first | exact Or.inl rfl | exact Or.inr rfl) dX2_isOnBoard_25 (Nat.le_of_ble_eq_true rfl) (Nat.le_of_ble_eq_true rfl) (⟨by rw [show onB c0 r0 = false from by unfold onB; rw [if_neg q1, if_neg q2, if_pos q3]]; rfl, rfl⟩)
      · refine g_iload_n C dX2_isOnBoard_14 rfl ?_
        refine g_bipush C (v := nI 8) dX2_isOnBoard_15 (by decide) ?_
        refine g_icmp_ge C (tgt := 24) dX2_isOnBoard_17 (by decide) (fun q4 => ?_) (fun q4 => ?_)
        · refine g_iconst C (v := nI 0) dX2_isOnBoard_24 (by decide) ?_
          exact g_zret C hr (by first | exact Or.inl rfl | exact Or.inr rfl) dX2_isOnBoard_25 (Nat.le_of_ble_eq_true rfl) (Nat.le_of_ble_eq_true rfl) (⟨by rw [show onB c0 r0 = false from by unfold onB; rw [if_neg q1, if_neg q2, if_neg q3, if_pos q4]]; rfl, rfl⟩)
        · refine g_iconst C (v := nI 1) dX2_isOnBoard_20 (by decide) ?_
          refine g_goto C (tgt := 25) dX2_isOnBoard_21 (by decide) ?_
          exact g_zret C hr (by first | exact Or.inl rfl | exact Or.inr rfl) dX2_isOnBoard_25 (Nat.le_of_ble_eq_true rfl) (Nat.le_of_ble_eq_true rfl) (⟨by rw [show onB c0 r0 = true from by unfold onB; rw [if_neg q1, if_neg q2, if_neg q3, if_neg q4]]; rfl, rfl⟩)
set_option maxRecDepth 100000 in
set_option maxHeartbeats 4000000 in
theorem K_X2_farther (l : Launch) (Y : YG) {h : AH} {w d : Nat} (hw : w < 64) (hd8 : d < 8) : MX l Y yX2_farther cX2_farther 4 (some .int) 1 21 0 0 [.int (nI w), .int (nI d)] h (pS (some (.int (nO (fa w d)))) h) (noX) := by
  refine MX.of (by decide +kernel) (Nat.le_of_ble_eq_true rfl) ?_
  intro p e s m args0 below meth c C hr hout hnm
  refine g_iload_n C dX2_farther_0 rfl ?_
  refine g_if_lt C (tgt := 24) dX2_farther_1 (by decide) (fun q1 => ?_) (fun q1 => ?_)
  · exact absurd q1 (nI_pos (by omega))
  · refine g_iload_n C dX2_farther_4 rfl ?_
    refine g_if_lt C (tgt := 24) dX2_farther_5 (by decide) (fun q2 => ?_) (fun q2 => ?_)
    · exact absurd q2 (nI_pos (by omega))
    · refine g_iload_n C dX2_farther_8 rfl ?_
      refine g_gettab C (tf_col C) w479 dX2_farther_9 (fun ta hta => ?_)
      refine g_tlen C hta dX2_farther_12 ?_
      refine g_icmp_geN C (tgt := 24) dX2_farther_13 (by decide) (by omega) (by omega) (fun q3 => ?_) (fun q3 => ?_)
      · omega
      · refine g_iload_n C dX2_farther_16 rfl ?_
        refine g_gettab C (tf_row C) w481 dX2_farther_17 (fun tb htb => ?_)
        refine g_tlen C htb dX2_farther_20 ?_
        refine g_icmp_ltN C (tgt := 26) dX2_farther_21 (by decide) (by omega) (by omega) (fun q4 => ?_) (fun q4 => ?_)
        · refine g_iload_n C dX2_farther_26 rfl ?_
          refine g_bipush C (v := nI 8) dX2_farther_27 (by decide) ?_
          first | with_reducible refine g_idivN C dX2_farther_29 (by omega) (by decide) ?_ | refine g_idiv C dX2_farther_29 (by decide) ?_
          refine g_gettab C (tf_col C) w479 dX2_farther_30 (fun tc htc => ?_)
          refine g_iload_n C dX2_farther_33 rfl ?_
          refine g_tald C htc rfl hd8 dX2_farther_34 ?_
          first | with_reducible refine g_iaddN C dX2_farther_35 ?_ | refine g_iadd C dX2_farther_35 ?_
          refine g_istore_n C dX2_farther_36 (by decide) ?_
          refine g_iload_n C dX2_farther_37 rfl ?_
          refine g_bipush C (v := nI 8) dX2_farther_38 (by decide) ?_
          first | with_reducible refine g_iremN C dX2_farther_40 (by omega) (by decide) ?_ | refine g_irem C dX2_farther_40 (by decide) ?_
          refine g_gettab C (tf_row C) w481 dX2_farther_41 (fun td htd => ?_)
          refine g_iload_n C dX2_farther_44 rfl ?_
          refine g_tald C htd rfl hd8 dX2_farther_45 ?_
          have ho := far_ok w hw d hd8
          first | with_reducible refine g_iaddN C dX2_farther_46 ?_ | refine g_iadd C dX2_farther_46 ?_
          refine g_istore_n C dX2_farther_47 (by decide) ?_
          refine g_iload_n C dX2_farther_48 rfl ?_
          refine g_iload_n C dX2_farther_49 rfl ?_
          refine g_callS C ((K_X2_isOnBoard l Y (nI (w / 8) + colS d) (nI (w % 8) + rowS d)).K) ok_X2_isOnBoard w405 rfl rfl dX2_farther_50 (Nat.le_of_ble_eq_true rfl) (Nat.le_of_ble_eq_true rfl) (Nat.le_of_ble_eq_true rfl) (Nat.le_of_ble_eq_true rfl) (Nat.le_of_ble_eq_true rfl) (ofS ?_)
          cases hb : onB (nI (w / 8) + colS d) (nI (w % 8) + rowS d)
          · rw [hb, if_neg (by decide)] at ho
            refine g_if_eq C (tgt := 65) dX2_farther_53 (by decide) (fun q => ?_) (fun q => absurd rfl q)
            refine g_iconst C (v := (-1)) dX2_farther_65 (by decide) ?_
            exact g_iret C hr dX2_farther_66 (Nat.le_of_ble_eq_true rfl) (Nat.le_of_ble_eq_true rfl) ⟨by rw [← ho], rfl⟩
          rw [hb, if_pos rfl] at ho
          refine g_if_eq C (tgt := 65) dX2_farther_53 (by decide) (fun q => absurd q (by decide)) (fun q => ?_)
          refine g_iload_n C dX2_farther_56 rfl ?_
          refine g_bipush C (v := nI 8) dX2_farther_57 (by decide) ?_
          first | with_reducible refine g_imulN C dX2_farther_59 ?_ | refine g_imul C dX2_farther_59 ?_
          refine g_iload_n C dX2_farther_60 rfl ?_
          first | with_reducible refine g_iaddN C dX2_farther_61 ?_ | refine g_iadd C dX2_farther_61 ?_
          refine g_goto C (tgt := 66) dX2_farther_62 (by decide) ?_
          exact g_iret C hr dX2_farther_66 (Nat.le_of_ble_eq_true rfl) (Nat.le_of_ble_eq_true rfl) (⟨by rw [← ho], rfl⟩)
        · omega
set_option maxRecDepth 100000 in
set_option maxHeartbeats 4000000 in
theorem K_X2_farther_none (l : Launch) (Y : YG) {h : AH} (d : Nat) : MX l Y yX2_farther cX2_farther 4 (some .int) 1 21 0 0 [.int (-1), .int (nI d)] h (pS (some (.int (-1))) h) (noX) := by
  refine MX.of (by decide +kernel) (Nat.le_of_ble_eq_true rfl) ?_
  intro p e s m args0 below meth c C hr hout hnm
  refine g_iload_n C dX2_farther_0 rfl ?_
  refine g_if_lt C (tgt := 24) dX2_farther_1 (by decide) (fun q1 => ?_) (fun q1 => ?_)
  · refine g_iconst C (v := (-1)) dX2_farther_24 (by decide) ?_
    exact g_iret C hr dX2_farther_25 (Nat.le_of_ble_eq_true rfl) (Nat.le_of_ble_eq_true rfl) (⟨rfl, rfl⟩)
  · exact absurd (by decide) q1
set_option maxRecDepth 100000 in
set_option maxHeartbeats 4000000 in
theorem K_X2_isPaw (l : Launch) (Y : YG) {h : AH} (k0 n0 : Int32) : MX l Y yX2_isPaw cX2_isPaw 2 (some .boolean) 0 0 0 0 [.int k0, .int n0] h (pS (some (bI (ispB k0 n0))) h) (noX) := by
  refine MX.of (by decide +kernel) (Nat.le_of_ble_eq_true rfl) ?_
  intro p e s m args0 below meth c C hr hout hnm
  have a8 : ispB k0 n0 = in8 n0 → Gd p l e (rmO 0 0 0 0) s m args0 below meth c (vx_MQ below (Qk Y (pS (some (bI (ispB k0 n0))) h)) (Xk Y (noX)) args0 s 0 0 Y.A) Y 2 32 [some (.int k0), some (.int n0)] [] h 0 0 := by
    intro he
    refine g_iload_n C dX2_isPaw_32 rfl ?_
    refine g_if_lt C (tgt := 46) dX2_isPaw_33 (by decide) (fun q1 => ?_) (fun q1 => ?_)
    · refine g_iconst C (v := nI 0) dX2_isPaw_46 (by decide) ?_
      exact g_zret C hr (by first | exact Or.inl rfl | exact Or.inr rfl) dX2_isPaw_47 (Nat.le_of_ble_eq_true rfl) (Nat.le_of_ble_eq_true rfl) (⟨by rw [show ispB k0 n0 = false from by rw [he]; unfold in8; rw [if_pos q1]]; rfl, rfl⟩)
    · refine g_iload_n C dX2_isPaw_36 rfl ?_
      refine g_bipush C (v := nI 8) dX2_isPaw_37 (by decide) ?_
      refine g_icmp_ge C (tgt := 46) dX2_isPaw_39 (by decide) (fun q2 => ?_) (fun q2 => ?_)
      · refine g_iconst C (v := nI 0) dX2_isPaw_46 (by decide) ?_
        exact g_zret C hr (by first | exact Or.inl rfl | exact Or.inr rfl) dX2_isPaw_47 (Nat.le_of_ble_eq_true rfl) (Nat.le_of_ble_eq_true rfl) (⟨by rw [show ispB k0 n0 = false from by rw [he]; unfold in8; rw [if_neg q1, if_pos q2]]; rfl, rfl⟩)
      · refine g_iconst C (v := nI 1) dX2_isPaw_42 (by decide) ?_
        refine g_goto C (tgt := 47) dX2_isPaw_43 (by decide) ?_
        exact g_zret C hr (by first | exact Or.inl rfl | exact Or.inr rfl) dX2_isPaw_47 (Nat.le_of_ble_eq_true rfl) (Nat.le_of_ble_eq_true rfl) (⟨by rw [show ispB k0 n0 = true from by rw [he]; unfold in8; rw [if_neg q1, if_neg q2]]; rfl, rfl⟩)
  have a16 : ispB k0 n0 = in16 n0 → Gd p l e (rmO 0 0 0 0) s m args0 below meth c (vx_MQ below (Qk Y (pS (some (bI (ispB k0 n0))) h)) (Xk Y (noX)) args0 s 0 0 Y.A) Y 2 48 [some (.int k0), some (.int n0)] [] h 0 0 := by
    intro he
    refine g_iload_n C dX2_isPaw_48 rfl ?_
    refine g_if_lt C (tgt := 62) dX2_isPaw_49 (by decide) (fun q1 => ?_) (fun q1 => ?_)
    · refine g_iconst C (v := nI 0) dX2_isPaw_62 (by decide) ?_
      exact g_zret C hr (by first | exact Or.inl rfl | exact Or.inr rfl) dX2_isPaw_63 (Nat.le_of_ble_eq_true rfl) (Nat.le_of_ble_eq_true rfl) (⟨by rw [show ispB k0 n0 = false from by rw [he]; unfold in16; rw [if_pos q1]]; rfl, rfl⟩)
    · refine g_iload_n C dX2_isPaw_52 rfl ?_
      refine g_bipush C (v := nI 16) dX2_isPaw_53 (by decide) ?_
      refine g_icmp_ge C (tgt := 62) dX2_isPaw_55 (by decide) (fun q2 => ?_) (fun q2 => ?_)
      · refine g_iconst C (v := nI 0) dX2_isPaw_62 (by decide) ?_
        exact g_zret C hr (by first | exact Or.inl rfl | exact Or.inr rfl) dX2_isPaw_63 (Nat.le_of_ble_eq_true rfl) (Nat.le_of_ble_eq_true rfl) (⟨by rw [show ispB k0 n0 = false from by rw [he]; unfold in16; rw [if_neg q1, if_pos q2]]; rfl, rfl⟩)
      · refine g_iconst C (v := nI 1) dX2_isPaw_58 (by decide) ?_
        refine g_goto C (tgt := 63) dX2_isPaw_59 (by decide) ?_
        exact g_zret C hr (by first | exact Or.inl rfl | exact Or.inr rfl) dX2_isPaw_63 (Nat.le_of_ble_eq_true rfl) (Nat.le_of_ble_eq_true rfl) (⟨by rw [show ispB k0 n0 = true from by rw [he]; unfold in16; rw [if_neg q1, if_neg q2]]; rfl, rfl⟩)
  refine g_iload_n C dX2_isPaw_0 rfl ?_
  by_cases k0_ : k0 = nI 0
  · subst k0_
    refine g_tsIn C (tgt := 32) dX2_isPaw_1 (by decide) (by decide) rfl (by decide) ?_
    exact a8 (by rfl)
  by_cases k1 : k0 = nI 1
  · subst k1
    refine g_tsIn C (tgt := 48) dX2_isPaw_1 (by decide) (by decide) rfl (by decide) ?_
    exact a16 (by rfl)
  by_cases k2 : k0 = nI 2
  · subst k2
    refine g_tsIn C (tgt := 48) dX2_isPaw_1 (by decide) (by decide) rfl (by decide) ?_
    exact a16 (by rfl)
  by_cases k3 : k0 = nI 3
  · subst k3
    refine g_tsIn C (tgt := 32) dX2_isPaw_1 (by decide) (by decide) rfl (by decide) ?_
    exact a8 (by rfl)
  refine g_tsOut C (tgt := 64) dX2_isPaw_1 (k4_out k0_ k1 k2 k3) (by decide) ?_
  refine g_iconst C (v := nI 0) dX2_isPaw_64 (by decide) ?_
  exact g_zret C hr (by first | exact Or.inl rfl | exact Or.inr rfl) dX2_isPaw_65 (Nat.le_of_ble_eq_true rfl) (Nat.le_of_ble_eq_true rfl) (⟨by rw [show ispB k0 n0 = false from by unfold ispB; rw [if_neg (fun z => z.elim k0_ k3), if_neg (fun z => z.elim k1 k2)]]; rfl, rfl⟩)
set_option maxRecDepth 100000 in
set_option maxHeartbeats 4000000 in
theorem K_X2_boardPlace (l : Launch) (Y : YG) (hfl : l.stackTraces = false) {h : AH} (c0 r0 : Int32) : MX l Y yX2_boardPlace cX2_boardPlace 2 (some .int) 6 90 1 6 [.int c0, .int r0] h (fun v h2 => onB c0 r0 = true ∧ v = some (.int (c0 * nI 8 + r0)) ∧ h2 = h) (fun E h2 => onB c0 r0 = false ∧ E = sIA ∧ h2 = h) := by
  refine MX.of (by decide +kernel) (Nat.le_of_ble_eq_true rfl) ?_
  intro p e s m args0 below meth c C hr hout hnm
  refine g_iload_n C dX2_boardPlace_0 rfl ?_
  refine g_iload_n C dX2_boardPlace_1 rfl ?_
  refine g_callS C ((K_X2_isOnBoard l Y c0 r0).K) ok_X2_isOnBoard w405 rfl rfl dX2_boardPlace_2 (Nat.le_of_ble_eq_true rfl) (Nat.le_of_ble_eq_true rfl) (Nat.le_of_ble_eq_true rfl) (Nat.le_of_ble_eq_true rfl) (Nat.le_of_ble_eq_true rfl) (ofS ?_)
  refine g_if_neB C (tgt := 18) dX2_boardPlace_5 (by decide) (fun q1 => ?_) (fun q1 => ?_)
  · refine g_iload_n C dX2_boardPlace_18 rfl ?_
    refine g_bipush C (v := nI 8) dX2_boardPlace_19 (by decide) ?_
    first | with_reducible refine g_imulN C dX2_boardPlace_21 ?_ | refine g_imul C dX2_boardPlace_21 ?_
    refine g_iload_n C dX2_boardPlace_22 rfl ?_
    first | with_reducible refine g_iaddN C dX2_boardPlace_23 ?_ | refine g_iadd C dX2_boardPlace_23 ?_
    exact g_iret C hr dX2_boardPlace_24 (Nat.le_of_ble_eq_true rfl) (Nat.le_of_ble_eq_true rfl) (⟨q1, rfl, rfl⟩)
  · exact g_throwS C hfl hout okT_219 (tf_ca_IllegalArgumentException C) (tf_s232 C) dX2_boardPlace_8 dX2_boardPlace_11 dX2_boardPlace_12 dX2_boardPlace_14 dX2_boardPlace_17 (Nat.le_of_ble_eq_true rfl) (Nat.le_of_ble_eq_true rfl) (Nat.le_of_ble_eq_true rfl) (Nat.le_of_ble_eq_true rfl)  (Nat.le_of_ble_eq_true rfl) (Nat.le_of_ble_eq_true rfl) (⟨q1, rfl, rfl⟩)
set_option maxRecDepth 100000 in
set_option maxHeartbeats 4000000 in
theorem K_X2_checkMany (l : Launch) (Y : YG) (hfl : l.stackTraces = false) {h : AH} (m0 : Int32) : MX l Y yX2_checkMany cX2_checkMany 1 none 6 90 1 6 [.int m0] h (fun v h2 => (nI 1 ≤ m0 ∧ m0 ≤ nI 60) ∧ v = none ∧ h2 = h) (fun E h2 => ¬ (nI 1 ≤ m0 ∧ m0 ≤ nI 60) ∧ E = sIA ∧ h2 = h) := by
  refine MX.of (by decide +kernel) (Nat.le_of_ble_eq_true rfl) ?_
  intro p e s m args0 below meth c C hr hout hnm
  refine g_iload_n C dX2_checkMany_0 rfl ?_
  refine g_iconst C (v := nI 1) dX2_checkMany_1 (by decide) ?_
  refine g_icmp_lt C (tgt := 11) dX2_checkMany_2 (by decide) (fun q1 => ?_) (fun q1 => ?_)
  · exact g_throwS C hfl hout okT_219 (tf_ca_IllegalArgumentException C) (tf_s227 C) dX2_checkMany_11 dX2_checkMany_14 dX2_checkMany_15 dX2_checkMany_17 dX2_checkMany_20 (Nat.le_of_ble_eq_true rfl) (Nat.le_of_ble_eq_true rfl) (Nat.le_of_ble_eq_true rfl) (Nat.le_of_ble_eq_true rfl)  (Nat.le_of_ble_eq_true rfl) (Nat.le_of_ble_eq_true rfl) (⟨fun z => absurd z.1 (Int32.not_le.mpr q1), rfl, rfl⟩)
  · refine g_iload_n C dX2_checkMany_5 rfl ?_
    refine g_bipush C (v := nI 60) dX2_checkMany_6 (by decide) ?_
    refine g_icmp_le C (tgt := 21) dX2_checkMany_8 (by decide) (fun q2 => ?_) (fun q2 => ?_)
    · exact g_vret C hr dX2_checkMany_21 (Nat.le_of_ble_eq_true rfl) (Nat.le_of_ble_eq_true rfl) (⟨⟨Int32.not_lt.mp q1, q2⟩, rfl, rfl⟩)
    · exact g_throwS C hfl hout okT_219 (tf_ca_IllegalArgumentException C) (tf_s227 C) dX2_checkMany_11 dX2_checkMany_14 dX2_checkMany_15 dX2_checkMany_17 dX2_checkMany_20 (Nat.le_of_ble_eq_true rfl) (Nat.le_of_ble_eq_true rfl) (Nat.le_of_ble_eq_true rfl) (Nat.le_of_ble_eq_true rfl)  (Nat.le_of_ble_eq_true rfl) (Nat.le_of_ble_eq_true rfl) (⟨fun z => q2 z.2, rfl, rfl⟩)
set_option maxRecDepth 100000 in
set_option maxHeartbeats 4000000 in
theorem K_X2_mixed (l : Launch) (Y : YG) {h : AH} (a b : Int64) : MX l Y yX2_mixed cX2_mixed 4 (some .long) 0 0 0 0 [.long a, .long b] h (pS (some (.long (a * 31 + b))) h) (noX) := by
  refine MX.of (by decide +kernel) (Nat.le_of_ble_eq_true rfl) ?_
  intro p e s m args0 below meth c C hr hout hnm
  refine g_lload_n C dX2_mixed_0 rfl ?_
  refine g_ldc2 C dX2_mixed_1 w277 ?_
  refine g_lmul C dX2_mixed_4 ?_
  refine g_lload_n C dX2_mixed_5 rfl ?_
  refine g_ladd C dX2_mixed_6 ?_
  exact g_lret C hr dX2_mixed_7 (Nat.le_of_ble_eq_true rfl) (Nat.le_of_ble_eq_true rfl) (⟨rfl, rfl⟩)
end
