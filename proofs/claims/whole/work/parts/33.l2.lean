theorem lg_self (a : Int64) : lg_cmp a a = 0 := by
  unfold lg_cmp
  simp
theorem RepM.frK {Y : YG} {x : Nat} {th : Int32} {ar : Nat → Nat} {f : Nat → Nat → Int32} {g : Sg} {h h2 : AH} (r : RepM Y x th ar f g h) (hF : FrK h h2) : RepM Y x th ar f g h2 := ⟨hF _ _ r.x rfl, ⟨fun k hk => hF _ _ (r.2.1.1 k hk) rfl, r.2.1.2⟩, r.2.2⟩
def kdE : va_E → Nat
  | .inl (_, _, .inl _) => 0
  | .inl (_, _, .inr (.inl _)) => 1
  | .inl (_, _, .inr (.inr _)) => 2
  | .inr (n, _) => 3 + n
theorem ne_kd {h : AH} {a b : Nat} {e1 e2 : va_E} (ha : h a = some e1) (hb : h b = some e2) (hne : kdE e1 ≠ kdE e2) : a ≠ b := ne_of ha hb (fun z => hne (by rw [z]))
theorem RepM.hupJ {Y : YG} {x ob : Nat} {th : Int32} {ar : Nat → Nat} {f : Nat → Nat → Int32} {g : Sg} {h : AH} {fo fo2 : Nat → Int64} (r : RepM Y x th ar f g h) (ho : h ob = some (aJ Y 1 fo)) : RepM Y x th ar f g (hup h ob (aJ Y 1 fo2)) :=
  ⟨(hup_ne (ne_kd r.x ho (by show 7 ≠ 1; decide))).trans r.x, ⟨fun k hk => (hup_ne (ne_kd (r.2.1.1 k hk) ho (by show 0 ≠ 1; decide))).trans (r.2.1.1 k hk), r.2.1.2⟩, r.2.2⟩
/-- the class's part of the heap lives through what its cells live through -/
theorem RepC.mv {Y : YG} {x : Nat} {v : Vw} {g : Sg} {Z : Nat → Prop} {h h2 : AH} (r : RepC Y x v g Z h) (hm : ∀ a e, h a = some e → (kdE e = 2 ∨ kdE e = 3 ∨ kdE e = 4 ∨ kdE e = 5 ∨ kdE e = 6 ∨ (kdE e = 0 ∧ ¬ Z a)) → h2 a = some e) : RepC Y x v g Z h2 :=
  ⟨hm _ _ r.x (by right; right; right; right; left; rfl), hm _ _ r.t (by right; left; rfl), hm _ _ r.d (by left; rfl), r.cap, fun _ hi => r.fd hi, fun _ hi => hm _ _ (r.ev hi) (by right; right; left; rfl), fun _ hi => hm _ _ (r.sc hi) (by right; right; right; left; rfl), fun _ hi => hm _ _ (r.pl hi) (by right; right; right; right; right; exact ⟨rfl, r.z hi⟩), fun _ _ hi hq => r.fp hi hq, fun _ _ hi hj e => r.inj hi hj e, fun _ hi => r.z hi⟩
theorem RepC.hupJ {Y : YG} {x ob : Nat} {v : Vw} {g : Sg} {Z : Nat → Prop} {h : AH} {fo fo2 : Nat → Int64} (r : RepC Y x v g Z h) (ho : h ob = some (aJ Y 1 fo)) : RepC Y x v g Z (hup h ob (aJ Y 1 fo2)) := r.mv (fun a e ha hk => (hup_ne (ne_kd ha ho (by
  show kdE e ≠ 1
  omega))).trans ha)
def ZM (ar : Nat → Nat) : Nat → Prop := fun a => ∃ k, k < 7 ∧ a = ar k
theorem ZM.h {Y : YG} {x : Nat} {th : Int32} {ar : Nat → Nat} {f : Nat → Nat → Int32} {g : Sg} {h : AH} (r : RepM Y x th ar f g h) : ∀ a, ZM ar a → h a ≠ none := fun a ⟨k, hk, ha⟩ hz => by
  rw [ha, r.2.1.1 k hk] at hz
  cases hz
theorem RepC.frM {Y : YG} {x mm : Nat} {th : Int32} {ar : Nat → Nat} {f : Nat → Nat → Int32} {v : Vw} {g g0 : Sg} {h h2 : AH} (r : RepC Y x v g (ZM ar) h) (rM : RepM Y mm th ar f g0 h) (hF : FrM mm ar h h2) : RepC Y x v g (ZM ar) h2 := r.mv (fun a e ha hk => hF a e ha (ne_kd ha rM.x (by show kdE e ≠ 7; omega)) (fun k hk7 => by
  rcases hk with z | z | z | z | z | ⟨z1, z2⟩
  · exact ne_kd ha (rM.2.1.1 k hk7) (by show kdE e ≠ 0; omega)
  · exact ne_kd ha (rM.2.1.1 k hk7) (by show kdE e ≠ 0; omega)
  · exact ne_kd ha (rM.2.1.1 k hk7) (by show kdE e ≠ 0; omega)
  · exact ne_kd ha (rM.2.1.1 k hk7) (by show kdE e ≠ 0; omega)
  · exact ne_kd ha (rM.2.1.1 k hk7) (by show kdE e ≠ 0; omega)
  · exact fun q => z2 ⟨k, hk7, q⟩))
theorem ob_frM {Y : YG} {mm ob : Nat} {th : Int32} {ar : Nat → Nat} {f : Nat → Nat → Int32} {g0 : Sg} {h h2 : AH} {fo : Nat → Int64} (rM : RepM Y mm th ar f g0 h) (hF : FrM mm ar h h2) (ho : h ob = some (aJ Y 1 fo)) : h2 ob = some (aJ Y 1 fo) := hF _ _ ho (ne_kd ho rM.x (by show 1 ≠ 7; decide)) (fun k hk => ne_kd ho (rM.2.1.1 k hk) (by show 1 ≠ 0; decide))
/-- what holds at the head of the law's loop -/
def LwI (Y : YG) (x mm ob : Nat) (g : Sg) (h : AH) : Prop := Inv g ∧ ∃ (v : Vw) (ar : Nat → Nat) (f : Nat → Nat → Int32) (th : Int32) (fo : Nat → Int64), RepC Y x v g (ZM ar) h ∧ RepM Y mm th ar f g h ∧ h ob = some (aJ Y 1 fo)
abbrev LL (b x mm ob i : Nat) (w5 w6 w7 w8 : Option Value) : List (Option Value) := [some (.ref b), some (.ref x), some (.ref mm), some (.ref ob), some (.int (nI (3 * i))), w5, w6, w7, w8]
theorem qR_inv {g : Sg} (iv : Inv g) (o : Option Int32) : Inv (qR g o).2.2 := by cases o <;> exact iv
theorem set_inv {g : Sg} (iv : Inv g) (c0 r0 : Int32) : Inv (rSet g c0 r0).2.2 := by
  unfold rSet
  split
  · rename_i hb
    obtain ⟨w, hw, e1, e2⟩ := onB_N hb
    split
    · rename_i hc
      show Inv (stSet g _)
      rw [e2]
      exact inv_set iv hw hc.1 hc.2.1
    · exact iv
  · exact iv
theorem paw_inv {g : Sg} (iv : Inv g) (k0 n0 : Int32) : Inv (rPaw g k0 n0).2.2 := by
  unfold rPaw
  split
  · cases hz : pawO g k0 n0 with
    | none => exact iv
    | some z =>
      by_cases hn : g.n < 60
      · show Inv (if g.n < 60 then (nI 0, nI g.n, stPaw g k0 n0 z) else (nI 2, nI 0, g)).2.2
        rw [if_pos hn]
        exact inv_paw iv (pawO_ok iv hz) hn
      · show Inv (if g.n < 60 then (nI 0, nI g.n, stPaw g k0 n0 z) else (nI 2, nI 0, g)).2.2
        rw [if_neg hn]
        exact iv
  · exact iv
theorem undo_inv {g : Sg} (iv : Inv g) (m0 : Int32) : Inv (rUndo g m0).2.2 := by
  unfold rUndo
  split
  · split
    · exact inv_up iv (up_an iv.tr _ _)
    · exact iv
  · exact iv
theorem redo_inv {g : Sg} (iv : Inv g) (m0 : Int32) : Inv (rRedo g m0).2.2 := by
  unfold rRedo
  split
  · cases hz : reF g.last m0.toNatClampNeg g.now with
    | none => exact iv
    | some a => exact re_inv iv _ hz
  · exact iv
theorem go_inv {g : Sg} (iv : Inv g) (i : Int32) : Inv (rGo g i).2.2 := by
  unfold rGo
  cases hz : idx g.n i with
  | none => exact iv
  | some j => exact inv_go iv (idx_lt (by have := iv.n60; omega) hz).1
section GD
variable {p : Program} {l : Launch} {e : Env} {R : Room} {s : State} {m : MethodId} {args : Array Value} {below : List Frame} {meth : Method} {c : Code} {Q : State → Prop} {Y : YG} {nL : Nat} {cc : ByteArray} {own : String} {pc : Nat} {lv : List (Option Value)} {st : List Value} {h : AH} {k n : Nat}
theorem g_sld (C : Cx p s m args meth c Y cc nL own) {b L j : Nat} {xs : Nat → Int32} (hX : va_X b L xs s s.heap) (hbl : b < s.heap.size) (hbA : ¬ Y.A b) {i : Int32} (hi : i = nI j) (hj : j < L) (hL : L < 2 ^ 31) (hd : decode cc pc = .ok (.iaload, 1)) (kk : Gd p l e R s m args below meth c Q Y nL (pc + 1) lv (.int (xs j) :: st) h k n) : Gd p l e R s m args below meth c Q Y nL pc lv (.int i :: .ref b :: st) h k n := by
  subst hi
  obtain ⟨hx, hb, hml, hown, hts, hK, -, hA, -⟩ := C
  intro H locs ls hc hS hl
  refine va_sld hx hb hX hbl hbA hS ?_ hd ?_
  · rintro (q | q)
    · exact absurd q (nI_pos (by omega))
    · rw [nI_clamp (by omega)] at q
      omega
  · rw [nI_clamp (by omega)]
    exact kk H locs ls hc hS hl
theorem g_slen (C : Cx p s m args meth c Y cc nL own) {b L : Nat} {xs : Nat → Int32} (hX : va_X b L xs s s.heap) (hbl : b < s.heap.size) (hbA : ¬ Y.A b) (hd : decode cc pc = .ok (.arraylength, 1)) (kk : Gd p l e R s m args below meth c Q Y nL (pc + 1) lv (.int (nI L) :: st) h k n) : Gd p l e R s m args below meth c Q Y nL pc lv (.ref b :: st) h k n := by
  obtain ⟨hx, hb, hml, hown, hts, hK, -, hA, -⟩ := C
  intro H locs ls hc hS hl
  exact va_slen hx hb hX hbl hbA hS hd (kk H locs ls hc hS hl)
theorem g_widen {k2 n2 : Nat} (h1 : k ≤ k2) (h2 : n ≤ n2) (kk : Gd p l e R s m args below meth c Q Y nL pc lv st h k2 n2) : Gd p l e R s m args below meth c Q Y nL pc lv st h k n := fun H locs ls hc hS hl => W.widen h1 h2 (kk H locs ls hc hS hl)
end GD
/-- any int's lowest five bits -/
theorem and31 (w : Int32) : ∃ n, n < 32 ∧ w &&& nI 31 = nI n := by
  refine ⟨(w.toBitVec &&& 31#32).toNat, ?_, ?_⟩
  · rw [BitVec.toNat_and]
    exact Nat.lt_succ_of_le (Nat.le_trans Nat.and_le_right (by decide))
  · apply Int32.toBitVec_inj.1
    show w.toBitVec &&& 31#32 = BitVec.ofNat 32 _
    rw [BitVec.ofNat_toNat]
    simp
theorem guard_ok {L k : Nat} (hL : L ≤ 1536) (hk : k ≤ 4000) (h : ¬ nI L - nI 3 < nI k) : k + 3 ≤ L := by
  rcases Nat.lt_or_ge L 3 with q | q
  · exfalso
    have e : (nI L - nI 3).toInt = (L : Int) - 3 := by
      have : L = 0 ∨ L = 1 ∨ L = 2 := by omega
      rcases this with rfl | rfl | rfl <;> decide
    exact h (Int32.lt_iff_toInt_lt.mpr (by rw [e, nI_toInt (by omega)]; omega))
  · rw [pk_sub q] at h
    have h2 : ¬ L - 3 < k := fun z => h ((nI_ltI (by omega) (by omega)).mpr z)
    omega
theorem D_placeOf (l : Launch) (Y : YG) {x : Nat} {th : Int32} {ar : Nat → Nat} {f : Nat → Nat → Int32} {g : Sg} {h : AH} (r : RepM Y x th ar f g h) (iv : Inv g) (i : Int32) : MX l Y yX3_placeOf cX3_placeOf 2 (some .int) 2 44 0 0 [.ref x, .int i] h (pMu Y x ar h (qR g ((idx g.np i).map (fun q => nI (g.pos g.now q))))) noX := MX.mq r (K_X3_placeOf l Y r iv i)
theorem D_lies (l : Launch) (Y : YG) {x : Nat} {th : Int32} {ar : Nat → Nat} {f : Nat → Nat → Int32} {g : Sg} {h : AH} (r : RepM Y x th ar f g h) (iv : Inv g) (i : Int32) : MX l Y yX3_lies cX3_lies 2 (some .boolean) 2 44 0 0 [.ref x, .int i] h (pMu Y x ar h (qR g ((idx g.np i).map (fun q => if (g.lb g.now).testBit q then 1 else 0)))) noX := MX.mq r (K_X3_lies l Y r iv i)
theorem D_pieceAt (l : Launch) (Y : YG) {x : Nat} {th : Int32} {ar : Nat → Nat} {f : Nat → Nat → Int32} {g : Sg} {h : AH} (r : RepM Y x th ar f g h) (iv : Inv g) (i j : Int32) : MX l Y yX3_pieceAt cX3_pieceAt 3 (some .int) 3 66 0 0 [.ref x, .int i, .int j] h (pMu Y x ar h (qR g (if onB i j = true then some (nO (pon (g.pos g.now) ((i * nI 8 + j).toNatClampNeg) g.np 0)) else none))) noX := MX.mq r (K_X3_pieceAt l Y r iv i j)
theorem D_hangsOn (l : Launch) (Y : YG) {x : Nat} {th : Int32} {ar : Nat → Nat} {f : Nat → Nat → Int32} {g : Sg} {h : AH} (r : RepM Y x th ar f g h) (iv : Inv g) (i : Int32) : MX l Y yX3_hangsOn cX3_hangsOn 2 (some .int) 3 65 0 0 [.ref x, .int i] h (pMu Y x ar h (qR g ((idx g.n i).map (fun j => nO (parO g j))))) noX := MX.mq r (K_X3_hangsOn l Y r iv i)
theorem D_kindOf (l : Launch) (Y : YG) {x : Nat} {th : Int32} {ar : Nat → Nat} {f : Nat → Nat → Int32} {g : Sg} {h : AH} (r : RepM Y x th ar f g h) (iv : Inv g) (i : Int32) : MX l Y yX3_kindOf cX3_kindOf 2 (some .int) 3 65 0 0 [.ref x, .int i] h (pMu Y x ar h (qR g ((idx g.n i).map (fun j => g.kd j)))) noX := MX.mq r (K_X3_kindOf l Y r iv i)
theorem D_numberOf (l : Launch) (Y : YG) {x : Nat} {th : Int32} {ar : Nat → Nat} {f : Nat → Nat → Int32} {g : Sg} {h : AH} (r : RepM Y x th ar f g h) (iv : Inv g) (i : Int32) : MX l Y yX3_numberOf cX3_numberOf 2 (some .int) 3 65 0 0 [.ref x, .int i] h (pMu Y x ar h (qR g ((idx g.n i).map (fun j => g.nm j)))) noX := MX.mq r (K_X3_numberOf l Y r iv i)
theorem D_depthOf (l : Launch) (Y : YG) {x : Nat} {th : Int32} {ar : Nat → Nat} {f : Nat → Nat → Int32} {g : Sg} {h : AH} (r : RepM Y x th ar f g h) (iv : Inv g) (i : Int32) : MX l Y yX3_depthOf cX3_depthOf 2 (some .int) 3 65 0 0 [.ref x, .int i] h (pMu Y x ar h (qR g ((idx g.n i).map (fun j => nI (g.dp j))))) noX := MX.mq r (K_X3_depthOf l Y r iv i)
theorem D_branches (l : Launch) (Y : YG) {x : Nat} {th : Int32} {ar : Nat → Nat} {f : Nat → Nat → Int32} {g : Sg} {h : AH} (r : RepM Y x th ar f g h) (iv : Inv g) (i : Int32) : MX l Y yX3_branches cX3_branches 2 (some .int) 2 43 0 0 [.ref x, .int i] h (pMu Y x ar h (qR g ((idx g.n i).map (fun j => nI (chN g.par g.n j))))) noX := MX.mq r (K_X3_branches l Y r iv i)
theorem D_behind (l : Launch) (Y : YG) {x : Nat} {th : Int32} {ar : Nat → Nat} {f : Nat → Nat → Int32} {g : Sg} {h : AH} (r : RepM Y x th ar f g h) (iv : Inv g) (i : Int32) : MX l Y yX3_behind cX3_behind 2 (some .int) 2 47 0 0 [.ref x, .int i] h (pMu Y x ar h (qR g ((idx g.n i).map (fun j => nI (dsN g.par g.n j))))) noX := MX.mq r (K_X3_behind l Y r iv i)
theorem D_again (l : Launch) (Y : YG) {x : Nat} {th : Int32} {ar : Nat → Nat} {f : Nat → Nat → Int32} {g : Sg} {h : AH} (r : RepM Y x th ar f g h) (iv : Inv g) (i : Int32) : MX l Y yX3_again cX3_again 2 (some .int) 3 65 0 0 [.ref x, .int i] h (pMu Y x ar h (qR g ((idx g.n i).map (fun j => nO (g.last j))))) noX := MX.mq r (K_X3_again l Y r iv i)
theorem D_meet (l : Launch) (Y : YG) {x : Nat} {th : Int32} {ar : Nat → Nat} {f : Nat → Nat → Int32} {g : Sg} {h : AH} (r : RepM Y x th ar f g h) (iv : Inv g) (i j : Int32) : MX l Y yX3_meet cX3_meet 3 (some .int) 2 43 0 0 [.ref x, .int i, .int j] h (pMu Y x ar h (qR g ((idx g.n i).bind (fun a => (idx g.n j).map (fun b => nI (lc g.par a b)))))) noX := MX.mq r (K_X3_meet l Y r iv i j)
theorem D_apart (l : Launch) (Y : YG) {x : Nat} {th : Int32} {ar : Nat → Nat} {f : Nat → Nat → Int32} {g : Sg} {h : AH} (r : RepM Y x th ar f g h) (iv : Inv g) (i j : Int32) : MX l Y yX3_apart cX3_apart 3 (some .int) 2 46 0 0 [.ref x, .int i, .int j] h (pMu Y x ar h (qR g ((idx g.n i).bind (fun a => (idx g.n j).map (fun b => nI (wy g a b)))))) noX := MX.mq r (K_X3_apart l Y r iv i j)
theorem D_placeIn (l : Launch) (Y : YG) {x : Nat} {th : Int32} {ar : Nat → Nat} {f : Nat → Nat → Int32} {g : Sg} {h : AH} (r : RepM Y x th ar f g h) (iv : Inv g) (i j : Int32) : MX l Y yX3_placeIn cX3_placeIn 3 (some .int) 2 44 0 0 [.ref x, .int i, .int j] h (pMu Y x ar h (qR g ((idx g.n i).bind (fun a => (idx g.np j).map (fun q => nI (g.pos a q + if (g.lb a).testBit q then 100 else 0)))))) noX := MX.mq r (K_X3_placeIn l Y r iv i j)
theorem D_lyingIn (l : Launch) (Y : YG) {x : Nat} {th : Int32} {ar : Nat → Nat} {f : Nat → Nat → Int32} {g : Sg} {h : AH} (r : RepM Y x th ar f g h) (iv : Inv g) (i : Int32) : MX l Y yX3_lyingIn cX3_lyingIn 2 (some .int) 3 68 0 0 [.ref x, .int i] h (pMu Y x ar h (qR g ((idx g.n i).map (fun j => nI (lyN g j))))) noX := MX.mq r (K_X3_lyingIn l Y r iv i)
theorem D_areAlike (l : Launch) (Y : YG) {x : Nat} {th : Int32} {ar : Nat → Nat} {f : Nat → Nat → Int32} {g : Sg} {h : AH} (r : RepM Y x th ar f g h) (iv : Inv g) (i j : Int32) : MX l Y yX3_areAlike cX3_areAlike 3 (some .boolean) 2 45 0 0 [.ref x, .int i, .int j] h (pMu Y x ar h (qR g ((idx g.n i).bind (fun a => (idx g.n j).map (fun b => (if lkB g a b then 1 else 0)))))) noX := MX.mq r (K_X3_areAlike l Y r iv i j)
theorem D_canDo (l : Launch) (Y : YG) {x : Nat} {th : Int32} {ar : Nat → Nat} {f : Nat → Nat → Int32} {g : Sg} {h : AH} (r : RepM Y x th ar f g h) (iv : Inv g) (i j : Int32) : MX l Y yX3_canDo cX3_canDo 3 (some .boolean) 5 112 0 0 [.ref x, .int i, .int j] h (pMu Y x ar h (qR g (cdO g i j))) noX := MX.mc (K_X3_canDo l Y r iv i j)
theorem D_setPiece (l : Launch) (Y : YG) {x : Nat} {th : Int32} {ar : Nat → Nat} {f : Nat → Nat → Int32} {g : Sg} {h : AH} (r : RepM Y x th ar f g h) (iv : Inv g) (i j : Int32) : MX l Y yX3_setPiece cX3_setPiece 4 (some .int) 3 66 0 0 [.ref x, .int i, .int j] h (pMu Y x ar h (rSet g i j)) noX := K_X3_setPiece l Y r iv i j
theorem D_paw (l : Launch) (Y : YG) {x : Nat} {th : Int32} {ar : Nat → Nat} {f : Nat → Nat → Int32} {g : Sg} {h : AH} (r : RepM Y x th ar f g h) (iv : Inv g) (i j : Int32) : MX l Y yX3_paw cX3_paw 3 (some .int) 5 112 0 0 [.ref x, .int i, .int j] h (pMu Y x ar h (rPaw g i j)) noX := K_X3_paw l Y r iv i j
theorem D_undo (l : Launch) (Y : YG) {x : Nat} {th : Int32} {ar : Nat → Nat} {f : Nat → Nat → Int32} {g : Sg} {h : AH} (r : RepM Y x th ar f g h) (iv : Inv g) (i : Int32) : MX l Y yX3_undo cX3_undo 3 (some .int) 1 22 0 0 [.ref x, .int i] h (pMu Y x ar h (rUndo g i)) noX := K_X3_undo l Y r iv i
theorem D_redo (l : Launch) (Y : YG) {x : Nat} {th : Int32} {ar : Nat → Nat} {f : Nat → Nat → Int32} {g : Sg} {h : AH} (r : RepM Y x th ar f g h) (iv : Inv g) (i : Int32) : MX l Y yX3_redo cX3_redo 4 (some .int) 1 22 0 0 [.ref x, .int i] h (pMu Y x ar h (rRedo g i)) noX := K_X3_redo l Y r iv i
theorem D_goTo (l : Launch) (Y : YG) {x : Nat} {th : Int32} {ar : Nat → Nat} {f : Nat → Nat → Int32} {g : Sg} {h : AH} (r : RepM Y x th ar f g h) (iv : Inv g) (i : Int32) : MX l Y yX3_goTo cX3_goTo 5 (some .int) 2 46 0 0 [.ref x, .int i] h (pMu Y x ar h (rGo g i)) noX := K_X3_goTo l Y r iv i
set_option maxRecDepth 100000 in
set_option maxHeartbeats 4000000 in
theorem LC_setPiece {p : Program} {l : Launch} {e : Env} {s : State} {m : MethodId} {args : Array Value} {below : List Frame} {meth : Method} {c : Code} {Q : State → Prop} {Y : YG} (C : Cx p s m args meth c Y cL_law 9 RL) (hfl : l.stackTraces = false) {b L : Nat} {xs : Nat → Int32} (hX : va_X b L xs s s.heap) (hbl : b < s.heap.size) (hbA : ¬ Y.A b) (hL : L ≤ 1536) {i x mm ob : Nat} {g : Sg} {h : AH} {kk nn : Nat} {w5 w6 w7 w8 : Option Value} (hi : 3 * i + 3 ≤ L) (I : LwI Y x mm ob g h) (hk : kk + 61 ≤ 601024) (hn : nn + 608 ≤ 7293034) (cont : ∀ (g2 : Sg) (h2 : AH) (k2 n2 : Nat) (u5 u6 u7 u8 : Option Value), LwI Y x mm ob g2 h2 → k2 ≤ kk + 61 → n2 ≤ nn + 608 → Gd p l e room_1 s m args below meth c Q Y 9 1628 (LL b x mm ob i u5 u6 u7 u8) [] h2 k2 n2) : Gd p l e room_1 s m args below meth c Q Y 9 176 (LL b x mm ob i w5 w6 w7 w8) [] h kk nn := by
  obtain ⟨iv, v, ar, f, th, fo, rC, rM, ho⟩ := I
  refine g_aload_n C dL_law_176 rfl (by first | rfl | exact isR_rf _) ?_
  refine g_aload_n C dL_law_177 rfl (by first | rfl | exact isR_rf _) ?_
  refine g_iload C dL_law_178 rfl ?_
  refine g_iconst C (v := nI 1) dL_law_180 (by decide) ?_
  first | with_reducible refine g_iaddN C dL_law_181 ?_ | refine g_iadd C dL_law_181 ?_
  refine g_sld C hX hbl hbA rfl (show 3 * i + 1 < L by omega) (by omega) dL_law_182 ?_
  refine g_aload_n C dL_law_183 rfl (by first | rfl | exact isR_rf _) ?_
  refine g_iload C dL_law_184 rfl ?_
  refine g_iconst C (v := nI 2) dL_law_186 (by decide) ?_
  first | with_reducible refine g_iaddN C dL_law_187 ?_ | refine g_iadd C dL_law_187 ?_
  refine g_sld C hX hbl hbA rfl (show 3 * i + 2 < L by omega) (by omega) dL_law_188 ?_
  refine g_aload_n C dL_law_189 rfl (by first | rfl | exact isR_rf _) ?_
  refine g_callSW (na := 4) C (W_setPiece l Y hfl rC iv (ZM.h rM) ho _ _) w394 w0 w395 (by exact ⟨by decide, by decide, by decide +kernel⟩) w393 rfl rfl dL_law_190 (Nat.le_of_ble_eq_true rfl) (Nat.le_of_ble_eq_true rfl) (Nat.le_of_ble_eq_true rfl) (by show _ ≤ 601024; omega) (by show _ ≤ 7293034; omega) (fun vv h2 e2 => ?_)
  obtain ⟨rfl, h1, fo2, ⟨⟨v2, rC1⟩, hFK⟩, rfl, hfo⟩ := e2
  have ho1 := hFK _ _ ho rfl
  have rM2 := (rM.frK hFK).hupJ (fo2 := fo2) ho1
  have rC2 := rC1.hupJ (fo2 := fo2) ho1
  refine g_istore C dL_law_193 (by decide) ?_
  refine g_aload_n C dL_law_195 rfl (by first | rfl | exact isR_rf _) ?_
  refine g_aload_n C dL_law_196 rfl (by first | rfl | exact isR_rf _) ?_
  refine g_iload C dL_law_197 rfl ?_
  refine g_iconst C (v := nI 1) dL_law_199 (by decide) ?_
  first | with_reducible refine g_iaddN C dL_law_200 ?_ | refine g_iadd C dL_law_200 ?_
  refine g_sld C hX hbl hbA rfl (show 3 * i + 1 < L by omega) (by omega) dL_law_201 ?_
  refine g_aload_n C dL_law_202 rfl (by first | rfl | exact isR_rf _) ?_
  refine g_iload C dL_law_203 rfl ?_
  refine g_iconst C (v := nI 2) dL_law_205 (by decide) ?_
  first | with_reducible refine g_iaddN C dL_law_206 ?_ | refine g_iadd C dL_law_206 ?_
  refine g_sld C hX hbl hbA rfl (show 3 * i + 2 < L by omega) (by omega) dL_law_207 ?_
  refine g_callV C ((D_setPiece l Y rM2 iv _ _).K) ok_X3_setPiece w708 (rM2.x) rfl rfl rfl dL_law_208 (Nat.le_of_ble_eq_true rfl) (Nat.le_of_ble_eq_true rfl) (Nat.le_of_ble_eq_true rfl) (by show _ ≤ 601024; omega) (by show _ ≤ 7293034; omega) (fun vv h3 e3 => ?_)
  obtain ⟨rfl, f3, rM3, hFM⟩ := e3
  have rC3 := rC2.frM rM2 hFM
  have ho3 := ob_frM rM2 hFM hup_eq
  refine g_istore C dL_law_211 (by decide) ?_
  refine g_aload_n C dL_law_213 rfl (by first | rfl | exact isR_rf _) ?_
  refine g_callV C ((K_X3_thrown l Y rM3).K) ok_X3_thrown w704 (rM3.x) rfl rfl rfl dL_law_214 (Nat.le_of_ble_eq_true rfl) (Nat.le_of_ble_eq_true rfl) (Nat.le_of_ble_eq_true rfl) (by show _ ≤ 601024; omega) (by show _ ≤ 7293034; omega) (ofS ?_)
  refine g_iload C dL_law_217 rfl ?_
  refine g_icmp_eq C (tgt := 224) dL_law_219 (by decide) (fun q1 => ?_) (fun q1 => absurd rfl q1)
  have I2 := (⟨set_inv iv _ _, v2, ar, f3, _, fo2, rC3, rM3, ho3⟩ : LwI Y x mm ob _ h3)
  refine g_iload C dL_law_224 rfl ?_
  refine g_if_ne C (tgt := 241) dL_law_226 (by decide) (fun q2 => ?_) (fun q2 => ?_)
  · refine g_goto C (tgt := 1628) dL_law_241 (by decide) ?_
    exact cont _ _ _ _ _ _ _ _ I2 (by omega) (by omega)
  · refine g_aload_n C dL_law_229 rfl (by first | rfl | exact isR_rf _) ?_
    refine g_iconst C (v := nI 0) dL_law_230 (by decide) ?_
    refine g_lald C ho3 rfl (by decide) (by decide) dL_law_231 ?_
    rw [hfo q2]
    refine g_iload C dL_law_232 rfl ?_
    refine g_i2l C dL_law_234 ?_
    refine g_lcmp C dL_law_235 ?_
    rw [lg_self]
    refine g_if_eq C (tgt := 241) dL_law_236 (by decide) (fun q3 => ?_) (fun q3 => absurd rfl q3)
    refine g_goto C (tgt := 1628) dL_law_241 (by decide) ?_
    exact cont _ _ _ _ _ _ _ _ I2 (by omega) (by omega)
set_option maxRecDepth 100000 in
set_option maxHeartbeats 4000000 in
theorem LC_paw {p : Program} {l : Launch} {e : Env} {s : State} {m : MethodId} {args : Array Value} {below : List Frame} {meth : Method} {c : Code} {Q : State → Prop} {Y : YG} (C : Cx p s m args meth c Y cL_law 9 RL) (hfl : l.stackTraces = false) {b L : Nat} {xs : Nat → Int32} (hX : va_X b L xs s s.heap) (hbl : b < s.heap.size) (hbA : ¬ Y.A b) (hL : L ≤ 1536) {i x mm ob : Nat} {g : Sg} {h : AH} {kk nn : Nat} {w5 w6 w7 w8 : Option Value} (hi : 3 * i + 3 ≤ L) (I : LwI Y x mm ob g h) (hk : kk + 61 ≤ 601024) (hn : nn + 608 ≤ 7293034) (cont : ∀ (g2 : Sg) (h2 : AH) (k2 n2 : Nat) (u5 u6 u7 u8 : Option Value), LwI Y x mm ob g2 h2 → k2 ≤ kk + 61 → n2 ≤ nn + 608 → Gd p l e room_1 s m args below meth c Q Y 9 1628 (LL b x mm ob i u5 u6 u7 u8) [] h2 k2 n2) : Gd p l e room_1 s m args below meth c Q Y 9 244 (LL b x mm ob i w5 w6 w7 w8) [] h kk nn := by
  obtain ⟨iv, v, ar, f, th, fo, rC, rM, ho⟩ := I
  refine g_aload_n C dL_law_244 rfl (by first | rfl | exact isR_rf _) ?_
  refine g_aload_n C dL_law_245 rfl (by first | rfl | exact isR_rf _) ?_
  refine g_iload C dL_law_246 rfl ?_
  refine g_iconst C (v := nI 1) dL_law_248 (by decide) ?_
  first | with_reducible refine g_iaddN C dL_law_249 ?_ | refine g_iadd C dL_law_249 ?_
  refine g_sld C hX hbl hbA rfl (show 3 * i + 1 < L by omega) (by omega) dL_law_250 ?_
  refine g_aload_n C dL_law_251 rfl (by first | rfl | exact isR_rf _) ?_
  refine g_iload C dL_law_252 rfl ?_
  refine g_iconst C (v := nI 2) dL_law_254 (by decide) ?_
  first | with_reducible refine g_iaddN C dL_law_255 ?_ | refine g_iadd C dL_law_255 ?_
  refine g_sld C hX hbl hbA rfl (show 3 * i + 2 < L by omega) (by omega) dL_law_256 ?_
  refine g_aload_n C dL_law_257 rfl (by first | rfl | exact isR_rf _) ?_
  refine g_callSW (na := 4) C (W_paw l Y hfl rC iv (ZM.h rM) ho _ _) w454 w0 w455 (by exact ⟨by decide, by decide, by decide +kernel⟩) w453 rfl rfl dL_law_258 (Nat.le_of_ble_eq_true rfl) (Nat.le_of_ble_eq_true rfl) (Nat.le_of_ble_eq_true rfl) (by show _ ≤ 601024; omega) (by show _ ≤ 7293034; omega) (fun vv h2 e2 => ?_)
  obtain ⟨rfl, h1, fo2, ⟨⟨v2, rC1⟩, hFK⟩, rfl, hfo⟩ := e2
  have ho1 := hFK _ _ ho rfl
  have rM2 := (rM.frK hFK).hupJ (fo2 := fo2) ho1
  have rC2 := rC1.hupJ (fo2 := fo2) ho1
  refine g_istore C dL_law_261 (by decide) ?_
  refine g_aload_n C dL_law_263 rfl (by first | rfl | exact isR_rf _) ?_
  refine g_aload_n C dL_law_264 rfl (by first | rfl | exact isR_rf _) ?_
  refine g_iload C dL_law_265 rfl ?_
  refine g_iconst C (v := nI 1) dL_law_267 (by decide) ?_
  first | with_reducible refine g_iaddN C dL_law_268 ?_ | refine g_iadd C dL_law_268 ?_
  refine g_sld C hX hbl hbA rfl (show 3 * i + 1 < L by omega) (by omega) dL_law_269 ?_
  refine g_aload_n C dL_law_270 rfl (by first | rfl | exact isR_rf _) ?_
  refine g_iload C dL_law_271 rfl ?_
  refine g_iconst C (v := nI 2) dL_law_273 (by decide) ?_
  first | with_reducible refine g_iaddN C dL_law_274 ?_ | refine g_iadd C dL_law_274 ?_
  refine g_sld C hX hbl hbA rfl (show 3 * i + 2 < L by omega) (by omega) dL_law_275 ?_
  refine g_callV C ((D_paw l Y rM2 iv _ _).K) ok_X3_paw w734 (rM2.x) rfl rfl rfl dL_law_276 (Nat.le_of_ble_eq_true rfl) (Nat.le_of_ble_eq_true rfl) (Nat.le_of_ble_eq_true rfl) (by show _ ≤ 601024; omega) (by show _ ≤ 7293034; omega) (fun vv h3 e3 => ?_)
  obtain ⟨rfl, f3, rM3, hFM⟩ := e3
  have rC3 := rC2.frM rM2 hFM
  have ho3 := ob_frM rM2 hFM hup_eq
  refine g_istore C dL_law_279 (by decide) ?_
  refine g_aload_n C dL_law_281 rfl (by first | rfl | exact isR_rf _) ?_
  refine g_callV C ((K_X3_thrown l Y rM3).K) ok_X3_thrown w704 (rM3.x) rfl rfl rfl dL_law_282 (Nat.le_of_ble_eq_true rfl) (Nat.le_of_ble_eq_true rfl) (Nat.le_of_ble_eq_true rfl) (by show _ ≤ 601024; omega) (by show _ ≤ 7293034; omega) (ofS ?_)
  refine g_iload C dL_law_285 rfl ?_
  refine g_icmp_eq C (tgt := 292) dL_law_287 (by decide) (fun q1 => ?_) (fun q1 => absurd rfl q1)
  have I2 := (⟨paw_inv iv _ _, v2, ar, f3, _, fo2, rC3, rM3, ho3⟩ : LwI Y x mm ob _ h3)
  refine g_iload C dL_law_292 rfl ?_
  refine g_if_ne C (tgt := 309) dL_law_294 (by decide) (fun q2 => ?_) (fun q2 => ?_)
  · refine g_goto C (tgt := 1628) dL_law_309 (by decide) ?_
    exact cont _ _ _ _ _ _ _ _ I2 (by omega) (by omega)
  · refine g_aload_n C dL_law_297 rfl (by first | rfl | exact isR_rf _) ?_
    refine g_iconst C (v := nI 0) dL_law_298 (by decide) ?_
    refine g_lald C ho3 rfl (by decide) (by decide) dL_law_299 ?_
    rw [hfo q2]
    refine g_iload C dL_law_300 rfl ?_
    refine g_i2l C dL_law_302 ?_
    refine g_lcmp C dL_law_303 ?_
    rw [lg_self]
    refine g_if_eq C (tgt := 309) dL_law_304 (by decide) (fun q3 => ?_) (fun q3 => absurd rfl q3)
    refine g_goto C (tgt := 1628) dL_law_309 (by decide) ?_
    exact cont _ _ _ _ _ _ _ _ I2 (by omega) (by omega)
set_option maxRecDepth 100000 in
set_option maxHeartbeats 4000000 in
theorem LC_undo {p : Program} {l : Launch} {e : Env} {s : State} {m : MethodId} {args : Array Value} {below : List Frame} {meth : Method} {c : Code} {Q : State → Prop} {Y : YG} (C : Cx p s m args meth c Y cL_law 9 RL) (hfl : l.stackTraces = false) {b L : Nat} {xs : Nat → Int32} (hX : va_X b L xs s s.heap) (hbl : b < s.heap.size) (hbA : ¬ Y.A b) (hL : L ≤ 1536) {i x mm ob : Nat} {g : Sg} {h : AH} {kk nn : Nat} {w5 w6 w7 w8 : Option Value} (hi : 3 * i + 3 ≤ L) (I : LwI Y x mm ob g h) (hk : kk + 61 ≤ 601024) (hn : nn + 608 ≤ 7293034) (cont : ∀ (g2 : Sg) (h2 : AH) (k2 n2 : Nat) (u5 u6 u7 u8 : Option Value), LwI Y x mm ob g2 h2 → k2 ≤ kk + 61 → n2 ≤ nn + 608 → Gd p l e room_1 s m args below meth c Q Y 9 1628 (LL b x mm ob i u5 u6 u7 u8) [] h2 k2 n2) : Gd p l e room_1 s m args below meth c Q Y 9 312 (LL b x mm ob i w5 w6 w7 w8) [] h kk nn := by
  obtain ⟨iv, v, ar, f, th, fo, rC, rM, ho⟩ := I
  refine g_aload_n C dL_law_312 rfl (by first | rfl | exact isR_rf _) ?_
  refine g_aload_n C dL_law_313 rfl (by first | rfl | exact isR_rf _) ?_
  refine g_iload C dL_law_314 rfl ?_
  refine g_iconst C (v := nI 1) dL_law_316 (by decide) ?_
  first | with_reducible refine g_iaddN C dL_law_317 ?_ | refine g_iadd C dL_law_317 ?_
  refine g_sld C hX hbl hbA rfl (show 3 * i + 1 < L by omega) (by omega) dL_law_318 ?_
  refine g_aload_n C dL_law_319 rfl (by first | rfl | exact isR_rf _) ?_
  refine g_callSW (na := 3) C (W_undo l Y hfl rC iv (ZM.h rM) ho _) w526 w0 w527 (by exact ⟨by decide, by decide, by decide +kernel⟩) w525 rfl rfl dL_law_320 (Nat.le_of_ble_eq_true rfl) (Nat.le_of_ble_eq_true rfl) (Nat.le_of_ble_eq_true rfl) (by show _ ≤ 601024; omega) (by show _ ≤ 7293034; omega) (fun vv h2 e2 => ?_)
  obtain ⟨rfl, h1, fo2, ⟨⟨v2, rC1⟩, hFK⟩, rfl, hfo⟩ := e2
  have ho1 := hFK _ _ ho rfl
  have rM2 := (rM.frK hFK).hupJ (fo2 := fo2) ho1
  have rC2 := rC1.hupJ (fo2 := fo2) ho1
  refine g_istore C dL_law_323 (by decide) ?_
  refine g_aload_n C dL_law_325 rfl (by first | rfl | exact isR_rf _) ?_
  refine g_aload_n C dL_law_326 rfl (by first | rfl | exact isR_rf _) ?_
  refine g_iload C dL_law_327 rfl ?_
  refine g_iconst C (v := nI 1) dL_law_329 (by decide) ?_
  first | with_reducible refine g_iaddN C dL_law_330 ?_ | refine g_iadd C dL_law_330 ?_
  refine g_sld C hX hbl hbA rfl (show 3 * i + 1 < L by omega) (by omega) dL_law_331 ?_
  refine g_callV C ((D_undo l Y rM2 iv _).K) ok_X3_undo w775 (rM2.x) rfl rfl rfl dL_law_332 (Nat.le_of_ble_eq_true rfl) (Nat.le_of_ble_eq_true rfl) (Nat.le_of_ble_eq_true rfl) (by show _ ≤ 601024; omega) (by show _ ≤ 7293034; omega) (fun vv h3 e3 => ?_)
  obtain ⟨rfl, f3, rM3, hFM⟩ := e3
  have rC3 := rC2.frM rM2 hFM
  have ho3 := ob_frM rM2 hFM hup_eq
  refine g_istore C dL_law_335 (by decide) ?_
  refine g_aload_n C dL_law_337 rfl (by first | rfl | exact isR_rf _) ?_
  refine g_callV C ((K_X3_thrown l Y rM3).K) ok_X3_thrown w704 (rM3.x) rfl rfl rfl dL_law_338 (Nat.le_of_ble_eq_true rfl) (Nat.le_of_ble_eq_true rfl) (Nat.le_of_ble_eq_true rfl) (by show _ ≤ 601024; omega) (by show _ ≤ 7293034; omega) (ofS ?_)
  refine g_iload C dL_law_341 rfl ?_
  refine g_icmp_eq C (tgt := 348) dL_law_343 (by decide) (fun q1 => ?_) (fun q1 => absurd rfl q1)
  have I2 := (⟨undo_inv iv _, v2, ar, f3, _, fo2, rC3, rM3, ho3⟩ : LwI Y x mm ob _ h3)
  refine g_iload C dL_law_348 rfl ?_
  refine g_if_ne C (tgt := 365) dL_law_350 (by decide) (fun q2 => ?_) (fun q2 => ?_)
  · refine g_goto C (tgt := 1628) dL_law_365 (by decide) ?_
    exact cont _ _ _ _ _ _ _ _ I2 (by omega) (by omega)
  · refine g_aload_n C dL_law_353 rfl (by first | rfl | exact isR_rf _) ?_
    refine g_iconst C (v := nI 0) dL_law_354 (by decide) ?_
    refine g_lald C ho3 rfl (by decide) (by decide) dL_law_355 ?_
    rw [hfo q2]
    refine g_iload C dL_law_356 rfl ?_
    refine g_i2l C dL_law_358 ?_
    refine g_lcmp C dL_law_359 ?_
    rw [lg_self]
    refine g_if_eq C (tgt := 365) dL_law_360 (by decide) (fun q3 => ?_) (fun q3 => absurd rfl q3)
    refine g_goto C (tgt := 1628) dL_law_365 (by decide) ?_
    exact cont _ _ _ _ _ _ _ _ I2 (by omega) (by omega)
set_option maxRecDepth 100000 in
set_option maxHeartbeats 4000000 in
theorem LC_redo {p : Program} {l : Launch} {e : Env} {s : State} {m : MethodId} {args : Array Value} {below : List Frame} {meth : Method} {c : Code} {Q : State → Prop} {Y : YG} (C : Cx p s m args meth c Y cL_law 9 RL) (hfl : l.stackTraces = false) {b L : Nat} {xs : Nat → Int32} (hX : va_X b L xs s s.heap) (hbl : b < s.heap.size) (hbA : ¬ Y.A b) (hL : L ≤ 1536) {i x mm ob : Nat} {g : Sg} {h : AH} {kk nn : Nat} {w5 w6 w7 w8 : Option Value} (hi : 3 * i + 3 ≤ L) (I : LwI Y x mm ob g h) (hk : kk + 61 ≤ 601024) (hn : nn + 608 ≤ 7293034) (cont : ∀ (g2 : Sg) (h2 : AH) (k2 n2 : Nat) (u5 u6 u7 u8 : Option Value), LwI Y x mm ob g2 h2 → k2 ≤ kk + 61 → n2 ≤ nn + 608 → Gd p l e room_1 s m args below meth c Q Y 9 1628 (LL b x mm ob i u5 u6 u7 u8) [] h2 k2 n2) : Gd p l e room_1 s m args below meth c Q Y 9 368 (LL b x mm ob i w5 w6 w7 w8) [] h kk nn := by
  obtain ⟨iv, v, ar, f, th, fo, rC, rM, ho⟩ := I
  refine g_aload_n C dL_law_368 rfl (by first | rfl | exact isR_rf _) ?_
  refine g_aload_n C dL_law_369 rfl (by first | rfl | exact isR_rf _) ?_
  refine g_iload C dL_law_370 rfl ?_
  refine g_iconst C (v := nI 1) dL_law_372 (by decide) ?_
  first | with_reducible refine g_iaddN C dL_law_373 ?_ | refine g_iadd C dL_law_373 ?_
  refine g_sld C hX hbl hbA rfl (show 3 * i + 1 < L by omega) (by omega) dL_law_374 ?_
  refine g_aload_n C dL_law_375 rfl (by first | rfl | exact isR_rf _) ?_
  refine g_callSW (na := 3) C (W_redo l Y hfl rC iv (ZM.h rM) ho _) w538 w0 w539 (by exact ⟨by decide, by decide, by decide +kernel⟩) w537 rfl rfl dL_law_376 (Nat.le_of_ble_eq_true rfl) (Nat.le_of_ble_eq_true rfl) (Nat.le_of_ble_eq_true rfl) (by show _ ≤ 601024; omega) (by show _ ≤ 7293034; omega) (fun vv h2 e2 => ?_)
  obtain ⟨rfl, h1, fo2, ⟨⟨v2, rC1⟩, hFK⟩, rfl, hfo⟩ := e2
  have ho1 := hFK _ _ ho rfl
  have rM2 := (rM.frK hFK).hupJ (fo2 := fo2) ho1
  have rC2 := rC1.hupJ (fo2 := fo2) ho1
  refine g_istore C dL_law_379 (by decide) ?_
  refine g_aload_n C dL_law_381 rfl (by first | rfl | exact isR_rf _) ?_
  refine g_aload_n C dL_law_382 rfl (by first | rfl | exact isR_rf _) ?_
  refine g_iload C dL_law_383 rfl ?_
  refine g_iconst C (v := nI 1) dL_law_385 (by decide) ?_
  first | with_reducible refine g_iaddN C dL_law_386 ?_ | refine g_iadd C dL_law_386 ?_
  refine g_sld C hX hbl hbA rfl (show 3 * i + 1 < L by omega) (by omega) dL_law_387 ?_
  refine g_callV C ((D_redo l Y rM2 iv _).K) ok_X3_redo w779 (rM2.x) rfl rfl rfl dL_law_388 (Nat.le_of_ble_eq_true rfl) (Nat.le_of_ble_eq_true rfl) (Nat.le_of_ble_eq_true rfl) (by show _ ≤ 601024; omega) (by show _ ≤ 7293034; omega) (fun vv h3 e3 => ?_)
  obtain ⟨rfl, f3, rM3, hFM⟩ := e3
  have rC3 := rC2.frM rM2 hFM
  have ho3 := ob_frM rM2 hFM hup_eq
  refine g_istore C dL_law_391 (by decide) ?_
  refine g_aload_n C dL_law_393 rfl (by first | rfl | exact isR_rf _) ?_
  refine g_callV C ((K_X3_thrown l Y rM3).K) ok_X3_thrown w704 (rM3.x) rfl rfl rfl dL_law_394 (Nat.le_of_ble_eq_true rfl) (Nat.le_of_ble_eq_true rfl) (Nat.le_of_ble_eq_true rfl) (by show _ ≤ 601024; omega) (by show _ ≤ 7293034; omega) (ofS ?_)
  refine g_iload C dL_law_397 rfl ?_
  refine g_icmp_eq C (tgt := 404) dL_law_399 (by decide) (fun q1 => ?_) (fun q1 => absurd rfl q1)
  have I2 := (⟨redo_inv iv _, v2, ar, f3, _, fo2, rC3, rM3, ho3⟩ : LwI Y x mm ob _ h3)
  refine g_iload C dL_law_404 rfl ?_
  refine g_if_ne C (tgt := 421) dL_law_406 (by decide) (fun q2 => ?_) (fun q2 => ?_)
  · refine g_goto C (tgt := 1628) dL_law_421 (by decide) ?_
    exact cont _ _ _ _ _ _ _ _ I2 (by omega) (by omega)
  · refine g_aload_n C dL_law_409 rfl (by first | rfl | exact isR_rf _) ?_
    refine g_iconst C (v := nI 0) dL_law_410 (by decide) ?_
    refine g_lald C ho3 rfl (by decide) (by decide) dL_law_411 ?_
    rw [hfo q2]
    refine g_iload C dL_law_412 rfl ?_
    refine g_i2l C dL_law_414 ?_
    refine g_lcmp C dL_law_415 ?_
    rw [lg_self]
    refine g_if_eq C (tgt := 421) dL_law_416 (by decide) (fun q3 => ?_) (fun q3 => absurd rfl q3)
    refine g_goto C (tgt := 1628) dL_law_421 (by decide) ?_
    exact cont _ _ _ _ _ _ _ _ I2 (by omega) (by omega)
set_option maxRecDepth 100000 in
set_option maxHeartbeats 4000000 in
theorem LC_goTo {p : Program} {l : Launch} {e : Env} {s : State} {m : MethodId} {args : Array Value} {below : List Frame} {meth : Method} {c : Code} {Q : State → Prop} {Y : YG} (C : Cx p s m args meth c Y cL_law 9 RL) (hfl : l.stackTraces = false) {b L : Nat} {xs : Nat → Int32} (hX : va_X b L xs s s.heap) (hbl : b < s.heap.size) (hbA : ¬ Y.A b) (hL : L ≤ 1536) {i x mm ob : Nat} {g : Sg} {h : AH} {kk nn : Nat} {w5 w6 w7 w8 : Option Value} (hi : 3 * i + 3 ≤ L) (I : LwI Y x mm ob g h) (hk : kk + 61 ≤ 601024) (hn : nn + 608 ≤ 7293034) (cont : ∀ (g2 : Sg) (h2 : AH) (k2 n2 : Nat) (u5 u6 u7 u8 : Option Value), LwI Y x mm ob g2 h2 → k2 ≤ kk + 61 → n2 ≤ nn + 608 → Gd p l e room_1 s m args below meth c Q Y 9 1628 (LL b x mm ob i u5 u6 u7 u8) [] h2 k2 n2) : Gd p l e room_1 s m args below meth c Q Y 9 424 (LL b x mm ob i w5 w6 w7 w8) [] h kk nn := by
  obtain ⟨iv, v, ar, f, th, fo, rC, rM, ho⟩ := I
  refine g_aload_n C dL_law_424 rfl (by first | rfl | exact isR_rf _) ?_
  refine g_aload_n C dL_law_425 rfl (by first | rfl | exact isR_rf _) ?_
  refine g_iload C dL_law_426 rfl ?_
  refine g_iconst C (v := nI 1) dL_law_428 (by decide) ?_
  first | with_reducible refine g_iaddN C dL_law_429 ?_ | refine g_iadd C dL_law_429 ?_
  refine g_sld C hX hbl hbA rfl (show 3 * i + 1 < L by omega) (by omega) dL_law_430 ?_
  refine g_aload_n C dL_law_431 rfl (by first | rfl | exact isR_rf _) ?_
  refine g_callSW (na := 3) C (W_goTo l Y hfl rC iv (ZM.h rM) ho _) w546 w0 w547 (by exact ⟨by decide, by decide, by decide +kernel⟩) w545 rfl rfl dL_law_432 (Nat.le_of_ble_eq_true rfl) (Nat.le_of_ble_eq_true rfl) (Nat.le_of_ble_eq_true rfl) (by show _ ≤ 601024; omega) (by show _ ≤ 7293034; omega) (fun vv h2 e2 => ?_)
  obtain ⟨rfl, h1, fo2, ⟨⟨v2, rC1⟩, hFK⟩, rfl, hfo⟩ := e2
  have ho1 := hFK _ _ ho rfl
  have rM2 := (rM.frK hFK).hupJ (fo2 := fo2) ho1
  have rC2 := rC1.hupJ (fo2 := fo2) ho1
  refine g_istore C dL_law_435 (by decide) ?_
  refine g_aload_n C dL_law_437 rfl (by first | rfl | exact isR_rf _) ?_
  refine g_aload_n C dL_law_438 rfl (by first | rfl | exact isR_rf _) ?_
  refine g_iload C dL_law_439 rfl ?_
  refine g_iconst C (v := nI 1) dL_law_441 (by decide) ?_
  first | with_reducible refine g_iaddN C dL_law_442 ?_ | refine g_iadd C dL_law_442 ?_
  refine g_sld C hX hbl hbA rfl (show 3 * i + 1 < L by omega) (by omega) dL_law_443 ?_
  refine g_callV C ((D_goTo l Y rM2 iv _).K) ok_X3_goTo w783 (rM2.x) rfl rfl rfl dL_law_444 (Nat.le_of_ble_eq_true rfl) (Nat.le_of_ble_eq_true rfl) (Nat.le_of_ble_eq_true rfl) (by show _ ≤ 601024; omega) (by show _ ≤ 7293034; omega) (fun vv h3 e3 => ?_)
  obtain ⟨rfl, f3, rM3, hFM⟩ := e3
  have rC3 := rC2.frM rM2 hFM
  have ho3 := ob_frM rM2 hFM hup_eq
  refine g_istore C dL_law_447 (by decide) ?_
  refine g_aload_n C dL_law_449 rfl (by first | rfl | exact isR_rf _) ?_
  refine g_callV C ((K_X3_thrown l Y rM3).K) ok_X3_thrown w704 (rM3.x) rfl rfl rfl dL_law_450 (Nat.le_of_ble_eq_true rfl) (Nat.le_of_ble_eq_true rfl) (Nat.le_of_ble_eq_true rfl) (by show _ ≤ 601024; omega) (by show _ ≤ 7293034; omega) (ofS ?_)
  refine g_iload C dL_law_453 rfl ?_
  refine g_icmp_eq C (tgt := 460) dL_law_455 (by decide) (fun q1 => ?_) (fun q1 => absurd rfl q1)
  have I2 := (⟨go_inv iv _, v2, ar, f3, _, fo2, rC3, rM3, ho3⟩ : LwI Y x mm ob _ h3)
  refine g_iload C dL_law_460 rfl ?_
  refine g_if_ne C (tgt := 477) dL_law_462 (by decide) (fun q2 => ?_) (fun q2 => ?_)
  · refine g_goto C (tgt := 1628) dL_law_477 (by decide) ?_
    exact cont _ _ _ _ _ _ _ _ I2 (by omega) (by omega)
  · refine g_aload_n C dL_law_465 rfl (by first | rfl | exact isR_rf _) ?_
    refine g_iconst C (v := nI 0) dL_law_466 (by decide) ?_
    refine g_lald C ho3 rfl (by decide) (by decide) dL_law_467 ?_
    rw [hfo q2]
    refine g_iload C dL_law_468 rfl ?_
    refine g_i2l C dL_law_470 ?_
    refine g_lcmp C dL_law_471 ?_
    rw [lg_self]
    refine g_if_eq C (tgt := 477) dL_law_472 (by decide) (fun q3 => ?_) (fun q3 => absurd rfl q3)
    refine g_goto C (tgt := 1628) dL_law_477 (by decide) ?_
    exact cont _ _ _ _ _ _ _ _ I2 (by omega) (by omega)
set_option maxRecDepth 100000 in
set_option maxHeartbeats 4000000 in
theorem LC_evening {p : Program} {l : Launch} {e : Env} {s : State} {m : MethodId} {args : Array Value} {below : List Frame} {meth : Method} {c : Code} {Q : State → Prop} {Y : YG} (C : Cx p s m args meth c Y cL_law 9 RL) (hfl : l.stackTraces = false) {b L : Nat} {xs : Nat → Int32} (hX : va_X b L xs s s.heap) (hbl : b < s.heap.size) (hbA : ¬ Y.A b) (hL : L ≤ 1536) {i x mm ob : Nat} {g : Sg} {h : AH} {kk nn : Nat} {w5 w6 w7 w8 : Option Value} (hi : 3 * i + 3 ≤ L) (I : LwI Y x mm ob g h) (hk : kk + 61 ≤ 601024) (hn : nn + 608 ≤ 7293034) (cont : ∀ (g2 : Sg) (h2 : AH) (k2 n2 : Nat) (u5 u6 u7 u8 : Option Value), LwI Y x mm ob g2 h2 → k2 ≤ kk + 61 → n2 ≤ nn + 608 → Gd p l e room_1 s m args below meth c Q Y 9 1628 (LL b x mm ob i u5 u6 u7 u8) [] h2 k2 n2) : Gd p l e room_1 s m args below meth c Q Y 9 480 (LL b x mm ob i w5 w6 w7 w8) [] h kk nn := by
  obtain ⟨iv, v, ar, f, th, fo, rC, rM, ho⟩ := I
  refine g_aload_n C dL_law_480 rfl (by first | rfl | exact isR_rf _) ?_
  refine g_callV C ((K_X2_evening l Y rC iv).K) ok_X2_evening w185 (rC.x) rfl rfl rfl dL_law_481 (Nat.le_of_ble_eq_true rfl) (Nat.le_of_ble_eq_true rfl) (Nat.le_of_ble_eq_true rfl) (by show _ ≤ 601024; omega) (by show _ ≤ 7293034; omega) (ofS ?_)
  refine g_aload_n C dL_law_484 rfl (by first | rfl | exact isR_rf _) ?_
  refine g_callV C ((K_X3_evening l Y rM iv).K) ok_X3_evening w799 (rM.x) rfl rfl rfl dL_law_485 (Nat.le_of_ble_eq_true rfl) (Nat.le_of_ble_eq_true rfl) (Nat.le_of_ble_eq_true rfl) (by show _ ≤ 601024; omega) (by show _ ≤ 7293034; omega) (ofS ?_)
  have rM3 := rM.th (nI 0)
  have hFM := (FrM.x : FrM mm ar h (hup h mm (mC g ar (nI 0))))
  have rC3 := rC.frM rM hFM
  have ho3 := ob_frM rM hFM ho
  have I2 := (⟨iv, v, ar, f, _, fo, rC3, rM3, ho3⟩ : LwI Y x mm ob _ _)
  refine g_icmp_eq C (tgt := 1628) dL_law_488 (by decide) (fun q1 => ?_) (fun q1 => ?_)
  · exact cont _ _ _ _ _ _ _ _ I2 (by omega) (by omega)
  · exact absurd rfl q1
set_option maxRecDepth 100000 in
set_option maxHeartbeats 4000000 in
theorem LC_evenings {p : Program} {l : Launch} {e : Env} {s : State} {m : MethodId} {args : Array Value} {below : List Frame} {meth : Method} {c : Code} {Q : State → Prop} {Y : YG} (C : Cx p s m args meth c Y cL_law 9 RL) (hfl : l.stackTraces = false) {b L : Nat} {xs : Nat → Int32} (hX : va_X b L xs s s.heap) (hbl : b < s.heap.size) (hbA : ¬ Y.A b) (hL : L ≤ 1536) {i x mm ob : Nat} {g : Sg} {h : AH} {kk nn : Nat} {w5 w6 w7 w8 : Option Value} (hi : 3 * i + 3 ≤ L) (I : LwI Y x mm ob g h) (hk : kk + 61 ≤ 601024) (hn : nn + 608 ≤ 7293034) (cont : ∀ (g2 : Sg) (h2 : AH) (k2 n2 : Nat) (u5 u6 u7 u8 : Option Value), LwI Y x mm ob g2 h2 → k2 ≤ kk + 61 → n2 ≤ nn + 608 → Gd p l e room_1 s m args below meth c Q Y 9 1628 (LL b x mm ob i u5 u6 u7 u8) [] h2 k2 n2) : Gd p l e room_1 s m args below meth c Q Y 9 493 (LL b x mm ob i w5 w6 w7 w8) [] h kk nn := by
  obtain ⟨iv, v, ar, f, th, fo, rC, rM, ho⟩ := I
  refine g_aload_n C dL_law_493 rfl (by first | rfl | exact isR_rf _) ?_
  refine g_callV C ((K_X2_evenings l Y rC iv).K) ok_X2_evenings w189 (rC.x) rfl rfl rfl dL_law_494 (Nat.le_of_ble_eq_true rfl) (Nat.le_of_ble_eq_true rfl) (Nat.le_of_ble_eq_true rfl) (by show _ ≤ 601024; omega) (by show _ ≤ 7293034; omega) (ofS ?_)
  refine g_aload_n C dL_law_497 rfl (by first | rfl | exact isR_rf _) ?_
  refine g_callV C ((K_X3_evenings l Y rM iv).K) ok_X3_evenings w807 (rM.x) rfl rfl rfl dL_law_498 (Nat.le_of_ble_eq_true rfl) (Nat.le_of_ble_eq_true rfl) (Nat.le_of_ble_eq_true rfl) (by show _ ≤ 601024; omega) (by show _ ≤ 7293034; omega) (ofS ?_)
  have rM3 := rM.th (nI 0)
  have hFM := (FrM.x : FrM mm ar h (hup h mm (mC g ar (nI 0))))
  have rC3 := rC.frM rM hFM
  have ho3 := ob_frM rM hFM ho
  have I2 := (⟨iv, v, ar, f, _, fo, rC3, rM3, ho3⟩ : LwI Y x mm ob _ _)
  refine g_icmp_eq C (tgt := 1628) dL_law_501 (by decide) (fun q1 => ?_) (fun q1 => ?_)
  · exact cont _ _ _ _ _ _ _ _ I2 (by omega) (by omega)
  · exact absurd rfl q1
set_option maxRecDepth 100000 in
set_option maxHeartbeats 4000000 in
theorem LC_pieces {p : Program} {l : Launch} {e : Env} {s : State} {m : MethodId} {args : Array Value} {below : List Frame} {meth : Method} {c : Code} {Q : State → Prop} {Y : YG} (C : Cx p s m args meth c Y cL_law 9 RL) (hfl : l.stackTraces = false) {b L : Nat} {xs : Nat → Int32} (hX : va_X b L xs s s.heap) (hbl : b < s.heap.size) (hbA : ¬ Y.A b) (hL : L ≤ 1536) {i x mm ob : Nat} {g : Sg} {h : AH} {kk nn : Nat} {w5 w6 w7 w8 : Option Value} (hi : 3 * i + 3 ≤ L) (I : LwI Y x mm ob g h) (hk : kk + 61 ≤ 601024) (hn : nn + 608 ≤ 7293034) (cont : ∀ (g2 : Sg) (h2 : AH) (k2 n2 : Nat) (u5 u6 u7 u8 : Option Value), LwI Y x mm ob g2 h2 → k2 ≤ kk + 61 → n2 ≤ nn + 608 → Gd p l e room_1 s m args below meth c Q Y 9 1628 (LL b x mm ob i u5 u6 u7 u8) [] h2 k2 n2) : Gd p l e room_1 s m args below meth c Q Y 9 506 (LL b x mm ob i w5 w6 w7 w8) [] h kk nn := by
  obtain ⟨iv, v, ar, f, th, fo, rC, rM, ho⟩ := I
  refine g_aload_n C dL_law_506 rfl (by first | rfl | exact isR_rf _) ?_
  refine g_callV C ((K_X2_pieces l Y rC iv).K) ok_X2_pieces w202 (rC.x) rfl rfl rfl dL_law_507 (Nat.le_of_ble_eq_true rfl) (Nat.le_of_ble_eq_true rfl) (Nat.le_of_ble_eq_true rfl) (by show _ ≤ 601024; omega) (by show _ ≤ 7293034; omega) (ofS ?_)
  refine g_aload_n C dL_law_510 rfl (by first | rfl | exact isR_rf _) ?_
  refine g_callV C ((K_X3_pieces l Y rM iv).K) ok_X3_pieces w811 (rM.x) rfl rfl rfl dL_law_511 (Nat.le_of_ble_eq_true rfl) (Nat.le_of_ble_eq_true rfl) (Nat.le_of_ble_eq_true rfl) (by show _ ≤ 601024; omega) (by show _ ≤ 7293034; omega) (ofS ?_)
  have rM3 := rM.th (nI 0)
  have hFM := (FrM.x : FrM mm ar h (hup h mm (mC g ar (nI 0))))
  have rC3 := rC.frM rM hFM
  have ho3 := ob_frM rM hFM ho
  have I2 := (⟨iv, v, ar, f, _, fo, rC3, rM3, ho3⟩ : LwI Y x mm ob _ _)
  refine g_icmp_eq C (tgt := 1628) dL_law_514 (by decide) (fun q1 => ?_) (fun q1 => ?_)
  · exact cont _ _ _ _ _ _ _ _ I2 (by omega) (by omega)
  · exact absurd rfl q1
set_option maxRecDepth 100000 in
set_option maxHeartbeats 4000000 in
theorem LC_catColumn {p : Program} {l : Launch} {e : Env} {s : State} {m : MethodId} {args : Array Value} {below : List Frame} {meth : Method} {c : Code} {Q : State → Prop} {Y : YG} (C : Cx p s m args meth c Y cL_law 9 RL) (hfl : l.stackTraces = false) {b L : Nat} {xs : Nat → Int32} (hX : va_X b L xs s s.heap) (hbl : b < s.heap.size) (hbA : ¬ Y.A b) (hL : L ≤ 1536) {i x mm ob : Nat} {g : Sg} {h : AH} {kk nn : Nat} {w5 w6 w7 w8 : Option Value} (hi : 3 * i + 3 ≤ L) (I : LwI Y x mm ob g h) (hk : kk + 61 ≤ 601024) (hn : nn + 608 ≤ 7293034) (cont : ∀ (g2 : Sg) (h2 : AH) (k2 n2 : Nat) (u5 u6 u7 u8 : Option Value), LwI Y x mm ob g2 h2 → k2 ≤ kk + 61 → n2 ≤ nn + 608 → Gd p l e room_1 s m args below meth c Q Y 9 1628 (LL b x mm ob i u5 u6 u7 u8) [] h2 k2 n2) : Gd p l e room_1 s m args below meth c Q Y 9 519 (LL b x mm ob i w5 w6 w7 w8) [] h kk nn := by
  obtain ⟨iv, v, ar, f, th, fo, rC, rM, ho⟩ := I
  refine g_aload_n C dL_law_519 rfl (by first | rfl | exact isR_rf _) ?_
  refine g_callV C ((K_X2_catColumn l Y rC iv).K) ok_X2_catColumn w206 (rC.x) rfl rfl rfl dL_law_520 (Nat.le_of_ble_eq_true rfl) (Nat.le_of_ble_eq_true rfl) (Nat.le_of_ble_eq_true rfl) (by show _ ≤ 601024; omega) (by show _ ≤ 7293034; omega) (ofS ?_)
  refine g_aload_n C dL_law_523 rfl (by first | rfl | exact isR_rf _) ?_
  refine g_callV C ((K_X3_catColumn l Y rM iv).K) ok_X3_catColumn w815 (rM.x) rfl rfl rfl dL_law_524 (Nat.le_of_ble_eq_true rfl) (Nat.le_of_ble_eq_true rfl) (Nat.le_of_ble_eq_true rfl) (by show _ ≤ 601024; omega) (by show _ ≤ 7293034; omega) (ofS ?_)
  have rM3 := rM.th (nI 0)
  have hFM := (FrM.x : FrM mm ar h (hup h mm (mC g ar (nI 0))))
  have rC3 := rC.frM rM hFM
  have ho3 := ob_frM rM hFM ho
  have I2 := (⟨iv, v, ar, f, _, fo, rC3, rM3, ho3⟩ : LwI Y x mm ob _ _)
  refine g_icmp_eq C (tgt := 1628) dL_law_527 (by decide) (fun q1 => ?_) (fun q1 => ?_)
  · exact cont _ _ _ _ _ _ _ _ I2 (by omega) (by omega)
  · exact absurd rfl q1
set_option maxRecDepth 100000 in
set_option maxHeartbeats 4000000 in
theorem LC_catRow {p : Program} {l : Launch} {e : Env} {s : State} {m : MethodId} {args : Array Value} {below : List Frame} {meth : Method} {c : Code} {Q : State → Prop} {Y : YG} (C : Cx p s m args meth c Y cL_law 9 RL) (hfl : l.stackTraces = false) {b L : Nat} {xs : Nat → Int32} (hX : va_X b L xs s s.heap) (hbl : b < s.heap.size) (hbA : ¬ Y.A b) (hL : L ≤ 1536) {i x mm ob : Nat} {g : Sg} {h : AH} {kk nn : Nat} {w5 w6 w7 w8 : Option Value} (hi : 3 * i + 3 ≤ L) (I : LwI Y x mm ob g h) (hk : kk + 61 ≤ 601024) (hn : nn + 608 ≤ 7293034) (cont : ∀ (g2 : Sg) (h2 : AH) (k2 n2 : Nat) (u5 u6 u7 u8 : Option Value), LwI Y x mm ob g2 h2 → k2 ≤ kk + 61 → n2 ≤ nn + 608 → Gd p l e room_1 s m args below meth c Q Y 9 1628 (LL b x mm ob i u5 u6 u7 u8) [] h2 k2 n2) : Gd p l e room_1 s m args below meth c Q Y 9 532 (LL b x mm ob i w5 w6 w7 w8) [] h kk nn := by
  obtain ⟨iv, v, ar, f, th, fo, rC, rM, ho⟩ := I
  refine g_aload_n C dL_law_532 rfl (by first | rfl | exact isR_rf _) ?_
  refine g_callV C ((K_X2_catRow l Y rC iv).K) ok_X2_catRow w210 (rC.x) rfl rfl rfl dL_law_533 (Nat.le_of_ble_eq_true rfl) (Nat.le_of_ble_eq_true rfl) (Nat.le_of_ble_eq_true rfl) (by show _ ≤ 601024; omega) (by show _ ≤ 7293034; omega) (ofS ?_)
  refine g_aload_n C dL_law_536 rfl (by first | rfl | exact isR_rf _) ?_
  refine g_callV C ((K_X3_catRow l Y rM iv).K) ok_X3_catRow w819 (rM.x) rfl rfl rfl dL_law_537 (Nat.le_of_ble_eq_true rfl) (Nat.le_of_ble_eq_true rfl) (Nat.le_of_ble_eq_true rfl) (by show _ ≤ 601024; omega) (by show _ ≤ 7293034; omega) (ofS ?_)
  have rM3 := rM.th (nI 0)
  have hFM := (FrM.x : FrM mm ar h (hup h mm (mC g ar (nI 0))))
  have rC3 := rC.frM rM hFM
  have ho3 := ob_frM rM hFM ho
  have I2 := (⟨iv, v, ar, f, _, fo, rC3, rM3, ho3⟩ : LwI Y x mm ob _ _)
  refine g_icmp_eq C (tgt := 1628) dL_law_540 (by decide) (fun q1 => ?_) (fun q1 => ?_)
  · exact cont _ _ _ _ _ _ _ _ I2 (by omega) (by omega)
  · exact absurd rfl q1
set_option maxRecDepth 100000 in
set_option maxHeartbeats 4000000 in
theorem LC_lying {p : Program} {l : Launch} {e : Env} {s : State} {m : MethodId} {args : Array Value} {below : List Frame} {meth : Method} {c : Code} {Q : State → Prop} {Y : YG} (C : Cx p s m args meth c Y cL_law 9 RL) (hfl : l.stackTraces = false) {b L : Nat} {xs : Nat → Int32} (hX : va_X b L xs s s.heap) (hbl : b < s.heap.size) (hbA : ¬ Y.A b) (hL : L ≤ 1536) {i x mm ob : Nat} {g : Sg} {h : AH} {kk nn : Nat} {w5 w6 w7 w8 : Option Value} (hi : 3 * i + 3 ≤ L) (I : LwI Y x mm ob g h) (hk : kk + 61 ≤ 601024) (hn : nn + 608 ≤ 7293034) (cont : ∀ (g2 : Sg) (h2 : AH) (k2 n2 : Nat) (u5 u6 u7 u8 : Option Value), LwI Y x mm ob g2 h2 → k2 ≤ kk + 61 → n2 ≤ nn + 608 → Gd p l e room_1 s m args below meth c Q Y 9 1628 (LL b x mm ob i u5 u6 u7 u8) [] h2 k2 n2) : Gd p l e room_1 s m args below meth c Q Y 9 545 (LL b x mm ob i w5 w6 w7 w8) [] h kk nn := by
  obtain ⟨iv, v, ar, f, th, fo, rC, rM, ho⟩ := I
  refine g_aload_n C dL_law_545 rfl (by first | rfl | exact isR_rf _) ?_
  refine g_callV C ((K_X2_lying l Y rC iv).K) ok_X2_lying w214 (rC.x) rfl rfl rfl dL_law_546 (Nat.le_of_ble_eq_true rfl) (Nat.le_of_ble_eq_true rfl) (Nat.le_of_ble_eq_true rfl) (by show _ ≤ 601024; omega) (by show _ ≤ 7293034; omega) (ofS ?_)
  refine g_aload_n C dL_law_549 rfl (by first | rfl | exact isR_rf _) ?_
  refine g_callV C ((K_X3_lying l Y rM iv).K) ok_X3_lying w823 (rM.x) rfl rfl rfl dL_law_550 (Nat.le_of_ble_eq_true rfl) (Nat.le_of_ble_eq_true rfl) (Nat.le_of_ble_eq_true rfl) (by show _ ≤ 601024; omega) (by show _ ≤ 7293034; omega) (ofS ?_)
  have rM3 := rM.th (nI 0)
  have hFM := (FrM.x : FrM mm ar h (hup h mm (mC g ar (nI 0))))
  have rC3 := rC.frM rM hFM
  have ho3 := ob_frM rM hFM ho
  have I2 := (⟨iv, v, ar, f, _, fo, rC3, rM3, ho3⟩ : LwI Y x mm ob _ _)
  refine g_icmp_eq C (tgt := 1628) dL_law_553 (by decide) (fun q1 => ?_) (fun q1 => ?_)
  · exact cont _ _ _ _ _ _ _ _ I2 (by omega) (by omega)
  · exact absurd rfl q1
set_option maxRecDepth 100000 in
set_option maxHeartbeats 4000000 in
theorem LC_placeOf {p : Program} {l : Launch} {e : Env} {s : State} {m : MethodId} {args : Array Value} {below : List Frame} {meth : Method} {c : Code} {Q : State → Prop} {Y : YG} (C : Cx p s m args meth c Y cL_law 9 RL) (hfl : l.stackTraces = false) {b L : Nat} {xs : Nat → Int32} (hX : va_X b L xs s s.heap) (hbl : b < s.heap.size) (hbA : ¬ Y.A b) (hL : L ≤ 1536) {i x mm ob : Nat} {g : Sg} {h : AH} {kk nn : Nat} {w5 w6 w7 w8 : Option Value} (hi : 3 * i + 3 ≤ L) (I : LwI Y x mm ob g h) (hk : kk + 61 ≤ 601024) (hn : nn + 608 ≤ 7293034) (cont : ∀ (g2 : Sg) (h2 : AH) (k2 n2 : Nat) (u5 u6 u7 u8 : Option Value), LwI Y x mm ob g2 h2 → k2 ≤ kk + 61 → n2 ≤ nn + 608 → Gd p l e room_1 s m args below meth c Q Y 9 1628 (LL b x mm ob i u5 u6 u7 u8) [] h2 k2 n2) : Gd p l e room_1 s m args below meth c Q Y 9 558 (LL b x mm ob i w5 w6 w7 w8) [] h kk nn := by
  obtain ⟨iv, v, ar, f, th, fo, rC, rM, ho⟩ := I
  refine g_aload_n C dL_law_558 rfl (by first | rfl | exact isR_rf _) ?_
  refine g_aload_n C dL_law_559 rfl (by first | rfl | exact isR_rf _) ?_
  refine g_iload C dL_law_560 rfl ?_
  refine g_iconst C (v := nI 1) dL_law_562 (by decide) ?_
  first | with_reducible refine g_iaddN C dL_law_563 ?_ | refine g_iadd C dL_law_563 ?_
  refine g_sld C hX hbl hbA rfl (show 3 * i + 1 < L by omega) (by omega) dL_law_564 ?_
  refine g_aload_n C dL_law_565 rfl (by first | rfl | exact isR_rf _) ?_
  refine g_callSW (na := 3) C (W_placeOf l Y hfl rC iv (ZM.h rM) ho _) w559 w0 w560 (by exact ⟨by decide, by decide, by decide +kernel⟩) w558 rfl rfl dL_law_566 (Nat.le_of_ble_eq_true rfl) (Nat.le_of_ble_eq_true rfl) (Nat.le_of_ble_eq_true rfl) (by show _ ≤ 601024; omega) (by show _ ≤ 7293034; omega) (fun vv h2 e2 => ?_)
  obtain ⟨rfl, h1, fo2, ⟨⟨v2, rC1⟩, hFK⟩, rfl, hfo⟩ := e2
  have ho1 := hFK _ _ ho rfl
  have rM2 := (rM.frK hFK).hupJ (fo2 := fo2) ho1
  have rC2 := rC1.hupJ (fo2 := fo2) ho1
  refine g_istore C dL_law_569 (by decide) ?_
  refine g_aload_n C dL_law_571 rfl (by first | rfl | exact isR_rf _) ?_
  refine g_aload_n C dL_law_572 rfl (by first | rfl | exact isR_rf _) ?_
  refine g_iload C dL_law_573 rfl ?_
  refine g_iconst C (v := nI 1) dL_law_575 (by decide) ?_
  first | with_reducible refine g_iaddN C dL_law_576 ?_ | refine g_iadd C dL_law_576 ?_
  refine g_sld C hX hbl hbA rfl (show 3 * i + 1 < L by omega) (by omega) dL_law_577 ?_
  refine g_callV C ((D_placeOf l Y rM2 iv _).K) ok_X3_placeOf w831 (rM2.x) rfl rfl rfl dL_law_578 (Nat.le_of_ble_eq_true rfl) (Nat.le_of_ble_eq_true rfl) (Nat.le_of_ble_eq_true rfl) (by show _ ≤ 601024; omega) (by show _ ≤ 7293034; omega) (fun vv h3 e3 => ?_)
  obtain ⟨rfl, f3, rM3, hFM⟩ := e3
  have rC3 := rC2.frM rM2 hFM
  have ho3 := ob_frM rM2 hFM hup_eq
  refine g_istore C dL_law_581 (by decide) ?_
  refine g_aload_n C dL_law_583 rfl (by first | rfl | exact isR_rf _) ?_
  refine g_callV C ((K_X3_thrown l Y rM3).K) ok_X3_thrown w704 (rM3.x) rfl rfl rfl dL_law_584 (Nat.le_of_ble_eq_true rfl) (Nat.le_of_ble_eq_true rfl) (Nat.le_of_ble_eq_true rfl) (by show _ ≤ 601024; omega) (by show _ ≤ 7293034; omega) (ofS ?_)
  refine g_iload C dL_law_587 rfl ?_
  refine g_icmp_eq C (tgt := 594) dL_law_589 (by decide) (fun q1 => ?_) (fun q1 => absurd rfl q1)
  have I2 := (⟨qR_inv iv _, v2, ar, f3, _, fo2, rC3, rM3, ho3⟩ : LwI Y x mm ob _ h3)
  refine g_iload C dL_law_594 rfl ?_
  refine g_if_ne C (tgt := 611) dL_law_596 (by decide) (fun q2 => ?_) (fun q2 => ?_)
  · refine g_goto C (tgt := 1628) dL_law_611 (by decide) ?_
    exact cont _ _ _ _ _ _ _ _ I2 (by omega) (by omega)
  · refine g_aload_n C dL_law_599 rfl (by first | rfl | exact isR_rf _) ?_
    refine g_iconst C (v := nI 0) dL_law_600 (by decide) ?_
    refine g_lald C ho3 rfl (by decide) (by decide) dL_law_601 ?_
    rw [hfo q2]
    refine g_iload C dL_law_602 rfl ?_
    refine g_i2l C dL_law_604 ?_
    refine g_lcmp C dL_law_605 ?_
    rw [lg_self]
    refine g_if_eq C (tgt := 611) dL_law_606 (by decide) (fun q3 => ?_) (fun q3 => absurd rfl q3)
    refine g_goto C (tgt := 1628) dL_law_611 (by decide) ?_
    exact cont _ _ _ _ _ _ _ _ I2 (by omega) (by omega)
set_option maxRecDepth 100000 in
set_option maxHeartbeats 4000000 in
theorem LC_lies {p : Program} {l : Launch} {e : Env} {s : State} {m : MethodId} {args : Array Value} {below : List Frame} {meth : Method} {c : Code} {Q : State → Prop} {Y : YG} (C : Cx p s m args meth c Y cL_law 9 RL) (hfl : l.stackTraces = false) {b L : Nat} {xs : Nat → Int32} (hX : va_X b L xs s s.heap) (hbl : b < s.heap.size) (hbA : ¬ Y.A b) (hL : L ≤ 1536) {i x mm ob : Nat} {g : Sg} {h : AH} {kk nn : Nat} {w5 w6 w7 w8 : Option Value} (hi : 3 * i + 3 ≤ L) (I : LwI Y x mm ob g h) (hk : kk + 61 ≤ 601024) (hn : nn + 608 ≤ 7293034) (cont : ∀ (g2 : Sg) (h2 : AH) (k2 n2 : Nat) (u5 u6 u7 u8 : Option Value), LwI Y x mm ob g2 h2 → k2 ≤ kk + 61 → n2 ≤ nn + 608 → Gd p l e room_1 s m args below meth c Q Y 9 1628 (LL b x mm ob i u5 u6 u7 u8) [] h2 k2 n2) : Gd p l e room_1 s m args below meth c Q Y 9 614 (LL b x mm ob i w5 w6 w7 w8) [] h kk nn := by
  obtain ⟨iv, v, ar, f, th, fo, rC, rM, ho⟩ := I
  refine g_aload_n C dL_law_614 rfl (by first | rfl | exact isR_rf _) ?_
  refine g_aload_n C dL_law_615 rfl (by first | rfl | exact isR_rf _) ?_
  refine g_iload C dL_law_616 rfl ?_
  refine g_iconst C (v := nI 1) dL_law_618 (by decide) ?_
  first | with_reducible refine g_iaddN C dL_law_619 ?_ | refine g_iadd C dL_law_619 ?_
  refine g_sld C hX hbl hbA rfl (show 3 * i + 1 < L by omega) (by omega) dL_law_620 ?_
  refine g_aload_n C dL_law_621 rfl (by first | rfl | exact isR_rf _) ?_
  refine g_callSW (na := 3) C (W_lies l Y hfl rC iv (ZM.h rM) ho _) w563 w0 w564 (by exact ⟨by decide, by decide, by decide +kernel⟩) w562 rfl rfl dL_law_622 (Nat.le_of_ble_eq_true rfl) (Nat.le_of_ble_eq_true rfl) (Nat.le_of_ble_eq_true rfl) (by show _ ≤ 601024; omega) (by show _ ≤ 7293034; omega) (fun vv h2 e2 => ?_)
  obtain ⟨rfl, h1, fo2, ⟨⟨v2, rC1⟩, hFK⟩, rfl, hfo⟩ := e2
  have ho1 := hFK _ _ ho rfl
  have rM2 := (rM.frK hFK).hupJ (fo2 := fo2) ho1
  have rC2 := rC1.hupJ (fo2 := fo2) ho1
  refine g_istore C dL_law_625 (by decide) ?_
  refine g_aload_n C dL_law_627 rfl (by first | rfl | exact isR_rf _) ?_
  refine g_aload_n C dL_law_628 rfl (by first | rfl | exact isR_rf _) ?_
  refine g_iload C dL_law_629 rfl ?_
  refine g_iconst C (v := nI 1) dL_law_631 (by decide) ?_
  first | with_reducible refine g_iaddN C dL_law_632 ?_ | refine g_iadd C dL_law_632 ?_
  refine g_sld C hX hbl hbA rfl (show 3 * i + 1 < L by omega) (by omega) dL_law_633 ?_
  refine g_callV C ((D_lies l Y rM2 iv _).K) ok_X3_lies w835 (rM2.x) rfl rfl rfl dL_law_634 (Nat.le_of_ble_eq_true rfl) (Nat.le_of_ble_eq_true rfl) (Nat.le_of_ble_eq_true rfl) (by show _ ≤ 601024; omega) (by show _ ≤ 7293034; omega) (fun vv h3 e3 => ?_)
  obtain ⟨rfl, f3, rM3, hFM⟩ := e3
  have rC3 := rC2.frM rM2 hFM
  have ho3 := ob_frM rM2 hFM hup_eq
  refine g_istore C dL_law_637 (by decide) ?_
  refine g_aload_n C dL_law_639 rfl (by first | rfl | exact isR_rf _) ?_
  refine g_callV C ((K_X3_thrown l Y rM3).K) ok_X3_thrown w704 (rM3.x) rfl rfl rfl dL_law_640 (Nat.le_of_ble_eq_true rfl) (Nat.le_of_ble_eq_true rfl) (Nat.le_of_ble_eq_true rfl) (by show _ ≤ 601024; omega) (by show _ ≤ 7293034; omega) (ofS ?_)
  refine g_iload C dL_law_643 rfl ?_
  refine g_icmp_eq C (tgt := 650) dL_law_645 (by decide) (fun q1 => ?_) (fun q1 => absurd rfl q1)
  have I2 := (⟨qR_inv iv _, v2, ar, f3, _, fo2, rC3, rM3, ho3⟩ : LwI Y x mm ob _ h3)
  have hb := (by first | exact bo_1 | exact bo_2 | exact bo_3 : (qR g ((idx g.np (xs (3 * i + 1))).map (fun q0 => if (g.lb g.now).testBit q0 then 1 else 0))).2.1 = 0 ∨ (qR g ((idx g.np (xs (3 * i + 1))).map (fun q0 => if (g.lb g.now).testBit q0 then 1 else 0))).2.1 = 1)
  refine g_iload C dL_law_650 rfl ?_
  refine g_if_ne C (tgt := 674) dL_law_652 (by decide) (fun q2 => ?_) (fun q2 => ?_)
  · refine g_goto C (tgt := 1628) dL_law_674 (by decide) ?_
    exact cont _ _ _ _ _ _ _ _ I2 (by omega) (by omega)
  · refine g_aload_n C dL_law_655 rfl (by first | rfl | exact isR_rf _) ?_
    refine g_iconst C (v := nI 0) dL_law_656 (by decide) ?_
    refine g_lald C ho3 rfl (by decide) (by decide) dL_law_657 ?_
    rw [hfo q2]
    refine g_iload C dL_law_658 rfl ?_
    rcases hb with hb | hb
    · rw [hb]
      refine g_if_eq C (tgt := 667) dL_law_660 (by decide) (fun q => ?_) (fun q => absurd rfl q)
      refine g_lconst C dL_law_667 rfl ?_
      refine g_lcmp C dL_law_668 ?_
      refine g_if_eq C (tgt := 674) dL_law_669 (by decide) (fun q3 => ?_) (fun q3 => absurd (by decide) q3)
      refine g_goto C (tgt := 1628) dL_law_674 (by decide) ?_
      exact cont _ _ _ _ _ _ _ _ I2 (by omega) (by omega)
    · rw [hb]
      refine g_if_eq C (tgt := 667) dL_law_660 (by decide) (fun q => absurd q (by decide)) (fun q => ?_)
      refine g_lconst C dL_law_663 rfl ?_
      refine g_goto C (tgt := 668) dL_law_664 (by decide) ?_
      refine g_lcmp C dL_law_668 ?_
      refine g_if_eq C (tgt := 674) dL_law_669 (by decide) (fun q3 => ?_) (fun q3 => absurd (by decide) q3)
      refine g_goto C (tgt := 1628) dL_law_674 (by decide) ?_
      exact cont _ _ _ _ _ _ _ _ I2 (by omega) (by omega)
set_option maxRecDepth 100000 in
set_option maxHeartbeats 4000000 in
theorem LC_pieceAt {p : Program} {l : Launch} {e : Env} {s : State} {m : MethodId} {args : Array Value} {below : List Frame} {meth : Method} {c : Code} {Q : State → Prop} {Y : YG} (C : Cx p s m args meth c Y cL_law 9 RL) (hfl : l.stackTraces = false) {b L : Nat} {xs : Nat → Int32} (hX : va_X b L xs s s.heap) (hbl : b < s.heap.size) (hbA : ¬ Y.A b) (hL : L ≤ 1536) {i x mm ob : Nat} {g : Sg} {h : AH} {kk nn : Nat} {w5 w6 w7 w8 : Option Value} (hi : 3 * i + 3 ≤ L) (I : LwI Y x mm ob g h) (hk : kk + 61 ≤ 601024) (hn : nn + 608 ≤ 7293034) (cont : ∀ (g2 : Sg) (h2 : AH) (k2 n2 : Nat) (u5 u6 u7 u8 : Option Value), LwI Y x mm ob g2 h2 → k2 ≤ kk + 61 → n2 ≤ nn + 608 → Gd p l e room_1 s m args below meth c Q Y 9 1628 (LL b x mm ob i u5 u6 u7 u8) [] h2 k2 n2) : Gd p l e room_1 s m args below meth c Q Y 9 677 (LL b x mm ob i w5 w6 w7 w8) [] h kk nn := by
  obtain ⟨iv, v, ar, f, th, fo, rC, rM, ho⟩ := I
  refine g_aload_n C dL_law_677 rfl (by first | rfl | exact isR_rf _) ?_
  refine g_aload_n C dL_law_678 rfl (by first | rfl | exact isR_rf _) ?_
  refine g_iload C dL_law_679 rfl ?_
  refine g_iconst C (v := nI 1) dL_law_681 (by decide) ?_
  first | with_reducible refine g_iaddN C dL_law_682 ?_ | refine g_iadd C dL_law_682 ?_
  refine g_sld C hX hbl hbA rfl (show 3 * i + 1 < L by omega) (by omega) dL_law_683 ?_
  refine g_aload_n C dL_law_684 rfl (by first | rfl | exact isR_rf _) ?_
  refine g_iload C dL_law_685 rfl ?_
  refine g_iconst C (v := nI 2) dL_law_687 (by decide) ?_
  first | with_reducible refine g_iaddN C dL_law_688 ?_ | refine g_iadd C dL_law_688 ?_
  refine g_sld C hX hbl hbA rfl (show 3 * i + 2 < L by omega) (by omega) dL_law_689 ?_
  refine g_aload_n C dL_law_690 rfl (by first | rfl | exact isR_rf _) ?_
  refine g_callSW (na := 4) C (W_pieceAt l Y hfl rC iv (ZM.h rM) ho _ _) w567 w0 w568 (by exact ⟨by decide, by decide, by decide +kernel⟩) w566 rfl rfl dL_law_691 (Nat.le_of_ble_eq_true rfl) (Nat.le_of_ble_eq_true rfl) (Nat.le_of_ble_eq_true rfl) (by show _ ≤ 601024; omega) (by show _ ≤ 7293034; omega) (fun vv h2 e2 => ?_)
  obtain ⟨rfl, h1, fo2, ⟨⟨v2, rC1⟩, hFK⟩, rfl, hfo⟩ := e2
  have ho1 := hFK _ _ ho rfl
  have rM2 := (rM.frK hFK).hupJ (fo2 := fo2) ho1
  have rC2 := rC1.hupJ (fo2 := fo2) ho1
  refine g_istore C dL_law_694 (by decide) ?_
  refine g_aload_n C dL_law_696 rfl (by first | rfl | exact isR_rf _) ?_
  refine g_aload_n C dL_law_697 rfl (by first | rfl | exact isR_rf _) ?_
  refine g_iload C dL_law_698 rfl ?_
  refine g_iconst C (v := nI 1) dL_law_700 (by decide) ?_
  first | with_reducible refine g_iaddN C dL_law_701 ?_ | refine g_iadd C dL_law_701 ?_
  refine g_sld C hX hbl hbA rfl (show 3 * i + 1 < L by omega) (by omega) dL_law_702 ?_
  refine g_aload_n C dL_law_703 rfl (by first | rfl | exact isR_rf _) ?_
  refine g_iload C dL_law_704 rfl ?_
  refine g_iconst C (v := nI 2) dL_law_706 (by decide) ?_
  first | with_reducible refine g_iaddN C dL_law_707 ?_ | refine g_iadd C dL_law_707 ?_
  refine g_sld C hX hbl hbA rfl (show 3 * i + 2 < L by omega) (by omega) dL_law_708 ?_
  refine g_callV C ((D_pieceAt l Y rM2 iv _ _).K) ok_X3_pieceAt w843 (rM2.x) rfl rfl rfl dL_law_709 (Nat.le_of_ble_eq_true rfl) (Nat.le_of_ble_eq_true rfl) (Nat.le_of_ble_eq_true rfl) (by show _ ≤ 601024; omega) (by show _ ≤ 7293034; omega) (fun vv h3 e3 => ?_)
  obtain ⟨rfl, f3, rM3, hFM⟩ := e3
  have rC3 := rC2.frM rM2 hFM
  have ho3 := ob_frM rM2 hFM hup_eq
  refine g_istore C dL_law_712 (by decide) ?_
  refine g_aload_n C dL_law_714 rfl (by first | rfl | exact isR_rf _) ?_
  refine g_callV C ((K_X3_thrown l Y rM3).K) ok_X3_thrown w704 (rM3.x) rfl rfl rfl dL_law_715 (Nat.le_of_ble_eq_true rfl) (Nat.le_of_ble_eq_true rfl) (Nat.le_of_ble_eq_true rfl) (by show _ ≤ 601024; omega) (by show _ ≤ 7293034; omega) (ofS ?_)
  refine g_iload C dL_law_718 rfl ?_
  refine g_icmp_eq C (tgt := 725) dL_law_720 (by decide) (fun q1 => ?_) (fun q1 => absurd rfl q1)
  have I2 := (⟨qR_inv iv _, v2, ar, f3, _, fo2, rC3, rM3, ho3⟩ : LwI Y x mm ob _ h3)
  refine g_iload C dL_law_725 rfl ?_
  refine g_if_ne C (tgt := 742) dL_law_727 (by decide) (fun q2 => ?_) (fun q2 => ?_)
  · refine g_goto C (tgt := 1628) dL_law_742 (by decide) ?_
    exact cont _ _ _ _ _ _ _ _ I2 (by omega) (by omega)
  · refine g_aload_n C dL_law_730 rfl (by first | rfl | exact isR_rf _) ?_
    refine g_iconst C (v := nI 0) dL_law_731 (by decide) ?_
    refine g_lald C ho3 rfl (by decide) (by decide) dL_law_732 ?_
    rw [hfo q2]
    refine g_iload C dL_law_733 rfl ?_
    refine g_i2l C dL_law_735 ?_
    refine g_lcmp C dL_law_736 ?_
    rw [lg_self]
    refine g_if_eq C (tgt := 742) dL_law_737 (by decide) (fun q3 => ?_) (fun q3 => absurd rfl q3)
    refine g_goto C (tgt := 1628) dL_law_742 (by decide) ?_
    exact cont _ _ _ _ _ _ _ _ I2 (by omega) (by omega)
set_option maxRecDepth 100000 in
set_option maxHeartbeats 4000000 in
theorem LC_canDo {p : Program} {l : Launch} {e : Env} {s : State} {m : MethodId} {args : Array Value} {below : List Frame} {meth : Method} {c : Code} {Q : State → Prop} {Y : YG} (C : Cx p s m args meth c Y cL_law 9 RL) (hfl : l.stackTraces = false) {b L : Nat} {xs : Nat → Int32} (hX : va_X b L xs s s.heap) (hbl : b < s.heap.size) (hbA : ¬ Y.A b) (hL : L ≤ 1536) {i x mm ob : Nat} {g : Sg} {h : AH} {kk nn : Nat} {w5 w6 w7 w8 : Option Value} (hi : 3 * i + 3 ≤ L) (I : LwI Y x mm ob g h) (hk : kk + 61 ≤ 601024) (hn : nn + 608 ≤ 7293034) (cont : ∀ (g2 : Sg) (h2 : AH) (k2 n2 : Nat) (u5 u6 u7 u8 : Option Value), LwI Y x mm ob g2 h2 → k2 ≤ kk + 61 → n2 ≤ nn + 608 → Gd p l e room_1 s m args below meth c Q Y 9 1628 (LL b x mm ob i u5 u6 u7 u8) [] h2 k2 n2) : Gd p l e room_1 s m args below meth c Q Y 9 745 (LL b x mm ob i w5 w6 w7 w8) [] h kk nn := by
  obtain ⟨iv, v, ar, f, th, fo, rC, rM, ho⟩ := I
  refine g_aload_n C dL_law_745 rfl (by first | rfl | exact isR_rf _) ?_
  refine g_aload_n C dL_law_746 rfl (by first | rfl | exact isR_rf _) ?_
  refine g_iload C dL_law_747 rfl ?_
  refine g_iconst C (v := nI 1) dL_law_749 (by decide) ?_
  first | with_reducible refine g_iaddN C dL_law_750 ?_ | refine g_iadd C dL_law_750 ?_
  refine g_sld C hX hbl hbA rfl (show 3 * i + 1 < L by omega) (by omega) dL_law_751 ?_
  refine g_aload_n C dL_law_752 rfl (by first | rfl | exact isR_rf _) ?_
  refine g_iload C dL_law_753 rfl ?_
  refine g_iconst C (v := nI 2) dL_law_755 (by decide) ?_
  first | with_reducible refine g_iaddN C dL_law_756 ?_ | refine g_iadd C dL_law_756 ?_
  refine g_sld C hX hbl hbA rfl (show 3 * i + 2 < L by omega) (by omega) dL_law_757 ?_
  refine g_aload_n C dL_law_758 rfl (by first | rfl | exact isR_rf _) ?_
  refine g_callSW (na := 4) C (W_canDo l Y hfl rC iv (ZM.h rM) ho _ _) w574 w0 w575 (by exact ⟨by decide, by decide, by decide +kernel⟩) w573 rfl rfl dL_law_759 (Nat.le_of_ble_eq_true rfl) (Nat.le_of_ble_eq_true rfl) (Nat.le_of_ble_eq_true rfl) (by show _ ≤ 601024; omega) (by show _ ≤ 7293034; omega) (fun vv h2 e2 => ?_)
  obtain ⟨rfl, h1, fo2, ⟨⟨v2, rC1⟩, hFK⟩, rfl, hfo⟩ := e2
  have ho1 := hFK _ _ ho rfl
  have rM2 := (rM.frK hFK).hupJ (fo2 := fo2) ho1
  have rC2 := rC1.hupJ (fo2 := fo2) ho1
  refine g_istore C dL_law_762 (by decide) ?_
  refine g_aload_n C dL_law_764 rfl (by first | rfl | exact isR_rf _) ?_
  refine g_aload_n C dL_law_765 rfl (by first | rfl | exact isR_rf _) ?_
  refine g_iload C dL_law_766 rfl ?_
  refine g_iconst C (v := nI 1) dL_law_768 (by decide) ?_
  first | with_reducible refine g_iaddN C dL_law_769 ?_ | refine g_iadd C dL_law_769 ?_
  refine g_sld C hX hbl hbA rfl (show 3 * i + 1 < L by omega) (by omega) dL_law_770 ?_
  refine g_aload_n C dL_law_771 rfl (by first | rfl | exact isR_rf _) ?_
  refine g_iload C dL_law_772 rfl ?_
  refine g_iconst C (v := nI 2) dL_law_774 (by decide) ?_
  first | with_reducible refine g_iaddN C dL_law_775 ?_ | refine g_iadd C dL_law_775 ?_
  refine g_sld C hX hbl hbA rfl (show 3 * i + 2 < L by omega) (by omega) dL_law_776 ?_
  refine g_callV C ((D_canDo l Y rM2 iv _ _).K) ok_X3_canDo w847 (rM2.x) rfl rfl rfl dL_law_777 (Nat.le_of_ble_eq_true rfl) (Nat.le_of_ble_eq_true rfl) (Nat.le_of_ble_eq_true rfl) (by show _ ≤ 601024; omega) (by show _ ≤ 7293034; omega) (fun vv h3 e3 => ?_)
  obtain ⟨rfl, f3, rM3, hFM⟩ := e3
  have rC3 := rC2.frM rM2 hFM
  have ho3 := ob_frM rM2 hFM hup_eq
  refine g_istore C dL_law_780 (by decide) ?_
  refine g_aload_n C dL_law_782 rfl (by first | rfl | exact isR_rf _) ?_
  refine g_callV C ((K_X3_thrown l Y rM3).K) ok_X3_thrown w704 (rM3.x) rfl rfl rfl dL_law_783 (Nat.le_of_ble_eq_true rfl) (Nat.le_of_ble_eq_true rfl) (Nat.le_of_ble_eq_true rfl) (by show _ ≤ 601024; omega) (by show _ ≤ 7293034; omega) (ofS ?_)
  refine g_iload C dL_law_786 rfl ?_
  refine g_icmp_eq C (tgt := 793) dL_law_788 (by decide) (fun q1 => ?_) (fun q1 => absurd rfl q1)
  have I2 := (⟨qR_inv iv _, v2, ar, f3, _, fo2, rC3, rM3, ho3⟩ : LwI Y x mm ob _ h3)
  have hb := (by first | exact bo_1 | exact bo_2 | exact bo_3 : (qR g (cdO g (xs (3 * i + 1)) (xs (3 * i + 2)))).2.1 = 0 ∨ (qR g (cdO g (xs (3 * i + 1)) (xs (3 * i + 2)))).2.1 = 1)
  refine g_iload C dL_law_793 rfl ?_
  refine g_if_ne C (tgt := 817) dL_law_795 (by decide) (fun q2 => ?_) (fun q2 => ?_)
  · refine g_goto C (tgt := 1628) dL_law_817 (by decide) ?_
    exact cont _ _ _ _ _ _ _ _ I2 (by omega) (by omega)
  · refine g_aload_n C dL_law_798 rfl (by first | rfl | exact isR_rf _) ?_
    refine g_iconst C (v := nI 0) dL_law_799 (by decide) ?_
    refine g_lald C ho3 rfl (by decide) (by decide) dL_law_800 ?_
    rw [hfo q2]
    refine g_iload C dL_law_801 rfl ?_
    rcases hb with hb | hb
    · rw [hb]
      refine g_if_eq C (tgt := 810) dL_law_803 (by decide) (fun q => ?_) (fun q => absurd rfl q)
      refine g_lconst C dL_law_810 rfl ?_
      refine g_lcmp C dL_law_811 ?_
      refine g_if_eq C (tgt := 817) dL_law_812 (by decide) (fun q3 => ?_) (fun q3 => absurd (by decide) q3)
      refine g_goto C (tgt := 1628) dL_law_817 (by decide) ?_
      exact cont _ _ _ _ _ _ _ _ I2 (by omega) (by omega)
    · rw [hb]
      refine g_if_eq C (tgt := 810) dL_law_803 (by decide) (fun q => absurd q (by decide)) (fun q => ?_)
      refine g_lconst C dL_law_806 rfl ?_
      refine g_goto C (tgt := 811) dL_law_807 (by decide) ?_
      refine g_lcmp C dL_law_811 ?_
      refine g_if_eq C (tgt := 817) dL_law_812 (by decide) (fun q3 => ?_) (fun q3 => absurd (by decide) q3)
      refine g_goto C (tgt := 1628) dL_law_817 (by decide) ?_
      exact cont _ _ _ _ _ _ _ _ I2 (by omega) (by omega)
set_option maxRecDepth 100000 in
set_option maxHeartbeats 4000000 in
theorem LC_hangsOn {p : Program} {l : Launch} {e : Env} {s : State} {m : MethodId} {args : Array Value} {below : List Frame} {meth : Method} {c : Code} {Q : State → Prop} {Y : YG} (C : Cx p s m args meth c Y cL_law 9 RL) (hfl : l.stackTraces = false) {b L : Nat} {xs : Nat → Int32} (hX : va_X b L xs s s.heap) (hbl : b < s.heap.size) (hbA : ¬ Y.A b) (hL : L ≤ 1536) {i x mm ob : Nat} {g : Sg} {h : AH} {kk nn : Nat} {w5 w6 w7 w8 : Option Value} (hi : 3 * i + 3 ≤ L) (I : LwI Y x mm ob g h) (hk : kk + 61 ≤ 601024) (hn : nn + 608 ≤ 7293034) (cont : ∀ (g2 : Sg) (h2 : AH) (k2 n2 : Nat) (u5 u6 u7 u8 : Option Value), LwI Y x mm ob g2 h2 → k2 ≤ kk + 61 → n2 ≤ nn + 608 → Gd p l e room_1 s m args below meth c Q Y 9 1628 (LL b x mm ob i u5 u6 u7 u8) [] h2 k2 n2) : Gd p l e room_1 s m args below meth c Q Y 9 820 (LL b x mm ob i w5 w6 w7 w8) [] h kk nn := by
  obtain ⟨iv, v, ar, f, th, fo, rC, rM, ho⟩ := I
  refine g_aload_n C dL_law_820 rfl (by first | rfl | exact isR_rf _) ?_
  refine g_aload_n C dL_law_821 rfl (by first | rfl | exact isR_rf _) ?_
  refine g_iload C dL_law_822 rfl ?_
  refine g_iconst C (v := nI 1) dL_law_824 (by decide) ?_
  first | with_reducible refine g_iaddN C dL_law_825 ?_ | refine g_iadd C dL_law_825 ?_
  refine g_sld C hX hbl hbA rfl (show 3 * i + 1 < L by omega) (by omega) dL_law_826 ?_
  refine g_aload_n C dL_law_827 rfl (by first | rfl | exact isR_rf _) ?_
  refine g_callSW (na := 3) C (W_hangsOn l Y hfl rC iv (ZM.h rM) ho _) w581 w0 w582 (by exact ⟨by decide, by decide, by decide +kernel⟩) w580 rfl rfl dL_law_828 (Nat.le_of_ble_eq_true rfl) (Nat.le_of_ble_eq_true rfl) (Nat.le_of_ble_eq_true rfl) (by show _ ≤ 601024; omega) (by show _ ≤ 7293034; omega) (fun vv h2 e2 => ?_)
  obtain ⟨rfl, h1, fo2, ⟨⟨v2, rC1⟩, hFK⟩, rfl, hfo⟩ := e2
  have ho1 := hFK _ _ ho rfl
  have rM2 := (rM.frK hFK).hupJ (fo2 := fo2) ho1
  have rC2 := rC1.hupJ (fo2 := fo2) ho1
  refine g_istore C dL_law_831 (by decide) ?_
  refine g_aload_n C dL_law_833 rfl (by first | rfl | exact isR_rf _) ?_
  refine g_aload_n C dL_law_834 rfl (by first | rfl | exact isR_rf _) ?_
  refine g_iload C dL_law_835 rfl ?_
  refine g_iconst C (v := nI 1) dL_law_837 (by decide) ?_
  first | with_reducible refine g_iaddN C dL_law_838 ?_ | refine g_iadd C dL_law_838 ?_
  refine g_sld C hX hbl hbA rfl (show 3 * i + 1 < L by omega) (by omega) dL_law_839 ?_
  refine g_callV C ((D_hangsOn l Y rM2 iv _).K) ok_X3_hangsOn w851 (rM2.x) rfl rfl rfl dL_law_840 (Nat.le_of_ble_eq_true rfl) (Nat.le_of_ble_eq_true rfl) (Nat.le_of_ble_eq_true rfl) (by show _ ≤ 601024; omega) (by show _ ≤ 7293034; omega) (fun vv h3 e3 => ?_)
  obtain ⟨rfl, f3, rM3, hFM⟩ := e3
  have rC3 := rC2.frM rM2 hFM
  have ho3 := ob_frM rM2 hFM hup_eq
  refine g_istore C dL_law_843 (by decide) ?_
  refine g_aload_n C dL_law_845 rfl (by first | rfl | exact isR_rf _) ?_
  refine g_callV C ((K_X3_thrown l Y rM3).K) ok_X3_thrown w704 (rM3.x) rfl rfl rfl dL_law_846 (Nat.le_of_ble_eq_true rfl) (Nat.le_of_ble_eq_true rfl) (Nat.le_of_ble_eq_true rfl) (by show _ ≤ 601024; omega) (by show _ ≤ 7293034; omega) (ofS ?_)
  refine g_iload C dL_law_849 rfl ?_
  refine g_icmp_eq C (tgt := 856) dL_law_851 (by decide) (fun q1 => ?_) (fun q1 => absurd rfl q1)
  have I2 := (⟨qR_inv iv _, v2, ar, f3, _, fo2, rC3, rM3, ho3⟩ : LwI Y x mm ob _ h3)
  refine g_iload C dL_law_856 rfl ?_
  refine g_if_ne C (tgt := 873) dL_law_858 (by decide) (fun q2 => ?_) (fun q2 => ?_)
  · refine g_goto C (tgt := 1628) dL_law_873 (by decide) ?_
    exact cont _ _ _ _ _ _ _ _ I2 (by omega) (by omega)
  · refine g_aload_n C dL_law_861 rfl (by first | rfl | exact isR_rf _) ?_
    refine g_iconst C (v := nI 0) dL_law_862 (by decide) ?_
    refine g_lald C ho3 rfl (by decide) (by decide) dL_law_863 ?_
    rw [hfo q2]
    refine g_iload C dL_law_864 rfl ?_
    refine g_i2l C dL_law_866 ?_
    refine g_lcmp C dL_law_867 ?_
    rw [lg_self]
    refine g_if_eq C (tgt := 873) dL_law_868 (by decide) (fun q3 => ?_) (fun q3 => absurd rfl q3)
    refine g_goto C (tgt := 1628) dL_law_873 (by decide) ?_
    exact cont _ _ _ _ _ _ _ _ I2 (by omega) (by omega)
set_option maxRecDepth 100000 in
set_option maxHeartbeats 4000000 in
theorem LC_kindOf {p : Program} {l : Launch} {e : Env} {s : State} {m : MethodId} {args : Array Value} {below : List Frame} {meth : Method} {c : Code} {Q : State → Prop} {Y : YG} (C : Cx p s m args meth c Y cL_law 9 RL) (hfl : l.stackTraces = false) {b L : Nat} {xs : Nat → Int32} (hX : va_X b L xs s s.heap) (hbl : b < s.heap.size) (hbA : ¬ Y.A b) (hL : L ≤ 1536) {i x mm ob : Nat} {g : Sg} {h : AH} {kk nn : Nat} {w5 w6 w7 w8 : Option Value} (hi : 3 * i + 3 ≤ L) (I : LwI Y x mm ob g h) (hk : kk + 61 ≤ 601024) (hn : nn + 608 ≤ 7293034) (cont : ∀ (g2 : Sg) (h2 : AH) (k2 n2 : Nat) (u5 u6 u7 u8 : Option Value), LwI Y x mm ob g2 h2 → k2 ≤ kk + 61 → n2 ≤ nn + 608 → Gd p l e room_1 s m args below meth c Q Y 9 1628 (LL b x mm ob i u5 u6 u7 u8) [] h2 k2 n2) : Gd p l e room_1 s m args below meth c Q Y 9 876 (LL b x mm ob i w5 w6 w7 w8) [] h kk nn := by
  obtain ⟨iv, v, ar, f, th, fo, rC, rM, ho⟩ := I
  refine g_aload_n C dL_law_876 rfl (by first | rfl | exact isR_rf _) ?_
  refine g_aload_n C dL_law_877 rfl (by first | rfl | exact isR_rf _) ?_
  refine g_iload C dL_law_878 rfl ?_
  refine g_iconst C (v := nI 1) dL_law_880 (by decide) ?_
  first | with_reducible refine g_iaddN C dL_law_881 ?_ | refine g_iadd C dL_law_881 ?_
  refine g_sld C hX hbl hbA rfl (show 3 * i + 1 < L by omega) (by omega) dL_law_882 ?_
  refine g_aload_n C dL_law_883 rfl (by first | rfl | exact isR_rf _) ?_
  refine g_callSW (na := 3) C (W_kindOf l Y hfl rC iv (ZM.h rM) ho _) w588 w0 w589 (by exact ⟨by decide, by decide, by decide +kernel⟩) w587 rfl rfl dL_law_884 (Nat.le_of_ble_eq_true rfl) (Nat.le_of_ble_eq_true rfl) (Nat.le_of_ble_eq_true rfl) (by show _ ≤ 601024; omega) (by show _ ≤ 7293034; omega) (fun vv h2 e2 => ?_)
  obtain ⟨rfl, h1, fo2, ⟨⟨v2, rC1⟩, hFK⟩, rfl, hfo⟩ := e2
  have ho1 := hFK _ _ ho rfl
  have rM2 := (rM.frK hFK).hupJ (fo2 := fo2) ho1
  have rC2 := rC1.hupJ (fo2 := fo2) ho1
  refine g_istore C dL_law_887 (by decide) ?_
  refine g_aload_n C dL_law_889 rfl (by first | rfl | exact isR_rf _) ?_
  refine g_aload_n C dL_law_890 rfl (by first | rfl | exact isR_rf _) ?_
  refine g_iload C dL_law_891 rfl ?_
  refine g_iconst C (v := nI 1) dL_law_893 (by decide) ?_
  first | with_reducible refine g_iaddN C dL_law_894 ?_ | refine g_iadd C dL_law_894 ?_
  refine g_sld C hX hbl hbA rfl (show 3 * i + 1 < L by omega) (by omega) dL_law_895 ?_
  refine g_callV C ((D_kindOf l Y rM2 iv _).K) ok_X3_kindOf w859 (rM2.x) rfl rfl rfl dL_law_896 (Nat.le_of_ble_eq_true rfl) (Nat.le_of_ble_eq_true rfl) (Nat.le_of_ble_eq_true rfl) (by show _ ≤ 601024; omega) (by show _ ≤ 7293034; omega) (fun vv h3 e3 => ?_)
  obtain ⟨rfl, f3, rM3, hFM⟩ := e3
  have rC3 := rC2.frM rM2 hFM
  have ho3 := ob_frM rM2 hFM hup_eq
  refine g_istore C dL_law_899 (by decide) ?_
  refine g_aload_n C dL_law_901 rfl (by first | rfl | exact isR_rf _) ?_
  refine g_callV C ((K_X3_thrown l Y rM3).K) ok_X3_thrown w704 (rM3.x) rfl rfl rfl dL_law_902 (Nat.le_of_ble_eq_true rfl) (Nat.le_of_ble_eq_true rfl) (Nat.le_of_ble_eq_true rfl) (by show _ ≤ 601024; omega) (by show _ ≤ 7293034; omega) (ofS ?_)
  refine g_iload C dL_law_905 rfl ?_
  refine g_icmp_eq C (tgt := 912) dL_law_907 (by decide) (fun q1 => ?_) (fun q1 => absurd rfl q1)
  have I2 := (⟨qR_inv iv _, v2, ar, f3, _, fo2, rC3, rM3, ho3⟩ : LwI Y x mm ob _ h3)
  refine g_iload C dL_law_912 rfl ?_
  refine g_if_ne C (tgt := 929) dL_law_914 (by decide) (fun q2 => ?_) (fun q2 => ?_)
  · refine g_goto C (tgt := 1628) dL_law_929 (by decide) ?_
    exact cont _ _ _ _ _ _ _ _ I2 (by omega) (by omega)
  · refine g_aload_n C dL_law_917 rfl (by first | rfl | exact isR_rf _) ?_
    refine g_iconst C (v := nI 0) dL_law_918 (by decide) ?_
    refine g_lald C ho3 rfl (by decide) (by decide) dL_law_919 ?_
    rw [hfo q2]
    refine g_iload C dL_law_920 rfl ?_
    refine g_i2l C dL_law_922 ?_
    refine g_lcmp C dL_law_923 ?_
    rw [lg_self]
    refine g_if_eq C (tgt := 929) dL_law_924 (by decide) (fun q3 => ?_) (fun q3 => absurd rfl q3)
    refine g_goto C (tgt := 1628) dL_law_929 (by decide) ?_
    exact cont _ _ _ _ _ _ _ _ I2 (by omega) (by omega)
set_option maxRecDepth 100000 in
set_option maxHeartbeats 4000000 in
theorem LC_numberOf {p : Program} {l : Launch} {e : Env} {s : State} {m : MethodId} {args : Array Value} {below : List Frame} {meth : Method} {c : Code} {Q : State → Prop} {Y : YG} (C : Cx p s m args meth c Y cL_law 9 RL) (hfl : l.stackTraces = false) {b L : Nat} {xs : Nat → Int32} (hX : va_X b L xs s s.heap) (hbl : b < s.heap.size) (hbA : ¬ Y.A b) (hL : L ≤ 1536) {i x mm ob : Nat} {g : Sg} {h : AH} {kk nn : Nat} {w5 w6 w7 w8 : Option Value} (hi : 3 * i + 3 ≤ L) (I : LwI Y x mm ob g h) (hk : kk + 61 ≤ 601024) (hn : nn + 608 ≤ 7293034) (cont : ∀ (g2 : Sg) (h2 : AH) (k2 n2 : Nat) (u5 u6 u7 u8 : Option Value), LwI Y x mm ob g2 h2 → k2 ≤ kk + 61 → n2 ≤ nn + 608 → Gd p l e room_1 s m args below meth c Q Y 9 1628 (LL b x mm ob i u5 u6 u7 u8) [] h2 k2 n2) : Gd p l e room_1 s m args below meth c Q Y 9 932 (LL b x mm ob i w5 w6 w7 w8) [] h kk nn := by
  obtain ⟨iv, v, ar, f, th, fo, rC, rM, ho⟩ := I
  refine g_aload_n C dL_law_932 rfl (by first | rfl | exact isR_rf _) ?_
  refine g_aload_n C dL_law_933 rfl (by first | rfl | exact isR_rf _) ?_
  refine g_iload C dL_law_934 rfl ?_
  refine g_iconst C (v := nI 1) dL_law_936 (by decide) ?_
  first | with_reducible refine g_iaddN C dL_law_937 ?_ | refine g_iadd C dL_law_937 ?_
  refine g_sld C hX hbl hbA rfl (show 3 * i + 1 < L by omega) (by omega) dL_law_938 ?_
  refine g_aload_n C dL_law_939 rfl (by first | rfl | exact isR_rf _) ?_
  refine g_callSW (na := 3) C (W_numberOf l Y hfl rC iv (ZM.h rM) ho _) w595 w0 w596 (by exact ⟨by decide, by decide, by decide +kernel⟩) w594 rfl rfl dL_law_940 (Nat.le_of_ble_eq_true rfl) (Nat.le_of_ble_eq_true rfl) (Nat.le_of_ble_eq_true rfl) (by show _ ≤ 601024; omega) (by show _ ≤ 7293034; omega) (fun vv h2 e2 => ?_)
  obtain ⟨rfl, h1, fo2, ⟨⟨v2, rC1⟩, hFK⟩, rfl, hfo⟩ := e2
  have ho1 := hFK _ _ ho rfl
  have rM2 := (rM.frK hFK).hupJ (fo2 := fo2) ho1
  have rC2 := rC1.hupJ (fo2 := fo2) ho1
  refine g_istore C dL_law_943 (by decide) ?_
  refine g_aload_n C dL_law_945 rfl (by first | rfl | exact isR_rf _) ?_
  refine g_aload_n C dL_law_946 rfl (by first | rfl | exact isR_rf _) ?_
  refine g_iload C dL_law_947 rfl ?_
  refine g_iconst C (v := nI 1) dL_law_949 (by decide) ?_
  first | with_reducible refine g_iaddN C dL_law_950 ?_ | refine g_iadd C dL_law_950 ?_
  refine g_sld C hX hbl hbA rfl (show 3 * i + 1 < L by omega) (by omega) dL_law_951 ?_
  refine g_callV C ((D_numberOf l Y rM2 iv _).K) ok_X3_numberOf w863 (rM2.x) rfl rfl rfl dL_law_952 (Nat.le_of_ble_eq_true rfl) (Nat.le_of_ble_eq_true rfl) (Nat.le_of_ble_eq_true rfl) (by show _ ≤ 601024; omega) (by show _ ≤ 7293034; omega) (fun vv h3 e3 => ?_)
  obtain ⟨rfl, f3, rM3, hFM⟩ := e3
  have rC3 := rC2.frM rM2 hFM
  have ho3 := ob_frM rM2 hFM hup_eq
  refine g_istore C dL_law_955 (by decide) ?_
  refine g_aload_n C dL_law_957 rfl (by first | rfl | exact isR_rf _) ?_
  refine g_callV C ((K_X3_thrown l Y rM3).K) ok_X3_thrown w704 (rM3.x) rfl rfl rfl dL_law_958 (Nat.le_of_ble_eq_true rfl) (Nat.le_of_ble_eq_true rfl) (Nat.le_of_ble_eq_true rfl) (by show _ ≤ 601024; omega) (by show _ ≤ 7293034; omega) (ofS ?_)
  refine g_iload C dL_law_961 rfl ?_
  refine g_icmp_eq C (tgt := 968) dL_law_963 (by decide) (fun q1 => ?_) (fun q1 => absurd rfl q1)
  have I2 := (⟨qR_inv iv _, v2, ar, f3, _, fo2, rC3, rM3, ho3⟩ : LwI Y x mm ob _ h3)
  refine g_iload C dL_law_968 rfl ?_
  refine g_if_ne C (tgt := 985) dL_law_970 (by decide) (fun q2 => ?_) (fun q2 => ?_)
  · refine g_goto C (tgt := 1628) dL_law_985 (by decide) ?_
    exact cont _ _ _ _ _ _ _ _ I2 (by omega) (by omega)
  · refine g_aload_n C dL_law_973 rfl (by first | rfl | exact isR_rf _) ?_
    refine g_iconst C (v := nI 0) dL_law_974 (by decide) ?_
    refine g_lald C ho3 rfl (by decide) (by decide) dL_law_975 ?_
    rw [hfo q2]
    refine g_iload C dL_law_976 rfl ?_
    refine g_i2l C dL_law_978 ?_
    refine g_lcmp C dL_law_979 ?_
    rw [lg_self]
    refine g_if_eq C (tgt := 985) dL_law_980 (by decide) (fun q3 => ?_) (fun q3 => absurd rfl q3)
    refine g_goto C (tgt := 1628) dL_law_985 (by decide) ?_
    exact cont _ _ _ _ _ _ _ _ I2 (by omega) (by omega)
set_option maxRecDepth 100000 in
set_option maxHeartbeats 4000000 in
theorem LC_depthOf {p : Program} {l : Launch} {e : Env} {s : State} {m : MethodId} {args : Array Value} {below : List Frame} {meth : Method} {c : Code} {Q : State → Prop} {Y : YG} (C : Cx p s m args meth c Y cL_law 9 RL) (hfl : l.stackTraces = false) {b L : Nat} {xs : Nat → Int32} (hX : va_X b L xs s s.heap) (hbl : b < s.heap.size) (hbA : ¬ Y.A b) (hL : L ≤ 1536) {i x mm ob : Nat} {g : Sg} {h : AH} {kk nn : Nat} {w5 w6 w7 w8 : Option Value} (hi : 3 * i + 3 ≤ L) (I : LwI Y x mm ob g h) (hk : kk + 61 ≤ 601024) (hn : nn + 608 ≤ 7293034) (cont : ∀ (g2 : Sg) (h2 : AH) (k2 n2 : Nat) (u5 u6 u7 u8 : Option Value), LwI Y x mm ob g2 h2 → k2 ≤ kk + 61 → n2 ≤ nn + 608 → Gd p l e room_1 s m args below meth c Q Y 9 1628 (LL b x mm ob i u5 u6 u7 u8) [] h2 k2 n2) : Gd p l e room_1 s m args below meth c Q Y 9 988 (LL b x mm ob i w5 w6 w7 w8) [] h kk nn := by
  obtain ⟨iv, v, ar, f, th, fo, rC, rM, ho⟩ := I
  refine g_aload_n C dL_law_988 rfl (by first | rfl | exact isR_rf _) ?_
  refine g_aload_n C dL_law_989 rfl (by first | rfl | exact isR_rf _) ?_
  refine g_iload C dL_law_990 rfl ?_
  refine g_iconst C (v := nI 1) dL_law_992 (by decide) ?_
  first | with_reducible refine g_iaddN C dL_law_993 ?_ | refine g_iadd C dL_law_993 ?_
  refine g_sld C hX hbl hbA rfl (show 3 * i + 1 < L by omega) (by omega) dL_law_994 ?_
  refine g_aload_n C dL_law_995 rfl (by first | rfl | exact isR_rf _) ?_
  refine g_callSW (na := 3) C (W_depthOf l Y hfl rC iv (ZM.h rM) ho _) w602 w0 w603 (by exact ⟨by decide, by decide, by decide +kernel⟩) w601 rfl rfl dL_law_996 (Nat.le_of_ble_eq_true rfl) (Nat.le_of_ble_eq_true rfl) (Nat.le_of_ble_eq_true rfl) (by show _ ≤ 601024; omega) (by show _ ≤ 7293034; omega) (fun vv h2 e2 => ?_)
  obtain ⟨rfl, h1, fo2, ⟨⟨v2, rC1⟩, hFK⟩, rfl, hfo⟩ := e2
  have ho1 := hFK _ _ ho rfl
  have rM2 := (rM.frK hFK).hupJ (fo2 := fo2) ho1
  have rC2 := rC1.hupJ (fo2 := fo2) ho1
  refine g_istore C dL_law_999 (by decide) ?_
  refine g_aload_n C dL_law_1001 rfl (by first | rfl | exact isR_rf _) ?_
  refine g_aload_n C dL_law_1002 rfl (by first | rfl | exact isR_rf _) ?_
  refine g_iload C dL_law_1003 rfl ?_
  refine g_iconst C (v := nI 1) dL_law_1005 (by decide) ?_
  first | with_reducible refine g_iaddN C dL_law_1006 ?_ | refine g_iadd C dL_law_1006 ?_
  refine g_sld C hX hbl hbA rfl (show 3 * i + 1 < L by omega) (by omega) dL_law_1007 ?_
  refine g_callV C ((D_depthOf l Y rM2 iv _).K) ok_X3_depthOf w867 (rM2.x) rfl rfl rfl dL_law_1008 (Nat.le_of_ble_eq_true rfl) (Nat.le_of_ble_eq_true rfl) (Nat.le_of_ble_eq_true rfl) (by show _ ≤ 601024; omega) (by show _ ≤ 7293034; omega) (fun vv h3 e3 => ?_)
  obtain ⟨rfl, f3, rM3, hFM⟩ := e3
  have rC3 := rC2.frM rM2 hFM
  have ho3 := ob_frM rM2 hFM hup_eq
  refine g_istore C dL_law_1011 (by decide) ?_
  refine g_aload_n C dL_law_1013 rfl (by first | rfl | exact isR_rf _) ?_
  refine g_callV C ((K_X3_thrown l Y rM3).K) ok_X3_thrown w704 (rM3.x) rfl rfl rfl dL_law_1014 (Nat.le_of_ble_eq_true rfl) (Nat.le_of_ble_eq_true rfl) (Nat.le_of_ble_eq_true rfl) (by show _ ≤ 601024; omega) (by show _ ≤ 7293034; omega) (ofS ?_)
  refine g_iload C dL_law_1017 rfl ?_
  refine g_icmp_eq C (tgt := 1024) dL_law_1019 (by decide) (fun q1 => ?_) (fun q1 => absurd rfl q1)
  have I2 := (⟨qR_inv iv _, v2, ar, f3, _, fo2, rC3, rM3, ho3⟩ : LwI Y x mm ob _ h3)
  refine g_iload C dL_law_1024 rfl ?_
  refine g_if_ne C (tgt := 1041) dL_law_1026 (by decide) (fun q2 => ?_) (fun q2 => ?_)
  · refine g_goto C (tgt := 1628) dL_law_1041 (by decide) ?_
    exact cont _ _ _ _ _ _ _ _ I2 (by omega) (by omega)
  · refine g_aload_n C dL_law_1029 rfl (by first | rfl | exact isR_rf _) ?_
    refine g_iconst C (v := nI 0) dL_law_1030 (by decide) ?_
    refine g_lald C ho3 rfl (by decide) (by decide) dL_law_1031 ?_
    rw [hfo q2]
    refine g_iload C dL_law_1032 rfl ?_
    refine g_i2l C dL_law_1034 ?_
    refine g_lcmp C dL_law_1035 ?_
    rw [lg_self]
    refine g_if_eq C (tgt := 1041) dL_law_1036 (by decide) (fun q3 => ?_) (fun q3 => absurd rfl q3)
    refine g_goto C (tgt := 1628) dL_law_1041 (by decide) ?_
    exact cont _ _ _ _ _ _ _ _ I2 (by omega) (by omega)
set_option maxRecDepth 100000 in
set_option maxHeartbeats 4000000 in
theorem LC_branches {p : Program} {l : Launch} {e : Env} {s : State} {m : MethodId} {args : Array Value} {below : List Frame} {meth : Method} {c : Code} {Q : State → Prop} {Y : YG} (C : Cx p s m args meth c Y cL_law 9 RL) (hfl : l.stackTraces = false) {b L : Nat} {xs : Nat → Int32} (hX : va_X b L xs s s.heap) (hbl : b < s.heap.size) (hbA : ¬ Y.A b) (hL : L ≤ 1536) {i x mm ob : Nat} {g : Sg} {h : AH} {kk nn : Nat} {w5 w6 w7 w8 : Option Value} (hi : 3 * i + 3 ≤ L) (I : LwI Y x mm ob g h) (hk : kk + 61 ≤ 601024) (hn : nn + 608 ≤ 7293034) (cont : ∀ (g2 : Sg) (h2 : AH) (k2 n2 : Nat) (u5 u6 u7 u8 : Option Value), LwI Y x mm ob g2 h2 → k2 ≤ kk + 61 → n2 ≤ nn + 608 → Gd p l e room_1 s m args below meth c Q Y 9 1628 (LL b x mm ob i u5 u6 u7 u8) [] h2 k2 n2) : Gd p l e room_1 s m args below meth c Q Y 9 1044 (LL b x mm ob i w5 w6 w7 w8) [] h kk nn := by
  obtain ⟨iv, v, ar, f, th, fo, rC, rM, ho⟩ := I
  refine g_aload_n C dL_law_1044 rfl (by first | rfl | exact isR_rf _) ?_
  refine g_aload_n C dL_law_1045 rfl (by first | rfl | exact isR_rf _) ?_
  refine g_iload C dL_law_1046 rfl ?_
  refine g_iconst C (v := nI 1) dL_law_1048 (by decide) ?_
  first | with_reducible refine g_iaddN C dL_law_1049 ?_ | refine g_iadd C dL_law_1049 ?_
  refine g_sld C hX hbl hbA rfl (show 3 * i + 1 < L by omega) (by omega) dL_law_1050 ?_
  refine g_aload_n C dL_law_1051 rfl (by first | rfl | exact isR_rf _) ?_
  refine g_callSW (na := 3) C (W_branches l Y hfl rC iv (ZM.h rM) ho _) w609 w0 w610 (by exact ⟨by decide, by decide, by decide +kernel⟩) w608 rfl rfl dL_law_1052 (Nat.le_of_ble_eq_true rfl) (Nat.le_of_ble_eq_true rfl) (Nat.le_of_ble_eq_true rfl) (by show _ ≤ 601024; omega) (by show _ ≤ 7293034; omega) (fun vv h2 e2 => ?_)
  obtain ⟨rfl, h1, fo2, ⟨⟨v2, rC1⟩, hFK⟩, rfl, hfo⟩ := e2
  have ho1 := hFK _ _ ho rfl
  have rM2 := (rM.frK hFK).hupJ (fo2 := fo2) ho1
  have rC2 := rC1.hupJ (fo2 := fo2) ho1
  refine g_istore C dL_law_1055 (by decide) ?_
  refine g_aload_n C dL_law_1057 rfl (by first | rfl | exact isR_rf _) ?_
  refine g_aload_n C dL_law_1058 rfl (by first | rfl | exact isR_rf _) ?_
  refine g_iload C dL_law_1059 rfl ?_
  refine g_iconst C (v := nI 1) dL_law_1061 (by decide) ?_
  first | with_reducible refine g_iaddN C dL_law_1062 ?_ | refine g_iadd C dL_law_1062 ?_
  refine g_sld C hX hbl hbA rfl (show 3 * i + 1 < L by omega) (by omega) dL_law_1063 ?_
  refine g_callV C ((D_branches l Y rM2 iv _).K) ok_X3_branches w875 (rM2.x) rfl rfl rfl dL_law_1064 (Nat.le_of_ble_eq_true rfl) (Nat.le_of_ble_eq_true rfl) (Nat.le_of_ble_eq_true rfl) (by show _ ≤ 601024; omega) (by show _ ≤ 7293034; omega) (fun vv h3 e3 => ?_)
  obtain ⟨rfl, f3, rM3, hFM⟩ := e3
  have rC3 := rC2.frM rM2 hFM
  have ho3 := ob_frM rM2 hFM hup_eq
  refine g_istore C dL_law_1067 (by decide) ?_
  refine g_aload_n C dL_law_1069 rfl (by first | rfl | exact isR_rf _) ?_
  refine g_callV C ((K_X3_thrown l Y rM3).K) ok_X3_thrown w704 (rM3.x) rfl rfl rfl dL_law_1070 (Nat.le_of_ble_eq_true rfl) (Nat.le_of_ble_eq_true rfl) (Nat.le_of_ble_eq_true rfl) (by show _ ≤ 601024; omega) (by show _ ≤ 7293034; omega) (ofS ?_)
  refine g_iload C dL_law_1073 rfl ?_
  refine g_icmp_eq C (tgt := 1080) dL_law_1075 (by decide) (fun q1 => ?_) (fun q1 => absurd rfl q1)
  have I2 := (⟨qR_inv iv _, v2, ar, f3, _, fo2, rC3, rM3, ho3⟩ : LwI Y x mm ob _ h3)
  refine g_iload C dL_law_1080 rfl ?_
  refine g_if_ne C (tgt := 1097) dL_law_1082 (by decide) (fun q2 => ?_) (fun q2 => ?_)
  · refine g_goto C (tgt := 1628) dL_law_1097 (by decide) ?_
    exact cont _ _ _ _ _ _ _ _ I2 (by omega) (by omega)
  · refine g_aload_n C dL_law_1085 rfl (by first | rfl | exact isR_rf _) ?_
    refine g_iconst C (v := nI 0) dL_law_1086 (by decide) ?_
    refine g_lald C ho3 rfl (by decide) (by decide) dL_law_1087 ?_
    rw [hfo q2]
    refine g_iload C dL_law_1088 rfl ?_
    refine g_i2l C dL_law_1090 ?_
    refine g_lcmp C dL_law_1091 ?_
    rw [lg_self]
    refine g_if_eq C (tgt := 1097) dL_law_1092 (by decide) (fun q3 => ?_) (fun q3 => absurd rfl q3)
    refine g_goto C (tgt := 1628) dL_law_1097 (by decide) ?_
    exact cont _ _ _ _ _ _ _ _ I2 (by omega) (by omega)
set_option maxRecDepth 100000 in
set_option maxHeartbeats 4000000 in
theorem LC_behind {p : Program} {l : Launch} {e : Env} {s : State} {m : MethodId} {args : Array Value} {below : List Frame} {meth : Method} {c : Code} {Q : State → Prop} {Y : YG} (C : Cx p s m args meth c Y cL_law 9 RL) (hfl : l.stackTraces = false) {b L : Nat} {xs : Nat → Int32} (hX : va_X b L xs s s.heap) (hbl : b < s.heap.size) (hbA : ¬ Y.A b) (hL : L ≤ 1536) {i x mm ob : Nat} {g : Sg} {h : AH} {kk nn : Nat} {w5 w6 w7 w8 : Option Value} (hi : 3 * i + 3 ≤ L) (I : LwI Y x mm ob g h) (hk : kk + 61 ≤ 601024) (hn : nn + 608 ≤ 7293034) (cont : ∀ (g2 : Sg) (h2 : AH) (k2 n2 : Nat) (u5 u6 u7 u8 : Option Value), LwI Y x mm ob g2 h2 → k2 ≤ kk + 61 → n2 ≤ nn + 608 → Gd p l e room_1 s m args below meth c Q Y 9 1628 (LL b x mm ob i u5 u6 u7 u8) [] h2 k2 n2) : Gd p l e room_1 s m args below meth c Q Y 9 1100 (LL b x mm ob i w5 w6 w7 w8) [] h kk nn := by
  obtain ⟨iv, v, ar, f, th, fo, rC, rM, ho⟩ := I
  refine g_aload_n C dL_law_1100 rfl (by first | rfl | exact isR_rf _) ?_
  refine g_aload_n C dL_law_1101 rfl (by first | rfl | exact isR_rf _) ?_
  refine g_iload C dL_law_1102 rfl ?_
  refine g_iconst C (v := nI 1) dL_law_1104 (by decide) ?_
  first | with_reducible refine g_iaddN C dL_law_1105 ?_ | refine g_iadd C dL_law_1105 ?_
  refine g_sld C hX hbl hbA rfl (show 3 * i + 1 < L by omega) (by omega) dL_law_1106 ?_
  refine g_aload_n C dL_law_1107 rfl (by first | rfl | exact isR_rf _) ?_
  refine g_callSW (na := 3) C (W_behind l Y hfl rC iv (ZM.h rM) ho _) w616 w0 w617 (by exact ⟨by decide, by decide, by decide +kernel⟩) w615 rfl rfl dL_law_1108 (Nat.le_of_ble_eq_true rfl) (Nat.le_of_ble_eq_true rfl) (Nat.le_of_ble_eq_true rfl) (by show _ ≤ 601024; omega) (by show _ ≤ 7293034; omega) (fun vv h2 e2 => ?_)
  obtain ⟨rfl, h1, fo2, ⟨⟨v2, rC1⟩, hFK⟩, rfl, hfo⟩ := e2
  have ho1 := hFK _ _ ho rfl
  have rM2 := (rM.frK hFK).hupJ (fo2 := fo2) ho1
  have rC2 := rC1.hupJ (fo2 := fo2) ho1
  refine g_istore C dL_law_1111 (by decide) ?_
  refine g_aload_n C dL_law_1113 rfl (by first | rfl | exact isR_rf _) ?_
  refine g_aload_n C dL_law_1114 rfl (by first | rfl | exact isR_rf _) ?_
  refine g_iload C dL_law_1115 rfl ?_
  refine g_iconst C (v := nI 1) dL_law_1117 (by decide) ?_
  first | with_reducible refine g_iaddN C dL_law_1118 ?_ | refine g_iadd C dL_law_1118 ?_
  refine g_sld C hX hbl hbA rfl (show 3 * i + 1 < L by omega) (by omega) dL_law_1119 ?_
  refine g_callV C ((D_behind l Y rM2 iv _).K) ok_X3_behind w883 (rM2.x) rfl rfl rfl dL_law_1120 (Nat.le_of_ble_eq_true rfl) (Nat.le_of_ble_eq_true rfl) (Nat.le_of_ble_eq_true rfl) (by show _ ≤ 601024; omega) (by show _ ≤ 7293034; omega) (fun vv h3 e3 => ?_)
  obtain ⟨rfl, f3, rM3, hFM⟩ := e3
  have rC3 := rC2.frM rM2 hFM
  have ho3 := ob_frM rM2 hFM hup_eq
  refine g_istore C dL_law_1123 (by decide) ?_
  refine g_aload_n C dL_law_1125 rfl (by first | rfl | exact isR_rf _) ?_
  refine g_callV C ((K_X3_thrown l Y rM3).K) ok_X3_thrown w704 (rM3.x) rfl rfl rfl dL_law_1126 (Nat.le_of_ble_eq_true rfl) (Nat.le_of_ble_eq_true rfl) (Nat.le_of_ble_eq_true rfl) (by show _ ≤ 601024; omega) (by show _ ≤ 7293034; omega) (ofS ?_)
  refine g_iload C dL_law_1129 rfl ?_
  refine g_icmp_eq C (tgt := 1136) dL_law_1131 (by decide) (fun q1 => ?_) (fun q1 => absurd rfl q1)
  have I2 := (⟨qR_inv iv _, v2, ar, f3, _, fo2, rC3, rM3, ho3⟩ : LwI Y x mm ob _ h3)
  refine g_iload C dL_law_1136 rfl ?_
  refine g_if_ne C (tgt := 1153) dL_law_1138 (by decide) (fun q2 => ?_) (fun q2 => ?_)
  · refine g_goto C (tgt := 1628) dL_law_1153 (by decide) ?_
    exact cont _ _ _ _ _ _ _ _ I2 (by omega) (by omega)
  · refine g_aload_n C dL_law_1141 rfl (by first | rfl | exact isR_rf _) ?_
    refine g_iconst C (v := nI 0) dL_law_1142 (by decide) ?_
    refine g_lald C ho3 rfl (by decide) (by decide) dL_law_1143 ?_
    rw [hfo q2]
    refine g_iload C dL_law_1144 rfl ?_
    refine g_i2l C dL_law_1146 ?_
    refine g_lcmp C dL_law_1147 ?_
    rw [lg_self]
    refine g_if_eq C (tgt := 1153) dL_law_1148 (by decide) (fun q3 => ?_) (fun q3 => absurd rfl q3)
    refine g_goto C (tgt := 1628) dL_law_1153 (by decide) ?_
    exact cont _ _ _ _ _ _ _ _ I2 (by omega) (by omega)
set_option maxRecDepth 100000 in
set_option maxHeartbeats 4000000 in
theorem LC_again {p : Program} {l : Launch} {e : Env} {s : State} {m : MethodId} {args : Array Value} {below : List Frame} {meth : Method} {c : Code} {Q : State → Prop} {Y : YG} (C : Cx p s m args meth c Y cL_law 9 RL) (hfl : l.stackTraces = false) {b L : Nat} {xs : Nat → Int32} (hX : va_X b L xs s s.heap) (hbl : b < s.heap.size) (hbA : ¬ Y.A b) (hL : L ≤ 1536) {i x mm ob : Nat} {g : Sg} {h : AH} {kk nn : Nat} {w5 w6 w7 w8 : Option Value} (hi : 3 * i + 3 ≤ L) (I : LwI Y x mm ob g h) (hk : kk + 61 ≤ 601024) (hn : nn + 608 ≤ 7293034) (cont : ∀ (g2 : Sg) (h2 : AH) (k2 n2 : Nat) (u5 u6 u7 u8 : Option Value), LwI Y x mm ob g2 h2 → k2 ≤ kk + 61 → n2 ≤ nn + 608 → Gd p l e room_1 s m args below meth c Q Y 9 1628 (LL b x mm ob i u5 u6 u7 u8) [] h2 k2 n2) : Gd p l e room_1 s m args below meth c Q Y 9 1156 (LL b x mm ob i w5 w6 w7 w8) [] h kk nn := by
  obtain ⟨iv, v, ar, f, th, fo, rC, rM, ho⟩ := I
  refine g_aload_n C dL_law_1156 rfl (by first | rfl | exact isR_rf _) ?_
  refine g_aload_n C dL_law_1157 rfl (by first | rfl | exact isR_rf _) ?_
  refine g_iload C dL_law_1158 rfl ?_
  refine g_iconst C (v := nI 1) dL_law_1160 (by decide) ?_
  first | with_reducible refine g_iaddN C dL_law_1161 ?_ | refine g_iadd C dL_law_1161 ?_
  refine g_sld C hX hbl hbA rfl (show 3 * i + 1 < L by omega) (by omega) dL_law_1162 ?_
  refine g_aload_n C dL_law_1163 rfl (by first | rfl | exact isR_rf _) ?_
  refine g_callSW (na := 3) C (W_again l Y hfl rC iv (ZM.h rM) ho _) w623 w0 w624 (by exact ⟨by decide, by decide, by decide +kernel⟩) w622 rfl rfl dL_law_1164 (Nat.le_of_ble_eq_true rfl) (Nat.le_of_ble_eq_true rfl) (Nat.le_of_ble_eq_true rfl) (by show _ ≤ 601024; omega) (by show _ ≤ 7293034; omega) (fun vv h2 e2 => ?_)
  obtain ⟨rfl, h1, fo2, ⟨⟨v2, rC1⟩, hFK⟩, rfl, hfo⟩ := e2
  have ho1 := hFK _ _ ho rfl
  have rM2 := (rM.frK hFK).hupJ (fo2 := fo2) ho1
  have rC2 := rC1.hupJ (fo2 := fo2) ho1
  refine g_istore C dL_law_1167 (by decide) ?_
  refine g_aload_n C dL_law_1169 rfl (by first | rfl | exact isR_rf _) ?_
  refine g_aload_n C dL_law_1170 rfl (by first | rfl | exact isR_rf _) ?_
  refine g_iload C dL_law_1171 rfl ?_
  refine g_iconst C (v := nI 1) dL_law_1173 (by decide) ?_
  first | with_reducible refine g_iaddN C dL_law_1174 ?_ | refine g_iadd C dL_law_1174 ?_
  refine g_sld C hX hbl hbA rfl (show 3 * i + 1 < L by omega) (by omega) dL_law_1175 ?_
  refine g_callV C ((D_again l Y rM2 iv _).K) ok_X3_again w871 (rM2.x) rfl rfl rfl dL_law_1176 (Nat.le_of_ble_eq_true rfl) (Nat.le_of_ble_eq_true rfl) (Nat.le_of_ble_eq_true rfl) (by show _ ≤ 601024; omega) (by show _ ≤ 7293034; omega) (fun vv h3 e3 => ?_)
  obtain ⟨rfl, f3, rM3, hFM⟩ := e3
  have rC3 := rC2.frM rM2 hFM
  have ho3 := ob_frM rM2 hFM hup_eq
  refine g_istore C dL_law_1179 (by decide) ?_
  refine g_aload_n C dL_law_1181 rfl (by first | rfl | exact isR_rf _) ?_
  refine g_callV C ((K_X3_thrown l Y rM3).K) ok_X3_thrown w704 (rM3.x) rfl rfl rfl dL_law_1182 (Nat.le_of_ble_eq_true rfl) (Nat.le_of_ble_eq_true rfl) (Nat.le_of_ble_eq_true rfl) (by show _ ≤ 601024; omega) (by show _ ≤ 7293034; omega) (ofS ?_)
  refine g_iload C dL_law_1185 rfl ?_
  refine g_icmp_eq C (tgt := 1192) dL_law_1187 (by decide) (fun q1 => ?_) (fun q1 => absurd rfl q1)
  have I2 := (⟨qR_inv iv _, v2, ar, f3, _, fo2, rC3, rM3, ho3⟩ : LwI Y x mm ob _ h3)
  refine g_iload C dL_law_1192 rfl ?_
  refine g_if_ne C (tgt := 1209) dL_law_1194 (by decide) (fun q2 => ?_) (fun q2 => ?_)
  · refine g_goto C (tgt := 1628) dL_law_1209 (by decide) ?_
    exact cont _ _ _ _ _ _ _ _ I2 (by omega) (by omega)
  · refine g_aload_n C dL_law_1197 rfl (by first | rfl | exact isR_rf _) ?_
    refine g_iconst C (v := nI 0) dL_law_1198 (by decide) ?_
    refine g_lald C ho3 rfl (by decide) (by decide) dL_law_1199 ?_
    rw [hfo q2]
    refine g_iload C dL_law_1200 rfl ?_
    refine g_i2l C dL_law_1202 ?_
    refine g_lcmp C dL_law_1203 ?_
    rw [lg_self]
    refine g_if_eq C (tgt := 1209) dL_law_1204 (by decide) (fun q3 => ?_) (fun q3 => absurd rfl q3)
    refine g_goto C (tgt := 1628) dL_law_1209 (by decide) ?_
    exact cont _ _ _ _ _ _ _ _ I2 (by omega) (by omega)
set_option maxRecDepth 100000 in
set_option maxHeartbeats 4000000 in
theorem LC_meet {p : Program} {l : Launch} {e : Env} {s : State} {m : MethodId} {args : Array Value} {below : List Frame} {meth : Method} {c : Code} {Q : State → Prop} {Y : YG} (C : Cx p s m args meth c Y cL_law 9 RL) (hfl : l.stackTraces = false) {b L : Nat} {xs : Nat → Int32} (hX : va_X b L xs s s.heap) (hbl : b < s.heap.size) (hbA : ¬ Y.A b) (hL : L ≤ 1536) {i x mm ob : Nat} {g : Sg} {h : AH} {kk nn : Nat} {w5 w6 w7 w8 : Option Value} (hi : 3 * i + 3 ≤ L) (I : LwI Y x mm ob g h) (hk : kk + 61 ≤ 601024) (hn : nn + 608 ≤ 7293034) (cont : ∀ (g2 : Sg) (h2 : AH) (k2 n2 : Nat) (u5 u6 u7 u8 : Option Value), LwI Y x mm ob g2 h2 → k2 ≤ kk + 61 → n2 ≤ nn + 608 → Gd p l e room_1 s m args below meth c Q Y 9 1628 (LL b x mm ob i u5 u6 u7 u8) [] h2 k2 n2) : Gd p l e room_1 s m args below meth c Q Y 9 1212 (LL b x mm ob i w5 w6 w7 w8) [] h kk nn := by
  obtain ⟨iv, v, ar, f, th, fo, rC, rM, ho⟩ := I
  refine g_aload_n C dL_law_1212 rfl (by first | rfl | exact isR_rf _) ?_
  refine g_aload_n C dL_law_1213 rfl (by first | rfl | exact isR_rf _) ?_
  refine g_iload C dL_law_1214 rfl ?_
  refine g_iconst C (v := nI 1) dL_law_1216 (by decide) ?_
  first | with_reducible refine g_iaddN C dL_law_1217 ?_ | refine g_iadd C dL_law_1217 ?_
  refine g_sld C hX hbl hbA rfl (show 3 * i + 1 < L by omega) (by omega) dL_law_1218 ?_
  refine g_aload_n C dL_law_1219 rfl (by first | rfl | exact isR_rf _) ?_
  refine g_iload C dL_law_1220 rfl ?_
  refine g_iconst C (v := nI 2) dL_law_1222 (by decide) ?_
  first | with_reducible refine g_iaddN C dL_law_1223 ?_ | refine g_iadd C dL_law_1223 ?_
  refine g_sld C hX hbl hbA rfl (show 3 * i + 2 < L by omega) (by omega) dL_law_1224 ?_
  refine g_aload_n C dL_law_1225 rfl (by first | rfl | exact isR_rf _) ?_
  refine g_callSW (na := 4) C (W_meet l Y hfl rC iv (ZM.h rM) ho _ _) w630 w0 w631 (by exact ⟨by decide, by decide, by decide +kernel⟩) w629 rfl rfl dL_law_1226 (Nat.le_of_ble_eq_true rfl) (Nat.le_of_ble_eq_true rfl) (Nat.le_of_ble_eq_true rfl) (by show _ ≤ 601024; omega) (by show _ ≤ 7293034; omega) (fun vv h2 e2 => ?_)
  obtain ⟨rfl, h1, fo2, ⟨⟨v2, rC1⟩, hFK⟩, rfl, hfo⟩ := e2
  have ho1 := hFK _ _ ho rfl
  have rM2 := (rM.frK hFK).hupJ (fo2 := fo2) ho1
  have rC2 := rC1.hupJ (fo2 := fo2) ho1
  refine g_istore C dL_law_1229 (by decide) ?_
  refine g_aload_n C dL_law_1231 rfl (by first | rfl | exact isR_rf _) ?_
  refine g_aload_n C dL_law_1232 rfl (by first | rfl | exact isR_rf _) ?_
  refine g_iload C dL_law_1233 rfl ?_
  refine g_iconst C (v := nI 1) dL_law_1235 (by decide) ?_
  first | with_reducible refine g_iaddN C dL_law_1236 ?_ | refine g_iadd C dL_law_1236 ?_
  refine g_sld C hX hbl hbA rfl (show 3 * i + 1 < L by omega) (by omega) dL_law_1237 ?_
  refine g_aload_n C dL_law_1238 rfl (by first | rfl | exact isR_rf _) ?_
  refine g_iload C dL_law_1239 rfl ?_
  refine g_iconst C (v := nI 2) dL_law_1241 (by decide) ?_
  first | with_reducible refine g_iaddN C dL_law_1242 ?_ | refine g_iadd C dL_law_1242 ?_
  refine g_sld C hX hbl hbA rfl (show 3 * i + 2 < L by omega) (by omega) dL_law_1243 ?_
  refine g_callV C ((D_meet l Y rM2 iv _ _).K) ok_X3_meet w891 (rM2.x) rfl rfl rfl dL_law_1244 (Nat.le_of_ble_eq_true rfl) (Nat.le_of_ble_eq_true rfl) (Nat.le_of_ble_eq_true rfl) (by show _ ≤ 601024; omega) (by show _ ≤ 7293034; omega) (fun vv h3 e3 => ?_)
  obtain ⟨rfl, f3, rM3, hFM⟩ := e3
  have rC3 := rC2.frM rM2 hFM
  have ho3 := ob_frM rM2 hFM hup_eq
  refine g_istore C dL_law_1247 (by decide) ?_
  refine g_aload_n C dL_law_1249 rfl (by first | rfl | exact isR_rf _) ?_
  refine g_callV C ((K_X3_thrown l Y rM3).K) ok_X3_thrown w704 (rM3.x) rfl rfl rfl dL_law_1250 (Nat.le_of_ble_eq_true rfl) (Nat.le_of_ble_eq_true rfl) (Nat.le_of_ble_eq_true rfl) (by show _ ≤ 601024; omega) (by show _ ≤ 7293034; omega) (ofS ?_)
  refine g_iload C dL_law_1253 rfl ?_
  refine g_icmp_eq C (tgt := 1260) dL_law_1255 (by decide) (fun q1 => ?_) (fun q1 => absurd rfl q1)
  have I2 := (⟨qR_inv iv _, v2, ar, f3, _, fo2, rC3, rM3, ho3⟩ : LwI Y x mm ob _ h3)
  refine g_iload C dL_law_1260 rfl ?_
  refine g_if_ne C (tgt := 1277) dL_law_1262 (by decide) (fun q2 => ?_) (fun q2 => ?_)
  · refine g_goto C (tgt := 1628) dL_law_1277 (by decide) ?_
    exact cont _ _ _ _ _ _ _ _ I2 (by omega) (by omega)
  · refine g_aload_n C dL_law_1265 rfl (by first | rfl | exact isR_rf _) ?_
    refine g_iconst C (v := nI 0) dL_law_1266 (by decide) ?_
    refine g_lald C ho3 rfl (by decide) (by decide) dL_law_1267 ?_
    rw [hfo q2]
    refine g_iload C dL_law_1268 rfl ?_
    refine g_i2l C dL_law_1270 ?_
    refine g_lcmp C dL_law_1271 ?_
    rw [lg_self]
    refine g_if_eq C (tgt := 1277) dL_law_1272 (by decide) (fun q3 => ?_) (fun q3 => absurd rfl q3)
    refine g_goto C (tgt := 1628) dL_law_1277 (by decide) ?_
    exact cont _ _ _ _ _ _ _ _ I2 (by omega) (by omega)
set_option maxRecDepth 100000 in
set_option maxHeartbeats 4000000 in
theorem LC_apart {p : Program} {l : Launch} {e : Env} {s : State} {m : MethodId} {args : Array Value} {below : List Frame} {meth : Method} {c : Code} {Q : State → Prop} {Y : YG} (C : Cx p s m args meth c Y cL_law 9 RL) (hfl : l.stackTraces = false) {b L : Nat} {xs : Nat → Int32} (hX : va_X b L xs s s.heap) (hbl : b < s.heap.size) (hbA : ¬ Y.A b) (hL : L ≤ 1536) {i x mm ob : Nat} {g : Sg} {h : AH} {kk nn : Nat} {w5 w6 w7 w8 : Option Value} (hi : 3 * i + 3 ≤ L) (I : LwI Y x mm ob g h) (hk : kk + 61 ≤ 601024) (hn : nn + 608 ≤ 7293034) (cont : ∀ (g2 : Sg) (h2 : AH) (k2 n2 : Nat) (u5 u6 u7 u8 : Option Value), LwI Y x mm ob g2 h2 → k2 ≤ kk + 61 → n2 ≤ nn + 608 → Gd p l e room_1 s m args below meth c Q Y 9 1628 (LL b x mm ob i u5 u6 u7 u8) [] h2 k2 n2) : Gd p l e room_1 s m args below meth c Q Y 9 1280 (LL b x mm ob i w5 w6 w7 w8) [] h kk nn := by
  obtain ⟨iv, v, ar, f, th, fo, rC, rM, ho⟩ := I
  refine g_aload_n C dL_law_1280 rfl (by first | rfl | exact isR_rf _) ?_
  refine g_aload_n C dL_law_1281 rfl (by first | rfl | exact isR_rf _) ?_
  refine g_iload C dL_law_1282 rfl ?_
  refine g_iconst C (v := nI 1) dL_law_1284 (by decide) ?_
  first | with_reducible refine g_iaddN C dL_law_1285 ?_ | refine g_iadd C dL_law_1285 ?_
  refine g_sld C hX hbl hbA rfl (show 3 * i + 1 < L by omega) (by omega) dL_law_1286 ?_
  refine g_aload_n C dL_law_1287 rfl (by first | rfl | exact isR_rf _) ?_
  refine g_iload C dL_law_1288 rfl ?_
  refine g_iconst C (v := nI 2) dL_law_1290 (by decide) ?_
  first | with_reducible refine g_iaddN C dL_law_1291 ?_ | refine g_iadd C dL_law_1291 ?_
  refine g_sld C hX hbl hbA rfl (show 3 * i + 2 < L by omega) (by omega) dL_law_1292 ?_
  refine g_aload_n C dL_law_1293 rfl (by first | rfl | exact isR_rf _) ?_
  refine g_callSW (na := 4) C (W_apart l Y hfl rC iv (ZM.h rM) ho _ _) w637 w0 w638 (by exact ⟨by decide, by decide, by decide +kernel⟩) w636 rfl rfl dL_law_1294 (Nat.le_of_ble_eq_true rfl) (Nat.le_of_ble_eq_true rfl) (Nat.le_of_ble_eq_true rfl) (by show _ ≤ 601024; omega) (by show _ ≤ 7293034; omega) (fun vv h2 e2 => ?_)
  obtain ⟨rfl, h1, fo2, ⟨⟨v2, rC1⟩, hFK⟩, rfl, hfo⟩ := e2
  have ho1 := hFK _ _ ho rfl
  have rM2 := (rM.frK hFK).hupJ (fo2 := fo2) ho1
  have rC2 := rC1.hupJ (fo2 := fo2) ho1
  refine g_istore C dL_law_1297 (by decide) ?_
  refine g_aload_n C dL_law_1299 rfl (by first | rfl | exact isR_rf _) ?_
  refine g_aload_n C dL_law_1300 rfl (by first | rfl | exact isR_rf _) ?_
  refine g_iload C dL_law_1301 rfl ?_
  refine g_iconst C (v := nI 1) dL_law_1303 (by decide) ?_
  first | with_reducible refine g_iaddN C dL_law_1304 ?_ | refine g_iadd C dL_law_1304 ?_
  refine g_sld C hX hbl hbA rfl (show 3 * i + 1 < L by omega) (by omega) dL_law_1305 ?_
  refine g_aload_n C dL_law_1306 rfl (by first | rfl | exact isR_rf _) ?_
  refine g_iload C dL_law_1307 rfl ?_
  refine g_iconst C (v := nI 2) dL_law_1309 (by decide) ?_
  first | with_reducible refine g_iaddN C dL_law_1310 ?_ | refine g_iadd C dL_law_1310 ?_
  refine g_sld C hX hbl hbA rfl (show 3 * i + 2 < L by omega) (by omega) dL_law_1311 ?_
  refine g_callV C ((D_apart l Y rM2 iv _ _).K) ok_X3_apart w895 (rM2.x) rfl rfl rfl dL_law_1312 (Nat.le_of_ble_eq_true rfl) (Nat.le_of_ble_eq_true rfl) (Nat.le_of_ble_eq_true rfl) (by show _ ≤ 601024; omega) (by show _ ≤ 7293034; omega) (fun vv h3 e3 => ?_)
  obtain ⟨rfl, f3, rM3, hFM⟩ := e3
  have rC3 := rC2.frM rM2 hFM
  have ho3 := ob_frM rM2 hFM hup_eq
  refine g_istore C dL_law_1315 (by decide) ?_
  refine g_aload_n C dL_law_1317 rfl (by first | rfl | exact isR_rf _) ?_
  refine g_callV C ((K_X3_thrown l Y rM3).K) ok_X3_thrown w704 (rM3.x) rfl rfl rfl dL_law_1318 (Nat.le_of_ble_eq_true rfl) (Nat.le_of_ble_eq_true rfl) (Nat.le_of_ble_eq_true rfl) (by show _ ≤ 601024; omega) (by show _ ≤ 7293034; omega) (ofS ?_)
  refine g_iload C dL_law_1321 rfl ?_
  refine g_icmp_eq C (tgt := 1328) dL_law_1323 (by decide) (fun q1 => ?_) (fun q1 => absurd rfl q1)
  have I2 := (⟨qR_inv iv _, v2, ar, f3, _, fo2, rC3, rM3, ho3⟩ : LwI Y x mm ob _ h3)
  refine g_iload C dL_law_1328 rfl ?_
  refine g_if_ne C (tgt := 1345) dL_law_1330 (by decide) (fun q2 => ?_) (fun q2 => ?_)
  · refine g_goto C (tgt := 1628) dL_law_1345 (by decide) ?_
    exact cont _ _ _ _ _ _ _ _ I2 (by omega) (by omega)
  · refine g_aload_n C dL_law_1333 rfl (by first | rfl | exact isR_rf _) ?_
    refine g_iconst C (v := nI 0) dL_law_1334 (by decide) ?_
    refine g_lald C ho3 rfl (by decide) (by decide) dL_law_1335 ?_
    rw [hfo q2]
    refine g_iload C dL_law_1336 rfl ?_
    refine g_i2l C dL_law_1338 ?_
    refine g_lcmp C dL_law_1339 ?_
    rw [lg_self]
    refine g_if_eq C (tgt := 1345) dL_law_1340 (by decide) (fun q3 => ?_) (fun q3 => absurd rfl q3)
    refine g_goto C (tgt := 1628) dL_law_1345 (by decide) ?_
    exact cont _ _ _ _ _ _ _ _ I2 (by omega) (by omega)
set_option maxRecDepth 100000 in
set_option maxHeartbeats 4000000 in
theorem LC_ends {p : Program} {l : Launch} {e : Env} {s : State} {m : MethodId} {args : Array Value} {below : List Frame} {meth : Method} {c : Code} {Q : State → Prop} {Y : YG} (C : Cx p s m args meth c Y cL_law 9 RL) (hfl : l.stackTraces = false) {b L : Nat} {xs : Nat → Int32} (hX : va_X b L xs s s.heap) (hbl : b < s.heap.size) (hbA : ¬ Y.A b) (hL : L ≤ 1536) {i x mm ob : Nat} {g : Sg} {h : AH} {kk nn : Nat} {w5 w6 w7 w8 : Option Value} (hi : 3 * i + 3 ≤ L) (I : LwI Y x mm ob g h) (hk : kk + 61 ≤ 601024) (hn : nn + 608 ≤ 7293034) (cont : ∀ (g2 : Sg) (h2 : AH) (k2 n2 : Nat) (u5 u6 u7 u8 : Option Value), LwI Y x mm ob g2 h2 → k2 ≤ kk + 61 → n2 ≤ nn + 608 → Gd p l e room_1 s m args below meth c Q Y 9 1628 (LL b x mm ob i u5 u6 u7 u8) [] h2 k2 n2) : Gd p l e room_1 s m args below meth c Q Y 9 1348 (LL b x mm ob i w5 w6 w7 w8) [] h kk nn := by
  obtain ⟨iv, v, ar, f, th, fo, rC, rM, ho⟩ := I
  refine g_aload_n C dL_law_1348 rfl (by first | rfl | exact isR_rf _) ?_
  refine g_callV C ((K_X2_ends l Y rC iv).K) ok_X2_ends w228 (rC.x) rfl rfl rfl dL_law_1349 (Nat.le_of_ble_eq_true rfl) (Nat.le_of_ble_eq_true rfl) (Nat.le_of_ble_eq_true rfl) (by show _ ≤ 601024; omega) (by show _ ≤ 7293034; omega) (ofS ?_)
  refine g_aload_n C dL_law_1352 rfl (by first | rfl | exact isR_rf _) ?_
  refine g_callV C ((K_X3_ends l Y rM iv).K) ok_X3_ends w899 (rM.x) rfl rfl rfl dL_law_1353 (Nat.le_of_ble_eq_true rfl) (Nat.le_of_ble_eq_true rfl) (Nat.le_of_ble_eq_true rfl) (by show _ ≤ 601024; omega) (by show _ ≤ 7293034; omega) (ofS ?_)
  have rM3 := rM.th (nI 0)
  have hFM := (FrM.x : FrM mm ar h (hup h mm (mC g ar (nI 0))))
  have rC3 := rC.frM rM hFM
  have ho3 := ob_frM rM hFM ho
  have I2 := (⟨iv, v, ar, f, _, fo, rC3, rM3, ho3⟩ : LwI Y x mm ob _ _)
  refine g_icmp_eq C (tgt := 1628) dL_law_1356 (by decide) (fun q1 => ?_) (fun q1 => ?_)
  · exact cont _ _ _ _ _ _ _ _ I2 (by omega) (by omega)
  · exact absurd rfl q1
set_option maxRecDepth 100000 in
set_option maxHeartbeats 4000000 in
theorem LC_placeIn {p : Program} {l : Launch} {e : Env} {s : State} {m : MethodId} {args : Array Value} {below : List Frame} {meth : Method} {c : Code} {Q : State → Prop} {Y : YG} (C : Cx p s m args meth c Y cL_law 9 RL) (hfl : l.stackTraces = false) {b L : Nat} {xs : Nat → Int32} (hX : va_X b L xs s s.heap) (hbl : b < s.heap.size) (hbA : ¬ Y.A b) (hL : L ≤ 1536) {i x mm ob : Nat} {g : Sg} {h : AH} {kk nn : Nat} {w5 w6 w7 w8 : Option Value} (hi : 3 * i + 3 ≤ L) (I : LwI Y x mm ob g h) (hk : kk + 61 ≤ 601024) (hn : nn + 608 ≤ 7293034) (cont : ∀ (g2 : Sg) (h2 : AH) (k2 n2 : Nat) (u5 u6 u7 u8 : Option Value), LwI Y x mm ob g2 h2 → k2 ≤ kk + 61 → n2 ≤ nn + 608 → Gd p l e room_1 s m args below meth c Q Y 9 1628 (LL b x mm ob i u5 u6 u7 u8) [] h2 k2 n2) : Gd p l e room_1 s m args below meth c Q Y 9 1361 (LL b x mm ob i w5 w6 w7 w8) [] h kk nn := by
  obtain ⟨iv, v, ar, f, th, fo, rC, rM, ho⟩ := I
  refine g_aload_n C dL_law_1361 rfl (by first | rfl | exact isR_rf _) ?_
  refine g_aload_n C dL_law_1362 rfl (by first | rfl | exact isR_rf _) ?_
  refine g_iload C dL_law_1363 rfl ?_
  refine g_iconst C (v := nI 1) dL_law_1365 (by decide) ?_
  first | with_reducible refine g_iaddN C dL_law_1366 ?_ | refine g_iadd C dL_law_1366 ?_
  refine g_sld C hX hbl hbA rfl (show 3 * i + 1 < L by omega) (by omega) dL_law_1367 ?_
  refine g_aload_n C dL_law_1368 rfl (by first | rfl | exact isR_rf _) ?_
  refine g_iload C dL_law_1369 rfl ?_
  refine g_iconst C (v := nI 2) dL_law_1371 (by decide) ?_
  first | with_reducible refine g_iaddN C dL_law_1372 ?_ | refine g_iadd C dL_law_1372 ?_
  refine g_sld C hX hbl hbA rfl (show 3 * i + 2 < L by omega) (by omega) dL_law_1373 ?_
  refine g_aload_n C dL_law_1374 rfl (by first | rfl | exact isR_rf _) ?_
  refine g_callSW (na := 4) C (W_placeIn l Y hfl rC iv (ZM.h rM) ho _ _) w644 w0 w645 (by exact ⟨by decide, by decide, by decide +kernel⟩) w643 rfl rfl dL_law_1375 (Nat.le_of_ble_eq_true rfl) (Nat.le_of_ble_eq_true rfl) (Nat.le_of_ble_eq_true rfl) (by show _ ≤ 601024; omega) (by show _ ≤ 7293034; omega) (fun vv h2 e2 => ?_)
  obtain ⟨rfl, h1, fo2, ⟨⟨v2, rC1⟩, hFK⟩, rfl, hfo⟩ := e2
  have ho1 := hFK _ _ ho rfl
  have rM2 := (rM.frK hFK).hupJ (fo2 := fo2) ho1
  have rC2 := rC1.hupJ (fo2 := fo2) ho1
  refine g_istore C dL_law_1378 (by decide) ?_
  refine g_aload_n C dL_law_1380 rfl (by first | rfl | exact isR_rf _) ?_
  refine g_aload_n C dL_law_1381 rfl (by first | rfl | exact isR_rf _) ?_
  refine g_iload C dL_law_1382 rfl ?_
  refine g_iconst C (v := nI 1) dL_law_1384 (by decide) ?_
  first | with_reducible refine g_iaddN C dL_law_1385 ?_ | refine g_iadd C dL_law_1385 ?_
  refine g_sld C hX hbl hbA rfl (show 3 * i + 1 < L by omega) (by omega) dL_law_1386 ?_
  refine g_aload_n C dL_law_1387 rfl (by first | rfl | exact isR_rf _) ?_
  refine g_iload C dL_law_1388 rfl ?_
  refine g_iconst C (v := nI 2) dL_law_1390 (by decide) ?_
  first | with_reducible refine g_iaddN C dL_law_1391 ?_ | refine g_iadd C dL_law_1391 ?_
  refine g_sld C hX hbl hbA rfl (show 3 * i + 2 < L by omega) (by omega) dL_law_1392 ?_
  refine g_callV C ((D_placeIn l Y rM2 iv _ _).K) ok_X3_placeIn w907 (rM2.x) rfl rfl rfl dL_law_1393 (Nat.le_of_ble_eq_true rfl) (Nat.le_of_ble_eq_true rfl) (Nat.le_of_ble_eq_true rfl) (by show _ ≤ 601024; omega) (by show _ ≤ 7293034; omega) (fun vv h3 e3 => ?_)
  obtain ⟨rfl, f3, rM3, hFM⟩ := e3
  have rC3 := rC2.frM rM2 hFM
  have ho3 := ob_frM rM2 hFM hup_eq
  refine g_istore C dL_law_1396 (by decide) ?_
  refine g_aload_n C dL_law_1398 rfl (by first | rfl | exact isR_rf _) ?_
  refine g_callV C ((K_X3_thrown l Y rM3).K) ok_X3_thrown w704 (rM3.x) rfl rfl rfl dL_law_1399 (Nat.le_of_ble_eq_true rfl) (Nat.le_of_ble_eq_true rfl) (Nat.le_of_ble_eq_true rfl) (by show _ ≤ 601024; omega) (by show _ ≤ 7293034; omega) (ofS ?_)
  refine g_iload C dL_law_1402 rfl ?_
  refine g_icmp_eq C (tgt := 1409) dL_law_1404 (by decide) (fun q1 => ?_) (fun q1 => absurd rfl q1)
  have I2 := (⟨qR_inv iv _, v2, ar, f3, _, fo2, rC3, rM3, ho3⟩ : LwI Y x mm ob _ h3)
  refine g_iload C dL_law_1409 rfl ?_
  refine g_if_ne C (tgt := 1426) dL_law_1411 (by decide) (fun q2 => ?_) (fun q2 => ?_)
  · refine g_goto C (tgt := 1628) dL_law_1426 (by decide) ?_
    exact cont _ _ _ _ _ _ _ _ I2 (by omega) (by omega)
  · refine g_aload_n C dL_law_1414 rfl (by first | rfl | exact isR_rf _) ?_
    refine g_iconst C (v := nI 0) dL_law_1415 (by decide) ?_
    refine g_lald C ho3 rfl (by decide) (by decide) dL_law_1416 ?_
    rw [hfo q2]
    refine g_iload C dL_law_1417 rfl ?_
    refine g_i2l C dL_law_1419 ?_
    refine g_lcmp C dL_law_1420 ?_
    rw [lg_self]
    refine g_if_eq C (tgt := 1426) dL_law_1421 (by decide) (fun q3 => ?_) (fun q3 => absurd rfl q3)
    refine g_goto C (tgt := 1628) dL_law_1426 (by decide) ?_
    exact cont _ _ _ _ _ _ _ _ I2 (by omega) (by omega)
set_option maxRecDepth 100000 in
set_option maxHeartbeats 4000000 in
theorem LC_lyingIn {p : Program} {l : Launch} {e : Env} {s : State} {m : MethodId} {args : Array Value} {below : List Frame} {meth : Method} {c : Code} {Q : State → Prop} {Y : YG} (C : Cx p s m args meth c Y cL_law 9 RL) (hfl : l.stackTraces = false) {b L : Nat} {xs : Nat → Int32} (hX : va_X b L xs s s.heap) (hbl : b < s.heap.size) (hbA : ¬ Y.A b) (hL : L ≤ 1536) {i x mm ob : Nat} {g : Sg} {h : AH} {kk nn : Nat} {w5 w6 w7 w8 : Option Value} (hi : 3 * i + 3 ≤ L) (I : LwI Y x mm ob g h) (hk : kk + 61 ≤ 601024) (hn : nn + 608 ≤ 7293034) (cont : ∀ (g2 : Sg) (h2 : AH) (k2 n2 : Nat) (u5 u6 u7 u8 : Option Value), LwI Y x mm ob g2 h2 → k2 ≤ kk + 61 → n2 ≤ nn + 608 → Gd p l e room_1 s m args below meth c Q Y 9 1628 (LL b x mm ob i u5 u6 u7 u8) [] h2 k2 n2) : Gd p l e room_1 s m args below meth c Q Y 9 1429 (LL b x mm ob i w5 w6 w7 w8) [] h kk nn := by
  obtain ⟨iv, v, ar, f, th, fo, rC, rM, ho⟩ := I
  refine g_aload_n C dL_law_1429 rfl (by first | rfl | exact isR_rf _) ?_
  refine g_aload_n C dL_law_1430 rfl (by first | rfl | exact isR_rf _) ?_
  refine g_iload C dL_law_1431 rfl ?_
  refine g_iconst C (v := nI 1) dL_law_1433 (by decide) ?_
  first | with_reducible refine g_iaddN C dL_law_1434 ?_ | refine g_iadd C dL_law_1434 ?_
  refine g_sld C hX hbl hbA rfl (show 3 * i + 1 < L by omega) (by omega) dL_law_1435 ?_
  refine g_aload_n C dL_law_1436 rfl (by first | rfl | exact isR_rf _) ?_
  refine g_callSW (na := 3) C (W_lyingIn l Y hfl rC iv (ZM.h rM) ho _) w651 w0 w652 (by exact ⟨by decide, by decide, by decide +kernel⟩) w650 rfl rfl dL_law_1437 (Nat.le_of_ble_eq_true rfl) (Nat.le_of_ble_eq_true rfl) (Nat.le_of_ble_eq_true rfl) (by show _ ≤ 601024; omega) (by show _ ≤ 7293034; omega) (fun vv h2 e2 => ?_)
  obtain ⟨rfl, h1, fo2, ⟨⟨v2, rC1⟩, hFK⟩, rfl, hfo⟩ := e2
  have ho1 := hFK _ _ ho rfl
  have rM2 := (rM.frK hFK).hupJ (fo2 := fo2) ho1
  have rC2 := rC1.hupJ (fo2 := fo2) ho1
  refine g_istore C dL_law_1440 (by decide) ?_
  refine g_aload_n C dL_law_1442 rfl (by first | rfl | exact isR_rf _) ?_
  refine g_aload_n C dL_law_1443 rfl (by first | rfl | exact isR_rf _) ?_
  refine g_iload C dL_law_1444 rfl ?_
  refine g_iconst C (v := nI 1) dL_law_1446 (by decide) ?_
  first | with_reducible refine g_iaddN C dL_law_1447 ?_ | refine g_iadd C dL_law_1447 ?_
  refine g_sld C hX hbl hbA rfl (show 3 * i + 1 < L by omega) (by omega) dL_law_1448 ?_
  refine g_callV C ((D_lyingIn l Y rM2 iv _).K) ok_X3_lyingIn w911 (rM2.x) rfl rfl rfl dL_law_1449 (Nat.le_of_ble_eq_true rfl) (Nat.le_of_ble_eq_true rfl) (Nat.le_of_ble_eq_true rfl) (by show _ ≤ 601024; omega) (by show _ ≤ 7293034; omega) (fun vv h3 e3 => ?_)
  obtain ⟨rfl, f3, rM3, hFM⟩ := e3
  have rC3 := rC2.frM rM2 hFM
  have ho3 := ob_frM rM2 hFM hup_eq
  refine g_istore C dL_law_1452 (by decide) ?_
  refine g_aload_n C dL_law_1454 rfl (by first | rfl | exact isR_rf _) ?_
  refine g_callV C ((K_X3_thrown l Y rM3).K) ok_X3_thrown w704 (rM3.x) rfl rfl rfl dL_law_1455 (Nat.le_of_ble_eq_true rfl) (Nat.le_of_ble_eq_true rfl) (Nat.le_of_ble_eq_true rfl) (by show _ ≤ 601024; omega) (by show _ ≤ 7293034; omega) (ofS ?_)
  refine g_iload C dL_law_1458 rfl ?_
  refine g_icmp_eq C (tgt := 1465) dL_law_1460 (by decide) (fun q1 => ?_) (fun q1 => absurd rfl q1)
  have I2 := (⟨qR_inv iv _, v2, ar, f3, _, fo2, rC3, rM3, ho3⟩ : LwI Y x mm ob _ h3)
  refine g_iload C dL_law_1465 rfl ?_
  refine g_if_ne C (tgt := 1482) dL_law_1467 (by decide) (fun q2 => ?_) (fun q2 => ?_)
  · refine g_goto C (tgt := 1628) dL_law_1482 (by decide) ?_
    exact cont _ _ _ _ _ _ _ _ I2 (by omega) (by omega)
  · refine g_aload_n C dL_law_1470 rfl (by first | rfl | exact isR_rf _) ?_
    refine g_iconst C (v := nI 0) dL_law_1471 (by decide) ?_
    refine g_lald C ho3 rfl (by decide) (by decide) dL_law_1472 ?_
    rw [hfo q2]
    refine g_iload C dL_law_1473 rfl ?_
    refine g_i2l C dL_law_1475 ?_
    refine g_lcmp C dL_law_1476 ?_
    rw [lg_self]
    refine g_if_eq C (tgt := 1482) dL_law_1477 (by decide) (fun q3 => ?_) (fun q3 => absurd rfl q3)
    refine g_goto C (tgt := 1628) dL_law_1482 (by decide) ?_
    exact cont _ _ _ _ _ _ _ _ I2 (by omega) (by omega)
set_option maxRecDepth 100000 in
set_option maxHeartbeats 4000000 in
theorem LC_areAlike {p : Program} {l : Launch} {e : Env} {s : State} {m : MethodId} {args : Array Value} {below : List Frame} {meth : Method} {c : Code} {Q : State → Prop} {Y : YG} (C : Cx p s m args meth c Y cL_law 9 RL) (hfl : l.stackTraces = false) {b L : Nat} {xs : Nat → Int32} (hX : va_X b L xs s s.heap) (hbl : b < s.heap.size) (hbA : ¬ Y.A b) (hL : L ≤ 1536) {i x mm ob : Nat} {g : Sg} {h : AH} {kk nn : Nat} {w5 w6 w7 w8 : Option Value} (hi : 3 * i + 3 ≤ L) (I : LwI Y x mm ob g h) (hk : kk + 61 ≤ 601024) (hn : nn + 608 ≤ 7293034) (cont : ∀ (g2 : Sg) (h2 : AH) (k2 n2 : Nat) (u5 u6 u7 u8 : Option Value), LwI Y x mm ob g2 h2 → k2 ≤ kk + 61 → n2 ≤ nn + 608 → Gd p l e room_1 s m args below meth c Q Y 9 1628 (LL b x mm ob i u5 u6 u7 u8) [] h2 k2 n2) : Gd p l e room_1 s m args below meth c Q Y 9 1485 (LL b x mm ob i w5 w6 w7 w8) [] h kk nn := by
  obtain ⟨iv, v, ar, f, th, fo, rC, rM, ho⟩ := I
  refine g_aload_n C dL_law_1485 rfl (by first | rfl | exact isR_rf _) ?_
  refine g_aload_n C dL_law_1486 rfl (by first | rfl | exact isR_rf _) ?_
  refine g_iload C dL_law_1487 rfl ?_
  refine g_iconst C (v := nI 1) dL_law_1489 (by decide) ?_
  first | with_reducible refine g_iaddN C dL_law_1490 ?_ | refine g_iadd C dL_law_1490 ?_
  refine g_sld C hX hbl hbA rfl (show 3 * i + 1 < L by omega) (by omega) dL_law_1491 ?_
  refine g_aload_n C dL_law_1492 rfl (by first | rfl | exact isR_rf _) ?_
  refine g_iload C dL_law_1493 rfl ?_
  refine g_iconst C (v := nI 2) dL_law_1495 (by decide) ?_
  first | with_reducible refine g_iaddN C dL_law_1496 ?_ | refine g_iadd C dL_law_1496 ?_
  refine g_sld C hX hbl hbA rfl (show 3 * i + 2 < L by omega) (by omega) dL_law_1497 ?_
  refine g_aload_n C dL_law_1498 rfl (by first | rfl | exact isR_rf _) ?_
  refine g_callSW (na := 4) C (W_areAlike l Y hfl rC iv (ZM.h rM) ho _ _) w658 w0 w659 (by exact ⟨by decide, by decide, by decide +kernel⟩) w657 rfl rfl dL_law_1499 (Nat.le_of_ble_eq_true rfl) (Nat.le_of_ble_eq_true rfl) (Nat.le_of_ble_eq_true rfl) (by show _ ≤ 601024; omega) (by show _ ≤ 7293034; omega) (fun vv h2 e2 => ?_)
  obtain ⟨rfl, h1, fo2, ⟨⟨v2, rC1⟩, hFK⟩, rfl, hfo⟩ := e2
  have ho1 := hFK _ _ ho rfl
  have rM2 := (rM.frK hFK).hupJ (fo2 := fo2) ho1
  have rC2 := rC1.hupJ (fo2 := fo2) ho1
  refine g_istore C dL_law_1502 (by decide) ?_
  refine g_aload_n C dL_law_1504 rfl (by first | rfl | exact isR_rf _) ?_
  refine g_aload_n C dL_law_1505 rfl (by first | rfl | exact isR_rf _) ?_
  refine g_iload C dL_law_1506 rfl ?_
  refine g_iconst C (v := nI 1) dL_law_1508 (by decide) ?_
  first | with_reducible refine g_iaddN C dL_law_1509 ?_ | refine g_iadd C dL_law_1509 ?_
  refine g_sld C hX hbl hbA rfl (show 3 * i + 1 < L by omega) (by omega) dL_law_1510 ?_
  refine g_aload_n C dL_law_1511 rfl (by first | rfl | exact isR_rf _) ?_
  refine g_iload C dL_law_1512 rfl ?_
  refine g_iconst C (v := nI 2) dL_law_1514 (by decide) ?_
  first | with_reducible refine g_iaddN C dL_law_1515 ?_ | refine g_iadd C dL_law_1515 ?_
  refine g_sld C hX hbl hbA rfl (show 3 * i + 2 < L by omega) (by omega) dL_law_1516 ?_
  refine g_callV C ((D_areAlike l Y rM2 iv _ _).K) ok_X3_areAlike w915 (rM2.x) rfl rfl rfl dL_law_1517 (Nat.le_of_ble_eq_true rfl) (Nat.le_of_ble_eq_true rfl) (Nat.le_of_ble_eq_true rfl) (by show _ ≤ 601024; omega) (by show _ ≤ 7293034; omega) (fun vv h3 e3 => ?_)
  obtain ⟨rfl, f3, rM3, hFM⟩ := e3
  have rC3 := rC2.frM rM2 hFM
  have ho3 := ob_frM rM2 hFM hup_eq
  refine g_istore C dL_law_1520 (by decide) ?_
  refine g_aload_n C dL_law_1522 rfl (by first | rfl | exact isR_rf _) ?_
  refine g_callV C ((K_X3_thrown l Y rM3).K) ok_X3_thrown w704 (rM3.x) rfl rfl rfl dL_law_1523 (Nat.le_of_ble_eq_true rfl) (Nat.le_of_ble_eq_true rfl) (Nat.le_of_ble_eq_true rfl) (by show _ ≤ 601024; omega) (by show _ ≤ 7293034; omega) (ofS ?_)
  refine g_iload C dL_law_1526 rfl ?_
  refine g_icmp_eq C (tgt := 1533) dL_law_1528 (by decide) (fun q1 => ?_) (fun q1 => absurd rfl q1)
  have I2 := (⟨qR_inv iv _, v2, ar, f3, _, fo2, rC3, rM3, ho3⟩ : LwI Y x mm ob _ h3)
  have hb := (by first | exact bo_1 | exact bo_2 | exact bo_3 : (qR g ((idx g.n (xs (3 * i + 1))).bind (fun a => (idx g.n (xs (3 * i + 2))).map (fun b => (if lkB g a b then 1 else 0))))).2.1 = 0 ∨ (qR g ((idx g.n (xs (3 * i + 1))).bind (fun a => (idx g.n (xs (3 * i + 2))).map (fun b => (if lkB g a b then 1 else 0))))).2.1 = 1)
  refine g_iload C dL_law_1533 rfl ?_
  refine g_if_ne C (tgt := 1557) dL_law_1535 (by decide) (fun q2 => ?_) (fun q2 => ?_)
  · refine g_goto C (tgt := 1628) dL_law_1557 (by decide) ?_
    exact cont _ _ _ _ _ _ _ _ I2 (by omega) (by omega)
  · refine g_aload_n C dL_law_1538 rfl (by first | rfl | exact isR_rf _) ?_
    refine g_iconst C (v := nI 0) dL_law_1539 (by decide) ?_
    refine g_lald C ho3 rfl (by decide) (by decide) dL_law_1540 ?_
    rw [hfo q2]
    refine g_iload C dL_law_1541 rfl ?_
    rcases hb with hb | hb
    · rw [hb]
      refine g_if_eq C (tgt := 1550) dL_law_1543 (by decide) (fun q => ?_) (fun q => absurd rfl q)
      refine g_lconst C dL_law_1550 rfl ?_
      refine g_lcmp C dL_law_1551 ?_
      refine g_if_eq C (tgt := 1557) dL_law_1552 (by decide) (fun q3 => ?_) (fun q3 => absurd (by decide) q3)
      refine g_goto C (tgt := 1628) dL_law_1557 (by decide) ?_
      exact cont _ _ _ _ _ _ _ _ I2 (by omega) (by omega)
    · rw [hb]
      refine g_if_eq C (tgt := 1550) dL_law_1543 (by decide) (fun q => absurd q (by decide)) (fun q => ?_)
      refine g_lconst C dL_law_1546 rfl ?_
      refine g_goto C (tgt := 1551) dL_law_1547 (by decide) ?_
      refine g_lcmp C dL_law_1551 ?_
      refine g_if_eq C (tgt := 1557) dL_law_1552 (by decide) (fun q3 => ?_) (fun q3 => absurd (by decide) q3)
      refine g_goto C (tgt := 1628) dL_law_1557 (by decide) ?_
      exact cont _ _ _ _ _ _ _ _ I2 (by omega) (by omega)
set_option maxRecDepth 100000 in
set_option maxHeartbeats 4000000 in
theorem LC_mostKnocked {p : Program} {l : Launch} {e : Env} {s : State} {m : MethodId} {args : Array Value} {below : List Frame} {meth : Method} {c : Code} {Q : State → Prop} {Y : YG} (C : Cx p s m args meth c Y cL_law 9 RL) (hfl : l.stackTraces = false) {b L : Nat} {xs : Nat → Int32} (hX : va_X b L xs s s.heap) (hbl : b < s.heap.size) (hbA : ¬ Y.A b) (hL : L ≤ 1536) {i x mm ob : Nat} {g : Sg} {h : AH} {kk nn : Nat} {w5 w6 w7 w8 : Option Value} (hi : 3 * i + 3 ≤ L) (I : LwI Y x mm ob g h) (hk : kk + 61 ≤ 601024) (hn : nn + 608 ≤ 7293034) (cont : ∀ (g2 : Sg) (h2 : AH) (k2 n2 : Nat) (u5 u6 u7 u8 : Option Value), LwI Y x mm ob g2 h2 → k2 ≤ kk + 61 → n2 ≤ nn + 608 → Gd p l e room_1 s m args below meth c Q Y 9 1628 (LL b x mm ob i u5 u6 u7 u8) [] h2 k2 n2) : Gd p l e room_1 s m args below meth c Q Y 9 1560 (LL b x mm ob i w5 w6 w7 w8) [] h kk nn := by
  obtain ⟨iv, v, ar, f, th, fo, rC, rM, ho⟩ := I
  refine g_aload_n C dL_law_1560 rfl (by first | rfl | exact isR_rf _) ?_
  refine g_callV C ((K_X2_mostKnocked l Y rC iv).K) ok_X2_mostKnocked w255 (rC.x) rfl rfl rfl dL_law_1561 (Nat.le_of_ble_eq_true rfl) (Nat.le_of_ble_eq_true rfl) (Nat.le_of_ble_eq_true rfl) (by show _ ≤ 601024; omega) (by show _ ≤ 7293034; omega) (ofS ?_)
  refine g_aload_n C dL_law_1564 rfl (by first | rfl | exact isR_rf _) ?_
  refine g_callV C ((K_X3_mostKnocked l Y rM iv).K) ok_X3_mostKnocked w923 (rM.x) rfl rfl rfl dL_law_1565 (Nat.le_of_ble_eq_true rfl) (Nat.le_of_ble_eq_true rfl) (Nat.le_of_ble_eq_true rfl) (by show _ ≤ 601024; omega) (by show _ ≤ 7293034; omega) (ofS ?_)
  have rM3 := rM.th (nI 0)
  have hFM := (FrM.x : FrM mm ar h (hup h mm (mC g ar (nI 0))))
  have rC3 := rC.frM rM hFM
  have ho3 := ob_frM rM hFM ho
  have I2 := (⟨iv, v, ar, f, _, fo, rC3, rM3, ho3⟩ : LwI Y x mm ob _ _)
  refine g_icmp_eq C (tgt := 1628) dL_law_1568 (by decide) (fun q1 => ?_) (fun q1 => ?_)
  · exact cont _ _ _ _ _ _ _ _ I2 (by omega) (by omega)
  · exact absurd rfl q1
set_option maxRecDepth 100000 in
set_option maxHeartbeats 4000000 in
theorem LC_meanDepth {p : Program} {l : Launch} {e : Env} {s : State} {m : MethodId} {args : Array Value} {below : List Frame} {meth : Method} {c : Code} {Q : State → Prop} {Y : YG} (C : Cx p s m args meth c Y cL_law 9 RL) (hfl : l.stackTraces = false) {b L : Nat} {xs : Nat → Int32} (hX : va_X b L xs s s.heap) (hbl : b < s.heap.size) (hbA : ¬ Y.A b) (hL : L ≤ 1536) {i x mm ob : Nat} {g : Sg} {h : AH} {kk nn : Nat} {w5 w6 w7 w8 : Option Value} (hi : 3 * i + 3 ≤ L) (I : LwI Y x mm ob g h) (hk : kk + 61 ≤ 601024) (hn : nn + 608 ≤ 7293034) (cont : ∀ (g2 : Sg) (h2 : AH) (k2 n2 : Nat) (u5 u6 u7 u8 : Option Value), LwI Y x mm ob g2 h2 → k2 ≤ kk + 61 → n2 ≤ nn + 608 → Gd p l e room_1 s m args below meth c Q Y 9 1628 (LL b x mm ob i u5 u6 u7 u8) [] h2 k2 n2) : Gd p l e room_1 s m args below meth c Q Y 9 1573 (LL b x mm ob i w5 w6 w7 w8) [] h kk nn := by
  obtain ⟨iv, v, ar, f, th, fo, rC, rM, ho⟩ := I
  refine g_aload_n C dL_law_1573 rfl (by first | rfl | exact isR_rf _) ?_
  refine g_callV C ((K_X2_meanDepth l Y rC iv).K) ok_X2_meanDepth w264 (rC.x) rfl rfl rfl dL_law_1574 (Nat.le_of_ble_eq_true rfl) (Nat.le_of_ble_eq_true rfl) (Nat.le_of_ble_eq_true rfl) (by show _ ≤ 601024; omega) (by show _ ≤ 7293034; omega) (ofS ?_)
  refine g_dstore C dL_law_1577 (by decide) ?_
  refine g_aload_n C dL_law_1579 rfl (by first | rfl | exact isR_rf _) ?_
  refine g_callV C ((K_X3_meanDepth l Y rM iv).K) ok_X3_meanDepth w935 (rM.x) rfl rfl rfl dL_law_1580 (Nat.le_of_ble_eq_true rfl) (Nat.le_of_ble_eq_true rfl) (Nat.le_of_ble_eq_true rfl) (by show _ ≤ 601024; omega) (by show _ ≤ 7293034; omega) (ofS ?_)
  have rM3 := rM.th (nI 0)
  have hFM := (FrM.x : FrM mm ar h (hup h mm (mC g ar (nI 0))))
  have rC3 := rC.frM rM hFM
  have ho3 := ob_frM rM hFM ho
  have I2 := (⟨iv, v, ar, f, _, fo, rC3, rM3, ho3⟩ : LwI Y x mm ob _ _)
  refine g_dstore C dL_law_1583 (by decide) ?_
  refine g_dload C dL_law_1585 rfl ?_
  refine g_dload C dL_law_1587 rfl ?_
  refine g_dcmp C dL_law_1589 ?_
  by_cases hz : Op.cmpValue (FP.dcmp (meanV g) (meanV g)) .l = 0
  · refine g_if_eq C (tgt := 1611) dL_law_1590 (by decide) (fun q => ?_) (fun q => absurd hz q)
    refine g_goto C (tgt := 1628) dL_law_1611 (by decide) ?_
    exact cont _ _ _ _ _ _ _ _ I2 (by omega) (by omega)
  · refine g_if_eq C (tgt := 1611) dL_law_1590 (by decide) (fun q => absurd q hz) (fun q => ?_)
    refine g_dload C dL_law_1593 rfl ?_
    refine g_dload C dL_law_1595 rfl ?_
    refine g_dcmp C dL_law_1597 ?_
    refine g_if_eq C (tgt := 1609) dL_law_1598 (by decide) (fun q => absurd q hz) (fun q => ?_)
    refine g_dload C dL_law_1601 rfl ?_
    refine g_dload C dL_law_1603 rfl ?_
    refine g_dcmp C dL_law_1605 ?_
    refine g_if_ne C (tgt := 1611) dL_law_1606 (by decide) (fun q => ?_) (fun q => absurd q hz)
    refine g_goto C (tgt := 1628) dL_law_1611 (by decide) ?_
    exact cont _ _ _ _ _ _ _ _ I2 (by omega) (by omega)
set_option maxRecDepth 100000 in
set_option maxHeartbeats 4000000 in
theorem LC_digest {p : Program} {l : Launch} {e : Env} {s : State} {m : MethodId} {args : Array Value} {below : List Frame} {meth : Method} {c : Code} {Q : State → Prop} {Y : YG} (C : Cx p s m args meth c Y cL_law 9 RL) (hfl : l.stackTraces = false) {b L : Nat} {xs : Nat → Int32} (hX : va_X b L xs s s.heap) (hbl : b < s.heap.size) (hbA : ¬ Y.A b) (hL : L ≤ 1536) {i x mm ob : Nat} {g : Sg} {h : AH} {kk nn : Nat} {w5 w6 w7 w8 : Option Value} (hi : 3 * i + 3 ≤ L) (I : LwI Y x mm ob g h) (hk : kk + 61 ≤ 601024) (hn : nn + 608 ≤ 7293034) (cont : ∀ (g2 : Sg) (h2 : AH) (k2 n2 : Nat) (u5 u6 u7 u8 : Option Value), LwI Y x mm ob g2 h2 → k2 ≤ kk + 61 → n2 ≤ nn + 608 → Gd p l e room_1 s m args below meth c Q Y 9 1628 (LL b x mm ob i u5 u6 u7 u8) [] h2 k2 n2) : Gd p l e room_1 s m args below meth c Q Y 9 1614 (LL b x mm ob i w5 w6 w7 w8) [] h kk nn := by
  obtain ⟨iv, v, ar, f, th, fo, rC, rM, ho⟩ := I
  refine g_aload_n C dL_law_1614 rfl (by first | rfl | exact isR_rf _) ?_
  refine g_callV C ((K_X2_digest l Y rC iv).K) ok_X2_digest w268 (rC.x) rfl rfl rfl dL_law_1615 (Nat.le_of_ble_eq_true rfl) (Nat.le_of_ble_eq_true rfl) (Nat.le_of_ble_eq_true rfl) (by show _ ≤ 601024; omega) (by show _ ≤ 7293034; omega) (ofS ?_)
  refine g_aload_n C dL_law_1618 rfl (by first | rfl | exact isR_rf _) ?_
  refine g_callV C ((K_X3_digest l Y rM iv).K) ok_X3_digest w939 (rM.x) rfl rfl rfl dL_law_1619 (Nat.le_of_ble_eq_true rfl) (Nat.le_of_ble_eq_true rfl) (Nat.le_of_ble_eq_true rfl) (by show _ ≤ 601024; omega) (by show _ ≤ 7293034; omega) (fun vv h3 e3 => ?_)
  obtain ⟨rfl, rM3, hFM⟩ := e3
  have rC3 := rC.frM rM hFM
  have ho3 := ob_frM rM hFM ho
  have I2 := (⟨iv, v, ar, f, _, fo, rC3, rM3, ho3⟩ : LwI Y x mm ob _ _)
  refine g_lcmp C dL_law_1622 ?_
  rw [lg_self]
  refine g_if_eq C (tgt := 1628) dL_law_1623 (by decide) (fun q3 => ?_) (fun q3 => absurd rfl q3)
  exact cont _ _ _ _ _ _ _ _ I2 (by omega) (by omega)
