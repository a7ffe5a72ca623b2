section GD
variable {p : Program} {l : Launch} {e : Env} {R : Room} {s : State} {m : MethodId} {args : Array Value} {below : List Frame} {meth : Method} {c : Code} {Q : State → Prop} {Y : YG} {nL : Nat} {cc : ByteArray} {own : String} {pc : Nat} {lv : List (Option Value)} {st : List Value} {h : AH} {k n : Nat}
theorem g_aald (C : Cx p s m args meth c Y cc nL own) {a N j : Nat} {f : Nat → Option Nat} {i : Int32} (ha : h a = some (aA Y N f)) (hi : i = nI j) (hj : j < N) (hN : N < 2 ^ 31) (hd : decode cc pc = .ok (.aaload, 1)) (kk : Gd p l e R s m args below meth c Q Y nL (pc + 1) lv (va_rf (f j) :: st) h k n) : Gd p l e R s m args below meth c Q Y nL pc lv (.int i :: .ref a :: st) h k n := by
  obtain ⟨hx, hb, -, hown, hts, hK, -, hA, -⟩ := C
  intro H locs ls hc hS hl
  obtain ⟨ws, hP, hD, hw⟩ := id hc
  obtain ⟨q0, hq⟩ := hw a _ ha
  subst hi
  have hin := vp_in_nI hj hN
  have hlt : (nI j).toNatClampNeg < N := Nat.not_le.mp fun q => hin (Or.inr q)
  have e : (nI j).toNatClampNeg = j := nI_clamp (by omega)
  exact W.aald (v := va_rf (f j)) (ty := .array .int) hx hb (hP q0 _ hq) ((hK.2 1 _ rfl).1 N (fun j => va_rf (f j))) rfl (fun q => by cases q) (by show ¬ (_ < 0 ∨ (arrV _ _ _).slots.size ≤ _); rw [arrV_size]; exact hin) (by show (arrV _ _ _).slots[_]? = _; rw [arrV_read _ _ hlt, e]) rfl rfl hd (kk H locs ls hc hS hl)
theorem g_aast (C : Cx p s m args meth c Y cc nL own) {a N j v M : Nat} {f : Nat → Option Nat} {fv : Nat → Int32} {i : Int32} (ha : h a = some (aA Y N f)) (hv : h v = some (aI Y M fv)) (hi : i = nI j) (hj : j < N) (hN : N < 2 ^ 31) (hd : decode cc pc = .ok (.aastore, 1)) (kk : Gd p l e R s m args below meth c Q Y nL (pc + 1) lv st (hup h a (aA Y N (va_up f j (some v)))) k n) : Gd p l e R s m args below meth c Q Y nL pc lv (.ref v :: .int i :: .ref a :: st) h k n := by
  have hao := tf_aoA C
  obtain ⟨hx, hb, -, hown, hts, hK, -, hA, -⟩ := C
  intro H locs ls hc hS hl
  obtain ⟨ws, hP, hD, hw⟩ := id hc
  obtain ⟨q0, hq⟩ := hw a _ ha
  obtain ⟨qk, hqk⟩ := hw v _ hv
  subst hi
  have hin := vp_in_nI hj hN
  have hlt : (nI j).toNatClampNeg < N := Nat.not_le.mp fun q => hin (Or.inr q)
  have h0 : ¬ nI j < 0 := fun q => hin (Or.inl q)
  have e : (nI j).toNatClampNeg = j := nI_clamp (by omega)
  obtain ⟨comp, cA, kA, h1, h2, h3, h4, h5⟩ := arrayOverA_spec hao
  have ecA : cA = Y.cJ := Option.some.inj (h5.symm.trans (hK.2 1 _ rfl).2)
  have ecm : comp = Y.cI := Option.some.inj (h1.symm.trans (hK.2 0 _ rfl).2)
  rw [ecA] at h3
  rw [ecm] at h4
  obtain ⟨-, kI, hkI, -⟩ := (hK.2 0 _ rfl).1 0 (fun _ => .null)
  refine W.aast hx hb (hP q0 _ hq) (fun q h => by cases h) (fun h => by cases h) h3 h4 rfl hkI ⟨h0, by show _ < (arrV _ _ _).slots.size; rw [arrV_size]; exact hlt⟩ (hP qk _ hqk) (fun q h => by cases h) hkI (by show Vm.assignable _ Y.cI Y.cI = true; unfold Vm.assignable Vm.assignableAux; rw [beq_self_eq_true, Bool.true_or]) rfl rfl hd fun H1 e1 z oq => ?_
  refine kk H1 _ ls (cw_set hD hw hq (hP.set hD hq ?_ oq) (hD.set hq)) (hS.put z oq (hD.2 q0 _ hq)) hl
  show H1[a]? = some (vp_cell _ _)
  rw [e1]
  rw [vp_cell_q, vp_cell_q, arrV_store, e]
  congr 2
  funext q
  by_cases hq2 : q = j
  · subst hq2
    simp [updV, va_up, va_rf]
  · simp [updV, va_up, hq2]
theorem g_newA (C : Cx p s m args meth c Y cc nL own) {idx N : Nat} {i : Int32} (hi : i = nI N) (hN : N ≤ 60000000) (hlink : Cond.classLink own idx "[I" ∈ AllW) (hk : k + 1 ≤ R.cells) (hn : n + N ≤ R.slots) (hd : decode cc pc = .ok (.anewarray idx, 3)) (kk : ∀ q : Nat, h q = none → Gd p l e R s m args below meth c Q Y nL (pc + 3) lv (.ref q :: st) (hup h q (aA Y N (fun _ => none))) (k + 1) (n + N)) : Gd p l e R s m args below meth c Q Y nL pc lv (.int i :: st) h k n := by
  have hao := tf_aoA C
  obtain ⟨hx, hb, -, hown, hts, hK, -, hA, -⟩ := C
  intro H locs ls hc hS hl
  obtain ⟨ws, hP, hD, hw⟩ := id hc
  subst hi
  have e : (nI N).toNatClampNeg = N := nI_clamp (by omega)
  refine W.anewA (t := .int) hx hb hown (hts _ hlink) (over_moved (Vm.Alike.refl _) hao) rfl hd rfl (nI_pos (by omega)) (by rw [e]; omega) hk (by rw [e]; exact hn) fun cA kA comp f1 f2 f3 f4 => ?_
  rw [e]
  have ecA : cA = Y.cJ := Option.some.inj (f1.symm.trans (hK.2 1 _ rfl).2)
  subst ecA
  generalize hH1 : H.push ({ cls := Y.cJ, slots := Array.replicate N .null, vm := .none } : Cell) = H1
  have z1 : H1.size = H.size + 1 := by rw [← hH1, Array.size_push]
  have e1 : H1[H.size]? = some (arrV Y.cJ N (fun _ => .null)) := by rw [← hH1, Array.getElem?_push_size, ← arrV_new]
  have o1 : ∀ q : Nat, q < H.size → H1[q]? = H[q]? := fun q hq => by rw [← hH1, Array.getElem?_push, if_neg (Nat.ne_of_lt hq)]
  have hk2 : ∀ (k : Nat) (x : Nat × va_E), ws[k]? = some x → H1[x.1]? = H[x.1]? := fun k x hx => o1 x.1 ((hP k x hx).lt)
  obtain ⟨z3, z4⟩ := cw_push (Y := Y) (a := H.size) (e1 := aA Y N (fun _ => none)) hw ((hP.kept hk2).app (fun k x hx => by
    have hz : k < 1 := (List.getElem?_eq_some_iff.mp hx).1
    rw [show k = 0 by omega] at hx
    cases hx
    show H1[H.size]? = some (vp_cell _ _)
    rw [vp_cell_q]
    exact e1)) (hD.push hP rfl (hA _ hS.1))
  exact kk H.size z3 H1 locs ls z4 ⟨Nat.le_trans hS.1 (by omega), fun x h1 h2 => (o1 x (Nat.lt_of_lt_of_le h1 hS.1)).trans (hS.2.1 x h1 h2), hS.2.2⟩ hl
theorem g_callIN (C : Cx p s m args meth c Y cc nL own) {y : MethodName} {cy : ByteArray} {maxL : Nat} {f L mc ms idx na : Nat} {As st0 : List Value} {post : Option Value → AH → Prop} {b : Nat} {host : String} (hM : MK l Y y cy maxL none f L mc ms (.ref b :: As) h post) (hy : okI y cy maxL na) (hlink : va_Nw (.methodLinkNest own idx y host) s) (hsk : st0 = As.reverse ++ .ref b :: st) (hna : As.length = na) (hd : decode cc pc = .ok (.invokespecial idx, 3)) (hst : (st.map fun v => v.category).sum ≤ 8) (hf : f + 1 ≤ R.frames) (hL : 8 + (maxL + 11) + L ≤ R.locals) (hkc : k + mc ≤ R.cells) (hns : n + ms ≤ R.slots) (kk : ∀ (v : Option Value) (h' : AH), post v h' → Gd p l e R s m args below meth c Q Y nL (pc + 3) lv (v.toList ++ st) (h') (k + mc) (n + ms)) : Gd p l e R s m args below meth c Q Y nL pc lv st0 h k n := by
  have hC := C
  obtain ⟨hx, hb, hml, hown, hts, hK, -, hA, -⟩ := C
  obtain ⟨y1, y3, y4, y8, y5, y6, y7⟩ := hy
  refine g_run (av := (Value.ref b :: As).toArray) (post := post) (st0 := st0) (mc := mc) (ms := ms) (fun H locs ls hc hS hl => ?_) kk
  exact va_runIN (As := As) (rest := st) ⟨hx, hb, hml, hown, hts⟩ hM ⟨va_cnB na hts (gi_c y4) rfl rfl rfl hlink (hts _ y3) ⟨y5, y6, y7⟩ ⟨hf, hL⟩, y8, hts _ y1⟩ ⟨WD.blind, fun U hU hW => ⟨rfl, hC.wd hc hS U hU hW⟩⟩ rfl hna hl.1 hsk (lv_room hst) hd ⟨hkc, hns⟩
end GD
