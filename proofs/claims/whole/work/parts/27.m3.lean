/-- the model's answer: a number, or thrown is 1 -/
def pM (x : Nat) (ar : Nat → Nat) (g : Sg) (h : AH) (o : Option Int32) : Option Value → AH → Prop := fun v h2 => v = some (.int (o.getD 0)) ∧ h2 = hup h x (mC g ar (if o.isSome = true then nI 0 else nI 1))
theorem pM_s {x : Nat} {ar : Nat → Nat} {g : Sg} {h : AH} {o : Option Int32} {w : Int32} (ho : o = some w) : pM x ar g h o (some (.int w)) (hup h x (mC g ar (nI 0))) := by
  subst ho
  exact ⟨rfl, rfl⟩
theorem pM_n {x : Nat} {ar : Nat → Nat} {g : Sg} {h : AH} {o : Option Int32} (ho : o = none) : pM x ar g h o (some (.int (nI 0))) (hup (hup h x (mC g ar (nI 0))) x (mC g ar (nI 1))) := by
  subst ho
  exact ⟨rfl, by rw [hup_hup]; rfl⟩
theorem idx_of {n : Nat} {i : Int32} (hn : n ≤ 1000) (h : hasP n i = true) : ∃ j, j < n ∧ i = nI j ∧ idx n i = some j := idx_t hn h
set_option maxRecDepth 100000 in
set_option maxHeartbeats 4000000 in
theorem K_X3_evening (l : Launch) (Y : YG) {x : Nat} {th : Int32} {ar : Nat → Nat} {f : Nat → Nat → Int32} {g : Sg} {h : AH} (r : RepM Y x th ar f g h) (iv : Inv g) : MX l Y yX3_evening cX3_evening 1 (some .int) 1 21 0 0 [.ref x] h (pS (some (.int (nI g.now))) (hup h x (mC g ar (nI 0)))) (noX) := by
  have hn60 := iv.n60
  have hnp16 := iv.np
  have hnow := iv.now
  have hn1 := iv.n1
  refine MX.of (by decide +kernel) (Nat.le_of_ble_eq_true rfl) ?_
  intro p e s m args0 below meth c C hr hout hnm
  refine g_aload_n C dX3_evening_0 rfl (by first | rfl | exact isR_rf _) ?_
  refine g_aload_n C dX3_evening_1 rfl (by first | rfl | exact isR_rf _) ?_
  refine gf_X3_45 C (r.x) rfl dX3_evening_2 ?_
  refine g_callV C ((K_X3_ok l Y r _).K) ok_X3_ok w803 (r.x) rfl rfl rfl dX3_evening_5 (Nat.le_of_ble_eq_true rfl) (Nat.le_of_ble_eq_true rfl) (Nat.le_of_ble_eq_true rfl) (Nat.le_of_ble_eq_true rfl) (Nat.le_of_ble_eq_true rfl) (ofS ?_)
  exact g_iret C hr dX3_evening_8 (Nat.le_of_ble_eq_true rfl) (Nat.le_of_ble_eq_true rfl) (⟨rfl, rfl⟩)
set_option maxRecDepth 100000 in
set_option maxHeartbeats 4000000 in
theorem K_X3_evenings (l : Launch) (Y : YG) {x : Nat} {th : Int32} {ar : Nat → Nat} {f : Nat → Nat → Int32} {g : Sg} {h : AH} (r : RepM Y x th ar f g h) (iv : Inv g) : MX l Y yX3_evenings cX3_evenings 1 (some .int) 1 21 0 0 [.ref x] h (pS (some (.int (nI g.n))) (hup h x (mC g ar (nI 0)))) (noX) := by
  have hn60 := iv.n60
  have hnp16 := iv.np
  have hnow := iv.now
  have hn1 := iv.n1
  refine MX.of (by decide +kernel) (Nat.le_of_ble_eq_true rfl) ?_
  intro p e s m args0 below meth c C hr hout hnm
  refine g_aload_n C dX3_evenings_0 rfl (by first | rfl | exact isR_rf _) ?_
  refine g_aload_n C dX3_evenings_1 rfl (by first | rfl | exact isR_rf _) ?_
  refine gf_X3_9 C (r.x) rfl dX3_evenings_2 ?_
  refine g_callV C ((K_X3_ok l Y r _).K) ok_X3_ok w803 (r.x) rfl rfl rfl dX3_evenings_5 (Nat.le_of_ble_eq_true rfl) (Nat.le_of_ble_eq_true rfl) (Nat.le_of_ble_eq_true rfl) (Nat.le_of_ble_eq_true rfl) (Nat.le_of_ble_eq_true rfl) (ofS ?_)
  exact g_iret C hr dX3_evenings_8 (Nat.le_of_ble_eq_true rfl) (Nat.le_of_ble_eq_true rfl) (⟨rfl, rfl⟩)
set_option maxRecDepth 100000 in
set_option maxHeartbeats 4000000 in
theorem K_X3_pieces (l : Launch) (Y : YG) {x : Nat} {th : Int32} {ar : Nat → Nat} {f : Nat → Nat → Int32} {g : Sg} {h : AH} (r : RepM Y x th ar f g h) (iv : Inv g) : MX l Y yX3_pieces cX3_pieces 1 (some .int) 1 21 0 0 [.ref x] h (pS (some (.int (nI g.np))) (hup h x (mC g ar (nI 0)))) (noX) := by
  have hn60 := iv.n60
  have hnp16 := iv.np
  have hnow := iv.now
  have hn1 := iv.n1
  refine MX.of (by decide +kernel) (Nat.le_of_ble_eq_true rfl) ?_
  intro p e s m args0 below meth c C hr hout hnm
  refine g_aload_n C dX3_pieces_0 rfl (by first | rfl | exact isR_rf _) ?_
  refine g_aload_n C dX3_pieces_1 rfl (by first | rfl | exact isR_rf _) ?_
  refine gf_X3_42 C (r.x) rfl dX3_pieces_2 ?_
  refine g_callV C ((K_X3_ok l Y r _).K) ok_X3_ok w803 (r.x) rfl rfl rfl dX3_pieces_5 (Nat.le_of_ble_eq_true rfl) (Nat.le_of_ble_eq_true rfl) (Nat.le_of_ble_eq_true rfl) (Nat.le_of_ble_eq_true rfl) (Nat.le_of_ble_eq_true rfl) (ofS ?_)
  exact g_iret C hr dX3_pieces_8 (Nat.le_of_ble_eq_true rfl) (Nat.le_of_ble_eq_true rfl) (⟨rfl, rfl⟩)
set_option maxRecDepth 100000 in
set_option maxHeartbeats 4000000 in
theorem K_X3_catColumn (l : Launch) (Y : YG) {x : Nat} {th : Int32} {ar : Nat → Nat} {f : Nat → Nat → Int32} {g : Sg} {h : AH} (r : RepM Y x th ar f g h) (iv : Inv g) : MX l Y yX3_catColumn cX3_catColumn 1 (some .int) 2 42 0 0 [.ref x] h (pS (some (.int (nI (g.ct g.now / 8)))) (hup h x (mC g ar (nI 0)))) (noX) := by
  have hn60 := iv.n60
  have hnp16 := iv.np
  have hnow := iv.now
  have hn1 := iv.n1
  have hct := iv.ct hnow
  refine MX.of (by decide +kernel) (Nat.le_of_ble_eq_true rfl) ?_
  intro p e s m args0 below meth c C hr hout hnm
  refine g_aload_n C dX3_catColumn_0 rfl (by first | rfl | exact isR_rf _) ?_
  refine g_aload_n C dX3_catColumn_1 rfl (by first | rfl | exact isR_rf _) ?_
  refine g_callV C ((K_X3_cat l Y r iv).K) ok_X3_cat w750 (r.x) rfl rfl rfl dX3_catColumn_2 (Nat.le_of_ble_eq_true rfl) (Nat.le_of_ble_eq_true rfl) (Nat.le_of_ble_eq_true rfl) (Nat.le_of_ble_eq_true rfl) (Nat.le_of_ble_eq_true rfl) (ofS ?_)
  refine g_bipush C (v := nI 8) dX3_catColumn_5 (by decide) ?_
  first | with_reducible refine g_idivN C dX3_catColumn_7 (by omega) (by decide) ?_ | refine g_idiv C dX3_catColumn_7 (by decide) ?_
  refine g_callV C ((K_X3_ok l Y r _).K) ok_X3_ok w803 (r.x) rfl rfl rfl dX3_catColumn_8 (Nat.le_of_ble_eq_true rfl) (Nat.le_of_ble_eq_true rfl) (Nat.le_of_ble_eq_true rfl) (Nat.le_of_ble_eq_true rfl) (Nat.le_of_ble_eq_true rfl) (ofS ?_)
  exact g_iret C hr dX3_catColumn_11 (Nat.le_of_ble_eq_true rfl) (Nat.le_of_ble_eq_true rfl) (⟨rfl, rfl⟩)
set_option maxRecDepth 100000 in
set_option maxHeartbeats 4000000 in
theorem K_X3_catRow (l : Launch) (Y : YG) {x : Nat} {th : Int32} {ar : Nat → Nat} {f : Nat → Nat → Int32} {g : Sg} {h : AH} (r : RepM Y x th ar f g h) (iv : Inv g) : MX l Y yX3_catRow cX3_catRow 1 (some .int) 2 42 0 0 [.ref x] h (pS (some (.int (nI (g.ct g.now % 8)))) (hup h x (mC g ar (nI 0)))) (noX) := by
  have hn60 := iv.n60
  have hnp16 := iv.np
  have hnow := iv.now
  have hn1 := iv.n1
  have hct := iv.ct hnow
  refine MX.of (by decide +kernel) (Nat.le_of_ble_eq_true rfl) ?_
  intro p e s m args0 below meth c C hr hout hnm
  refine g_aload_n C dX3_catRow_0 rfl (by first | rfl | exact isR_rf _) ?_
  refine g_aload_n C dX3_catRow_1 rfl (by first | rfl | exact isR_rf _) ?_
  refine g_callV C ((K_X3_cat l Y r iv).K) ok_X3_cat w750 (r.x) rfl rfl rfl dX3_catRow_2 (Nat.le_of_ble_eq_true rfl) (Nat.le_of_ble_eq_true rfl) (Nat.le_of_ble_eq_true rfl) (Nat.le_of_ble_eq_true rfl) (Nat.le_of_ble_eq_true rfl) (ofS ?_)
  refine g_bipush C (v := nI 8) dX3_catRow_5 (by decide) ?_
  first | with_reducible refine g_iremN C dX3_catRow_7 (by omega) (by decide) ?_ | refine g_irem C dX3_catRow_7 (by decide) ?_
  refine g_callV C ((K_X3_ok l Y r _).K) ok_X3_ok w803 (r.x) rfl rfl rfl dX3_catRow_8 (Nat.le_of_ble_eq_true rfl) (Nat.le_of_ble_eq_true rfl) (Nat.le_of_ble_eq_true rfl) (Nat.le_of_ble_eq_true rfl) (Nat.le_of_ble_eq_true rfl) (ofS ?_)
  exact g_iret C hr dX3_catRow_11 (Nat.le_of_ble_eq_true rfl) (Nat.le_of_ble_eq_true rfl) (⟨rfl, rfl⟩)
set_option maxRecDepth 100000 in
set_option maxHeartbeats 4000000 in
theorem K_X3_lying (l : Launch) (Y : YG) {x : Nat} {th : Int32} {ar : Nat → Nat} {f : Nat → Nat → Int32} {g : Sg} {h : AH} (r : RepM Y x th ar f g h) (iv : Inv g) : MX l Y yX3_lying cX3_lying 1 (some .int) 3 68 0 0 [.ref x] h (pS (some (.int (nI (lyN g g.now)))) (hup h x (mC g ar (nI 0)))) (noX) := by
  have hn60 := iv.n60
  have hnp16 := iv.np
  have hnow := iv.now
  have hn1 := iv.n1
  refine MX.of (by decide +kernel) (Nat.le_of_ble_eq_true rfl) ?_
  intro p e s m args0 below meth c C hr hout hnm
  refine g_aload_n C dX3_lying_0 rfl (by first | rfl | exact isR_rf _) ?_
  refine g_aload_n C dX3_lying_1 rfl (by first | rfl | exact isR_rf _) ?_
  refine g_aload_n C dX3_lying_2 rfl (by first | rfl | exact isR_rf _) ?_
  refine gf_X3_45 C (r.x) rfl dX3_lying_3 ?_
  refine g_aload_n C dX3_lying_6 rfl (by first | rfl | exact isR_rf _) ?_
  refine gf_X3_42 C (r.x) rfl dX3_lying_7 ?_
  refine g_callV C ((K_X3_down l Y r iv hnow).K) ok_X3_down w827 (r.x) rfl rfl rfl dX3_lying_10 (Nat.le_of_ble_eq_true rfl) (Nat.le_of_ble_eq_true rfl) (Nat.le_of_ble_eq_true rfl) (Nat.le_of_ble_eq_true rfl) (Nat.le_of_ble_eq_true rfl) (ofS ?_)
  refine g_callV C ((K_X3_ok l Y r _).K) ok_X3_ok w803 (r.x) rfl rfl rfl dX3_lying_13 (Nat.le_of_ble_eq_true rfl) (Nat.le_of_ble_eq_true rfl) (Nat.le_of_ble_eq_true rfl) (Nat.le_of_ble_eq_true rfl) (Nat.le_of_ble_eq_true rfl) (ofS ?_)
  exact g_iret C hr dX3_lying_16 (Nat.le_of_ble_eq_true rfl) (Nat.le_of_ble_eq_true rfl) (⟨rfl, rfl⟩)
set_option maxRecDepth 100000 in
set_option maxHeartbeats 4000000 in
theorem K_X3_ends (l : Launch) (Y : YG) {x : Nat} {th : Int32} {ar : Nat → Nat} {f : Nat → Nat → Int32} {g : Sg} {h : AH} (r : RepM Y x th ar f g h) (iv : Inv g) : MX l Y yX3_ends cX3_ends 1 (some .int) 2 45 0 0 [.ref x] h (pS (some (.int (nI (enN g)))) (hup h x (mC g ar (nI 0)))) (noX) := by
  have hn60 := iv.n60
  have hnp16 := iv.np
  have hnow := iv.now
  have hn1 := iv.n1
  refine MX.of (by decide +kernel) (Nat.le_of_ble_eq_true rfl) ?_
  intro p e s m args0 below meth c C hr hout hnm
  refine g_aload_n C dX3_ends_0 rfl (by first | rfl | exact isR_rf _) ?_
  refine g_aload_n C dX3_ends_1 rfl (by first | rfl | exact isR_rf _) ?_
  refine g_callV C ((K_X3_leaves l Y r iv).K) ok_X3_leaves w903 (r.x) rfl rfl rfl dX3_ends_2 (Nat.le_of_ble_eq_true rfl) (Nat.le_of_ble_eq_true rfl) (Nat.le_of_ble_eq_true rfl) (Nat.le_of_ble_eq_true rfl) (Nat.le_of_ble_eq_true rfl) (ofS ?_)
  refine g_callV C ((K_X3_ok l Y r _).K) ok_X3_ok w803 (r.x) rfl rfl rfl dX3_ends_5 (Nat.le_of_ble_eq_true rfl) (Nat.le_of_ble_eq_true rfl) (Nat.le_of_ble_eq_true rfl) (Nat.le_of_ble_eq_true rfl) (Nat.le_of_ble_eq_true rfl) (ofS ?_)
  exact g_iret C hr dX3_ends_8 (Nat.le_of_ble_eq_true rfl) (Nat.le_of_ble_eq_true rfl) (⟨rfl, rfl⟩)
set_option maxRecDepth 100000 in
set_option maxHeartbeats 4000000 in
theorem K_X3_mostKnocked (l : Launch) (Y : YG) {x : Nat} {th : Int32} {ar : Nat → Nat} {f : Nat → Nat → Int32} {g : Sg} {h : AH} (r : RepM Y x th ar f g h) (iv : Inv g) : MX l Y yX3_mostKnocked cX3_mostKnocked 1 (some .int) 2 45 0 0 [.ref x] h (pS (some (.int (nO (mkF (knN g) g.np)))) (hup h x (mC g ar (nI 0)))) (noX) := by
  have hn60 := iv.n60
  have hnp16 := iv.np
  have hnow := iv.now
  have hn1 := iv.n1
  refine MX.of (by decide +kernel) (Nat.le_of_ble_eq_true rfl) ?_
  intro p e s m args0 below meth c C hr hout hnm
  refine g_aload_n C dX3_mostKnocked_0 rfl (by first | rfl | exact isR_rf _) ?_
  refine g_aload_n C dX3_mostKnocked_1 rfl (by first | rfl | exact isR_rf _) ?_
  refine g_callV C ((K_X3_mostDown l Y r iv).K) ok_X3_mostDown w927 (r.x) rfl rfl rfl dX3_mostKnocked_2 (Nat.le_of_ble_eq_true rfl) (Nat.le_of_ble_eq_true rfl) (Nat.le_of_ble_eq_true rfl) (Nat.le_of_ble_eq_true rfl) (Nat.le_of_ble_eq_true rfl) (ofS ?_)
  refine g_callV C ((K_X3_ok l Y r _).K) ok_X3_ok w803 (r.x) rfl rfl rfl dX3_mostKnocked_5 (Nat.le_of_ble_eq_true rfl) (Nat.le_of_ble_eq_true rfl) (Nat.le_of_ble_eq_true rfl) (Nat.le_of_ble_eq_true rfl) (Nat.le_of_ble_eq_true rfl) (ofS ?_)
  exact g_iret C hr dX3_mostKnocked_8 (Nat.le_of_ble_eq_true rfl) (Nat.le_of_ble_eq_true rfl) (⟨rfl, rfl⟩)
set_option maxRecDepth 100000 in
set_option maxHeartbeats 4000000 in
theorem K_X3_branches (l : Launch) (Y : YG) {x : Nat} {th : Int32} {ar : Nat → Nat} {f : Nat → Nat → Int32} {g : Sg} {h : AH} (r : RepM Y x th ar f g h) (iv : Inv g) (i : Int32) : MX l Y yX3_branches cX3_branches 2 (some .int) 2 43 0 0 [.ref x, .int i] h (pM x ar g h ((idx g.n i).map (fun j => nI (chN g.par g.n j)))) (noX) := by
  have hn60 := iv.n60
  have hnp16 := iv.np
  have hnow := iv.now
  have hn1 := iv.n1
  refine MX.of (by decide +kernel) (Nat.le_of_ble_eq_true rfl) ?_
  intro p e s m args0 below meth c C hr hout hnm
  refine g_aload_n C dX3_branches_0 rfl (by first | rfl | exact isR_rf _) ?_
  refine g_iconst C (v := nI 0) dX3_branches_1 (by decide) ?_
  refine pf_X3_35 C (r.x) (Nat.le_of_ble_eq_true rfl) dX3_branches_2 ?_
  have r1 := r.th (nI 0)
  refine g_aload_n C dX3_branches_5 rfl (by first | rfl | exact isR_rf _) ?_
  refine g_iload_n C dX3_branches_6 rfl ?_
  refine g_callV C ((K_X3_isEvening l Y r1 iv _).K) ok_X3_isEvening w787 (r1.x) rfl rfl rfl dX3_branches_7 (Nat.le_of_ble_eq_true rfl) (Nat.le_of_ble_eq_true rfl) (Nat.le_of_ble_eq_true rfl) (Nat.le_of_ble_eq_true rfl) (Nat.le_of_ble_eq_true rfl) (ofS ?_)
  refine g_if_eqB C (tgt := 21) dX3_branches_10 (by decide) (fun q1 => ?_) (fun q1 => ?_)
  · refine g_aload_n C dX3_branches_21 rfl (by first | rfl | exact isR_rf _) ?_
    refine g_iconst C (v := nI 1) dX3_branches_22 (by decide) ?_
    refine g_callV C ((K_X3_no l Y r1 _).K) ok_X3_no w718 (r1.x) rfl rfl rfl dX3_branches_23 (Nat.le_of_ble_eq_true rfl) (Nat.le_of_ble_eq_true rfl) (Nat.le_of_ble_eq_true rfl) (Nat.le_of_ble_eq_true rfl) (Nat.le_of_ble_eq_true rfl) (ofS ?_)
    exact g_iret C hr dX3_branches_26 (Nat.le_of_ble_eq_true rfl) (Nat.le_of_ble_eq_true rfl) (pM_n (by rw [idx_f q1]; rfl))
  · obtain ⟨j, hj, rfl, ej⟩ := idx_of (n := g.n) (by omega) q1
    refine g_aload_n C dX3_branches_13 rfl (by first | rfl | exact isR_rf _) ?_
    refine g_iload_n C dX3_branches_14 rfl ?_
    refine g_callV C ((K_X3_below l Y r1 iv hj).K) ok_X3_below w879 (r1.x) rfl rfl rfl dX3_branches_15 (Nat.le_of_ble_eq_true rfl) (Nat.le_of_ble_eq_true rfl) (Nat.le_of_ble_eq_true rfl) (Nat.le_of_ble_eq_true rfl) (Nat.le_of_ble_eq_true rfl) (ofS ?_)
    refine g_goto C (tgt := 26) dX3_branches_18 (by decide) ?_
    exact g_iret C hr dX3_branches_26 (Nat.le_of_ble_eq_true rfl) (Nat.le_of_ble_eq_true rfl) (pM_s (by rw [ej]; rfl))
set_option maxRecDepth 100000 in
set_option maxHeartbeats 4000000 in
theorem K_X3_behind (l : Launch) (Y : YG) {x : Nat} {th : Int32} {ar : Nat → Nat} {f : Nat → Nat → Int32} {g : Sg} {h : AH} (r : RepM Y x th ar f g h) (iv : Inv g) (i : Int32) : MX l Y yX3_behind cX3_behind 2 (some .int) 2 47 0 0 [.ref x, .int i] h (pM x ar g h ((idx g.n i).map (fun j => nI (dsN g.par g.n j)))) (noX) := by
  have hn60 := iv.n60
  have hnp16 := iv.np
  have hnow := iv.now
  have hn1 := iv.n1
  refine MX.of (by decide +kernel) (Nat.le_of_ble_eq_true rfl) ?_
  intro p e s m args0 below meth c C hr hout hnm
  refine g_aload_n C dX3_behind_0 rfl (by first | rfl | exact isR_rf _) ?_
  refine g_iconst C (v := nI 0) dX3_behind_1 (by decide) ?_
  refine pf_X3_35 C (r.x) (Nat.le_of_ble_eq_true rfl) dX3_behind_2 ?_
  have r1 := r.th (nI 0)
  refine g_aload_n C dX3_behind_5 rfl (by first | rfl | exact isR_rf _) ?_
  refine g_iload_n C dX3_behind_6 rfl ?_
  refine g_callV C ((K_X3_isEvening l Y r1 iv _).K) ok_X3_isEvening w787 (r1.x) rfl rfl rfl dX3_behind_7 (Nat.le_of_ble_eq_true rfl) (Nat.le_of_ble_eq_true rfl) (Nat.le_of_ble_eq_true rfl) (Nat.le_of_ble_eq_true rfl) (Nat.le_of_ble_eq_true rfl) (ofS ?_)
  refine g_if_eqB C (tgt := 21) dX3_behind_10 (by decide) (fun q1 => ?_) (fun q1 => ?_)
  · refine g_aload_n C dX3_behind_21 rfl (by first | rfl | exact isR_rf _) ?_
    refine g_iconst C (v := nI 1) dX3_behind_22 (by decide) ?_
    refine g_callV C ((K_X3_no l Y r1 _).K) ok_X3_no w718 (r1.x) rfl rfl rfl dX3_behind_23 (Nat.le_of_ble_eq_true rfl) (Nat.le_of_ble_eq_true rfl) (Nat.le_of_ble_eq_true rfl) (Nat.le_of_ble_eq_true rfl) (Nat.le_of_ble_eq_true rfl) (ofS ?_)
    exact g_iret C hr dX3_behind_26 (Nat.le_of_ble_eq_true rfl) (Nat.le_of_ble_eq_true rfl) (pM_n (by rw [idx_f q1]; rfl))
  · obtain ⟨j, hj, rfl, ej⟩ := idx_of (n := g.n) (by omega) q1
    refine g_aload_n C dX3_behind_13 rfl (by first | rfl | exact isR_rf _) ?_
    refine g_iload_n C dX3_behind_14 rfl ?_
    refine g_callV C ((K_X3_allBelow l Y r1 iv hj).K) ok_X3_allBelow w887 (r1.x) rfl rfl rfl dX3_behind_15 (Nat.le_of_ble_eq_true rfl) (Nat.le_of_ble_eq_true rfl) (Nat.le_of_ble_eq_true rfl) (Nat.le_of_ble_eq_true rfl) (Nat.le_of_ble_eq_true rfl) (ofS ?_)
    refine g_goto C (tgt := 26) dX3_behind_18 (by decide) ?_
    exact g_iret C hr dX3_behind_26 (Nat.le_of_ble_eq_true rfl) (Nat.le_of_ble_eq_true rfl) (pM_s (by rw [ej]; rfl))
set_option maxRecDepth 100000 in
set_option maxHeartbeats 4000000 in
theorem K_X3_lyingIn (l : Launch) (Y : YG) {x : Nat} {th : Int32} {ar : Nat → Nat} {f : Nat → Nat → Int32} {g : Sg} {h : AH} (r : RepM Y x th ar f g h) (iv : Inv g) (i : Int32) : MX l Y yX3_lyingIn cX3_lyingIn 2 (some .int) 3 68 0 0 [.ref x, .int i] h (pM x ar g h ((idx g.n i).map (fun j => nI (lyN g j)))) (noX) := by
  have hn60 := iv.n60
  have hnp16 := iv.np
  have hnow := iv.now
  have hn1 := iv.n1
  refine MX.of (by decide +kernel) (Nat.le_of_ble_eq_true rfl) ?_
  intro p e s m args0 below meth c C hr hout hnm
  refine g_aload_n C dX3_lyingIn_0 rfl (by first | rfl | exact isR_rf _) ?_
  refine g_iconst C (v := nI 0) dX3_lyingIn_1 (by decide) ?_
  refine pf_X3_35 C (r.x) (Nat.le_of_ble_eq_true rfl) dX3_lyingIn_2 ?_
  have r1 := r.th (nI 0)
  refine g_aload_n C dX3_lyingIn_5 rfl (by first | rfl | exact isR_rf _) ?_
  refine g_iload_n C dX3_lyingIn_6 rfl ?_
  refine g_callV C ((K_X3_isEvening l Y r1 iv _).K) ok_X3_isEvening w787 (r1.x) rfl rfl rfl dX3_lyingIn_7 (Nat.le_of_ble_eq_true rfl) (Nat.le_of_ble_eq_true rfl) (Nat.le_of_ble_eq_true rfl) (Nat.le_of_ble_eq_true rfl) (Nat.le_of_ble_eq_true rfl) (ofS ?_)
  refine g_if_eqB C (tgt := 25) dX3_lyingIn_10 (by decide) (fun q1 => ?_) (fun q1 => ?_)
  · refine g_aload_n C dX3_lyingIn_25 rfl (by first | rfl | exact isR_rf _) ?_
    refine g_iconst C (v := nI 1) dX3_lyingIn_26 (by decide) ?_
    refine g_callV C ((K_X3_no l Y r1 _).K) ok_X3_no w718 (r1.x) rfl rfl rfl dX3_lyingIn_27 (Nat.le_of_ble_eq_true rfl) (Nat.le_of_ble_eq_true rfl) (Nat.le_of_ble_eq_true rfl) (Nat.le_of_ble_eq_true rfl) (Nat.le_of_ble_eq_true rfl) (ofS ?_)
    exact g_iret C hr dX3_lyingIn_30 (Nat.le_of_ble_eq_true rfl) (Nat.le_of_ble_eq_true rfl) (pM_n (by rw [idx_f q1]; rfl))
  · obtain ⟨j, hj, rfl, ej⟩ := idx_of (n := g.n) (by omega) q1
    refine g_aload_n C dX3_lyingIn_13 rfl (by first | rfl | exact isR_rf _) ?_
    refine g_iload_n C dX3_lyingIn_14 rfl ?_
    refine g_aload_n C dX3_lyingIn_15 rfl (by first | rfl | exact isR_rf _) ?_
    refine gf_X3_42 C (r1.x) rfl dX3_lyingIn_16 ?_
    refine g_callV C ((K_X3_down l Y r1 iv hj).K) ok_X3_down w827 (r1.x) rfl rfl rfl dX3_lyingIn_19 (Nat.le_of_ble_eq_true rfl) (Nat.le_of_ble_eq_true rfl) (Nat.le_of_ble_eq_true rfl) (Nat.le_of_ble_eq_true rfl) (Nat.le_of_ble_eq_true rfl) (ofS ?_)
    refine g_goto C (tgt := 30) dX3_lyingIn_22 (by decide) ?_
    exact g_iret C hr dX3_lyingIn_30 (Nat.le_of_ble_eq_true rfl) (Nat.le_of_ble_eq_true rfl) (pM_s (by rw [ej]; rfl))
set_option maxRecDepth 100000 in
set_option maxHeartbeats 4000000 in
theorem K_X3_placeOf (l : Launch) (Y : YG) {x : Nat} {th : Int32} {ar : Nat → Nat} {f : Nat → Nat → Int32} {g : Sg} {h : AH} (r : RepM Y x th ar f g h) (iv : Inv g) (i : Int32) : MX l Y yX3_placeOf cX3_placeOf 2 (some .int) 2 44 0 0 [.ref x, .int i] h (pM x ar g h ((idx g.np i).map (fun j => nI (g.pos g.now j)))) (noX) := by
  have hn60 := iv.n60
  have hnp16 := iv.np
  have hnow := iv.now
  have hn1 := iv.n1
  refine MX.of (by decide +kernel) (Nat.le_of_ble_eq_true rfl) ?_
  intro p e s m args0 below meth c C hr hout hnm
  refine g_aload_n C dX3_placeOf_0 rfl (by first | rfl | exact isR_rf _) ?_
  refine g_iconst C (v := nI 0) dX3_placeOf_1 (by decide) ?_
  refine pf_X3_35 C (r.x) (Nat.le_of_ble_eq_true rfl) dX3_placeOf_2 ?_
  have r1 := r.th (nI 0)
  refine g_aload_n C dX3_placeOf_5 rfl (by first | rfl | exact isR_rf _) ?_
  refine g_iload_n C dX3_placeOf_6 rfl ?_
  refine g_callV C ((K_X3_isPiece l Y r1 iv _).K) ok_X3_isPiece w767 (r1.x) rfl rfl rfl dX3_placeOf_7 (Nat.le_of_ble_eq_true rfl) (Nat.le_of_ble_eq_true rfl) (Nat.le_of_ble_eq_true rfl) (Nat.le_of_ble_eq_true rfl) (Nat.le_of_ble_eq_true rfl) (ofS ?_)
  refine g_if_eqB C (tgt := 28) dX3_placeOf_10 (by decide) (fun q1 => ?_) (fun q1 => ?_)
  · refine g_aload_n C dX3_placeOf_28 rfl (by first | rfl | exact isR_rf _) ?_
    refine g_iconst C (v := nI 1) dX3_placeOf_29 (by decide) ?_
    refine g_callV C ((K_X3_no l Y r1 _).K) ok_X3_no w718 (r1.x) rfl rfl rfl dX3_placeOf_30 (Nat.le_of_ble_eq_true rfl) (Nat.le_of_ble_eq_true rfl) (Nat.le_of_ble_eq_true rfl) (Nat.le_of_ble_eq_true rfl) (Nat.le_of_ble_eq_true rfl) (ofS ?_)
    exact g_iret C hr dX3_placeOf_33 (Nat.le_of_ble_eq_true rfl) (Nat.le_of_ble_eq_true rfl) (pM_n (by rw [idx_f q1]; rfl))
  · obtain ⟨j, hj, rfl, ej⟩ := idx_of (n := g.np) (by omega) q1
    refine g_aload_n C dX3_placeOf_13 rfl (by first | rfl | exact isR_rf _) ?_
    refine g_aload_n C dX3_placeOf_14 rfl (by first | rfl | exact isR_rf _) ?_
    refine gf_X3_45 C (r1.x) rfl dX3_placeOf_15 ?_
    refine g_iload_n C dX3_placeOf_18 rfl ?_
    refine g_callV C ((K_X3_piece l Y r1 iv hnow hj).K) ok_X3_piece w726 (r1.x) rfl rfl rfl dX3_placeOf_19 (Nat.le_of_ble_eq_true rfl) (Nat.le_of_ble_eq_true rfl) (Nat.le_of_ble_eq_true rfl) (Nat.le_of_ble_eq_true rfl) (Nat.le_of_ble_eq_true rfl) (ofS ?_)
    obtain ⟨z1, z2, z3⟩ := pq_mod iv hnow hj
    refine g_bipush C (v := nI 100) dX3_placeOf_22 (by decide) ?_
    refine g_iremN C dX3_placeOf_24 z2 (by decide) ?_
    rw [z1]
    refine g_goto C (tgt := 33) dX3_placeOf_25 (by decide) ?_
    exact g_iret C hr dX3_placeOf_33 (Nat.le_of_ble_eq_true rfl) (Nat.le_of_ble_eq_true rfl) (pM_s (by rw [ej]; rfl))
set_option maxRecDepth 100000 in
set_option maxHeartbeats 4000000 in
theorem K_X3_lies (l : Launch) (Y : YG) {x : Nat} {th : Int32} {ar : Nat → Nat} {f : Nat → Nat → Int32} {g : Sg} {h : AH} (r : RepM Y x th ar f g h) (iv : Inv g) (i : Int32) : MX l Y yX3_lies cX3_lies 2 (some .boolean) 2 44 0 0 [.ref x, .int i] h (pM x ar g h ((idx g.np i).map (fun q => if (g.lb g.now).testBit q then 1 else 0))) (noX) := by
  have hn60 := iv.n60
  have hnp16 := iv.np
  have hnow := iv.now
  have hn1 := iv.n1
  refine MX.of (by decide +kernel) (Nat.le_of_ble_eq_true rfl) ?_
  intro p e s m args0 below meth c C hr hout hnm
  refine g_aload_n C dX3_lies_0 rfl (by first | rfl | exact isR_rf _) ?_
  refine g_iconst C (v := nI 0) dX3_lies_1 (by decide) ?_
  refine pf_X3_35 C (r.x) (Nat.le_of_ble_eq_true rfl) dX3_lies_2 ?_
  have r1 := r.th (nI 0)
  refine g_aload_n C dX3_lies_5 rfl (by first | rfl | exact isR_rf _) ?_
  refine g_iload_n C dX3_lies_6 rfl ?_
  refine g_callV C ((K_X3_isPiece l Y r1 iv _).K) ok_X3_isPiece w767 (r1.x) rfl rfl rfl dX3_lies_7 (Nat.le_of_ble_eq_true rfl) (Nat.le_of_ble_eq_true rfl) (Nat.le_of_ble_eq_true rfl) (Nat.le_of_ble_eq_true rfl) (Nat.le_of_ble_eq_true rfl) (ofS ?_)
  refine g_if_eqB C (tgt := 35) dX3_lies_10 (by decide) (fun q1 => ?_) (fun q1 => ?_)
  · refine g_aload_n C dX3_lies_35 rfl (by first | rfl | exact isR_rf _) ?_
    refine g_iconst C (v := nI 1) dX3_lies_36 (by decide) ?_
    refine g_callV C ((K_X3_isNot l Y r1 _).K) ok_X3_isNot w839 (r1.x) rfl rfl rfl dX3_lies_37 (Nat.le_of_ble_eq_true rfl) (Nat.le_of_ble_eq_true rfl) (Nat.le_of_ble_eq_true rfl) (Nat.le_of_ble_eq_true rfl) (Nat.le_of_ble_eq_true rfl) (ofS ?_)
    exact g_zret C hr (by exact Or.inl rfl) dX3_lies_40 (Nat.le_of_ble_eq_true rfl) (Nat.le_of_ble_eq_true rfl) (pM_n (by rw [idx_f q1]; rfl))
  · obtain ⟨j, hj, rfl, ej⟩ := idx_of (n := g.np) (by omega) q1
    refine g_aload_n C dX3_lies_13 rfl (by first | rfl | exact isR_rf _) ?_
    refine g_aload_n C dX3_lies_14 rfl (by first | rfl | exact isR_rf _) ?_
    refine gf_X3_45 C (r1.x) rfl dX3_lies_15 ?_
    refine g_iload_n C dX3_lies_18 rfl ?_
    refine g_callV C ((K_X3_piece l Y r1 iv hnow hj).K) ok_X3_piece w726 (r1.x) rfl rfl rfl dX3_lies_19 (Nat.le_of_ble_eq_true rfl) (Nat.le_of_ble_eq_true rfl) (Nat.le_of_ble_eq_true rfl) (Nat.le_of_ble_eq_true rfl) (Nat.le_of_ble_eq_true rfl) (ofS ?_)
    obtain ⟨z1, z2, z3⟩ := pq_mod iv hnow hj
    refine g_bipush C (v := nI 100) dX3_lies_22 (by decide) ?_
    refine g_icmp_ltN C (tgt := 31) dX3_lies_24 (by decide) z2 (by decide) (fun q2 => ?_) (fun q2 => ?_)
    · refine g_iconst C (v := nI 0) dX3_lies_31 (by decide) ?_
      refine g_goto C (tgt := 40) dX3_lies_32 (by decide) ?_
      exact g_zret C hr (by exact Or.inl rfl) dX3_lies_40 (Nat.le_of_ble_eq_true rfl) (Nat.le_of_ble_eq_true rfl) ((pM_s (by rw [ej]; exact congrArg some (if_neg (fun w => by have := z3.mpr w; omega)))))
    · refine g_iconst C (v := nI 1) dX3_lies_27 (by decide) ?_
      refine g_goto C (tgt := 40) dX3_lies_28 (by decide) ?_
      exact g_zret C hr (by exact Or.inr rfl) dX3_lies_40 (Nat.le_of_ble_eq_true rfl) (Nat.le_of_ble_eq_true rfl) ((pM_s (by rw [ej]; exact congrArg some (if_pos (z3.mp q2)))))
set_option maxRecDepth 100000 in
set_option maxHeartbeats 4000000 in
theorem K_X3_of (l : Launch) (Y : YG) {x : Nat} {th : Int32} {ar : Nat → Nat} {f : Nat → Nat → Int32} {g : Sg} {h : AH} (r : RepM Y x th ar f g h) (iv : Inv g) {k1 : Nat} (hk1 : k1 < 5) (i : Int32) : MX l Y yX3_of cX3_of 3 (some .int) 2 43 0 0 [.ref x, .ref (ar k1), .int i] h (pM x ar g h ((idx g.n i).map (fun j => f k1 j))) (noX) := by
  have hn60 := iv.n60
  have hnp16 := iv.np
  have hnow := iv.now
  have hn1 := iv.n1
  refine MX.of (by decide +kernel) (Nat.le_of_ble_eq_true rfl) ?_
  intro p e s m args0 below meth c C hr hout hnm
  have hsz : szM k1 = 60 := by unfold szM; rw [if_neg (by omega), if_neg (by omega)]
  refine g_aload_n C dX3_of_0 rfl (by first | rfl | exact isR_rf _) ?_
  refine g_iconst C (v := nI 0) dX3_of_1 (by decide) ?_
  refine pf_X3_35 C (r.x) (Nat.le_of_ble_eq_true rfl) dX3_of_2 ?_
  have r1 := r.th (nI 0)
  have ha := r1.2.1.1 k1 (by omega)
  rw [hsz] at ha
  refine g_aload_n C dX3_of_5 rfl (by first | rfl | exact isR_rf _) ?_
  refine g_iload_n C dX3_of_6 rfl ?_
  refine g_callV C ((K_X3_isEvening l Y r1 iv _).K) ok_X3_isEvening w787 (r1.x) rfl rfl rfl dX3_of_7 (Nat.le_of_ble_eq_true rfl) (Nat.le_of_ble_eq_true rfl) (Nat.le_of_ble_eq_true rfl) (Nat.le_of_ble_eq_true rfl) (Nat.le_of_ble_eq_true rfl) (ofS ?_)
  refine g_if_eqB C (tgt := 19) dX3_of_10 (by decide) (fun q1 => ?_) (fun q1 => ?_)
  · refine g_aload_n C dX3_of_19 rfl (by first | rfl | exact isR_rf _) ?_
    refine g_iconst C (v := nI 1) dX3_of_20 (by decide) ?_
    refine g_callV C ((K_X3_no l Y r1 _).K) ok_X3_no w718 (r1.x) rfl rfl rfl dX3_of_21 (Nat.le_of_ble_eq_true rfl) (Nat.le_of_ble_eq_true rfl) (Nat.le_of_ble_eq_true rfl) (Nat.le_of_ble_eq_true rfl) (Nat.le_of_ble_eq_true rfl) (ofS ?_)
    exact g_iret C hr dX3_of_24 (Nat.le_of_ble_eq_true rfl) (Nat.le_of_ble_eq_true rfl) (pM_n (by rw [idx_f q1]; rfl))
  · obtain ⟨j, hj, rfl, ej⟩ := idx_of (n := g.n) (by omega) q1
    refine g_aload_n C dX3_of_13 rfl (by first | rfl | exact isR_rf _) ?_
    refine g_iload_n C dX3_of_14 rfl ?_
    refine g_iald C ha rfl (by omega) (by decide) dX3_of_15 ?_
    refine g_goto C (tgt := 24) dX3_of_16 (by decide) ?_
    exact g_iret C hr dX3_of_24 (Nat.le_of_ble_eq_true rfl) (Nat.le_of_ble_eq_true rfl) (pM_s (by rw [ej]; rfl))
theorem map_congr {n : Nat} {i : Int32} (hn : n ≤ 1000) {a b : Nat → Int32} (h : ∀ j, j < n → a j = b j) : (idx n i).map a = (idx n i).map b := by
  cases hz : idx n i with
  | none => rfl
  | some j => exact congrArg some (h j (idx_lt hn hz).1)
set_option maxRecDepth 100000 in
set_option maxHeartbeats 4000000 in
theorem K_X3_hangsOn (l : Launch) (Y : YG) {x : Nat} {th : Int32} {ar : Nat → Nat} {f : Nat → Nat → Int32} {g : Sg} {h : AH} (r : RepM Y x th ar f g h) (iv : Inv g) (i : Int32) : MX l Y yX3_hangsOn cX3_hangsOn 2 (some .int) 3 65 0 0 [.ref x, .int i] h (pM x ar g h ((idx g.n i).map (fun j => nO (parO g j)))) (noX) := by
  have hn60 := iv.n60
  have hnp16 := iv.np
  have hnow := iv.now
  have hn1 := iv.n1
  refine MX.of (by decide +kernel) (Nat.le_of_ble_eq_true rfl) ?_
  intro p e s m args0 below meth c C hr hout hnm
  refine g_aload_n C dX3_hangsOn_0 rfl (by first | rfl | exact isR_rf _) ?_
  refine g_aload_n C dX3_hangsOn_1 rfl (by first | rfl | exact isR_rf _) ?_
  refine gf_X3_13 C (r.x) rfl dX3_hangsOn_2 ?_
  refine g_iload_n C dX3_hangsOn_5 rfl ?_
  refine g_callV C ((K_X3_of l Y r iv (k1 := 0) (by decide) i).K) ok_X3_of w855 (r.x) rfl rfl rfl dX3_hangsOn_6 (Nat.le_of_ble_eq_true rfl) (Nat.le_of_ble_eq_true rfl) (Nat.le_of_ble_eq_true rfl) (Nat.le_of_ble_eq_true rfl) (Nat.le_of_ble_eq_true rfl) (fun v2 h2 e2 => ?_)
  obtain ⟨rfl, rfl⟩ := e2
  rw [map_congr (n := g.n) (by omega) (a := fun j => f 0 j) (b := fun j => nO (parO g j)) (fun j hj => r.rw.on hj)]
  exact g_iret C hr dX3_hangsOn_9 (Nat.le_of_ble_eq_true rfl) (Nat.le_of_ble_eq_true rfl) (⟨rfl, rfl⟩)
set_option maxRecDepth 100000 in
set_option maxHeartbeats 4000000 in
theorem K_X3_kindOf (l : Launch) (Y : YG) {x : Nat} {th : Int32} {ar : Nat → Nat} {f : Nat → Nat → Int32} {g : Sg} {h : AH} (r : RepM Y x th ar f g h) (iv : Inv g) (i : Int32) : MX l Y yX3_kindOf cX3_kindOf 2 (some .int) 3 65 0 0 [.ref x, .int i] h (pM x ar g h ((idx g.n i).map (fun j => g.kd j))) (noX) := by
  have hn60 := iv.n60
  have hnp16 := iv.np
  have hnow := iv.now
  have hn1 := iv.n1
  refine MX.of (by decide +kernel) (Nat.le_of_ble_eq_true rfl) ?_
  intro p e s m args0 below meth c C hr hout hnm
  refine g_aload_n C dX3_kindOf_0 rfl (by first | rfl | exact isR_rf _) ?_
  refine g_aload_n C dX3_kindOf_1 rfl (by first | rfl | exact isR_rf _) ?_
  refine gf_X3_17 C (r.x) rfl dX3_kindOf_2 ?_
  refine g_iload_n C dX3_kindOf_5 rfl ?_
  refine g_callV C ((K_X3_of l Y r iv (k1 := 1) (by decide) i).K) ok_X3_of w855 (r.x) rfl rfl rfl dX3_kindOf_6 (Nat.le_of_ble_eq_true rfl) (Nat.le_of_ble_eq_true rfl) (Nat.le_of_ble_eq_true rfl) (Nat.le_of_ble_eq_true rfl) (Nat.le_of_ble_eq_true rfl) (fun v2 h2 e2 => ?_)
  obtain ⟨rfl, rfl⟩ := e2
  rw [map_congr (n := g.n) (by omega) (a := fun j => f 1 j) (b := fun j => g.kd j) (fun j hj => r.rw.kd hj)]
  exact g_iret C hr dX3_kindOf_9 (Nat.le_of_ble_eq_true rfl) (Nat.le_of_ble_eq_true rfl) (⟨rfl, rfl⟩)
set_option maxRecDepth 100000 in
set_option maxHeartbeats 4000000 in
theorem K_X3_numberOf (l : Launch) (Y : YG) {x : Nat} {th : Int32} {ar : Nat → Nat} {f : Nat → Nat → Int32} {g : Sg} {h : AH} (r : RepM Y x th ar f g h) (iv : Inv g) (i : Int32) : MX l Y yX3_numberOf cX3_numberOf 2 (some .int) 3 65 0 0 [.ref x, .int i] h (pM x ar g h ((idx g.n i).map (fun j => g.nm j))) (noX) := by
  have hn60 := iv.n60
  have hnp16 := iv.np
  have hnow := iv.now
  have hn1 := iv.n1
  refine MX.of (by decide +kernel) (Nat.le_of_ble_eq_true rfl) ?_
  intro p e s m args0 below meth c C hr hout hnm
  refine g_aload_n C dX3_numberOf_0 rfl (by first | rfl | exact isR_rf _) ?_
  refine g_aload_n C dX3_numberOf_1 rfl (by first | rfl | exact isR_rf _) ?_
  refine gf_X3_20 C (r.x) rfl dX3_numberOf_2 ?_
  refine g_iload_n C dX3_numberOf_5 rfl ?_
  refine g_callV C ((K_X3_of l Y r iv (k1 := 2) (by decide) i).K) ok_X3_of w855 (r.x) rfl rfl rfl dX3_numberOf_6 (Nat.le_of_ble_eq_true rfl) (Nat.le_of_ble_eq_true rfl) (Nat.le_of_ble_eq_true rfl) (Nat.le_of_ble_eq_true rfl) (Nat.le_of_ble_eq_true rfl) (fun v2 h2 e2 => ?_)
  obtain ⟨rfl, rfl⟩ := e2
  rw [map_congr (n := g.n) (by omega) (a := fun j => f 2 j) (b := fun j => g.nm j) (fun j hj => r.rw.nm hj)]
  exact g_iret C hr dX3_numberOf_9 (Nat.le_of_ble_eq_true rfl) (Nat.le_of_ble_eq_true rfl) (⟨rfl, rfl⟩)
set_option maxRecDepth 100000 in
set_option maxHeartbeats 4000000 in
theorem K_X3_depthOf (l : Launch) (Y : YG) {x : Nat} {th : Int32} {ar : Nat → Nat} {f : Nat → Nat → Int32} {g : Sg} {h : AH} (r : RepM Y x th ar f g h) (iv : Inv g) (i : Int32) : MX l Y yX3_depthOf cX3_depthOf 2 (some .int) 3 65 0 0 [.ref x, .int i] h (pM x ar g h ((idx g.n i).map (fun j => nI (g.dp j)))) (noX) := by
  have hn60 := iv.n60
  have hnp16 := iv.np
  have hnow := iv.now
  have hn1 := iv.n1
  refine MX.of (by decide +kernel) (Nat.le_of_ble_eq_true rfl) ?_
  intro p e s m args0 below meth c C hr hout hnm
  refine g_aload_n C dX3_depthOf_0 rfl (by first | rfl | exact isR_rf _) ?_
  refine g_aload_n C dX3_depthOf_1 rfl (by first | rfl | exact isR_rf _) ?_
  refine gf_X3_23 C (r.x) rfl dX3_depthOf_2 ?_
  refine g_iload_n C dX3_depthOf_5 rfl ?_
  refine g_callV C ((K_X3_of l Y r iv (k1 := 3) (by decide) i).K) ok_X3_of w855 (r.x) rfl rfl rfl dX3_depthOf_6 (Nat.le_of_ble_eq_true rfl) (Nat.le_of_ble_eq_true rfl) (Nat.le_of_ble_eq_true rfl) (Nat.le_of_ble_eq_true rfl) (Nat.le_of_ble_eq_true rfl) (fun v2 h2 e2 => ?_)
  obtain ⟨rfl, rfl⟩ := e2
  rw [map_congr (n := g.n) (by omega) (a := fun j => f 3 j) (b := fun j => nI (g.dp j)) (fun j hj => r.rw.dp hj)]
  exact g_iret C hr dX3_depthOf_9 (Nat.le_of_ble_eq_true rfl) (Nat.le_of_ble_eq_true rfl) (⟨rfl, rfl⟩)
set_option maxRecDepth 100000 in
set_option maxHeartbeats 4000000 in
theorem K_X3_again (l : Launch) (Y : YG) {x : Nat} {th : Int32} {ar : Nat → Nat} {f : Nat → Nat → Int32} {g : Sg} {h : AH} (r : RepM Y x th ar f g h) (iv : Inv g) (i : Int32) : MX l Y yX3_again cX3_again 2 (some .int) 3 65 0 0 [.ref x, .int i] h (pM x ar g h ((idx g.n i).map (fun j => nO (g.last j)))) (noX) := by
  have hn60 := iv.n60
  have hnp16 := iv.np
  have hnow := iv.now
  have hn1 := iv.n1
  refine MX.of (by decide +kernel) (Nat.le_of_ble_eq_true rfl) ?_
  intro p e s m args0 below meth c C hr hout hnm
  refine g_aload_n C dX3_again_0 rfl (by first | rfl | exact isR_rf _) ?_
  refine g_aload_n C dX3_again_1 rfl (by first | rfl | exact isR_rf _) ?_
  refine gf_X3_26 C (r.x) rfl dX3_again_2 ?_
  refine g_iload_n C dX3_again_5 rfl ?_
  refine g_callV C ((K_X3_of l Y r iv (k1 := 4) (by decide) i).K) ok_X3_of w855 (r.x) rfl rfl rfl dX3_again_6 (Nat.le_of_ble_eq_true rfl) (Nat.le_of_ble_eq_true rfl) (Nat.le_of_ble_eq_true rfl) (Nat.le_of_ble_eq_true rfl) (Nat.le_of_ble_eq_true rfl) (fun v2 h2 e2 => ?_)
  obtain ⟨rfl, rfl⟩ := e2
  rw [map_congr (n := g.n) (by omega) (a := fun j => f 4 j) (b := fun j => nO (g.last j)) (fun j hj => r.rw.ls hj)]
  exact g_iret C hr dX3_again_9 (Nat.le_of_ble_eq_true rfl) (Nat.le_of_ble_eq_true rfl) (⟨rfl, rfl⟩)
set_option maxRecDepth 100000 in
set_option maxHeartbeats 4000000 in
theorem K_X3_meet (l : Launch) (Y : YG) {x : Nat} {th : Int32} {ar : Nat → Nat} {f : Nat → Nat → Int32} {g : Sg} {h : AH} (r : RepM Y x th ar f g h) (iv : Inv g) (i j : Int32) : MX l Y yX3_meet cX3_meet 3 (some .int) 2 43 0 0 [.ref x, .int i, .int j] h (pM x ar g h ((idx g.n i).bind (fun a => (idx g.n j).map (fun b => nI (lc g.par a b))))) (noX) := by
  have hn60 := iv.n60
  have hnp16 := iv.np
  have hnow := iv.now
  have hn1 := iv.n1
  refine MX.of (by decide +kernel) (Nat.le_of_ble_eq_true rfl) ?_
  intro p e s m args0 below meth c C hr hout hnm
  refine g_aload_n C dX3_meet_0 rfl (by first | rfl | exact isR_rf _) ?_
  refine g_iconst C (v := nI 0) dX3_meet_1 (by decide) ?_
  refine pf_X3_35 C (r.x) (Nat.le_of_ble_eq_true rfl) dX3_meet_2 ?_
  have r1 := r.th (nI 0)
  refine g_aload_n C dX3_meet_5 rfl (by first | rfl | exact isR_rf _) ?_
  refine g_iload_n C dX3_meet_6 rfl ?_
  refine g_callV C ((K_X3_isEvening l Y r1 iv _).K) ok_X3_isEvening w787 (r1.x) rfl rfl rfl dX3_meet_7 (Nat.le_of_ble_eq_true rfl) (Nat.le_of_ble_eq_true rfl) (Nat.le_of_ble_eq_true rfl) (Nat.le_of_ble_eq_true rfl) (Nat.le_of_ble_eq_true rfl) (ofS ?_)
  refine g_if_eqB C (tgt := 30) dX3_meet_10 (by decide) (fun q1 => ?_) (fun q1 => ?_)
  · refine g_aload_n C dX3_meet_30 rfl (by first | rfl | exact isR_rf _) ?_
    refine g_iconst C (v := nI 1) dX3_meet_31 (by decide) ?_
    refine g_callV C ((K_X3_no l Y r1 _).K) ok_X3_no w718 (r1.x) rfl rfl rfl dX3_meet_32 (Nat.le_of_ble_eq_true rfl) (Nat.le_of_ble_eq_true rfl) (Nat.le_of_ble_eq_true rfl) (Nat.le_of_ble_eq_true rfl) (Nat.le_of_ble_eq_true rfl) (ofS ?_)
    exact g_iret C hr dX3_meet_35 (Nat.le_of_ble_eq_true rfl) (Nat.le_of_ble_eq_true rfl) (pM_n (by rw [idx_f q1]; rfl))
  · obtain ⟨a, ha, rfl, ea⟩ := idx_of (n := g.n) (by omega) q1
    refine g_aload_n C dX3_meet_13 rfl (by first | rfl | exact isR_rf _) ?_
    refine g_iload_n C dX3_meet_14 rfl ?_
    refine g_callV C ((K_X3_isEvening l Y r1 iv _).K) ok_X3_isEvening w787 (r1.x) rfl rfl rfl dX3_meet_15 (Nat.le_of_ble_eq_true rfl) (Nat.le_of_ble_eq_true rfl) (Nat.le_of_ble_eq_true rfl) (Nat.le_of_ble_eq_true rfl) (Nat.le_of_ble_eq_true rfl) (ofS ?_)
    refine g_if_eqB C (tgt := 30) dX3_meet_18 (by decide) (fun q2 => ?_) (fun q2 => ?_)
    · refine g_aload_n C dX3_meet_30 rfl (by first | rfl | exact isR_rf _) ?_
      refine g_iconst C (v := nI 1) dX3_meet_31 (by decide) ?_
      refine g_callV C ((K_X3_no l Y r1 _).K) ok_X3_no w718 (r1.x) rfl rfl rfl dX3_meet_32 (Nat.le_of_ble_eq_true rfl) (Nat.le_of_ble_eq_true rfl) (Nat.le_of_ble_eq_true rfl) (Nat.le_of_ble_eq_true rfl) (Nat.le_of_ble_eq_true rfl) (ofS ?_)
      exact g_iret C hr dX3_meet_35 (Nat.le_of_ble_eq_true rfl) (Nat.le_of_ble_eq_true rfl) (pM_n (by rw [ea, idx_f q2]; rfl))
    · obtain ⟨b, hb, rfl, eb⟩ := idx_of (n := g.n) (by omega) q2
      refine g_aload_n C dX3_meet_21 rfl (by first | rfl | exact isR_rf _) ?_
      refine g_iload_n C dX3_meet_22 rfl ?_
      refine g_iload_n C dX3_meet_23 rfl ?_
      refine g_callV C ((K_X3_meeting l Y r1 iv ha hb).K) ok_X3_meeting w795 (r1.x) rfl rfl rfl dX3_meet_24 (Nat.le_of_ble_eq_true rfl) (Nat.le_of_ble_eq_true rfl) (Nat.le_of_ble_eq_true rfl) (Nat.le_of_ble_eq_true rfl) (Nat.le_of_ble_eq_true rfl) (ofS ?_)
      refine g_goto C (tgt := 35) dX3_meet_27 (by decide) ?_
      exact g_iret C hr dX3_meet_35 (Nat.le_of_ble_eq_true rfl) (Nat.le_of_ble_eq_true rfl) (pM_s (by rw [ea, eb]; rfl))
set_option maxRecDepth 100000 in
set_option maxHeartbeats 4000000 in
theorem K_X3_apart (l : Launch) (Y : YG) {x : Nat} {th : Int32} {ar : Nat → Nat} {f : Nat → Nat → Int32} {g : Sg} {h : AH} (r : RepM Y x th ar f g h) (iv : Inv g) (i j : Int32) : MX l Y yX3_apart cX3_apart 3 (some .int) 2 46 0 0 [.ref x, .int i, .int j] h (pM x ar g h ((idx g.n i).bind (fun a => (idx g.n j).map (fun b => nI (wy g a b))))) (noX) := by
  have hn60 := iv.n60
  have hnp16 := iv.np
  have hnow := iv.now
  have hn1 := iv.n1
  refine MX.of (by decide +kernel) (Nat.le_of_ble_eq_true rfl) ?_
  intro p e s m args0 below meth c C hr hout hnm
  refine g_aload_n C dX3_apart_0 rfl (by first | rfl | exact isR_rf _) ?_
  refine g_iconst C (v := nI 0) dX3_apart_1 (by decide) ?_
  refine pf_X3_35 C (r.x) (Nat.le_of_ble_eq_true rfl) dX3_apart_2 ?_
  have r1 := r.th (nI 0)
  refine g_aload_n C dX3_apart_5 rfl (by first | rfl | exact isR_rf _) ?_
  refine g_iload_n C dX3_apart_6 rfl ?_
  refine g_callV C ((K_X3_isEvening l Y r1 iv _).K) ok_X3_isEvening w787 (r1.x) rfl rfl rfl dX3_apart_7 (Nat.le_of_ble_eq_true rfl) (Nat.le_of_ble_eq_true rfl) (Nat.le_of_ble_eq_true rfl) (Nat.le_of_ble_eq_true rfl) (Nat.le_of_ble_eq_true rfl) (ofS ?_)
  refine g_if_eqB C (tgt := 30) dX3_apart_10 (by decide) (fun q1 => ?_) (fun q1 => ?_)
  · refine g_aload_n C dX3_apart_30 rfl (by first | rfl | exact isR_rf _) ?_
    refine g_iconst C (v := nI 1) dX3_apart_31 (by decide) ?_
    refine g_callV C ((K_X3_no l Y r1 _).K) ok_X3_no w718 (r1.x) rfl rfl rfl dX3_apart_32 (Nat.le_of_ble_eq_true rfl) (Nat.le_of_ble_eq_true rfl) (Nat.le_of_ble_eq_true rfl) (Nat.le_of_ble_eq_true rfl) (Nat.le_of_ble_eq_true rfl) (ofS ?_)
    exact g_iret C hr dX3_apart_35 (Nat.le_of_ble_eq_true rfl) (Nat.le_of_ble_eq_true rfl) (pM_n (by rw [idx_f q1]; rfl))
  · obtain ⟨a, ha, rfl, ea⟩ := idx_of (n := g.n) (by omega) q1
    refine g_aload_n C dX3_apart_13 rfl (by first | rfl | exact isR_rf _) ?_
    refine g_iload_n C dX3_apart_14 rfl ?_
    refine g_callV C ((K_X3_isEvening l Y r1 iv _).K) ok_X3_isEvening w787 (r1.x) rfl rfl rfl dX3_apart_15 (Nat.le_of_ble_eq_true rfl) (Nat.le_of_ble_eq_true rfl) (Nat.le_of_ble_eq_true rfl) (Nat.le_of_ble_eq_true rfl) (Nat.le_of_ble_eq_true rfl) (ofS ?_)
    refine g_if_eqB C (tgt := 30) dX3_apart_18 (by decide) (fun q2 => ?_) (fun q2 => ?_)
    · refine g_aload_n C dX3_apart_30 rfl (by first | rfl | exact isR_rf _) ?_
      refine g_iconst C (v := nI 1) dX3_apart_31 (by decide) ?_
      refine g_callV C ((K_X3_no l Y r1 _).K) ok_X3_no w718 (r1.x) rfl rfl rfl dX3_apart_32 (Nat.le_of_ble_eq_true rfl) (Nat.le_of_ble_eq_true rfl) (Nat.le_of_ble_eq_true rfl) (Nat.le_of_ble_eq_true rfl) (Nat.le_of_ble_eq_true rfl) (ofS ?_)
      exact g_iret C hr dX3_apart_35 (Nat.le_of_ble_eq_true rfl) (Nat.le_of_ble_eq_true rfl) (pM_n (by rw [ea, idx_f q2]; rfl))
    · obtain ⟨b, hb, rfl, eb⟩ := idx_of (n := g.n) (by omega) q2
      refine g_aload_n C dX3_apart_21 rfl (by first | rfl | exact isR_rf _) ?_
      refine g_iload_n C dX3_apart_22 rfl ?_
      refine g_iload_n C dX3_apart_23 rfl ?_
      refine g_callV C ((K_X3_way l Y r1 iv ha hb).K) ok_X3_way w791 (r1.x) rfl rfl rfl dX3_apart_24 (Nat.le_of_ble_eq_true rfl) (Nat.le_of_ble_eq_true rfl) (Nat.le_of_ble_eq_true rfl) (Nat.le_of_ble_eq_true rfl) (Nat.le_of_ble_eq_true rfl) (ofS ?_)
      refine g_goto C (tgt := 35) dX3_apart_27 (by decide) ?_
      exact g_iret C hr dX3_apart_35 (Nat.le_of_ble_eq_true rfl) (Nat.le_of_ble_eq_true rfl) (pM_s (by rw [ea, eb]; rfl))
set_option maxRecDepth 100000 in
set_option maxHeartbeats 4000000 in
theorem K_X3_areAlike (l : Launch) (Y : YG) {x : Nat} {th : Int32} {ar : Nat → Nat} {f : Nat → Nat → Int32} {g : Sg} {h : AH} (r : RepM Y x th ar f g h) (iv : Inv g) (i j : Int32) : MX l Y yX3_areAlike cX3_areAlike 3 (some .boolean) 2 45 0 0 [.ref x, .int i, .int j] h (pM x ar g h ((idx g.n i).bind (fun a => (idx g.n j).map (fun b => (if lkB g a b then 1 else 0))))) (noX) := by
  have hn60 := iv.n60
  have hnp16 := iv.np
  have hnow := iv.now
  have hn1 := iv.n1
  refine MX.of (by decide +kernel) (Nat.le_of_ble_eq_true rfl) ?_
  intro p e s m args0 below meth c C hr hout hnm
  refine g_aload_n C dX3_areAlike_0 rfl (by first | rfl | exact isR_rf _) ?_
  refine g_iconst C (v := nI 0) dX3_areAlike_1 (by decide) ?_
  refine pf_X3_35 C (r.x) (Nat.le_of_ble_eq_true rfl) dX3_areAlike_2 ?_
  have r1 := r.th (nI 0)
  refine g_aload_n C dX3_areAlike_5 rfl (by first | rfl | exact isR_rf _) ?_
  refine g_iload_n C dX3_areAlike_6 rfl ?_
  refine g_callV C ((K_X3_isEvening l Y r1 iv _).K) ok_X3_isEvening w787 (r1.x) rfl rfl rfl dX3_areAlike_7 (Nat.le_of_ble_eq_true rfl) (Nat.le_of_ble_eq_true rfl) (Nat.le_of_ble_eq_true rfl) (Nat.le_of_ble_eq_true rfl) (Nat.le_of_ble_eq_true rfl) (ofS ?_)
  refine g_if_eqB C (tgt := 30) dX3_areAlike_10 (by decide) (fun q1 => ?_) (fun q1 => ?_)
  · refine g_aload_n C dX3_areAlike_30 rfl (by first | rfl | exact isR_rf _) ?_
    refine g_iconst C (v := nI 1) dX3_areAlike_31 (by decide) ?_
    refine g_callV C ((K_X3_isNot l Y r1 _).K) ok_X3_isNot w839 (r1.x) rfl rfl rfl dX3_areAlike_32 (Nat.le_of_ble_eq_true rfl) (Nat.le_of_ble_eq_true rfl) (Nat.le_of_ble_eq_true rfl) (Nat.le_of_ble_eq_true rfl) (Nat.le_of_ble_eq_true rfl) (ofS ?_)
    exact g_zret C hr (by exact Or.inl rfl) dX3_areAlike_35 (Nat.le_of_ble_eq_true rfl) (Nat.le_of_ble_eq_true rfl) (pM_n (by rw [idx_f q1]; rfl))
  · obtain ⟨a, ha, rfl, ea⟩ := idx_of (n := g.n) (by omega) q1
    refine g_aload_n C dX3_areAlike_13 rfl (by first | rfl | exact isR_rf _) ?_
    refine g_iload_n C dX3_areAlike_14 rfl ?_
    refine g_callV C ((K_X3_isEvening l Y r1 iv _).K) ok_X3_isEvening w787 (r1.x) rfl rfl rfl dX3_areAlike_15 (Nat.le_of_ble_eq_true rfl) (Nat.le_of_ble_eq_true rfl) (Nat.le_of_ble_eq_true rfl) (Nat.le_of_ble_eq_true rfl) (Nat.le_of_ble_eq_true rfl) (ofS ?_)
    refine g_if_eqB C (tgt := 30) dX3_areAlike_18 (by decide) (fun q2 => ?_) (fun q2 => ?_)
    · refine g_aload_n C dX3_areAlike_30 rfl (by first | rfl | exact isR_rf _) ?_
      refine g_iconst C (v := nI 1) dX3_areAlike_31 (by decide) ?_
      refine g_callV C ((K_X3_isNot l Y r1 _).K) ok_X3_isNot w839 (r1.x) rfl rfl rfl dX3_areAlike_32 (Nat.le_of_ble_eq_true rfl) (Nat.le_of_ble_eq_true rfl) (Nat.le_of_ble_eq_true rfl) (Nat.le_of_ble_eq_true rfl) (Nat.le_of_ble_eq_true rfl) (ofS ?_)
      exact g_zret C hr (by exact Or.inl rfl) dX3_areAlike_35 (Nat.le_of_ble_eq_true rfl) (Nat.le_of_ble_eq_true rfl) (pM_n (by rw [ea, idx_f q2]; rfl))
    · obtain ⟨b, hb, rfl, eb⟩ := idx_of (n := g.n) (by omega) q2
      refine g_aload_n C dX3_areAlike_21 rfl (by first | rfl | exact isR_rf _) ?_
      refine g_iload_n C dX3_areAlike_22 rfl ?_
      refine g_iload_n C dX3_areAlike_23 rfl ?_
      refine g_callV C ((K_X3_isLike l Y r1 iv ha hb).K) ok_X3_isLike w919 (r1.x) rfl rfl rfl dX3_areAlike_24 (Nat.le_of_ble_eq_true rfl) (Nat.le_of_ble_eq_true rfl) (Nat.le_of_ble_eq_true rfl) (Nat.le_of_ble_eq_true rfl) (Nat.le_of_ble_eq_true rfl) (ofS ?_)
      refine g_goto C (tgt := 35) dX3_areAlike_27 (by decide) ?_
      exact g_zret C hr (by cases lkB g a b <;> first | exact Or.inl rfl | exact Or.inr rfl) dX3_areAlike_35 (Nat.le_of_ble_eq_true rfl) (Nat.le_of_ble_eq_true rfl) (pM_s (by rw [ea, eb]; rfl))
set_option maxRecDepth 100000 in
set_option maxHeartbeats 4000000 in
theorem K_X3_placeIn (l : Launch) (Y : YG) {x : Nat} {th : Int32} {ar : Nat → Nat} {f : Nat → Nat → Int32} {g : Sg} {h : AH} (r : RepM Y x th ar f g h) (iv : Inv g) (i j : Int32) : MX l Y yX3_placeIn cX3_placeIn 3 (some .int) 2 44 0 0 [.ref x, .int i, .int j] h (pM x ar g h ((idx g.n i).bind (fun a => (idx g.np j).map (fun q => nI (g.pos a q + if (g.lb a).testBit q then 100 else 0))))) (noX) := by
  have hn60 := iv.n60
  have hnp16 := iv.np
  have hnow := iv.now
  have hn1 := iv.n1
  refine MX.of (by decide +kernel) (Nat.le_of_ble_eq_true rfl) ?_
  intro p e s m args0 below meth c C hr hout hnm
  refine g_aload_n C dX3_placeIn_0 rfl (by first | rfl | exact isR_rf _) ?_
  refine g_iconst C (v := nI 0) dX3_placeIn_1 (by decide) ?_
  refine pf_X3_35 C (r.x) (Nat.le_of_ble_eq_true rfl) dX3_placeIn_2 ?_
  have r1 := r.th (nI 0)
  refine g_aload_n C dX3_placeIn_5 rfl (by first | rfl | exact isR_rf _) ?_
  refine g_iload_n C dX3_placeIn_6 rfl ?_
  refine g_callV C ((K_X3_isEvening l Y r1 iv _).K) ok_X3_isEvening w787 (r1.x) rfl rfl rfl dX3_placeIn_7 (Nat.le_of_ble_eq_true rfl) (Nat.le_of_ble_eq_true rfl) (Nat.le_of_ble_eq_true rfl) (Nat.le_of_ble_eq_true rfl) (Nat.le_of_ble_eq_true rfl) (ofS ?_)
  refine g_if_eqB C (tgt := 30) dX3_placeIn_10 (by decide) (fun q1 => ?_) (fun q1 => ?_)
  · refine g_aload_n C dX3_placeIn_30 rfl (by first | rfl | exact isR_rf _) ?_
    refine g_iconst C (v := nI 1) dX3_placeIn_31 (by decide) ?_
    refine g_callV C ((K_X3_no l Y r1 _).K) ok_X3_no w718 (r1.x) rfl rfl rfl dX3_placeIn_32 (Nat.le_of_ble_eq_true rfl) (Nat.le_of_ble_eq_true rfl) (Nat.le_of_ble_eq_true rfl) (Nat.le_of_ble_eq_true rfl) (Nat.le_of_ble_eq_true rfl) (ofS ?_)
    exact g_iret C hr dX3_placeIn_35 (Nat.le_of_ble_eq_true rfl) (Nat.le_of_ble_eq_true rfl) (pM_n (by rw [idx_f q1]; rfl))
  · obtain ⟨a, ha, rfl, ea⟩ := idx_of (n := g.n) (by omega) q1
    refine g_aload_n C dX3_placeIn_13 rfl (by first | rfl | exact isR_rf _) ?_
    refine g_iload_n C dX3_placeIn_14 rfl ?_
    refine g_callV C ((K_X3_isPiece l Y r1 iv _).K) ok_X3_isPiece w767 (r1.x) rfl rfl rfl dX3_placeIn_15 (Nat.le_of_ble_eq_true rfl) (Nat.le_of_ble_eq_true rfl) (Nat.le_of_ble_eq_true rfl) (Nat.le_of_ble_eq_true rfl) (Nat.le_of_ble_eq_true rfl) (ofS ?_)
    refine g_if_eqB C (tgt := 30) dX3_placeIn_18 (by decide) (fun q2 => ?_) (fun q2 => ?_)
    · refine g_aload_n C dX3_placeIn_30 rfl (by first | rfl | exact isR_rf _) ?_
      refine g_iconst C (v := nI 1) dX3_placeIn_31 (by decide) ?_
      refine g_callV C ((K_X3_no l Y r1 _).K) ok_X3_no w718 (r1.x) rfl rfl rfl dX3_placeIn_32 (Nat.le_of_ble_eq_true rfl) (Nat.le_of_ble_eq_true rfl) (Nat.le_of_ble_eq_true rfl) (Nat.le_of_ble_eq_true rfl) (Nat.le_of_ble_eq_true rfl) (ofS ?_)
      exact g_iret C hr dX3_placeIn_35 (Nat.le_of_ble_eq_true rfl) (Nat.le_of_ble_eq_true rfl) (pM_n (by rw [ea, idx_f q2]; rfl))
    · obtain ⟨b, hb, rfl, eb⟩ := idx_of (n := g.np) (by omega) q2
      refine g_aload_n C dX3_placeIn_21 rfl (by first | rfl | exact isR_rf _) ?_
      refine g_iload_n C dX3_placeIn_22 rfl ?_
      refine g_iload_n C dX3_placeIn_23 rfl ?_
      refine g_callV C ((K_X3_piece l Y r1 iv ha hb).K) ok_X3_piece w726 (r1.x) rfl rfl rfl dX3_placeIn_24 (Nat.le_of_ble_eq_true rfl) (Nat.le_of_ble_eq_true rfl) (Nat.le_of_ble_eq_true rfl) (Nat.le_of_ble_eq_true rfl) (Nat.le_of_ble_eq_true rfl) (ofS ?_)
      refine g_goto C (tgt := 35) dX3_placeIn_27 (by decide) ?_
      exact g_iret C hr dX3_placeIn_35 (Nat.le_of_ble_eq_true rfl) (Nat.le_of_ble_eq_true rfl) (pM_s (by rw [ea, eb]; rfl))
theorem nI_posEq2 {g : Sg} (iv : Inv g) {w : Nat} (hw : w < 64) : ∀ j, j < g.np → (nI (g.pos g.now j) = nI w ↔ g.pos g.now j = w) := fun j hj => nI_eq (by have := iv.pos iv.now hj; omega) (by omega)
set_option maxRecDepth 100000 in
set_option maxHeartbeats 4000000 in
theorem K_X3_pieceAt (l : Launch) (Y : YG) {x : Nat} {th : Int32} {ar : Nat → Nat} {f : Nat → Nat → Int32} {g : Sg} {h : AH} (r : RepM Y x th ar f g h) (iv : Inv g) (c0 r0 : Int32) : MX l Y yX3_pieceAt cX3_pieceAt 3 (some .int) 3 66 0 0 [.ref x, .int c0, .int r0] h (pM x ar g h ((if onB c0 r0 = true then some (nO (pon (g.pos g.now) ((c0 * nI 8 + r0).toNatClampNeg) g.np 0)) else none))) (noX) := by
  have hn60 := iv.n60
  have hnp16 := iv.np
  have hnow := iv.now
  have hn1 := iv.n1
  refine MX.of (by decide +kernel) (Nat.le_of_ble_eq_true rfl) ?_
  intro p e s m args0 below meth c C hr hout hnm
  refine g_aload_n C dX3_pieceAt_0 rfl (by first | rfl | exact isR_rf _) ?_
  refine g_iconst C (v := nI 0) dX3_pieceAt_1 (by decide) ?_
  refine pf_X3_35 C (r.x) (Nat.le_of_ble_eq_true rfl) dX3_pieceAt_2 ?_
  have r1 := r.th (nI 0)
  refine g_iload_n C dX3_pieceAt_5 rfl ?_
  refine g_callS C ((K_X3_isOn l Y _).K) ok_X3_isOn w712 rfl rfl dX3_pieceAt_6 (Nat.le_of_ble_eq_true rfl) (Nat.le_of_ble_eq_true rfl) (Nat.le_of_ble_eq_true rfl) (Nat.le_of_ble_eq_true rfl) (Nat.le_of_ble_eq_true rfl) (ofS ?_)
  refine g_if_eqB C (tgt := 32) dX3_pieceAt_9 (by decide) (fun q1 => ?_) (fun q1 => ?_)
  · refine g_aload_n C dX3_pieceAt_32 rfl (by first | rfl | exact isR_rf _) ?_
    refine g_iconst C (v := nI 1) dX3_pieceAt_33 (by decide) ?_
    refine g_callV C ((K_X3_no l Y r1 _).K) ok_X3_no w718 (r1.x) rfl rfl rfl dX3_pieceAt_34 (Nat.le_of_ble_eq_true rfl) (Nat.le_of_ble_eq_true rfl) (Nat.le_of_ble_eq_true rfl) (Nat.le_of_ble_eq_true rfl) (Nat.le_of_ble_eq_true rfl) (ofS ?_)
    exact g_iret C hr dX3_pieceAt_37 (Nat.le_of_ble_eq_true rfl) (Nat.le_of_ble_eq_true rfl) (pM_n (by rw [onB_in, q1]; rfl))
  · refine g_iload_n C dX3_pieceAt_12 rfl ?_
    refine g_callS C ((K_X3_isOn l Y _).K) ok_X3_isOn w712 rfl rfl dX3_pieceAt_13 (Nat.le_of_ble_eq_true rfl) (Nat.le_of_ble_eq_true rfl) (Nat.le_of_ble_eq_true rfl) (Nat.le_of_ble_eq_true rfl) (Nat.le_of_ble_eq_true rfl) (ofS ?_)
    refine g_if_eqB C (tgt := 32) dX3_pieceAt_16 (by decide) (fun q2 => ?_) (fun q2 => ?_)
    · refine g_aload_n C dX3_pieceAt_32 rfl (by first | rfl | exact isR_rf _) ?_
      refine g_iconst C (v := nI 1) dX3_pieceAt_33 (by decide) ?_
      refine g_callV C ((K_X3_no l Y r1 _).K) ok_X3_no w718 (r1.x) rfl rfl rfl dX3_pieceAt_34 (Nat.le_of_ble_eq_true rfl) (Nat.le_of_ble_eq_true rfl) (Nat.le_of_ble_eq_true rfl) (Nat.le_of_ble_eq_true rfl) (Nat.le_of_ble_eq_true rfl) (ofS ?_)
      exact g_iret C hr dX3_pieceAt_37 (Nat.le_of_ble_eq_true rfl) (Nat.le_of_ble_eq_true rfl) (pM_n (by rw [onB_in, q2, Bool.and_false]; rfl))
    · have eb : onB c0 r0 = true := by rw [onB_in, q1, q2]; rfl
      obtain ⟨w, hw, ew, ew2⟩ := onB_N eb
      rw [ew2]
      refine g_aload_n C dX3_pieceAt_19 rfl rfl ?_
      refine g_bipush C (v := nI 8) dX3_pieceAt_20 (by decide) ?_
      refine g_iload_n C dX3_pieceAt_22 rfl ?_
      refine g_imul C dX3_pieceAt_23 ?_
      refine g_iload_n C dX3_pieceAt_24 rfl ?_
      refine g_iadd C dX3_pieceAt_25 ?_
      rw [show nI 8 * c0 + r0 = nI w from by rw [Int32.mul_comm]; exact ew]
      refine g_callV C ((K_X3_pieceOn l Y r1 iv (nI_posEq2 iv hw)).K) ok_X3_pieceOn w722 (r1.x) rfl rfl rfl dX3_pieceAt_26 (Nat.le_of_ble_eq_true rfl) (Nat.le_of_ble_eq_true rfl) (Nat.le_of_ble_eq_true rfl) (Nat.le_of_ble_eq_true rfl) (Nat.le_of_ble_eq_true rfl) (ofS ?_)
      refine g_goto C (tgt := 37) dX3_pieceAt_29 (by decide) ?_
      exact g_iret C hr dX3_pieceAt_37 (Nat.le_of_ble_eq_true rfl) (Nat.le_of_ble_eq_true rfl) (pM_s (if_pos eb))
theorem en_pos {g : Sg} (iv : Inv g) : enN g ≠ 0 := fun z => by
  have h1 := iv.n1
  have := cnt_0.mp z (g.n - 1) (by omega)
  unfold enB at this
  cases hl : g.last (g.n - 1) with
  | none => rw [hl] at this; cases this
  | some c =>
    obtain ⟨z1, z2, z3⟩ := iv.last (by omega) hl
    have := iv.tr.2 c z1
    omega
set_option maxRecDepth 100000 in
set_option maxHeartbeats 4000000 in
theorem K_X3_meanDepth (l : Launch) (Y : YG) {x : Nat} {th : Int32} {ar : Nat → Nat} {f : Nat → Nat → Int32} {g : Sg} {h : AH} (r : RepM Y x th ar f g h) (iv : Inv g) : MX l Y yX3_meanDepth cX3_meanDepth 3 (some .double) 2 45 0 0 [.ref x] h (pS (some (.double (meanV g))) (hup h x (mC g ar (nI 0)))) (noX) := by
  have hn60 := iv.n60
  have hnp16 := iv.np
  have hnow := iv.now
  have hn1 := iv.n1
  refine MX.of (by decide +kernel) (Nat.le_of_ble_eq_true rfl) ?_
  intro p e s m args0 below meth c C hr hout hnm
  have r1 := r.th (nI 0)
  have hep := en_pos iv
  have hen := cnt_le (enB g) g.n
  have hel : enN g < 2 ^ 31 := by unfold enN; omega
  have lp : ∀ (d i : Nat), i ≤ g.n → g.n - i < d → Gd p l e (rmO 2 45 0 0) s m args0 below meth c (vx_MQ below (Qk Y (pS (some (.double (meanV g))) (hup h x (mC g ar (nI 0))))) (Xk Y (noX)) args0 s 0 0 Y.A) Y 3 9 [some (.ref x), some (.int (nI (smF (enB g) g.dp i))), some (.int (nI i))] [] (hup h x (mC g ar (nI 0))) 0 0 := by
    intro d
    induction d with
    | zero => intro i h1 h2; omega
    | succ d ih =>
      intro i hi hd
      refine g_iload_n C dX3_meanDepth_9 rfl ?_
      refine g_aload_n C dX3_meanDepth_10 rfl (by first | rfl | exact isR_rf _) ?_
      refine gf_X3_9 C (r1.x) rfl dX3_meanDepth_11 ?_
      refine g_icmp_geN C (tgt := 44) dX3_meanDepth_14 (by decide) (by omega) (by omega) (fun q1 => ?_) (fun q1 => ?_)
      · have : i = g.n := by omega
        subst this
        refine g_iload_n C dX3_meanDepth_44 rfl ?_
        refine g_i2d C dX3_meanDepth_45 ?_
        refine g_aload_n C dX3_meanDepth_46 rfl (by first | rfl | exact isR_rf _) ?_
        refine g_callV C ((K_X3_leaves l Y r1 iv).K) ok_X3_leaves w903 (r1.x) rfl rfl rfl dX3_meanDepth_47 (Nat.le_of_ble_eq_true rfl) (Nat.le_of_ble_eq_true rfl) (Nat.le_of_ble_eq_true rfl) (Nat.le_of_ble_eq_true rfl) (Nat.le_of_ble_eq_true rfl) (ofS ?_)
        refine g_i2d C dX3_meanDepth_50 ?_
        refine g_ddiv C dX3_meanDepth_51 (mean_ok (nI_ne0 (Nat.pos_of_ne_zero hep) hel)) ?_
        exact g_dret C hr dX3_meanDepth_52 (Nat.le_of_ble_eq_true rfl) (Nat.le_of_ble_eq_true rfl) (⟨by unfold meanV; rw [if_neg hep]; rfl, rfl⟩)
      · refine g_iload_n C dX3_meanDepth_17 rfl ?_
        refine g_aload_n C dX3_meanDepth_18 rfl (by first | rfl | exact isR_rf _) ?_
        refine g_iload_n C dX3_meanDepth_19 rfl ?_
        refine g_callV C ((K_X3_below l Y r1 iv q1).K) ok_X3_below w879 (r1.x) rfl rfl rfl dX3_meanDepth_20 (Nat.le_of_ble_eq_true rfl) (Nat.le_of_ble_eq_true rfl) (Nat.le_of_ble_eq_true rfl) (Nat.le_of_ble_eq_true rfl) (Nat.le_of_ble_eq_true rfl) (ofS ?_)
        have hcl := cnt_le (isCh g.par i) g.n
        have hcl2 : chN g.par g.n i < 2 ^ 31 := by unfold chN; omega
        refine g_if_neN C (tgt := 35) dX3_meanDepth_23 (by decide) hcl2 (fun q2 => ?_) (fun q2 => ?_)
        · refine g_iconst C (v := nI 0) dX3_meanDepth_35 (by decide) ?_
          refine g_iaddN C dX3_meanDepth_36 ?_
          refine g_istore_n C dX3_meanDepth_37 (by decide) ?_
          refine g_iincN C dX3_meanDepth_38 rfl (by decide) ?_
          refine g_goto C (tgt := 9) dX3_meanDepth_41 (by decide) ?_
          have := ih (i + 1) (by omega) (by omega)
          rw [show smF (enB g) g.dp (i + 1) = smF (enB g) g.dp i + 0 from by simp only [smF]; rw [show enB g i = false from by rw [end_ch iv q1]; exact decide_eq_false (by omega)]; rfl] at this
          exact this
        · refine g_aload_n C dX3_meanDepth_26 rfl (by first | rfl | exact isR_rf _) ?_
          refine gf_X3_23 C (r1.x) rfl dX3_meanDepth_27 ?_
          refine g_iload_n C dX3_meanDepth_30 rfl ?_
          refine g_iald C r1.a3 rfl (show i < 60 by omega) (by decide) dX3_meanDepth_31 ?_
          rw [r1.rw.dp q1]
          refine g_goto C (tgt := 36) dX3_meanDepth_32 (by decide) ?_
          refine g_iaddN C dX3_meanDepth_36 ?_
          refine g_istore_n C dX3_meanDepth_37 (by decide) ?_
          refine g_iincN C dX3_meanDepth_38 rfl (by decide) ?_
          refine g_goto C (tgt := 9) dX3_meanDepth_41 (by decide) ?_
          have := ih (i + 1) (by omega) (by omega)
          rw [show smF (enB g) g.dp (i + 1) = smF (enB g) g.dp i + g.dp i from by simp only [smF]; rw [show enB g i = true from by rw [end_ch iv q1]; exact decide_eq_true q2]; rfl] at this
          exact this
  refine g_aload_n C dX3_meanDepth_0 rfl (by first | rfl | exact isR_rf _) ?_
  refine g_iconst C (v := nI 0) dX3_meanDepth_1 (by decide) ?_
  refine pf_X3_35 C (r.x) (Nat.le_of_ble_eq_true rfl) dX3_meanDepth_2 ?_
  refine g_iconst C (v := nI 0) dX3_meanDepth_5 (by decide) ?_
  refine g_istore_n C dX3_meanDepth_6 (by decide) ?_
  refine g_iconst C (v := nI 0) dX3_meanDepth_7 (by decide) ?_
  refine g_istore_n C dX3_meanDepth_8 (by decide) ?_
  exact lp (g.n + 1) 0 (Nat.zero_le _) (by omega)
