theorem parO_lt {g : Sg} (iv : Inv g) {j k : Nat} (hj : j < g.n) (h : parO g j = some k) : k < g.n := by
  unfold parO at h
  split at h
  · cases h
  · cases h
    exact iv.par hj
set_option maxRecDepth 100000 in
set_option maxHeartbeats 4000000 in
theorem K_X2_evening (l : Launch) (Y : YG) {x : Nat} {v : Vw} {g : Sg} {Z : Nat → Prop} {h : AH} (r : RepC Y x v g Z h) (iv : Inv g) : MX l Y yX2_evening cX2_evening 1 (some .int) 0 0 0 0 [.ref x] h (pS (some (.int (nI g.now))) h) (noX) := by
  have hn60 := iv.n60
  have hnp16 := iv.np
  have hnow := iv.now
  refine MX.of (by decide +kernel) (Nat.le_of_ble_eq_true rfl) ?_
  intro p e s m args0 below meth c C hr hout hnm
  refine g_aload_n C dX2_evening_0 rfl (by first | rfl | exact isR_rf _) ?_
  refine gf_X2_19 C (r.x) rfl dX2_evening_1 ?_
  refine gf_X2_85 C (r.ev hnow) rfl dX2_evening_4 ?_
  exact g_iret C hr dX2_evening_7 (Nat.le_of_ble_eq_true rfl) (Nat.le_of_ble_eq_true rfl) (⟨rfl, rfl⟩)
set_option maxRecDepth 100000 in
set_option maxHeartbeats 4000000 in
theorem K_X2_evenings (l : Launch) (Y : YG) {x : Nat} {v : Vw} {g : Sg} {Z : Nat → Prop} {h : AH} (r : RepC Y x v g Z h) (iv : Inv g) : MX l Y yX2_evenings cX2_evenings 1 (some .int) 1 20 0 0 [.ref x] h (pS (some (.int (nI g.n))) h) (noX) := by
  have hn60 := iv.n60
  have hnp16 := iv.np
  have hnow := iv.now
  refine MX.of (by decide +kernel) (Nat.le_of_ble_eq_true rfl) ?_
  intro p e s m args0 below meth c C hr hout hnm
  refine g_aload_n C dX2_evenings_0 rfl (by first | rfl | exact isR_rf _) ?_
  refine gf_X2_26 C (r.x) rfl dX2_evenings_1 ?_
  refine g_callF C (na := 0) (x := nL_size) ((K_Jx4a65c_size_8abf5 l Y r.t).K) (tf_Fsize C) w290 w293 w295 w6 w297 (by exact ⟨by decide, by decide, by decide +kernel⟩) (r.t) rfl rfl rfl dX2_evenings_4 (Nat.le_of_ble_eq_true rfl) (Nat.le_of_ble_eq_true rfl) (Nat.le_of_ble_eq_true rfl) (Nat.le_of_ble_eq_true rfl) (Nat.le_of_ble_eq_true rfl) (ofS ?_)
  exact g_iret C hr dX2_evenings_9 (Nat.le_of_ble_eq_true rfl) (Nat.le_of_ble_eq_true rfl) (⟨rfl, rfl⟩)
set_option maxRecDepth 100000 in
set_option maxHeartbeats 4000000 in
theorem K_X2_pieces (l : Launch) (Y : YG) {x : Nat} {v : Vw} {g : Sg} {Z : Nat → Prop} {h : AH} (r : RepC Y x v g Z h) (iv : Inv g) : MX l Y yX2_pieces cX2_pieces 1 (some .int) 0 0 0 0 [.ref x] h (pS (some (.int (nI g.np))) h) (noX) := by
  have hn60 := iv.n60
  have hnp16 := iv.np
  have hnow := iv.now
  refine MX.of (by decide +kernel) (Nat.le_of_ble_eq_true rfl) ?_
  intro p e s m args0 below meth c C hr hout hnm
  refine g_aload_n C dX2_pieces_0 rfl (by first | rfl | exact isR_rf _) ?_
  refine gf_X2_19 C (r.x) rfl dX2_pieces_1 ?_
  refine gf_X2_40 C (r.ev hnow) rfl dX2_pieces_4 ?_
  refine gf_X2_44 C (r.sc hnow) rfl dX2_pieces_7 ?_
  refine g_aleni C (r.pl hnow) dX2_pieces_10 ?_
  exact g_iret C hr dX2_pieces_11 (Nat.le_of_ble_eq_true rfl) (Nat.le_of_ble_eq_true rfl) (⟨rfl, rfl⟩)
set_option maxRecDepth 100000 in
set_option maxHeartbeats 4000000 in
theorem K_X2_catColumn (l : Launch) (Y : YG) {x : Nat} {v : Vw} {g : Sg} {Z : Nat → Prop} {h : AH} (r : RepC Y x v g Z h) (iv : Inv g) : MX l Y yX2_catColumn cX2_catColumn 1 (some .int) 0 0 0 0 [.ref x] h (pS (some (.int (nI (g.ct g.now / 8)))) h) (noX) := by
  have hn60 := iv.n60
  have hnp16 := iv.np
  have hnow := iv.now
  refine MX.of (by decide +kernel) (Nat.le_of_ble_eq_true rfl) ?_
  intro p e s m args0 below meth c C hr hout hnm
  have hct := iv.ct hnow
  refine g_aload_n C dX2_catColumn_0 rfl (by first | rfl | exact isR_rf _) ?_
  refine gf_X2_19 C (r.x) rfl dX2_catColumn_1 ?_
  refine gf_X2_40 C (r.ev hnow) rfl dX2_catColumn_4 ?_
  refine gf_X2_111 C (r.sc hnow) rfl dX2_catColumn_7 ?_
  refine g_bipush C (v := nI 8) dX2_catColumn_10 (by decide) ?_
  first | with_reducible refine g_idivN C dX2_catColumn_12 (by omega) (by decide) ?_ | refine g_idiv C dX2_catColumn_12 (by decide) ?_
  exact g_iret C hr dX2_catColumn_13 (Nat.le_of_ble_eq_true rfl) (Nat.le_of_ble_eq_true rfl) (⟨rfl, rfl⟩)
set_option maxRecDepth 100000 in
set_option maxHeartbeats 4000000 in
theorem K_X2_catRow (l : Launch) (Y : YG) {x : Nat} {v : Vw} {g : Sg} {Z : Nat → Prop} {h : AH} (r : RepC Y x v g Z h) (iv : Inv g) : MX l Y yX2_catRow cX2_catRow 1 (some .int) 0 0 0 0 [.ref x] h (pS (some (.int (nI (g.ct g.now % 8)))) h) (noX) := by
  have hn60 := iv.n60
  have hnp16 := iv.np
  have hnow := iv.now
  refine MX.of (by decide +kernel) (Nat.le_of_ble_eq_true rfl) ?_
  intro p e s m args0 below meth c C hr hout hnm
  have hct := iv.ct hnow
  refine g_aload_n C dX2_catRow_0 rfl (by first | rfl | exact isR_rf _) ?_
  refine gf_X2_19 C (r.x) rfl dX2_catRow_1 ?_
  refine gf_X2_40 C (r.ev hnow) rfl dX2_catRow_4 ?_
  refine gf_X2_111 C (r.sc hnow) rfl dX2_catRow_7 ?_
  refine g_bipush C (v := nI 8) dX2_catRow_10 (by decide) ?_
  first | with_reducible refine g_iremN C dX2_catRow_12 (by omega) (by decide) ?_ | refine g_irem C dX2_catRow_12 (by decide) ?_
  exact g_iret C hr dX2_catRow_13 (Nat.le_of_ble_eq_true rfl) (Nat.le_of_ble_eq_true rfl) (⟨rfl, rfl⟩)
set_option maxRecDepth 100000 in
set_option maxHeartbeats 4000000 in
theorem K_X2_lying (l : Launch) (Y : YG) {x : Nat} {v : Vw} {g : Sg} {Z : Nat → Prop} {h : AH} (r : RepC Y x v g Z h) (iv : Inv g) : MX l Y yX2_lying cX2_lying 1 (some .int) 2 40 0 0 [.ref x] h (pS (some (.int (nI (lyN g g.now)))) h) (noX) := by
  have hn60 := iv.n60
  have hnp16 := iv.np
  have hnow := iv.now
  refine MX.of (by decide +kernel) (Nat.le_of_ble_eq_true rfl) ?_
  intro p e s m args0 below meth c C hr hout hnm
  refine g_aload_n C dX2_lying_0 rfl (by first | rfl | exact isR_rf _) ?_
  refine gf_X2_19 C (r.x) rfl dX2_lying_1 ?_
  refine gf_X2_40 C (r.ev hnow) rfl dX2_lying_4 ?_
  refine g_callV C ((K_lyN l Y r iv hnow).K) ok_X1_countLying w363 (r.sc hnow) rfl rfl rfl dX2_lying_7 (Nat.le_of_ble_eq_true rfl) (Nat.le_of_ble_eq_true rfl) (Nat.le_of_ble_eq_true rfl) (Nat.le_of_ble_eq_true rfl) (Nat.le_of_ble_eq_true rfl) (ofS ?_)
  exact g_iret C hr dX2_lying_10 (Nat.le_of_ble_eq_true rfl) (Nat.le_of_ble_eq_true rfl) (⟨rfl, rfl⟩)
set_option maxRecDepth 100000 in
set_option maxHeartbeats 4000000 in
theorem K_X2_kindOf (l : Launch) (Y : YG) (hfl : l.stackTraces = false) {x : Nat} {v : Vw} {g : Sg} {Z : Nat → Prop} {h : AH} (r : RepC Y x v g Z h) (iv : Inv g) (i : Int32) : MX l Y yX2_kindOf cX2_kindOf 2 (some .int) 7 111 1 6 [.ref x, .int i] h (pO ((idx g.n i).map (fun j => g.kd j)) h) (xO sIO ((idx g.n i).map (fun j => g.kd j)) h) := by
  have hn60 := iv.n60
  have hnp16 := iv.np
  have hnow := iv.now
  refine MX.of (by decide +kernel) (Nat.le_of_ble_eq_true rfl) ?_
  intro p e s m args0 below meth c C hr hout hnm
  refine g_aload_n C dX2_kindOf_0 rfl (by first | rfl | exact isR_rf _) ?_
  refine g_iload_n C dX2_kindOf_1 rfl ?_
  refine g_callVX C (K_X2_existing l Y hfl r iv i) ok_X2_existing w285 (r.x) rfl rfl rfl dX2_kindOf_2 (Nat.le_of_ble_eq_true rfl) (Nat.le_of_ble_eq_true rfl) (Nat.le_of_ble_eq_true rfl) (Nat.le_of_ble_eq_true rfl) (Nat.le_of_ble_eq_true rfl) (fun E h2 q => g_out C hout (⟨by rw [q.1]; rfl, q.2.1, q.2.2⟩) (by omega) (by omega)) (ofE (fun j ej => ?_))
  obtain ⟨hj, rfl⟩ := idx_lt (by omega) ej
  refine gf_X2_137 C (r.ev hj) rfl dX2_kindOf_5 ?_
  exact g_iret C hr dX2_kindOf_8 (Nat.le_of_ble_eq_true rfl) (Nat.le_of_ble_eq_true rfl) (⟨_, by rw [ej]; rfl, rfl, rfl⟩)
set_option maxRecDepth 100000 in
set_option maxHeartbeats 4000000 in
theorem K_X2_numberOf (l : Launch) (Y : YG) (hfl : l.stackTraces = false) {x : Nat} {v : Vw} {g : Sg} {Z : Nat → Prop} {h : AH} (r : RepC Y x v g Z h) (iv : Inv g) (i : Int32) : MX l Y yX2_numberOf cX2_numberOf 2 (some .int) 7 111 1 6 [.ref x, .int i] h (pO ((idx g.n i).map (fun j => g.nm j)) h) (xO sIO ((idx g.n i).map (fun j => g.nm j)) h) := by
  have hn60 := iv.n60
  have hnp16 := iv.np
  have hnow := iv.now
  refine MX.of (by decide +kernel) (Nat.le_of_ble_eq_true rfl) ?_
  intro p e s m args0 below meth c C hr hout hnm
  refine g_aload_n C dX2_numberOf_0 rfl (by first | rfl | exact isR_rf _) ?_
  refine g_iload_n C dX2_numberOf_1 rfl ?_
  refine g_callVX C (K_X2_existing l Y hfl r iv i) ok_X2_existing w285 (r.x) rfl rfl rfl dX2_numberOf_2 (Nat.le_of_ble_eq_true rfl) (Nat.le_of_ble_eq_true rfl) (Nat.le_of_ble_eq_true rfl) (Nat.le_of_ble_eq_true rfl) (Nat.le_of_ble_eq_true rfl) (fun E h2 q => g_out C hout (⟨by rw [q.1]; rfl, q.2.1, q.2.2⟩) (by omega) (by omega)) (ofE (fun j ej => ?_))
  obtain ⟨hj, rfl⟩ := idx_lt (by omega) ej
  refine gf_X2_140 C (r.ev hj) rfl dX2_numberOf_5 ?_
  exact g_iret C hr dX2_numberOf_8 (Nat.le_of_ble_eq_true rfl) (Nat.le_of_ble_eq_true rfl) (⟨_, by rw [ej]; rfl, rfl, rfl⟩)
set_option maxRecDepth 100000 in
set_option maxHeartbeats 4000000 in
theorem K_X2_depthOf (l : Launch) (Y : YG) (hfl : l.stackTraces = false) {x : Nat} {v : Vw} {g : Sg} {Z : Nat → Prop} {h : AH} (r : RepC Y x v g Z h) (iv : Inv g) (i : Int32) : MX l Y yX2_depthOf cX2_depthOf 2 (some .int) 7 111 1 6 [.ref x, .int i] h (pO ((idx g.n i).map (fun j => nI (g.dp j))) h) (xO sIO ((idx g.n i).map (fun j => nI (g.dp j))) h) := by
  have hn60 := iv.n60
  have hnp16 := iv.np
  have hnow := iv.now
  refine MX.of (by decide +kernel) (Nat.le_of_ble_eq_true rfl) ?_
  intro p e s m args0 below meth c C hr hout hnm
  refine g_aload_n C dX2_depthOf_0 rfl (by first | rfl | exact isR_rf _) ?_
  refine g_iload_n C dX2_depthOf_1 rfl ?_
  refine g_callVX C (K_X2_existing l Y hfl r iv i) ok_X2_existing w285 (r.x) rfl rfl rfl dX2_depthOf_2 (Nat.le_of_ble_eq_true rfl) (Nat.le_of_ble_eq_true rfl) (Nat.le_of_ble_eq_true rfl) (Nat.le_of_ble_eq_true rfl) (Nat.le_of_ble_eq_true rfl) (fun E h2 q => g_out C hout (⟨by rw [q.1]; rfl, q.2.1, q.2.2⟩) (by omega) (by omega)) (ofE (fun j ej => ?_))
  obtain ⟨hj, rfl⟩ := idx_lt (by omega) ej
  refine gf_X2_143 C (r.ev hj) rfl dX2_depthOf_5 ?_
  exact g_iret C hr dX2_depthOf_8 (Nat.le_of_ble_eq_true rfl) (Nat.le_of_ble_eq_true rfl) (⟨_, by rw [ej]; rfl, rfl, rfl⟩)
set_option maxRecDepth 100000 in
set_option maxHeartbeats 4000000 in
theorem K_X2_branches (l : Launch) (Y : YG) (hfl : l.stackTraces = false) {x : Nat} {v : Vw} {g : Sg} {Z : Nat → Prop} {h : AH} (r : RepC Y x v g Z h) (iv : Inv g) (i : Int32) : MX l Y yX2_branches cX2_branches 2 (some .int) 7 111 1 6 [.ref x, .int i] h (pO ((idx g.n i).map (fun j => nI (chN g.par g.n j))) h) (xO sIO ((idx g.n i).map (fun j => nI (chN g.par g.n j))) h) := by
  have hn60 := iv.n60
  have hnp16 := iv.np
  have hnow := iv.now
  refine MX.of (by decide +kernel) (Nat.le_of_ble_eq_true rfl) ?_
  intro p e s m args0 below meth c C hr hout hnm
  refine g_aload_n C dX2_branches_0 rfl (by first | rfl | exact isR_rf _) ?_
  refine g_iload_n C dX2_branches_1 rfl ?_
  refine g_callVX C (K_X2_existing l Y hfl r iv i) ok_X2_existing w285 (r.x) rfl rfl rfl dX2_branches_2 (Nat.le_of_ble_eq_true rfl) (Nat.le_of_ble_eq_true rfl) (Nat.le_of_ble_eq_true rfl) (Nat.le_of_ble_eq_true rfl) (Nat.le_of_ble_eq_true rfl) (fun E h2 q => g_out C hout (⟨by rw [q.1]; rfl, q.2.1, q.2.2⟩) (by omega) (by omega)) (ofE (fun j ej => ?_))
  obtain ⟨hj, rfl⟩ := idx_lt (by omega) ej
  refine gf_X2_146 C (r.ev hj) rfl dX2_branches_5 ?_
  exact g_iret C hr dX2_branches_8 (Nat.le_of_ble_eq_true rfl) (Nat.le_of_ble_eq_true rfl) (⟨_, by rw [ej]; rfl, rfl, rfl⟩)
set_option maxRecDepth 100000 in
set_option maxHeartbeats 4000000 in
theorem K_X2_behind (l : Launch) (Y : YG) (hfl : l.stackTraces = false) {x : Nat} {v : Vw} {g : Sg} {Z : Nat → Prop} {h : AH} (r : RepC Y x v g Z h) (iv : Inv g) (i : Int32) : MX l Y yX2_behind cX2_behind 2 (some .int) 7 111 1 6 [.ref x, .int i] h (pO ((idx g.n i).map (fun j => nI (dsN g.par g.n j))) h) (xO sIO ((idx g.n i).map (fun j => nI (dsN g.par g.n j))) h) := by
  have hn60 := iv.n60
  have hnp16 := iv.np
  have hnow := iv.now
  refine MX.of (by decide +kernel) (Nat.le_of_ble_eq_true rfl) ?_
  intro p e s m args0 below meth c C hr hout hnm
  refine g_aload_n C dX2_behind_0 rfl (by first | rfl | exact isR_rf _) ?_
  refine g_iload_n C dX2_behind_1 rfl ?_
  refine g_callVX C (K_X2_existing l Y hfl r iv i) ok_X2_existing w285 (r.x) rfl rfl rfl dX2_behind_2 (Nat.le_of_ble_eq_true rfl) (Nat.le_of_ble_eq_true rfl) (Nat.le_of_ble_eq_true rfl) (Nat.le_of_ble_eq_true rfl) (Nat.le_of_ble_eq_true rfl) (fun E h2 q => g_out C hout (⟨by rw [q.1]; rfl, q.2.1, q.2.2⟩) (by omega) (by omega)) (ofE (fun j ej => ?_))
  obtain ⟨hj, rfl⟩ := idx_lt (by omega) ej
  refine gf_X2_149 C (r.ev hj) rfl dX2_behind_5 ?_
  exact g_iret C hr dX2_behind_8 (Nat.le_of_ble_eq_true rfl) (Nat.le_of_ble_eq_true rfl) (⟨_, by rw [ej]; rfl, rfl, rfl⟩)
set_option maxRecDepth 100000 in
set_option maxHeartbeats 4000000 in
theorem K_X2_hangsOn (l : Launch) (Y : YG) (hfl : l.stackTraces = false) {x : Nat} {v : Vw} {g : Sg} {Z : Nat → Prop} {h : AH} (r : RepC Y x v g Z h) (iv : Inv g) (i : Int32) : MX l Y yX2_hangsOn cX2_hangsOn 2 (some .int) 7 111 1 6 [.ref x, .int i] h (pO ((idx g.n i).map (fun j => nO (parO g j))) h) (xO sIO ((idx g.n i).map (fun j => nO (parO g j))) h) := by
  have hn60 := iv.n60
  have hnp16 := iv.np
  have hnow := iv.now
  refine MX.of (by decide +kernel) (Nat.le_of_ble_eq_true rfl) ?_
  intro p e s m args0 below meth c C hr hout hnm
  refine g_aload_n C dX2_hangsOn_0 rfl (by first | rfl | exact isR_rf _) ?_
  refine g_iload_n C dX2_hangsOn_1 rfl ?_
  refine g_callVX C (K_X2_existing l Y hfl r iv i) ok_X2_existing w285 (r.x) rfl rfl rfl dX2_hangsOn_2 (Nat.le_of_ble_eq_true rfl) (Nat.le_of_ble_eq_true rfl) (Nat.le_of_ble_eq_true rfl) (Nat.le_of_ble_eq_true rfl) (Nat.le_of_ble_eq_true rfl) (fun E h2 q => g_out C hout (⟨by rw [q.1]; rfl, q.2.1, q.2.2⟩) (by omega) (by omega)) (ofE (fun j ej => ?_))
  obtain ⟨hj, rfl⟩ := idx_lt (by omega) ej
  refine gf_X2_93 C (r.ev hj) rfl dX2_hangsOn_5 ?_
  rw [evP_map]
  refine g_callS C ((K_X2_labelOf l Y (a := parO g j) (fun k ek => r.ev (parO_lt iv hj ek))).K) ok_X2_labelOf w377 rfl rfl dX2_hangsOn_8 (Nat.le_of_ble_eq_true rfl) (Nat.le_of_ble_eq_true rfl) (Nat.le_of_ble_eq_true rfl) (Nat.le_of_ble_eq_true rfl) (Nat.le_of_ble_eq_true rfl) (ofS ?_)
  exact g_iret C hr dX2_hangsOn_11 (Nat.le_of_ble_eq_true rfl) (Nat.le_of_ble_eq_true rfl) (⟨_, by rw [ej]; rfl, rfl, rfl⟩)
set_option maxRecDepth 100000 in
set_option maxHeartbeats 4000000 in
theorem K_X2_again (l : Launch) (Y : YG) (hfl : l.stackTraces = false) {x : Nat} {v : Vw} {g : Sg} {Z : Nat → Prop} {h : AH} (r : RepC Y x v g Z h) (iv : Inv g) (i : Int32) : MX l Y yX2_again cX2_again 2 (some .int) 7 111 1 6 [.ref x, .int i] h (pO ((idx g.n i).map (fun j => nO (g.last j))) h) (xO sIO ((idx g.n i).map (fun j => nO (g.last j))) h) := by
  have hn60 := iv.n60
  have hnp16 := iv.np
  have hnow := iv.now
  refine MX.of (by decide +kernel) (Nat.le_of_ble_eq_true rfl) ?_
  intro p e s m args0 below meth c C hr hout hnm
  refine g_aload_n C dX2_again_0 rfl (by first | rfl | exact isR_rf _) ?_
  refine g_iload_n C dX2_again_1 rfl ?_
  refine g_callVX C (K_X2_existing l Y hfl r iv i) ok_X2_existing w285 (r.x) rfl rfl rfl dX2_again_2 (Nat.le_of_ble_eq_true rfl) (Nat.le_of_ble_eq_true rfl) (Nat.le_of_ble_eq_true rfl) (Nat.le_of_ble_eq_true rfl) (Nat.le_of_ble_eq_true rfl) (fun E h2 q => g_out C hout (⟨by rw [q.1]; rfl, q.2.1, q.2.2⟩) (by omega) (by omega)) (ofE (fun j ej => ?_))
  obtain ⟨hj, rfl⟩ := idx_lt (by omega) ej
  refine gf_X2_98 C (r.ev hj) rfl dX2_again_5 ?_
  refine g_callS C ((K_X2_labelOf l Y (a := g.last j) (fun k ek => r.ev (iv.last hj ek).2.1)).K) ok_X2_labelOf w377 rfl rfl dX2_again_8 (Nat.le_of_ble_eq_true rfl) (Nat.le_of_ble_eq_true rfl) (Nat.le_of_ble_eq_true rfl) (Nat.le_of_ble_eq_true rfl) (Nat.le_of_ble_eq_true rfl) (ofS ?_)
  exact g_iret C hr dX2_again_11 (Nat.le_of_ble_eq_true rfl) (Nat.le_of_ble_eq_true rfl) (⟨_, by rw [ej]; rfl, rfl, rfl⟩)
set_option maxRecDepth 100000 in
set_option maxHeartbeats 4000000 in
theorem K_X2_lyingIn (l : Launch) (Y : YG) (hfl : l.stackTraces = false) {x : Nat} {v : Vw} {g : Sg} {Z : Nat → Prop} {h : AH} (r : RepC Y x v g Z h) (iv : Inv g) (i : Int32) : MX l Y yX2_lyingIn cX2_lyingIn 2 (some .int) 7 111 1 6 [.ref x, .int i] h (pO ((idx g.n i).map (fun j => nI (lyN g j))) h) (xO sIO ((idx g.n i).map (fun j => nI (lyN g j))) h) := by
  have hn60 := iv.n60
  have hnp16 := iv.np
  have hnow := iv.now
  refine MX.of (by decide +kernel) (Nat.le_of_ble_eq_true rfl) ?_
  intro p e s m args0 below meth c C hr hout hnm
  refine g_aload_n C dX2_lyingIn_0 rfl (by first | rfl | exact isR_rf _) ?_
  refine g_iload_n C dX2_lyingIn_1 rfl ?_
  refine g_callVX C (K_X2_existing l Y hfl r iv i) ok_X2_existing w285 (r.x) rfl rfl rfl dX2_lyingIn_2 (Nat.le_of_ble_eq_true rfl) (Nat.le_of_ble_eq_true rfl) (Nat.le_of_ble_eq_true rfl) (Nat.le_of_ble_eq_true rfl) (Nat.le_of_ble_eq_true rfl) (fun E h2 q => g_out C hout (⟨by rw [q.1]; rfl, q.2.1, q.2.2⟩) (by omega) (by omega)) (ofE (fun j ej => ?_))
  obtain ⟨hj, rfl⟩ := idx_lt (by omega) ej
  refine gf_X2_40 C (r.ev hj) rfl dX2_lyingIn_5 ?_
  refine g_callV C ((K_lyN l Y r iv hj).K) ok_X1_countLying w363 (r.sc hj) rfl rfl rfl dX2_lyingIn_8 (Nat.le_of_ble_eq_true rfl) (Nat.le_of_ble_eq_true rfl) (Nat.le_of_ble_eq_true rfl) (Nat.le_of_ble_eq_true rfl) (Nat.le_of_ble_eq_true rfl) (ofS ?_)
  exact g_iret C hr dX2_lyingIn_11 (Nat.le_of_ble_eq_true rfl) (Nat.le_of_ble_eq_true rfl) (⟨_, by rw [ej]; rfl, rfl, rfl⟩)
set_option maxRecDepth 100000 in
set_option maxHeartbeats 4000000 in
theorem K_X2_meet (l : Launch) (Y : YG) (hfl : l.stackTraces = false) {x : Nat} {v : Vw} {g : Sg} {Z : Nat → Prop} {h : AH} (r : RepC Y x v g Z h) (iv : Inv g) (i j : Int32) : MX l Y yX2_meet cX2_meet 3 (some .int) 7 111 2 12 [.ref x, .int i, .int j] h (pO ((idx g.n i).bind (fun a => (idx g.n j).map (fun b => nI (lc g.par a b)))) h) (xO sIO ((idx g.n i).bind (fun a => (idx g.n j).map (fun b => nI (lc g.par a b)))) h) := by
  have hn60 := iv.n60
  have hnp16 := iv.np
  have hnow := iv.now
  refine MX.of (by decide +kernel) (Nat.le_of_ble_eq_true rfl) ?_
  intro p e s m args0 below meth c C hr hout hnm
  refine g_aload_n C dX2_meet_0 rfl (by first | rfl | exact isR_rf _) ?_
  refine g_iload_n C dX2_meet_1 rfl ?_
  refine g_callVX C (K_X2_existing l Y hfl r iv i) ok_X2_existing w285 (r.x) rfl rfl rfl dX2_meet_2 (Nat.le_of_ble_eq_true rfl) (Nat.le_of_ble_eq_true rfl) (Nat.le_of_ble_eq_true rfl) (Nat.le_of_ble_eq_true rfl) (Nat.le_of_ble_eq_true rfl) (fun E h2 q => g_out C hout (⟨by rw [q.1]; rfl, q.2.1, q.2.2⟩) (by omega) (by omega)) (ofE (fun a ea => ?_))
  obtain ⟨ha, rfl⟩ := idx_lt (by omega) ea
  refine g_aload_n C dX2_meet_5 rfl (by first | rfl | exact isR_rf _) ?_
  refine g_iload_n C dX2_meet_6 rfl ?_
  refine g_callVX C (K_X2_existing l Y hfl r iv j) ok_X2_existing w285 (r.x) rfl rfl rfl dX2_meet_7 (Nat.le_of_ble_eq_true rfl) (Nat.le_of_ble_eq_true rfl) (Nat.le_of_ble_eq_true rfl) (Nat.le_of_ble_eq_true rfl) (Nat.le_of_ble_eq_true rfl) (fun E h2 q => g_out C hout (⟨by rw [ea, q.1]; rfl, q.2.1, q.2.2⟩) (by omega) (by omega)) (ofE (fun b eb => ?_))
  obtain ⟨hb, rfl⟩ := idx_lt (by omega) eb
  refine g_callS C ((K_X2_meetingOf l Y r iv ha hb).K) ok_X2_meetingOf w336 rfl rfl dX2_meet_10 (Nat.le_of_ble_eq_true rfl) (Nat.le_of_ble_eq_true rfl) (Nat.le_of_ble_eq_true rfl) (Nat.le_of_ble_eq_true rfl) (Nat.le_of_ble_eq_true rfl) (ofS ?_)
  refine gf_X2_85 C (r.ev (show lc g.par a b < g.n from by have := lc_le iv.tr a b; omega)) rfl dX2_meet_13 ?_
  exact g_iret C hr dX2_meet_16 (Nat.le_of_ble_eq_true rfl) (Nat.le_of_ble_eq_true rfl) (⟨_, by rw [ea, eb]; rfl, rfl, rfl⟩)
set_option maxRecDepth 100000 in
set_option maxHeartbeats 4000000 in
theorem K_X2_apart (l : Launch) (Y : YG) (hfl : l.stackTraces = false) {x : Nat} {v : Vw} {g : Sg} {Z : Nat → Prop} {h : AH} (r : RepC Y x v g Z h) (iv : Inv g) (i j : Int32) : MX l Y yX2_apart cX2_apart 3 (some .int) 7 111 2 12 [.ref x, .int i, .int j] h (pO ((idx g.n i).bind (fun a => (idx g.n j).map (fun b => nI (wy g a b)))) h) (xO sIO ((idx g.n i).bind (fun a => (idx g.n j).map (fun b => nI (wy g a b)))) h) := by
  have hn60 := iv.n60
  have hnp16 := iv.np
  have hnow := iv.now
  refine MX.of (by decide +kernel) (Nat.le_of_ble_eq_true rfl) ?_
  intro p e s m args0 below meth c C hr hout hnm
  refine g_aload_n C dX2_apart_0 rfl (by first | rfl | exact isR_rf _) ?_
  refine g_iload_n C dX2_apart_1 rfl ?_
  refine g_callVX C (K_X2_existing l Y hfl r iv i) ok_X2_existing w285 (r.x) rfl rfl rfl dX2_apart_2 (Nat.le_of_ble_eq_true rfl) (Nat.le_of_ble_eq_true rfl) (Nat.le_of_ble_eq_true rfl) (Nat.le_of_ble_eq_true rfl) (Nat.le_of_ble_eq_true rfl) (fun E h2 q => g_out C hout (⟨by rw [q.1]; rfl, q.2.1, q.2.2⟩) (by omega) (by omega)) (ofE (fun a ea => ?_))
  obtain ⟨ha, rfl⟩ := idx_lt (by omega) ea
  refine g_aload_n C dX2_apart_5 rfl (by first | rfl | exact isR_rf _) ?_
  refine g_iload_n C dX2_apart_6 rfl ?_
  refine g_callVX C (K_X2_existing l Y hfl r iv j) ok_X2_existing w285 (r.x) rfl rfl rfl dX2_apart_7 (Nat.le_of_ble_eq_true rfl) (Nat.le_of_ble_eq_true rfl) (Nat.le_of_ble_eq_true rfl) (Nat.le_of_ble_eq_true rfl) (Nat.le_of_ble_eq_true rfl) (fun E h2 q => g_out C hout (⟨by rw [ea, q.1]; rfl, q.2.1, q.2.2⟩) (by omega) (by omega)) (ofE (fun b eb => ?_))
  obtain ⟨hb, rfl⟩ := idx_lt (by omega) eb
  refine g_callS C ((K_X2_wayLength l Y r iv ha hb).K) ok_X2_wayLength w333 rfl rfl dX2_apart_10 (Nat.le_of_ble_eq_true rfl) (Nat.le_of_ble_eq_true rfl) (Nat.le_of_ble_eq_true rfl) (Nat.le_of_ble_eq_true rfl) (Nat.le_of_ble_eq_true rfl) (ofS ?_)
  exact g_iret C hr dX2_apart_13 (Nat.le_of_ble_eq_true rfl) (Nat.le_of_ble_eq_true rfl) (⟨_, by rw [ea, eb]; rfl, rfl, rfl⟩)
set_option maxRecDepth 100000 in
set_option maxHeartbeats 4000000 in
theorem K_X2_areAlike (l : Launch) (Y : YG) (hfl : l.stackTraces = false) {x : Nat} {v : Vw} {g : Sg} {Z : Nat → Prop} {h : AH} (r : RepC Y x v g Z h) (iv : Inv g) (i j : Int32) : MX l Y yX2_areAlike cX2_areAlike 5 (some .boolean) 7 111 2 12 [.ref x, .int i, .int j] h (pO ((idx g.n i).bind (fun a => (idx g.n j).map (fun b => (if lkB g a b then 1 else 0)))) h) (xO sIO ((idx g.n i).bind (fun a => (idx g.n j).map (fun b => (if lkB g a b then 1 else 0)))) h) := by
  have hn60 := iv.n60
  have hnp16 := iv.np
  have hnow := iv.now
  refine MX.of (by decide +kernel) (Nat.le_of_ble_eq_true rfl) ?_
  intro p e s m args0 below meth c C hr hout hnm
  refine g_aload_n C dX2_areAlike_0 rfl (by first | rfl | exact isR_rf _) ?_
  refine g_iload_n C dX2_areAlike_1 rfl ?_
  refine g_callVX C (K_X2_existing l Y hfl r iv i) ok_X2_existing w285 (r.x) rfl rfl rfl dX2_areAlike_2 (Nat.le_of_ble_eq_true rfl) (Nat.le_of_ble_eq_true rfl) (Nat.le_of_ble_eq_true rfl) (Nat.le_of_ble_eq_true rfl) (Nat.le_of_ble_eq_true rfl) (fun E h2 q => g_out C hout (⟨by rw [q.1]; rfl, q.2.1, q.2.2⟩) (by omega) (by omega)) (ofE (fun a ea => ?_))
  obtain ⟨ha, rfl⟩ := idx_lt (by omega) ea
  refine gf_X2_40 C (r.ev ha) rfl dX2_areAlike_5 ?_
  refine g_astore_n C dX2_areAlike_8 (by decide) (by first | rfl | exact isR_rf _) ?_
  refine g_aload_n C dX2_areAlike_9 rfl (by first | rfl | exact isR_rf _) ?_
  refine g_iload_n C dX2_areAlike_10 rfl ?_
  refine g_callVX C (K_X2_existing l Y hfl r iv j) ok_X2_existing w285 (r.x) rfl rfl rfl dX2_areAlike_11 (Nat.le_of_ble_eq_true rfl) (Nat.le_of_ble_eq_true rfl) (Nat.le_of_ble_eq_true rfl) (Nat.le_of_ble_eq_true rfl) (Nat.le_of_ble_eq_true rfl) (fun E h2 q => g_out C hout (⟨by rw [ea, q.1]; rfl, q.2.1, q.2.2⟩) (by omega) (by omega)) (ofE (fun b eb => ?_))
  obtain ⟨hb, rfl⟩ := idx_lt (by omega) eb
  refine gf_X2_40 C (r.ev hb) rfl dX2_areAlike_14 ?_
  refine g_astore C dX2_areAlike_17 (by decide) (by first | rfl | exact isR_rf _) ?_
  refine g_aload_n C dX2_areAlike_19 rfl (by first | rfl | exact isR_rf _) ?_
  refine g_aload C dX2_areAlike_20 rfl (by first | rfl | exact isR_rf _) ?_
  refine g_callV C ((K_lk l Y r iv ha hb).K) ok_X1_isLike w441 (r.sc ha) rfl rfl rfl dX2_areAlike_22 (Nat.le_of_ble_eq_true rfl) (Nat.le_of_ble_eq_true rfl) (Nat.le_of_ble_eq_true rfl) (Nat.le_of_ble_eq_true rfl) (Nat.le_of_ble_eq_true rfl) (ofS ?_)
  cases ez : lkB g a b
  · exact g_zret C hr (Or.inl rfl) dX2_areAlike_25 (by omega) (by omega) ⟨_, by rw [ea, eb]; rfl, by simp [ez], rfl⟩
  · exact g_zret C hr (Or.inr rfl) dX2_areAlike_25 (by omega) (by omega) ⟨_, by rw [ea, eb]; rfl, by simp [ez], rfl⟩
set_option maxRecDepth 100000 in
set_option maxHeartbeats 4000000 in
theorem K_X2_placeOf (l : Launch) (Y : YG) (hfl : l.stackTraces = false) {x : Nat} {v : Vw} {g : Sg} {Z : Nat → Prop} {h : AH} (r : RepC Y x v g Z h) (iv : Inv g) (i : Int32) : MX l Y yX2_placeOf cX2_placeOf 2 (some .int) 7 111 1 6 [.ref x, .int i] h (pO ((idx g.np i).map (fun q => nI (g.pos g.now q))) h) (xO sIO ((idx g.np i).map (fun q => nI (g.pos g.now q))) h) := by
  have hn60 := iv.n60
  have hnp16 := iv.np
  have hnow := iv.now
  refine MX.of (by decide +kernel) (Nat.le_of_ble_eq_true rfl) ?_
  intro p e s m args0 below meth c C hr hout hnm
  refine g_aload_n C dX2_placeOf_0 rfl (by first | rfl | exact isR_rf _) ?_
  refine gf_X2_19 C (r.x) rfl dX2_placeOf_1 ?_
  refine gf_X2_40 C (r.ev hnow) rfl dX2_placeOf_4 ?_
  refine g_iload_n C dX2_placeOf_7 rfl ?_
  refine g_callSX C (K_X2_placeInScene l Y hfl (r.sc hnow) (r.pl hnow) iv.np (fun q hq => r.fp hnow hq) i) ok_X2_placeInScene w420 rfl rfl dX2_placeOf_8 (Nat.le_of_ble_eq_true rfl) (Nat.le_of_ble_eq_true rfl) (Nat.le_of_ble_eq_true rfl) (Nat.le_of_ble_eq_true rfl) (Nat.le_of_ble_eq_true rfl) (fun E h2 q => g_out C hout q (by omega) (by omega)) (ofO (fun w ew => ?_))
  exact g_iret C hr dX2_placeOf_11 (Nat.le_of_ble_eq_true rfl) (Nat.le_of_ble_eq_true rfl) (⟨w, ew, rfl, rfl⟩)
set_option maxRecDepth 100000 in
set_option maxHeartbeats 4000000 in
theorem K_X2_lies (l : Launch) (Y : YG) (hfl : l.stackTraces = false) {x : Nat} {v : Vw} {g : Sg} {Z : Nat → Prop} {h : AH} (r : RepC Y x v g Z h) (iv : Inv g) (i : Int32) : MX l Y yX2_lies cX2_lies 2 (some .boolean) 6 90 1 6 [.ref x, .int i] h (pO ((idx g.np i).map (fun q => (if (g.lb g.now).testBit q then 1 else 0))) h) (xO sIO ((idx g.np i).map (fun q => (if (g.lb g.now).testBit q then 1 else 0))) h) := by
  have hn60 := iv.n60
  have hnp16 := iv.np
  have hnow := iv.now
  refine MX.of (by decide +kernel) (Nat.le_of_ble_eq_true rfl) ?_
  intro p e s m args0 below meth c C hr hout hnm
  refine g_aload_n C dX2_lies_0 rfl (by first | rfl | exact isR_rf _) ?_
  refine gf_X2_19 C (r.x) rfl dX2_lies_1 ?_
  refine gf_X2_40 C (r.ev hnow) rfl dX2_lies_4 ?_
  refine g_iload_n C dX2_lies_7 rfl ?_
  refine g_callV C ((K_has l Y r iv hnow i).K) ok_X1_has w423 (r.sc hnow) rfl rfl rfl dX2_lies_8 (Nat.le_of_ble_eq_true rfl) (Nat.le_of_ble_eq_true rfl) (Nat.le_of_ble_eq_true rfl) (Nat.le_of_ble_eq_true rfl) (Nat.le_of_ble_eq_true rfl) (ofS ?_)
  refine g_if_neB C (tgt := 24) dX2_lies_11 (by decide) (fun q1 => ?_) (fun q1 => ?_)
  · obtain ⟨j, hj, rfl, ej⟩ := idx_t (n := g.np) (i := i) (by omega) q1
    refine g_aload_n C dX2_lies_24 rfl (by first | rfl | exact isR_rf _) ?_
    refine gf_X2_19 C (r.x) rfl dX2_lies_25 ?_
    refine gf_X2_40 C (r.ev hnow) rfl dX2_lies_28 ?_
    refine g_iload_n C dX2_lies_31 rfl ?_
    refine g_callV C ((K_ly l Y r iv hnow hj).K) ok_X1_isLying w428 (r.sc hnow) rfl rfl rfl dX2_lies_32 (Nat.le_of_ble_eq_true rfl) (Nat.le_of_ble_eq_true rfl) (Nat.le_of_ble_eq_true rfl) (Nat.le_of_ble_eq_true rfl) (Nat.le_of_ble_eq_true rfl) (ofS ?_)
    cases ez : (g.lb g.now).testBit j
    · exact g_zret C hr (Or.inl rfl) dX2_lies_35 (by omega) (by omega) ⟨_, by rw [ej]; rfl, by simp [ez], rfl⟩
    · exact g_zret C hr (Or.inr rfl) dX2_lies_35 (by omega) (by omega) ⟨_, by rw [ej]; rfl, by simp [ez], rfl⟩
  · exact g_throwS C hfl hout okT_125 (tf_ca_IndexOutOfBoundsException C) (tf_s127 C) dX2_lies_14 dX2_lies_17 dX2_lies_18 dX2_lies_20 dX2_lies_23 (Nat.le_of_ble_eq_true rfl) (Nat.le_of_ble_eq_true rfl) (Nat.le_of_ble_eq_true rfl) (Nat.le_of_ble_eq_true rfl)  (Nat.le_of_ble_eq_true rfl) (Nat.le_of_ble_eq_true rfl) (⟨by rw [idx_f q1]; rfl, rfl, rfl⟩)
set_option maxRecDepth 100000 in
set_option maxHeartbeats 4000000 in
theorem K_X2_placeIn (l : Launch) (Y : YG) (hfl : l.stackTraces = false) {x : Nat} {v : Vw} {g : Sg} {Z : Nat → Prop} {h : AH} (r : RepC Y x v g Z h) (iv : Inv g) (i j : Int32) : MX l Y yX2_placeIn cX2_placeIn 5 (some .int) 7 111 2 12 [.ref x, .int i, .int j] h (pO ((idx g.n i).bind (fun a => (idx g.np j).map (fun q => nI (g.pos a q + if (g.lb a).testBit q then 100 else 0)))) h) (xO sIO ((idx g.n i).bind (fun a => (idx g.np j).map (fun q => nI (g.pos a q + if (g.lb a).testBit q then 100 else 0)))) h) := by
  have hn60 := iv.n60
  have hnp16 := iv.np
  have hnow := iv.now
  refine MX.of (by decide +kernel) (Nat.le_of_ble_eq_true rfl) ?_
  intro p e s m args0 below meth c C hr hout hnm
  refine g_aload_n C dX2_placeIn_0 rfl (by first | rfl | exact isR_rf _) ?_
  refine g_iload_n C dX2_placeIn_1 rfl ?_
  refine g_callVX C (K_X2_existing l Y hfl r iv i) ok_X2_existing w285 (r.x) rfl rfl rfl dX2_placeIn_2 (Nat.le_of_ble_eq_true rfl) (Nat.le_of_ble_eq_true rfl) (Nat.le_of_ble_eq_true rfl) (Nat.le_of_ble_eq_true rfl) (Nat.le_of_ble_eq_true rfl) (fun E h2 q => g_out C hout (⟨by rw [q.1]; rfl, q.2.1, q.2.2⟩) (by omega) (by omega)) (ofE (fun a ea => ?_))
  obtain ⟨ha, rfl⟩ := idx_lt (by omega) ea
  refine gf_X2_40 C (r.ev ha) rfl dX2_placeIn_5 ?_
  refine g_astore_n C dX2_placeIn_8 (by decide) (by first | rfl | exact isR_rf _) ?_
  refine g_aload_n C dX2_placeIn_9 rfl (by first | rfl | exact isR_rf _) ?_
  refine g_iload_n C dX2_placeIn_10 rfl ?_
  refine g_callSX C (K_X2_placeInScene l Y hfl (r.sc ha) (r.pl ha) iv.np (fun q hq => r.fp ha hq) j) ok_X2_placeInScene w420 rfl rfl dX2_placeIn_11 (Nat.le_of_ble_eq_true rfl) (Nat.le_of_ble_eq_true rfl) (Nat.le_of_ble_eq_true rfl) (Nat.le_of_ble_eq_true rfl) (Nat.le_of_ble_eq_true rfl) (fun E h2 q => g_out C hout (⟨by rw [ea]; cases hz : idx g.np j with | none => rfl | some w => rw [hz] at q; exact absurd q.1 (by simp), q.2.1, q.2.2⟩) (by omega) (by omega)) (ofO (fun w ew => ?_))
  obtain ⟨q, eq, rfl⟩ := Option.map_eq_some_iff.mp ew
  obtain ⟨hq, rfl⟩ := idx_lt (by omega) eq
  refine g_istore C dX2_placeIn_14 (by decide) ?_
  refine g_aload_n C dX2_placeIn_16 rfl (by first | rfl | exact isR_rf _) ?_
  refine g_iload_n C dX2_placeIn_17 rfl ?_
  refine g_callV C ((K_ly l Y r iv ha hq).K) ok_X1_isLying w428 (r.sc ha) rfl rfl rfl dX2_placeIn_18 (Nat.le_of_ble_eq_true rfl) (Nat.le_of_ble_eq_true rfl) (Nat.le_of_ble_eq_true rfl) (Nat.le_of_ble_eq_true rfl) (Nat.le_of_ble_eq_true rfl) (ofS ?_)
  cases ez : (g.lb a).testBit q
  · refine g_if_eqB C (tgt := 32) dX2_placeIn_21 (by decide) (fun q1 => ?_) (fun q1 => absurd q1 (by decide))
    refine g_iload C dX2_placeIn_32 rfl ?_
    exact g_iret C hr dX2_placeIn_34 (by omega) (by omega) ⟨_, by rw [ea, eq]; rfl, by simp [ez], rfl⟩
  · refine g_if_eqB C (tgt := 32) dX2_placeIn_21 (by decide) (fun q1 => absurd q1 (by decide)) (fun q1 => ?_)
    refine g_iload C dX2_placeIn_24 rfl ?_
    refine g_bipush C (v := nI 100) dX2_placeIn_26 (by decide) ?_
    refine g_iaddN C dX2_placeIn_28 ?_
    refine g_goto C (tgt := 34) dX2_placeIn_29 (by decide) ?_
    exact g_iret C hr dX2_placeIn_34 (by omega) (by omega) ⟨_, by rw [ea, eq]; rfl, by simp [ez], rfl⟩
theorem onB_N {c0 r0 : Int32} (hb : onB c0 r0 = true) : ∃ w, w < 64 ∧ c0 * nI 8 + r0 = nI w ∧ (c0 * nI 8 + r0).toNatClampNeg = w := by
  unfold onB at hb
  split at hb
  · cases hb
  · split at hb
    · cases hb
    · split at hb
      · cases hb
      · split at hb
        · cases hb
        · rename_i z1 z2 z3 z4
          obtain ⟨a, ha, rfl⟩ := nI_of z1
          obtain ⟨b, hb, rfl⟩ := nI_of z3
          have l1 : ¬ 8 ≤ a := fun q => z2 ((nI_leI (by omega) ha).mpr q)
          have l2 : ¬ 8 ≤ b := fun q => z4 ((nI_leI (by omega) hb).mpr q)
          refine ⟨a * 8 + b, by omega, by rw [pk_mul, nI_add], ?_⟩
          rw [pk_mul, nI_add, nI_clamp (by omega)]
theorem nI_posEq {g : Sg} (iv : Inv g) {a w : Nat} (ha : a < g.n) (hw : w < 64) : ∀ j, j < g.np → (nI (g.pos a j) = nI w ↔ g.pos a j = w) := fun j hj => nI_eq (by have := iv.pos ha hj; omega) (by omega)
section GD
variable {p : Program} {l : Launch} {e : Env} {R : Room} {s : State} {m : MethodId} {args : Array Value} {below : List Frame} {meth : Method} {c : Code} {Q : State → Prop} {Y : YG} {nL : Nat} {cc : ByteArray} {own : String} {pc : Nat} {lv : List (Option Value)} {st : List Value} {h : AH} {k n : Nat}
theorem ofBP {P : Prop} {h0 : AH} {pc2 : Nat} {x : Value} (kk : P → Gd p l e R s m args below meth c Q Y nL pc2 lv (x :: st) h0 k n) : ∀ (v : Option Value) (h' : AH), (P ∧ v = some x ∧ h' = h0) → Gd p l e R s m args below meth c Q Y nL pc2 lv (v.toList ++ st) h' k n := by
  intro v h' q
  obtain ⟨h1, rfl, rfl⟩ := q
  exact kk h1
theorem ofBV {P : Prop} {h0 : AH} {pc2 : Nat} (kk : P → Gd p l e R s m args below meth c Q Y nL pc2 lv st h0 k n) : ∀ (v : Option Value) (h' : AH), (P ∧ v = none ∧ h' = h0) → Gd p l e R s m args below meth c Q Y nL pc2 lv (v.toList ++ st) h' k n := by
  intro v h' q
  obtain ⟨h1, rfl, rfl⟩ := q
  exact kk h1
end GD
set_option maxRecDepth 100000 in
set_option maxHeartbeats 4000000 in
theorem K_X2_pieceAt (l : Launch) (Y : YG) (hfl : l.stackTraces = false) {x : Nat} {v : Vw} {g : Sg} {Z : Nat → Prop} {h : AH} (r : RepC Y x v g Z h) (iv : Inv g) (c0 r0 : Int32) : MX l Y yX2_pieceAt cX2_pieceAt 3 (some .int) 7 111 1 6 [.ref x, .int c0, .int r0] h (pO ((if onB c0 r0 = true then some (nO (pon (g.pos g.now) ((c0 * nI 8 + r0).toNatClampNeg) g.np 0)) else none)) h) (xO sIA ((if onB c0 r0 = true then some (nO (pon (g.pos g.now) ((c0 * nI 8 + r0).toNatClampNeg) g.np 0)) else none)) h) := by
  have hn60 := iv.n60
  have hnp16 := iv.np
  have hnow := iv.now
  refine MX.of (by decide +kernel) (Nat.le_of_ble_eq_true rfl) ?_
  intro p e s m args0 below meth c C hr hout hnm
  refine g_aload_n C dX2_pieceAt_0 rfl (by first | rfl | exact isR_rf _) ?_
  refine gf_X2_19 C (r.x) rfl dX2_pieceAt_1 ?_
  refine gf_X2_40 C (r.ev hnow) rfl dX2_pieceAt_4 ?_
  refine g_iload_n C dX2_pieceAt_7 rfl ?_
  refine g_iload_n C dX2_pieceAt_8 rfl ?_
  refine g_callSX C (K_X2_boardPlace l Y hfl c0 r0) ok_X2_boardPlace w551 rfl rfl dX2_pieceAt_9 (Nat.le_of_ble_eq_true rfl) (Nat.le_of_ble_eq_true rfl) (Nat.le_of_ble_eq_true rfl) (Nat.le_of_ble_eq_true rfl) (Nat.le_of_ble_eq_true rfl) (fun E h2 q => g_out C hout (⟨by rw [q.1]; rfl, q.2.1, q.2.2⟩) (by omega) (by omega)) (ofBP (fun eb => ?_))
  obtain ⟨w, hw, ew, ew2⟩ := onB_N eb
  rw [ew]
  refine g_callV C ((K_X1_pieceOn l Y (r.sc hnow) (r.pl hnow) iv.np (fun q hq => r.fp hnow hq) (nI_posEq iv hnow hw)).K) ok_X1_pieceOn w558 (r.sc hnow) rfl rfl rfl dX2_pieceAt_12 (Nat.le_of_ble_eq_true rfl) (Nat.le_of_ble_eq_true rfl) (Nat.le_of_ble_eq_true rfl) (Nat.le_of_ble_eq_true rfl) (Nat.le_of_ble_eq_true rfl) (ofS ?_)
  exact g_iret C hr dX2_pieceAt_15 (Nat.le_of_ble_eq_true rfl) (Nat.le_of_ble_eq_true rfl) (⟨_, by rw [if_pos eb, nI_clamp (by omega)], rfl, rfl⟩)
