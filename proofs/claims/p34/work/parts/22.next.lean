def stSet (g : Sg) (w : Nat) : Sg := (g.n, g.now, g.np + 1, g.par, g.kd, g.nm, g.dp, g.last, g.ct, uF g.pos g.now (uN (g.pos g.now) g.np w), g.lb)
def ppF (g : Sg) : Nat → Nat := fun j => if j < g.n then g.par j else if j = g.n then g.now else 0
def ddF (g : Sg) : Nat → Nat := fun j => if j < g.n then g.dp j else if j = g.n then g.dp g.now + 1 else 1
def llF (g : Sg) : Nat → Option Nat := uO (uO g.last g.n none) g.now (some g.n)
def stPaw (g : Sg) (k v : Int32) (z : Nat × (Nat → Nat) × Nat) : Sg := (g.n + 1, g.n, g.np, ppF g, uI g.kd g.n k, uI g.nm g.n v, ddF g, llF g, uN g.ct g.n z.1, uF g.pos g.n z.2.1, uN g.lb g.n z.2.2)
def stNow (g : Sg) (a : Nat) : Sg := (g.n, a, g.np, g.par, g.kd, g.nm, g.dp, g.last, g.ct, g.pos, g.lb)
def stGo (g : Sg) (a : Nat) : Sg := (g.n, a, g.np, g.par, g.kd, g.nm, g.dp, ptF g.par a a g.last, g.ct, g.pos, g.lb)
def st0 : Sg := (1, 0, 0, fun _ => 0, fun _ => -1, fun _ => -1, fun j => if j = 0 then 0 else 1, fun _ => none, fun _ => 0, fun _ _ => 0, fun _ => 0)
theorem an_congr {par par2 : Nat → Nat} (h1 : Tr par) (h2 : Tr par2) {N : Nat} (hN : ∀ j, j < N → par2 j = par j) (i : Nat) : ∀ {k : Nat}, k < N → an par2 i k = an par i k := by
  intro k
  induction k using Nat.strongRecOn with
  | ind k ih =>
    intro hk
    rcases Nat.eq_zero_or_pos k with h0 | h0
    · subst h0; rw [an_0, an_0]
    · have := h1.2 k h0
      rw [an_up h1 i h0, an_up h2 i h0, hN k hk, ih _ this (by omega)]
theorem pp_lt {g : Sg} {j : Nat} (h : j < g.n) : ppF g j = g.par j := if_pos h
theorem pp_n {g : Sg} : ppF g g.n = g.now := by
  unfold ppF
  rw [if_neg (Nat.lt_irrefl _), if_pos rfl]
theorem dd_lt {g : Sg} {j : Nat} (h : j < g.n) : ddF g j = g.dp j := if_pos h
theorem dd_n {g : Sg} : ddF g g.n = g.dp g.now + 1 := by
  unfold ddF
  rw [if_neg (Nat.lt_irrefl _), if_pos rfl]
theorem pp_tr {g : Sg} (iv : Inv g) : Tr (ppF g) := by
  have h1 := iv.n1
  have h2 := iv.now
  refine ⟨by rw [pp_lt (by omega)]; exact iv.tr.1, fun k hk => ?_⟩
  unfold ppF
  split
  · exact iv.tr.2 k hk
  · split
    · omega
    · exact hk
theorem dd_dp {g : Sg} (iv : Inv g) : Dp (ppF g) (ddF g) := by
  have h1 := iv.n1
  have h2 := iv.now
  refine ⟨by rw [dd_lt (by omega)]; exact iv.dp.1, fun k hk => ?_⟩
  rcases Nat.lt_trichotomy k g.n with q | q | q
  · have := iv.tr.2 k hk
    rw [dd_lt q, pp_lt q, dd_lt (by omega)]
    exact iv.dp.2 k hk
  · subst q
    rw [dd_n, pp_n, dd_lt h2]
  · have e1 : ppF g k = 0 := by
      unfold ppF
      rw [if_neg (by omega), if_neg (by omega)]
    have e2 : ddF g k = 1 := by
      unfold ddF
      rw [if_neg (by omega), if_neg (by omega)]
    rw [e1, e2, dd_lt (by omega), iv.dp.1]
theorem an_pp {g : Sg} (iv : Inv g) (i : Nat) {k : Nat} (hk : k < g.n) : an (ppF g) i k = an g.par i k := an_congr iv.tr (pp_tr iv) (fun _ h => pp_lt h) i hk
theorem an_ppn {g : Sg} (iv : Inv g) (i : Nat) : an (ppF g) i g.n = (g.n == i || an g.par i g.now) := by
  have h1 := iv.n1
  rw [an_up (pp_tr iv) i (by omega), pp_n, an_pp iv i iv.now]
theorem ch_pp {g : Sg} (iv : Inv g) {i : Nat} (hi : i < g.n) : chN (ppF g) (g.n + 1) i = uN (chN g.par g.n) g.now (chN g.par g.n g.now + 1) i := by
  have h1 := iv.n1
  have e : cnt (isCh (ppF g) i) g.n = cnt (isCh g.par i) g.n := cnt_congr (fun k hk => by unfold isCh; rw [pp_lt hk])
  show cnt (isCh (ppF g) i) g.n + (if isCh (ppF g) i g.n = true then 1 else 0) = _
  rw [e]
  unfold isCh
  rw [pp_n]
  unfold uN
  by_cases h : i = g.now
  · rw [if_pos h, h]
    simp [show 0 < g.n by omega, chN]
    rfl
  · rw [if_neg h]
    have : (g.now == i) = false := by simp; omega
    simp [this, chN]
    rfl
theorem ch_ppn {g : Sg} (iv : Inv g) : chN (ppF g) (g.n + 1) g.n = 0 := by
  refine cnt_0.mpr (fun k hk => ?_)
  unfold isCh
  rcases Nat.eq_zero_or_pos k with q | q
  · subst q; rfl
  · have := (pp_tr iv).2 k q
    have : (ppF g k == g.n) = false := by simp; omega
    rw [this, Bool.and_false]
theorem ds_pp {g : Sg} (iv : Inv g) {i : Nat} (hi : i < g.n) : dsN (ppF g) (g.n + 1) i = dsN g.par g.n i + (if decide (i < g.n) && an (ppF g) i g.n then 1 else 0) := by
  have e : cnt (isDs (ppF g) i) g.n = cnt (isDs g.par i) g.n := cnt_congr (fun k hk => by unfold isDs; rw [an_pp iv i hk])
  show cnt (isDs (ppF g) i) g.n + (if isDs (ppF g) i g.n = true then 1 else 0) = _
  rw [e]
  rfl
theorem ds_ppn (g : Sg) : dsN (ppF g) (g.n + 1) g.n = 0 := by
  refine cnt_0.mpr (fun k hk => ?_)
  unfold isDs
  rw [decide_eq_false (by omega), Bool.false_and]
theorem ll_n {g : Sg} (iv : Inv g) : llF g g.n = none := by
  have := iv.now
  unfold llF uO
  rw [if_neg (by omega), if_pos rfl]
theorem ll_now (g : Sg) : llF g g.now = some g.n := by
  unfold llF uO
  rw [if_pos rfl]
theorem ll_ne {g : Sg} {i : Nat} (h1 : i ≠ g.n) (h2 : i ≠ g.now) : llF g i = g.last i := by
  unfold llF uO
  rw [if_neg h2, if_neg h1]
/-- pointing up from the new evening -/
theorem pt_new {g : Sg} (iv : Inv g) : ptF (ppF g) g.n g.n (uO g.last g.n none) = llF g := by
  have h1 := iv.n1
  have h2 := iv.now
  obtain ⟨f, hf⟩ : ∃ f, g.n = f + 1 := ⟨g.n - 1, by omega⟩
  have e : ∀ F, F = f + 1 → ptF (ppF g) F g.n (uO g.last g.n none) = ptF (ppF g) f (ppF g g.n) (uO (uO g.last g.n none) (ppF g g.n) (some g.n)) := by
    intro F hF
    subst hF
    simp only [ptF]
    rw [if_neg (by omega)]
  rw [e g.n hf, pp_n]
  refine ptF_id (pp_tr iv) f g.now (llF g) (fun c h0 hc => ?_)
  have hcn := an_le (pp_tr iv) hc
  rw [an_pp iv c h2] at hc
  have := iv.tr.2 c h0
  rw [pp_lt (by omega), ll_ne (by omega) (by omega)]
  exact iv.path h0 hc
theorem bit_lt {j np : Nat} (h : j < np) : 2 ^ j < 2 ^ np := Nat.pow_lt_pow_right (by decide) h
theorem nxt_ok {np ct lb k v : Nat} {pos : Nat → Nat} {z : Nat × (Nat → Nat) × Nat} (hct : ct < 64) (hpos : ∀ q, q < np → pos q < 64) (hlb : lb < 2 ^ np) (h : nxt np ct pos lb k v = some z) : z.1 < 64 ∧ (∀ q, q < np → z.2.1 q < 64) ∧ z.2.2 < 2 ^ np := by
  unfold nxt at h
  split at h
  · split at h
    · cases h
    · rename_i c hc
      cases h
      exact ⟨fa_lt hc, hpos, hlb⟩
  · split at h
    · split at h
      · rename_i hv
        cases h
        exact ⟨hct, hpos, Nat.or_lt_two_pow hlb (bit_lt hv.1)⟩
      · cases h
    · split at h
      · split at h
        · rename_i hv
          cases h
          exact ⟨hct, hpos, Nat.xor_lt_two_pow hlb (bit_lt hv.1)⟩
        · cases h
      · split at h
        · cases h
        · rename_i a ha
          split at h
          · cases h
          · split at h
            · cases h
            · split at h
              · cases h
              · rename_i b hb
                split at h
                · cases h
                  refine ⟨fa_lt ha, fun q hq => ?_, hlb⟩
                  show uN pos _ b q < 64
                  unfold uN
                  split
                  · exact fa_lt hb
                  · exact hpos q hq
                · cases h
theorem inv_0 : Inv st0 := by
  refine ⟨⟨by decide, by decide, by decide, by decide⟩, ⟨rfl, fun k hk => hk⟩, ⟨rfl, fun k hk => ?_⟩, ⟨rfl, rfl⟩, fun _ _ => (show 0 < 64 by decide), fun _ _ _ _ => (show 0 < 64 by decide), fun _ _ => (show 0 < 2 ^ 0 by decide), fun i j _ h => (nomatch h), fun j h1 h2 => ?_, fun c h1 h2 => ?_⟩
  · show (if k = 0 then 0 else 1) = (if (0 : Nat) = 0 then 0 else 1) + 1
    rw [if_neg (by omega), if_pos rfl]
  · exfalso
    have : j < 1 := h2
    omega
  · exfalso
    have : an (fun _ => 0) c 0 = true := h2
    rw [an_0] at this
    have : 0 = c := by simpa using this
    omega
theorem inv_set {g : Sg} (iv : Inv g) {w : Nat} (hw : w < 64) (hnp : g.np < 16) (hn : g.n = 1) : Inv (stSet g w) := by
  have h2 := iv.now
  obtain ⟨⟨a1, a2, a3, a4⟩, b, c, d, e1, e2, e3, e4, e5, e6⟩ := iv
  refine ⟨⟨a1, a2, a3, hnp⟩, b, c, d, e1, fun i q hi hq => ?_, fun i hi => Nat.lt_of_lt_of_le (e3 i hi) (Nat.pow_le_pow_right (by decide) (Nat.le_succ _)), e4, e5, e6⟩
  show uF g.pos g.now (uN (g.pos g.now) g.np w) i q < 64
  have hi' : i < g.n := hi
  have hin : i = g.now := by omega
  unfold uF uN
  rw [if_pos hin]
  split
  · exact hw
  · have hq' : q < g.np + 1 := hq
    exact e2 _ q h2 (by omega)
theorem inv_paw {g : Sg} (iv : Inv g) {k v : Int32} {z : Nat × (Nat → Nat) × Nat} (hz : z.1 < 64 ∧ (∀ q, q < g.np → z.2.1 q < 64) ∧ z.2.2 < 2 ^ g.np) (hn : g.n < 60) : Inv (stPaw g k v z) := by
  have h1 := iv.n1
  have h2 := iv.now
  refine ⟨⟨by show 1 ≤ g.n + 1; omega, by show g.n + 1 ≤ 60; omega, Nat.lt_succ_self _, iv.np⟩, pp_tr iv, dd_dp iv, ⟨?_, ?_⟩, fun i hi => ?_, fun i q hi hq => ?_, fun i hi => ?_, fun i j hi hl => ?_, fun j h0 hj => ?_, fun c h0 hc => ?_⟩
  · show uI g.kd g.n k 0 = -1
    unfold uI
    rw [if_neg (by omega)]
    exact iv.2.2.2.1.1
  · show uI g.nm g.n v 0 = -1
    unfold uI
    rw [if_neg (by omega)]
    exact iv.2.2.2.1.2
  · show uN g.ct g.n z.1 i < 64
    have hi' : i < g.n + 1 := hi
    unfold uN
    split
    · exact hz.1
    · exact iv.ct (by omega)
  · show uF g.pos g.n z.2.1 i q < 64
    have hi' : i < g.n + 1 := hi
    unfold uF
    split
    · exact hz.2.1 q hq
    · exact iv.pos (by omega) hq
  · show uN g.lb g.n z.2.2 i < 2 ^ g.np
    have hi' : i < g.n + 1 := hi
    unfold uN
    split
    · exact hz.2.2
    · exact iv.lb (by omega)
  · have hi' : i < g.n + 1 := hi
    have hl' : llF g i = some j := hl
    show 0 < j ∧ j < g.n + 1 ∧ ppF g j = i
    by_cases q1 : i = g.n
    · rw [q1, ll_n iv] at hl'; cases hl'
    · by_cases q2 : i = g.now
      · rw [q2, ll_now] at hl'
        cases hl'
        exact ⟨h1, Nat.lt_succ_self _, by rw [pp_n, q2]⟩
      · rw [ll_ne q1 q2] at hl'
        obtain ⟨z1, z2, z3⟩ := iv.last (by omega) hl'
        exact ⟨z1, by omega, by rw [pp_lt z2, z3]⟩
  · have hj' : j < g.n + 1 := hj
    show llF g (ppF g j) ≠ none
    by_cases q : j = g.n
    · rw [q, pp_n, ll_now]
      simp
    · rw [pp_lt (by omega)]
      have h3 := iv.some h0 (by omega : j < g.n)
      have h4 := iv.par (by omega : j < g.n)
      by_cases q2 : g.par j = g.now
      · rw [q2, ll_now]; simp
      · rw [ll_ne (by omega) q2]; exact h3
  · show llF g (ppF g c) = some c
    have hc' : an (ppF g) c g.n = true := hc
    rw [an_ppn iv] at hc'
    simp only [Bool.or_eq_true, beq_iff_eq] at hc'
    rcases hc' with q | q
    · rw [← q, pp_n, ll_now]
    · have hle := an_le iv.tr q
      have := iv.tr.2 c h0
      rw [pp_lt (by omega), ll_ne (by omega) (by omega)]
      exact iv.path h0 q
theorem inv_up {g : Sg} (iv : Inv g) {a : Nat} (ha : an g.par a g.now = true) : Inv (stNow g a) := by
  have h1 := an_le iv.tr ha
  have h2 := iv.now
  obtain ⟨⟨a1, a2, a3, a4⟩, b, c, d, e1, e2, e3, e4, e5, e6⟩ := iv
  exact ⟨⟨a1, a2, by show a < g.n; omega, a4⟩, b, c, d, e1, e2, e3, e4, e5, fun c h0 hc => e6 c h0 (an_tr b hc ha)⟩
/-- one step on by the pointer -/
theorem inv_dn {g : Sg} (iv : Inv g) {a : Nat} (ha : g.last g.now = some a) : Inv (stNow g a) := by
  have h2 := iv.now
  obtain ⟨z1, z2, z3⟩ := iv.last h2 ha
  obtain ⟨⟨a1, a2, a3, a4⟩, b, c, d, e1, e2, e3, e4, e5, e6⟩ := iv
  refine ⟨⟨a1, a2, z2, a4⟩, b, c, d, e1, e2, e3, e4, e5, fun c h0 hc => ?_⟩
  have hc' : an g.par c a = true := hc
  show g.last (g.par c) = some c
  rw [an_up b c z1] at hc'
  simp only [Bool.or_eq_true, beq_iff_eq] at hc'
  rcases hc' with q | q
  · rw [← q, z3]; exact ha
  · rw [z3] at q
    exact e6 c h0 q
theorem inv_go {g : Sg} (iv : Inv g) {a : Nat} (ha : a < g.n) : Inv (stGo g a) := by
  have hp := ptF_at iv.tr a a g.last (Nat.le_refl _)
  have hpt : ∀ i, (∃ c, 0 < c ∧ an g.par c a = true ∧ g.par c = i ∧ ptF g.par a a g.last i = some c) ∨ ptF g.par a a g.last i = g.last i := by
    intro i
    by_cases h : ∃ c, 0 < c ∧ an g.par c a = true ∧ g.par c = i
    · obtain ⟨c, h1, h2, h3⟩ := h
      exact Or.inl ⟨c, h1, h2, h3, by rw [← h3]; exact hp.1 c h1 h2⟩
    · exact Or.inr (hp.2 i (fun c h1 h2 h3 => h ⟨c, h1, h2, h3⟩))
  have iv0 := iv
  obtain ⟨⟨a1, a2, a3, a4⟩, b, c, d, e1, e2, e3, e4, e5, e6⟩ := iv
  refine ⟨⟨a1, a2, ha, a4⟩, b, c, d, e1, e2, e3, fun i j hi hl => ?_, fun j h0 hj => ?_, fun c h0 hc => hp.1 c h0 hc⟩
  · have hl' : ptF g.par a a g.last i = some j := hl
    show 0 < j ∧ j < g.n ∧ g.par j = i
    rcases hpt i with ⟨c, h1, h2, h3, h4⟩ | h4
    · rw [h4] at hl'
      cases hl'
      have := an_le b h2
      exact ⟨h1, by omega, h3⟩
    · rw [h4] at hl'
      exact e4 i j hi hl'
  · show ptF g.par a a g.last (g.par j) ≠ none
    rcases hpt (g.par j) with ⟨c, h1, h2, h3, h4⟩ | h4
    · rw [h4]; simp
    · rw [h4]; exact e5 j h0 hj
