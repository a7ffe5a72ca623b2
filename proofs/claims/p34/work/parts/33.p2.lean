/-! ===== what the law says, of the state ===== -/
theorem cnt_mono {P Q : Nat → Bool} : ∀ {n : Nat}, (∀ k, k < n → P k = true → Q k = true) → cnt P n ≤ cnt Q n := by
  intro n
  induction n with
  | zero => intro _; exact Nat.le_refl 0
  | succ n ih =>
    intro h
    have h1 := ih (fun k hk => h k (by omega))
    have h2 := h n (Nat.lt_succ_self n)
    simp only [cnt]
    cases hp : P n with
    | false => simp; omega
    | true => rw [h2 hp]; simp; omega
/-- one more -/
theorem cnt_one {P Q : Nat → Bool} {v : Nat} : ∀ {n : Nat}, v < n → P v = false → Q v = true → (∀ k, k < n → k ≠ v → P k = Q k) → cnt Q n = cnt P n + 1 := by
  intro n
  induction n with
  | zero => intro h; omega
  | succ n ih =>
    intro hv h1 h2 h3
    simp only [cnt]
    by_cases c : v = n
    · subst c
      rw [h1, h2, cnt_congr (P := Q) (Q := P) (fun k hk => (h3 k (by omega) (by omega)).symm)]
      simp
    · rw [ih (by omega) h1 h2 (fun k hk => h3 k (by omega)), h3 n (Nat.lt_succ_self n) (fun z => c z.symm)]
      omega
theorem cnt_no {P : Nat → Bool} {n : Nat} (h : ∀ k, k < n → P k = false) : cnt P n = 0 := cnt_0.mpr h
theorem cnt_at {P : Nat → Bool} {v n : Nat} (hv : v < n) (h1 : P v = true) (h2 : ∀ k, k < n → k ≠ v → P k = false) : cnt P n = 1 := by
  have := cnt_one (P := fun _ => false) (Q := P) hv rfl h1 (fun k hk hkv => (h2 k hk hkv).symm)
  rw [cnt_no (P := fun _ => false) (fun _ _ => rfl)] at this
  exact this
section PV
variable {g : Sg}
theorem ch_0 (iv : Inv g) {e : Nat} (he : e < g.n) : g.last e = none ↔ chN g.par g.n e = 0 := by
  constructor
  · intro h
    refine cnt_0.mpr (fun k hk => ?_)
    unfold isCh
    rcases Nat.eq_zero_or_pos k with q | q
    · subst q; rfl
    · cases hz : (g.par k == e) with
      | false => rw [Bool.and_false]
      | true =>
        have hp : g.par k = e := by simpa using hz
        have := iv.some q hk
        rw [hp] at this
        exact absurd h this
  · intro h
    cases hl : g.last e with
    | none => rfl
    | some j =>
      obtain ⟨z1, z2, z3⟩ := iv.last he hl
      have := cnt_0.mp h j z2
      unfold isCh at this
      rw [decide_eq_true z1, z3] at this
      simp at this
theorem ch_ds (iv : Inv g) (e : Nat) : chN g.par g.n e ≤ dsN g.par g.n e := by
  refine cnt_mono (fun k _ h => ?_)
  unfold isCh at h
  simp only [Bool.and_eq_true, decide_eq_true_eq, beq_iff_eq] at h
  have h2 := iv.tr.2 k h.1
  unfold isDs
  rw [decide_eq_true (by omega), Bool.true_and, ← h.2]
  exact an_par iv.tr k
theorem ly_le (g : Sg) (e : Nat) : lyN g e ≤ g.np := cnt_le _ _
theorem lk_rf (g : Sg) (e : Nat) : lkB g e e = true := decide_eq_true ⟨rfl, rfl, fun _ _ => rfl⟩
theorem lk_sym (g : Sg) (a b : Nat) : lkB g a b = lkB g b a := by
  unfold lkB aliB
  refine decide_eq_decide.mpr ⟨fun h => ⟨h.1.symm, h.2.1.symm, fun q hq => (h.2.2 q hq).symm⟩, fun h => ⟨h.1.symm, h.2.1.symm, fun q hq => (h.2.2 q hq).symm⟩⟩
theorem lc_sym (iv : Inv g) (a b : Nat) : lc g.par b a = lc g.par a b := lc_of iv.tr (mt_sym (lc_mt iv.tr a b))
theorem nxt_inj {np ct lb k v : Nat} {pos : Nat → Nat} {z : Nat × (Nat → Nat) × Nat} (h : nxt np ct pos lb k v = some z) (hi : ∀ p q, p < np → q < np → pos p = pos q → p = q) : ∀ p q, p < np → q < np → z.2.1 p = z.2.1 q → p = q := by
  unfold nxt at h
  split at h
  · split at h
    · cases h
    · cases h; exact hi
  · split at h
    · split at h
      · cases h; exact hi
      · cases h
    · split at h
      · split at h
        · cases h; exact hi
        · cases h
      · split at h
        · cases h
        · split at h
          · cases h
          · rename_i y hy
            split at h
            · cases h
            · split at h
              · cases h
              · rename_i b hb
                split at h
                · rename_i hn
                  cases h
                  have hne := pon_none_of hn
                  intro p q hp hq e
                  have e' : uN pos y b p = uN pos y b q := e
                  unfold uN at e'
                  by_cases c1 : p = y
                  · by_cases c2 : q = y
                    · rw [c1, c2]
                    · rw [if_pos c1, if_neg c2] at e'
                      exact absurd e'.symm (hne q (Nat.zero_le _) (by omega))
                  · by_cases c2 : q = y
                    · rw [if_neg c1, if_pos c2] at e'
                      exact absurd e' (hne p (Nat.zero_le _) (by omega))
                    · rw [if_neg c1, if_neg c2] at e'
                      exact hi p q hp hq e'
                · cases h
theorem pos_inj (iv : Inv g) (P : Pld g) : ∀ e, e < g.n → ∀ p q, p < g.np → q < g.np → g.pos e p = g.pos e q → p = q := by
  intro e
  induction e using Nat.strongRecOn with
  | ind e ih =>
    intro he
    rcases Nat.eq_zero_or_pos e with h0 | h0
    · subst h0; exact P.1.2.2
    · obtain ⟨k, w, -, -, -, -, -, hn⟩ := P.2 e h0 he
      exact nxt_inj hn (ih _ (iv.tr.2 e h0) (iv.par he))
/-- moved, turned, lying: what a paw does to them -/
theorem nxt_cnt {np ct lb k v : Nat} {pos : Nat → Nat} {z : Nat × (Nat → Nat) × Nat} (hk : k < 4) (h : nxt np ct pos lb k v = some z) : cnt (fun p => !decide (pos p = z.2.1 p)) np = (if k = 3 then 1 else 0) ∧ cnt (fun p => !(lb.testBit p == z.2.2.testBit p)) np = (if k = 1 ∨ k = 2 then 1 else 0) ∧ cnt (fun p => z.2.2.testBit p) np = (if k = 1 then cnt (fun p => lb.testBit p) np + 1 else if k = 2 then cnt (fun p => lb.testBit p) np - 1 else cnt (fun p => lb.testBit p) np) ∧ (k = 2 → 0 < cnt (fun p => lb.testBit p) np) := by
  have hs : ∀ f : Nat → Nat, cnt (fun p => !decide (f p = f p)) np = 0 := fun f => cnt_no (fun p _ => by simp)
  have ht : ∀ b : Nat, cnt (fun p => !(b.testBit p == b.testBit p)) np = 0 := fun b => cnt_no (fun p _ => by simp)
  unfold nxt at h
  have : k = 0 ∨ k = 1 ∨ k = 2 ∨ k = 3 := by omega
  rcases this with rfl | rfl | rfl | rfl
  · rw [if_pos rfl] at h
    split at h
    · cases h
    · cases h
      exact ⟨hs _, ht _, rfl, fun q => absurd q (by decide)⟩
  · rw [if_neg (by decide), if_pos rfl] at h
    split at h
    · rename_i hc
      cases h
      obtain ⟨h1, h2⟩ := tb_or (lb := lb) (v := v)
      refine ⟨hs _, ?_, ?_, fun q => absurd q (by decide)⟩
      · exact cnt_at hc.1 (by simp only [h1, hc.2.1]; rfl) (fun q _ hq => by simp [h2 q hq])
      · exact cnt_one hc.1 hc.2.1 h1 (fun q _ hq => (h2 q hq).symm)
    · cases h
  · rw [if_neg (by decide), if_neg (by decide), if_pos rfl] at h
    split at h
    · rename_i hc
      cases h
      obtain ⟨h1, h2⟩ := tb_xor hc.2.1
      have h3 := cnt_one (P := fun p => (lb ^^^ 2 ^ v).testBit p) (Q := fun p => lb.testBit p) hc.1 h1 hc.2.1 (fun q _ hq => h2 q hq)
      refine ⟨hs _, ?_, ?_, fun _ => by omega⟩
      · exact cnt_at hc.1 (by simp only [h1, hc.2.1]; rfl) (fun q _ hq => by simp [h2 q hq])
      · show _ = cnt (fun p => lb.testBit p) np - 1
        rw [h3]
        rfl
    · cases h
  · rw [if_neg (by decide), if_neg (by decide), if_neg (by decide)] at h
    split at h
    · cases h
    · rename_i a ha
      split at h
      · cases h
      · rename_i y hy
        split at h
        · cases h
        · split at h
          · cases h
          · rename_i b hb
            split at h
            · rename_i hn
              cases h
              obtain ⟨-, y2, y3⟩ := pon_lt hy
              have hne := pon_none_of hn y (Nat.zero_le _) (by omega)
              refine ⟨?_, ht _, rfl, fun q => absurd q (by decide)⟩
              refine cnt_at (v := y) (by omega) ?_ (fun q _ hq => ?_)
              · show (!decide (pos y = uN pos y b y)) = true
                unfold uN
                rw [if_pos rfl]
                simpa using hne
              · show (!decide (pos q = uN pos y b q)) = false
                unfold uN
                rw [if_neg hq]
                simp
            · cases h
/-- of an evening e: moved and turned pieces against the one on which it hangs, among the first i -/
def mvN (g : Sg) (e i : Nat) : Nat := cnt (fun p => !decide (g.pos (g.par e) p = g.pos e p)) i
def tnN (g : Sg) (e i : Nat) : Nat := cnt (fun p => !((g.lb (g.par e)).testBit p == (g.lb e).testBit p)) i
theorem paw_cnt (P : Pld g) {e : Nat} (h0 : 0 < e) (he : e < g.n) : ∃ k, k < 4 ∧ g.kd e = nI k ∧ mvN g e g.np = (if k = 3 then 1 else 0) ∧ tnN g e g.np = (if k = 1 ∨ k = 2 then 1 else 0) ∧ lyN g e = (if k = 1 then lyN g (g.par e) + 1 else if k = 2 then lyN g (g.par e) - 1 else lyN g (g.par e)) ∧ (k = 2 → 0 < lyN g (g.par e)) := by
  obtain ⟨k, w, hk, -, -, h1, -, hn⟩ := P.2 e h0 he
  obtain ⟨a, b, c, d⟩ := nxt_cnt hk hn
  exact ⟨k, hk, h1, a, b, c, d⟩
/-- a sum over the evenings below n -/
def sm (f : Nat → Nat) : Nat → Nat
  | 0 => 0
  | k + 1 => sm f k + f k
theorem sm_congr {f h : Nat → Nat} : ∀ {n : Nat}, (∀ k, k < n → f k = h k) → sm f n = sm h n := by
  intro n
  induction n with
  | zero => intro _; rfl
  | succ n ih =>
    intro q
    simp only [sm]
    rw [ih (fun k hk => q k (by omega)), q n (Nat.lt_succ_self n)]
theorem sm_add (f h : Nat → Nat) : ∀ (n : Nat), sm (fun k => f k + h k) n = sm f n + sm h n := by
  intro n
  induction n with
  | zero => rfl
  | succ n ih => simp only [sm]; rw [ih]; omega
theorem sm_one {v : Nat} : ∀ {n : Nat}, v < n → sm (fun k => if k = v then 1 else 0) n = 1 := by
  intro n
  induction n with
  | zero => intro h; omega
  | succ n ih =>
    intro h
    simp only [sm]
    by_cases c : v = n
    · subst c
      rw [if_pos rfl, sm_congr (h := fun _ => 0) (fun k hk => if_neg (by omega))]
      have : ∀ m, sm (fun _ => 0) m = 0 := by
        intro m
        induction m with
        | zero => rfl
        | succ m ih2 => simp only [sm]; rw [ih2]
      rw [this]
    · rw [ih (by omega), if_neg (fun z => c z.symm)]
theorem ch_sum (iv : Inv g) : ∀ m, m ≤ g.n → sm (fun e => cnt (isCh g.par e) m) g.n = m - 1 := by
  intro m
  induction m with
  | zero =>
    intro _
    have : ∀ n, sm (fun _ => 0) n = 0 := by
      intro n
      induction n with
      | zero => rfl
      | succ n ih2 => simp only [sm]; rw [ih2]
    exact this g.n
  | succ m ih =>
    intro hm
    have h1 := ih (by omega)
    rcases Nat.eq_zero_or_pos m with q | q
    · subst q
      rw [sm_congr (h := fun e => cnt (isCh g.par e) 0) (fun e _ => by simp [cnt, isCh])]
      exact h1
    · have hp := iv.par (show m < g.n by omega)
      rw [sm_congr (h := fun e => cnt (isCh g.par e) m + (if e = g.par m then 1 else 0)) (fun e _ => by
        simp only [cnt]
        congr 1
        unfold isCh
        rw [decide_eq_true q, Bool.true_and]
        by_cases c : e = g.par m
        · rw [if_pos c, c]; simp
        · rw [if_neg c, if_neg (fun z => c (by simpa using z : g.par m = e).symm)]), sm_add, h1, sm_one hp]
      omega
theorem ch_all (iv : Inv g) : sm (fun e => chN g.par g.n e) g.n = g.n - 1 := ch_sum iv g.n (Nat.le_refl _)
theorem sm_le {f : Nat → Nat} {N : Nat} : ∀ {n : Nat}, (∀ k, k < n → f k ≤ N) → sm f n ≤ n * N := by
  intro n
  induction n with
  | zero => intro _; simp [sm]
  | succ n ih =>
    intro h
    have h1 := ih (fun k hk => h k (by omega))
    have h2 := h n (Nat.lt_succ_self n)
    simp only [sm]
    rw [Nat.succ_mul]
    omega
theorem en_ch (iv : Inv g) : cnt (fun e => decide (chN g.par g.n e = 0)) g.n = enN g := by
  refine cnt_congr (fun e he => ?_)
  have := ch_0 iv he
  unfold enB
  cases hl : g.last e with
  | none => exact decide_eq_true (this.mp hl)
  | some j => exact decide_eq_false (fun z => by rw [this.mpr z] at hl; cases hl)
theorem sib_2 (iv : Inv g) {a b : Nat} (ha : 0 < a) (hb : 0 < b) (h : g.par a = g.par b) (h1 : lc g.par a b ≠ a) (h2 : lc g.par a b ≠ b) : wy g a b = 2 := by
  have hT := iv.tr
  have hl := lc_an hT a b
  have e1 := an_le hT (an_ne hT hl.1 h1)
  have e2 := an_le hT (((lc_mt hT a b) (g.par a)).mpr ⟨an_par hT a, by rw [h]; exact an_par hT b⟩)
  have e3 : lc g.par a b = g.par a := by omega
  have d1 := iv.dp.2 a ha
  have d2 := iv.dp.2 b hb
  unfold wy
  rw [e3]
  rw [← h] at d2
  omega
theorem com_le (iv : Inv g) {a b e : Nat} (h1 : an g.par e a = true) (h2 : an g.par e b = true) : e ≤ lc g.par a b := an_le iv.tr (((lc_mt iv.tr a b) e).mpr ⟨h1, h2⟩)
theorem re_up (iv : Inv g) : ∀ m, m ≤ g.dp g.now → reF g.last m (upN g.par m g.now) = some g.now := by
  intro m
  induction m with
  | zero => intro _; rfl
  | succ m ih =>
    intro h
    have h1 := ih (by omega)
    have h2 := up_dp iv.dp m g.now (by omega)
    have h3 : 0 < upN g.par m g.now := by
      rcases Nat.eq_zero_or_pos (upN g.par m g.now) with y | y
      · rw [y, iv.dp.1] at h2; omega
      · exact y
    rw [up_s]
    show (match g.last (g.par (upN g.par m g.now)) with
      | none => none
      | some b => reF g.last m b) = some g.now
    rw [iv.path h3 (up_an iv.tr m g.now)]
    exact h1
theorem go_path (iv : Inv g) {to c : Nat} (h0 : 0 < c) (hc : an g.par c to = true) : (stGo g to).last (g.par c) = some c := (ptF_at iv.tr to to g.last (Nat.le_refl _)).1 c h0 hc
end PV
