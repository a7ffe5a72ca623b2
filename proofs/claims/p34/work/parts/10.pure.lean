/-! ===== the mathematical state: evenings, their tree, how cat and pieces are in each ===== -/
/-- n evenings, the one of now, np pieces; on which each hangs; kind and number of its paw; its depth; where doing again goes; the cat's place; the pieces' places; which lie (bits) -/
abbrev Sg : Type := Nat × Nat × Nat × (Nat → Nat) × (Nat → Int32) × (Nat → Int32) × (Nat → Nat) × (Nat → Option Nat) × (Nat → Nat) × (Nat → Nat → Nat) × (Nat → Nat)
abbrev Sg.n (g : Sg) : Nat := g.1
abbrev Sg.now (g : Sg) : Nat := g.2.1
abbrev Sg.np (g : Sg) : Nat := g.2.2.1
abbrev Sg.par (g : Sg) : Nat → Nat := g.2.2.2.1
abbrev Sg.kd (g : Sg) : Nat → Int32 := g.2.2.2.2.1
abbrev Sg.nm (g : Sg) : Nat → Int32 := g.2.2.2.2.2.1
abbrev Sg.dp (g : Sg) : Nat → Nat := g.2.2.2.2.2.2.1
abbrev Sg.last (g : Sg) : Nat → Option Nat := g.2.2.2.2.2.2.2.1
abbrev Sg.ct (g : Sg) : Nat → Nat := g.2.2.2.2.2.2.2.2.1
abbrev Sg.pos (g : Sg) : Nat → Nat → Nat := g.2.2.2.2.2.2.2.2.2.1
abbrev Sg.lb (g : Sg) : Nat → Nat := g.2.2.2.2.2.2.2.2.2.2
def uN (f : Nat → Nat) (k v : Nat) : Nat → Nat := fun j => if j = k then v else f j
def uO (f : Nat → Option Nat) (k : Nat) (v : Option Nat) : Nat → Option Nat := fun j => if j = k then v else f j
def uF (f : Nat → Nat → Nat) (k : Nat) (v : Nat → Nat) : Nat → Nat → Nat := fun j => if j = k then v else f j
def uI (f : Nat → Int32) (k : Nat) (v : Int32) : Nat → Int32 := fun j => if j = k then v else f j
/-! the tree -/
def Tr (par : Nat → Nat) : Prop := par 0 = 0 ∧ ∀ k, 0 < k → par k < k
def anc (par : Nat → Nat) (i : Nat) : Nat → Nat → Bool
  | 0, k => k == i
  | f + 1, k => k == i || (decide (0 < k) && anc par i f (par k))
/-- k is i, or hangs on it, at once or over others -/
def an (par : Nat → Nat) (i k : Nat) : Bool := anc par i k k
theorem anc_0 (par : Nat → Nat) (i f : Nat) : anc par i f 0 = (0 == i) := by
  cases f <;> simp [anc]
theorem anc_fuel {par : Nat → Nat} (ht : Tr par) (i : Nat) : ∀ (f k : Nat), k ≤ f → anc par i f k = anc par i k k := by
  intro f
  induction f using Nat.strongRecOn with
  | ind f ih =>
    intro k hk
    cases k with
    | zero => rw [anc_0, anc_0]
    | succ k =>
      cases f with
      | zero => omega
      | succ f =>
        have hp := ht.2 (k + 1) (by omega)
        have e1 : anc par i f (par (k + 1)) = anc par i (par (k + 1)) (par (k + 1)) := ih f (by omega) _ (by omega)
        have e2 : anc par i k (par (k + 1)) = anc par i (par (k + 1)) (par (k + 1)) := ih k (by omega) _ (by omega)
        simp only [anc, e1, e2]
theorem an_0 (par : Nat → Nat) (i : Nat) : an par i 0 = (0 == i) := anc_0 par i 0
theorem an_up {par : Nat → Nat} (ht : Tr par) (i : Nat) {k : Nat} (hk : 0 < k) : an par i k = (k == i || an par i (par k)) := by
  cases k with
  | zero => omega
  | succ k =>
    have hp := ht.2 (k + 1) (by omega)
    have e2 : anc par i k (par (k + 1)) = anc par i (par (k + 1)) (par (k + 1)) := anc_fuel ht i k _ (by omega)
    simp [an, anc, e2]
theorem an_rf (par : Nat → Nat) (i : Nat) : an par i i = true := by
  cases i <;> simp [an, anc]
theorem an_le {par : Nat → Nat} (ht : Tr par) {i : Nat} : ∀ {k : Nat}, an par i k = true → i ≤ k := by
  intro k
  induction k using Nat.strongRecOn with
  | ind k ih =>
    intro h
    rcases Nat.eq_zero_or_pos k with h0 | h0
    · subst h0
      rw [an_0] at h
      have : 0 = i := by simpa using h
      omega
    · rw [an_up ht i h0] at h
      have hp := ht.2 k h0
      simp only [Bool.or_eq_true, beq_iff_eq] at h
      rcases h with h | h
      · omega
      · have := ih _ hp h
        omega
theorem an_tr {par : Nat → Nat} (ht : Tr par) {i j : Nat} (h1 : an par i j = true) : ∀ {k : Nat}, an par j k = true → an par i k = true := by
  intro k
  induction k using Nat.strongRecOn with
  | ind k ih =>
    intro h
    rcases Nat.eq_zero_or_pos k with h0 | h0
    · subst h0
      rw [an_0] at h
      have : 0 = j := by simpa using h
      subst this
      exact h1
    · rw [an_up ht j h0] at h
      simp only [Bool.or_eq_true, beq_iff_eq] at h
      rcases h with h | h
      · subst h; exact h1
      · rw [an_up ht i h0, ih _ (ht.2 k h0) h, Bool.or_true]
/-- of two on one way up, the lower number is above -/
theorem an_lin {par : Nat → Nat} (ht : Tr par) {i j : Nat} (hij : i ≤ j) : ∀ {k : Nat}, an par i k = true → an par j k = true → an par i j = true := by
  intro k
  induction k using Nat.strongRecOn with
  | ind k ih =>
    intro h1 h2
    rcases Nat.eq_zero_or_pos k with h0 | h0
    · subst h0
      rw [an_0] at h2
      have : 0 = j := by simpa using h2
      have hi : i = j := by omega
      rw [hi]
      exact an_rf par j
    · have h1' := h1
      rw [an_up ht i h0] at h1
      rw [an_up ht j h0] at h2
      simp only [Bool.or_eq_true, beq_iff_eq] at h1 h2
      rcases h2 with h2 | h2
      · subst h2; exact h1'
      · rcases h1 with h1 | h1
        · have := an_le ht h2
          have := ht.2 k h0
          omega
        · exact ih _ (ht.2 k h0) h1 h2
theorem an_root {par : Nat → Nat} (ht : Tr par) : ∀ (k : Nat), an par 0 k = true := by
  intro k
  induction k using Nat.strongRecOn with
  | ind k ih =>
    rcases Nat.eq_zero_or_pos k with h0 | h0
    · subst h0; exact an_rf par 0
    · rw [an_up ht 0 h0, ih _ (ht.2 k h0), Bool.or_true]
/-- strictly above k: above what k hangs on -/
theorem an_ne {par : Nat → Nat} (ht : Tr par) {i k : Nat} (h : an par i k = true) (hne : i ≠ k) : an par i (par k) = true := by
  rcases Nat.eq_zero_or_pos k with h0 | h0
  · subst h0
    rw [an_0] at h
    exact absurd (by simpa using h : 0 = i).symm hne
  · rw [an_up ht i h0] at h
    simp only [Bool.or_eq_true, beq_iff_eq] at h
    exact h.resolve_left (fun z => hne z.symm)
theorem an_par {par : Nat → Nat} (ht : Tr par) (k : Nat) : an par (par k) k = true := by
  rcases Nat.eq_zero_or_pos k with h0 | h0
  · subst h0; rw [ht.1]; exact an_rf par 0
  · rw [an_up ht _ h0, an_rf, Bool.or_true]
/-- m is where the ways up of a and b meet -/
def mt (par : Nat → Nat) (a b m : Nat) : Prop := ∀ c, an par c m = true ↔ (an par c a = true ∧ an par c b = true)
theorem mt_one {par : Nat → Nat} (ht : Tr par) {a b m m2 : Nat} (h1 : mt par a b m) (h2 : mt par a b m2) : m = m2 := by
  have e1 := an_le ht ((h2 m).mpr ((h1 m).mp (an_rf par m)))
  have e2 := an_le ht ((h1 m2).mpr ((h2 m2).mp (an_rf par m2)))
  omega
theorem mt_self (par : Nat → Nat) (a : Nat) : mt par a a a := fun c => ⟨fun h => ⟨h, h⟩, fun h => h.1⟩
theorem mt_sym {par : Nat → Nat} {a b m : Nat} (h : mt par a b m) : mt par b a m := fun c => (h c).trans And.comm
/-- a is no way up of b: a may go up -/
theorem mt_up {par : Nat → Nat} (ht : Tr par) {a b m : Nat} (hn : an par a b = false) (h : mt par (par a) b m) : mt par a b m := by
  intro c
  rw [h c]
  constructor
  · intro q
    exact ⟨an_tr ht q.1 (an_par ht a), q.2⟩
  · intro q
    refine ⟨an_ne ht q.1 (fun z => ?_), q.2⟩
    subst z
    rw [hn] at q
    exact absurd q.2 (by decide)
def lcaF (par : Nat → Nat) : Nat → Nat → Nat → Nat
  | 0, a, _ => a
  | f + 1, a, b => if a = b then a else if b < a then lcaF par f (par a) b else lcaF par f a (par b)
def lc (par : Nat → Nat) (a b : Nat) : Nat := lcaF par (a + b) a b
theorem lcaF_mt {par : Nat → Nat} (ht : Tr par) : ∀ (f a b : Nat), a + b ≤ f → mt par a b (lcaF par f a b) := by
  intro f
  induction f with
  | zero =>
    intro a b h
    have ha : a = 0 := by omega
    have hb : b = 0 := by omega
    subst ha; subst hb
    exact mt_self par 0
  | succ f ih =>
    intro a b h
    by_cases hab : a = b
    · subst hab
      simp only [lcaF, if_true]
      exact mt_self par a
    · by_cases hlt : b < a
      · have hp := ht.2 a (by omega)
        simp only [lcaF, if_neg hab, if_pos hlt]
        refine mt_up ht ?_ (ih _ _ (by omega))
        cases hz : an par a b with
        | false => rfl
        | true =>
          have := an_le ht hz
          omega
      · have hp := ht.2 b (by omega)
        simp only [lcaF, if_neg hab, if_neg hlt]
        refine mt_sym (mt_up ht ?_ (mt_sym (ih _ _ (by omega))))
        cases hz : an par b a with
        | false => rfl
        | true =>
          have := an_le ht hz
          omega
theorem lc_mt {par : Nat → Nat} (ht : Tr par) (a b : Nat) : mt par a b (lc par a b) := lcaF_mt ht _ _ _ (Nat.le_refl _)
theorem lc_of {par : Nat → Nat} (ht : Tr par) {a b m : Nat} (h : mt par a b m) : lc par a b = m := mt_one ht (lc_mt ht a b) h
theorem lc_le {par : Nat → Nat} (ht : Tr par) (a b : Nat) : lc par a b ≤ a ∧ lc par a b ≤ b := by
  have h := ((lc_mt ht a b) _).mp (an_rf par _)
  exact ⟨an_le ht h.1, an_le ht h.2⟩
theorem lc_an {par : Nat → Nat} (ht : Tr par) (a b : Nat) : an par (lc par a b) a = true ∧ an par (lc par a b) b = true := ((lc_mt ht a b) _).mp (an_rf par _)
theorem lc_iff {par : Nat → Nat} (ht : Tr par) {e k : Nat} : lc par k e = e ↔ an par e k = true := by
  constructor
  · intro h
    have := (lc_an ht k e).1
    rw [h] at this
    exact this
  · intro h
    exact lc_of ht (fun c => ⟨fun q => ⟨an_tr ht q h, q⟩, fun q => q.2⟩)
/-! depths -/
def Dp (par dp : Nat → Nat) : Prop := dp 0 = 0 ∧ ∀ k, 0 < k → dp k = dp (par k) + 1
theorem dp_le {par dp : Nat → Nat} (ht : Tr par) (hd : Dp par dp) : ∀ (k : Nat), dp k ≤ k := by
  intro k
  induction k using Nat.strongRecOn with
  | ind k ih =>
    rcases Nat.eq_zero_or_pos k with h0 | h0
    · subst h0; rw [hd.1]; exact Nat.le_refl 0
    · have := ih _ (ht.2 k h0)
      have := ht.2 k h0
      have := hd.2 k h0
      omega
theorem dp_an {par dp : Nat → Nat} (ht : Tr par) (hd : Dp par dp) {i : Nat} : ∀ {k : Nat}, an par i k = true → i = k ∨ dp i < dp k := by
  intro k
  induction k using Nat.strongRecOn with
  | ind k ih =>
    intro h
    by_cases hik : i = k
    · exact Or.inl hik
    · have h2 := an_ne ht h hik
      have h0 : 0 < k := by
        have := an_le ht h
        omega
      have e := hd.2 k h0
      rcases ih _ (ht.2 k h0) h2 with q | q
      · rw [q]; omega
      · omega
theorem dp_0 {par dp : Nat → Nat} (hd : Dp par dp) {k : Nat} (h : dp k = 0) : k = 0 := by
  rcases Nat.eq_zero_or_pos k with h0 | h0
  · exact h0
  · have := hd.2 k h0
    omega
/-- m up from k -/
def upN (par : Nat → Nat) : Nat → Nat → Nat
  | 0, k => k
  | m + 1, k => upN par m (par k)
theorem up_s (par : Nat → Nat) : ∀ (m k : Nat), upN par (m + 1) k = par (upN par m k) := by
  intro m
  induction m with
  | zero => intro k; rfl
  | succ m ih => intro k; exact ih (par k)
theorem up_le {par : Nat → Nat} (ht : Tr par) : ∀ (m k : Nat), upN par m k ≤ k := by
  intro m
  induction m with
  | zero => intro k; exact Nat.le_refl k
  | succ m ih =>
    intro k
    have h1 := ih (par k)
    rcases Nat.eq_zero_or_pos k with h0 | h0
    · subst h0
      have := ht.1
      rw [this] at h1
      show upN par m (par 0) ≤ 0
      rw [this]
      exact h1
    · have := ht.2 k h0
      show upN par m (par k) ≤ k
      omega
theorem up_an {par : Nat → Nat} (ht : Tr par) : ∀ (m k : Nat), an par (upN par m k) k = true := by
  intro m
  induction m with
  | zero => intro k; exact an_rf par k
  | succ m ih => intro k; exact an_tr ht (ih (par k)) (an_par ht k)
theorem up_dp {par dp : Nat → Nat} (hd : Dp par dp) : ∀ (m k : Nat), m ≤ dp k → dp (upN par m k) = dp k - m := by
  intro m
  induction m with
  | zero => intro k _; rfl
  | succ m ih =>
    intro k h
    have h0 : 0 < k := by
      rcases Nat.eq_zero_or_pos k with h0 | h0
      · subst h0; rw [hd.1] at h; omega
      · exact h0
    have e := hd.2 k h0
    have := ih (par k) (by omega)
    show dp (upN par m (par k)) = _
    omega
/-! counts over the evenings below n -/
def cnt (P : Nat → Bool) : Nat → Nat
  | 0 => 0
  | k + 1 => cnt P k + (if P k then 1 else 0)
theorem cnt_le (P : Nat → Bool) : ∀ n, cnt P n ≤ n := by
  intro n
  induction n with
  | zero => exact Nat.le_refl 0
  | succ n ih =>
    simp only [cnt]
    split <;> omega
theorem cnt_congr {P Q : Nat → Bool} : ∀ {n : Nat}, (∀ k, k < n → P k = Q k) → cnt P n = cnt Q n := by
  intro n
  induction n with
  | zero => intro _; rfl
  | succ n ih =>
    intro h
    simp only [cnt]
    rw [ih (fun k hk => h k (by omega)), h n (by omega)]
theorem cnt_0 {P : Nat → Bool} : ∀ {n : Nat}, cnt P n = 0 ↔ ∀ k, k < n → P k = false := by
  intro n
  induction n with
  | zero => exact ⟨fun _ k hk => absurd hk (Nat.not_lt_zero k), fun _ => rfl⟩
  | succ n ih =>
    simp only [cnt]
    constructor
    · intro h k hk
      have h1 : cnt P n = 0 := by omega
      rcases Nat.lt_or_ge k n with q | q
      · exact ih.mp h1 k q
      · have : k = n := by omega
        subst this
        cases hz : P k with
        | false => rfl
        | true => rw [hz] at h; simp at h
    · intro h
      rw [ih.mpr (fun k hk => h k (by omega)), h n (by omega)]
      rfl
def isCh (par : Nat → Nat) (i k : Nat) : Bool := decide (0 < k) && (par k == i)
def isDs (par : Nat → Nat) (i k : Nat) : Bool := decide (i < k) && an par i k
def chN (par : Nat → Nat) (n i : Nat) : Nat := cnt (isCh par i) n
def dsN (par : Nat → Nat) (n i : Nat) : Nat := cnt (isDs par i) n
/-! where doing again goes -/
def ptF (par : Nat → Nat) : Nat → Nat → (Nat → Option Nat) → (Nat → Option Nat)
  | 0, _, L => L
  | f + 1, e, L => if e = 0 then L else ptF par f (par e) (uO L (par e) (some e))
def reF (L : Nat → Option Nat) : Nat → Nat → Option Nat
  | 0, a => some a
  | m + 1, a => match L a with
    | none => none
    | some b => reF L m b
theorem ptF_fuel {par : Nat → Nat} (ht : Tr par) : ∀ (f f2 e : Nat) (L : Nat → Option Nat), e ≤ f → e ≤ f2 → ptF par f e L = ptF par f2 e L := by
  intro f
  induction f with
  | zero =>
    intro f2 e L h1 h2
    have : e = 0 := by omega
    subst this
    cases f2 with
    | zero => rfl
    | succ f2 => rfl
  | succ f ih =>
    intro f2 e L h1 h2
    cases f2 with
    | zero =>
      have : e = 0 := by omega
      subst this
      rfl
    | succ f2 =>
      simp only [ptF]
      by_cases h0 : e = 0
      · rw [if_pos h0, if_pos h0]
      · have hp := ht.2 e (by omega)
        rw [if_neg h0, if_neg h0]
        exact ih f2 _ _ (by omega) (by omega)
/-- the pointers along e's way up are set: nothing changes -/
theorem ptF_id {par : Nat → Nat} (ht : Tr par) : ∀ (f e : Nat) (L : Nat → Option Nat), (∀ c, 0 < c → an par c e = true → L (par c) = some c) → ptF par f e L = L := by
  intro f
  induction f with
  | zero => intro e L _; rfl
  | succ f ih =>
    intro e L h
    simp only [ptF]
    by_cases h0 : e = 0
    · rw [if_pos h0]
    · rw [if_neg h0]
      have e1 : uO L (par e) (some e) = L := by
        funext j
        unfold uO
        by_cases hj : j = par e
        · rw [if_pos hj, hj, h e (by omega) (an_rf par e)]
        · rw [if_neg hj]
      rw [e1]
      exact ih _ L (fun c hc hca => h c hc (an_tr ht hca (an_par ht e)))
/-- what the pointers are behind it: along the way up set, else as before -/
theorem ptF_at {par : Nat → Nat} (ht : Tr par) : ∀ (f e : Nat) (L : Nat → Option Nat), e ≤ f → (∀ c, 0 < c → an par c e = true → ptF par f e L (par c) = some c) ∧ (∀ i, (∀ c, 0 < c → an par c e = true → par c ≠ i) → ptF par f e L i = L i) := by
  intro f
  induction f with
  | zero =>
    intro e L h
    have : e = 0 := by omega
    subst this
    refine ⟨fun c hc hca => ?_, fun i _ => rfl⟩
    have := an_le ht hca
    omega
  | succ f ih =>
    intro e L h
    simp only [ptF]
    by_cases h0 : e = 0
    · subst h0
      simp only [if_true]
      refine ⟨fun c hc hca => ?_, fun _ _ => trivial⟩
      have := an_le ht hca
      omega
    · rw [if_neg h0]
      have hp := ht.2 e (by omega)
      obtain ⟨i1, i2⟩ := ih (par e) (uO L (par e) (some e)) (by omega)
      refine ⟨fun c hc hca => ?_, fun i hi => ?_⟩
      · by_cases hce : c = e
        · subst hce
          rw [i2 (par c) (fun c2 h2 h3 => ?_)]
          · simp [uO]
          · have := an_le ht h3
            have := ht.2 c2 h2
            omega
        · exact i1 c hc (an_ne ht hca hce)
      · rw [i2 i (fun c2 h2 h3 => hi c2 h2 (an_tr ht h3 (an_par ht e)))]
        have : i ≠ par e := fun z => hi e (by omega) (an_rf par e) z.symm
        simp [uO, this]
/-! places -/
/-- one farther in a heading -/
def fa (p d : Nat) : Option Nat :=
  let c : Int := (p / 8 : Nat) + (colS d).toInt
  let r : Int := (p % 8 : Nat) + (rowS d).toInt
  if 0 ≤ c ∧ c < 8 ∧ 0 ≤ r ∧ r < 8 then some (8 * c.toNat + r.toNat) else none
def bes (a b : Nat) : Bool := decide (a / 8 ≤ b / 8 + 1 ∧ b / 8 ≤ a / 8 + 1 ∧ a % 8 ≤ b % 8 + 1 ∧ b % 8 ≤ a % 8 + 1)
theorem fa_lt {p d q : Nat} (h : fa p d = some q) : q < 64 := by
  unfold fa at h
  simp only at h
  split at h
  · cases h
    omega
  · cases h
/-- the first place from i on, among d, that holds v -/
def pon (f : Nat → Nat) (v : Nat) : Nat → Nat → Option Nat
  | 0, _ => none
  | d + 1, i => if f i = v then some i else pon f v d (i + 1)
theorem pon_lt {f : Nat → Nat} {v : Nat} : ∀ {d i q : Nat}, pon f v d i = some q → i ≤ q ∧ q < i + d ∧ f q = v := by
  intro d
  induction d with
  | zero => intro i q h; cases h
  | succ d ih =>
    intro i q h
    simp only [pon] at h
    split at h
    · cases h
      exact ⟨by omega, by omega, by assumption⟩
    · obtain ⟨h1, h2, h3⟩ := ih h
      exact ⟨by omega, by omega, h3⟩
theorem pon_congr {f g : Nat → Nat} {v : Nat} : ∀ {d i : Nat}, (∀ q, i ≤ q → q < i + d → f q = g q) → pon f v d i = pon g v d i := by
  intro d
  induction d with
  | zero => intro i _; rfl
  | succ d ih =>
    intro i h
    simp only [pon]
    rw [h i (by omega) (by omega), ih (fun q h1 h2 => h q (by omega) (by omega))]
def nxt (np ct : Nat) (pos : Nat → Nat) (lb k v : Nat) : Option (Nat × (Nat → Nat) × Nat) :=
  if k = 0 then (match fa ct v with
    | none => none
    | some c => some (c, pos, lb))
  else if k = 1 then (if v < np ∧ lb.testBit v = false ∧ bes ct (pos v) = true then some (ct, pos, lb ||| 2 ^ v) else none)
  else if k = 2 then (if v < np ∧ lb.testBit v = true ∧ bes ct (pos v) = true then some (ct, pos, lb ^^^ 2 ^ v) else none)
  else (match fa ct v with
    | none => none
    | some a => match pon pos a np 0 with
      | none => none
      | some q => if lb.testBit q = true then none else match fa a v with
        | none => none
        | some b => match pon pos b np 0 with
          | none => some (a, uN pos q b, lb)
          | some _ => none)
/-- what holds of the state at all times -/
def Inv (g : Sg) : Prop :=
  (1 ≤ g.n ∧ g.n ≤ 60 ∧ g.now < g.n ∧ g.np ≤ 16) ∧ Tr g.par ∧ Dp g.par g.dp ∧ (g.kd 0 = -1 ∧ g.nm 0 = -1) ∧
  (∀ i, i < g.n → g.ct i < 64) ∧ (∀ i p, i < g.n → p < g.np → g.pos i p < 64) ∧ (∀ i, i < g.n → g.lb i < 2 ^ g.np) ∧
  (∀ i j, i < g.n → g.last i = some j → 0 < j ∧ j < g.n ∧ g.par j = i) ∧ (∀ j, 0 < j → j < g.n → g.last (g.par j) ≠ none) ∧
  (∀ c, 0 < c → an g.par c g.now = true → g.last (g.par c) = some c)
