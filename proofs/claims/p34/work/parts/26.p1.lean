/-! ===== the property's own words: what was played, when each evening was entered last ===== -/
/-- another evening of now, other pointers -/
def stM (g : Sg) (a : Nat) (L : Nat → Option Nat) : Sg := (g.n, a, g.np, g.par, g.kd, g.nm, g.dp, L, g.ct, g.pos, g.lb)
theorem stM_now (g : Sg) (a : Nat) : stM g a g.last = stNow g a := rfl
theorem stM_go (g : Sg) (a : Nat) : stM g a (ptF g.par a a g.last) = stGo g a := rfl
theorem stM_M (g : Sg) (a b : Nat) (L M : Nat → Option Nat) : stM (stM g a L) b M = stM g b M := rfl
/-- each evening is what its paw makes of the one on which it hangs -/
def Pld (g : Sg) : Prop := (g.ct 0 = 0 ∧ g.lb 0 = 0 ∧ ∀ p q, p < g.np → q < g.np → g.pos 0 p = g.pos 0 q → p = q) ∧ ∀ e, 0 < e → e < g.n → ∃ k w, k < 4 ∧ w < 16 ∧ (k = 0 ∨ k = 3 → w < 8) ∧ g.kd e = nI k ∧ g.nm e = nI w ∧ nxt g.np (g.ct (g.par e)) (g.pos (g.par e)) (g.lb (g.par e)) k w = some (g.ct e, g.pos e, g.lb e)
theorem pld_M {g : Sg} (h : Pld g) (a : Nat) (L : Nat → Option Nat) : Pld (stM g a L) := h
theorem pld_0 : Pld st0 := ⟨⟨rfl, rfl, fun p q hp => absurd hp (Nat.not_lt_zero p)⟩, fun e h0 h1 => by
  have : e < 1 := h1
  omega⟩
theorem pon_none_of {f : Nat → Nat} {v : Nat} : ∀ {d i : Nat}, pon f v d i = none → ∀ q, i ≤ q → q < i + d → f q ≠ v := by
  intro d
  induction d with
  | zero => intro i _ q h1 h2; omega
  | succ d ih =>
    intro i h q h1 h2
    simp only [pon] at h
    split at h
    · cases h
    · rename_i hne
      rcases Nat.eq_or_lt_of_le h1 with z | z
      · rw [← z]; exact hne
      · exact ih h q z (by omega)
theorem pld_set {g : Sg} (h : Pld g) (iv : Inv g) (hn : g.n = 1) {w : Nat} (hw : pon (g.pos g.now) w g.np 0 = none) : Pld (stSet g w) := by
  have h2 := iv.now
  have hnow : g.now = 0 := by omega
  rw [hnow] at hw
  have hne := pon_none_of hw
  refine ⟨⟨h.1.1, h.1.2.1, fun p q hp hq e => ?_⟩, fun e h0 h1 => ?_⟩
  · have hp' : p < g.np + 1 := hp
    have hq' : q < g.np + 1 := hq
    have e' : uF g.pos g.now (uN (g.pos g.now) g.np w) 0 p = uF g.pos g.now (uN (g.pos g.now) g.np w) 0 q := e
    unfold uF uN at e'
    rw [hnow, if_pos rfl] at e'
    by_cases c1 : p = g.np
    · by_cases c2 : q = g.np
      · rw [c1, c2]
      · rw [if_pos c1, if_neg c2] at e'
        exact absurd e'.symm (hne q (Nat.zero_le _) (by omega))
    · by_cases c2 : q = g.np
      · rw [if_neg c1, if_pos c2] at e'
        exact absurd e' (hne p (Nat.zero_le _) (by omega))
      · rw [if_neg c1, if_neg c2] at e'
        exact h.1.2.2 p q (by omega) (by omega) e'
  · have : e < g.n := h1
    omega
theorem pld_paw {g : Sg} (h : Pld g) (iv : Inv g) {k w : Nat} (hk : k < 4) (hw : w < 16) (hw8 : k = 0 ∨ k = 3 → w < 8) {z : Nat × (Nat → Nat) × Nat} (hz : pawO g (nI k) (nI w) = some z) : Pld (stPaw g (nI k) (nI w) z) := by
  have h1 := iv.n1
  have h2 := iv.now
  rw [pawO_N g hk hw] at hz
  refine ⟨⟨?_, ?_, fun p q hp hq e => ?_⟩, fun e h0 he => ?_⟩
  · show uN g.ct g.n z.1 0 = 0
    unfold uN
    rw [if_neg (by omega)]
    exact h.1.1
  · show uN g.lb g.n z.2.2 0 = 0
    unfold uN
    rw [if_neg (by omega)]
    exact h.1.2.1
  · have e' : uF g.pos g.n z.2.1 0 p = uF g.pos g.n z.2.1 0 q := e
    unfold uF at e'
    rw [if_neg (by omega)] at e'
    exact h.1.2.2 p q hp hq e'
  · have he' : e < g.n + 1 := he
    show ∃ k1 w1, k1 < 4 ∧ w1 < 16 ∧ (k1 = 0 ∨ k1 = 3 → w1 < 8) ∧ uI g.kd g.n (nI k) e = nI k1 ∧ uI g.nm g.n (nI w) e = nI w1 ∧ nxt g.np (uN g.ct g.n z.1 (ppF g e)) (uF g.pos g.n z.2.1 (ppF g e)) (uN g.lb g.n z.2.2 (ppF g e)) k1 w1 = some (uN g.ct g.n z.1 e, uF g.pos g.n z.2.1 e, uN g.lb g.n z.2.2 e)
    by_cases c : e = g.n
    · refine ⟨k, w, hk, hw, hw8, ?_, ?_, ?_⟩
      · unfold uI; rw [if_pos c]
      · unfold uI; rw [if_pos c]
      · rw [c, pp_n]
        unfold uN uF
        rw [if_neg (by omega), if_neg (by omega), if_neg (by omega), if_pos rfl, if_pos rfl, if_pos rfl]
        exact hz
    · obtain ⟨k1, w1, a1, a2, a3, a4, a5, a6⟩ := h.2 e h0 (by omega)
      have hp := iv.par (by omega : e < g.n)
      refine ⟨k1, w1, a1, a2, a3, ?_, ?_, ?_⟩
      · unfold uI; rw [if_neg c]; exact a4
      · unfold uI; rw [if_neg c]; exact a5
      · rw [pp_lt (by omega)]
        unfold uN uF
        rw [if_neg (by omega), if_neg (by omega), if_neg (by omega), if_neg c, if_neg c, if_neg c]
        exact a6
/-! the times -/
def TmO (g : Sg) (tm : Nat → Nat) (clk : Nat) : Prop := (∀ k, k < g.n → tm k ≤ clk) ∧ ∀ j k, 0 < j → j < g.n → 0 < k → k < g.n → g.par j = g.par k → g.last (g.par j) = some j → k ≠ j → tm k < tm j
def beL (g : Sg) (e : Nat) : Nat → Option Nat := if e = 0 then g.last else uO g.last (g.par e) (some e)
theorem beL_id {g : Sg} {e : Nat} (h : 0 < e → g.last (g.par e) = some e) : beL g e = g.last := by
  unfold beL
  split
  · rfl
  · rename_i h0
    funext i
    unfold uO
    split
    · rename_i hi; rw [hi, h (by omega)]
    · rfl
theorem tmo_be {g : Sg} {tm : Nat → Nat} {clk : Nat} (T : TmO g tm clk) {e : Nat} (he : e < g.n) : TmO (stM g e (beL g e)) (uN tm e (clk + 1)) (clk + 1) := by
  refine ⟨fun k hk => ?_, fun j k h0 hj h1 hk hp hl hkj => ?_⟩
  · show uN tm e (clk + 1) k ≤ clk + 1
    unfold uN
    split
    · exact Nat.le_refl _
    · exact Nat.le_succ_of_le (T.1 k hk)
  · have hp' : g.par j = g.par k := hp
    have hl' : beL g e (g.par j) = some j := hl
    show uN tm e (clk + 1) k < uN tm e (clk + 1) j
    unfold uN
    by_cases c : j = e
    · subst c
      rw [if_neg hkj, if_pos rfl]
      exact Nat.lt_succ_of_le (T.1 k hk)
    · by_cases c0 : e = 0
      · unfold beL at hl'
        rw [if_pos c0] at hl'
        rw [if_neg (by omega), if_neg c]
        exact T.2 j k h0 hj h1 hk hp' hl' hkj
      · unfold beL uO at hl'
        rw [if_neg c0] at hl'
        by_cases c1 : g.par j = g.par e
        · rw [if_pos c1] at hl'
          exact absurd (Option.some.inj hl').symm c
        · rw [if_neg c1] at hl'
          have : k ≠ e := fun z => c1 (by rw [hp', z])
          rw [if_neg this, if_neg c]
          exact T.2 j k h0 hj h1 hk hp' hl' hkj
/-- a step along the pointers -/
theorem tmo_st {g : Sg} {tm : Nat → Nat} {clk : Nat} (T : TmO g tm clk) {e : Nat} (he : e < g.n) (h : 0 < e → g.last (g.par e) = some e) : TmO (stNow g e) (uN tm e (clk + 1)) (clk + 1) := by
  have := tmo_be T he
  rw [beL_id h] at this
  exact this
theorem tmo_0 : TmO st0 (fun _ => 0) 0 := ⟨fun _ _ => Nat.le_refl 0, fun j k h0 hj => by
  have : j < 1 := hj
  omega⟩
theorem tmo_set {g : Sg} {tm : Nat → Nat} {clk w : Nat} (T : TmO g tm clk) : TmO (stSet g w) tm clk := T
theorem tmo_paw {g : Sg} {tm : Nat → Nat} {clk : Nat} (T : TmO g tm clk) (iv : Inv g) (k v : Int32) (z : Nat × (Nat → Nat) × Nat) : TmO (stPaw g k v z) (uN (uN tm g.n 0) g.n (clk + 1)) (clk + 1) := by
  have h1 := iv.n1
  have h2 := iv.now
  refine ⟨fun j hj => ?_, fun i j h0 hi h3 hj hp hl hji => ?_⟩
  · have hj' : j < g.n + 1 := hj
    unfold uN
    split
    · exact Nat.le_refl _
    · exact Nat.le_succ_of_le (T.1 j (by omega))
  · have hi' : i < g.n + 1 := hi
    have hj' : j < g.n + 1 := hj
    have hp' : ppF g i = ppF g j := hp
    have hl' : llF g (ppF g i) = some i := hl
    unfold uN
    by_cases c : i = g.n
    · rw [if_pos c, if_neg (by omega), if_neg (by omega)]
      exact Nat.lt_succ_of_le (T.1 j (by omega))
    · have c2 : j ≠ g.n := by
        intro z
        rw [hp', z, pp_n, ll_now] at hl'
        exact c (Option.some.inj hl').symm
      rw [if_neg c2, if_neg c2, if_neg c, if_neg c]
      rw [pp_lt (by omega), pp_lt (by omega)] at hp'
      rw [pp_lt (by omega)] at hl'
      have hpi := iv.par (by omega : i < g.n)
      by_cases c3 : g.par i = g.now
      · rw [c3, ll_now] at hl'
        exact absurd (Option.some.inj hl').symm c
      · rw [ll_ne (by omega) c3] at hl'
        exact T.2 i j h0 (by omega) h3 (by omega) hp' hl' hji
def lat (tm : Nat → Nat) (o : Option Nat) (k : Nat) : Bool := match o with
  | none => true
  | some b => decide (tm b < tm k)
/-- the latest of those that hang on e, among the first k -/
def agF (par tm : Nat → Nat) (e : Nat) : Nat → Option Nat
  | 0 => none
  | k + 1 => if 0 < k ∧ par k = e ∧ lat tm (agF par tm e k) k = true then some k else agF par tm e k
theorem agF_in {par tm : Nat → Nat} {e : Nat} : ∀ {k : Nat}, (agF par tm e k = none → ∀ c, 0 < c → c < k → par c ≠ e) ∧ (∀ b, agF par tm e k = some b → 0 < b ∧ b < k ∧ par b = e ∧ ∀ c, 0 < c → c < k → par c = e → tm c ≤ tm b) := by
  intro k
  induction k with
  | zero => exact ⟨fun _ c h1 h2 => absurd h2 (Nat.not_lt_zero c), fun b h => (nomatch h)⟩
  | succ k ih =>
    simp only [agF]
    split
    · rename_i hc
      obtain ⟨h0, hp, hm⟩ := hc
      refine ⟨fun h => (nomatch h), fun b hb => ?_⟩
      cases hb
      refine ⟨h0, Nat.lt_succ_self _, hp, fun c hc0 hck hcp => ?_⟩
      rcases Nat.lt_or_ge c k with q | q
      · cases hz : agF par tm e k with
        | none => exact absurd hcp (ih.1 hz c hc0 q)
        | some b2 =>
          rw [hz] at hm
          have h1 := (ih.2 b2 hz).2.2.2 c hc0 q hcp
          have h2 := of_decide_eq_true hm
          omega
      · have : c = k := by omega
        rw [this]
        exact Nat.le_refl _
    · rename_i hc
      refine ⟨fun h c h1 h2 h3 => ?_, fun b hb => ?_⟩
      · rcases Nat.lt_or_ge c k with q | q
        · exact ih.1 h c h1 q h3
        · have : c = k := by omega
          subst this
          exact hc ⟨h1, h3, by rw [h]; rfl⟩
      · obtain ⟨b1, b2, b3, b4⟩ := ih.2 b hb
        refine ⟨b1, by omega, b3, fun c h1 h2 h3 => ?_⟩
        rcases Nat.lt_or_ge c k with q | q
        · exact b4 c h1 q h3
        · have : c = k := by omega
          subst this
          rcases Nat.lt_or_ge (tm b) (tm c) with w | w
          · exact absurd ⟨h1, h3, by rw [hb]; exact decide_eq_true w⟩ hc
          · exact w
theorem agF_last {g : Sg} {tm : Nat → Nat} {clk : Nat} (T : TmO g tm clk) (iv : Inv g) {e : Nat} (he : e < g.n) : agF g.par tm e g.n = g.last e := by
  cases hz : agF g.par tm e g.n with
  | none =>
    cases hl : g.last e with
    | none => rfl
    | some j =>
      obtain ⟨z1, z2, z3⟩ := iv.last he hl
      exact absurd z3 (agF_in.1 hz j z1 z2)
  | some b =>
    obtain ⟨b1, b2, b3, b4⟩ := agF_in.2 b hz
    cases hl : g.last e with
    | none => exact absurd hl (by rw [← b3]; exact iv.some b1 b2)
    | some j =>
      obtain ⟨z1, z2, z3⟩ := iv.last he hl
      by_cases c : b = j
      · rw [c]
      · have := T.2 j b z1 z2 b1 b2 (by rw [z3, b3]) (by rw [z3]; exact hl) c
        have := b4 j z1 z2 z3
        omega
/-! going: up to where the ways meet, then down -/
theorem ptF_u {par : Nat → Nat} (ht : Tr par) {to c : Nat} (h0 : 0 < c) (hc : an par c to = true) (L : Nat → Option Nat) : ptF par to to (uO L (par c) (some c)) = ptF par to to L := by
  funext i
  have h1 := ptF_at ht to to (uO L (par c) (some c)) (Nat.le_refl _)
  have h2 := ptF_at ht to to L (Nat.le_refl _)
  by_cases h : ∃ d, 0 < d ∧ an par d to = true ∧ par d = i
  · obtain ⟨d, d1, d2, d3⟩ := h
    rw [← d3, h1.1 d d1 d2, h2.1 d d1 d2]
  · have hn : ∀ d, 0 < d → an par d to = true → par d ≠ i := fun d d1 d2 d3 => h ⟨d, d1, d2, d3⟩
    rw [h1.2 i hn, h2.2 i hn]
    unfold uO
    rw [if_neg (fun z => hn c h0 hc z.symm)]
/-- the way down: cur lies on it, and all pointers above cur lead to it -/
def Dn (g : Sg) (to cur : Nat) (L : Nat → Option Nat) : Prop := an g.par cur to = true ∧ (∀ c, 0 < c → an g.par c cur = true → L (g.par c) = some c) ∧ ptF g.par to to L = ptF g.par to to g.last
theorem dn_0 {g : Sg} (iv : Inv g) (to : Nat) : Dn g to (lc g.par g.now to) g.last := by
  have h := lc_an iv.tr g.now to
  exact ⟨h.2, fun c h0 hc => iv.path h0 (an_tr iv.tr hc h.1), rfl⟩
theorem dn_s {g : Sg} (ht : Tr g.par) {to cur e : Nat} {L : Nat → Option Nat} (d : Dn g to cur L) (h0 : 0 < e) (he : an g.par e to = true) (hp : g.par e = cur) : Dn g to e (uO L (g.par e) (some e)) := by
  refine ⟨he, fun c hc hce => ?_, by rw [ptF_u ht h0 he]; exact d.2.2⟩
  by_cases q : c = e
  · rw [q]; unfold uO; rw [if_pos rfl]
  · have h2 := an_ne ht hce q
    rw [hp] at h2
    have h3 := an_le ht h2
    have h4 := ht.2 c hc
    unfold uO
    rw [if_neg (by omega)]
    exact d.2.1 c hc h2
theorem dn_e {g : Sg} (ht : Tr g.par) {to : Nat} {L : Nat → Option Nat} (d : Dn g to to L) : L = ptF g.par to to g.last := by
  rw [← d.2.2]
  exact (ptF_id ht to to L d.2.1).symm
/-- from to up to the one that hangs on cur -/
theorem dn_x {g : Sg} (ht : Tr g.par) {to cur : Nat} (h : an g.par cur to = true) (hne : to ≠ cur) : ∀ {a : Nat}, an g.par a to = true → an g.par cur a = true → a ≠ cur → (g.par a = cur ∨ (an g.par (g.par a) to = true ∧ an g.par cur (g.par a) = true ∧ g.par a ≠ cur ∧ g.par a < a)) ∧ 0 < a := by
  intro a h1 h2 h3
  have h4 := an_le ht h2
  have h0 : 0 < a := by omega
  refine ⟨?_, h0⟩
  by_cases c : g.par a = cur
  · exact Or.inl c
  · exact Or.inr ⟨an_tr ht (an_par ht a) h1, an_ne ht h2 (fun z => h3 z.symm), c, ht.2 a h0⟩
