/-! numbers that both sides speak of -/
/-- 1 if x is one of 0 .. n - 1, else 0 -/
def inB (x : Int32) (n : Nat) : Nat := if x < 0 then 0 else if nI n ≤ x then 0 else 1
theorem inB_lt (x : Int32) (n : Nat) : inB x n < 2 := by
  unfold inB
  split
  · decide
  · split <;> decide
theorem inB_pos {x : Int32} {n : Nat} (hn : n < 2 ^ 31) (h : ¬ inB x n = 0) : ∃ j, j < n ∧ x = nI j := by
  unfold inB at h
  rcases pk_ix x hn with a | a | a
  · rw [if_pos a] at h
    exact absurd rfl h
  · by_cases b : x < 0
    · rw [if_pos b] at h
      exact absurd rfl h
    · rw [if_neg b, if_pos a] at h
      exact absurd rfl h
  · exact a
theorem inB_nI {j n : Nat} (hj : j < n) (hn : n < 2 ^ 31) : inB (nI j) n = 1 := by
  unfold inB
  rw [if_neg (nI_pos (by omega)), if_neg (nI_ge hj hn)]
theorem inB_zero {x : Int32} {n : Nat} (hn : n < 2 ^ 31) (h : inB x n = 0) {j : Nat} (hj : j < n) : ¬ x = nI j := by
  intro e
  rw [e, inB_nI hj hn] at h
  exact absurd h (by decide)
theorem inB_neg {x : Int32} {n : Nat} (h : x < 0) : inB x n = 0 := if_pos h
theorem inB_big {x : Int32} {n : Nat} (h0 : ¬ x < 0) (h : nI n ≤ x) : inB x n = 0 := by
  unfold inB
  rw [if_neg h0, if_pos h]
theorem inB_in {x : Int32} {n : Nat} (h0 : ¬ x < 0) (h : ¬ nI n ≤ x) : inB x n = 1 := by
  unfold inB
  rw [if_neg h0, if_neg h]
theorem inB_gt {x : Int32} {n : Nat} (hn : n + 1 < 2 ^ 31) (h : nI n < x) : nI (n + 1) ≤ x := by
  rw [Int32.le_iff_toInt_le, nI_toInt hn]
  rw [Int32.lt_iff_toInt_lt, nI_toInt (by omega)] at h
  omega
theorem inB_ngt {x : Int32} {n : Nat} (hn : n + 1 < 2 ^ 31) (h : ¬ nI n < x) : ¬ nI (n + 1) ≤ x := by
  rw [Int32.le_iff_toInt_le, nI_toInt hn]
  rw [Int32.lt_iff_toInt_lt, nI_toInt (by omega)] at h
  omega
def sumT (f : Nat → Nat) : Nat → Nat
  | 0 => 0
  | i + 1 => sumT f i + f i
def cntT (f : Nat → Nat) : Nat → Nat
  | 0 => 0
  | i + 1 => cntT f i + (if f i = 0 then 0 else 1)
def meanN (f : Nat → Nat) (n : Nat) : Nat := if cntT f n = 0 then 1 else (sumT f n + cntT f n - 1) / cntT f n
theorem sumT_le {f : Nat → Nat} {B : Nat} : ∀ {i : Nat}, (∀ j, j < i → f j ≤ B) → sumT f i ≤ B * i
  | 0, _ => Nat.le_refl _
  | i + 1, h => by
    have h1 := sumT_le (f := f) (B := B) (i := i) (fun j hj => h j (by omega))
    have h2 := h i (by omega)
    show sumT f i + f i ≤ B * (i + 1)
    rw [Nat.mul_succ]
    omega
theorem cntT_le (f : Nat → Nat) : ∀ i : Nat, cntT f i ≤ i
  | 0 => Nat.le_refl _
  | i + 1 => by
    have h1 := cntT_le f i
    show cntT f i + (if f i = 0 then 0 else 1) ≤ i + 1
    split <;> omega
/-- how many GROUPS: those that are their own FIRST -/
def grpN (f : Nat → Nat) : Nat → Nat
  | 0 => 0
  | i + 1 => grpN f i + (if f i = i then 1 else 0)
theorem grpN_le (f : Nat → Nat) : ∀ i : Nat, grpN f i ≤ i
  | 0 => Nat.le_refl _
  | i + 1 => by
    have h1 := grpN_le f i
    show grpN f i + (if f i = i then 1 else 0) ≤ i + 1
    split <;> omega
/-- FIRSTS when given is joined to kept, below i -/
def joinF (f : Nat → Nat) (g k : Nat) (i : Nat) : Nat → Nat := fun j => if j < i then (if f j = g then k else f j) else f j
theorem joinF_0 (f : Nat → Nat) (g k : Nat) : joinF f g k 0 = f := by
  funext j
  simp [joinF]
theorem joinF_at (f : Nat → Nat) (g k i : Nat) : joinF f g k i i = f i := by
  simp [joinF]
theorem joinF_hit {f : Nat → Nat} {g k i : Nat} (h : f i = g) : va_up (joinF f g k i) i k = joinF f g k (i + 1) := by
  funext j
  unfold va_up joinF
  by_cases e : j = i
  · subst e
    simp [h]
  · by_cases l : j < i
    · simp [e, l, show j < i + 1 by omega]
    · simp [e, l, show ¬ j < i + 1 by omega]
theorem joinF_miss {f : Nat → Nat} {g k i : Nat} (h : ¬ f i = g) : joinF f g k i = joinF f g k (i + 1) := by
  funext j
  unfold joinF
  by_cases e : j = i
  · subst e
    simp [h]
  · by_cases l : j < i
    · simp [l, show j < i + 1 by omega]
    · simp [l, show ¬ j < i + 1 by omega]
/-- the TIME of a new TEST, if it is taken -/
def addN (n : Nat) (x : Int32) : Option Nat := if n < 24 then (if inB x 100001 = 0 then none else some x.toNatClampNeg) else none
/-- a TEST and its new TIME, if they are taken -/
def retN (n : Nat) (x y : Int32) : Option (Nat × Nat) := if inB x n = 0 then none else if inB y 100001 = 0 then none else some (x.toNatClampNeg, y.toNatClampNeg)
/-- the FIRSTS that are kept and given, if two TESTS come together -/
def joinN (n : Nat) (ff : Nat → Nat) (x y : Int32) : Option (Nat × Nat) := if inB x n = 0 then none else if inB y n = 0 then none else if ff x.toNatClampNeg = ff y.toNatClampNeg then none else some (min (ff x.toNatClampNeg) (ff y.toNatClampNeg), max (ff x.toNatClampNeg) (ff y.toNatClampNeg))
/-- the SHARD of a TEST number, if it has one -/
def shA (sf : Nat → Option Nat) (x : Int32) : Option Nat := if inB x 24 = 0 then none else sf x.toNatClampNeg
theorem shA_nI {sf : Nat → Option Nat} {j : Nat} (hj : j < 24) : shA sf (nI j) = sf j := by
  unfold shA
  rw [inB_nI hj (by decide), if_neg (by decide), nI_clamp (by omega)]
theorem shA_out {sf : Nat → Option Nat} {x : Int32} (h : inB x 24 = 0) : shA sf x = none := if_pos h
def maxS (f : Nat → Nat) : Nat → Nat
  | 0 => 0
  | i + 1 => max (maxS f i) (f i)
theorem maxS_le {f : Nat → Nat} {B : Nat} : ∀ {i : Nat}, (∀ j, j < i → f j ≤ B) → maxS f i ≤ B
  | 0, _ => Nat.zero_le _
  | i + 1, h => by
    have h1 := maxS_le (f := f) (B := B) (i := i) (fun j hj => h j (by omega))
    have h2 := h i (by omega)
    show max (maxS f i) (f i) ≤ B
    omega
/-- has a TEST a RESULT; is it one that isn't good -/
def hasB (pr : Nat → Nat) (x : Int32) : Nat := if inB x 24 = 0 then 0 else pr x.toNatClampNeg
theorem hasB_nI {pr : Nat → Nat} {j : Nat} (hj : j < 24) : hasB pr (nI j) = pr j := by
  unfold hasB
  rw [inB_nI hj (by decide), if_neg (by decide), nI_clamp (by omega)]
theorem hasB_out {pr : Nat → Nat} {x : Int32} (h : inB x 24 = 0) : hasB pr x = 0 := if_pos h
def badB (pr : Nat → Nat) (vs : Nat → Int32) (x : Int32) : Nat := if inB x 24 = 0 then 0 else if pr x.toNatClampNeg = 0 then 0 else if vs x.toNatClampNeg = 0 then 0 else 1
theorem badB_lt (pr : Nat → Nat) (vs : Nat → Int32) (x : Int32) : badB pr vs x < 2 := by
  unfold badB
  split
  · decide
  · split
    · decide
    · split <;> decide
theorem badB_nI {pr : Nat → Nat} {vs : Nat → Int32} {j : Nat} (hj : j < 24) : badB pr vs (nI j) = if pr j = 0 then 0 else if vs j = 0 then 0 else 1 := by
  unfold badB
  rw [inB_nI hj (by decide), if_neg (by decide), nI_clamp (by omega)]
theorem badB_out {pr : Nat → Nat} {vs : Nat → Int32} {x : Int32} (h : inB x 24 = 0) : badB pr vs x = 0 := if_pos h
/-- some RESULT below i isn't good -/
def anyB (pr : Nat → Nat) (vs : Nat → Int32) : Nat → Nat
  | 0 => 0
  | i + 1 => if badB pr vs (nI i) = 0 then anyB pr vs i else 1
/-- the place of a number in a row of n, or none -/
def rowA (n : Nat) (f : Nat → Nat) (x : Int32) : Option Nat := if inB x n = 0 then none else some (f x.toNatClampNeg)
theorem anyB_up {pr : Nat → Nat} {vs : Nat → Int32} {i : Nat} (h : ¬ badB pr vs (nI i) = 0) : ∀ {n : Nat}, i < n → anyB pr vs n = 1
  | 0, hn => absurd hn (Nat.not_lt_zero _)
  | n + 1, hn => by
    rcases (show i = n ∨ i < n by omega) with q | q
    · subst q
      rw [anyB, if_neg h]
    · rw [anyB, anyB_up h q]
      split <;> rfl
def fillF {α : Type} (f : Nat → α) (x : α) (i : Nat) : Nat → α := fun j => if j < i then x else f j
theorem fillF_0 {α : Type} (f : Nat → α) (x : α) : fillF f x 0 = f := by
  funext j
  simp [fillF]
theorem fillF_up (f : Nat → Int32) (x : Int32) (i : Nat) : upd (fillF f x i) i x = fillF f x (i + 1) := by
  funext j
  unfold upd fillF
  by_cases e : j = i
  · simp [e]
  · by_cases l : j < i
    · simp [e, l, show j < i + 1 by omega]
    · simp [e, l, show ¬ j < i + 1 by omega]
theorem fillF_upN (f : Nat → Nat) (x i : Nat) : va_up (fillF f x i) i x = fillF f x (i + 1) := by
  funext j
  unfold va_up fillF
  by_cases e : j = i
  · simp [e]
  · by_cases l : j < i
    · simp [e, l, show j < i + 1 by omega]
    · simp [e, l, show ¬ j < i + 1 by omega]
theorem fillF_in {α : Type} {f : Nat → α} {x : α} {i j : Nat} (h : j < i) : fillF f x i j = x := if_pos h
/-- the TEST that takes a RESULT; that drops one -/
def putN (pr : Nat → Nat) (x : Int32) : Option Nat := if inB x 24 = 0 then none else if pr x.toNatClampNeg = 0 then some x.toNatClampNeg else none
def dropN (pr : Nat → Nat) (vs : Nat → Int32) (x : Int32) : Option Nat := if badB pr vs x = 0 then none else some x.toNatClampNeg
/-- is a TEST that had o MOVED when it goes to q -/
def mvdB (o : Option Nat) (q : Nat) : Nat := if o = none then 0 else if o = some q then 0 else 1
theorem mvdB_1 {o : Option Nat} {q : Nat} (h1 : ¬ o = none) (h2 : ¬ o = some q) : mvdB o q = 1 := by
  unfold mvdB
  rw [if_neg h1, if_neg h2]
/-! the least LENGTH, as a number: all SPLITS against the search that opens only the next empty SHARD -/
/-- the least of f 0 .. f k -/
def mnl (f : Nat → Nat) : Nat → Nat
  | 0 => f 0
  | k + 1 => min (mnl f k) (f (k + 1))
theorem mnl_le {f : Nat → Nat} : ∀ {k s : Nat}, s ≤ k → mnl f k ≤ f s
  | 0, s, h => by rw [show s = 0 by omega]; exact Nat.le_refl _
  | k + 1, s, h => by
    unfold mnl
    rcases (show s ≤ k ∨ s = k + 1 by omega) with q | q
    · exact Nat.le_trans (Nat.min_le_left _ _) (mnl_le q)
    · rw [q]; exact Nat.min_le_right _ _
theorem mnl_at (f : Nat → Nat) : ∀ (k : Nat), ∃ s, s ≤ k ∧ mnl f k = f s
  | 0 => ⟨0, Nat.le_refl _, rfl⟩
  | k + 1 => by
    obtain ⟨s, h1, h2⟩ := mnl_at f k
    unfold mnl
    by_cases h : mnl f k ≤ f (k + 1)
    · exact ⟨s, by omega, by rw [Nat.min_eq_left h, h2]⟩
    · exact ⟨k + 1, Nat.le_refl _, Nat.min_eq_right (by omega)⟩
theorem mnl_eq {f g : Nat → Nat} {k j : Nat} (h1 : ∀ s, s ≤ k → ∃ t, t ≤ j ∧ g t ≤ f s) (h2 : ∀ t, t ≤ j → ∃ s, s ≤ k ∧ f s ≤ g t) : mnl f k = mnl g j := by
  obtain ⟨a, ha, ea⟩ := mnl_at f k
  obtain ⟨b, hb, eb⟩ := mnl_at g j
  obtain ⟨t, ht, et⟩ := h1 a ha
  obtain ⟨s, hs, es⟩ := h2 b hb
  have h3 := mnl_le (f := f) hs
  have h4 := mnl_le (f := g) ht
  omega
/-- the least LENGTH that groups g .. g + r - 1 can still come to -/
def lo (t : Nat → Nat) (K : Nat) : Nat → Nat → (Nat → Nat) → Nat → Nat
  | 0, _, _, len => len
  | r + 1, g, sm, len => mnl (fun s => lo t K r (g + 1) (va_up sm s (sm s + t g)) (max len (sm s + t g))) K
theorem lo_ge (t : Nat → Nat) (K : Nat) : ∀ (r g : Nat) (sm : Nat → Nat) (len : Nat), len ≤ lo t K r g sm len
  | 0, _, _, len => Nat.le_refl len
  | r + 1, g, sm, len => by
    unfold lo
    obtain ⟨s, -, h⟩ := mnl_at (fun s => lo t K r (g + 1) (va_up sm s (sm s + t g)) (max len (sm s + t g))) K
    rw [h]
    exact Nat.le_trans (Nat.le_max_left _ _) (lo_ge t K r (g + 1) _ _)
def sw (i j s : Nat) : Nat := if s = i then j else if s = j then i else s
theorem sw_sw (i j s : Nat) : sw i j (sw i j s) = s := by
  unfold sw
  by_cases h1 : s = i
  · by_cases h2 : j = i
    · simp [h1, h2]
    · simp [h1, h2]
  · by_cases h2 : s = j
    · simp [h2]
    · simp [h1, h2]
theorem sw_le {i j s K : Nat} (hi : i ≤ K) (hj : j ≤ K) (hs : s ≤ K) : sw i j s ≤ K := by
  unfold sw
  split
  · exact hj
  · split
    · exact hi
    · exact hs
theorem up_sw (sm : Nat → Nat) (i j s v : Nat) : va_up (fun q => sm (sw i j q)) s v = fun q => va_up sm (sw i j s) v (sw i j q) := by
  funext q
  unfold va_up
  by_cases h : q = s
  · rw [if_pos h, if_pos (by rw [h])]
  · rw [if_neg h, if_neg (fun e => h (by rw [← sw_sw i j q, e, sw_sw]))]
theorem lo_sw (t : Nat → Nat) {K i j : Nat} (hi : i ≤ K) (hj : j ≤ K) : ∀ (r g : Nat) (sm : Nat → Nat) (len : Nat), lo t K r g (fun q => sm (sw i j q)) len = lo t K r g sm len
  | 0, _, _, _ => rfl
  | r + 1, g, sm, len => by
    unfold lo
    refine mnl_eq (fun s hs => ⟨sw i j s, sw_le hi hj hs, ?_⟩) (fun s hs => ⟨sw i j s, sw_le hi hj hs, ?_⟩)
    · dsimp only
      rw [up_sw, lo_sw t hi hj r (g + 1) (va_up sm (sw i j s) (sm (sw i j s) + t g))]
      exact Nat.le_refl _
    · dsimp only
      rw [up_sw, sw_sw, lo_sw t hi hj r (g + 1) (va_up sm s (sm s + t g))]
      exact Nat.le_refl _
/-- two SHARDS that are empty are all one -/
theorem lo_open (t : Nat → Nat) {K i j : Nat} (hi : i ≤ K) (hj : j ≤ K) (r g : Nat) (sm : Nat → Nat) (v len : Nat) (ei : sm i = 0) (ej : sm j = 0) : lo t K r g (va_up sm i v) len = lo t K r g (va_up sm j v) len := by
  have h : va_up sm i v = fun q => va_up sm j v (sw i j q) := by
    funext q
    unfold va_up sw
    by_cases h1 : q = i
    · simp [h1]
    · by_cases h2 : q = j
      · subst h2
        simp [h1, ei, ej]
        intro h3
        exact absurd h3.symm h1
      · simp [h1, h2]
  rw [h, lo_sw t hi hj r g (va_up sm j v) len]
/-- the least of b and f 0 .. f (c - 1) -/
def mnp (f : Nat → Nat) (b : Nat) : Nat → Nat
  | 0 => b
  | c + 1 => min (mnp f b c) (f c)
theorem mnp_b (f : Nat → Nat) (b : Nat) : ∀ c, mnp f b c ≤ b
  | 0 => Nat.le_refl b
  | c + 1 => Nat.le_trans (Nat.min_le_left _ _) (mnp_b f b c)
theorem mnp_mnl (f : Nat → Nat) (b : Nat) : ∀ k, mnp f b (k + 1) = min b (mnl f k)
  | 0 => rfl
  | k + 1 => by
    show min (mnp f b (k + 1)) (f (k + 1)) = min b (min (mnl f k) (f (k + 1)))
    rw [mnp_mnl f b k]
    omega
/-- the next empty SHARD stands for all empty ones -/
theorem lo_step (t : Nat → Nat) {K op : Nat} (r g : Nat) (sm : Nat → Nat) (len b : Nat) (h0 : ∀ s, op ≤ s → s ≤ K → sm s = 0) : mnp (fun s => lo t K r (g + 1) (va_up sm s (sm s + t g)) (max len (sm s + t g))) b (min (op + 1) (K + 1)) = min b (lo t K (r + 1) g sm len) := by
  have e : min (op + 1) (K + 1) = min op K + 1 := by omega
  rw [e, mnp_mnl]
  congr 1
  show _ = mnl _ K
  refine mnl_eq (fun s hs => ⟨s, by omega, Nat.le_refl _⟩) (fun s hs => ?_)
  by_cases h : s ≤ op
  · exact ⟨s, by omega, Nat.le_refl _⟩
  · refine ⟨op, by omega, ?_⟩
    try dsimp only
    rw [h0 s (by omega) hs, h0 op (Nat.le_refl _) (by omega), lo_open t (i := op) (j := s) (by omega) hs r (g + 1) sm _ _ (h0 op (Nat.le_refl _) (by omega)) (h0 s (by omega) hs)]
    exact Nat.le_refl _
