/-! numbers that both sides speak of -/
/-- 1 if x is one of 0 .. n - 1, else 0 -/
def inB (x : Int32) (n : Nat) : Nat := if x < 0 then 0 else if nI n ≤ x then 0 else 1
theorem inB_lt (x : Int32) (n : Nat) : inB x n < 2 := by
  unfold inB
  split
  · decide
  · split <;> decide
theorem inB_pos {x : Int32} {n : Nat} (hn : n < 2 ^ 31) (h : ¬ inB x n = 0) : ∃ j, j < n ∧ x = nI j := by
  unfold inB at h
  rcases pk_ix x hn with a | a | a
  · rw [if_pos a] at h
    exact absurd rfl h
  · by_cases b : x < 0
    · rw [if_pos b] at h
      exact absurd rfl h
    · rw [if_neg b, if_pos a] at h
      exact absurd rfl h
  · exact a
theorem inB_nI {j n : Nat} (hj : j < n) (hn : n < 2 ^ 31) : inB (nI j) n = 1 := by
  unfold inB
  rw [if_neg (nI_pos (by omega)), if_neg (nI_ge hj hn)]
theorem inB_zero {x : Int32} {n : Nat} (hn : n < 2 ^ 31) (h : inB x n = 0) {j : Nat} (hj : j < n) : ¬ x = nI j := by
  intro e
  rw [e, inB_nI hj hn] at h
  exact absurd h (by decide)
theorem inB_neg {x : Int32} {n : Nat} (h : x < 0) : inB x n = 0 := if_pos h
theorem inB_big {x : Int32} {n : Nat} (h0 : ¬ x < 0) (h : nI n ≤ x) : inB x n = 0 := by
  unfold inB
  rw [if_neg h0, if_pos h]
theorem inB_in {x : Int32} {n : Nat} (h0 : ¬ x < 0) (h : ¬ nI n ≤ x) : inB x n = 1 := by
  unfold inB
  rw [if_neg h0, if_neg h]
theorem inB_gt {x : Int32} {n : Nat} (hn : n + 1 < 2 ^ 31) (h : nI n < x) : nI (n + 1) ≤ x := by
  rw [Int32.le_iff_toInt_le, nI_toInt hn]
  rw [Int32.lt_iff_toInt_lt, nI_toInt (by omega)] at h
  omega
theorem inB_ngt {x : Int32} {n : Nat} (hn : n + 1 < 2 ^ 31) (h : ¬ nI n < x) : ¬ nI (n + 1) ≤ x := by
  rw [Int32.le_iff_toInt_le, nI_toInt hn]
  rw [Int32.lt_iff_toInt_lt, nI_toInt (by omega)] at h
  omega
def sumT (f : Nat → Nat) : Nat → Nat
  | 0 => 0
  | i + 1 => sumT f i + f i
def cntT (f : Nat → Nat) : Nat → Nat
  | 0 => 0
  | i + 1 => cntT f i + (if f i = 0 then 0 else 1)
def meanN (f : Nat → Nat) (n : Nat) : Nat := if cntT f n = 0 then 1 else (sumT f n + cntT f n - 1) / cntT f n
theorem sumT_le {f : Nat → Nat} {B : Nat} : ∀ {i : Nat}, (∀ j, j < i → f j ≤ B) → sumT f i ≤ B * i
  | 0, _ => Nat.le_refl _
  | i + 1, h => by
    have h1 := sumT_le (f := f) (B := B) (i := i) (fun j hj => h j (by omega))
    have h2 := h i (by omega)
    show sumT f i + f i ≤ B * (i + 1)
    rw [Nat.mul_succ]
    omega
theorem cntT_le (f : Nat → Nat) : ∀ i : Nat, cntT f i ≤ i
  | 0 => Nat.le_refl _
  | i + 1 => by
    have h1 := cntT_le f i
    show cntT f i + (if f i = 0 then 0 else 1) ≤ i + 1
    split <;> omega
/-- how many GROUPS: those that are their own FIRST -/
def grpN (f : Nat → Nat) : Nat → Nat
  | 0 => 0
  | i + 1 => grpN f i + (if f i = i then 1 else 0)
theorem grpN_le (f : Nat → Nat) : ∀ i : Nat, grpN f i ≤ i
  | 0 => Nat.le_refl _
  | i + 1 => by
    have h1 := grpN_le f i
    show grpN f i + (if f i = i then 1 else 0) ≤ i + 1
    split <;> omega
/-- FIRSTS when given is joined to kept, below i -/
def joinF (f : Nat → Nat) (g k : Nat) (i : Nat) : Nat → Nat := fun j => if j < i then (if f j = g then k else f j) else f j
theorem joinF_0 (f : Nat → Nat) (g k : Nat) : joinF f g k 0 = f := by
  funext j
  simp [joinF]
theorem joinF_at (f : Nat → Nat) (g k i : Nat) : joinF f g k i i = f i := by
  simp [joinF]
theorem joinF_hit {f : Nat → Nat} {g k i : Nat} (h : f i = g) : va_up (joinF f g k i) i k = joinF f g k (i + 1) := by
  funext j
  unfold va_up joinF
  by_cases e : j = i
  · subst e
    simp [h]
  · by_cases l : j < i
    · simp [e, l, show j < i + 1 by omega]
    · simp [e, l, show ¬ j < i + 1 by omega]
theorem joinF_miss {f : Nat → Nat} {g k i : Nat} (h : ¬ f i = g) : joinF f g k i = joinF f g k (i + 1) := by
  funext j
  unfold joinF
  by_cases e : j = i
  · subst e
    simp [h]
  · by_cases l : j < i
    · simp [l, show j < i + 1 by omega]
    · simp [l, show ¬ j < i + 1 by omega]
/-- the TIME of a new TEST, if it is taken -/
def addN (n : Nat) (x : Int32) : Option Nat := if n < 24 then (if inB x 100001 = 0 then none else some x.toNatClampNeg) else none
/-- a TEST and its new TIME, if they are taken -/
def retN (n : Nat) (x y : Int32) : Option (Nat × Nat) := if inB x n = 0 then none else if inB y 100001 = 0 then none else some (x.toNatClampNeg, y.toNatClampNeg)
/-- the FIRSTS that are kept and given, if two TESTS come together -/
def joinN (n : Nat) (ff : Nat → Nat) (x y : Int32) : Option (Nat × Nat) := if inB x n = 0 then none else if inB y n = 0 then none else if ff x.toNatClampNeg = ff y.toNatClampNeg then none else some (min (ff x.toNatClampNeg) (ff y.toNatClampNeg), max (ff x.toNatClampNeg) (ff y.toNatClampNeg))
/-- the SHARD of a TEST number, if it has one -/
def shA (sf : Nat → Option Nat) (x : Int32) : Option Nat := if inB x 24 = 0 then none else sf x.toNatClampNeg
theorem shA_nI {sf : Nat → Option Nat} {j : Nat} (hj : j < 24) : shA sf (nI j) = sf j := by
  unfold shA
  rw [inB_nI hj (by decide), if_neg (by decide), nI_clamp (by omega)]
theorem shA_out {sf : Nat → Option Nat} {x : Int32} (h : inB x 24 = 0) : shA sf x = none := if_pos h
def maxS (f : Nat → Nat) : Nat → Nat
  | 0 => 0
  | i + 1 => max (maxS f i) (f i)
theorem maxS_le {f : Nat → Nat} {B : Nat} : ∀ {i : Nat}, (∀ j, j < i → f j ≤ B) → maxS f i ≤ B
  | 0, _ => Nat.zero_le _
  | i + 1, h => by
    have h1 := maxS_le (f := f) (B := B) (i := i) (fun j hj => h j (by omega))
    have h2 := h i (by omega)
    show max (maxS f i) (f i) ≤ B
    omega
/-- has a TEST a RESULT; is it one that isn't good -/
def hasB (pr : Nat → Nat) (x : Int32) : Nat := if inB x 24 = 0 then 0 else pr x.toNatClampNeg
theorem hasB_nI {pr : Nat → Nat} {j : Nat} (hj : j < 24) : hasB pr (nI j) = pr j := by
  unfold hasB
  rw [inB_nI hj (by decide), if_neg (by decide), nI_clamp (by omega)]
theorem hasB_out {pr : Nat → Nat} {x : Int32} (h : inB x 24 = 0) : hasB pr x = 0 := if_pos h
def badB (pr : Nat → Nat) (vs : Nat → Int32) (x : Int32) : Nat := if inB x 24 = 0 then 0 else if pr x.toNatClampNeg = 0 then 0 else if vs x.toNatClampNeg = 0 then 0 else 1
theorem badB_lt (pr : Nat → Nat) (vs : Nat → Int32) (x : Int32) : badB pr vs x < 2 := by
  unfold badB
  split
  · decide
  · split
    · decide
    · split <;> decide
theorem badB_nI {pr : Nat → Nat} {vs : Nat → Int32} {j : Nat} (hj : j < 24) : badB pr vs (nI j) = if pr j = 0 then 0 else if vs j = 0 then 0 else 1 := by
  unfold badB
  rw [inB_nI hj (by decide), if_neg (by decide), nI_clamp (by omega)]
theorem badB_out {pr : Nat → Nat} {vs : Nat → Int32} {x : Int32} (h : inB x 24 = 0) : badB pr vs x = 0 := if_pos h
/-- some RESULT below i isn't good -/
def anyB (pr : Nat → Nat) (vs : Nat → Int32) : Nat → Nat
  | 0 => 0
  | i + 1 => if badB pr vs (nI i) = 0 then anyB pr vs i else 1
/-- the place of a number in a row of n, or none -/
def rowA (n : Nat) (f : Nat → Nat) (x : Int32) : Option Nat := if inB x n = 0 then none else some (f x.toNatClampNeg)
theorem anyB_up {pr : Nat → Nat} {vs : Nat → Int32} {i : Nat} (h : ¬ badB pr vs (nI i) = 0) : ∀ {n : Nat}, i < n → anyB pr vs n = 1
  | 0, hn => absurd hn (Nat.not_lt_zero _)
  | n + 1, hn => by
    rcases (show i = n ∨ i < n by omega) with q | q
    · subst q
      rw [anyB, if_neg h]
    · rw [anyB, anyB_up h q]
      split <;> rfl
def fillF {α : Type} (f : Nat → α) (x : α) (i : Nat) : Nat → α := fun j => if j < i then x else f j
theorem fillF_0 {α : Type} (f : Nat → α) (x : α) : fillF f x 0 = f := by
  funext j
  simp [fillF]
theorem fillF_up (f : Nat → Int32) (x : Int32) (i : Nat) : upd (fillF f x i) i x = fillF f x (i + 1) := by
  funext j
  unfold upd fillF
  by_cases e : j = i
  · simp [e]
  · by_cases l : j < i
    · simp [e, l, show j < i + 1 by omega]
    · simp [e, l, show ¬ j < i + 1 by omega]
theorem fillF_upN (f : Nat → Nat) (x i : Nat) : va_up (fillF f x i) i x = fillF f x (i + 1) := by
  funext j
  unfold va_up fillF
  by_cases e : j = i
  · simp [e]
  · by_cases l : j < i
    · simp [e, l, show j < i + 1 by omega]
    · simp [e, l, show ¬ j < i + 1 by omega]
theorem fillF_in {α : Type} {f : Nat → α} {x : α} {i j : Nat} (h : j < i) : fillF f x i j = x := if_pos h
/-- the TEST that takes a RESULT; that drops one -/
def putN (pr : Nat → Nat) (x : Int32) : Option Nat := if inB x 24 = 0 then none else if pr x.toNatClampNeg = 0 then some x.toNatClampNeg else none
def dropN (pr : Nat → Nat) (vs : Nat → Int32) (x : Int32) : Option Nat := if badB pr vs x = 0 then none else some x.toNatClampNeg
/-- is a TEST that had o MOVED when it goes to q -/
def mvdB (o : Option Nat) (q : Nat) : Nat := if o = none then 0 else if o = some q then 0 else 1
theorem mvdB_1 {o : Option Nat} {q : Nat} (h1 : ¬ o = none) (h2 : ¬ o = some q) : mvdB o q = 1 := by
  unfold mvdB
  rw [if_neg h1, if_neg h2]
/-! the least LENGTH, as a number: all SPLITS against the search that opens only the next empty SHARD -/
/-- the least of f 0 .. f k -/
def mnl (f : Nat → Nat) : Nat → Nat
  | 0 => f 0
  | k + 1 => min (mnl f k) (f (k + 1))
theorem mnl_le {f : Nat → Nat} : ∀ {k s : Nat}, s ≤ k → mnl f k ≤ f s
  | 0, s, h => by rw [show s = 0 by omega]; exact Nat.le_refl _
  | k + 1, s, h => by
    unfold mnl
    rcases (show s ≤ k ∨ s = k + 1 by omega) with q | q
    · exact Nat.le_trans (Nat.min_le_left _ _) (mnl_le q)
    · rw [q]; exact Nat.min_le_right _ _
theorem mnl_at (f : Nat → Nat) : ∀ (k : Nat), ∃ s, s ≤ k ∧ mnl f k = f s
  | 0 => ⟨0, Nat.le_refl _, rfl⟩
  | k + 1 => by
    obtain ⟨s, h1, h2⟩ := mnl_at f k
    unfold mnl
    by_cases h : mnl f k ≤ f (k + 1)
    · exact ⟨s, by omega, by rw [Nat.min_eq_left h, h2]⟩
    · exact ⟨k + 1, Nat.le_refl _, Nat.min_eq_right (by omega)⟩
theorem mnl_eq {f g : Nat → Nat} {k j : Nat} (h1 : ∀ s, s ≤ k → ∃ t, t ≤ j ∧ g t ≤ f s) (h2 : ∀ t, t ≤ j → ∃ s, s ≤ k ∧ f s ≤ g t) : mnl f k = mnl g j := by
  obtain ⟨a, ha, ea⟩ := mnl_at f k
  obtain ⟨b, hb, eb⟩ := mnl_at g j
  obtain ⟨t, ht, et⟩ := h1 a ha
  obtain ⟨s, hs, es⟩ := h2 b hb
  have h3 := mnl_le (f := f) hs
  have h4 := mnl_le (f := g) ht
  omega
/-- the least LENGTH that groups g .. g + r - 1 can still come to -/
def lo (t : Nat → Nat) (K : Nat) : Nat → Nat → (Nat → Nat) → Nat → Nat
  | 0, _, _, len => len
  | r + 1, g, sm, len => mnl (fun s => lo t K r (g + 1) (va_up sm s (sm s + t g)) (max len (sm s + t g))) K
theorem lo_ge (t : Nat → Nat) (K : Nat) : ∀ (r g : Nat) (sm : Nat → Nat) (len : Nat), len ≤ lo t K r g sm len
  | 0, _, _, len => Nat.le_refl len
  | r + 1, g, sm, len => by
    unfold lo
    obtain ⟨s, -, h⟩ := mnl_at (fun s => lo t K r (g + 1) (va_up sm s (sm s + t g)) (max len (sm s + t g))) K
    rw [h]
    exact Nat.le_trans (Nat.le_max_left _ _) (lo_ge t K r (g + 1) _ _)
def sw (i j s : Nat) : Nat := if s = i then j else if s = j then i else s
theorem sw_sw (i j s : Nat) : sw i j (sw i j s) = s := by
  unfold sw
  by_cases h1 : s = i
  · by_cases h2 : j = i
    · simp [h1, h2]
    · simp [h1, h2]
  · by_cases h2 : s = j
    · simp [h2]
    · simp [h1, h2]
theorem sw_le {i j s K : Nat} (hi : i ≤ K) (hj : j ≤ K) (hs : s ≤ K) : sw i j s ≤ K := by
  unfold sw
  split
  · exact hj
  · split
    · exact hi
    · exact hs
theorem up_sw (sm : Nat → Nat) (i j s v : Nat) : va_up (fun q => sm (sw i j q)) s v = fun q => va_up sm (sw i j s) v (sw i j q) := by
  funext q
  unfold va_up
  by_cases h : q = s
  · rw [if_pos h, if_pos (by rw [h])]
  · rw [if_neg h, if_neg (fun e => h (by rw [← sw_sw i j q, e, sw_sw]))]
theorem lo_sw (t : Nat → Nat) {K i j : Nat} (hi : i ≤ K) (hj : j ≤ K) : ∀ (r g : Nat) (sm : Nat → Nat) (len : Nat), lo t K r g (fun q => sm (sw i j q)) len = lo t K r g sm len
  | 0, _, _, _ => rfl
  | r + 1, g, sm, len => by
    unfold lo
    refine mnl_eq (fun s hs => ⟨sw i j s, sw_le hi hj hs, ?_⟩) (fun s hs => ⟨sw i j s, sw_le hi hj hs, ?_⟩)
    · dsimp only
      rw [up_sw, lo_sw t hi hj r (g + 1) (va_up sm (sw i j s) (sm (sw i j s) + t g))]
      exact Nat.le_refl _
    · dsimp only
      rw [up_sw, sw_sw, lo_sw t hi hj r (g + 1) (va_up sm s (sm s + t g))]
      exact Nat.le_refl _
/-- two SHARDS that are empty are all one -/
theorem lo_open (t : Nat → Nat) {K i j : Nat} (hi : i ≤ K) (hj : j ≤ K) (r g : Nat) (sm : Nat → Nat) (v len : Nat) (ei : sm i = 0) (ej : sm j = 0) : lo t K r g (va_up sm i v) len = lo t K r g (va_up sm j v) len := by
  have h : va_up sm i v = fun q => va_up sm j v (sw i j q) := by
    funext q
    unfold va_up sw
    by_cases h1 : q = i
    · simp [h1]
    · by_cases h2 : q = j
      · subst h2
        simp [h1, ei, ej]
        intro h3
        exact absurd h3.symm h1
      · simp [h1, h2]
  rw [h, lo_sw t hi hj r g (va_up sm j v) len]
/-- the least of b and f 0 .. f (c - 1) -/
def mnp (f : Nat → Nat) (b : Nat) : Nat → Nat
  | 0 => b
  | c + 1 => min (mnp f b c) (f c)
theorem mnp_b (f : Nat → Nat) (b : Nat) : ∀ c, mnp f b c ≤ b
  | 0 => Nat.le_refl b
  | c + 1 => Nat.le_trans (Nat.min_le_left _ _) (mnp_b f b c)
theorem mnp_mnl (f : Nat → Nat) (b : Nat) : ∀ k, mnp f b (k + 1) = min b (mnl f k)
  | 0 => rfl
  | k + 1 => by
    show min (mnp f b (k + 1)) (f (k + 1)) = min b (min (mnl f k) (f (k + 1)))
    rw [mnp_mnl f b k]
    omega
/-- the next empty SHARD stands for all empty ones -/
theorem lo_step (t : Nat → Nat) {K op : Nat} (r g : Nat) (sm : Nat → Nat) (len b : Nat) (h0 : ∀ s, op ≤ s → s ≤ K → sm s = 0) : mnp (fun s => lo t K r (g + 1) (va_up sm s (sm s + t g)) (max len (sm s + t g))) b (min (op + 1) (K + 1)) = min b (lo t K (r + 1) g sm len) := by
  have e : min (op + 1) (K + 1) = min op K + 1 := by omega
  rw [e, mnp_mnl]
  congr 1
  show _ = mnl _ K
  refine mnl_eq (fun s hs => ⟨s, by omega, Nat.le_refl _⟩) (fun s hs => ?_)
  by_cases h : s ≤ op
  · exact ⟨s, by omega, Nat.le_refl _⟩
  · refine ⟨op, by omega, ?_⟩
    try dsimp only
    rw [h0 s (by omega) hs, h0 op (Nat.le_refl _) (by omega), lo_open t (i := op) (j := s) (by omega) hs r (g + 1) sm _ _ (h0 op (Nat.le_refl _) (by omega)) (h0 s (by omega) hs)]
    exact Nat.le_refl _
/-! GROUPS as numbers -/
theorem grpN_s {f : Nat → Nat} {i : Nat} (h : f i = i) : grpN f (i + 1) = grpN f i + 1 := by
  show grpN f i + (if f i = i then 1 else 0) = _
  rw [if_pos h]
theorem grpN_k {f : Nat → Nat} {i : Nat} (h : ¬ f i = i) : grpN f (i + 1) = grpN f i := by
  show grpN f i + (if f i = i then 1 else 0) = _
  rw [if_neg h]
  rfl
theorem grpN_mono (f : Nat → Nat) {a : Nat} : ∀ {b : Nat}, a ≤ b → grpN f a ≤ grpN f b
  | 0, h => by rw [show a = 0 by omega]; exact Nat.le_refl _
  | b + 1, h => by
    rcases (show a = b + 1 ∨ a ≤ b by omega) with q | q
    · rw [q]
      exact Nat.le_refl _
    · have h1 := grpN_mono f (a := a) (b := b) q
      show grpN f a ≤ grpN f b + (if f b = b then 1 else 0)
      omega
theorem grpN_lt {f : Nat → Nat} {a b : Nat} (h : f a = a) (hab : a < b) : grpN f a < grpN f b := by
  have h1 := grpN_mono f (a := a + 1) (b := b) hab
  rw [grpN_s h] at h1
  omega
theorem grpN_inj {f : Nat → Nat} {a b : Nat} (ha : f a = a) (hb : f b = b) (h : grpN f a = grpN f b) : a = b := by
  rcases (show a < b ∨ a = b ∨ b < a by omega) with q | q | q
  · have := grpN_lt ha q
    omega
  · exact q
  · have := grpN_lt hb q
    omega
/-- the g-th FIRST -/
theorem grpN_at (f : Nat → Nat) {g : Nat} : ∀ {n : Nat}, g < grpN f n → ∃ j, j < n ∧ f j = j ∧ grpN f j = g
  | 0, h => absurd h (Nat.not_lt_zero _)
  | n + 1, h => by
    by_cases e : f n = n
    · rw [grpN_s e] at h
      rcases (show g < grpN f n ∨ grpN f n = g by omega) with q | q
      · obtain ⟨j, h1, h2, h3⟩ := grpN_at f (n := n) q
        exact ⟨j, by omega, h2, h3⟩
      · exact ⟨n, by omega, e, q⟩
    · rw [grpN_k e] at h
      obtain ⟨j, h1, h2, h3⟩ := grpN_at f (n := n) h
      exact ⟨j, by omega, h2, h3⟩
def efT (tf : Nat → Nat) (mn : Nat) (j : Nat) : Nat := if tf j = 0 then mn else tf j
/-- the TIME of the GROUP of FIRST x, as far as the TESTS below i -/
def wT (ff ef : Nat → Nat) (x : Nat) : Nat → Nat
  | 0 => 0
  | i + 1 => wT ff ef x i + (if ff i = x then ef i else 0)
theorem wT_hit {ff ef : Nat → Nat} {x i : Nat} (h : ff i = x) : wT ff ef x (i + 1) = wT ff ef x i + ef i := by
  show wT ff ef x i + (if ff i = x then ef i else 0) = _
  rw [if_pos h]
theorem wT_miss {ff ef : Nat → Nat} {x i : Nat} (h : ¬ ff i = x) : wT ff ef x (i + 1) = wT ff ef x i := by
  show wT ff ef x i + (if ff i = x then ef i else 0) = _
  rw [if_neg h]
  rfl
theorem wT_none {ff ef : Nat → Nat} {x : Nat} : ∀ {i : Nat}, (∀ j, j < i → ¬ ff j = x) → wT ff ef x i = 0
  | 0, _ => rfl
  | i + 1, h => by rw [wT_miss (h i (by omega)), wT_none (i := i) (fun j hj => h j (by omega))]
theorem wT_le {ff ef : Nat → Nat} {x B : Nat} : ∀ {i : Nat}, (∀ j, j < i → ef j ≤ B) → wT ff ef x i ≤ B * i
  | 0, _ => Nat.le_refl _
  | i + 1, h => by
    have h1 := wT_le (ff := ff) (ef := ef) (x := x) (B := B) (i := i) (fun j hj => h j (by omega))
    have h2 := h i (by omega)
    show wT ff ef x i + (if ff i = x then ef i else 0) ≤ B * (i + 1)
    rw [Nat.mul_succ]
    split <;> omega
theorem wT_mono {ff ef : Nat → Nat} {x a : Nat} : ∀ {b : Nat}, a ≤ b → wT ff ef x a ≤ wT ff ef x b
  | 0, h => by rw [show a = 0 by omega]; exact Nat.le_refl _
  | b + 1, h => by
    rcases (show a = b + 1 ∨ a ≤ b by omega) with q | q
    · rw [q]
      exact Nat.le_refl _
    · have h1 := wT_mono (ff := ff) (ef := ef) (x := x) (a := a) (b := b) q
      show wT ff ef x a ≤ wT ff ef x b + (if ff b = x then ef b else 0)
      omega
theorem wT_pos {ff ef : Nat → Nat} {x n : Nat} (hx : ff x = x) (hn : x < n) (he : 1 ≤ ef x) : 1 ≤ wT ff ef x n := by
  have h1 := wT_mono (ff := ff) (ef := ef) (x := x) (a := x + 1) (b := n) hn
  rw [wT_hit hx] at h1
  omega
theorem sumT_cnt {f : Nat → Nat} : ∀ {i : Nat}, (∀ j, j < i → f j ≤ 100000) → sumT f i ≤ 100000 * cntT f i
  | 0, _ => Nat.le_refl _
  | i + 1, h => by
    have h1 := sumT_cnt (f := f) (i := i) (fun j hj => h j (by omega))
    have h2 := h i (by omega)
    show sumT f i + f i ≤ 100000 * (cntT f i + (if f i = 0 then 0 else 1))
    split <;> omega
theorem cnt_sumT (f : Nat → Nat) : ∀ i : Nat, cntT f i ≤ sumT f i
  | 0 => Nat.le_refl _
  | i + 1 => by
    have h1 := cnt_sumT f i
    show cntT f i + (if f i = 0 then 0 else 1) ≤ sumT f i + f i
    split <;> omega
theorem meanN_le {f : Nat → Nat} {n : Nat} (h : ∀ j, j < n → f j ≤ 100000) : meanN f n ≤ 100000 := by
  unfold meanN
  split
  · decide
  · rename_i hc
    have h1 := sumT_cnt h
    exact Nat.le_of_lt_succ ((Nat.div_lt_iff_lt_mul (by omega)).mpr (by omega))
theorem meanN_pos (f : Nat → Nat) (n : Nat) : 1 ≤ meanN f n := by
  unfold meanN
  split
  · decide
  · rename_i hc
    have h1 := cnt_sumT f n
    exact (Nat.le_div_iff_mul_le (by omega)).mpr (by omega)
theorem efT_le {tf : Nat → Nat} {mn j : Nat} (h1 : tf j ≤ 100000) (h2 : mn ≤ 100000) : efT tf mn j ≤ 100000 := by
  unfold efT
  split <;> assumption
theorem efT_pos {tf : Nat → Nat} {mn j : Nat} (h2 : 1 ≤ mn) : 1 ≤ efT tf mn j := by
  unfold efT
  split <;> omega
/-- what the rows of the GROUPS hold when the TESTS below i have been gathered -/
def gInv (ff tf : Nat → Nat) (mn i : Nat) (gF gT gO : Nat → Nat) (gS : Nat → Option Nat) : Prop := (∀ j, j < i → gO j = grpN ff (ff j)) ∧ (∀ j, j < i → ff j = j → gF (grpN ff j) = j ∧ gT (grpN ff j) = wT ff (efT tf mn) j i) ∧ (∀ g, g < grpN ff i → gS g = none)
theorem gInv_0 {ff tf : Nat → Nat} {mn : Nat} {gF gT gO : Nat → Nat} {gS : Nat → Option Nat} : gInv ff tf mn 0 gF gT gO gS := ⟨fun j h => absurd h (Nat.not_lt_zero _), fun j h => absurd h (Nat.not_lt_zero _), fun g h => absurd h (Nat.not_lt_zero _)⟩
theorem gInv_new {ff tf : Nat → Nat} {mn i : Nat} {gF gT gO : Nat → Nat} {gS : Nat → Option Nat} (h : gInv ff tf mn i gF gT gO gS) (hi : ff i = i) (hf : ∀ j, j < i → ff j ≤ j) {x : Nat} (hx : x = efT tf mn i) : gInv ff tf mn (i + 1) (va_up gF (grpN ff i) i) (va_up (va_up gT (grpN ff i) 0) (grpN ff i) (va_up gT (grpN ff i) 0 (grpN ff i) + x)) (va_up gO i (grpN ff i)) (va_up gS (grpN ff i) none) := by
  obtain ⟨h1, h2, h3⟩ := h
  refine ⟨fun j hj => ?_, fun j hj e => ?_, fun g hg => ?_⟩
  · rcases (show j = i ∨ j < i by omega) with q | q
    · rw [q, va_up_self, hi]
    · rw [va_up_ne _ _ (by omega), h1 j q]
  · rcases (show j = i ∨ j < i by omega) with q | q
    · subst q
      rw [va_up_self, va_up_self, va_up_self, wT_hit e, wT_none (fun k hk z => by have := hf k hk; omega), hx]
      exact ⟨rfl, rfl⟩
    · have hl := grpN_lt e q
      rw [va_up_ne _ _ (by omega), va_up_ne _ _ (by omega), va_up_ne _ _ (by omega), wT_miss (by omega)]
      exact h2 j q e
  · rw [grpN_s hi] at hg
    rcases (show g = grpN ff i ∨ g < grpN ff i by omega) with q | q
    · rw [q, va_up_self]
    · rw [va_up_ne _ _ (by omega), h3 g q]
theorem gInv_old {ff tf : Nat → Nat} {mn i : Nat} {gF gT gO : Nat → Nat} {gS : Nat → Option Nat} (h : gInv ff tf mn i gF gT gO gS) (hi : ff i < i) (hff : ff (ff i) = ff i) {x : Nat} (hx : x = efT tf mn i) : gInv ff tf mn (i + 1) gF (va_up gT (grpN ff (ff i)) (gT (grpN ff (ff i)) + x)) (va_up gO i (grpN ff (ff i))) gS := by
  obtain ⟨h1, h2, h3⟩ := h
  refine ⟨fun j hj => ?_, fun j hj e => ?_, fun g hg => ?_⟩
  · rcases (show j = i ∨ j < i by omega) with q | q
    · rw [q, va_up_self]
    · rw [va_up_ne _ _ (by omega), h1 j q]
  · rcases (show j = i ∨ j < i by omega) with q | q
    · subst q
      omega
    · obtain ⟨a1, a2⟩ := h2 j q e
      refine ⟨a1, ?_⟩
      by_cases z : j = ff i
      · subst z
        rw [va_up_self, wT_hit rfl, a2, hx]
      · rw [va_up_ne _ _ (fun w => z (grpN_inj e hff w)), wT_miss (fun w => z w.symm)]
        exact a2
  · rw [grpN_k (by omega)] at hg
    exact h3 g hg
/-- of those that have no SHARD yet the one with the greatest TIME, the first of equal ones -/
def sel (w : Nat → Nat) (gs : Nat → Option Nat) : Nat → Option Nat
  | 0 => none
  | i + 1 => if gs i = none then (match sel w gs i with
    | none => some i
    | some g => if w g < w i then some i else some g) else sel w gs i
theorem sel_skip {w : Nat → Nat} {gs : Nat → Option Nat} {i : Nat} (h : ¬ gs i = none) : sel w gs (i + 1) = sel w gs i := by
  rw [sel, if_neg h]
theorem sel_take {w : Nat → Nat} {gs : Nat → Option Nat} {i : Nat} (h : gs i = none) (h2 : (sel w gs i).elim 0 w < w i) : sel w gs (i + 1) = some i := by
  rw [sel, if_pos h]
  cases e : sel w gs i with
  | none => rfl
  | some g =>
    rw [e] at h2
    have h3 : w g < w i := h2
    show (if w g < w i then some i else some g) = some i
    rw [if_pos h3]
theorem sel_keep {w : Nat → Nat} {gs : Nat → Option Nat} {i : Nat} (h : gs i = none) (h1 : 1 ≤ w i) (h2 : w i ≤ (sel w gs i).elim 0 w) : sel w gs (i + 1) = sel w gs i := by
  rw [sel, if_pos h]
  cases e : sel w gs i with
  | none =>
    rw [e] at h2
    have h3 : w i ≤ 0 := h2
    omega
  | some g =>
    rw [e] at h2
    have h3 : w i ≤ w g := h2
    show (if w g < w i then some i else some g) = some g
    rw [if_neg (by omega)]
theorem sel_lt {w : Nat → Nat} {gs : Nat → Option Nat} {g : Nat} : ∀ {i : Nat}, sel w gs i = some g → g < i ∧ gs g = none
  | 0, h => by cases h
  | i + 1, h => by
    rw [sel] at h
    by_cases e : gs i = none
    · rw [if_pos e] at h
      cases e2 : sel w gs i with
      | none =>
        rw [e2] at h
        cases h
        exact ⟨by omega, e⟩
      | some g2 =>
        rw [e2] at h
        have h : (if w g2 < w i then some i else some g2) = some g := h
        split at h
        · cases h
          exact ⟨by omega, e⟩
        · cases h
          have := sel_lt (i := i) e2
          exact ⟨by omega, this.2⟩
    · rw [if_neg e] at h
      have := sel_lt (i := i) h
      exact ⟨by omega, this.2⟩
theorem sel_some {w : Nat → Nat} {gs : Nat → Option Nat} {g : Nat} (hg : gs g = none) : ∀ {i : Nat}, g < i → ∃ k, sel w gs i = some k
  | 0, h => absurd h (Nat.not_lt_zero _)
  | i + 1, h => by
    rw [sel]
    by_cases e : gs i = none
    · rw [if_pos e]
      cases e2 : sel w gs i with
      | none => exact ⟨i, rfl⟩
      | some g2 =>
        show ∃ k, (if w g2 < w i then some i else some g2) = some k
        split
        · exact ⟨i, rfl⟩
        · exact ⟨g2, rfl⟩
    · rw [if_neg e]
      rcases (show g = i ∨ g < i by omega) with q | q
      · rw [q] at hg
        exact absurd hg e
      · exact sel_some hg q
/-- the first SHARD of the least sum, of 0 .. i -/
def lst (sm : Nat → Nat) : Nat → Nat
  | 0 => 0
  | i + 1 => if sm (i + 1) < sm (lst sm i) then i + 1 else lst sm i
theorem lst_le (sm : Nat → Nat) : ∀ i : Nat, lst sm i ≤ i
  | 0 => Nat.le_refl _
  | i + 1 => by
    have := lst_le sm i
    show (if sm (i + 1) < sm (lst sm i) then i + 1 else lst sm i) ≤ i + 1
    split <;> omega
theorem lst_take {sm : Nat → Nat} {i : Nat} (hi : 1 ≤ i) (h : sm i < sm (lst sm (i - 1))) : lst sm (i + 1 - 1) = i := by
  obtain ⟨t, rfl⟩ : ∃ t, i = t + 1 := ⟨i - 1, by omega⟩
  have h : sm (t + 1) < sm (lst sm t) := h
  show (if sm (t + 1) < sm (lst sm t) then t + 1 else lst sm t) = t + 1
  rw [if_pos h]
theorem lst_keep {sm : Nat → Nat} {i : Nat} (hi : 1 ≤ i) (h : sm (lst sm (i - 1)) ≤ sm i) : lst sm (i + 1 - 1) = lst sm (i - 1) := by
  obtain ⟨t, rfl⟩ : ∃ t, i = t + 1 := ⟨i - 1, by omega⟩
  show (if sm (t + 1) < sm (lst sm t) then t + 1 else lst sm t) = lst sm t
  rw [if_neg (by have h2 : sm (lst sm t) ≤ sm (t + 1) := h; omega)]
def lsh (sm : Nat → Nat) (k : Nat) (o : Option Nat) : Nat := match o with
  | none => lst sm (k - 1)
  | some q => if q < k ∧ sm q = sm (lst sm (k - 1)) then q else lst sm (k - 1)
theorem lsh_lt {sm : Nat → Nat} {k : Nat} {o : Option Nat} (hk : 1 ≤ k) : lsh sm k o < k := by
  have h1 := lst_le sm (k - 1)
  cases o with
  | none => show lst sm (k - 1) < k; omega
  | some q =>
    show (if q < k ∧ sm q = sm (lst sm (k - 1)) then q else lst sm (k - 1)) < k
    split
    · rename_i h
      exact h.1
    · omega
/-- the GROUPS by falling TIMES, i of them placed -/
def grd (w F : Nat → Nat) (sf : Nat → Option Nat) (G k : Nat) (g0 : Nat → Option Nat) : Nat → (Nat → Option Nat) × (Nat → Nat)
  | 0 => (g0, fun _ => 0)
  | i + 1 => (va_up (grd w F sf G k g0 i).1 ((sel w (grd w F sf G k g0 i).1 G).getD 0) (some (lsh (grd w F sf G k g0 i).2 k (sf (F ((sel w (grd w F sf G k g0 i).1 G).getD 0))))), va_up (grd w F sf G k g0 i).2 (lsh (grd w F sf G k g0 i).2 k (sf (F ((sel w (grd w F sf G k g0 i).1 G).getD 0)))) ((grd w F sf G k g0 i).2 (lsh (grd w F sf G k g0 i).2 k (sf (F ((sel w (grd w F sf G k g0 i).1 G).getD 0)))) + w ((sel w (grd w F sf G k g0 i).1 G).getD 0)))
theorem sel_getD {w : Nat → Nat} {gs : Nat → Option Nat} {G : Nat} (hG : 0 < G) : (sel w gs G).getD 0 < G := by
  cases e : sel w gs G with
  | none => exact hG
  | some g => exact (sel_lt e).1
theorem grd_le {w F : Nat → Nat} {sf : Nat → Option Nat} {G k B : Nat} {g0 : Nat → Option Nat} (hG : 0 < G) (hw : ∀ g, g < G → w g ≤ B) : ∀ (i q : Nat), (grd w F sf G k g0 i).2 q ≤ B * i
  | 0, q => Nat.zero_le _
  | i + 1, q => by
    have h1 := grd_le (F := F) (sf := sf) (k := k) (g0 := g0) hG hw i
    have h2 := hw _ (sel_getD (w := w) (gs := (grd w F sf G k g0 i).1) hG)
    rw [Nat.mul_succ]
    by_cases e : q = lsh (grd w F sf G k g0 i).2 k (sf (F ((sel w (grd w F sf G k g0 i).1 G).getD 0)))
    · have h3 := h1 q
      rw [e]
      show va_up _ _ _ _ ≤ _
      rw [va_up_self, ← e]
      omega
    · show va_up _ _ _ _ ≤ _
      rw [va_up_ne _ _ e]
      have h3 := h1 q
      omega
/-- sums when the GROUPS below i have the SHARDS s -/
def smA (t s : Nat → Nat) : Nat → (Nat → Nat)
  | 0 => fun _ => 0
  | i + 1 => va_up (smA t s i) (s i) (smA t s i (s i) + t i)
def sfA (sf : Nat → Option Nat) (s gO : Nat → Nat) (i : Nat) : Nat → Option Nat := fun j => if j < i then some (s (gO j)) else sf j
theorem sfA_0 (sf : Nat → Option Nat) (s gO : Nat → Nat) : sfA sf s gO 0 = sf := by
  funext j
  simp [sfA]
theorem sfA_at (sf : Nat → Option Nat) (s gO : Nat → Nat) (i : Nat) : sfA sf s gO i i = sf i := by
  simp [sfA]
theorem sfA_up (sf : Nat → Option Nat) (s gO : Nat → Nat) (i : Nat) : va_up (sfA sf s gO i) i (some (s (gO i))) = sfA sf s gO (i + 1) := by
  funext j
  unfold va_up sfA
  by_cases e : j = i
  · subst e
    simp
  · by_cases l : j < i
    · simp [e, l, show j < i + 1 by omega]
    · simp [e, l, show ¬ j < i + 1 by omega]
def mvA (sf : Nat → Option Nat) (s gO : Nat → Nat) : Nat → Nat
  | 0 => 0
  | i + 1 => mvA sf s gO i + mvdB (sf i) (s (gO i))
def zsA (s gO : Nat → Nat) : Nat → (Nat → Nat)
  | 0 => fun _ => 0
  | i + 1 => va_up (zsA s gO i) (s (gO i)) (zsA s gO i (s (gO i)) + 1)
theorem rowA_nI {n : Nat} {f : Nat → Nat} {j : Nat} (hj : j < n) (hn : n < 2 ^ 31) : rowA n f (nI j) = some (f j) := by
  unfold rowA
  rw [inB_nI hj hn, if_neg (by decide), nI_clamp (by omega)]
theorem wb_tb (n : Nat) : (lN n).toBitVec = BitVec.ofNat 64 n := rfl
theorem wb_inj {a b : Int64} (h : a.toBitVec = b.toBitVec) : a = b := Int64.toBitVec_inj.mp h
theorem wb_tn {n : Nat} (h : n < 2 ^ 64) : (lN n).toBitVec.toNat = n := by rw [wb_tb, BitVec.toNat_ofNat, Nat.mod_eq_of_lt h]
theorem wb_of (x : Int64) : ∃ n, n < 2 ^ 64 ∧ x = lN n := ⟨x.toBitVec.toNat, x.toBitVec.isLt, wb_inj (by rw [wb_tb]; simp)⟩
theorem wb_of32 (x : Int32) : ∃ n, n < 2 ^ 32 ∧ x = nI n := ⟨x.toBitVec.toNat, x.toBitVec.isLt, Int32.toBitVec_inj.mp (by show _ = BitVec.ofNat 32 _; simp)⟩
theorem wb_c : ∀ k, k < 64 → ((nI k).toInt64 &&& 63) = lN k := by decide +kernel
theorem wb_cu : ∀ k, k < 64 → ((nI k).toInt64.toUInt64 &&& Int64.toUInt64 63) = UInt64.ofNat k := by decide +kernel
theorem wb_sm : ∀ k, k < 64 → (BitVec.ofNat 64 k).smod 64 = BitVec.ofNat 64 k := by decide +kernel
theorem wb_pw {a b : Nat} (h : a ≤ b) : 2 ^ b = 2 ^ a * 2 ^ (b - a) := by rw [← Nat.pow_add]; congr 1; omega
theorem wb_lt2 {a b : Nat} (h : a < b) : 2 ^ a < 2 ^ b := Nat.pow_lt_pow_right (by decide) h
theorem wb_mod (n : Nat) : lN n = lN (n % 2 ^ 64) := wb_inj (by rw [wb_tb, wb_tb]; apply BitVec.eq_of_toNat_eq; rw [BitVec.toNat_ofNat, BitVec.toNat_ofNat, Nat.mod_mod])
theorem wb_shr {n k : Nat} (hn : n < 2 ^ 64) (hk : k < 64) : ((lN n).toUInt64 >>> ((nI k).toInt64.toUInt64 &&& Int64.toUInt64 63)).toInt64 = lN (n / 2 ^ k) := by
  rw [wb_cu k hk]
  apply wb_inj
  apply BitVec.eq_of_toNat_eq
  show ((lN n).toUInt64 >>> UInt64.ofNat k).toNat = (BitVec.ofNat 64 _).toNat
  have h1 : (UInt64.ofNat k).toNat = k := by
    show (BitVec.ofNat 64 k).toNat = k
    rw [BitVec.toNat_ofNat, Nat.mod_eq_of_lt (by omega)]
  have h2 : (lN n).toUInt64.toNat = n := wb_tn hn
  rw [UInt64.toNat_shiftRight, h1, h2, Nat.mod_eq_of_lt hk, Nat.shiftRight_eq_div_pow, BitVec.toNat_ofNat, Nat.mod_eq_of_lt (Nat.lt_of_le_of_lt (Nat.div_le_self _ _) hn)]
/-! an order drawn by a seed -/
def uX (x : Int64) : Nat := x.toBitVec.toNat
theorem uX_lt (x : Int64) : uX x < 2 ^ 64 := x.toBitVec.isLt
theorem uX_of (x : Int64) : lN (uX x) = x := wb_inj (by rw [wb_tb]; unfold uX; simp)
def lcg (x : Int64) : Int64 := x * 6364136223846793005 + 1442695040888963407
def jx (x : Int64) (n : Nat) : Nat := (uX x / 2 ^ 33) % n
theorem lcg_shr (x : Int64) : (x.toUInt64 >>> ((nI 33).toInt64.toUInt64 &&& Int64.toUInt64 63)).toInt64 = lN (uX x / 2 ^ 33) := by
  have h := wb_shr (n := uX x) (k := 33) (uX_lt x) (by decide)
  rw [uX_of] at h
  exact h
theorem lcg_rem (x : Int64) {m : Nat} (h0 : 0 < m) (hm : m < 2 ^ 31) : lN (uX x / 2 ^ 33) - lN (uX x / 2 ^ 33) / lN m * lN m = lN (jx x m) := by
  have h := uX_lt x
  exact pk_lRem (by omega) h0 (by omega)
theorem lN_ne0 {m : Nat} (h0 : 0 < m) (hm : m < 2 ^ 31) : ¬ lN m = 0 := fun q => by
  have h : lN m = lN 0 := q
  have := (lN_eq hm (by decide)).mp h
  omega
def swp (r : Nat → Nat) (i j : Nat) : Nat → Nat := va_up (va_up r i (r j)) j (r i)
def shf : Nat → Int64 → (Nat → Nat) → (Nat → Nat)
  | 0, _, r => r
  | i + 1, x, r => shf i (lcg x) (swp r (i + 1) (jx (lcg x) (i + 1 + 1)))
theorem jx_lt (x : Int64) {n : Nat} (h : 0 < n) : jx x n < n := Nat.mod_lt _ h
theorem hr_dec1 {n : Nat} : nI (n + 1) + Int32.ofInt (-1) = nI n := pk_m1 n
/-- how many TESTS below i a SHARD has, and which -/
def dgN (sf : Nat → Option Nat) (q : Nat) : Nat → Nat
  | 0 => 0
  | i + 1 => dgN sf q i + (if sf i = some q then 1 else 0)
def dgR (sf : Nat → Option Nat) (q : Nat) (r : Nat → Nat) : Nat → (Nat → Nat)
  | 0 => r
  | i + 1 => if sf i = some q then va_up (dgR sf q r i) (dgN sf q i) i else dgR sf q r i
theorem dgN_le (sf : Nat → Option Nat) (q : Nat) : ∀ i : Nat, dgN sf q i ≤ i
  | 0 => Nat.le_refl _
  | i + 1 => by
    have := dgN_le sf q i
    show dgN sf q i + (if sf i = some q then 1 else 0) ≤ i + 1
    split <;> omega
theorem dgN_hit {sf : Nat → Option Nat} {q i : Nat} (h : sf i = some q) : dgN sf q (i + 1) = dgN sf q i + 1 := by
  show dgN sf q i + (if sf i = some q then 1 else 0) = _
  rw [if_pos h]
theorem dgN_miss {sf : Nat → Option Nat} {q i : Nat} (h : ¬ sf i = some q) : dgN sf q (i + 1) = dgN sf q i := by
  show dgN sf q i + (if sf i = some q then 1 else 0) = _
  rw [if_neg h]
  rfl
theorem dgR_hit {sf : Nat → Option Nat} {q i : Nat} {r : Nat → Nat} (h : sf i = some q) : dgR sf q r (i + 1) = va_up (dgR sf q r i) (dgN sf q i) i := by
  show (if sf i = some q then va_up (dgR sf q r i) (dgN sf q i) i else dgR sf q r i) = _
  rw [if_pos h]
theorem dgR_miss {sf : Nat → Option Nat} {q i : Nat} {r : Nat → Nat} (h : ¬ sf i = some q) : dgR sf q r (i + 1) = dgR sf q r i := by
  show (if sf i = some q then va_up (dgR sf q r i) (dgN sf q i) i else dgR sf q r i) = _
  rw [if_neg h]
theorem grd_S {w F : Nat → Nat} {sf : Nat → Option Nat} {G k : Nat} {g0 : Nat → Option Nat} (hk : 1 ≤ k) (h0 : ∀ g, g < G → g0 g = none) : ∀ (i g q : Nat), g < G → (grd w F sf G k g0 i).1 g = some q → q < k
  | 0, g, q, hg, h => by
    have h : g0 g = some q := h
    rw [h0 g hg] at h
    cases h
  | i + 1, g, q, hg, h => by
    by_cases e : g = (sel w (grd w F sf G k g0 i).1 G).getD 0
    · have h : va_up _ _ _ _ = some q := h
      rw [e, va_up_self] at h
      cases h
      exact lsh_lt hk
    · have h : va_up _ _ _ _ = some q := h
      rw [va_up_ne _ _ e] at h
      exact grd_S hk h0 i g q hg h
