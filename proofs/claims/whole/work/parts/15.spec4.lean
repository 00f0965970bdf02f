/-! the face's answers as numbers -/
def shkN (x : Int32) : Option Nat := if x < nI 1 then none else if x ≤ nI 4 then some x.toNatClampNeg else none
theorem shk_ok {x : Int32} (h1 : ¬ x < nI 1) (h4 : x ≤ nI 4) : ∃ q, 1 ≤ q ∧ q ≤ 4 ∧ x = nI q := by
  rcases pk_ix x (n := 5) (by decide) with h | h | ⟨j, hj, rfl⟩
  · refine absurd ?_ h1
    rw [Int32.lt_iff_toInt_lt, nI_toInt (by decide)]
    rw [Int32.lt_iff_toInt_lt, Int32.toInt_zero] at h
    omega
  · rw [Int32.le_iff_toInt_le, nI_toInt (by decide)] at h h4
    omega
  · refine ⟨j, ?_, by omega, rfl⟩
    rcases Nat.lt_or_ge j 1 with q | q
    · exact absurd (nI_lt q (by decide)) h1
    · exact q
/-- the x-th of i .. i + r - 1 at which f is 0, seen of them gone by -/
def nthZ (f : Nat → Nat) (x : Int32) : Nat → Nat → Nat → Option Nat
  | 0, _, _ => none
  | r + 1, i, seen => if f i = 0 then (if nI seen = x then some i else nthZ f x r (i + 1) (seen + 1)) else nthZ f x r (i + 1) seen
theorem nthZ_hit {f : Nat → Nat} {x : Int32} {r i seen : Nat} (h : f i = 0) (h2 : nI seen = x) : nthZ f x (r + 1) i seen = some i := by
  rw [nthZ, if_pos h, if_pos h2]
theorem nthZ_next {f : Nat → Nat} {x : Int32} {r i seen : Nat} (h : f i = 0) (h2 : ¬ nI seen = x) : nthZ f x (r + 1) i seen = nthZ f x r (i + 1) (seen + 1) := by
  rw [nthZ, if_pos h, if_neg h2]
theorem nthZ_skip {f : Nat → Nat} {x : Int32} {r i seen : Nat} (h : ¬ f i = 0) : nthZ f x (r + 1) i seen = nthZ f x r (i + 1) seen := by
  rw [nthZ, if_neg h]
/-- 0 where a TEST is missing -/
def misZ (sf : Nat → Option Nat) (pr : Nat → Nat) (j : Nat) : Nat := if sf j = none then 1 else if pr j = 0 then 0 else 1
theorem misZ_lt (sf : Nat → Option Nat) (pr : Nat → Nat) (j : Nat) : misZ sf pr j < 2 := by
  unfold misZ
  split
  · decide
  · split <;> decide
/-- what a RESULT is: 0 of none such, 1 strange, 2 from its own SHARD -/
def rsC (sf : Nat → Option Nat) (sc : Nat) (x y : Int32) : Nat := match shA sf x with
  | none => 0
  | some q => if inB y sc = 0 then 0 else if nI q = y then 2 else 1
def rsA (sf : Nat → Option Nat) (sc : Nat) (pr : Nat → Nat) (x y : Int32) : Int32 := if rsC sf sc x y = 0 then -1 else if rsC sf sc x y = 1 then -2 else nI ((putN pr x).elim 0 (fun _ => 1))
def rsP (sf : Nat → Option Nat) (sc : Nat) (pr : Nat → Nat) (x y : Int32) : Option Nat := if rsC sf sc x y = 2 then putN pr x else none
def drwN (sc : Nat) (x : Int32) : Option Nat := if inB x sc = 0 then none else some x.toNatClampNeg
def vrd (sf : Nat → Option Nat) (sc : Nat) (pr : Nat → Nat) (vs : Nat → Int32) : Int32 := if sc = 0 then -1 else if nthZ (misZ sf pr) (nI 0) 24 0 0 = none then (if anyB pr vs 24 = 0 then nI 1 else nI 2) else nI 0
theorem nthZ_lt {f : Nat → Nat} {x : Int32} {q : Nat} : nthZ f x 24 0 0 = some q → q < 2 ^ 31 := by
  have key : ∀ (r i seen : Nat), nthZ f x r i seen = some q → q < i + r := by
    intro r
    induction r with
    | zero => intro i seen h; cases h
    | succ r ih =>
      intro i seen h
      rw [nthZ] at h
      by_cases a : f i = 0
      · rw [if_pos a] at h
        by_cases b : nI seen = x
        · rw [if_pos b] at h
          cases h
          omega
        · rw [if_neg b] at h
          have := ih (i + 1) (seen + 1) h
          omega
      · rw [if_neg a] at h
        have := ih (i + 1) seen h
        omega
  intro h
  have := key 24 0 0 h
  omega
theorem anyB_lt (pr : Nat → Nat) (vs : Nat → Int32) : ∀ n : Nat, anyB pr vs n < 2
  | 0 => (by decide : 0 < 2)
  | n + 1 => by
    rw [anyB]
    split
    · exact anyB_lt pr vs n
    · decide
theorem joinF_miss2 {f : Nat → Nat} {g k i : Nat} (h : ¬ f i = g) : va_up (joinF f g k i) i (joinF f g k i i) = joinF f g k (i + 1) := by
  rw [← joinF_miss h]
  funext j
  unfold va_up
  by_cases e : j = i
  · rw [if_pos e, e]
  · rw [if_neg e]
theorem inB_n0 (x : Int32) : inB x 0 = 0 := by
  unfold inB
  by_cases h : x < 0
  · rw [if_pos h]
  · rw [if_neg h, if_pos (by rw [nI_0]; rw [Int32.le_iff_toInt_le, Int32.toInt_zero]; rw [Int32.lt_iff_toInt_lt, Int32.toInt_zero] at h; omega)]
/-- the SHARD of a TEST that there was at the latest SPLIT -/
def shB (sf : Nat → Option Nat) (sn : Nat) (x : Int32) : Option Nat := if inB x sn = 0 then none else sf x.toNatClampNeg
theorem shB_nI {sf : Nat → Option Nat} {sn j : Nat} (hj : j < sn) (hn : sn ≤ 24) : shB sf sn (nI j) = sf j := by
  unfold shB
  rw [inB_nI hj (by omega), if_neg (by decide), nI_clamp (by omega)]
theorem oI_ex {o : Option Nat} (h : ¬ oI o = -1) : ∃ q, o = some q := by
  cases o with
  | none => exact absurd rfl h
  | some q => exact ⟨q, rfl⟩
theorem joinN_some {n : Nat} {ff : Nat → Nat} {i k a b : Nat} (hi : i < n) (hk : k < n) (hn : n ≤ 24) (hne : ¬ ff i = ff k) (ha : a = min (ff i) (ff k)) (hb : b = max (ff i) (ff k)) : joinN n ff (nI i) (nI k) = some (a, b) := by
  unfold joinN
  rw [nI_clamp (show i < 2 ^ 31 by omega), nI_clamp (show k < 2 ^ 31 by omega), inB_nI hi (by omega), inB_nI hk (by omega), if_neg (by decide), if_neg (by decide), if_neg hne, ha, hb]
