/-! the reference's answers as numbers -/
def agN (sn : Nat) (pr gd : Nat → Nat) (x : Int32) : Option Nat := if inB x sn = 0 then none else if pr x.toNatClampNeg = 0 then none else if gd x.toNatClampNeg = 0 then some x.toNatClampNeg else none
theorem agN_nI {sn : Nat} {pr gd : Nat → Nat} {j : Nat} (hj : j < sn) (hn : sn ≤ 24) : agN sn pr gd (nI j) = if pr j = 0 then none else if gd j = 0 then some j else none := by
  unfold agN
  rw [inB_nI hj (by omega), if_neg (by decide), nI_clamp (by omega)]
def rmC (sf : Nat → Option Nat) (sc sn : Nat) (x y : Int32) : Nat := if inB x sn = 0 then 0 else if inB y sc = 0 then 0 else if oI (sf x.toNatClampNeg) = y then 2 else 1
def rmP (sf : Nat → Option Nat) (sc sn : Nat) (pr : Nat → Nat) (x y : Int32) : Option Nat := if rmC sf sc sn x y = 2 then (if pr x.toNatClampNeg = 0 then some x.toNatClampNeg else none) else none
def rmA (sf : Nat → Option Nat) (sc sn : Nat) (pr : Nat → Nat) (x y : Int32) : Int32 := if rmC sf sc sn x y = 0 then -1 else if rmC sf sc sn x y = 1 then -2 else nI ((rmP sf sc sn pr x y).elim 0 (fun _ => 1))
def allB (f : Nat → Nat) : Nat → Nat
  | 0 => 1
  | i + 1 => if allB f i = 0 then 0 else if f i = 0 then 0 else 1
theorem allB_lt (f : Nat → Nat) : ∀ n : Nat, allB f n < 2
  | 0 => (by decide : 1 < 2)
  | n + 1 => by
    rw [allB]
    split
    · decide
    · split <;> decide
def vrM (iS sn : Nat) (pr gd : Nat → Nat) : Int32 := if iS = 0 then -1 else if allB pr sn = 0 then nI 0 else if allB gd sn = 0 then nI 2 else nI 1
/-- what the reference's rows of GROUPS hold when the TESTS below i have been gathered -/
def mInv (ff tf : Nat → Nat) (mn n i : Nat) (gF gT : Nat → Nat) : Prop := ∀ j, j < i → ff j = j → gF (grpN ff j) = j ∧ gT (grpN ff j) = wT ff (efT tf mn) j n
theorem smA_le {t s : Nat → Nat} {B : Nat} : ∀ {i : Nat}, (∀ j, j < i → t j ≤ B) → ∀ q, smA t s i q ≤ B * i
  | 0, _, q => Nat.zero_le _
  | i + 1, h, q => by
    have h1 := smA_le (t := t) (s := s) (B := B) (i := i) (fun j hj => h j (by omega))
    have h2 := h i (by omega)
    rw [Nat.mul_succ]
    show va_up (smA t s i) (s i) (smA t s i (s i) + t i) q ≤ _
    by_cases e : q = s i
    · rw [e, va_up_self]
      have := h1 (s i)
      omega
    · rw [va_up_ne _ _ e]
      have := h1 q
      omega
theorem sumT_le24 {f : Nat → Nat} : ∀ {i : Nat}, (∀ j, j < i → f j ≤ 24) → sumT f i ≤ 24 * i := fun h => sumT_le h
theorem mvI_if {sf : Nat → Option Nat} {gO : Nat → Nat} {g s i v : Nat} (h : v = if gO i = g then mvdB (sf i) s else 0) : mvI sf gO g s (i + 1) = mvI sf gO g s i + v := by
  rw [h]
  rfl
