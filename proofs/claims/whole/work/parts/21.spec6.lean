/-! the reference's walk over all SPLITS, by their numbers -/
def prv : Nat → Option Nat
  | 0 => none
  | i + 1 => some i
theorem dec_prv : ∀ i : Nat, nI i + Int32.ofInt (-1) = oI (prv i)
  | 0 => (by decide +kernel : nI 0 + Int32.ofInt (-1) = -1)
  | i + 1 => pk_m1 i
def nxw (k : Nat) (w : Nat → Nat) : Nat → (Nat → Nat)
  | 0 => w
  | i + 1 => if w i = k - 1 then nxw k (va_up w i 0) i else va_up w i (w i + 1)
def nxr (k : Nat) (w : Nat → Nat) : Nat → Nat
  | 0 => 0
  | i + 1 => if w i = k - 1 then nxr k (va_up w i 0) i else 1
theorem nxr_lt (k : Nat) : ∀ (i : Nat) (w : Nat → Nat), nxr k w i < 2
  | 0, w => (by decide : 0 < 2)
  | i + 1, w => by
    rw [nxr]
    split
    · exact nxr_lt k i _
    · decide
theorem nxw_ge (k : Nat) : ∀ (i : Nat) (w : Nat → Nat) (j : Nat), i ≤ j → nxw k w i j = w j
  | 0, w, j, _ => rfl
  | i + 1, w, j, h => by
    rw [nxw]
    split
    · rw [nxw_ge k i _ j (by omega), va_up_ne _ _ (by omega)]
    · rw [va_up_ne _ _ (by omega)]
theorem nxw_dg {k : Nat} (hk : 1 ≤ k) {G : Nat} : ∀ (i : Nat) (w : Nat → Nat), (∀ g, g < G → w g < k) → ∀ g, g < G → nxw k w i g < k
  | 0, w, h, g, hg => h g hg
  | i + 1, w, h, g, hg => by
    rw [nxw]
    split
    · refine nxw_dg hk i _ (fun j hj => ?_) g hg
      by_cases e : j = i
      · rw [e, va_up_self]
        omega
      · rw [va_up_ne _ _ e]
        exact h j hj
    · rename_i hne
      by_cases e : g = i
      · rw [e, va_up_self]
        have := h g hg
        rw [e] at this
        omega
      · rw [va_up_ne _ _ e]
        exact h g hg
theorem nx_one {k : Nat} (hk : 1 ≤ k) : ∀ (i : Nat) (w : Nat → Nat), nxr k w i = 1 → cd k (nxw k w i) i = cd k w i + 1
  | 0, w, h => absurd h (by show ¬ (0 : Nat) = 1; decide)
  | i + 1, w, h => by
    rw [nxr] at h
    rw [nxw]
    by_cases e : w i = k - 1
    · rw [if_pos e] at h
      rw [if_pos e]
      have ih := nx_one hk i (va_up w i 0) h
      show cd k (nxw k (va_up w i 0) i) i * k + nxw k (va_up w i 0) i i = cd k w i * k + w i + 1
      have e2 : cd k (va_up w i 0) i = cd k w i := cd_eq (fun j hj => va_up_ne _ _ (by omega))
      rw [ih, nxw_ge k i _ i (Nat.le_refl _), va_up_self, e2, Nat.add_mul, e]
      omega
    · rw [if_neg e]
      show cd k (va_up w i (w i + 1)) i * k + va_up w i (w i + 1) i = cd k w i * k + w i + 1
      have e2 : cd k (va_up w i (w i + 1)) i = cd k w i := cd_eq (fun j hj => va_up_ne _ _ (by omega))
      rw [va_up_self, e2]
      omega
theorem nx_zero {k : Nat} (hk : 1 ≤ k) : ∀ (i : Nat) (w : Nat → Nat), nxr k w i = 0 → cd k w i + 1 = k ^ i
  | 0, w, _ => rfl
  | i + 1, w, h => by
    rw [nxr] at h
    by_cases e : w i = k - 1
    · rw [if_pos e] at h
      have ih := nx_zero hk i (va_up w i 0) h
      have e2 : cd k (va_up w i 0) i = cd k w i := cd_eq (fun j hj => va_up_ne _ _ (by omega))
      rw [e2] at ih
      show cd k w i * k + w i + 1 = k ^ (i + 1)
      rw [Nat.pow_succ, ← ih, Nat.add_mul, e]
      omega
    · rw [if_neg e] at h
      exact absurd h (by decide)
theorem cd_pow {k : Nat} {a : Nat → Nat} : ∀ {G : Nat}, (∀ g, g < G → a g < k) → cd k a G < k ^ G
  | 0, _ => (by decide : 0 < 1)
  | G + 1, h => by
    have h1 := cd_pow (a := a) (G := G) (fun g hg => h g (by omega))
    have h2 := h G (by omega)
    have h3 : (cd k a G + 1) * k ≤ k ^ G * k := Nat.mul_le_mul_right k h1
    rw [Nat.add_mul, Nat.one_mul] at h3
    show cd k a G * k + a G < k ^ (G + 1)
    rw [Nat.pow_succ]
    omega
theorem cd_inj {k : Nat} {a b : Nat → Nat} {G : Nat} (ha : ∀ g, g < G → a g < k) (hb : ∀ g, g < G → b g < k) (h : cd k a G = cd k b G) : ∀ g, g < G → a g = b g := by
  have key : ∀ g, g ≤ G → ∀ j, j < g → a j = b j := by
    intro g
    induction g with
    | zero => exact fun _ j hj => absurd hj (Nat.not_lt_zero _)
    | succ g ih =>
      intro hg j hj
      have h1 := ih (by omega)
      rcases (show j = g ∨ j < g by omega) with q | q
      · rw [q]
        rcases (show a g < b g ∨ a g = b g ∨ b g < a g by omega) with z | z | z
        · have := cd_lt (k := k) (G := G) (by omega) h1 z (fun j h2 h3 => ha j h3)
          omega
        · exact z
        · have := cd_lt (k := k) (G := G) (a := b) (b := a) (by omega) (fun j hj => (h1 j hj).symm) z (fun j h2 h3 => hb j h3)
          omega
      · exact h1 j q
  exact fun g hg => key G (Nat.le_refl _) g hg
/-- the best of all SPLITS whose number is below c -/
def exB (k G : Nat) (ln mw : (Nat → Nat) → Nat) (c : Nat) (o1 o2 : Option Nat) (bq : Nat → Nat) : Prop := (c = 0 → o1 = none ∧ o2 = none) ∧ (0 < c → o1 = some (ln bq) ∧ o2 = some (mw bq) ∧ (∀ g, g < G → bq g < k) ∧ cd k bq G < c ∧ ∀ a, (∀ g, g < G → a g < k) → cd k a G < c → ln bq < ln a ∨ (ln bq = ln a ∧ (mw bq < mw a ∨ (mw bq = mw a ∧ cd k bq G ≤ cd k a G))))
theorem exB_keep {k G : Nat} {ln mw : (Nat → Nat) → Nat} {c : Nat} {o1 o2 : Option Nat} {bq wq : Nat → Nat} (hcg : ∀ a b : Nat → Nat, (∀ g, g < G → a g = b g) → ln a = ln b ∧ mw a = mw b) (h : exB k G ln mw c o1 o2 bq) (hw : ∀ g, g < G → wq g < k) (hc : cd k wq G = c) (h0 : 0 < c) (h1 : ln bq < ln wq ∨ (ln bq = ln wq ∧ mw bq ≤ mw wq)) : exB k G ln mw (c + 1) o1 o2 bq := by
  obtain ⟨a1, a2, a3, a4, a5⟩ := h.2 h0
  refine ⟨fun z => absurd z (by omega), fun _ => ⟨a1, a2, a3, by omega, fun a ha hac => ?_⟩⟩
  rcases (show cd k a G = c ∨ cd k a G < c by omega) with q | q
  · obtain ⟨e1, e2⟩ := hcg a wq (cd_inj ha hw (by omega))
    rw [e1, e2]
    omega
  · exact a5 a ha q
theorem exB_take {k G : Nat} {ln mw : (Nat → Nat) → Nat} {c : Nat} {o1 o2 : Option Nat} {bq wq b2 : Nat → Nat} (hcg : ∀ a b : Nat → Nat, (∀ g, g < G → a g = b g) → ln a = ln b ∧ mw a = mw b) (h : exB k G ln mw c o1 o2 bq) (hw : ∀ g, g < G → wq g < k) (hc : cd k wq G = c) (hb2 : ∀ g, g < G → b2 g = wq g) (h1 : 0 < c → ln wq < ln bq ∨ (ln wq = ln bq ∧ mw wq < mw bq)) : exB k G ln mw (c + 1) (some (ln wq)) (some (mw wq)) b2 := by
  obtain ⟨e1, e2⟩ := hcg b2 wq hb2
  have e3 : cd k b2 G = cd k wq G := cd_eq hb2
  refine ⟨fun z => absurd z (by omega), fun _ => ⟨by rw [e1], by rw [e2], fun g hg => by rw [hb2 g hg]; exact hw g hg, by omega, fun a ha hac => ?_⟩⟩
  rw [e1, e2, e3]
  rcases (show cd k a G = c ∨ cd k a G < c by omega) with q | q
  · obtain ⟨f1, f2⟩ := hcg a wq (cd_inj ha hw (by omega))
    rw [f1, f2]
    omega
  · have h2 := h1 (by omega)
    obtain ⟨a1, a2, a3, a4, a5⟩ := h.2 (by omega)
    have h3 := a5 a ha q
    omega
def mixF (f h : Nat → Nat) (i : Nat) : Nat → Nat := fun j => if j < i then f j else h j
theorem mixF_0 (f h : Nat → Nat) : mixF f h 0 = h := by
  funext j
  simp [mixF]
theorem mixF_up (f h : Nat → Nat) (i : Nat) : va_up (mixF f h i) i (f i) = mixF f h (i + 1) := by
  funext j
  unfold va_up mixF
  by_cases e : j = i
  · subst e
    simp
  · by_cases l : j < i
    · simp [e, l, show j < i + 1 by omega]
    · simp [e, l, show ¬ j < i + 1 by omega]
theorem mixF_in {f h : Nat → Nat} {i j : Nat} (hj : j < i) : mixF f h i j = f j := if_pos hj
theorem smA_congr {t a b : Nat → Nat} : ∀ {i : Nat}, (∀ g, g < i → a g = b g) → smA t a i = smA t b i
  | 0, _ => rfl
  | i + 1, h => by
    show va_up (smA t a i) (a i) (smA t a i (a i) + t i) = va_up (smA t b i) (b i) (smA t b i (b i) + t i)
    rw [smA_congr (i := i) (fun g hg => h g (by omega)), h i (by omega)]
theorem sumT_congr {f h : Nat → Nat} : ∀ {i : Nat}, (∀ g, g < i → f g = h g) → sumT f i = sumT h i
  | 0, _ => rfl
  | i + 1, hh => by
    show sumT f i + f i = sumT h i + h i
    rw [sumT_congr (i := i) (fun g hg => hh g (by omega)), hh i (by omega)]
/-- what the reference's search gives: the best of all -/
def exOK (k G : Nat) (ln mw : (Nat → Nat) → Nat) (w : Nat → Nat) : Prop := (∀ g, g < G → w g < k) ∧ ∀ a, (∀ g, g < G → a g < k) → ln w < ln a ∨ (ln w = ln a ∧ (mw w < mw a ∨ (mw w = mw a ∧ cd k w G ≤ cd k a G)))
abbrev lnM (gT : Nat → Nat) (gc : Nat) : (Nat → Nat) → Nat := fun a => maxS (smA gT a gc) 4
abbrev mwM (bf : Nat → Option Nat) (ff gF : Nat → Nat) (n gc : Nat) : (Nat → Nat) → Nat := fun a => sumT (fun g => mvI bf ff (gF g) (a g) n) gc
theorem exM_cg (gT : Nat → Nat) (gc : Nat) (bf : Nat → Option Nat) (ff gF : Nat → Nat) (n : Nat) : ∀ a b : Nat → Nat, (∀ g, g < gc → a g = b g) → lnM gT gc a = lnM gT gc b ∧ mwM bf ff gF n gc a = mwM bf ff gF n gc b := fun a b h => ⟨by show maxS _ 4 = maxS _ 4; rw [smA_congr h], sumT_congr (fun g hg => by show mvI bf ff (gF g) (a g) n = _; rw [h g hg])⟩
theorem exB_ok {k G : Nat} {ln mw : (Nat → Nat) → Nat} {o1 o2 : Option Nat} {bq w : Nat → Nat} (hk : 1 ≤ k) (hcg : ∀ a b : Nat → Nat, (∀ g, g < G → a g = b g) → ln a = ln b ∧ mw a = mw b) (h : exB k G ln mw (k ^ G) o1 o2 bq) (hw : ∀ g, g < G → w g = bq g) : exOK k G ln mw w := by
  obtain ⟨a1, a2, a3, a4, a5⟩ := h.2 (Nat.pow_pos hk)
  obtain ⟨e1, e2⟩ := hcg w bq hw
  have e3 : cd k w G = cd k bq G := cd_eq hw
  refine ⟨fun g hg => by rw [hw g hg]; exact a3 g hg, fun a ha => ?_⟩
  rw [e1, e2, e3]
  exact a5 a ha (cd_pow ha)
theorem sub_dec (g : Nat) : nI g - nI 1 = nI g + Int32.ofInt (-1) := by
  rw [Int32.sub_eq_add_neg]
  rfl
theorem cd_zero {k : Nat} {a : Nat → Nat} : ∀ {G : Nat}, (∀ g, g < G → a g = 0) → cd k a G = 0
  | 0, _ => rfl
  | G + 1, h => by
    show cd k a G * k + a G = 0
    rw [cd_zero (G := G) (fun g hg => h g (by omega)), h G (by omega), Nat.zero_mul]
