/-! what the search finds: of all SPLITS under the LENGTH that with the fewest MOVED, of those the first in order -/
/-- SHARDS as one number: their order is the order of SPLITS -/
def cd (k : Nat) (a : Nat → Nat) : Nat → Nat
  | 0 => 0
  | g + 1 => cd k a g * k + a g
theorem cd_eq {k : Nat} {a b : Nat → Nat} : ∀ {g : Nat}, (∀ j, j < g → a j = b j) → cd k a g = cd k b g
  | 0, _ => rfl
  | g + 1, h => by
    show cd k a g * k + a g = cd k b g * k + b g
    rw [cd_eq (g := g) (fun j hj => h j (by omega)), h g (by omega)]
theorem cd_up {k : Nat} {a b : Nat → Nat} {g : Nat} : ∀ {n : Nat}, cd k a g < cd k b g → (∀ j, g ≤ j → j < g + n → a j < k) → cd k a (g + n) < cd k b (g + n)
  | 0, h, _ => h
  | n + 1, h, ha => by
    have h1 := cd_up (n := n) h (fun j h1 h2 => ha j h1 (by omega))
    have h2 := ha (g + n) (by omega) (by omega)
    have h3 : (cd k a (g + n) + 1) * k ≤ cd k b (g + n) * k := Nat.mul_le_mul_right k h1
    rw [Nat.add_mul, Nat.one_mul] at h3
    show cd k a (g + n) * k + a (g + n) < cd k b (g + n) * k + b (g + n)
    omega
theorem cd_lt {k : Nat} {a b : Nat → Nat} {g G : Nat} (hg : g < G) (he : ∀ j, j < g → a j = b j) (hl : a g < b g) (ha : ∀ j, g ≤ j → j < G → a j < k) : cd k a G < cd k b G := by
  have h0 : cd k a (g + 1) < cd k b (g + 1) := by
    show cd k a g * k + a g < cd k b g * k + b g
    rw [cd_eq he]
    omega
  have h1 := cd_up (n := G - (g + 1)) h0 (fun j h1 h2 => ha j (by omega) (by omega))
  rw [show g + 1 + (G - (g + 1)) = G by omega] at h1
  exact h1
/-- the SHARDS a keep the LENGTH L from group g on -/
def fz (t : Nat → Nat) (L : Nat) (a : Nat → Nat) : Nat → Nat → (Nat → Nat) → Prop
  | 0, _, _ => True
  | r + 1, g, sm => sm (a g) + t g ≤ L ∧ fz t L a r (g + 1) (va_up sm (a g) (sm (a g) + t g))
/-- how many they move -/
def ms (mv : Nat → Nat → Nat) (a : Nat → Nat) : Nat → Nat → Nat
  | 0, _ => 0
  | r + 1, g => mv g (a g) + ms mv a r (g + 1)
def Cmp (K G g : Nat) (tr a : Nat → Nat) : Prop := (∀ j, j < g → a j = tr j) ∧ ∀ j, g ≤ j → j < G → a j < K + 1
theorem Cmp_up {K G g c : Nat} {tr a : Nat → Nat} (hc : Cmp K G g tr a) (h : a g = c) : Cmp K G (g + 1) (va_up tr g c) a := by
  refine ⟨fun j hj => ?_, fun j h1 h2 => hc.2 j (by omega) h2⟩
  rcases (show j = g ∨ j < g by omega) with q | q
  · rw [q, va_up_self, h]
  · rw [va_up_ne _ _ (by omega)]
    exact hc.1 j q
theorem Cmp_dn {K G g c : Nat} {tr a : Nat → Nat} (hc : Cmp K G (g + 1) (va_up tr g c) a) (h : c < K + 1) : Cmp K G g tr a ∧ a g = c := by
  have e : a g = c := by rw [hc.1 g (by omega), va_up_self]
  refine ⟨⟨fun j hj => ?_, fun j h1 h2 => ?_⟩, e⟩
  · rw [hc.1 j (by omega), va_up_ne _ _ (by omega)]
  · rcases (show j = g ∨ g + 1 ≤ j by omega) with q | q
    · rw [q, e]
      exact h
    · exact hc.2 j q h2
def Bst (t : Nat → Nat) (mv : Nat → Nat → Nat) (K L G r g md : Nat) (sm tr : Nat → Nat) (c : Nat) (b b2 : Nat × (Nat → Nat)) : Prop :=
  (∀ a, Cmp K G g tr a → a g < c → fz t L a r g sm → b2.1 ≤ md + ms mv a r g) ∧ b2.1 ≤ b.1 ∧ (b2 = b ∨ ∃ a, Cmp K G g tr a ∧ a g < c ∧ fz t L a r g sm ∧ b2.1 = md + ms mv a r g ∧ b2.1 < b.1 ∧ (∀ j, j < G → b2.2 j = a j) ∧ ∀ a2, Cmp K G g tr a2 → a2 g < c → fz t L a2 r g sm → md + ms mv a2 r g = b2.1 → cd (K + 1) a G ≤ cd (K + 1) a2 G)
/-- the same where no group is left -/
def Bs0 (t : Nat → Nat) (mv : Nat → Nat → Nat) (K L G r g md : Nat) (sm tr : Nat → Nat) (b b2 : Nat × (Nat → Nat)) : Prop :=
  (∀ a, Cmp K G g tr a → fz t L a r g sm → b2.1 ≤ md + ms mv a r g) ∧ b2.1 ≤ b.1 ∧ (b2 = b ∨ ∃ a, Cmp K G g tr a ∧ fz t L a r g sm ∧ b2.1 = md + ms mv a r g ∧ b2.1 < b.1 ∧ (∀ j, j < G → b2.2 j = a j) ∧ ∀ a2, Cmp K G g tr a2 → fz t L a2 r g sm → md + ms mv a2 r g = b2.1 → cd (K + 1) a G ≤ cd (K + 1) a2 G)
theorem fs_char {t : Nat → Nat} {mv : Nat → Nat → Nat} {K L G : Nat} : ∀ (r g md : Nat) (sm tr : Nat → Nat) (b : Nat × (Nat → Nat)), g + r = G → Bs0 t mv K L G r g md sm tr b (fs t mv K L G r g md sm tr b)
  | 0, g, md, sm, tr, b, hg => by
    by_cases h : md < b.1
    · have e : fs t mv K L G 0 g md sm tr b = (md, va_cpy tr b.2 0 0 G) := if_pos h
      rw [e]
      refine ⟨fun a _ _ => Nat.le_add_right _ _, Nat.le_of_lt h, Or.inr ⟨tr, ⟨fun _ _ => rfl, fun j h1 h2 => by omega⟩, trivial, rfl, h, fun j hj => ?_, fun a2 hc _ _ => ?_⟩⟩
      · show va_cpy tr b.2 0 0 G j = tr j
        rw [pk_cpy_in (by omega) (by omega), show 0 + (j - 0) = j by omega]
      · exact Nat.le_of_eq (cd_eq (fun j hj => (hc.1 j (by omega)).symm))
    · have e : fs t mv K L G 0 g md sm tr b = b := if_neg h
      rw [e]
      exact ⟨fun a _ _ => by have : md ≤ md + ms mv a 0 g := Nat.le_add_right _ _; omega, Nat.le_refl _, Or.inl rfl⟩
  | r + 1, g, md, sm, tr, b, hg => by
    have key : ∀ c, c ≤ K + 1 → Bst t mv K L G (r + 1) g md sm tr c b (fldB (fsF t mv K L G r g md sm tr) c b) := by
      intro c
      induction c with
      | zero => exact fun _ => ⟨fun a _ h => absurd h (Nat.not_lt_zero _), Nat.le_refl _, Or.inl rfl⟩
      | succ c ih =>
        intro hcK
        obtain ⟨i1, i2, i3⟩ := ih (by omega)
        generalize hbc : fldB (fsF t mv K L G r g md sm tr) c b = bc at i1 i2 i3
        have e : fldB (fsF t mv K L G r g md sm tr) (c + 1) b = fsF t mv K L G r g md sm tr c bc := by
          show fsF t mv K L G r g md sm tr c (fldB (fsF t mv K L G r g md sm tr) c b) = _
          rw [hbc]
        rw [e]
        by_cases h : sm c + t g ≤ L
        · have e2 : fsF t mv K L G r g md sm tr c bc = fs t mv K L G r (g + 1) (md + mv g c) (va_up sm c (sm c + t g)) (va_up tr g c) bc := if_pos h
          rw [e2]
          obtain ⟨j1, j2, j3⟩ := fs_char (t := t) (mv := mv) (K := K) (L := L) (G := G) r (g + 1) (md + mv g c) (va_up sm c (sm c + t g)) (va_up tr g c) bc (by omega)
          generalize fs t mv K L G r (g + 1) (md + mv g c) (va_up sm c (sm c + t g)) (va_up tr g c) bc = b2 at j1 j2 j3
          have at_c : ∀ a, Cmp K G g tr a → a g = c → fz t L a (r + 1) g sm → Cmp K G (g + 1) (va_up tr g c) a ∧ fz t L a r (g + 1) (va_up sm c (sm c + t g)) ∧ md + ms mv a (r + 1) g = md + mv g c + ms mv a r (g + 1) := by
            intro a ha hac hf
            have hf2 := hf.2
            rw [hac] at hf2
            refine ⟨Cmp_up ha hac, hf2, ?_⟩
            show md + (mv g (a g) + ms mv a r (g + 1)) = _
            rw [hac]
            omega
          refine ⟨fun a ha hac hf => ?_, by omega, ?_⟩
          · rcases (show a g = c ∨ a g < c by omega) with q | q
            · obtain ⟨k1, k2, k3⟩ := at_c a ha q hf
              rw [k3]
              exact j1 a k1 k2
            · exact Nat.le_trans j2 (i1 a ha q hf)
          · rcases j3 with j3 | ⟨a, a1, a2, a3, a4, a5, a6⟩
            · rcases i3 with i3 | ⟨a, a1, a2, a3, a4, a5, a6, a7⟩
              · exact Or.inl (j3.trans i3)
              · refine Or.inr ⟨a, a1, by omega, a3, by rw [j3]; exact a4, by rw [j3]; exact a5, fun j hj => by rw [j3]; exact a6 j hj, fun x x1 x2 x3 x4 => ?_⟩
                rcases (show x g = c ∨ x g < c by omega) with q | q
                · exact Nat.le_of_lt (cd_lt (by omega) (fun j hj => (a1.1 j hj).trans (x1.1 j hj).symm) (by omega) (fun j h1 h2 => a1.2 j h1 h2))
                · exact a7 x x1 q x3 (by rw [x4, j3])
            · obtain ⟨d1, d2⟩ := Cmp_dn a1 (by omega)
              have hfa : fz t L a (r + 1) g sm := ⟨by rw [d2]; exact h, by rw [d2]; exact a2⟩
              obtain ⟨-, -, k3⟩ := at_c a d1 d2 hfa
              refine Or.inr ⟨a, d1, by omega, hfa, by rw [k3]; exact a3, by omega, a5, fun x x1 x2 x3 x4 => ?_⟩
              rcases (show x g = c ∨ x g < c by omega) with q | q
              · obtain ⟨m1, m2, m3⟩ := at_c x x1 q x3
                exact a6 x m1 m2 (by rw [← m3]; exact x4)
              · have := i1 x x1 q x3
                omega
        · have e2 : fsF t mv K L G r g md sm tr c bc = bc := if_neg h
          rw [e2]
          have lt_c : ∀ a, a g < c + 1 → fz t L a (r + 1) g sm → a g < c := by
            intro a h1 h2
            rcases (show a g = c ∨ a g < c by omega) with q | q
            · have h3 := h2.1
              rw [q] at h3
              exact absurd h3 h
            · exact q
          refine ⟨fun a ha hac hf => i1 a ha (lt_c a hac hf) hf, i2, ?_⟩
          rcases i3 with i3 | ⟨a, a1, a2, a3, a4, a5, a6, a7⟩
          · exact Or.inl i3
          · exact Or.inr ⟨a, a1, by omega, a3, a4, a5, a6, fun x x1 x2 x3 x4 => a7 x x1 (lt_c x x2 x3) x3 x4⟩
    obtain ⟨i1, i2, i3⟩ := key (K + 1) (Nat.le_refl _)
    rw [fs_succ]
    refine ⟨fun a ha hf => i1 a ha (ha.2 g (by omega) (by omega)) hf, i2, ?_⟩
    rcases i3 with i3 | ⟨a, a1, a2, a3, a4, a5, a6, a7⟩
    · exact Or.inl i3
    · exact Or.inr ⟨a, a1, a3, a4, a5, a6, fun x x1 x2 x3 => a7 x x1 (x1.2 g (by omega) (by omega)) x2 x3⟩
/-- the least LENGTH is under L just where some SHARDS keep L -/
theorem lo_iff {t : Nat → Nat} {K L : Nat} : ∀ (r g : Nat) (sm : Nat → Nat) (len : Nat), lo t K r g sm len ≤ L ↔ len ≤ L ∧ ∃ a, (∀ j, g ≤ j → j < g + r → a j < K + 1) ∧ fz t L a r g sm
  | 0, g, sm, len => ⟨fun h => ⟨h, fun _ => 0, fun j h1 h2 => by omega, trivial⟩, fun h => h.1⟩
  | r + 1, g, sm, len => by
    constructor
    · intro h
      obtain ⟨s, hs, e⟩ := mnl_at (fun s => lo t K r (g + 1) (va_up sm s (sm s + t g)) (max len (sm s + t g))) K
      have h2 : lo t K r (g + 1) (va_up sm s (sm s + t g)) (max len (sm s + t g)) ≤ L := by
        have h3 : mnl (fun s => lo t K r (g + 1) (va_up sm s (sm s + t g)) (max len (sm s + t g))) K ≤ L := h
        rw [e] at h3
        exact h3
      obtain ⟨h3, a, h4, h5⟩ := (lo_iff r (g + 1) _ _).mp h2
      refine ⟨by omega, va_up a g s, fun j h6 h7 => ?_, ?_⟩
      · by_cases q : j = g
        · rw [q, va_up_self]
          omega
        · rw [va_up_ne _ _ q]
          exact h4 j (by omega) (by omega)
      · have hz : ∀ (r2 g2 : Nat) (sm2 : Nat → Nat), g < g2 → fz t L a r2 g2 sm2 → fz t L (va_up a g s) r2 g2 sm2 := by
          intro r2
          induction r2 with
          | zero => exact fun _ _ _ _ => trivial
          | succ r2 ih2 =>
            intro g2 sm2 hl hf
            have e2 : va_up a g s g2 = a g2 := va_up_ne _ _ (by omega)
            show sm2 (va_up a g s g2) + t g2 ≤ L ∧ fz t L (va_up a g s) r2 (g2 + 1) (va_up sm2 (va_up a g s g2) (sm2 (va_up a g s g2) + t g2))
            rw [e2]
            exact ⟨hf.1, ih2 (g2 + 1) _ (by omega) hf.2⟩
        show sm (va_up a g s g) + t g ≤ L ∧ fz t L (va_up a g s) r (g + 1) (va_up sm (va_up a g s g) (sm (va_up a g s g) + t g))
        rw [va_up_self]
        exact ⟨by omega, hz r (g + 1) _ (by omega) h5⟩
    · rintro ⟨h1, a, h2, h3⟩
      have h4 : lo t K r (g + 1) (va_up sm (a g) (sm (a g) + t g)) (max len (sm (a g) + t g)) ≤ L := (lo_iff r (g + 1) _ _).mpr ⟨by have := h3.1; omega, a, fun j h5 h6 => h2 j (by omega) (by omega), h3.2⟩
      have h5 := h2 g (by omega) (by omega)
      exact Nat.le_trans (mnl_le (f := fun s => lo t K r (g + 1) (va_up sm s (sm s + t g)) (max len (sm s + t g))) (show a g ≤ K by omega)) h4
theorem fz_iff {t : Nat → Nat} {L : Nat} {a : Nat → Nat} : ∀ (r g : Nat), fz t L a r g (smA t a g) ↔ ∀ j, g ≤ j → j < g + r → smA t a j (a j) + t j ≤ L
  | 0, g => ⟨fun _ j h1 h2 => by omega, fun _ => trivial⟩
  | r + 1, g => by
    have ih := fz_iff (t := t) (L := L) (a := a) r (g + 1)
    constructor
    · rintro ⟨h1, h2⟩ j h3 h4
      rcases (show j = g ∨ g + 1 ≤ j by omega) with q | q
      · rw [q]
        exact h1
      · exact ih.mp h2 j q (by omega)
    · intro h
      exact ⟨h g (by omega) (by omega), ih.mpr (fun j h1 h2 => h j (by omega) (by omega))⟩
theorem maxS_ge {f : Nat → Nat} {q : Nat} : ∀ {n : Nat}, q < n → f q ≤ maxS f n
  | 0, h => absurd h (Nat.not_lt_zero _)
  | n + 1, h => by
    show f q ≤ max (maxS f n) (f n)
    rcases (show q = n ∨ q < n by omega) with z | z
    · rw [z]
      omega
    · have := maxS_ge (f := f) (n := n) z
      omega
theorem maxS_iff {f : Nat → Nat} {n L : Nat} : maxS f n ≤ L ↔ ∀ q, q < n → f q ≤ L := ⟨fun h q hq => Nat.le_trans (maxS_ge hq) h, fun h => maxS_le h⟩
theorem smA_max {t a : Nat → Nat} {L : Nat} : ∀ (i : Nat), (∀ j, j < i → a j < 4) → (maxS (smA t a i) 4 ≤ L ↔ ∀ j, j < i → smA t a j (a j) + t j ≤ L)
  | 0, _ => ⟨fun _ j h => absurd h (Nat.not_lt_zero _), fun _ => maxS_iff.mpr (fun q _ => Nat.zero_le _)⟩
  | i + 1, ha => by
    have ih := smA_max (t := t) (a := a) (L := L) i (fun j hj => ha j (by omega))
    have hi := ha i (by omega)
    rw [maxS_iff]
    constructor
    · intro h j hj
      have hm : maxS (smA t a i) 4 ≤ L := maxS_iff.mpr (fun q hq => by
        have h1 := h q hq
        by_cases z : q = a i
        · have h2 : va_up (smA t a i) (a i) (smA t a i (a i) + t i) q ≤ L := h1
          rw [z, va_up_self] at h2
          rw [z]
          omega
        · have h2 : va_up (smA t a i) (a i) (smA t a i (a i) + t i) q ≤ L := h1
          rw [va_up_ne _ _ z] at h2
          exact h2)
      rcases (show j = i ∨ j < i by omega) with z | z
      · have h2 : va_up (smA t a i) (a i) (smA t a i (a i) + t i) (a i) ≤ L := h (a i) hi
        rw [va_up_self] at h2
        rw [z]
        exact h2
      · exact ih.mp hm j z
    · intro h q hq
      show va_up (smA t a i) (a i) (smA t a i (a i) + t i) q ≤ L
      by_cases z : q = a i
      · rw [z, va_up_self]
        exact h i (by omega)
      · rw [va_up_ne _ _ z]
        exact maxS_iff.mp (ih.mpr (fun j hj => h j (by omega))) q hq
