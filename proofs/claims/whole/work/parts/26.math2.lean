/-! the class's search gives the best of all SPLITS -/
theorem ms_sum {mv : Nat → Nat → Nat} {a : Nat → Nat} : ∀ (r g : Nat), sumT (fun j => mv j (a j)) (g + r) = sumT (fun j => mv j (a j)) g + ms mv a r g
  | 0, g => rfl
  | r + 1, g => by
    have ih := ms_sum (mv := mv) (a := a) r (g + 1)
    rw [show g + (r + 1) = g + 1 + r by omega, ih]
    show sumT (fun j => mv j (a j)) g + mv g (a g) + ms mv a r (g + 1) = sumT (fun j => mv j (a j)) g + (mv g (a g) + ms mv a r (g + 1))
    omega
theorem smA_congrT {t u a : Nat → Nat} : ∀ {i : Nat}, (∀ g, g < i → t g = u g) → smA t a i = smA u a i
  | 0, _ => rfl
  | i + 1, h => by
    show va_up (smA t a i) (a i) (smA t a i (a i) + t i) = va_up (smA u a i) (a i) (smA u a i (a i) + u i)
    rw [smA_congrT (i := i) (fun g hg => h g (by omega)), h i (by omega)]
abbrev mwC (sf : Nat → Option Nat) (gO : Nat → Nat) (n gc : Nat) : (Nat → Nat) → Nat := fun a => sumT (fun g => mvI sf gO g (a g) n) gc
theorem fz_ln {t a : Nat → Nat} {G L : Nat} (ha : ∀ g, g < G → a g < 4) : fz t L a G 0 (fun _ => 0) ↔ lnM t G a ≤ L := by
  have h1 := fz_iff (t := t) (L := L) (a := a) G 0
  have h2 := smA_max (t := t) (a := a) (L := L) G ha
  have h3 : smA t a 0 = fun _ => 0 := rfl
  rw [h3] at h1
  rw [h1]
  show _ ↔ maxS (smA t a G) 4 ≤ L
  rw [h2]
  exact ⟨fun h j hj => h j (by omega) (by omega), fun h j _ hj => h j (by omega)⟩
theorem plOK_sh {gT : Nat → Nat} {sf : Nat → Option Nat} {gO : Nat → Nat} {gn K gc : Nat} {x7 : Nat → Option Nat} (h : plOK gT sf gO gn K gc x7) (hK : K ≤ 3) (hG : gc ≤ 8) (hn : gn ≤ 24) (hT : ∀ g, g < gc → gT g ≤ 2400000) : ∃ sh : Nat → Nat, (∀ g, g < gc → x7 g = some (sh g)) ∧ exOK (K + 1) gc (lnM gT gc) (mwC sf gO gn gc) sh := by
  obtain ⟨x1, x6, tr, be, h1, h2, h3⟩ := h
  generalize hL : min 2147483647 (lo x1 K gc 0 (fun _ => 0) 0) = L at h3
  have eT : ∀ a, lnM x1 gc a = lnM gT gc a := fun a => by
    show maxS (smA x1 a gc) 4 = maxS (smA gT a gc) 4
    rw [smA_congrT h1]
  have eM : ∀ a, (∀ g, g < gc → a g < K + 1) → ms x6 a gc 0 = mwC sf gO gn gc a := fun a ha => by
    have e := ms_sum (mv := x6) (a := a) gc 0
    rw [Nat.zero_add] at e
    have e2 : sumT (fun j => x6 j (a j)) 0 = 0 := rfl
    rw [e2, Nat.zero_add] at e
    rw [← e]
    exact sumT_congr (fun g hg => h2 g hg (a g) (ha g hg))
  have lnB : ∀ a, lnM x1 gc a ≤ 2400000 * 8 := fun a => maxS_le (fun q _ => by
    have h4 := smA_le (t := x1) (s := a) (B := 2400000) (i := gc) (fun g hg => by rw [h1 g hg]; exact hT g hg) q
    have h5 : 2400000 * gc ≤ 2400000 * 8 := Nat.mul_le_mul_left _ hG
    omega)
  have loA : ∀ a, (∀ g, g < gc → a g < K + 1) → lo x1 K gc 0 (fun _ => 0) 0 ≤ lnM x1 gc a := fun a ha =>
    (lo_iff gc 0 (fun _ => 0) 0).mpr ⟨Nat.zero_le _, a, fun j _ hj => ha j (by omega), (fz_ln (fun g hg => by have := ha g hg; omega)).mpr (Nat.le_refl _)⟩
  have hLlo : L = lo x1 K gc 0 (fun _ => 0) 0 := by
    have h4 := loA (fun _ => 0) (fun _ _ => by omega)
    have h5 := lnB (fun _ => 0)
    omega
  obtain ⟨-, a0, ha0, hf0⟩ := (lo_iff (t := x1) (K := K) (L := L) gc 0 (fun _ => 0) 0).mp (Nat.le_of_eq hLlo.symm)
  obtain ⟨c1, c2, c3⟩ := fs_char (t := x1) (mv := x6) (K := K) (L := L) (G := gc) gc 0 0 (fun _ => 0) tr (2147483647, be) (by omega)
  generalize fs x1 x6 K L gc gc 0 0 (fun _ => 0) tr (2147483647, be) = bb at h3 c1 c2 c3
  have cmp : ∀ a, (∀ g, g < gc → a g < K + 1) → Cmp K gc 0 tr a := fun a ha => ⟨fun j hj => absurd hj (Nat.not_lt_zero _), fun j _ hj => ha j hj⟩
  have mB : ∀ a, (∀ g, g < gc → a g < K + 1) → ms x6 a gc 0 ≤ 24 * 8 := fun a ha => by
    rw [eM a ha]
    have h4 : sumT (fun g => mvI sf gO g (a g) gn) gc ≤ 24 * gc := sumT_le (fun g _ => by have := mvI_le (sf := sf) (gO := gO) (g := g) (s := a g) gn; omega)
    have h5 : 24 * gc ≤ 24 * 8 := Nat.mul_le_mul_left _ hG
    show sumT (fun g => mvI sf gO g (a g) gn) gc ≤ 24 * 8
    omega
  have ha0' : ∀ g, g < gc → a0 g < K + 1 := fun g hg => ha0 g (Nat.zero_le _) (by omega)
  have h6 := c1 a0 (cmp a0 ha0') hf0
  have h7 := mB a0 ha0'
  rcases c3 with c3 | ⟨a, d1, d2, d3, d4, d5, d6⟩
  · rw [c3] at h6
    have h8 : (2147483647 : Nat) ≤ 0 + ms x6 a0 gc 0 := h6
    omega
  · have hda : ∀ g, g < gc → a g < K + 1 := fun g hg => d1.2 g (Nat.zero_le _) hg
    refine ⟨a, fun g hg => by rw [h3 g hg, d5 g hg], hda, fun a2 ha2 => ?_⟩
    have e1 : lnM x1 gc a ≤ L := (fz_ln (fun g hg => by have := hda g hg; omega)).mp d2
    have e2 := loA a2 ha2
    rw [← eT a, ← eT a2]
    rcases (show lnM x1 gc a < lnM x1 gc a2 ∨ lnM x1 gc a = lnM x1 gc a2 by omega) with q | q
    · exact Or.inl q
    · refine Or.inr ⟨q, ?_⟩
      have f2 : fz x1 L a2 gc 0 (fun _ => 0) := (fz_ln (fun g hg => by have := ha2 g hg; omega)).mpr (by omega)
      have e3 := c1 a2 (cmp a2 ha2) f2
      rw [← eM a hda, ← eM a2 ha2]
      rcases (show ms x6 a gc 0 < ms x6 a2 gc 0 ∨ ms x6 a gc 0 = ms x6 a2 gc 0 by omega) with z | z
      · exact Or.inl z
      · exact Or.inr ⟨z, d6 a2 (cmp a2 ha2) f2 (by omega)⟩
/-- there is but one best -/
theorem exOK_one {k G : Nat} {ln mw ln2 mw2 : (Nat → Nat) → Nat} {a b : Nat → Nat} (ha : exOK k G ln mw a) (hb : exOK k G ln2 mw2 b) (hl : ∀ c, (∀ g, g < G → c g < k) → ln c = ln2 c ∧ mw c = mw2 c) : ∀ g, g < G → a g = b g := by
  have h1 := ha.2 b hb.1
  have h2 := hb.2 a ha.1
  obtain ⟨e1, e2⟩ := hl a ha.1
  obtain ⟨e3, e4⟩ := hl b hb.1
  rw [← e1, ← e2, ← e3, ← e4] at h2
  exact cd_inj ha.1 hb.1 (by omega)
theorem sel_congr {w w2 : Nat → Nat} {gs gs2 : Nat → Option Nat} : ∀ {i : Nat}, (∀ g, g < i → w g = w2 g) → (∀ g, g < i → gs g = gs2 g) → sel w gs i = sel w2 gs2 i
  | 0, _, _ => rfl
  | i + 1, hw, hg => by
    have ih := sel_congr (i := i) (fun g h => hw g (by omega)) (fun g h => hg g (by omega))
    rw [sel, sel, ih, hg i (by omega)]
    cases e : sel w2 gs2 i with
    | none => rfl
    | some q =>
      have hq := (sel_lt e).1
      show (if gs2 i = none then (if w q < w i then some i else some q) else some q) = (if gs2 i = none then (if w2 q < w2 i then some i else some q) else some q)
      rw [hw q (by omega), hw i (by omega)]
theorem grd_congr {w w2 F F2 : Nat → Nat} {sf : Nat → Option Nat} {G k : Nat} {g0 g02 : Nat → Option Nat} (hG : 0 < G) (hw : ∀ g, g < G → w g = w2 g) (hF : ∀ g, g < G → F g = F2 g) (h0 : ∀ g, g < G → g0 g = g02 g) : ∀ i : Nat, (∀ g, g < G → (grd w F sf G k g0 i).1 g = (grd w2 F2 sf G k g02 i).1 g) ∧ (grd w F sf G k g0 i).2 = (grd w2 F2 sf G k g02 i).2
  | 0 => ⟨h0, rfl⟩
  | i + 1 => by
    obtain ⟨i1, i2⟩ := grd_congr (sf := sf) (k := k) hG hw hF h0 i
    have es := sel_congr hw i1
    have hl := sel_getD (w := w2) (gs := (grd w2 F2 sf G k g02 i).1) hG
    refine ⟨fun g hg => ?_, ?_⟩
    · show va_up _ _ _ g = va_up _ _ _ g
      rw [es, i2, hF _ hl]
      unfold va_up
      split
      · rfl
      · exact i1 g hg
    · show va_up _ _ _ = va_up _ _ _
      rw [es, i2, hF _ hl, hw _ hl]
theorem grd_sh {w F : Nat → Nat} {sf : Nat → Option Nat} {G k : Nat} {g0 : Nat → Option Nat} (hk : 1 ≤ k) (h0 : ∀ g, g < G → g0 g = none) : ∃ sh : Nat → Nat, ∀ g, g < G → (grd w F sf G k g0 G).1 g = some (sh g) ∧ sh g < k := ⟨fun g => ((grd w F sf G k g0 G).1 g).getD 0, fun g hg => by
  obtain ⟨q, hq⟩ := grd_all (w := w) (F := F) (sf := sf) (G := G) (k := k) (g0 := g0) h0 g hg
  have h1 := grd_S (w := w) (F := F) (sf := sf) (G := G) (k := k) (g0 := g0) hk h0 _ g q hg hq
  show _ = some (((grd w F sf G k g0 G).1 g).getD 0) ∧ ((grd w F sf G k g0 G).1 g).getD 0 < k
  rw [hq]
  exact ⟨rfl, h1⟩⟩
