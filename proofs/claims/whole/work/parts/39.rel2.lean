/-! the two SPLITS are one -/
theorem mvI_congr {sf : Nat → Option Nat} {gO ff : Nat → Nat} {g x s : Nat} : ∀ {i : Nat}, (∀ j, j < i → (gO j = g ↔ ff j = x)) → mvI sf gO g s i = mvI sf ff x s i
  | 0, _ => rfl
  | i + 1, h => by
    have ih := mvI_congr (sf := sf) (gO := gO) (ff := ff) (g := g) (x := x) (s := s) (i := i) (fun j hj => h j (by omega))
    have h1 := h i (by omega)
    show mvI sf gO g s i + (if gO i = g then mvdB (sf i) s else 0) = mvI sf ff x s i + (if ff i = x then mvdB (sf i) s else 0)
    rw [ih]
    by_cases a : gO i = g
    · rw [if_pos a, if_pos (h1.mp a)]
    · rw [if_neg a, if_neg (fun z => a (h1.mpr z))]
theorem sumT_one {f : Nat → Nat} {x v : Nat} : ∀ {G : Nat}, sumT (fun g => f g + (if x = g then v else 0)) G = sumT f G + (if x < G then v else 0)
  | 0 => rfl
  | G + 1 => by
    have ih := sumT_one (f := f) (x := x) (v := v) (G := G)
    show sumT (fun g => f g + (if x = g then v else 0)) G + (f G + (if x = G then v else 0)) = sumT f G + f G + (if x < G + 1 then v else 0)
    rw [ih]
    by_cases a : x = G
    · rw [if_pos a, if_neg (show ¬ x < G by omega), if_pos (show x < G + 1 by omega)]
      omega
    · rw [if_neg a]
      by_cases b : x < G
      · rw [if_pos b, if_pos (show x < G + 1 by omega)]
        omega
      · rw [if_neg b, if_neg (show ¬ x < G + 1 by omega)]
        omega
theorem mvA_sum {sf : Nat → Option Nat} {s gO : Nat → Nat} {G : Nat} : ∀ {i : Nat}, (∀ j, j < i → gO j < G) → mvA sf s gO i = sumT (fun g => mvI sf gO g (s g) i) G
  | 0, _ => by
    have : ∀ G, sumT (fun _ => 0) G = 0 := fun G => by
      induction G with
      | zero => rfl
      | succ G ih => show sumT (fun _ => 0) G + 0 = 0; rw [ih]
    exact (this G).symm
  | i + 1, h => by
    have ih := mvA_sum (sf := sf) (s := s) (gO := gO) (G := G) (i := i) (fun j hj => h j (by omega))
    have e : sumT (fun g => mvI sf gO g (s g) (i + 1)) G = sumT (fun g => mvI sf gO g (s g) i + (if gO i = g then mvdB (sf i) (s (gO i)) else 0)) G := sumT_congr (fun g hg => by
      show mvI sf gO g (s g) i + (if gO i = g then mvdB (sf i) (s g) else 0) = _
      by_cases a : gO i = g
      · rw [if_pos a, if_pos a, a]
      · rw [if_neg a, if_neg a])
    rw [e, sumT_one, if_pos (h i (by omega)), ← ih]
    rfl
theorem zsA_dg {sf : Nat → Option Nat} {s gO : Nat → Nat} {q : Nat} : ∀ {i : Nat}, (∀ j, j < i → sf j = some (s (gO j))) → zsA s gO i q = dgN sf q i
  | 0, _ => rfl
  | i + 1, h => by
    have ih := zsA_dg (sf := sf) (s := s) (gO := gO) (q := q) (i := i) (fun j hj => h j (by omega))
    show va_up (zsA s gO i) (s (gO i)) (zsA s gO i (s (gO i)) + 1) q = dgN sf q i + (if sf i = some q then 1 else 0)
    rw [h i (by omega)]
    by_cases a : q = s (gO i)
    · rw [← a, va_up_self, if_pos rfl, ih]
    · rw [va_up_ne _ _ a, if_neg (fun z => a (Option.some.inj z).symm), ih]
      rfl
theorem zsA_le {s gO : Nat → Nat} {q : Nat} : ∀ {i : Nat}, zsA s gO i q ≤ i
  | 0 => Nat.le_refl _
  | i + 1 => by
    have ih := zsA_le (s := s) (gO := gO) (q := q) (i := i)
    show va_up (zsA s gO i) (s (gO i)) (zsA s gO i (s (gO i)) + 1) q ≤ i + 1
    by_cases a : q = s (gO i)
    · rw [← a, va_up_self]
      omega
    · rw [va_up_ne _ _ a]
      omega
theorem smA_zero {t s : Nat → Nat} {q : Nat} : ∀ {i : Nat}, (∀ g, g < i → ¬ q = s g) → smA t s i q = 0
  | 0, _ => rfl
  | i + 1, h => by
    show va_up (smA t s i) (s i) (smA t s i (s i) + t i) q = 0
    rw [va_up_ne _ _ (h i (by omega))]
    exact smA_zero (fun g hg => h g (by omega))
theorem maxS_cut {f : Nat → Nat} {k : Nat} : ∀ {d : Nat}, (∀ q, k ≤ q → q < k + d → f q = 0) → maxS f (k + d) = maxS f k
  | 0, _ => rfl
  | d + 1, h => by
    show max (maxS f (k + d)) (f (k + d)) = _
    rw [maxS_cut (d := d) (fun q a b => h q a (by omega)), h (k + d) (by omega) (by omega)]
    omega
/-- all that a SPLIT is told by, alike on both sides -/
theorem split_alike {n K : Nat} {tf ff : Nat → Nat} {sf : Nat → Option Nat} {sh vF vT vO uF uT vw : Nat → Nat} {v9 : Nat → Option Nat} (hf : ∀ j, j < n → ff j ≤ j) (hff : ∀ j, j < n → ff (ff j) = ff j) (hK : K ≤ 3)
    (hg : gInv ff tf (meanN tf n) n vF vT vO v9) (hlt : ∀ g, g < grpN ff n → sh g < K + 1) (hex : grpN ff n ≤ 8 → exOK (K + 1) (grpN ff n) (lnM vT (grpN ff n)) (mwC sf vO n (grpN ff n)) sh)
    (hgr : 8 < grpN ff n → ∃ v9 : Nat → Option Nat, (∀ g, g < grpN ff n → v9 g = none) ∧ ∀ g, g < grpN ff n → (grd vT vF sf (grpN ff n) (K + 1) v9 (grpN ff n)).1 g = some (sh g))
    (hm : mInv ff tf (meanN tf n) n n uF uT) (hexM : grpN ff n ≤ 8 → exOK (K + 1) (grpN ff n) (lnM uT (grpN ff n)) (mwM sf ff uF n (grpN ff n)) vw)
    (hgrM : 8 < grpN ff n → ∀ g, g < grpN ff n → ∀ q, (grd uT uF sf (grpN ff n) (K + 1) (fun _ => none) (grpN ff n)).1 g = some q → vw g = q) :
    smA uT vw (grpN ff n) = smA vT sh (grpN ff n) ∧ maxS (smA uT vw (grpN ff n)) 4 = maxS (smA vT sh (grpN ff n)) (K + 1) ∧ mwM sf ff uF n (grpN ff n) vw = mvA sf sh vO n ∧ sfA sf vw (fun j => grpN ff (ff j)) n = sfA sf sh vO n ∧ (∀ j, j < n → sh (vO j) < K + 1) := by
  obtain ⟨g1, g2, g3⟩ := hg
  have hO : ∀ j, j < n → vO j < grpN ff n := fun j hj => by
    rw [g1 j hj]
    exact grpN_lt (hff j hj) (Nat.lt_of_le_of_lt (hf j hj) hj)
  have hFT : ∀ g, g < grpN ff n → vF g = uF g ∧ vT g = uT g ∧ ∀ j, j < n → (vO j = g ↔ ff j = uF g) := fun g hg => by
    obtain ⟨i, hi, hii, rfl⟩ := grpN_at ff hg
    obtain ⟨a1, a2⟩ := g2 i hi hii
    obtain ⟨b1, b2⟩ := hm i hi hii
    refine ⟨by rw [a1, b1], by rw [a2, b2], fun j hj => ?_⟩
    rw [g1 j hj, b1]
    exact ⟨fun z => grpN_inj (hff j hj) hii z, fun z => by rw [z]⟩
  have hmw : ∀ c : Nat → Nat, mwC sf vO n (grpN ff n) c = mwM sf ff uF n (grpN ff n) c := fun c => sumT_congr (fun g hg => mvI_congr (fun j hj => (hFT g hg).2.2 j hj))
  have hln : ∀ c : Nat → Nat, lnM vT (grpN ff n) c = lnM uT (grpN ff n) c := fun c => by
    show maxS (smA vT c (grpN ff n)) 4 = maxS (smA uT c (grpN ff n)) 4
    rw [smA_congrT (fun g hg => (hFT g hg).2.1)]
  have hs : ∀ g, g < grpN ff n → sh g = vw g := by
    rcases Nat.lt_or_ge 8 (grpN ff n) with h8 | h8
    · intro g hg
      obtain ⟨v9, a1, a2⟩ := hgr h8
      have e := (grd_congr (w := vT) (w2 := uT) (F := vF) (F2 := uF) (sf := sf) (k := K + 1) (g0 := v9) (g02 := fun _ => none) (show 0 < grpN ff n by omega) (fun g hg => (hFT g hg).2.1) (fun g hg => (hFT g hg).1) (fun g hg => a1 g hg) (grpN ff n)).1 g hg
      rw [a2 g hg] at e
      exact (hgrM h8 g hg _ e.symm).symm
    · exact exOK_one (hex h8) (hexM h8) (fun c _ => ⟨hln c, hmw c⟩)
  have esm : smA uT vw (grpN ff n) = smA vT sh (grpN ff n) := by
    rw [smA_congrT (t := vT) (u := uT) (a := sh) (fun g hg => (hFT g hg).2.1), smA_congr hs]
  refine ⟨esm, ?_, ?_, ?_, fun j hj => hlt _ (hO j hj)⟩
  · rw [esm]
    have := maxS_cut (f := smA vT sh (grpN ff n)) (k := K + 1) (d := 4 - (K + 1)) (fun q h1 h2 => smA_zero (fun g hg z => by have := hlt g hg; omega))
    rw [show K + 1 + (4 - (K + 1)) = 4 by omega] at this
    exact this
  · rw [mvA_sum hO, ← hmw]
    exact sumT_congr (fun g hg => by rw [hs g hg])
  · funext j
    unfold sfA
    by_cases a : j < n
    · rw [if_pos a, if_pos a]
      show some (vw (grpN ff (ff j))) = _
      rw [← g1 j a, hs _ (hO j a)]
    · rw [if_neg a, if_neg a]
theorem rs_split {n K sc iS sn : Nat} {zs : Nat → Nat} {sf : Nat → Option Nat} {sh vO : Nat → Nat} (h : RS9 n sc zs sf iS sn) (hn : n ≤ 24) (hK : K ≤ 3) (hs : ∀ j, j < n → sh (vO j) < K + 1) : RS9 n (K + 1) (zsA sh vO n) (sfA sf sh vO n) 1 n := by
  obtain ⟨h1, h2, h3, h4, h5, h6, h7, h8⟩ := h
  have hin : ∀ j, j < n → sfA sf sh vO n j = some (sh (vO j)) := fun j hj => if_pos hj
  refine ⟨by omega, Nat.le_refl _, ⟨by decide, fun z => absurd z (by decide)⟩, fun z => absurd z (by omega), fun j hj => ?_, fun j hj => ⟨_, hin j hj, hs j hj⟩, fun q => Nat.le_trans zsA_le hn, fun q _ => ?_⟩
  · unfold sfA
    rw [if_neg (by omega)]
    exact h5 j (by omega)
  · rw [zsA_dg hin]
theorem rr_split {n : Nat} {vs : Nat → Int32} {sn : Nat} {pr tc gd : Nat → Nat} (h : RR9 sn pr vs tc gd) : RR9 n (fun _ => 0) vs (fun _ => 0) gd := ⟨fun _ => (by decide : 0 < 2), h.2.1, fun _ z => absurd rfl z, fun _ _ => rfl, fun _ _ => rfl⟩
