/-! the two states side by side: what both keep, and that they answer alike -/
def RA9 (k n : Nat) (tf ff : Nat → Nat) : Prop := (1 ≤ k ∧ k ≤ 4) ∧ n ≤ 24 ∧ (∀ j, j < n → tf j ≤ 100000) ∧ (∀ j, j < n → ff j ≤ j) ∧ (∀ j, j < n → ff (ff j) = ff j)
def RS9 (n sc : Nat) (zs : Nat → Nat) (sf : Nat → Option Nat) (iS sn : Nat) : Prop := sc ≤ 4 ∧ sn ≤ n ∧ (iS < 2 ∧ (iS = 0 → sc = 0 ∧ sn = 0)) ∧ (sc = 0 → iS = 0) ∧ (∀ j, sn ≤ j → sf j = none) ∧ (∀ j, j < sn → ∃ q, sf j = some q ∧ q < sc) ∧ (∀ q, zs q ≤ 24) ∧ (∀ q, q < sc → (zs q = 0 ↔ dgN sf q sn = 0))
def RR9 (sn : Nat) (pr : Nat → Nat) (vs : Nat → Int32) (tc gd : Nat → Nat) : Prop := (∀ j, pr j < 2) ∧ (∀ j, gd j < 2) ∧ (∀ j, ¬ pr j = 0 → (vs j = 0 ↔ ¬ gd j = 0)) ∧ (∀ j, sn ≤ j → tc j = 0) ∧ (∀ j, sn ≤ j → pr j = 0)
theorem va_up_at {α : Type} (f : Nat → α) (i : Nat) (x : α) (j : Nat) : va_up f i x j = if j = i then x else f j := rfl
theorem ix_cases {n : Nat} (hn : n ≤ 24) (x : Int32) : (∃ j, j < n ∧ x = nI j ∧ inB x n = 1 ∧ inB x 24 = 1 ∧ x.toNatClampNeg = j) ∨ (inB x n = 0 ∧ ((∃ j, n ≤ j ∧ j < 24 ∧ x = nI j ∧ inB x 24 = 1 ∧ x.toNatClampNeg = j) ∨ inB x 24 = 0)) := by
  by_cases h : inB x n = 0
  · refine Or.inr ⟨h, ?_⟩
    by_cases h2 : inB x 24 = 0
    · exact Or.inr h2
    · obtain ⟨j, hj, rfl⟩ := inB_pos (by decide) h2
      refine Or.inl ⟨j, ?_, hj, rfl, inB_nI hj (by decide), nI_clamp (by omega)⟩
      rcases Nat.lt_or_ge j n with q | q
      · rw [inB_nI q (by omega)] at h
        exact absurd h (by decide)
      · exact q
  · obtain ⟨j, hj, rfl⟩ := inB_pos (by omega) h
    exact Or.inl ⟨j, hj, rfl, inB_nI hj (by omega), inB_nI (by omega) (by decide), nI_clamp (by omega)⟩
/-! the TESTS -/
theorem ra_test {k n : Nat} {tf ff : Nat → Nat} (h : RA9 k n tf ff) (x : Int32) : RA9 k ((addN n x).elim n (fun _ => n + 1)) ((addN n x).elim tf (va_up tf n)) ((addN n x).elim ff (fun _ => va_up ff n n)) ∧ n ≤ (addN n x).elim n (fun _ => n + 1) := by
  obtain ⟨hk, hn, ht, hf, hff⟩ := h
  cases e : addN n x with
  | none => exact ⟨⟨hk, hn, ht, hf, hff⟩, Nat.le_refl _⟩
  | some v =>
    have hv : n < 24 ∧ v ≤ 100000 := by
      unfold addN at e
      by_cases a : n < 24
      · rw [if_pos a] at e
        refine ⟨a, ?_⟩
        by_cases b : inB x 100001 = 0
        · rw [if_pos b] at e
          cases e
        · rw [if_neg b] at e
          obtain ⟨j, hj, rfl⟩ := inB_pos (by decide) b
          rw [nI_clamp (by omega)] at e
          cases e
          omega
      · rw [if_neg a] at e
        cases e
    refine ⟨⟨hk, ?_, fun j hj => ?_, fun j hj => ?_, fun j hj => ?_⟩, Nat.le_succ _⟩
    · show n + 1 ≤ 24
      omega
    · show va_up tf n v j ≤ _
      have hj : j < n + 1 := hj
      rw [va_up_at]
      split
      · exact hv.2
      · exact ht j (by omega)
    · show va_up ff n n j ≤ _
      have hj : j < n + 1 := hj
      rw [va_up_at]
      split
      · omega
      · exact hf j (by omega)
    · show va_up ff n n (va_up ff n n j) = va_up ff n n j
      have hj : j < n + 1 := hj
      by_cases e : j = n
      · subst e
        rw [va_up_self, va_up_self]
      · have h1 := hf j (by omega)
        rw [va_up_ne _ _ e, va_up_ne _ _ (show ¬ ff j = n by omega)]
        exact hff j (by omega)
theorem ra_time {k n : Nat} {tf ff : Nat → Nat} (h : RA9 k n tf ff) (x y : Int32) : RA9 k n ((retN n x y).elim tf (fun q => va_up tf q.1 q.2)) ff := by
  obtain ⟨hk, hn, ht, hf, hff⟩ := h
  refine ⟨hk, hn, ?_, hf, hff⟩
  intro j hj
  unfold retN
  by_cases a : inB x n = 0
  · rw [if_pos a]
    exact ht j hj
  · rw [if_neg a]
    by_cases b : inB y 100001 = 0
    · rw [if_pos b]
      exact ht j hj
    · rw [if_neg b]
      obtain ⟨v, hv, rfl⟩ := inB_pos (by decide) b
      show va_up tf x.toNatClampNeg (nI v).toNatClampNeg j ≤ _
      rw [nI_clamp (by omega), va_up_at]
      split
      · omega
      · exact ht j hj
theorem ra_join {k n : Nat} {tf ff : Nat → Nat} (h : RA9 k n tf ff) (x y : Int32) : RA9 k n tf ((joinN n ff x y).elim ff (fun q => joinF ff q.2 q.1 n)) := by
  obtain ⟨hk, hn, ht, hf, hff⟩ := h
  have key : ∀ a b : Nat, a ≤ b → (∃ i, i < n ∧ ff i = a) → ¬ a = b → (∀ j, j < n → joinF ff b a n j ≤ j) ∧ ∀ j, j < n → joinF ff b a n (joinF ff b a n j) = joinF ff b a n j := by
    intro a b hab ⟨i, hi, hia⟩ hne
    have haa : ff a = a := by rw [← hia]; exact hff i hi
    have han : a < n := by
      have := hf i hi
      omega
    refine ⟨fun j hj => ?_, fun j hj => ?_⟩
    · have h1 := hf j hj
      unfold joinF
      rw [if_pos hj]
      split <;> omega
    · have h1 := hf j hj
      by_cases e : ff j = b
      · have e1 : joinF ff b a n j = a := by
          unfold joinF
          rw [if_pos hj, if_pos e]
        rw [e1]
        unfold joinF
        rw [if_pos han, haa, if_neg hne]
      · have e1 : joinF ff b a n j = ff j := by
          unfold joinF
          rw [if_pos hj, if_neg e]
        rw [e1]
        unfold joinF
        rw [if_pos (show ff j < n by omega), hff j hj, if_neg e]
  have fin : (∀ j, j < n → (joinN n ff x y).elim ff (fun q => joinF ff q.2 q.1 n) j ≤ j) ∧ ∀ j, j < n → (joinN n ff x y).elim ff (fun q => joinF ff q.2 q.1 n) ((joinN n ff x y).elim ff (fun q => joinF ff q.2 q.1 n) j) = (joinN n ff x y).elim ff (fun q => joinF ff q.2 q.1 n) j := by
    unfold joinN
    by_cases a : inB x n = 0
    · rw [if_pos a]
      exact ⟨hf, hff⟩
    · rw [if_neg a]
      by_cases b : inB y n = 0
      · rw [if_pos b]
        exact ⟨hf, hff⟩
      · rw [if_neg b]
        obtain ⟨i, hi, rfl⟩ := inB_pos (by omega) a
        obtain ⟨j, hj, rfl⟩ := inB_pos (by omega) b
        rw [nI_clamp (show i < 2 ^ 31 by omega), nI_clamp (show j < 2 ^ 31 by omega)]
        by_cases e : ff i = ff j
        · rw [if_pos e]
          exact ⟨hf, hff⟩
        · rw [if_neg e]
          refine key (min (ff i) (ff j)) (max (ff i) (ff j)) (by omega) ?_ (by omega)
          rcases Nat.lt_or_ge (ff i) (ff j) with q | q
          · exact ⟨i, hi, by omega⟩
          · exact ⟨j, hj, by omega⟩
  exact ⟨hk, hn, ht, fin.1, fin.2⟩
theorem ra_shards {k n : Nat} {tf ff : Nat → Nat} (h : RA9 k n tf ff) (x : Int32) : RA9 ((shkN x).elim k id) n tf ff := by
  obtain ⟨hk, hr⟩ := h
  refine ⟨?_, hr⟩
  unfold shkN
  by_cases a : x < nI 1
  · rw [if_pos a]
    exact hk
  · rw [if_neg a]
    by_cases b : x ≤ nI 4
    · rw [if_pos b]
      obtain ⟨q, h1, h4, rfl⟩ := shk_ok a b
      show 1 ≤ (nI q).toNatClampNeg ∧ (nI q).toNatClampNeg ≤ 4
      rw [nI_clamp (by omega)]
      exact ⟨h1, h4⟩
    · rw [if_neg b]
      exact hk
theorem newK_in (x : Int32) : 1 ≤ newK x ∧ newK x ≤ 4 := by
  by_cases h1 : nI 1 ≤ x
  · by_cases h4 : x ≤ nI 4
    · obtain ⟨q, a, b, rfl⟩ := newK_ok h1 h4
      rw [newK_q a b]
      exact ⟨a, b⟩
    · rw [newK_gt h1 h4]
      decide
  · rw [newK_lt h1]
    decide
/-! the SPLIT, as it is read -/
theorem rs_n {n n2 sc iS sn : Nat} {zs : Nat → Nat} {sf : Nat → Option Nat} (h : RS9 n sc zs sf iS sn) (hn : n ≤ n2) : RS9 n2 sc zs sf iS sn := ⟨h.1, Nat.le_trans h.2.1 hn, h.2.2⟩
theorem rs_sf {n sc iS sn : Nat} {zs : Nat → Nat} {sf : Nat → Option Nat} (h : RS9 n sc zs sf iS sn) : ∀ j, j < 24 → ∀ q, sf j = some q → q < 4 := by
  obtain ⟨h1, h2, h3, h4, h5, h6, h7, h8⟩ := h
  intro j _ q hq
  rcases Nat.lt_or_ge j sn with a | a
  · obtain ⟨q2, e, hl⟩ := h6 j a
    rw [hq] at e
    cases e
    omega
  · rw [h5 j a] at hq
    cases hq
theorem rs_shard {n sc iS sn : Nat} {zs : Nat → Nat} {sf : Nat → Option Nat} (h : RS9 n sc zs sf iS sn) (hn : n ≤ 24) (x : Int32) : shA sf x = shB sf sn x := by
  obtain ⟨h1, h2, h3, h4, h5, h6, h7, h8⟩ := h
  unfold shA shB
  rcases ix_cases (show sn ≤ 24 by omega) x with ⟨j, hj, rfl, e1, e2, e3⟩ | ⟨e1, ⟨j, hj, hj2, rfl, e2, e3⟩ | e2⟩
  · rw [e1, e2]
  · rw [e1, e2, e3, if_neg (by decide), if_pos rfl, h5 j hj]
  · rw [e1, e2]
theorem nthZ_congr {f g : Nat → Nat} {x : Int32} : ∀ {r i seen : Nat}, (∀ j, i ≤ j → j < i + r → (f j = 0 ↔ g j = 0)) → nthZ f x r i seen = nthZ g x r i seen
  | 0, _, _, _ => rfl
  | r + 1, i, seen, h => by
    have h0 := h i (Nat.le_refl _) (by omega)
    have h1 := fun s => nthZ_congr (f := f) (g := g) (x := x) (r := r) (i := i + 1) (seen := s) (fun j a b => h j (by omega) (by omega))
    rw [nthZ, nthZ]
    by_cases a : f i = 0
    · rw [if_pos a, if_pos (h0.mp a), h1]
    · rw [if_neg a, if_neg (fun z => a (h0.mpr z)), h1]
theorem nthZ_no {f : Nat → Nat} {x : Int32} : ∀ {r i seen : Nat}, (∀ j, i ≤ j → j < i + r → ¬ f j = 0) → nthZ f x r i seen = none
  | 0, _, _, _ => rfl
  | r + 1, i, seen, h => by
    rw [nthZ, if_neg (h i (Nat.le_refl _) (by omega))]
    exact nthZ_no (fun j a b => h j (by omega) (by omega))
theorem nthZ_cut {f : Nat → Nat} {x : Int32} {d : Nat} : ∀ {r i seen : Nat}, (∀ j, i + r ≤ j → j < i + r + d → ¬ f j = 0) → nthZ f x (r + d) i seen = nthZ f x r i seen
  | 0, i, seen, h => by
    rw [Nat.zero_add]
    exact nthZ_no (fun j a b => h j (by omega) (by omega))
  | r + 1, i, seen, h => by
    have h1 := fun s => nthZ_cut (f := f) (x := x) (d := d) (r := r) (i := i + 1) (seen := s) (fun j a b => h j (by omega) (by omega))
    rw [show r + 1 + d = r + d + 1 by omega, nthZ, nthZ, h1, h1]
theorem rs_empty {n sc iS sn : Nat} {zs : Nat → Nat} {sf : Nat → Option Nat} (h : RS9 n sc zs sf iS sn) (x : Int32) : nthZ zs x sc 0 0 = nthZ (fun q => dgN sf q sn) x sc 0 0 := by
  obtain ⟨h1, h2, h3, h4, h5, h6, h7, h8⟩ := h
  exact nthZ_congr (fun j _ hj => h8 j (by omega))
theorem rs_missing {n sc iS sn : Nat} {zs : Nat → Nat} {sf : Nat → Option Nat} (h : RS9 n sc zs sf iS sn) (hn : n ≤ 24) (pr : Nat → Nat) (x : Int32) : nthZ (misZ sf pr) x 24 0 0 = nthZ pr x sn 0 0 := by
  obtain ⟨h1, h2, h3, h4, h5, h6, h7, h8⟩ := h
  have e : nthZ (misZ sf pr) x 24 0 0 = nthZ (misZ sf pr) x sn 0 0 := by
    have := nthZ_cut (f := misZ sf pr) (x := x) (d := 24 - sn) (r := sn) (i := 0) (seen := 0) (fun j a b => by
      unfold misZ
      rw [h5 j (by omega)]
      rw [if_pos rfl]
      decide)
    rw [show sn + (24 - sn) = 24 by omega] at this
    exact this
  rw [e]
  refine nthZ_congr (fun j _ hj => ?_)
  obtain ⟨q, hq, _⟩ := h6 j (by omega)
  unfold misZ
  rw [hq, if_neg (by intro z; cases z)]
  by_cases a : pr j = 0
  · rw [if_pos a]
    exact ⟨fun _ => a, fun _ => rfl⟩
  · rw [if_neg a]
    exact ⟨fun z => absurd z (by decide), fun z => absurd z a⟩
theorem dg_cut {sf : Nat → Option Nat} {q sn : Nat} (r : Nat → Nat) (h : ∀ j, sn ≤ j → sf j = none) : ∀ {d : Nat}, dgN sf q (sn + d) = dgN sf q sn ∧ dgR sf q r (sn + d) = dgR sf q r sn
  | 0 => ⟨rfl, rfl⟩
  | d + 1 => by
    have ih := dg_cut (sf := sf) (q := q) (sn := sn) r h (d := d)
    have hm : ¬ sf (sn + d) = some q := by rw [h _ (by omega)]; intro z; cases z
    rw [show sn + (d + 1) = sn + d + 1 by omega, dgN_miss hm, dgR_miss hm]
    exact ih
theorem rs_dg {n sc iS sn : Nat} {zs : Nat → Nat} {sf : Nat → Option Nat} (h : RS9 n sc zs sf iS sn) (hn : n ≤ 24) (q : Nat) (r : Nat → Nat) : dgN sf q 24 = dgN sf q sn ∧ dgR sf q r 24 = dgR sf q r sn := by
  obtain ⟨h1, h2, h3, h4, h5, h6, h7, h8⟩ := h
  have := dg_cut (q := q) r h5 (d := 24 - sn)
  rw [show sn + (24 - sn) = 24 by omega] at this
  exact this
theorem dn_draw {dn sc sn : Nat} {sf : Nat → Option Nat} (h : dn ≤ 24) (x : Int32) : (drwN sc x).elim dn (fun q => dgN sf q 24) ≤ 24 := by
  cases drwN sc x with
  | none => exact h
  | some q => exact dgN_le sf q 24
/-! RESULTS -/
theorem rr_tries {sn : Nat} {pr tc gd : Nat → Nat} {vs : Nat → Int32} (h : RR9 sn pr vs tc gd) (hn : sn ≤ 24) (x : Int32) : hasB tc x = (rowA sn tc x).getD 0 := by
  obtain ⟨h1, h2, h3, h4, h5⟩ := h
  unfold hasB rowA
  rcases ix_cases hn x with ⟨j, hj, rfl, e1, e2, e3⟩ | ⟨e1, ⟨j, hj, hj2, rfl, e2, e3⟩ | e2⟩
  · rw [e1, e2]
    rfl
  · rw [e1, e2, e3, if_neg (by decide), if_pos rfl, h4 j hj]
    rfl
  · rw [e1, e2]
    rfl
theorem rr_again {sn : Nat} {pr tc gd : Nat → Nat} {vs : Nat → Int32} (h : RR9 sn pr vs tc gd) (hn : sn ≤ 24) (x : Int32) : dropN pr vs x = agN sn pr gd x := by
  obtain ⟨h1, h2, h3, h4, h5⟩ := h
  unfold dropN agN badB
  rcases ix_cases hn x with ⟨j, hj, rfl, e1, e2, e3⟩ | ⟨e1, ⟨j, hj, hj2, rfl, e2, e3⟩ | e2⟩
  · rw [e1, e2, e3, if_neg (show ¬ (1 : Nat) = 0 by decide), if_neg (show ¬ (1 : Nat) = 0 by decide)]
    by_cases a : pr j = 0
    · rw [if_pos a, if_pos rfl, if_pos a]
    · rw [if_neg a, if_neg a]
      have h9 := h3 j a
      by_cases b : vs j = 0
      · rw [if_pos b, if_pos rfl, if_neg (h9.mp b)]
      · rw [if_neg b, if_neg (by decide)]
        by_cases c : gd j = 0
        · rw [if_pos c]
        · exact absurd (h9.mpr c) b
  · rw [e1, e2, e3, if_neg (show ¬ (1 : Nat) = 0 by decide), if_pos (h5 j hj), if_pos rfl, if_pos rfl]
  · rw [e1, e2, if_pos rfl, if_pos rfl, if_pos rfl]
theorem rr_again2 {sn : Nat} {pr tc gd : Nat → Nat} {vs : Nat → Int32} (h : RR9 sn pr vs tc gd) (o : Option Nat) : RR9 sn (o.elim pr (fun j => va_up pr j 0)) vs tc gd := by
  cases o with
  | none => exact h
  | some i =>
    obtain ⟨h1, h2, h3, h4, h5⟩ := h
    refine ⟨fun j => ?_, h2, fun j hj => ?_, h4, fun j hj => ?_⟩
    · show va_up pr i 0 j < 2
      rw [va_up_at]
      split
      · decide
      · exact h1 j
    · refine h3 j (fun z => hj ?_)
      show va_up pr i 0 j = 0
      rw [va_up_at]
      split
      · rfl
      · exact z
    · show va_up pr i 0 j = 0
      rw [va_up_at]
      split
      · rfl
      · exact h5 j hj
theorem rr_result {n sc iS sn : Nat} {zs : Nat → Nat} {sf : Nat → Option Nat} (h : RS9 n sc zs sf iS sn) (hn : n ≤ 24) (pr : Nat → Nat) (x y : Int32) : rsC sf sc x y = rmC sf sc sn x y ∧ rsP sf sc pr x y = rmP sf sc sn pr x y ∧ rsA sf sc pr x y = rmA sf sc sn pr x y ∧ ∀ i, rmP sf sc sn pr x y = some i → i < sn := by
  obtain ⟨h1, h2, h3, h4, h5, h6, h7, h8⟩ := h
  have eC : rsC sf sc x y = rmC sf sc sn x y := by
    unfold rsC rmC shA
    rcases ix_cases (show sn ≤ 24 by omega) x with ⟨j, hj, rfl, e1, e2, e3⟩ | ⟨e1, ⟨j, hj, hj2, rfl, e2, e3⟩ | e2⟩
    · rw [e1, e2, e3, if_neg (show ¬ (1 : Nat) = 0 by decide), if_neg (show ¬ (1 : Nat) = 0 by decide)]
      obtain ⟨q, hq, _⟩ := h6 j hj
      rw [hq]
      rfl
    · rw [e1, e2, e3, if_neg (show ¬ (1 : Nat) = 0 by decide), if_pos rfl, h5 j hj]
    · rw [e1, e2, if_pos rfl, if_pos rfl]
  have e2' : rmC sf sc sn x y = 2 → ∃ j, j < sn ∧ x = nI j := fun e => by
    unfold rmC at e
    by_cases a : inB x sn = 0
    · rw [if_pos a] at e
      exact absurd e (by decide)
    · exact inB_pos (by omega) a
  have eP : rsP sf sc pr x y = rmP sf sc sn pr x y := by
    unfold rsP rmP
    rw [eC]
    by_cases e : rmC sf sc sn x y = 2
    · rw [if_pos e, if_pos e]
      obtain ⟨j, hj, rfl⟩ := e2' e
      unfold putN
      rw [inB_nI (show j < 24 by omega) (by decide), if_neg (by decide)]
    · rw [if_neg e, if_neg e]
  refine ⟨eC, eP, ?_, fun i hi => ?_⟩
  · unfold rsA rmA
    rw [eC, ← eP]
    by_cases a : rmC sf sc sn x y = 0
    · rw [if_pos a, if_pos a]
    · rw [if_neg a, if_neg a]
      by_cases b : rmC sf sc sn x y = 1
      · rw [if_pos b, if_pos b]
      · rw [if_neg b, if_neg b]
        unfold rsP
        rw [eC]
        have c : rmC sf sc sn x y = 2 := by
          unfold rmC at a b ⊢
          by_cases q1 : inB x sn = 0
          · rw [if_pos q1] at a
            exact absurd rfl a
          · rw [if_neg q1] at a b ⊢
            by_cases q2 : inB y sc = 0
            · rw [if_pos q2] at a
              exact absurd rfl a
            · rw [if_neg q2] at a b ⊢
              by_cases q3 : oI (sf x.toNatClampNeg) = y
              · rw [if_pos q3]
              · rw [if_neg q3] at b
                exact absurd rfl b
        rw [if_pos c]
  · unfold rmP at hi
    by_cases e : rmC sf sc sn x y = 2
    · rw [if_pos e] at hi
      obtain ⟨j, hj, rfl⟩ := e2' e
      rw [nI_clamp (show j < 2 ^ 31 by omega)] at hi
      by_cases a : pr j = 0
      · rw [if_pos a] at hi
        cases hi
        exact hj
      · rw [if_neg a] at hi
        cases hi
    · rw [if_neg e] at hi
      cases hi
theorem rr_result2 {sn : Nat} {pr tc gd : Nat → Nat} {vs : Nat → Int32} (h : RR9 sn pr vs tc gd) (z : Int32) (o : Option Nat) (ho : ∀ i, o = some i → i < sn) : RR9 sn (o.elim pr (fun j => va_up pr j 1)) (o.elim vs (fun j => upd vs j z)) (o.elim tc (fun j => va_up tc j (tc j + 1))) (o.elim gd (fun j => va_up gd j (if z = 0 then 1 else 0))) := by
  cases o with
  | none => exact h
  | some i =>
    have hi := ho i rfl
    obtain ⟨h1, h2, h3, h4, h5⟩ := h
    refine ⟨fun j => ?_, fun j => ?_, fun j hj => ?_, fun j hj => ?_, fun j hj => ?_⟩
    · show va_up pr i 1 j < 2
      rw [va_up_at]
      split
      · decide
      · exact h1 j
    · show va_up gd i _ j < 2
      rw [va_up_at]
      split
      · split <;> decide
      · exact h2 j
    · show upd vs i z j = 0 ↔ ¬ va_up gd i (if z = 0 then 1 else 0) j = 0
      have hj : ¬ va_up pr i 1 j = 0 := hj
      by_cases e : j = i
      · subst e
        rw [va_up_self]
        have : upd vs j z j = z := by simp [upd]
        rw [this]
        by_cases a : z = 0
        · rw [if_pos a]
          exact ⟨fun _ => by decide, fun _ => a⟩
        · rw [if_neg a]
          exact ⟨fun q => absurd q a, fun q => absurd rfl q⟩
      · rw [va_up_ne _ _ e] at hj ⊢
        have : upd vs i z j = vs j := by simp [upd, e]
        rw [this]
        exact h3 j hj
    · show va_up tc i _ j = 0
      rw [va_up_ne _ _ (by omega)]
      exact h4 j hj
    · show va_up pr i 1 j = 0
      rw [va_up_ne _ _ (by omega)]
      exact h5 j hj
theorem allB_iff {f : Nat → Nat} : ∀ {n : Nat}, allB f n = 0 ↔ ∃ j, j < n ∧ f j = 0
  | 0 => ⟨fun h => absurd h (by decide : ¬ (1 : Nat) = 0), fun ⟨j, hj, _⟩ => absurd hj (Nat.not_lt_zero _)⟩
  | n + 1 => by
    have ih := allB_iff (f := f) (n := n)
    rw [allB]
    by_cases a : allB f n = 0
    · rw [if_pos a]
      obtain ⟨j, hj, hz⟩ := ih.mp a
      exact ⟨fun _ => ⟨j, by omega, hz⟩, fun _ => rfl⟩
    · rw [if_neg a]
      by_cases b : f n = 0
      · rw [if_pos b]
        exact ⟨fun _ => ⟨n, by omega, b⟩, fun _ => rfl⟩
      · rw [if_neg b]
        refine ⟨fun h => absurd h (by decide), fun ⟨j, hj, hz⟩ => ?_⟩
        rcases (show j < n ∨ j = n by omega) with q | q
        · exact absurd (ih.mpr ⟨j, q, hz⟩) a
        · exact absurd (q ▸ hz) b
theorem nth0_iff {f : Nat → Nat} : ∀ {r i : Nat}, nthZ f (nI 0) r i 0 = none ↔ ∀ j, i ≤ j → j < i + r → ¬ f j = 0
  | 0, i => ⟨fun _ j a b => by omega, fun _ => rfl⟩
  | r + 1, i => by
    have ih := nth0_iff (f := f) (r := r) (i := i + 1)
    rw [nthZ]
    by_cases a : f i = 0
    · rw [if_pos a, if_pos rfl]
      exact ⟨fun h => (by cases h), fun h => absurd a (h i (Nat.le_refl _) (by omega))⟩
    · rw [if_neg a, ih]
      refine ⟨fun h j h1 h2 => ?_, fun h j h1 h2 => h j (by omega) (by omega)⟩
      rcases (show j = i ∨ i < j by omega) with q | q
      · rw [q]
        exact a
      · exact h j q (by omega)
theorem anyB_iff {pr : Nat → Nat} {vs : Nat → Int32} : ∀ {n : Nat}, n ≤ 24 → (anyB pr vs n = 0 ↔ ∀ j, j < n → ¬ pr j = 0 → vs j = 0)
  | 0, _ => ⟨fun _ j hj => absurd hj (Nat.not_lt_zero _), fun _ => rfl⟩
  | n + 1, hn => by
    have ih := anyB_iff (pr := pr) (vs := vs) (n := n) (by omega)
    rw [anyB, badB_nI (show n < 24 by omega)]
    by_cases a : pr n = 0
    · rw [if_pos a, if_pos rfl, ih]
      refine ⟨fun h j hj hp => ?_, fun h j hj hp => h j (by omega) hp⟩
      rcases (show j < n ∨ j = n by omega) with q | q
      · exact h j q hp
      · rw [q] at hp
        exact absurd a hp
    · rw [if_neg a]
      by_cases b : vs n = 0
      · rw [if_pos b, if_pos rfl, ih]
        refine ⟨fun h j hj hp => ?_, fun h j hj hp => h j (by omega) hp⟩
        rcases (show j < n ∨ j = n by omega) with q | q
        · exact h j q hp
        · rw [q]
          exact b
      · rw [if_neg b, if_neg (by decide)]
        exact ⟨fun h => absurd h (by decide), fun h => absurd (h n (by omega) a) b⟩
theorem rr_verdict {n sc iS sn : Nat} {zs : Nat → Nat} {sf : Nat → Option Nat} (h : RS9 n sc zs sf iS sn) (hn : n ≤ 24) {pr tc gd : Nat → Nat} {vs : Nat → Int32} (hr : RR9 sn pr vs tc gd) : vrd sf sc pr vs = vrM iS sn pr gd := by
  have hm := rs_missing h hn pr (nI 0)
  obtain ⟨h1, h2, h3, h4, h5, h6, h7, h8⟩ := h
  obtain ⟨r1, r2, r3, r4, r5⟩ := hr
  unfold vrd vrM
  rw [hm]
  by_cases a : sc = 0
  · rw [if_pos a, if_pos (h4 a)]
  · rw [if_neg a, if_neg (fun z => a (h3.2 z).1)]
    have e1 := nth0_iff (f := pr) (r := sn) (i := 0)
    have e2 := allB_iff (f := pr) (n := sn)
    by_cases b : allB pr sn = 0
    · rw [if_pos b]
      obtain ⟨j, hj, hz⟩ := e2.mp b
      rw [if_neg (fun z => (e1.mp z) j (Nat.zero_le _) (by omega) hz)]
    · have hall : ∀ j, j < sn → ¬ pr j = 0 := fun j hj hz => b (e2.mpr ⟨j, hj, hz⟩)
      rw [if_neg b, if_pos (e1.mpr (fun j _ hj => hall j (by omega)))]
      have e3 := anyB_iff (pr := pr) (vs := vs) (n := 24) (by decide)
      have e4 := allB_iff (f := gd) (n := sn)
      by_cases d : allB gd sn = 0
      · rw [if_pos d]
        obtain ⟨j, hj, hz⟩ := e4.mp d
        rw [if_neg (fun z => ((r3 j (hall j hj)).mp (e3.mp z j (by omega) (hall j hj))) hz)]
      · rw [if_neg d, if_pos (e3.mpr (fun j hj hp => ?_))]
        rcases Nat.lt_or_ge j sn with q | q
        · exact (r3 j hp).mpr (fun z => d (e4.mpr ⟨j, q, z⟩))
        · exact absurd (r5 j q) hp
