/-! some GROUP is left as long as not all have been placed -/
def pcn (gs : Nat → Option Nat) : Nat → Nat
  | 0 => 0
  | i + 1 => pcn gs i + (if gs i = none then 0 else 1)
theorem pcn_ne {gs : Nat → Option Nat} {g : Nat} {x : Option Nat} : ∀ {n : Nat}, n ≤ g → pcn (va_up gs g x) n = pcn gs n
  | 0, _ => rfl
  | n + 1, h => by
    show pcn (va_up gs g x) n + (if va_up gs g x n = none then 0 else 1) = pcn gs n + (if gs n = none then 0 else 1)
    rw [pcn_ne (n := n) (by omega), va_up_ne _ _ (by omega)]
theorem pcn_up {gs : Nat → Option Nat} {g : Nat} {x : Option Nat} : ∀ {n : Nat}, pcn (va_up gs g x) n ≤ pcn gs n + 1
  | 0 => Nat.zero_le _
  | n + 1 => by
    show pcn (va_up gs g x) n + (if va_up gs g x n = none then 0 else 1) ≤ pcn gs n + (if gs n = none then 0 else 1) + 1
    by_cases e : n = g
    · rw [pcn_ne (n := n) (by omega)]
      split <;> split <;> omega
    · rw [va_up_ne _ _ e]
      have := pcn_up (gs := gs) (g := g) (x := x) (n := n)
      omega
theorem pcn_all {gs : Nat → Option Nat} : ∀ {n : Nat}, (∀ g, g < n → ¬ gs g = none) → pcn gs n = n
  | 0, _ => rfl
  | n + 1, h => by
    show pcn gs n + (if gs n = none then 0 else 1) = n + 1
    rw [pcn_all (n := n) (fun g hg => h g (by omega)), if_neg (h n (by omega))]
theorem pcn_no {gs : Nat → Option Nat} : ∀ {n : Nat}, (∀ g, g < n → gs g = none) → pcn gs n = 0
  | 0, _ => rfl
  | n + 1, h => by
    show pcn gs n + (if gs n = none then 0 else 1) = 0
    rw [pcn_no (n := n) (fun g hg => h g (by omega)), if_pos (h n (by omega))]
theorem grd_pc {w F : Nat → Nat} {sf : Nat → Option Nat} {G k : Nat} {g0 : Nat → Option Nat} (h0 : ∀ g, g < G → g0 g = none) : ∀ i : Nat, pcn (grd w F sf G k g0 i).1 G ≤ i
  | 0 => Nat.le_of_eq (pcn_no h0)
  | i + 1 => by
    have h1 := grd_pc (w := w) (F := F) (sf := sf) (k := k) h0 i
    have h2 := pcn_up (gs := (grd w F sf G k g0 i).1) (g := (sel w (grd w F sf G k g0 i).1 G).getD 0) (x := some (lsh (grd w F sf G k g0 i).2 k (sf (F ((sel w (grd w F sf G k g0 i).1 G).getD 0))))) (n := G)
    show pcn (va_up _ _ _) G ≤ i + 1
    omega
theorem grd_left {w F : Nat → Nat} {sf : Nat → Option Nat} {G k : Nat} {g0 : Nat → Option Nat} (h0 : ∀ g, g < G → g0 g = none) {i : Nat} (hi : i < G) : ∃ g, sel w (grd w F sf G k g0 i).1 G = some g := by
  have h1 := grd_pc (w := w) (F := F) (sf := sf) (k := k) h0 i
  have h2 : ∃ g, g < G ∧ (grd w F sf G k g0 i).1 g = none := Classical.byContradiction (fun h => by
    have := pcn_all (gs := (grd w F sf G k g0 i).1) (n := G) (fun g hg e => h ⟨g, hg, e⟩)
    omega)
  obtain ⟨g, hg, e⟩ := h2
  exact sel_some e hg
/-- all are placed at the end -/
theorem grd_all {w F : Nat → Nat} {sf : Nat → Option Nat} {G k : Nat} {g0 : Nat → Option Nat} (h0 : ∀ g, g < G → g0 g = none) : ∀ g, g < G → ∃ q, (grd w F sf G k g0 G).1 g = some q := by
  have key : ∀ i, i ≤ G → pcn (grd w F sf G k g0 i).1 G = i := by
    intro i
    induction i with
    | zero => exact fun _ => pcn_no h0
    | succ i ih =>
      intro hi
      obtain ⟨g, hg⟩ := grd_left (w := w) (F := F) (sf := sf) (k := k) h0 (show i < G by omega)
      have h1 := ih (by omega)
      have h2 := (sel_lt hg).2
      have h3 := (sel_lt hg).1
      have e : (grd w F sf G k g0 (i + 1)).1 = va_up (grd w F sf G k g0 i).1 g (some (lsh (grd w F sf G k g0 i).2 k (sf (F g)))) := by
        show va_up _ _ _ = _
        rw [hg]
        rfl
      rw [e]
      have key2 : ∀ n, g < n → pcn (va_up (grd w F sf G k g0 i).1 g (some (lsh (grd w F sf G k g0 i).2 k (sf (F g))))) n = pcn (grd w F sf G k g0 i).1 n + 1 := by
        intro n
        induction n with
        | zero => exact fun h => absurd h (Nat.not_lt_zero _)
        | succ n ih2 =>
          intro hn
          show pcn _ n + (if va_up (grd w F sf G k g0 i).1 g _ n = none then 0 else 1) = pcn _ n + (if (grd w F sf G k g0 i).1 n = none then 0 else 1) + 1
          rcases (show n = g ∨ g < n by omega) with q | q
          · rw [pcn_ne (n := n) (by omega), q, va_up_self, if_neg (by intro z; cases z), if_pos h2]
          · rw [ih2 q, va_up_ne _ _ (by omega)]
            omega
      rw [key2 G h3, h1]
  have hG := key G (Nat.le_refl _)
  have le : ∀ n, pcn (grd w F sf G k g0 G).1 n ≤ n := by
    intro n
    induction n with
    | zero => exact Nat.le_refl _
    | succ n ih =>
      show pcn _ n + (if (grd w F sf G k g0 G).1 n = none then 0 else 1) ≤ n + 1
      split <;> omega
  have full : ∀ n, n ≤ G → pcn (grd w F sf G k g0 G).1 (G - n) = G - n := by
    intro n
    induction n with
    | zero => exact fun _ => hG
    | succ n ih =>
      intro hn
      have h1 := ih (by omega)
      have h2 := le (G - (n + 1))
      have e : G - n = (G - (n + 1)) + 1 := by omega
      rw [e] at h1
      have h3 : pcn (grd w F sf G k g0 G).1 (G - (n + 1)) + (if (grd w F sf G k g0 G).1 (G - (n + 1)) = none then 0 else 1) = G - (n + 1) + 1 := h1
      split at h3 <;> omega
  intro g hg
  have h1 := full (G - g) (by omega)
  have h2 := full (G - (g + 1)) (by omega)
  rw [show G - (G - g) = g by omega] at h1
  rw [show G - (G - (g + 1)) = g + 1 by omega] at h2
  have h3 : pcn (grd w F sf G k g0 G).1 g + (if (grd w F sf G k g0 G).1 g = none then 0 else 1) = g + 1 := h2
  cases e : (grd w F sf G k g0 G).1 g with
  | none =>
    rw [e, if_pos rfl] at h3
    omega
  | some q => exact ⟨q, rfl⟩
def mixO (f h : Nat → Option Nat) (i : Nat) : Nat → Option Nat := fun j => if j < i then f j else h j
theorem mixO_0 (f h : Nat → Option Nat) : mixO f h 0 = h := by
  funext j
  simp [mixO]
theorem mixO_up (f h : Nat → Option Nat) (i : Nat) : va_up (mixO f h i) i (f i) = mixO f h (i + 1) := by
  funext j
  unfold va_up mixO
  by_cases e : j = i
  · subst e
    simp
  · by_cases l : j < i
    · simp [e, l, show j < i + 1 by omega]
    · simp [e, l, show ¬ j < i + 1 by omega]
theorem mixO_in {f h : Nat → Option Nat} {i j : Nat} (hj : j < i) : mixO f h i j = f j := if_pos hj
/-- SHARDS given group by group -/
def sfN (sf : Nat → Option Nat) (w gO : Nat → Nat) (n g t : Nat) : Nat → Option Nat := fun j => if j < n ∧ (gO j < g ∨ (gO j = g ∧ j < t)) then some (w (gO j)) else sf j
theorem sfN_0 (sf : Nat → Option Nat) (w gO : Nat → Nat) (n : Nat) : sfN sf w gO n 0 0 = sf := by
  funext j
  unfold sfN
  rw [if_neg (by omega)]
theorem sfN_hit {sf : Nat → Option Nat} {w gO : Nat → Nat} {n g t : Nat} (ht : t < n) (h : gO t = g) : va_up (sfN sf w gO n g t) t (some (w g)) = sfN sf w gO n g (t + 1) := by
  funext j
  unfold va_up sfN
  by_cases e : j = t
  · subst e
    rw [if_pos rfl, if_pos ⟨ht, Or.inr ⟨h, by omega⟩⟩, h]
  · rw [if_neg e]
    by_cases c1 : j < n ∧ (gO j < g ∨ (gO j = g ∧ j < t))
    · rw [if_pos c1, if_pos (by omega)]
    · rw [if_neg c1, if_neg (by omega)]
theorem sfN_miss {sf : Nat → Option Nat} {w gO : Nat → Nat} {n g t : Nat} (h : ¬ gO t = g) : va_up (sfN sf w gO n g t) t (sfN sf w gO n g t t) = sfN sf w gO n g (t + 1) := by
  funext j
  have e1 : sfN sf w gO n g (t + 1) j = sfN sf w gO n g t j := by
    unfold sfN
    by_cases c1 : j < n ∧ (gO j < g ∨ (gO j = g ∧ j < t))
    · rw [if_pos c1, if_pos (by omega)]
    · rw [if_neg c1, if_neg (fun z => c1 ⟨z.1, by
        rcases z.2 with y | y
        · exact Or.inl y
        · rcases (show j = t ∨ j < t by omega) with x | x
          · rw [x] at y
            exact absurd y.1 h
          · exact Or.inr ⟨y.1, x⟩⟩)]
  rw [e1]
  unfold va_up
  by_cases e : j = t
  · rw [if_pos e, e]
  · rw [if_neg e]
theorem sfN_next (sf : Nat → Option Nat) (w gO : Nat → Nat) (n g : Nat) : sfN sf w gO n g n = sfN sf w gO n (g + 1) 0 := by
  funext j
  unfold sfN
  by_cases c1 : j < n ∧ (gO j < g ∨ (gO j = g ∧ j < n))
  · rw [if_pos c1, if_pos (by omega)]
  · rw [if_neg c1, if_neg (by omega)]
theorem sfN_end {sf : Nat → Option Nat} {w gO : Nat → Nat} {n G : Nat} (h : ∀ j, j < n → gO j < G) : sfN sf w gO n G 0 = sfA sf w gO n := by
  funext j
  unfold sfN sfA
  by_cases c1 : j < n
  · rw [if_pos ⟨c1, Or.inl (h j c1)⟩, if_pos c1]
  · rw [if_neg (fun z => c1 z.1), if_neg c1]
