/-! a grid: the rows stand behind the other cells -/
def grf (ro : Nat → Nat) : Nat → Option Nat := fun i => if i < 8 then some (ro i) else none
def rws (ro : Nat → Nat) (cI : ClassId) (mv : Nat → Nat → Nat) : va_W := (List.range 8).map (fun i => (ro i, .inl (cI, 4, .inl (fun j9 => nI (mv i j9)))))
theorem rws_at {X : va_W} {ro : Nat → Nat} {cI : ClassId} {mv : Nat → Nat → Nat} {g K : Nat} (hK : X.length = K) (hg : g < 8) : (X ++ rws ro cI mv)[K + g]? = some (ro g, .inl (cI, 4, .inl (fun j9 => nI (mv g j9)))) := by
  subst hK
  rw [List.getElem?_append_right (by omega), show X.length + g - X.length = g by omega]
  unfold rws
  rw [List.getElem?_map, List.getElem?_range hg]
  rfl
theorem rws_set {X : va_W} {ro : Nat → Nat} {cI : ClassId} {mv : Nat → Nat → Nat} {g K : Nat} {r : Nat → Nat} (hK : X.length = K) : (X ++ rws ro cI mv).set (K + g) (ro g, .inl (cI, 4, .inl (fun j9 => nI (r j9)))) = X ++ rws ro cI (va_up mv g r) := by
  subst hK
  rw [List.set_append_right _ _ (by omega), show X.length + g - X.length = g by omega]
  congr 1
  unfold rws
  apply List.ext_getElem?
  intro k
  by_cases h : g = k
  · subst h
    by_cases hk : g < 8
    · rw [List.getElem?_set_self (by simp [hk]), List.getElem?_map, List.getElem?_range hk]
      simp [va_up_self]
    · rw [List.getElem?_set, if_pos rfl, if_neg (by simp [hk]), List.getElem?_eq_none (by simp; omega)]
  · rw [List.getElem?_set_ne h, List.getElem?_map, List.getElem?_map]
    cases e : (List.range 8)[k]? with
    | none => rfl
    | some i =>
      have hi : i = k := by
        have hl := (List.getElem?_eq_some_iff.mp e).1
        rw [List.length_range] at hl
        rw [List.getElem?_range hl] at e
        cases e
        rfl
      subst hi
      simp [va_up_ne _ _ (fun z => h z.symm)]
section HR2
variable {p : Program} {l : Launch} {e : Env} {R : Room} {s : State} {m : MethodId} {args : Array Value} {below : List Frame} {meth : Method} {c : Code} {H : Heap} {locs : List Loc} {cells slots : Nat} {Q : State → Prop}
variable {cc : ByteArray} {pc : Nat} {ls : Array Slot} {rest : List Value} {D : va_G} {cl : List vw_C} {A : Nat → Prop} {a : Nat} {tys : List (ClassId × FieldType)} {ws : va_W} {H0 : Heap}
theorem hr_aaldG (hexec : p.tables.exec = Jvm.exec) (hb : c.code = cc) (hK : va_K D cl tys s) (hP : va_P D cl ws H) (q0 t0 : Nat) {cA : ClassId} {ro : Nat → Nat} (ha : ws[q0]? = some (a, .inl (cA, 8, .inr (.inr (.inr (.inr (grf ro))))))) (ht : tys[t0]? = some (cA, .array .int)) {i : Nat} (hi : i < 8) (hdg : decode cc pc = .ok (.aaload, 1)) (kk : W p l e R s m args below meth c H locs cells slots Q (F0 m (pc + 1) ls (.ref (ro i) :: rest))) : W p l e R s m args below meth c H locs cells slots Q (F0 m pc ls (.int (nI i) :: .ref a :: rest)) := by
  have hin : vp_in (nI i) 8 := vp_in_nI hi (by decide)
  have hc : (nI i).toNatClampNeg = i := nI_clamp (by omega)
  refine W.aald (v := .ref (ro i)) (ty := .array .int) hexec hb (hP q0 _ ha) ((hK.2 t0 _ ht).1 8 (fun j => va_rf (grf ro j))) rfl (fun q => by cases q) (by show ¬ (nI i < 0 ∨ (arrV _ _ _).slots.size ≤ _); rw [arrV_size]; exact hin) ?_ rfl rfl hdg kk
  show (arrV _ _ _).slots[_]? = _
  rw [hc, arrV_read _ _ hi]
  unfold grf
  rw [if_pos hi]
  rfl
/-- a call whose world is one cell -/
theorem hr_call1v {post : Unit → Prop} {e0 e1 : va_E} {mc ms : Nat} {st0 : List Value} {av : Array Value} (hr : va_Run p l e R s m args below meth c H locs cells slots mc ms (F0 m pc ls st0) rest (va_Qv post (fun _ t => va_P D cl [(a, e1)] t.heap ∧ va_D (va_A [(a, e0)] H.size) [(a, e1)]) (va_A [(a, e0)] H.size) av) (va_A [(a, e0)] H.size)) (hP : va_P D cl ws H) (hD : va_D A ws) (hS : va_S A H0 H locs) (hA : ∀ q, H0.size ≤ q → A q) (q0 : Nat) (ha : ws[q0]? = some (a, e0))
    (kk : ∀ (H1 : Heap) (locs1 : List Loc), va_P D cl (ws.set q0 (a, e1)) H1 → va_D A (ws.set q0 (a, e1)) → va_S A H0 H1 locs1 → W p l e R s m args below meth c H1 locs1 (cells + mc) (slots + ms) Q (F0 m (pc + 3) ls rest)) : W p l e R s m args below meth c H locs cells slots Q (F0 m pc ls st0) := by
  have hC : [q0].map (fun i => ws[i]?) = [(a, e0)].map some := by simp [ha]
  have hF := va_free hD hS hA [q0] hC
  refine va_callv hr hS (fun q _ h => hF q h) hF (fun u t H1 locs1 ht hvm hp hB hz hk hS1 => ?_)
  obtain ⟨hP1, hD1⟩ := hB
  rw [ht] at hP1
  refine kk H1 locs1 (fun k q hq => ?_) (hD.set ha) hS1
  by_cases e : q0 = k
  · subst e
    rw [List.getElem?_set_self (List.getElem?_eq_some_iff.mp ha).1] at hq
    cases hq
    exact hP1 0 _ rfl
  · rw [List.getElem?_set_ne e] at hq
    refine (hP k q hq).kept (hk q.1 (hP k q hq).lt (fun z => ?_))
    rcases z with ⟨k2, e2, z⟩ | z
    · have h0 : k2 < 1 := (List.getElem?_eq_some_iff.mp z).1
      rw [show k2 = 0 by omega] at z
      have hz : (a, e0) = (q.1, e2) := Option.some.inj z
      have hz2 : a = q.1 := congrArg Prod.fst hz
      exact e (hD.1 q0 k (a, e0) q ha hq hz2)
    · have := (hP k q hq).lt
      omega
theorem hr_pre1S {dC : Nat → ClassId} {dI : Nat → Nat → Nat} {cI cZ cG : ClassId} (hK : KX dC dI cI cZ cG s) (hP : va_P (dC, dI) vwCl ws H) (hD : va_D A ws) (q0 : Nat) {x : Nat × va_E} (ha : ws[q0]? = some x) {As : List Value} : PreS s H (va_Pc As (fun U => U.heap.size = H.size ∧ va_P (dC, dI) vwCl [x] U.heap ∧ KX dC dI cI cZ cG U ∧ va_D (fun _ => True) [x])) As := hr_preWS hK hP hD [q0] rfl (w := [x]) (by simp [ha])
end HR2
theorem up_back (f : Nat → Nat) (s x : Nat) : va_up (va_up f s (f s + x)) s (f s + x - x) = f := by
  funext j
  unfold va_up
  by_cases h : j = s
  · subst h
    simp
  · simp [h]
/-- one more is MOVED in a row, but for the SHARD that it had, below i -/
def amF (mv : Nat → Nat → Nat) (g o i : Nat) : Nat → Nat → Nat := fun x y => if x = g ∧ y < i ∧ ¬ y = o then mv x y + 1 else mv x y
theorem amF_0 (mv : Nat → Nat → Nat) (g o : Nat) : amF mv g o 0 = mv := by
  funext x y
  simp [amF]
theorem amF_at (mv : Nat → Nat → Nat) (g o i : Nat) : amF mv g o i g i = mv g i := by
  simp [amF]
theorem amF_up (mv : Nat → Nat → Nat) (g o i : Nat) {v : Nat} (hv : v = if i = o then 0 else 1) : va_up (amF mv g o i) g (va_up (amF mv g o i g) i (amF mv g o i g i + v)) = amF mv g o (i + 1) := by
  funext x y
  by_cases h : x = g
  · subst h
    rw [va_up_self]
    by_cases k : y = i
    · subst k
      rw [va_up_self, amF_at, hv]
      unfold amF
      by_cases z : y = o
      · simp [z]
      · simp [z]
    · rw [va_up_ne _ _ k]
      unfold amF
      by_cases l : y < i
      · simp [l, show y < i + 1 by omega]
      · simp [l, show ¬ y < i + 1 by omega]
  · rw [va_up_ne _ _ h]
    unfold amF
    simp [h]
/-- how many TESTS of GROUP g, below i, are MOVED if they go to s -/
def mvI (sf : Nat → Option Nat) (gO : Nat → Nat) (g s : Nat) : Nat → Nat
  | 0 => 0
  | i + 1 => mvI sf gO g s i + (if gO i = g then mvdB (sf i) s else 0)
theorem mvI_skip {sf : Nat → Option Nat} {gO : Nat → Nat} {g s i : Nat} (h : ¬ gO i = g) : mvI sf gO g s (i + 1) = mvI sf gO g s i := by
  show mvI sf gO g s i + (if gO i = g then mvdB (sf i) s else 0) = _
  rw [if_neg h]
  rfl
theorem mvI_no {sf : Nat → Option Nat} {gO : Nat → Nat} {g s i : Nat} (h : sf i = none) : mvI sf gO g s (i + 1) = mvI sf gO g s i := by
  show mvI sf gO g s i + (if gO i = g then mvdB (sf i) s else 0) = _
  rw [h]
  split <;> rfl
theorem mvI_0 {sf : Nat → Option Nat} {gO : Nat → Nat} {g s : Nat} : ∀ {i : Nat}, (∀ j, j < i → ¬ gO j = g) → mvI sf gO g s i = 0
  | 0, _ => rfl
  | i + 1, h => by rw [mvI_skip (h i (by omega)), mvI_0 (i := i) (fun j hj => h j (by omega))]
theorem mvI_hit {sf : Nat → Option Nat} {gO : Nat → Nat} {g s i q : Nat} (h : gO i = g) (hq : sf i = some q) : mvI sf gO g s (i + 1) = mvI sf gO g s i + (if s = q then 0 else 1) := by
  show mvI sf gO g s i + (if gO i = g then mvdB (sf i) s else 0) = _
  rw [if_pos h, hq]
  congr 1
  unfold mvdB
  by_cases z : s = q
  · simp [z]
  · simp [z]
    intro w
    exact z w.symm
theorem mvI_le {sf : Nat → Option Nat} {gO : Nat → Nat} {g s : Nat} : ∀ i : Nat, mvI sf gO g s i ≤ i
  | 0 => Nat.le_refl _
  | i + 1 => by
    have h1 := mvI_le (sf := sf) (gO := gO) (g := g) (s := s) i
    show mvI sf gO g s i + (if gO i = g then mvdB (sf i) s else 0) ≤ i + 1
    unfold mvdB
    split
    · split
      · omega
      · split <;> omega
    · omega
theorem amF_row {mv : Nat → Nat → Nat} {g o k s : Nat} (hs : s < k) : amF mv g o k g s = mv g s + (if s = o then 0 else 1) := by
  unfold amF
  by_cases z : s = o
  · simp [z]
  · simp [z, hs]
theorem amF_other {mv : Nat → Nat → Nat} {g o k x s : Nat} (h : ¬ x = g) : amF mv g o k x s = mv x s := by
  unfold amF
  simp [h]
/-! the search for the SHARDS -/
def fldB {β : Type} (F : Nat → β → β) : Nat → β → β
  | 0, b => b
  | c + 1, b => F c (fldB F c b)
theorem fldB_same {β : Type} {F : Nat → β → β} {b : β} : ∀ {c : Nat}, (∀ s, s < c → F s b = b) → fldB F c b = b
  | 0, _ => rfl
  | c + 1, h => by
    show F c (fldB F c b) = b
    rw [fldB_same (c := c) (fun s hs => h s (by omega))]
    exact h c (by omega)
theorem fldB_congr {β : Type} {F G : Nat → β → β} {b : β} : ∀ {c : Nat}, (∀ s, s < c → ∀ b, F s b = G s b) → fldB F c b = fldB G c b
  | 0, _ => rfl
  | c + 1, h => by
    show F c (fldB F c b) = G c (fldB G c b)
    rw [fldB_congr (c := c) (fun s hs => h s (by omega))]
    exact h c (by omega) _
/-- the best so far (how many MOVED, the SHARDS) when all SPLITS of groups g .. g + r - 1 under the LENGTH L have been seen -/
def fs (t : Nat → Nat) (mv : Nat → Nat → Nat) (K L G : Nat) : Nat → Nat → Nat → (Nat → Nat) → (Nat → Nat) → Nat × (Nat → Nat) → Nat × (Nat → Nat)
  | 0, _, md, _, tr, b => if md < b.1 then (md, va_cpy tr b.2 0 0 G) else b
  | r + 1, g, md, sm, tr, b => fldB (fun s b => if sm s + t g ≤ L then fs t mv K L G r (g + 1) (md + mv g s) (va_up sm s (sm s + t g)) (va_up tr g s) b else b) (K + 1) b
theorem fs_prune {t : Nat → Nat} {mv : Nat → Nat → Nat} {K L G : Nat} {mf : Nat → Nat} (h0 : mf G = 0) (hm : ∀ g, g < G → ∀ s, s < K + 1 → mf g ≤ mv g s + mf (g + 1)) : ∀ (r g md : Nat) (sm tr : Nat → Nat) (b : Nat × (Nat → Nat)), g + r = G → b.1 ≤ md + mf g → fs t mv K L G r g md sm tr b = b
  | 0, g, md, sm, tr, b, hg, hb => by
    have e : g = G := by omega
    rw [e, h0] at hb
    show (if md < b.1 then (md, va_cpy tr b.2 0 0 G) else b) = b
    rw [if_neg (by omega)]
  | r + 1, g, md, sm, tr, b, hg, hb => by
    show fldB _ (K + 1) b = b
    refine fldB_same (fun s hs => ?_)
    have h1 := hm g (by omega) s hs
    by_cases h : sm s + t g ≤ L
    · rw [if_pos h]
      exact fs_prune h0 hm r (g + 1) (md + mv g s) _ _ b (by omega) (by omega)
    · rw [if_neg h]
theorem va_cpy_congr {f f' g : Nat → Nat} {n : Nat} (h : ∀ j, j < n → f j = f' j) : va_cpy f g 0 0 n = va_cpy f' g 0 0 n := by
  funext j
  unfold va_cpy
  by_cases hj : 0 ≤ j ∧ j < 0 + n
  · rw [if_pos hj, if_pos hj]
    exact h _ (by omega)
  · rw [if_neg hj, if_neg hj]
theorem fs_congr {t : Nat → Nat} {mv : Nat → Nat → Nat} {K L G : Nat} : ∀ (r g md : Nat) (sm tr tr' : Nat → Nat) (b : Nat × (Nat → Nat)), g + r = G → (∀ j, j < g → tr j = tr' j) → fs t mv K L G r g md sm tr b = fs t mv K L G r g md sm tr' b
  | 0, g, md, sm, tr, tr', b, hg, h => by
    show (if md < b.1 then (md, va_cpy tr b.2 0 0 G) else b) = (if md < b.1 then (md, va_cpy tr' b.2 0 0 G) else b)
    rw [va_cpy_congr (fun j hj => h j (by omega))]
  | r + 1, g, md, sm, tr, tr', b, hg, h => by
    show fldB _ (K + 1) b = fldB _ (K + 1) b
    refine fldB_congr (fun s hs b2 => ?_)
    by_cases z : sm s + t g ≤ L
    · rw [if_pos z, if_pos z]
      refine fs_congr r (g + 1) _ _ _ _ b2 (by omega) (fun j hj => ?_)
      unfold va_up
      by_cases e : j = g
      · simp [e]
      · simp [e]
        exact h j (by omega)
    · rw [if_neg z, if_neg z]
/-- SHARDS of the first n from a row, the others as they were -/
def cpO (f : Nat → Nat) (g : Nat → Option Nat) (n : Nat) : Nat → Option Nat := fun j => if j < n then some (f j) else g j
theorem cpO_eq (f : Nat → Nat) (g : Nat → Option Nat) (n : Nat) : va_cpy (fun j9 => nI (f j9)) (fun j9 => oI (g j9)) 0 0 n = fun j9 => oI (cpO f g n j9) := by
  funext j
  unfold va_cpy cpO
  by_cases h : j < n
  · rw [if_pos ⟨by omega, by omega⟩, if_pos h]
    show nI (f (0 + (j - 0))) = nI (f j)
    rw [show 0 + (j - 0) = j by omega]
  · rw [if_neg (by omega), if_neg h]
theorem fs_le {t : Nat → Nat} {mv : Nat → Nat → Nat} {K L G : Nat} : ∀ (r g md : Nat) (sm tr : Nat → Nat) (b : Nat × (Nat → Nat)), (fs t mv K L G r g md sm tr b).1 ≤ b.1
  | 0, g, md, sm, tr, b => by
    show (if md < b.1 then (md, va_cpy tr b.2 0 0 G) else b).1 ≤ b.1
    split
    · show md ≤ b.1
      omega
    · exact Nat.le_refl _
  | r + 1, g, md, sm, tr, b => by
    have key : ∀ c, (fldB (fun s b => if sm s + t g ≤ L then fs t mv K L G r (g + 1) (md + mv g s) (va_up sm s (sm s + t g)) (va_up tr g s) b else b) c b).1 ≤ b.1 := by
      intro c
      induction c with
      | zero => exact Nat.le_refl _
      | succ c ih =>
        refine Nat.le_trans ?_ ih
        show (if sm c + t g ≤ L then fs t mv K L G r (g + 1) (md + mv g c) (va_up sm c (sm c + t g)) (va_up tr g c) (fldB _ c b) else fldB _ c b).1 ≤ _
        split
        · exact fs_le r (g + 1) _ _ _ _
        · exact Nat.le_refl _
    exact key (K + 1)
def fsF (t : Nat → Nat) (mv : Nat → Nat → Nat) (K L G r g md : Nat) (sm tr : Nat → Nat) : Nat → Nat × (Nat → Nat) → Nat × (Nat → Nat) := fun s b => if sm s + t g ≤ L then fs t mv K L G r (g + 1) (md + mv g s) (va_up sm s (sm s + t g)) (va_up tr g s) b else b
theorem fs_succ (t : Nat → Nat) (mv : Nat → Nat → Nat) (K L G r g md : Nat) (sm tr : Nat → Nat) (b : Nat × (Nat → Nat)) : fs t mv K L G (r + 1) g md sm tr b = fldB (fsF t mv K L G r g md sm tr) (K + 1) b := rfl
theorem fs_step {t : Nat → Nat} {mv : Nat → Nat → Nat} {K L G r g md q : Nat} {sm tr ts : Nat → Nat} {b : Nat × (Nat → Nat)} {b1 : Nat} {b2 : Nat → Nat} (hb : (b1, b2) = fldB (fsF t mv K L G r g md sm tr) q b) (h : sm q + t g ≤ L) (hg : g + (r + 1) = G) (hts : ∀ j, j < g → ts j = tr j) : ((fs t mv K L G r (g + 1) (md + mv g q) (va_up sm q (sm q + t g)) (va_up ts g q) (b1, b2)).1, (fs t mv K L G r (g + 1) (md + mv g q) (va_up sm q (sm q + t g)) (va_up ts g q) (b1, b2)).2) = fldB (fsF t mv K L G r g md sm tr) (q + 1) b := by
  show _ = fsF t mv K L G r g md sm tr q (fldB (fsF t mv K L G r g md sm tr) q b)
  rw [← hb]
  show _ = if sm q + t g ≤ L then fs t mv K L G r (g + 1) (md + mv g q) (va_up sm q (sm q + t g)) (va_up tr g q) (b1, b2) else (b1, b2)
  rw [if_pos h]
  refine fs_congr r (g + 1) _ _ _ _ _ (by omega) (fun j hj => ?_)
  unfold va_up
  by_cases e : j = g
  · simp [e]
  · simp [e]
    exact hts j (by omega)
theorem fs_skip {t : Nat → Nat} {mv : Nat → Nat → Nat} {K L G r g md q : Nat} {sm tr : Nat → Nat} {b : Nat × (Nat → Nat)} {b1 : Nat} {b2 : Nat → Nat} (hb : (b1, b2) = fldB (fsF t mv K L G r g md sm tr) q b) (h : L < sm q + t g) : (b1, b2) = fldB (fsF t mv K L G r g md sm tr) (q + 1) b := by
  show _ = fsF t mv K L G r g md sm tr q (fldB (fsF t mv K L G r g md sm tr) q b)
  rw [← hb]
  show _ = if sm q + t g ≤ L then fs t mv K L G r (g + 1) (md + mv g q) (va_up sm q (sm q + t g)) (va_up tr g q) (b1, b2) else (b1, b2)
  rw [if_neg (by omega)]
section HR3
variable {p : Program} {l : Launch} {e : Env} {R : Room} {s : State} {m : MethodId} {args : Array Value} {below : List Frame} {meth : Method} {c : Code} {H : Heap} {locs : List Loc} {cells slots : Nat} {Q : State → Prop}
variable {cc : ByteArray} {pc : Nat} {ls : Array Slot} {rest : List Value} {D : va_G} {cl : List vw_C} {A : Nat → Prop} {a : Nat} {tys : List (ClassId × FieldType)} {ws : va_W} {H0 : Heap}
theorem hr_copy {own : String} {index : Nat} (hexec : p.tables.exec = Jvm.exec) (hb : c.code = cc) (hml : c.maxLocals = ls.size) (hown : s.vm.findClass own = some m.cls) (hlink : (Cond.methodLink own index arraycopyName).before args s = true) (hnat : (Cond.native arraycopyName).before args s = true) (hstat : (Cond.static arraycopyName).before args s = true) (hini : (Cond.initialized "java/lang/System").before args s = true)
    (hK : va_K D cl tys s) (hP : va_P D cl ws H) (hD : va_D A ws) (hS : va_S A H0 H locs) (q0 q1 t0 : Nat) {a0 : Nat} {c0 : ClassId} {n0 n1 : Nat} {f g : Nat → Int32} (ha0 : ws[q0]? = some (a0, .inl (c0, n0, .inl f))) (ha1 : ws[q1]? = some (a, .inl (c0, n1, .inl g))) (ht0 : tys[t0]? = some (c0, .int)) {n : Nat} (hn : n < 2 ^ 31) (h4 : n ≤ n0) (h5 : n ≤ n1)
    (hframes : 1 ≤ R.frames) (hlocals : (rest.map fun v => v.category).sum + (nativeFrameWords "java/lang/System" "arraycopy" 5 + 11) ≤ R.locals) (hdg : decode cc pc = .ok (.invokestatic index, 3))
    (kk : ∀ (H1 : Heap) (locs1 : List Loc), va_P D cl (ws.set q1 (a, .inl (c0, n1, .inl (va_cpy f g 0 0 n)))) H1 → va_D A (ws.set q1 (a, .inl (c0, n1, .inl (va_cpy f g 0 0 n)))) → va_S A H0 H1 locs1 → W p l e R s m args below meth c H1 locs1 cells slots Q (F0 m (pc + 3) ls rest)) : W p l e R s m args below meth c H locs cells slots Q (F0 m pc ls (.int (nI n) :: .int (nI 0) :: .ref a :: .int (nI 0) :: .ref a0 :: rest)) := by
  have e0 : (nI 0).toNatClampNeg = 0 := nI_clamp (by decide)
  have en : (nI n).toNatClampNeg = n := nI_clamp hn
  refine va_copyi hexec hb hml hown hlink hnat hstat hini hK hP hD hS q0 q1 t0 t0 ha0 ha1 ht0 ht0 rfl (nI_pos (by decide)) (nI_pos (by decide)) (nI_pos hn) (by rw [e0, en]; omega) (by rw [e0, en]; omega) (fun i hi => rfl) hframes hlocals hdg (fun H1 locs1 h1 h2 h3 => ?_)
  rw [e0, en] at h1 h2
  exact kk H1 locs1 h1 h2 h3
end HR3
/-- the SHARDS that the search gives -/
def plOK (gT : Nat → Nat) (sf : Nat → Option Nat) (gO : Nat → Nat) (gn K gc : Nat) (x7 : Nat → Option Nat) : Prop := ∃ (x1 : Nat → Nat) (x6 : Nat → Nat → Nat) (tr be : Nat → Nat), (∀ g, g < gc → x1 g = gT g) ∧ (∀ x, x < gc → ∀ q, q < K + 1 → x6 x q = mvI sf gO x q gn) ∧ ∀ g, g < gc → x7 g = some ((fs x1 x6 K (min 2147483647 (lo x1 K gc 0 (fun _ => 0) 0)) gc gc 0 0 (fun _ => 0) tr (2147483647, be)).2 g)
