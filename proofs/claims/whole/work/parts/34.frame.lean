/-! a contract over a small world holds over a larger one: what is not the method's own stays -/
theorem sub_A {ws wc : va_W} {sz : Nat} (isC : List Nat) (hC : isC.map (fun i => ws[i]?) = wc.map some) : ∀ q, va_A wc sz q → va_A ws sz q := by
  intro q h
  rcases h with ⟨k, e, h⟩ | h
  · have h1 : (isC.map (fun i => ws[i]?))[k]? = some (some (q, e)) := by rw [hC, List.getElem?_map, h]; rfl
    rw [List.getElem?_map] at h1
    cases hi : isC[k]? with
    | none => rw [hi] at h1; cases h1
    | some i => rw [hi] at h1; exact Or.inl ⟨i, e, Option.some.inj h1⟩
  · exact Or.inr h
section FR9
variable {l : Launch} {y : MethodName} {ws : List Cond} {rm : Room} {av : List Value} {sz mc ms : Nat} {dC : Nat → ClassId} {dI : Nat → Nat → Nat} {cI cZ cG : ClassId} {wc wr w : va_W}
theorem met_frI {S : Type} {post : Int32 → S → Prop} {w1 : S → va_W} (hM : Met l y ws rm (va_Pc av (fun U => U.heap.size = sz ∧ va_P (dC, dI) vwCl wc U.heap ∧ KX dC dI cI cZ cG U ∧ va_D (fun _ => True) wc)) (va_Qi post (fun u t => va_P (dC, dI) vwCl (w1 u) t.heap ∧ va_D (va_A wc sz) (w1 u)) (va_A wc sz)) mc ms (va_A wc sz)) (isC isR : List Nat) (hC : isC.map (fun i => w[i]?) = wc.map some) (hR : isR.map (fun i => w[i]?) = wr.map some) (hnC : va_nd isC = true) (hnR : va_nd isR = true) (hdis : ∀ i ∈ isR, i ∉ isC) (isN : List Nat) (wn : S → va_W) (hN : va_nd isN = true) (hs : ∀ u, isN.map (fun i => (wr ++ w1 u)[i]?) = (wn u).map some) :
    Met l y ws rm (va_Pc av (fun U => U.heap.size = sz ∧ va_P (dC, dI) vwCl w U.heap ∧ KX dC dI cI cZ cG U ∧ va_D (fun _ => True) w)) (va_Qi post (fun u t => va_P (dC, dI) vwCl (wn u) t.heap ∧ va_D (va_A w sz) (wn u)) (va_A w sz)) mc ms (va_A w sz) := by
  intro p e ha hc hk s m args below hf happ hP hK
  obtain ⟨hav, hsz, hPw, hKx, hDw⟩ := hP
  obtain ⟨n, o, h1, h2, h3, hQ, L, hL1, hL2⟩ := hM p e ha hc hk s m args below hf happ ⟨hav, hsz, hPw.sub isC (hr_fm hC), hKx, hDw.sub isC hnC hC⟩ trivial
  obtain ⟨⟨r, u, ho, hp, hP1, hD1⟩, hF1, hF2⟩ := hQ
  subst hsz
  obtain ⟨hP2, hD2⟩ := va_join (A0 := va_A w s.heap.size) hPw hDw.self isC isR hC hR hnR hdis hF2 (sub_A isC hC) hP1 hD1
  exact ⟨n, o, h1, h2, h3, ⟨⟨r, u, ho, hp, hP2.sub isN (hr_fm (hs u)), hD2.sub isN hN (hs u)⟩, hF1, fun q hq hn => hF2 q hq (fun z => hn (sub_A isC hC q z))⟩, L, hL1, fun q hq => sub_A isC hC _ (hL2 q hq)⟩
theorem met_frS {post : Int32 → Prop} (hM : Met l y ws rm (va_Pc av (fun U => va_P (dC, dI) vwCl wc U.heap ∧ KX dC dI cI cZ cG U)) (vp_Si post) 0 0 (fun _ => False)) (isC : List Nat) (hC : isC.map (fun i => w[i]?) = wc.map some) :
    Met l y ws rm (va_Pc av (fun U => va_P (dC, dI) vwCl w U.heap ∧ KX dC dI cI cZ cG U)) (vp_Si post) 0 0 (fun _ => False) := by
  intro p e ha hc hk s m args below hf happ hP hK
  obtain ⟨hav, hPw, hKx⟩ := hP
  exact hM p e ha hc hk s m args below hf happ ⟨hav, hPw.sub isC (hr_fm hC), hKx⟩ trivial
/-- what is answered may be told in other words -/
theorem met_post {S S2 : Type} {post : Int32 → S → Prop} {post2 : Int32 → S2 → Prop} {w1 : S → va_W} {w2 : S2 → va_W} (hM : Met l y ws rm (va_Pc av (fun U => U.heap.size = sz ∧ va_P (dC, dI) vwCl w U.heap ∧ KX dC dI cI cZ cG U ∧ va_D (fun _ => True) w)) (va_Qi post (fun u t => va_P (dC, dI) vwCl (w1 u) t.heap ∧ va_D (va_A w sz) (w1 u)) (va_A w sz)) mc ms (va_A w sz)) (h : ∀ r u, post r u → ∃ u2, post2 r u2 ∧ w2 u2 = w1 u) :
    Met l y ws rm (va_Pc av (fun U => U.heap.size = sz ∧ va_P (dC, dI) vwCl w U.heap ∧ KX dC dI cI cZ cG U ∧ va_D (fun _ => True) w)) (va_Qi post2 (fun u t => va_P (dC, dI) vwCl (w2 u) t.heap ∧ va_D (va_A w sz) (w2 u)) (va_A w sz)) mc ms (va_A w sz) := by
  intro p e ha hc hk s m args below hf happ hP hK
  obtain ⟨n, o, h1, h2, h3, ⟨⟨r, u, ho, hp, hP1, hD1⟩, hF⟩, hL⟩ := hM p e ha hc hk s m args below hf happ hP trivial
  obtain ⟨u2, hp2, e2⟩ := h r u hp
  exact ⟨n, o, h1, h2, h3, ⟨⟨r, u2, ho, hp2, by rw [e2]; exact hP1, by rw [e2]; exact hD1⟩, hF⟩, hL⟩
end FR9
section FR8
variable {p : Program} {l : Launch} {e : Env} {R : Room} {s : State} {m : MethodId} {args : Array Value} {below : List Frame} {meth : Method} {c : Code} {H : Heap} {locs : List Loc} {cells slots : Nat} {Q : State → Prop}
variable {cc : ByteArray} {pc : Nat} {ls : Array Slot} {rest : List Value} {D : va_G} {cl : List vw_C} {A : Nat → Prop} {a : Nat} {w1 w2 : va_W} {H0 : Heap}
theorem vpl {D : va_G} {cl : List vw_C} {H : Heap} (hP : va_P D cl (w1 ++ w2) H) : va_P D cl w1 H := fun k q hk => hP k q (by rw [List.getElem?_append_left (List.getElem?_eq_some_iff.mp hk).1]; exact hk)
theorem vpr {D : va_G} {cl : List vw_C} {H : Heap} (hP : va_P D cl (w1 ++ w2) H) : va_P D cl w2 H := fun k q hk => hP (w1.length + k) q (by rw [List.getElem?_append_right (by omega), show w1.length + k - w1.length = k by omega]; exact hk)
theorem vdl (hD : va_D A (w1 ++ w2)) : va_D A w1 := ⟨fun i j x y hi hj h => hD.1 i j x y (by rw [List.getElem?_append_left (List.getElem?_eq_some_iff.mp hi).1]; exact hi) (by rw [List.getElem?_append_left (List.getElem?_eq_some_iff.mp hj).1]; exact hj) h, fun k q hk => hD.2 k q (by rw [List.getElem?_append_left (List.getElem?_eq_some_iff.mp hk).1]; exact hk)⟩
theorem vdr (hD : va_D A (w1 ++ w2)) : va_D A w2 := ⟨fun i j x y hi hj h => by
    have := hD.1 (w1.length + i) (w1.length + j) x y (by rw [List.getElem?_append_right (by omega), show w1.length + i - w1.length = i by omega]; exact hi) (by rw [List.getElem?_append_right (by omega), show w1.length + j - w1.length = j by omega]; exact hj) h
    omega, fun k q hk => hD.2 (w1.length + k) q (by rw [List.getElem?_append_right (by omega), show w1.length + k - w1.length = k by omega]; exact hk)⟩
theorem vdx (hD : va_D A (w1 ++ w2)) {i j : Nat} {x y : Nat × va_E} (hi : w1[i]? = some x) (hj : w2[j]? = some y) : x.1 ≠ y.1 := fun h => by
  have h1 := (List.getElem?_eq_some_iff.mp hi).1
  have := hD.1 i (w1.length + j) x y (by rw [List.getElem?_append_left h1]; exact hi) (by rw [List.getElem?_append_right (by omega), show w1.length + j - w1.length = j by omega]; exact hj) h
  omega
/-- behind a call in the first of two worlds -/
theorem join1 {w1' : va_W} {H1 : Heap} (hP : va_P D cl (w1 ++ w2) H) (hD : va_D A (w1 ++ w2)) (hk : ∀ q : Nat, q < H.size → ¬ va_A w1 H.size q → H1[q]? = H[q]?) (hF : ∀ q, va_A w1 H.size q → A q) (hP1 : va_P D cl w1' H1) (hD1 : va_D (va_A w1 H.size) w1') : va_P D cl (w1' ++ w2) H1 ∧ va_D A (w1' ++ w2) := by
  have ap : ∀ (j : Nat) (y : Nat × va_E), w2[j]? = some y → y.1 < H.size ∧ ¬ va_A w1 H.size y.1 := fun j y hj => by
    have hl := (vpr hP j y hj).lt
    refine ⟨hl, fun z => ?_⟩
    rcases z with ⟨k, e, z⟩ | z
    · exact vdx hD z hj rfl
    · omega
  refine ⟨hP1.app (fun j y hj => (vpr hP j y hj).kept (hk y.1 (ap j y hj).1 (ap j y hj).2)), (hD1.weaken (fun k q _ h => hF q.1 h)).app (vdr hD) (fun i j x y hi hj h => ?_)⟩
  exact (ap j y hj).2 (by rw [← h]; exact hD1.2 i x hi)
/-- behind a call in the second of two worlds -/
theorem join2 {w2' : va_W} {H1 : Heap} (hP : va_P D cl (w1 ++ w2) H) (hD : va_D A (w1 ++ w2)) (hk : ∀ q : Nat, q < H.size → ¬ va_A w2 H.size q → H1[q]? = H[q]?) (hF : ∀ q, va_A w2 H.size q → A q) (hP1 : va_P D cl w2' H1) (hD1 : va_D (va_A w2 H.size) w2') : va_P D cl (w1 ++ w2') H1 ∧ va_D A (w1 ++ w2') := by
  have ap : ∀ (j : Nat) (y : Nat × va_E), w1[j]? = some y → y.1 < H.size ∧ ¬ va_A w2 H.size y.1 := fun j y hj => by
    have hl := (vpl hP j y hj).lt
    refine ⟨hl, fun z => ?_⟩
    rcases z with ⟨k, e, z⟩ | z
    · exact vdx hD hj z rfl
    · omega
  refine ⟨va_P.app (fun j y hj => (vpl hP j y hj).kept (hk y.1 (ap j y hj).1 (ap j y hj).2)) hP1, (vdl hD).app (hD1.weaken (fun k q _ h => hF q.1 h)) (fun i j x y hi hj h => ?_)⟩
  exact (ap i x hi).2 (by rw [h]; exact hD1.2 j y hj)
end FR8
