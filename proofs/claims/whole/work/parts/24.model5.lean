set_option maxHeartbeats 400000 in
set_option maxRecDepth 100000 in
/-- byTimes -/
theorem c_MO_byTimes (l : Launch) (dC : Nat → ClassId) (dI : Nat → Nat → Nat) (cI cZ cG : ClassId) (hM : Nat) (z1 : Nat) (z2 : Nat) (z3 : Nat) (z4 : Nat) (z5 : Nat) (z6 : Nat) (z7 : Nat) (z8 : Nat) (z9 : Nat) (z10 : Nat) (z11 : Nat) (z12 : Nat) (z13 : Nat) (z14 : Nat) (th : Nat) (k : Nat) (n : Nat) (iS : Nat) (sc : Nat) (sn : Nat) (mv : Nat) (sg : Nat) (dn : Nat) (gc : Nat) (sm : Nat → Nat) (bf : Nat → Option Nat) (gF : Nat → Nat) (gT : Nat → Nat) (wy : Nat → Nat) (tk : Nat → Nat) (sz : Nat) (hk : 1 ≤ k ∧ k ≤ 4) (hgc : gc ≤ 24) (hgT : ∀ g, g < gc → gT g ≤ 2400000) (hbf : ∀ j, j < 24 → ∀ q, bf j = some q → q < 4) (hgF : ∀ g, g < gc → gF g < 24) : Met l yMO_byTimes wsMO_byTimes ({ frames := 0, cells := 0, slots := 0, locals := 0 }) (va_Pc [.ref hM] (fun U => U.heap.size = sz ∧ va_P (dC, dI) vwCl [(hM, .inr (8, [.int (nI th), .int (nI k), .int (nI n), .ref z1, .ref z2, .int (nI iS), .int (nI sc), .int (nI sn), .int (nI mv), .int (nI sg), .ref z3, .ref z4, .ref z5, .ref z6, .ref z7, .ref z8, .ref z9, .int (nI dn), .ref z10, .ref z11, .ref z12, .ref z13, .ref z14, .int (nI gc)])), (z4, .inl (cI, 4, .inl (fun j9 => nI (sm j9)))), (z5, .inl (cI, 24, .inl (fun j9 => oI (bf j9)))), (z10, .inl (cI, 24, .inl (fun j9 => nI (gF j9)))), (z11, .inl (cI, 24, .inl (fun j9 => nI (gT j9)))), (z12, .inl (cI, 24, .inl (fun j9 => nI (wy j9)))), (z14, .inl (cZ, 24, .inl (fun j9 => nI (tk j9))))] U.heap ∧ KX dC dI cI cZ cG U ∧ va_D (fun _ => True) [(hM, .inr (8, [.int (nI th), .int (nI k), .int (nI n), .ref z1, .ref z2, .int (nI iS), .int (nI sc), .int (nI sn), .int (nI mv), .int (nI sg), .ref z3, .ref z4, .ref z5, .ref z6, .ref z7, .ref z8, .ref z9, .int (nI dn), .ref z10, .ref z11, .ref z12, .ref z13, .ref z14, .int (nI gc)])), (z4, .inl (cI, 4, .inl (fun j9 => nI (sm j9)))), (z5, .inl (cI, 24, .inl (fun j9 => oI (bf j9)))), (z10, .inl (cI, 24, .inl (fun j9 => nI (gF j9)))), (z11, .inl (cI, 24, .inl (fun j9 => nI (gT j9)))), (z12, .inl (cI, 24, .inl (fun j9 => nI (wy j9)))), (z14, .inl (cZ, 24, .inl (fun j9 => nI (tk j9))))])) (va_Qv (fun (u : (Nat → Nat) × (Nat → Nat) × (Nat → Nat)) => ∀ g, g < gc → ∀ q, (grd gT gF bf gc k (fun _ => none) gc).1 g = some q → u.1 g = q) (fun u t => va_P (dC, dI) vwCl [(hM, .inr (8, [.int (nI th), .int (nI k), .int (nI n), .ref z1, .ref z2, .int (nI iS), .int (nI sc), .int (nI sn), .int (nI mv), .int (nI sg), .ref z3, .ref z4, .ref z5, .ref z6, .ref z7, .ref z8, .ref z9, .int (nI dn), .ref z10, .ref z11, .ref z12, .ref z13, .ref z14, .int (nI gc)])), (z4, .inl (cI, 4, .inl (fun j9 => nI (u.2.1 j9)))), (z5, .inl (cI, 24, .inl (fun j9 => oI (bf j9)))), (z10, .inl (cI, 24, .inl (fun j9 => nI (gF j9)))), (z11, .inl (cI, 24, .inl (fun j9 => nI (gT j9)))), (z12, .inl (cI, 24, .inl (fun j9 => nI (u.1 j9)))), (z14, .inl (cZ, 24, .inl (fun j9 => nI (u.2.2 j9))))] t.heap ∧ va_D (va_A [(hM, .inr (8, [.int (nI th), .int (nI k), .int (nI n), .ref z1, .ref z2, .int (nI iS), .int (nI sc), .int (nI sn), .int (nI mv), .int (nI sg), .ref z3, .ref z4, .ref z5, .ref z6, .ref z7, .ref z8, .ref z9, .int (nI dn), .ref z10, .ref z11, .ref z12, .ref z13, .ref z14, .int (nI gc)])), (z4, .inl (cI, 4, .inl (fun j9 => nI (sm j9)))), (z5, .inl (cI, 24, .inl (fun j9 => oI (bf j9)))), (z10, .inl (cI, 24, .inl (fun j9 => nI (gF j9)))), (z11, .inl (cI, 24, .inl (fun j9 => nI (gT j9)))), (z12, .inl (cI, 24, .inl (fun j9 => nI (wy j9)))), (z14, .inl (cZ, 24, .inl (fun j9 => nI (tk j9))))] sz) [(hM, .inr (8, [.int (nI th), .int (nI k), .int (nI n), .ref z1, .ref z2, .int (nI iS), .int (nI sc), .int (nI sn), .int (nI mv), .int (nI sg), .ref z3, .ref z4, .ref z5, .ref z6, .ref z7, .ref z8, .ref z9, .int (nI dn), .ref z10, .ref z11, .ref z12, .ref z13, .ref z14, .int (nI gc)])), (z4, .inl (cI, 4, .inl (fun j9 => nI (u.2.1 j9)))), (z5, .inl (cI, 24, .inl (fun j9 => oI (bf j9)))), (z10, .inl (cI, 24, .inl (fun j9 => nI (gF j9)))), (z11, .inl (cI, 24, .inl (fun j9 => nI (gT j9)))), (z12, .inl (cI, 24, .inl (fun j9 => nI (u.1 j9)))), (z14, .inl (cZ, 24, .inl (fun j9 => nI (u.2.2 j9))))]) (va_A [(hM, .inr (8, [.int (nI th), .int (nI k), .int (nI n), .ref z1, .ref z2, .int (nI iS), .int (nI sc), .int (nI sn), .int (nI mv), .int (nI sg), .ref z3, .ref z4, .ref z5, .ref z6, .ref z7, .ref z8, .ref z9, .int (nI dn), .ref z10, .ref z11, .ref z12, .ref z13, .ref z14, .int (nI gc)])), (z4, .inl (cI, 4, .inl (fun j9 => nI (sm j9)))), (z5, .inl (cI, 24, .inl (fun j9 => oI (bf j9)))), (z10, .inl (cI, 24, .inl (fun j9 => nI (gF j9)))), (z11, .inl (cI, 24, .inl (fun j9 => nI (gT j9)))), (z12, .inl (cI, 24, .inl (fun j9 => nI (wy j9)))), (z14, .inl (cZ, 24, .inl (fun j9 => nI (tk j9))))] sz)) 0 0 (va_A [(hM, .inr (8, [.int (nI th), .int (nI k), .int (nI n), .ref z1, .ref z2, .int (nI iS), .int (nI sc), .int (nI sn), .int (nI mv), .int (nI sg), .ref z3, .ref z4, .ref z5, .ref z6, .ref z7, .ref z8, .ref z9, .int (nI dn), .ref z10, .ref z11, .ref z12, .ref z13, .ref z14, .int (nI gc)])), (z4, .inl (cI, 4, .inl (fun j9 => nI (sm j9)))), (z5, .inl (cI, 24, .inl (fun j9 => oI (bf j9)))), (z10, .inl (cI, 24, .inl (fun j9 => nI (gF j9)))), (z11, .inl (cI, 24, .inl (fun j9 => nI (gT j9)))), (z12, .inl (cI, 24, .inl (fun j9 => nI (wy j9)))), (z14, .inl (cZ, 24, .inl (fun j9 => nI (tk j9))))] sz) := by
  refine Met.ofW (cc := cMO_byTimes) (maxL := 5) (ret := none) (by decide) rfl ?_
  intro p e s m args below meth c s₁ B hml hv
  obtain ⟨rfl, hsz, hP, hKX, hD0⟩ := hv
  have hK := hKX.1
  have hx := B.exec
  have hb := B.bytes
  have hr := B.returns
  have hts := atoms_spec (ws := wsMO_byTimes) B.pre
  have hown : s.vm.findClass RMO = some m.cls := findClass_of_methodNamed B.named
  have hlocks := B.notSynchronized
  subst hsz
  have hD := hD0.self (sz := s.heap.size)
  generalize hAe : va_A [(hM, .inr (8, [.int (nI th), .int (nI k), .int (nI n), .ref z1, .ref z2, .int (nI iS), .int (nI sc), .int (nI sn), .int (nI mv), .int (nI sg), .ref z3, .ref z4, .ref z5, .ref z6, .ref z7, .ref z8, .ref z9, .int (nI dn), .ref z10, .ref z11, .ref z12, .ref z13, .ref z14, .int (nI gc)])), (z4, .inl (cI, 4, .inl (fun j9 => nI (sm j9)))), (z5, .inl (cI, 24, .inl (fun j9 => oI (bf j9)))), (z10, .inl (cI, 24, .inl (fun j9 => nI (gF j9)))), (z11, .inl (cI, 24, .inl (fun j9 => nI (gT j9)))), (z12, .inl (cI, 24, .inl (fun j9 => nI (wy j9)))), (z14, .inl (cZ, 24, .inl (fun j9 => nI (tk j9))))] s.heap.size = A at hD ⊢
  have hA : ∀ q : Nat, s.heap.size ≤ q → A q := fun q h => by rw [← hAe]; exact Or.inr h
  have hS : va_S A s.heap s.heap [] := va_S.rf
  have hl := lv_entry ([.ref hM]) (n := 5) (Nat.le_of_ble_eq_true rfl)
  rw [lg_entry_eq]
  generalize (lg_sl ([.ref hM]) ++ List.replicate (5 - (lg_sl ([.ref hM])).length) Slot.unset).toArray = ls at hl ⊢
  have hl : lv_has ls 5 [(0, .ref hM)] := hl
  generalize hRe : (headSpec wsMO_byTimes ({ frames := 0, cells := 0, slots := 0, locals := 0 })).room = R
  have hRf : 0 ≤ R.frames := by rw [← hRe]; exact Nat.le_refl _
  have hRl : 0 ≤ R.locals := by rw [← hRe]; exact Nat.le_refl _
  have hRc : 0 ≤ R.cells := by rw [← hRe]; exact Nat.le_refl _
  have hRs : 0 ≤ R.slots := by rw [← hRe]; exact Nat.le_refl _
  generalize hargs : (List.toArray [.ref hM] : Array Value) = args at hts ⊢
  generalize hQe : MQ below _ args s _ _ _ = Q
  refine lv_iconst (v := nI 0) hx hb dMO_byTimes_0 (by decide +kernel) ?_
  refine lv_istore_n (lv' := [(1, .int (nI 0)), (0, .ref hM)]) hx hb dMO_byTimes_1 rfl hl (by decide) rfl (fun ls hl => ?_)
  rw [← fillF_0 sm 0] at hP hD
  have loop_2 : ∀ (n9 : Nat) (i : Nat), i ≤ 4 → 4 + 1 ≤ i + n9 → ∀ (H : Heap) (locs : List Loc), va_P (dC, dI) vwCl [(hM, .inr (8, [.int (nI th), .int (nI k), .int (nI n), .ref z1, .ref z2, .int (nI iS), .int (nI sc), .int (nI sn), .int (nI mv), .int (nI sg), .ref z3, .ref z4, .ref z5, .ref z6, .ref z7, .ref z8, .ref z9, .int (nI dn), .ref z10, .ref z11, .ref z12, .ref z13, .ref z14, .int (nI gc)])), (z4, .inl (cI, 4, .inl (fun j9 => nI ((fillF sm 0 i) j9)))), (z5, .inl (cI, 24, .inl (fun j9 => oI (bf j9)))), (z10, .inl (cI, 24, .inl (fun j9 => nI (gF j9)))), (z11, .inl (cI, 24, .inl (fun j9 => nI (gT j9)))), (z12, .inl (cI, 24, .inl (fun j9 => nI (wy j9)))), (z14, .inl (cZ, 24, .inl (fun j9 => nI (tk j9))))] H → va_D A [(hM, .inr (8, [.int (nI th), .int (nI k), .int (nI n), .ref z1, .ref z2, .int (nI iS), .int (nI sc), .int (nI sn), .int (nI mv), .int (nI sg), .ref z3, .ref z4, .ref z5, .ref z6, .ref z7, .ref z8, .ref z9, .int (nI dn), .ref z10, .ref z11, .ref z12, .ref z13, .ref z14, .int (nI gc)])), (z4, .inl (cI, 4, .inl (fun j9 => nI ((fillF sm 0 i) j9)))), (z5, .inl (cI, 24, .inl (fun j9 => oI (bf j9)))), (z10, .inl (cI, 24, .inl (fun j9 => nI (gF j9)))), (z11, .inl (cI, 24, .inl (fun j9 => nI (gT j9)))), (z12, .inl (cI, 24, .inl (fun j9 => nI (wy j9)))), (z14, .inl (cZ, 24, .inl (fun j9 => nI (tk j9))))] → va_S A s.heap H locs → ∀ (ls : Array Slot), lv_has ls 5 [(1, .int (nI i)), (0, .ref hM)] → W p l e R s m args below meth c H locs 0 0 Q (F0 m 2 ls []) := by
    intro n9
    induction n9 with
    | zero =>
      intro i hi hmeas
      exact absurd hmeas (by omega)
    | succ n9 ih_2 =>
      intro i hi hmeas H locs hP hD hS ls hl
      refine lv_iload_n hx hb dMO_byTimes_2 rfl (lv_at hl 0 rfl) ?_
      refine lv_iconst (v := nI 4) hx hb dMO_byTimes_3 (by decide +kernel) ?_
      refine hr_icmp_ge hx hb (x := i) (y := 4) (by omega) (by omega) (tgt := 20) dMO_byTimes_4 (by decide) (fun c_1 => ?_) (fun c_1 => ?_)
      · have ei : 4 = i := by omega
        subst ei
        have hP := hr_extP 1 (fun j9 => nI ((fun _ => 0) j9)) rfl (fun j hj => by rw [fillF_in hj]) hP
        have hD := hr_extD 1 (fun j9 => nI ((fun _ => 0) j9)) rfl hD
        have hP : va_P (dC, dI) vwCl [(hM, .inr (8, [.int (nI th), .int (nI k), .int (nI n), .ref z1, .ref z2, .int (nI iS), .int (nI sc), .int (nI sn), .int (nI mv), .int (nI sg), .ref z3, .ref z4, .ref z5, .ref z6, .ref z7, .ref z8, .ref z9, .int (nI dn), .ref z10, .ref z11, .ref z12, .ref z13, .ref z14, .int (nI gc)])), (z4, .inl (cI, 4, .inl (fun j9 => nI ((fun _ => 0) j9)))), (z5, .inl (cI, 24, .inl (fun j9 => oI (bf j9)))), (z10, .inl (cI, 24, .inl (fun j9 => nI (gF j9)))), (z11, .inl (cI, 24, .inl (fun j9 => nI (gT j9)))), (z12, .inl (cI, 24, .inl (fun j9 => nI (wy j9)))), (z14, .inl (cZ, 24, .inl (fun j9 => nI (tk j9))))] H := hP
        have hD : va_D A [(hM, .inr (8, [.int (nI th), .int (nI k), .int (nI n), .ref z1, .ref z2, .int (nI iS), .int (nI sc), .int (nI sn), .int (nI mv), .int (nI sg), .ref z3, .ref z4, .ref z5, .ref z6, .ref z7, .ref z8, .ref z9, .int (nI dn), .ref z10, .ref z11, .ref z12, .ref z13, .ref z14, .int (nI gc)])), (z4, .inl (cI, 4, .inl (fun j9 => nI ((fun _ => 0) j9)))), (z5, .inl (cI, 24, .inl (fun j9 => oI (bf j9)))), (z10, .inl (cI, 24, .inl (fun j9 => nI (gF j9)))), (z11, .inl (cI, 24, .inl (fun j9 => nI (gT j9)))), (z12, .inl (cI, 24, .inl (fun j9 => nI (wy j9)))), (z14, .inl (cZ, 24, .inl (fun j9 => nI (tk j9))))] := hD
        refine lv_iconst (v := nI 0) hx hb dMO_byTimes_20 (by decide +kernel) ?_
        refine lv_istore_n (lv' := [(1, .int (nI 0)), (0, .ref hM)]) hx hb dMO_byTimes_21 rfl hl (by decide) rfl (fun ls hl => ?_)
        rw [← fillF_0 tk 0] at hP hD
        have loop_22 : ∀ (n9 : Nat) (i : Nat), i ≤ gc → gc + 1 ≤ i + n9 → ∀ (H : Heap) (locs : List Loc), va_P (dC, dI) vwCl [(hM, .inr (8, [.int (nI th), .int (nI k), .int (nI n), .ref z1, .ref z2, .int (nI iS), .int (nI sc), .int (nI sn), .int (nI mv), .int (nI sg), .ref z3, .ref z4, .ref z5, .ref z6, .ref z7, .ref z8, .ref z9, .int (nI dn), .ref z10, .ref z11, .ref z12, .ref z13, .ref z14, .int (nI gc)])), (z4, .inl (cI, 4, .inl (fun j9 => nI ((fun _ => 0) j9)))), (z5, .inl (cI, 24, .inl (fun j9 => oI (bf j9)))), (z10, .inl (cI, 24, .inl (fun j9 => nI (gF j9)))), (z11, .inl (cI, 24, .inl (fun j9 => nI (gT j9)))), (z12, .inl (cI, 24, .inl (fun j9 => nI (wy j9)))), (z14, .inl (cZ, 24, .inl (fun j9 => nI ((fillF tk 0 i) j9))))] H → va_D A [(hM, .inr (8, [.int (nI th), .int (nI k), .int (nI n), .ref z1, .ref z2, .int (nI iS), .int (nI sc), .int (nI sn), .int (nI mv), .int (nI sg), .ref z3, .ref z4, .ref z5, .ref z6, .ref z7, .ref z8, .ref z9, .int (nI dn), .ref z10, .ref z11, .ref z12, .ref z13, .ref z14, .int (nI gc)])), (z4, .inl (cI, 4, .inl (fun j9 => nI ((fun _ => 0) j9)))), (z5, .inl (cI, 24, .inl (fun j9 => oI (bf j9)))), (z10, .inl (cI, 24, .inl (fun j9 => nI (gF j9)))), (z11, .inl (cI, 24, .inl (fun j9 => nI (gT j9)))), (z12, .inl (cI, 24, .inl (fun j9 => nI (wy j9)))), (z14, .inl (cZ, 24, .inl (fun j9 => nI ((fillF tk 0 i) j9))))] → va_S A s.heap H locs → ∀ (ls : Array Slot), lv_has ls 5 [(1, .int (nI i)), (0, .ref hM)] → W p l e R s m args below meth c H locs 0 0 Q (F0 m 22 ls []) := by
          intro n9
          induction n9 with
          | zero =>
            intro i hi hmeas
            exact absurd hmeas (by omega)
          | succ n9 ih_22 =>
            intro i hi hmeas H locs hP hD hS ls hl
            refine lv_iload_n hx hb dMO_byTimes_22 rfl (lv_at hl 0 rfl) ?_
            refine lv_aload_n hx hb dMO_byTimes_23 rfl (lv_at hl 1 rfl) ?_
            refine va_get (D := (dC, dI)) (ci := 8) (v := .int (nI gc)) (C := RMO) (T := TMO) (N := 24) hx hb hts (fun w h => List.mem_cons_of_mem _ (inMO w h)) hown hK hP 0 rfl rfl 23 (by decide) (hts _ (List.mem_cons_of_mem _ kw_532)) (fun _ h9 => h9) rfl dMO_byTimes_24 ?_
            refine hr_icmp_ge hx hb (x := i) (y := gc) (by omega) (by omega) (tgt := 43) dMO_byTimes_27 (by decide) (fun c_2 => ?_) (fun c_2 => ?_)
            · have ei : gc = i := by omega
              subst ei
              refine lv_iconst (v := nI 0) hx hb dMO_byTimes_43 (by decide +kernel) ?_
              refine lv_istore_n (lv' := [(1, .int (nI 0)), (0, .ref hM)]) hx hb dMO_byTimes_44 rfl hl (by decide) rfl (fun ls hl => ?_)
              have loop_45 : ∀ (n9 : Nat) (i : Nat) (wq : Nat → Nat) (tq : Nat → Nat), i ≤ gc → (∀ g, g < gc → tq g < 2 ∧ (tq g = 0 ↔ (grd gT gF bf gc k (fun _ => none) i).1 g = none)) → (∀ g, g < gc → ∀ q, (grd gT gF bf gc k (fun _ => none) i).1 g = some q → wq g = q) → gc + 1 ≤ i + n9 → ∀ (H : Heap) (locs : List Loc), va_P (dC, dI) vwCl [(hM, .inr (8, [.int (nI th), .int (nI k), .int (nI n), .ref z1, .ref z2, .int (nI iS), .int (nI sc), .int (nI sn), .int (nI mv), .int (nI sg), .ref z3, .ref z4, .ref z5, .ref z6, .ref z7, .ref z8, .ref z9, .int (nI dn), .ref z10, .ref z11, .ref z12, .ref z13, .ref z14, .int (nI gc)])), (z4, .inl (cI, 4, .inl (fun j9 => nI (((grd gT gF bf gc k (fun _ => none) i).2) j9)))), (z5, .inl (cI, 24, .inl (fun j9 => oI (bf j9)))), (z10, .inl (cI, 24, .inl (fun j9 => nI (gF j9)))), (z11, .inl (cI, 24, .inl (fun j9 => nI (gT j9)))), (z12, .inl (cI, 24, .inl (fun j9 => nI (wq j9)))), (z14, .inl (cZ, 24, .inl (fun j9 => nI (tq j9))))] H → va_D A [(hM, .inr (8, [.int (nI th), .int (nI k), .int (nI n), .ref z1, .ref z2, .int (nI iS), .int (nI sc), .int (nI sn), .int (nI mv), .int (nI sg), .ref z3, .ref z4, .ref z5, .ref z6, .ref z7, .ref z8, .ref z9, .int (nI dn), .ref z10, .ref z11, .ref z12, .ref z13, .ref z14, .int (nI gc)])), (z4, .inl (cI, 4, .inl (fun j9 => nI (((grd gT gF bf gc k (fun _ => none) i).2) j9)))), (z5, .inl (cI, 24, .inl (fun j9 => oI (bf j9)))), (z10, .inl (cI, 24, .inl (fun j9 => nI (gF j9)))), (z11, .inl (cI, 24, .inl (fun j9 => nI (gT j9)))), (z12, .inl (cI, 24, .inl (fun j9 => nI (wq j9)))), (z14, .inl (cZ, 24, .inl (fun j9 => nI (tq j9))))] → va_S A s.heap H locs → ∀ (ls : Array Slot), lv_has ls 5 [(1, .int (nI i)), (0, .ref hM)] → W p l e R s m args below meth c H locs 0 0 Q (F0 m 45 ls []) := by
                intro n9
                induction n9 with
                | zero =>
                  intro i wq tq hi hT hW9 hmeas
                  exact absurd hmeas (by omega)
                | succ n9 ih_45 =>
                  intro i wq tq hi hT hW9 hmeas H locs hP hD hS ls hl
                  refine lv_iload_n hx hb dMO_byTimes_45 rfl (lv_at hl 0 rfl) ?_
                  refine lv_aload_n hx hb dMO_byTimes_46 rfl (lv_at hl 1 rfl) ?_
                  refine va_get (D := (dC, dI)) (ci := 8) (v := .int (nI gc)) (C := RMO) (T := TMO) (N := 24) hx hb hts (fun w h => List.mem_cons_of_mem _ (inMO w h)) hown hK hP 0 rfl rfl 23 (by decide) (hts _ (List.mem_cons_of_mem _ kw_532)) (fun _ h9 => h9) rfl dMO_byTimes_47 ?_
                  refine hr_icmp_ge hx hb (x := i) (y := gc) (by omega) (by omega) (tgt := 238) dMO_byTimes_50 (by decide) (fun c_3 => ?_) (fun c_3 => ?_)
                  · have ei : gc = i := by omega
                    subst ei
                    rw [← hQe]
                    exact W.vret hx hb hr (fun t ht hW => ⟨⟨(wq, (grd gT gF bf gc k (fun _ => none) gc).2, tq), rfl, hW9, by rw [ht]; exact hP, hD⟩, hS.F ht⟩) hS.2.2 dMO_byTimes_238
                  · have hsl : ∀ q, (grd gT gF bf gc k (fun _ => none) i).2 q < 2 ^ 30 := fun q => by have := grd_le (F := gF) (sf := bf) (k := k) (g0 := fun _ => none) (B := 2400000) (show 0 < gc by omega) hgT i q; have : 2400000 * i ≤ 2400000 * 24 := Nat.mul_le_mul_left _ (by omega); omega
                    generalize hGS : (grd gT gF bf gc k (fun _ => none) i).1 = GS at hT hW9
                    generalize hSM : (grd gT gF bf gc k (fun _ => none) i).2 = SM at hP hD hsl
                    have hP : va_P (dC, dI) vwCl [(hM, .inr (8, [.int (nI th), .int (nI k), .int (nI n), .ref z1, .ref z2, .int (nI iS), .int (nI sc), .int (nI sn), .int (nI mv), .int (nI sg), .ref z3, .ref z4, .ref z5, .ref z6, .ref z7, .ref z8, .ref z9, .int (nI dn), .ref z10, .ref z11, .ref z12, .ref z13, .ref z14, .int (nI gc)])), (z4, .inl (cI, 4, .inl (fun j9 => nI (SM j9)))), (z5, .inl (cI, 24, .inl (fun j9 => oI (bf j9)))), (z10, .inl (cI, 24, .inl (fun j9 => nI (gF j9)))), (z11, .inl (cI, 24, .inl (fun j9 => nI (gT j9)))), (z12, .inl (cI, 24, .inl (fun j9 => nI (wq j9)))), (z14, .inl (cZ, 24, .inl (fun j9 => nI (tq j9))))] H := hP
                    have hD : va_D A [(hM, .inr (8, [.int (nI th), .int (nI k), .int (nI n), .ref z1, .ref z2, .int (nI iS), .int (nI sc), .int (nI sn), .int (nI mv), .int (nI sg), .ref z3, .ref z4, .ref z5, .ref z6, .ref z7, .ref z8, .ref z9, .int (nI dn), .ref z10, .ref z11, .ref z12, .ref z13, .ref z14, .int (nI gc)])), (z4, .inl (cI, 4, .inl (fun j9 => nI (SM j9)))), (z5, .inl (cI, 24, .inl (fun j9 => oI (bf j9)))), (z10, .inl (cI, 24, .inl (fun j9 => nI (gF j9)))), (z11, .inl (cI, 24, .inl (fun j9 => nI (gT j9)))), (z12, .inl (cI, 24, .inl (fun j9 => nI (wq j9)))), (z14, .inl (cZ, 24, .inl (fun j9 => nI (tq j9))))] := hD
                    refine lv_iconst (v := (-1)) hx hb dMO_byTimes_53 (by decide +kernel) ?_
                    refine lv_istore_n (lv' := [(2, .int (-1)), (1, .int (nI i)), (0, .ref hM)]) hx hb dMO_byTimes_54 rfl hl (by decide) rfl (fun ls hl => ?_)
                    refine lv_iconst (v := nI 0) hx hb dMO_byTimes_55 (by decide +kernel) ?_
                    refine lv_istore_n (lv' := [(3, .int (nI 0)), (2, .int (-1)), (1, .int (nI i)), (0, .ref hM)]) hx hb dMO_byTimes_56 rfl hl (by decide) rfl (fun ls hl => ?_)
                    have loop_57 : ∀ (n9 : Nat) (j : Nat) (o : Option Nat), j ≤ gc → o = sel gT GS j → gc + 1 ≤ j + n9 → ∀ (H : Heap) (locs : List Loc), va_P (dC, dI) vwCl [(hM, .inr (8, [.int (nI th), .int (nI k), .int (nI n), .ref z1, .ref z2, .int (nI iS), .int (nI sc), .int (nI sn), .int (nI mv), .int (nI sg), .ref z3, .ref z4, .ref z5, .ref z6, .ref z7, .ref z8, .ref z9, .int (nI dn), .ref z10, .ref z11, .ref z12, .ref z13, .ref z14, .int (nI gc)])), (z4, .inl (cI, 4, .inl (fun j9 => nI (SM j9)))), (z5, .inl (cI, 24, .inl (fun j9 => oI (bf j9)))), (z10, .inl (cI, 24, .inl (fun j9 => nI (gF j9)))), (z11, .inl (cI, 24, .inl (fun j9 => nI (gT j9)))), (z12, .inl (cI, 24, .inl (fun j9 => nI (wq j9)))), (z14, .inl (cZ, 24, .inl (fun j9 => nI (tq j9))))] H → va_D A [(hM, .inr (8, [.int (nI th), .int (nI k), .int (nI n), .ref z1, .ref z2, .int (nI iS), .int (nI sc), .int (nI sn), .int (nI mv), .int (nI sg), .ref z3, .ref z4, .ref z5, .ref z6, .ref z7, .ref z8, .ref z9, .int (nI dn), .ref z10, .ref z11, .ref z12, .ref z13, .ref z14, .int (nI gc)])), (z4, .inl (cI, 4, .inl (fun j9 => nI (SM j9)))), (z5, .inl (cI, 24, .inl (fun j9 => oI (bf j9)))), (z10, .inl (cI, 24, .inl (fun j9 => nI (gF j9)))), (z11, .inl (cI, 24, .inl (fun j9 => nI (gT j9)))), (z12, .inl (cI, 24, .inl (fun j9 => nI (wq j9)))), (z14, .inl (cZ, 24, .inl (fun j9 => nI (tq j9))))] → va_S A s.heap H locs → ∀ (ls : Array Slot), lv_has ls 5 [(3, .int (nI j)), (2, .int (oI o)), (1, .int (nI i)), (0, .ref hM)] → W p l e R s m args below meth c H locs 0 0 Q (F0 m 57 ls []) := by
                      intro n9
                      induction n9 with
                      | zero =>
                        intro j o hj ho hmeas
                        exact absurd hmeas (by omega)
                      | succ n9 ih_57 =>
                        intro j o hj ho hmeas H locs hP hD hS ls hl
                        refine lv_iload_n hx hb dMO_byTimes_57 rfl (lv_at hl 0 rfl) ?_
                        refine lv_aload_n hx hb dMO_byTimes_58 rfl (lv_at hl 3 rfl) ?_
                        refine va_get (D := (dC, dI)) (ci := 8) (v := .int (nI gc)) (C := RMO) (T := TMO) (N := 24) hx hb hts (fun w h => List.mem_cons_of_mem _ (inMO w h)) hown hK hP 0 rfl rfl 23 (by decide) (hts _ (List.mem_cons_of_mem _ kw_532)) (fun _ h9 => h9) rfl dMO_byTimes_59 ?_
                        refine hr_icmp_ge hx hb (x := j) (y := gc) (by omega) (by omega) (tgt := 106) dMO_byTimes_62 (by decide) (fun c_4 => ?_) (fun c_4 => ?_)
                        · have ej : j = gc := by omega
                          rw [ej] at ho
                          obtain ⟨g, hsel⟩ := grd_left (w := gT) (F := gF) (sf := bf) (G := gc) (k := k) (g0 := fun _ => none) (fun _ _ => rfl) (show i < gc by omega)
                          rw [hGS] at hsel
                          rw [hsel] at ho
                          subst ho
                          have hl : lv_has ls 5 [(3, .int (nI j)), (2, .int (nI g)), (1, .int (nI i)), (0, .ref hM)] := hl
                          have hgl := (sel_lt hsel).1
                          have hFl := hgF g hgl
                          refine lv_aload_n hx hb dMO_byTimes_106 rfl (lv_at hl 3 rfl) ?_
                          refine va_get (D := (dC, dI)) (ci := 8) (v := .ref z14) (C := RMO) (T := TMO) (N := 24) hx hb hts (fun w h => List.mem_cons_of_mem _ (inMO w h)) hown hK hP 0 rfl rfl 22 (by decide) (hts _ (List.mem_cons_of_mem _ kw_531)) (fun _ h9 => h9) rfl dMO_byTimes_107 ?_
                          refine lv_iload_n hx hb dMO_byTimes_110 rfl (lv_at hl 1 rfl) ?_
                          refine lv_iconst (v := nI 1) hx hb dMO_byTimes_111 (by decide +kernel) ?_
                          refine hr_zastN hx hb hK hP hD hS 6 1 rfl rfl (i := g) (by omega) (by omega) (by omega) dMO_byTimes_112 (fun H locs hP hD hS => ?_)
                          have hP : va_P (dC, dI) vwCl [(hM, .inr (8, [.int (nI th), .int (nI k), .int (nI n), .ref z1, .ref z2, .int (nI iS), .int (nI sc), .int (nI sn), .int (nI mv), .int (nI sg), .ref z3, .ref z4, .ref z5, .ref z6, .ref z7, .ref z8, .ref z9, .int (nI dn), .ref z10, .ref z11, .ref z12, .ref z13, .ref z14, .int (nI gc)])), (z4, .inl (cI, 4, .inl (fun j9 => nI (SM j9)))), (z5, .inl (cI, 24, .inl (fun j9 => oI (bf j9)))), (z10, .inl (cI, 24, .inl (fun j9 => nI (gF j9)))), (z11, .inl (cI, 24, .inl (fun j9 => nI (gT j9)))), (z12, .inl (cI, 24, .inl (fun j9 => nI (wq j9)))), (z14, .inl (cZ, 24, .inl (fun j9 => nI ((va_up tq g 1) j9))))] H := hP
                          have hD : va_D A [(hM, .inr (8, [.int (nI th), .int (nI k), .int (nI n), .ref z1, .ref z2, .int (nI iS), .int (nI sc), .int (nI sn), .int (nI mv), .int (nI sg), .ref z3, .ref z4, .ref z5, .ref z6, .ref z7, .ref z8, .ref z9, .int (nI dn), .ref z10, .ref z11, .ref z12, .ref z13, .ref z14, .int (nI gc)])), (z4, .inl (cI, 4, .inl (fun j9 => nI (SM j9)))), (z5, .inl (cI, 24, .inl (fun j9 => oI (bf j9)))), (z10, .inl (cI, 24, .inl (fun j9 => nI (gF j9)))), (z11, .inl (cI, 24, .inl (fun j9 => nI (gT j9)))), (z12, .inl (cI, 24, .inl (fun j9 => nI (wq j9)))), (z14, .inl (cZ, 24, .inl (fun j9 => nI ((va_up tq g 1) j9))))] := hD
                          refine lv_iconst (v := nI 0) hx hb dMO_byTimes_113 (by decide +kernel) ?_
                          refine lv_istore_n (lv' := [(3, .int (nI 0)), (2, .int (nI g)), (1, .int (nI i)), (0, .ref hM)]) hx hb dMO_byTimes_114 rfl hl (by decide) rfl (fun ls hl => ?_)
                          refine lv_iconst (v := nI 1) hx hb dMO_byTimes_115 (by decide +kernel) ?_
                          refine lv_istore (lv' := [(4, .int (nI 1)), (3, .int (nI 0)), (2, .int (nI g)), (1, .int (nI i)), (0, .ref hM)]) hx hb dMO_byTimes_116 hl (by decide) rfl (fun ls hl => ?_)
                          have loop_118 : ∀ (n9 : Nat) (t : Nat) (s2 : Nat), 1 ≤ t → t ≤ k → s2 = lst SM (t - 1) → s2 < t → k + 1 ≤ t + n9 → ∀ (H : Heap) (locs : List Loc), va_P (dC, dI) vwCl [(hM, .inr (8, [.int (nI th), .int (nI k), .int (nI n), .ref z1, .ref z2, .int (nI iS), .int (nI sc), .int (nI sn), .int (nI mv), .int (nI sg), .ref z3, .ref z4, .ref z5, .ref z6, .ref z7, .ref z8, .ref z9, .int (nI dn), .ref z10, .ref z11, .ref z12, .ref z13, .ref z14, .int (nI gc)])), (z4, .inl (cI, 4, .inl (fun j9 => nI (SM j9)))), (z5, .inl (cI, 24, .inl (fun j9 => oI (bf j9)))), (z10, .inl (cI, 24, .inl (fun j9 => nI (gF j9)))), (z11, .inl (cI, 24, .inl (fun j9 => nI (gT j9)))), (z12, .inl (cI, 24, .inl (fun j9 => nI (wq j9)))), (z14, .inl (cZ, 24, .inl (fun j9 => nI ((va_up tq g 1) j9))))] H → va_D A [(hM, .inr (8, [.int (nI th), .int (nI k), .int (nI n), .ref z1, .ref z2, .int (nI iS), .int (nI sc), .int (nI sn), .int (nI mv), .int (nI sg), .ref z3, .ref z4, .ref z5, .ref z6, .ref z7, .ref z8, .ref z9, .int (nI dn), .ref z10, .ref z11, .ref z12, .ref z13, .ref z14, .int (nI gc)])), (z4, .inl (cI, 4, .inl (fun j9 => nI (SM j9)))), (z5, .inl (cI, 24, .inl (fun j9 => oI (bf j9)))), (z10, .inl (cI, 24, .inl (fun j9 => nI (gF j9)))), (z11, .inl (cI, 24, .inl (fun j9 => nI (gT j9)))), (z12, .inl (cI, 24, .inl (fun j9 => nI (wq j9)))), (z14, .inl (cZ, 24, .inl (fun j9 => nI ((va_up tq g 1) j9))))] → va_S A s.heap H locs → ∀ (ls : Array Slot), lv_has ls 5 [(4, .int (nI t)), (3, .int (nI s2)), (2, .int (nI g)), (1, .int (nI i)), (0, .ref hM)] → W p l e R s m args below meth c H locs 0 0 Q (F0 m 118 ls []) := by
                            intro n9
                            induction n9 with
                            | zero =>
                              intro t s2 ht1 ht3 h2 h3 hmeas
                              exact absurd hmeas (by omega)
                            | succ n9 ih_118 =>
                              intro t s2 ht1 ht3 h2 h3 hmeas H locs hP hD hS ls hl
                              refine lv_iload hx hb dMO_byTimes_118 (lv_at hl 0 rfl) ?_
                              refine lv_aload_n hx hb dMO_byTimes_120 rfl (lv_at hl 4 rfl) ?_
                              refine va_get (D := (dC, dI)) (ci := 8) (v := .int (nI k)) (C := RMO) (T := TMO) (N := 24) hx hb hts (fun w h => List.mem_cons_of_mem _ (inMO w h)) hown hK hP 0 rfl rfl 1 (by decide) (hts _ (List.mem_cons_of_mem _ kw_510)) (fun _ h9 => h9) rfl dMO_byTimes_121 ?_
                              refine hr_icmp_ge hx hb (x := t) (y := k) (by omega) (by omega) (tgt := 156) dMO_byTimes_124 (by decide) (fun c_5 => ?_) (fun c_5 => ?_)
                              · have et : k = t := by omega
                                subst et
                                have hm2 := hsl s2
                                refine lv_aload_n hx hb dMO_byTimes_156 rfl (lv_at hl 4 rfl) ?_
                                refine va_get (D := (dC, dI)) (ci := 8) (v := .ref z5) (C := RMO) (T := TMO) (N := 24) hx hb hts (fun w h => List.mem_cons_of_mem _ (inMO w h)) hown hK hP 0 rfl rfl 12 (by decide) (hts _ (List.mem_cons_of_mem _ kw_521)) (fun _ h9 => h9) rfl dMO_byTimes_157 ?_
                                refine lv_aload_n hx hb dMO_byTimes_160 rfl (lv_at hl 4 rfl) ?_
                                refine va_get (D := (dC, dI)) (ci := 8) (v := .ref z10) (C := RMO) (T := TMO) (N := 24) hx hb hts (fun w h => List.mem_cons_of_mem _ (inMO w h)) hown hK hP 0 rfl rfl 18 (by decide) (hts _ (List.mem_cons_of_mem _ kw_527)) (fun _ h9 => h9) rfl dMO_byTimes_161 ?_
                                refine lv_iload_n hx hb dMO_byTimes_164 rfl (lv_at hl 2 rfl) ?_
                                refine hr_iald hx hb hK hP 3 0 rfl rfl (i := g) (by omega) (by omega) dMO_byTimes_165 ?_
                                refine hr_iald hx hb hK hP 2 0 rfl rfl (i := (gF g)) (by omega) (by omega) dMO_byTimes_166 ?_
                                refine lv_istore (lv' := [(4, .int (oI (bf (gF g)))), (3, .int (nI s2)), (2, .int (nI g)), (1, .int (nI i)), (0, .ref hM)]) hx hb dMO_byTimes_167 hl (by decide) rfl (fun ls hl => ?_)
                                refine lv_aload_n hx hb dMO_byTimes_169 rfl (lv_at hl 4 rfl) ?_
                                refine va_get (D := (dC, dI)) (ci := 8) (v := .ref z12) (C := RMO) (T := TMO) (N := 24) hx hb hts (fun w h => List.mem_cons_of_mem _ (inMO w h)) hown hK hP 0 rfl rfl 20 (by decide) (hts _ (List.mem_cons_of_mem _ kw_529)) (fun _ h9 => h9) rfl dMO_byTimes_170 ?_
                                refine lv_iload_n hx hb dMO_byTimes_173 rfl (lv_at hl 2 rfl) ?_
                                refine lv_iload hx hb dMO_byTimes_174 (lv_at hl 0 rfl) ?_
                                refine lv_iconst (v := (-1)) hx hb dMO_byTimes_176 (by decide +kernel) ?_
                                refine lv_icmp_eq (tgt := 210) hx hb dMO_byTimes_177 (by decide) (fun c_6 => ?_) (fun c_6 => ?_)
                                · have ev : lsh SM k (bf (gF g)) = s2 := by rw [(oI_m1 (fun z hz => by have := hbf _ hFl z hz; omega)).mp c_6, h2]; rfl
                                  refine lv_iload_n hx hb dMO_byTimes_210 rfl (lv_at hl 1 rfl) ?_
                                  refine hr_iastN hx hb hK hP hD hS 5 0 rfl rfl (i := g) (by omega) (by omega) dMO_byTimes_211 (fun H locs hP hD hS => ?_)
                                  have hP : va_P (dC, dI) vwCl [(hM, .inr (8, [.int (nI th), .int (nI k), .int (nI n), .ref z1, .ref z2, .int (nI iS), .int (nI sc), .int (nI sn), .int (nI mv), .int (nI sg), .ref z3, .ref z4, .ref z5, .ref z6, .ref z7, .ref z8, .ref z9, .int (nI dn), .ref z10, .ref z11, .ref z12, .ref z13, .ref z14, .int (nI gc)])), (z4, .inl (cI, 4, .inl (fun j9 => nI (SM j9)))), (z5, .inl (cI, 24, .inl (fun j9 => oI (bf j9)))), (z10, .inl (cI, 24, .inl (fun j9 => nI (gF j9)))), (z11, .inl (cI, 24, .inl (fun j9 => nI (gT j9)))), (z12, .inl (cI, 24, .inl (fun j9 => nI ((va_up wq g s2) j9)))), (z14, .inl (cZ, 24, .inl (fun j9 => nI ((va_up tq g 1) j9))))] H := hP
                                  have hD : va_D A [(hM, .inr (8, [.int (nI th), .int (nI k), .int (nI n), .ref z1, .ref z2, .int (nI iS), .int (nI sc), .int (nI sn), .int (nI mv), .int (nI sg), .ref z3, .ref z4, .ref z5, .ref z6, .ref z7, .ref z8, .ref z9, .int (nI dn), .ref z10, .ref z11, .ref z12, .ref z13, .ref z14, .int (nI gc)])), (z4, .inl (cI, 4, .inl (fun j9 => nI (SM j9)))), (z5, .inl (cI, 24, .inl (fun j9 => oI (bf j9)))), (z10, .inl (cI, 24, .inl (fun j9 => nI (gF j9)))), (z11, .inl (cI, 24, .inl (fun j9 => nI (gT j9)))), (z12, .inl (cI, 24, .inl (fun j9 => nI ((va_up wq g s2) j9)))), (z14, .inl (cZ, 24, .inl (fun j9 => nI ((va_up tq g 1) j9))))] := hD
                                  refine lv_aload_n hx hb dMO_byTimes_212 rfl (lv_at hl 4 rfl) ?_
                                  refine va_get (D := (dC, dI)) (ci := 8) (v := .ref z4) (C := RMO) (T := TMO) (N := 24) hx hb hts (fun w h => List.mem_cons_of_mem _ (inMO w h)) hown hK hP 0 rfl rfl 11 (by decide) (hts _ (List.mem_cons_of_mem _ kw_520)) (fun _ h9 => h9) rfl dMO_byTimes_213 ?_
                                  refine lv_aload_n hx hb dMO_byTimes_216 rfl (lv_at hl 4 rfl) ?_
                                  refine va_get (D := (dC, dI)) (ci := 8) (v := .ref z12) (C := RMO) (T := TMO) (N := 24) hx hb hts (fun w h => List.mem_cons_of_mem _ (inMO w h)) hown hK hP 0 rfl rfl 20 (by decide) (hts _ (List.mem_cons_of_mem _ kw_529)) (fun _ h9 => h9) rfl dMO_byTimes_217 ?_
                                  refine lv_iload_n hx hb dMO_byTimes_220 rfl (lv_at hl 2 rfl) ?_
                                  refine hr_iald hx hb hK hP 5 0 rfl rfl (i := g) (by omega) (by omega) dMO_byTimes_221 ?_
                                  refine hr_eqi (show nI (va_up wq g s2 g) = nI s2 by rw [va_up_self]) ?_
                                  have eg : (sel gT GS gc).getD 0 = g := by rw [hsel]; rfl
                                  have eq1 : (grd gT gF bf gc k (fun _ => none) (i + 1)).1 = va_up GS g (some s2) := by show va_up _ _ _ = _; rw [hGS, hSM, eg, ev]
                                  have eq2 : (grd gT gF bf gc k (fun _ => none) (i + 1)).2 = va_up SM s2 (SM s2 + gT g) := by show va_up _ _ _ = _; rw [hGS, hSM, eg, ev]
                                  have hvl : s2 < 4 := by omega
                                  refine lv_dup2_11 hx hb dMO_byTimes_222 rfl rfl ?_
                                  refine hr_iald hx hb hK hP 1 0 rfl rfl (i := s2) (by omega) (by omega) dMO_byTimes_223 ?_
                                  refine lv_aload_n hx hb dMO_byTimes_224 rfl (lv_at hl 4 rfl) ?_
                                  refine va_get (D := (dC, dI)) (ci := 8) (v := .ref z11) (C := RMO) (T := TMO) (N := 24) hx hb hts (fun w h => List.mem_cons_of_mem _ (inMO w h)) hown hK hP 0 rfl rfl 19 (by decide) (hts _ (List.mem_cons_of_mem _ kw_528)) (fun _ h9 => h9) rfl dMO_byTimes_225 ?_
                                  refine lv_iload_n hx hb dMO_byTimes_228 rfl (lv_at hl 2 rfl) ?_
                                  refine hr_iald hx hb hK hP 4 0 rfl rfl (i := g) (by omega) (by omega) dMO_byTimes_229 ?_
                                  refine lv_iadd hx hb dMO_byTimes_230 ?_
                                  refine hr_eqi (nI_add _ _) ?_
                                  refine hr_iastN hx hb hK hP hD hS 1 0 rfl rfl (i := s2) (by omega) (by omega) dMO_byTimes_231 (fun H locs hP hD hS => ?_)
                                  have hP : va_P (dC, dI) vwCl [(hM, .inr (8, [.int (nI th), .int (nI k), .int (nI n), .ref z1, .ref z2, .int (nI iS), .int (nI sc), .int (nI sn), .int (nI mv), .int (nI sg), .ref z3, .ref z4, .ref z5, .ref z6, .ref z7, .ref z8, .ref z9, .int (nI dn), .ref z10, .ref z11, .ref z12, .ref z13, .ref z14, .int (nI gc)])), (z4, .inl (cI, 4, .inl (fun j9 => nI ((va_up SM s2 ((SM s2) + (gT g))) j9)))), (z5, .inl (cI, 24, .inl (fun j9 => oI (bf j9)))), (z10, .inl (cI, 24, .inl (fun j9 => nI (gF j9)))), (z11, .inl (cI, 24, .inl (fun j9 => nI (gT j9)))), (z12, .inl (cI, 24, .inl (fun j9 => nI ((va_up wq g s2) j9)))), (z14, .inl (cZ, 24, .inl (fun j9 => nI ((va_up tq g 1) j9))))] H := hP
                                  have hD : va_D A [(hM, .inr (8, [.int (nI th), .int (nI k), .int (nI n), .ref z1, .ref z2, .int (nI iS), .int (nI sc), .int (nI sn), .int (nI mv), .int (nI sg), .ref z3, .ref z4, .ref z5, .ref z6, .ref z7, .ref z8, .ref z9, .int (nI dn), .ref z10, .ref z11, .ref z12, .ref z13, .ref z14, .int (nI gc)])), (z4, .inl (cI, 4, .inl (fun j9 => nI ((va_up SM s2 ((SM s2) + (gT g))) j9)))), (z5, .inl (cI, 24, .inl (fun j9 => oI (bf j9)))), (z10, .inl (cI, 24, .inl (fun j9 => nI (gF j9)))), (z11, .inl (cI, 24, .inl (fun j9 => nI (gT j9)))), (z12, .inl (cI, 24, .inl (fun j9 => nI ((va_up wq g s2) j9)))), (z14, .inl (cZ, 24, .inl (fun j9 => nI ((va_up tq g 1) j9))))] := hD
                                  refine lv_iinc (v := nI (i + 1)) (lv' := [(1, .int (nI (i + 1))), (4, .int (oI (bf (gF g)))), (3, .int (nI s2)), (2, .int (nI g)), (0, .ref hM)]) hx hb dMO_byTimes_232 hl (k := 3) rfl (hr_inc _) (by decide) rfl (fun ls hl => ?_)
                                  refine lv_goto (tgt := 45) hx hb dMO_byTimes_235 (by decide) ?_
                                  rw [← eq2] at hP hD
                                  exact ih_45 (i + 1) (va_up wq g s2) (va_up tq g 1) (by omega) (fun g9 hg9 => by
      rw [eq1]
      by_cases e : g9 = g
      · rw [e, va_up_self, va_up_self]; exact ⟨by decide, ⟨fun z => absurd z (by decide), fun z => by cases z⟩⟩
      · rw [va_up_ne _ _ e, va_up_ne _ _ e]; exact hT g9 hg9) (fun g9 hg9 q9 hq9 => by
      rw [eq1] at hq9
      by_cases e : g9 = g
      · rw [e, va_up_self] at hq9; cases hq9; rw [e, va_up_self]
      · rw [va_up_ne _ _ e] at hq9; rw [va_up_ne _ _ e]; exact hW9 g9 hg9 q9 hq9) (by omega) _ _ hP hD hS ls (lv_sub hl [0, 4] rfl)
                                · obtain ⟨h0, hb0⟩ := oI_ex c_6
                                  have hb4 := hbf _ hFl h0 hb0
                                  rw [hb0] at hl
                                  have hl : lv_has ls 5 [(4, .int (nI h0)), (3, .int (nI s2)), (2, .int (nI g)), (1, .int (nI i)), (0, .ref hM)] := hl
                                  have hm3 := hsl h0
                                  refine lv_iload hx hb dMO_byTimes_180 (lv_at hl 0 rfl) ?_
                                  refine lv_aload_n hx hb dMO_byTimes_182 rfl (lv_at hl 4 rfl) ?_
                                  refine va_get (D := (dC, dI)) (ci := 8) (v := .int (nI k)) (C := RMO) (T := TMO) (N := 24) hx hb hts (fun w h => List.mem_cons_of_mem _ (inMO w h)) hown hK hP 0 rfl rfl 1 (by decide) (hts _ (List.mem_cons_of_mem _ kw_510)) (fun _ h9 => h9) rfl dMO_byTimes_183 ?_
                                  refine hr_icmp_ge hx hb (x := h0) (y := k) (by omega) (by omega) (tgt := 210) dMO_byTimes_186 (by decide) (fun c_7 => ?_) (fun c_7 => ?_)
                                  · have ev : lsh SM k (bf (gF g)) = s2 := by rw [hb0]; show (if h0 < k ∧ SM h0 = SM (lst SM (k - 1)) then h0 else lst SM (k - 1)) = _; rw [← h2, if_neg (by omega)]
                                    refine lv_iload_n hx hb dMO_byTimes_210 rfl (lv_at hl 1 rfl) ?_
                                    refine hr_iastN hx hb hK hP hD hS 5 0 rfl rfl (i := g) (by omega) (by omega) dMO_byTimes_211 (fun H locs hP hD hS => ?_)
                                    have hP : va_P (dC, dI) vwCl [(hM, .inr (8, [.int (nI th), .int (nI k), .int (nI n), .ref z1, .ref z2, .int (nI iS), .int (nI sc), .int (nI sn), .int (nI mv), .int (nI sg), .ref z3, .ref z4, .ref z5, .ref z6, .ref z7, .ref z8, .ref z9, .int (nI dn), .ref z10, .ref z11, .ref z12, .ref z13, .ref z14, .int (nI gc)])), (z4, .inl (cI, 4, .inl (fun j9 => nI (SM j9)))), (z5, .inl (cI, 24, .inl (fun j9 => oI (bf j9)))), (z10, .inl (cI, 24, .inl (fun j9 => nI (gF j9)))), (z11, .inl (cI, 24, .inl (fun j9 => nI (gT j9)))), (z12, .inl (cI, 24, .inl (fun j9 => nI ((va_up wq g s2) j9)))), (z14, .inl (cZ, 24, .inl (fun j9 => nI ((va_up tq g 1) j9))))] H := hP
                                    have hD : va_D A [(hM, .inr (8, [.int (nI th), .int (nI k), .int (nI n), .ref z1, .ref z2, .int (nI iS), .int (nI sc), .int (nI sn), .int (nI mv), .int (nI sg), .ref z3, .ref z4, .ref z5, .ref z6, .ref z7, .ref z8, .ref z9, .int (nI dn), .ref z10, .ref z11, .ref z12, .ref z13, .ref z14, .int (nI gc)])), (z4, .inl (cI, 4, .inl (fun j9 => nI (SM j9)))), (z5, .inl (cI, 24, .inl (fun j9 => oI (bf j9)))), (z10, .inl (cI, 24, .inl (fun j9 => nI (gF j9)))), (z11, .inl (cI, 24, .inl (fun j9 => nI (gT j9)))), (z12, .inl (cI, 24, .inl (fun j9 => nI ((va_up wq g s2) j9)))), (z14, .inl (cZ, 24, .inl (fun j9 => nI ((va_up tq g 1) j9))))] := hD
                                    refine lv_aload_n hx hb dMO_byTimes_212 rfl (lv_at hl 4 rfl) ?_
                                    refine va_get (D := (dC, dI)) (ci := 8) (v := .ref z4) (C := RMO) (T := TMO) (N := 24) hx hb hts (fun w h => List.mem_cons_of_mem _ (inMO w h)) hown hK hP 0 rfl rfl 11 (by decide) (hts _ (List.mem_cons_of_mem _ kw_520)) (fun _ h9 => h9) rfl dMO_byTimes_213 ?_
                                    refine lv_aload_n hx hb dMO_byTimes_216 rfl (lv_at hl 4 rfl) ?_
                                    refine va_get (D := (dC, dI)) (ci := 8) (v := .ref z12) (C := RMO) (T := TMO) (N := 24) hx hb hts (fun w h => List.mem_cons_of_mem _ (inMO w h)) hown hK hP 0 rfl rfl 20 (by decide) (hts _ (List.mem_cons_of_mem _ kw_529)) (fun _ h9 => h9) rfl dMO_byTimes_217 ?_
                                    refine lv_iload_n hx hb dMO_byTimes_220 rfl (lv_at hl 2 rfl) ?_
                                    refine hr_iald hx hb hK hP 5 0 rfl rfl (i := g) (by omega) (by omega) dMO_byTimes_221 ?_
                                    refine hr_eqi (show nI (va_up wq g s2 g) = nI s2 by rw [va_up_self]) ?_
                                    have eg : (sel gT GS gc).getD 0 = g := by rw [hsel]; rfl
                                    have eq1 : (grd gT gF bf gc k (fun _ => none) (i + 1)).1 = va_up GS g (some s2) := by show va_up _ _ _ = _; rw [hGS, hSM, eg, ev]
                                    have eq2 : (grd gT gF bf gc k (fun _ => none) (i + 1)).2 = va_up SM s2 (SM s2 + gT g) := by show va_up _ _ _ = _; rw [hGS, hSM, eg, ev]
                                    have hvl : s2 < 4 := by omega
                                    refine lv_dup2_11 hx hb dMO_byTimes_222 rfl rfl ?_
                                    refine hr_iald hx hb hK hP 1 0 rfl rfl (i := s2) (by omega) (by omega) dMO_byTimes_223 ?_
                                    refine lv_aload_n hx hb dMO_byTimes_224 rfl (lv_at hl 4 rfl) ?_
                                    refine va_get (D := (dC, dI)) (ci := 8) (v := .ref z11) (C := RMO) (T := TMO) (N := 24) hx hb hts (fun w h => List.mem_cons_of_mem _ (inMO w h)) hown hK hP 0 rfl rfl 19 (by decide) (hts _ (List.mem_cons_of_mem _ kw_528)) (fun _ h9 => h9) rfl dMO_byTimes_225 ?_
                                    refine lv_iload_n hx hb dMO_byTimes_228 rfl (lv_at hl 2 rfl) ?_
                                    refine hr_iald hx hb hK hP 4 0 rfl rfl (i := g) (by omega) (by omega) dMO_byTimes_229 ?_
                                    refine lv_iadd hx hb dMO_byTimes_230 ?_
                                    refine hr_eqi (nI_add _ _) ?_
                                    refine hr_iastN hx hb hK hP hD hS 1 0 rfl rfl (i := s2) (by omega) (by omega) dMO_byTimes_231 (fun H locs hP hD hS => ?_)
                                    have hP : va_P (dC, dI) vwCl [(hM, .inr (8, [.int (nI th), .int (nI k), .int (nI n), .ref z1, .ref z2, .int (nI iS), .int (nI sc), .int (nI sn), .int (nI mv), .int (nI sg), .ref z3, .ref z4, .ref z5, .ref z6, .ref z7, .ref z8, .ref z9, .int (nI dn), .ref z10, .ref z11, .ref z12, .ref z13, .ref z14, .int (nI gc)])), (z4, .inl (cI, 4, .inl (fun j9 => nI ((va_up SM s2 ((SM s2) + (gT g))) j9)))), (z5, .inl (cI, 24, .inl (fun j9 => oI (bf j9)))), (z10, .inl (cI, 24, .inl (fun j9 => nI (gF j9)))), (z11, .inl (cI, 24, .inl (fun j9 => nI (gT j9)))), (z12, .inl (cI, 24, .inl (fun j9 => nI ((va_up wq g s2) j9)))), (z14, .inl (cZ, 24, .inl (fun j9 => nI ((va_up tq g 1) j9))))] H := hP
                                    have hD : va_D A [(hM, .inr (8, [.int (nI th), .int (nI k), .int (nI n), .ref z1, .ref z2, .int (nI iS), .int (nI sc), .int (nI sn), .int (nI mv), .int (nI sg), .ref z3, .ref z4, .ref z5, .ref z6, .ref z7, .ref z8, .ref z9, .int (nI dn), .ref z10, .ref z11, .ref z12, .ref z13, .ref z14, .int (nI gc)])), (z4, .inl (cI, 4, .inl (fun j9 => nI ((va_up SM s2 ((SM s2) + (gT g))) j9)))), (z5, .inl (cI, 24, .inl (fun j9 => oI (bf j9)))), (z10, .inl (cI, 24, .inl (fun j9 => nI (gF j9)))), (z11, .inl (cI, 24, .inl (fun j9 => nI (gT j9)))), (z12, .inl (cI, 24, .inl (fun j9 => nI ((va_up wq g s2) j9)))), (z14, .inl (cZ, 24, .inl (fun j9 => nI ((va_up tq g 1) j9))))] := hD
                                    refine lv_iinc (v := nI (i + 1)) (lv' := [(1, .int (nI (i + 1))), (4, .int (nI h0)), (3, .int (nI s2)), (2, .int (nI g)), (0, .ref hM)]) hx hb dMO_byTimes_232 hl (k := 3) rfl (hr_inc _) (by decide) rfl (fun ls hl => ?_)
                                    refine lv_goto (tgt := 45) hx hb dMO_byTimes_235 (by decide) ?_
                                    rw [← eq2] at hP hD
                                    exact ih_45 (i + 1) (va_up wq g s2) (va_up tq g 1) (by omega) (fun g9 hg9 => by
      rw [eq1]
      by_cases e : g9 = g
      · rw [e, va_up_self, va_up_self]; exact ⟨by decide, ⟨fun z => absurd z (by decide), fun z => by cases z⟩⟩
      · rw [va_up_ne _ _ e, va_up_ne _ _ e]; exact hT g9 hg9) (fun g9 hg9 q9 hq9 => by
      rw [eq1] at hq9
      by_cases e : g9 = g
      · rw [e, va_up_self] at hq9; cases hq9; rw [e, va_up_self]
      · rw [va_up_ne _ _ e] at hq9; rw [va_up_ne _ _ e]; exact hW9 g9 hg9 q9 hq9) (by omega) _ _ hP hD hS ls (lv_sub hl [0, 4] rfl)
                                  · refine lv_aload_n hx hb dMO_byTimes_189 rfl (lv_at hl 4 rfl) ?_
                                    refine va_get (D := (dC, dI)) (ci := 8) (v := .ref z4) (C := RMO) (T := TMO) (N := 24) hx hb hts (fun w h => List.mem_cons_of_mem _ (inMO w h)) hown hK hP 0 rfl rfl 11 (by decide) (hts _ (List.mem_cons_of_mem _ kw_520)) (fun _ h9 => h9) rfl dMO_byTimes_190 ?_
                                    refine lv_iload hx hb dMO_byTimes_193 (lv_at hl 0 rfl) ?_
                                    refine hr_iald hx hb hK hP 1 0 rfl rfl (i := h0) (by omega) (by omega) dMO_byTimes_195 ?_
                                    refine lv_aload_n hx hb dMO_byTimes_196 rfl (lv_at hl 4 rfl) ?_
                                    refine va_get (D := (dC, dI)) (ci := 8) (v := .ref z4) (C := RMO) (T := TMO) (N := 24) hx hb hts (fun w h => List.mem_cons_of_mem _ (inMO w h)) hown hK hP 0 rfl rfl 11 (by decide) (hts _ (List.mem_cons_of_mem _ kw_520)) (fun _ h9 => h9) rfl dMO_byTimes_197 ?_
                                    refine lv_iload_n hx hb dMO_byTimes_200 rfl (lv_at hl 1 rfl) ?_
                                    refine hr_iald hx hb hK hP 1 0 rfl rfl (i := s2) (by omega) (by omega) dMO_byTimes_201 ?_
                                    refine hr_icmp_ne hx hb (x := (SM h0)) (y := (SM s2)) (by omega) (by omega) (tgt := 210) dMO_byTimes_202 (by decide) (fun c_8 => ?_) (fun c_8 => ?_)
                                    · have ev : lsh SM k (bf (gF g)) = s2 := by rw [hb0]; show (if h0 < k ∧ SM h0 = SM (lst SM (k - 1)) then h0 else lst SM (k - 1)) = _; rw [← h2, if_neg (by omega)]
                                      refine lv_iload_n hx hb dMO_byTimes_210 rfl (lv_at hl 1 rfl) ?_
                                      refine hr_iastN hx hb hK hP hD hS 5 0 rfl rfl (i := g) (by omega) (by omega) dMO_byTimes_211 (fun H locs hP hD hS => ?_)
                                      have hP : va_P (dC, dI) vwCl [(hM, .inr (8, [.int (nI th), .int (nI k), .int (nI n), .ref z1, .ref z2, .int (nI iS), .int (nI sc), .int (nI sn), .int (nI mv), .int (nI sg), .ref z3, .ref z4, .ref z5, .ref z6, .ref z7, .ref z8, .ref z9, .int (nI dn), .ref z10, .ref z11, .ref z12, .ref z13, .ref z14, .int (nI gc)])), (z4, .inl (cI, 4, .inl (fun j9 => nI (SM j9)))), (z5, .inl (cI, 24, .inl (fun j9 => oI (bf j9)))), (z10, .inl (cI, 24, .inl (fun j9 => nI (gF j9)))), (z11, .inl (cI, 24, .inl (fun j9 => nI (gT j9)))), (z12, .inl (cI, 24, .inl (fun j9 => nI ((va_up wq g s2) j9)))), (z14, .inl (cZ, 24, .inl (fun j9 => nI ((va_up tq g 1) j9))))] H := hP
                                      have hD : va_D A [(hM, .inr (8, [.int (nI th), .int (nI k), .int (nI n), .ref z1, .ref z2, .int (nI iS), .int (nI sc), .int (nI sn), .int (nI mv), .int (nI sg), .ref z3, .ref z4, .ref z5, .ref z6, .ref z7, .ref z8, .ref z9, .int (nI dn), .ref z10, .ref z11, .ref z12, .ref z13, .ref z14, .int (nI gc)])), (z4, .inl (cI, 4, .inl (fun j9 => nI (SM j9)))), (z5, .inl (cI, 24, .inl (fun j9 => oI (bf j9)))), (z10, .inl (cI, 24, .inl (fun j9 => nI (gF j9)))), (z11, .inl (cI, 24, .inl (fun j9 => nI (gT j9)))), (z12, .inl (cI, 24, .inl (fun j9 => nI ((va_up wq g s2) j9)))), (z14, .inl (cZ, 24, .inl (fun j9 => nI ((va_up tq g 1) j9))))] := hD
                                      refine lv_aload_n hx hb dMO_byTimes_212 rfl (lv_at hl 4 rfl) ?_
                                      refine va_get (D := (dC, dI)) (ci := 8) (v := .ref z4) (C := RMO) (T := TMO) (N := 24) hx hb hts (fun w h => List.mem_cons_of_mem _ (inMO w h)) hown hK hP 0 rfl rfl 11 (by decide) (hts _ (List.mem_cons_of_mem _ kw_520)) (fun _ h9 => h9) rfl dMO_byTimes_213 ?_
                                      refine lv_aload_n hx hb dMO_byTimes_216 rfl (lv_at hl 4 rfl) ?_
                                      refine va_get (D := (dC, dI)) (ci := 8) (v := .ref z12) (C := RMO) (T := TMO) (N := 24) hx hb hts (fun w h => List.mem_cons_of_mem _ (inMO w h)) hown hK hP 0 rfl rfl 20 (by decide) (hts _ (List.mem_cons_of_mem _ kw_529)) (fun _ h9 => h9) rfl dMO_byTimes_217 ?_
                                      refine lv_iload_n hx hb dMO_byTimes_220 rfl (lv_at hl 2 rfl) ?_
                                      refine hr_iald hx hb hK hP 5 0 rfl rfl (i := g) (by omega) (by omega) dMO_byTimes_221 ?_
                                      refine hr_eqi (show nI (va_up wq g s2 g) = nI s2 by rw [va_up_self]) ?_
                                      have eg : (sel gT GS gc).getD 0 = g := by rw [hsel]; rfl
                                      have eq1 : (grd gT gF bf gc k (fun _ => none) (i + 1)).1 = va_up GS g (some s2) := by show va_up _ _ _ = _; rw [hGS, hSM, eg, ev]
                                      have eq2 : (grd gT gF bf gc k (fun _ => none) (i + 1)).2 = va_up SM s2 (SM s2 + gT g) := by show va_up _ _ _ = _; rw [hGS, hSM, eg, ev]
                                      have hvl : s2 < 4 := by omega
                                      refine lv_dup2_11 hx hb dMO_byTimes_222 rfl rfl ?_
                                      refine hr_iald hx hb hK hP 1 0 rfl rfl (i := s2) (by omega) (by omega) dMO_byTimes_223 ?_
                                      refine lv_aload_n hx hb dMO_byTimes_224 rfl (lv_at hl 4 rfl) ?_
                                      refine va_get (D := (dC, dI)) (ci := 8) (v := .ref z11) (C := RMO) (T := TMO) (N := 24) hx hb hts (fun w h => List.mem_cons_of_mem _ (inMO w h)) hown hK hP 0 rfl rfl 19 (by decide) (hts _ (List.mem_cons_of_mem _ kw_528)) (fun _ h9 => h9) rfl dMO_byTimes_225 ?_
                                      refine lv_iload_n hx hb dMO_byTimes_228 rfl (lv_at hl 2 rfl) ?_
                                      refine hr_iald hx hb hK hP 4 0 rfl rfl (i := g) (by omega) (by omega) dMO_byTimes_229 ?_
                                      refine lv_iadd hx hb dMO_byTimes_230 ?_
                                      refine hr_eqi (nI_add _ _) ?_
                                      refine hr_iastN hx hb hK hP hD hS 1 0 rfl rfl (i := s2) (by omega) (by omega) dMO_byTimes_231 (fun H locs hP hD hS => ?_)
                                      have hP : va_P (dC, dI) vwCl [(hM, .inr (8, [.int (nI th), .int (nI k), .int (nI n), .ref z1, .ref z2, .int (nI iS), .int (nI sc), .int (nI sn), .int (nI mv), .int (nI sg), .ref z3, .ref z4, .ref z5, .ref z6, .ref z7, .ref z8, .ref z9, .int (nI dn), .ref z10, .ref z11, .ref z12, .ref z13, .ref z14, .int (nI gc)])), (z4, .inl (cI, 4, .inl (fun j9 => nI ((va_up SM s2 ((SM s2) + (gT g))) j9)))), (z5, .inl (cI, 24, .inl (fun j9 => oI (bf j9)))), (z10, .inl (cI, 24, .inl (fun j9 => nI (gF j9)))), (z11, .inl (cI, 24, .inl (fun j9 => nI (gT j9)))), (z12, .inl (cI, 24, .inl (fun j9 => nI ((va_up wq g s2) j9)))), (z14, .inl (cZ, 24, .inl (fun j9 => nI ((va_up tq g 1) j9))))] H := hP
                                      have hD : va_D A [(hM, .inr (8, [.int (nI th), .int (nI k), .int (nI n), .ref z1, .ref z2, .int (nI iS), .int (nI sc), .int (nI sn), .int (nI mv), .int (nI sg), .ref z3, .ref z4, .ref z5, .ref z6, .ref z7, .ref z8, .ref z9, .int (nI dn), .ref z10, .ref z11, .ref z12, .ref z13, .ref z14, .int (nI gc)])), (z4, .inl (cI, 4, .inl (fun j9 => nI ((va_up SM s2 ((SM s2) + (gT g))) j9)))), (z5, .inl (cI, 24, .inl (fun j9 => oI (bf j9)))), (z10, .inl (cI, 24, .inl (fun j9 => nI (gF j9)))), (z11, .inl (cI, 24, .inl (fun j9 => nI (gT j9)))), (z12, .inl (cI, 24, .inl (fun j9 => nI ((va_up wq g s2) j9)))), (z14, .inl (cZ, 24, .inl (fun j9 => nI ((va_up tq g 1) j9))))] := hD
                                      refine lv_iinc (v := nI (i + 1)) (lv' := [(1, .int (nI (i + 1))), (4, .int (nI h0)), (3, .int (nI s2)), (2, .int (nI g)), (0, .ref hM)]) hx hb dMO_byTimes_232 hl (k := 3) rfl (hr_inc _) (by decide) rfl (fun ls hl => ?_)
                                      refine lv_goto (tgt := 45) hx hb dMO_byTimes_235 (by decide) ?_
                                      rw [← eq2] at hP hD
                                      exact ih_45 (i + 1) (va_up wq g s2) (va_up tq g 1) (by omega) (fun g9 hg9 => by
      rw [eq1]
      by_cases e : g9 = g
      · rw [e, va_up_self, va_up_self]; exact ⟨by decide, ⟨fun z => absurd z (by decide), fun z => by cases z⟩⟩
      · rw [va_up_ne _ _ e, va_up_ne _ _ e]; exact hT g9 hg9) (fun g9 hg9 q9 hq9 => by
      rw [eq1] at hq9
      by_cases e : g9 = g
      · rw [e, va_up_self] at hq9; cases hq9; rw [e, va_up_self]
      · rw [va_up_ne _ _ e] at hq9; rw [va_up_ne _ _ e]; exact hW9 g9 hg9 q9 hq9) (by omega) _ _ hP hD hS ls (lv_sub hl [0, 4] rfl)
                                    · have ev : lsh SM k (bf (gF g)) = h0 := by rw [hb0]; show (if h0 < k ∧ SM h0 = SM (lst SM (k - 1)) then h0 else lst SM (k - 1)) = _; rw [← h2, if_pos ⟨by omega, by omega⟩]
                                      refine lv_iload hx hb dMO_byTimes_205 (lv_at hl 0 rfl) ?_
                                      refine lv_goto (tgt := 211) hx hb dMO_byTimes_207 (by decide) ?_
                                      refine hr_iastN hx hb hK hP hD hS 5 0 rfl rfl (i := g) (by omega) (by omega) dMO_byTimes_211 (fun H locs hP hD hS => ?_)
                                      have hP : va_P (dC, dI) vwCl [(hM, .inr (8, [.int (nI th), .int (nI k), .int (nI n), .ref z1, .ref z2, .int (nI iS), .int (nI sc), .int (nI sn), .int (nI mv), .int (nI sg), .ref z3, .ref z4, .ref z5, .ref z6, .ref z7, .ref z8, .ref z9, .int (nI dn), .ref z10, .ref z11, .ref z12, .ref z13, .ref z14, .int (nI gc)])), (z4, .inl (cI, 4, .inl (fun j9 => nI (SM j9)))), (z5, .inl (cI, 24, .inl (fun j9 => oI (bf j9)))), (z10, .inl (cI, 24, .inl (fun j9 => nI (gF j9)))), (z11, .inl (cI, 24, .inl (fun j9 => nI (gT j9)))), (z12, .inl (cI, 24, .inl (fun j9 => nI ((va_up wq g h0) j9)))), (z14, .inl (cZ, 24, .inl (fun j9 => nI ((va_up tq g 1) j9))))] H := hP
                                      have hD : va_D A [(hM, .inr (8, [.int (nI th), .int (nI k), .int (nI n), .ref z1, .ref z2, .int (nI iS), .int (nI sc), .int (nI sn), .int (nI mv), .int (nI sg), .ref z3, .ref z4, .ref z5, .ref z6, .ref z7, .ref z8, .ref z9, .int (nI dn), .ref z10, .ref z11, .ref z12, .ref z13, .ref z14, .int (nI gc)])), (z4, .inl (cI, 4, .inl (fun j9 => nI (SM j9)))), (z5, .inl (cI, 24, .inl (fun j9 => oI (bf j9)))), (z10, .inl (cI, 24, .inl (fun j9 => nI (gF j9)))), (z11, .inl (cI, 24, .inl (fun j9 => nI (gT j9)))), (z12, .inl (cI, 24, .inl (fun j9 => nI ((va_up wq g h0) j9)))), (z14, .inl (cZ, 24, .inl (fun j9 => nI ((va_up tq g 1) j9))))] := hD
                                      refine lv_aload_n hx hb dMO_byTimes_212 rfl (lv_at hl 4 rfl) ?_
                                      refine va_get (D := (dC, dI)) (ci := 8) (v := .ref z4) (C := RMO) (T := TMO) (N := 24) hx hb hts (fun w h => List.mem_cons_of_mem _ (inMO w h)) hown hK hP 0 rfl rfl 11 (by decide) (hts _ (List.mem_cons_of_mem _ kw_520)) (fun _ h9 => h9) rfl dMO_byTimes_213 ?_
                                      refine lv_aload_n hx hb dMO_byTimes_216 rfl (lv_at hl 4 rfl) ?_
                                      refine va_get (D := (dC, dI)) (ci := 8) (v := .ref z12) (C := RMO) (T := TMO) (N := 24) hx hb hts (fun w h => List.mem_cons_of_mem _ (inMO w h)) hown hK hP 0 rfl rfl 20 (by decide) (hts _ (List.mem_cons_of_mem _ kw_529)) (fun _ h9 => h9) rfl dMO_byTimes_217 ?_
                                      refine lv_iload_n hx hb dMO_byTimes_220 rfl (lv_at hl 2 rfl) ?_
                                      refine hr_iald hx hb hK hP 5 0 rfl rfl (i := g) (by omega) (by omega) dMO_byTimes_221 ?_
                                      refine hr_eqi (show nI (va_up wq g h0 g) = nI h0 by rw [va_up_self]) ?_
                                      have eg : (sel gT GS gc).getD 0 = g := by rw [hsel]; rfl
                                      have eq1 : (grd gT gF bf gc k (fun _ => none) (i + 1)).1 = va_up GS g (some h0) := by show va_up _ _ _ = _; rw [hGS, hSM, eg, ev]
                                      have eq2 : (grd gT gF bf gc k (fun _ => none) (i + 1)).2 = va_up SM h0 (SM h0 + gT g) := by show va_up _ _ _ = _; rw [hGS, hSM, eg, ev]
                                      have hvl : h0 < 4 := by omega
                                      refine lv_dup2_11 hx hb dMO_byTimes_222 rfl rfl ?_
                                      refine hr_iald hx hb hK hP 1 0 rfl rfl (i := h0) (by omega) (by omega) dMO_byTimes_223 ?_
                                      refine lv_aload_n hx hb dMO_byTimes_224 rfl (lv_at hl 4 rfl) ?_
                                      refine va_get (D := (dC, dI)) (ci := 8) (v := .ref z11) (C := RMO) (T := TMO) (N := 24) hx hb hts (fun w h => List.mem_cons_of_mem _ (inMO w h)) hown hK hP 0 rfl rfl 19 (by decide) (hts _ (List.mem_cons_of_mem _ kw_528)) (fun _ h9 => h9) rfl dMO_byTimes_225 ?_
                                      refine lv_iload_n hx hb dMO_byTimes_228 rfl (lv_at hl 2 rfl) ?_
                                      refine hr_iald hx hb hK hP 4 0 rfl rfl (i := g) (by omega) (by omega) dMO_byTimes_229 ?_
                                      refine lv_iadd hx hb dMO_byTimes_230 ?_
                                      refine hr_eqi (nI_add _ _) ?_
                                      refine hr_iastN hx hb hK hP hD hS 1 0 rfl rfl (i := h0) (by omega) (by omega) dMO_byTimes_231 (fun H locs hP hD hS => ?_)
                                      have hP : va_P (dC, dI) vwCl [(hM, .inr (8, [.int (nI th), .int (nI k), .int (nI n), .ref z1, .ref z2, .int (nI iS), .int (nI sc), .int (nI sn), .int (nI mv), .int (nI sg), .ref z3, .ref z4, .ref z5, .ref z6, .ref z7, .ref z8, .ref z9, .int (nI dn), .ref z10, .ref z11, .ref z12, .ref z13, .ref z14, .int (nI gc)])), (z4, .inl (cI, 4, .inl (fun j9 => nI ((va_up SM h0 ((SM h0) + (gT g))) j9)))), (z5, .inl (cI, 24, .inl (fun j9 => oI (bf j9)))), (z10, .inl (cI, 24, .inl (fun j9 => nI (gF j9)))), (z11, .inl (cI, 24, .inl (fun j9 => nI (gT j9)))), (z12, .inl (cI, 24, .inl (fun j9 => nI ((va_up wq g h0) j9)))), (z14, .inl (cZ, 24, .inl (fun j9 => nI ((va_up tq g 1) j9))))] H := hP
                                      have hD : va_D A [(hM, .inr (8, [.int (nI th), .int (nI k), .int (nI n), .ref z1, .ref z2, .int (nI iS), .int (nI sc), .int (nI sn), .int (nI mv), .int (nI sg), .ref z3, .ref z4, .ref z5, .ref z6, .ref z7, .ref z8, .ref z9, .int (nI dn), .ref z10, .ref z11, .ref z12, .ref z13, .ref z14, .int (nI gc)])), (z4, .inl (cI, 4, .inl (fun j9 => nI ((va_up SM h0 ((SM h0) + (gT g))) j9)))), (z5, .inl (cI, 24, .inl (fun j9 => oI (bf j9)))), (z10, .inl (cI, 24, .inl (fun j9 => nI (gF j9)))), (z11, .inl (cI, 24, .inl (fun j9 => nI (gT j9)))), (z12, .inl (cI, 24, .inl (fun j9 => nI ((va_up wq g h0) j9)))), (z14, .inl (cZ, 24, .inl (fun j9 => nI ((va_up tq g 1) j9))))] := hD
                                      refine lv_iinc (v := nI (i + 1)) (lv' := [(1, .int (nI (i + 1))), (4, .int (nI h0)), (3, .int (nI s2)), (2, .int (nI g)), (0, .ref hM)]) hx hb dMO_byTimes_232 hl (k := 3) rfl (hr_inc _) (by decide) rfl (fun ls hl => ?_)
                                      refine lv_goto (tgt := 45) hx hb dMO_byTimes_235 (by decide) ?_
                                      rw [← eq2] at hP hD
                                      exact ih_45 (i + 1) (va_up wq g h0) (va_up tq g 1) (by omega) (fun g9 hg9 => by
      rw [eq1]
      by_cases e : g9 = g
      · rw [e, va_up_self, va_up_self]; exact ⟨by decide, ⟨fun z => absurd z (by decide), fun z => by cases z⟩⟩
      · rw [va_up_ne _ _ e, va_up_ne _ _ e]; exact hT g9 hg9) (fun g9 hg9 q9 hq9 => by
      rw [eq1] at hq9
      by_cases e : g9 = g
      · rw [e, va_up_self] at hq9; cases hq9; rw [e, va_up_self]
      · rw [va_up_ne _ _ e] at hq9; rw [va_up_ne _ _ e]; exact hW9 g9 hg9 q9 hq9) (by omega) _ _ hP hD hS ls (lv_sub hl [0, 4] rfl)
                              · have hm1 := hsl t
                                have hm2 := hsl s2
                                refine lv_aload_n hx hb dMO_byTimes_127 rfl (lv_at hl 4 rfl) ?_
                                refine va_get (D := (dC, dI)) (ci := 8) (v := .ref z4) (C := RMO) (T := TMO) (N := 24) hx hb hts (fun w h => List.mem_cons_of_mem _ (inMO w h)) hown hK hP 0 rfl rfl 11 (by decide) (hts _ (List.mem_cons_of_mem _ kw_520)) (fun _ h9 => h9) rfl dMO_byTimes_128 ?_
                                refine lv_iload hx hb dMO_byTimes_131 (lv_at hl 0 rfl) ?_
                                refine hr_iald hx hb hK hP 1 0 rfl rfl (i := t) (by omega) (by omega) dMO_byTimes_133 ?_
                                refine lv_aload_n hx hb dMO_byTimes_134 rfl (lv_at hl 4 rfl) ?_
                                refine va_get (D := (dC, dI)) (ci := 8) (v := .ref z4) (C := RMO) (T := TMO) (N := 24) hx hb hts (fun w h => List.mem_cons_of_mem _ (inMO w h)) hown hK hP 0 rfl rfl 11 (by decide) (hts _ (List.mem_cons_of_mem _ kw_520)) (fun _ h9 => h9) rfl dMO_byTimes_135 ?_
                                refine lv_iload_n hx hb dMO_byTimes_138 rfl (lv_at hl 1 rfl) ?_
                                refine hr_iald hx hb hK hP 1 0 rfl rfl (i := s2) (by omega) (by omega) dMO_byTimes_139 ?_
                                refine hr_icmp_ge hx hb (x := (SM t)) (y := (SM s2)) (by omega) (by omega) (tgt := 148) dMO_byTimes_140 (by decide) (fun c_9 => ?_) (fun c_9 => ?_)
                                · refine lv_iload_n hx hb dMO_byTimes_148 rfl (lv_at hl 1 rfl) ?_
                                  refine lv_istore_n (lv' := [(3, .int (nI s2)), (4, .int (nI t)), (2, .int (nI g)), (1, .int (nI i)), (0, .ref hM)]) hx hb dMO_byTimes_149 rfl hl (by decide) rfl (fun ls hl => ?_)
                                  refine lv_iinc (v := nI (t + 1)) (lv' := [(4, .int (nI (t + 1))), (3, .int (nI s2)), (2, .int (nI g)), (1, .int (nI i)), (0, .ref hM)]) hx hb dMO_byTimes_150 hl (k := 1) rfl (hr_inc _) (by decide) rfl (fun ls hl => ?_)
                                  refine lv_goto (tgt := 118) hx hb dMO_byTimes_153 (by decide) ?_
                                  exact ih_118 (t + 1) s2 (by omega) (by omega) (by rw [lst_keep ht1 (by rw [← h2]; omega)]; exact h2) (by omega) (by omega) _ _ hP hD hS ls (lv_sub hl [0, 1, 2, 3, 4] rfl)
                                · refine lv_iload hx hb dMO_byTimes_143 (lv_at hl 0 rfl) ?_
                                  refine lv_goto (tgt := 149) hx hb dMO_byTimes_145 (by decide) ?_
                                  refine lv_istore_n (lv' := [(3, .int (nI t)), (4, .int (nI t)), (2, .int (nI g)), (1, .int (nI i)), (0, .ref hM)]) hx hb dMO_byTimes_149 rfl hl (by decide) rfl (fun ls hl => ?_)
                                  refine lv_iinc (v := nI (t + 1)) (lv' := [(4, .int (nI (t + 1))), (3, .int (nI t)), (2, .int (nI g)), (1, .int (nI i)), (0, .ref hM)]) hx hb dMO_byTimes_150 hl (k := 1) rfl (hr_inc _) (by decide) rfl (fun ls hl => ?_)
                                  refine lv_goto (tgt := 118) hx hb dMO_byTimes_153 (by decide) ?_
                                  exact ih_118 (t + 1) t (by omega) (by omega) (by rw [lst_take ht1 (by rw [← h2]; omega)]) (by omega) (by omega) _ _ hP hD hS ls (lv_sub hl [0, 1, 2, 3, 4] rfl)
                          exact loop_118 (k + 1) 1 0 (by omega) (by omega) (rfl) (by omega) (by omega) _ _ hP hD hS ls (lv_sub hl [0, 1, 2, 3, 4] rfl)
                        · obtain ⟨ht2, htn⟩ := hT j (by omega)
                          refine lv_aload_n hx hb dMO_byTimes_65 rfl (lv_at hl 3 rfl) ?_
                          refine va_get (D := (dC, dI)) (ci := 8) (v := .ref z14) (C := RMO) (T := TMO) (N := 24) hx hb hts (fun w h => List.mem_cons_of_mem _ (inMO w h)) hown hK hP 0 rfl rfl 22 (by decide) (hts _ (List.mem_cons_of_mem _ kw_531)) (fun _ h9 => h9) rfl dMO_byTimes_66 ?_
                          refine lv_iload_n hx hb dMO_byTimes_69 rfl (lv_at hl 0 rfl) ?_
                          refine hr_zald hx hb hK hP 6 1 rfl rfl (i := j) (by omega) (by omega) dMO_byTimes_70 ?_
                          refine hr_if_ne hx hb (x := (tq j)) (by omega) (tgt := 98) dMO_byTimes_71 (by decide) (fun c_10 => ?_) (fun c_10 => ?_)
                          · have hgn : ¬ GS j = none := fun z => c_10 (htn.mpr z)
                            refine lv_iload_n hx hb dMO_byTimes_98 rfl (lv_at hl 1 rfl) ?_
                            refine lv_istore_n (lv' := [(2, .int (oI o)), (3, .int (nI j)), (1, .int (nI i)), (0, .ref hM)]) hx hb dMO_byTimes_99 rfl hl (by decide) rfl (fun ls hl => ?_)
                            refine lv_iinc (v := nI (j + 1)) (lv' := [(3, .int (nI (j + 1))), (2, .int (oI o)), (1, .int (nI i)), (0, .ref hM)]) hx hb dMO_byTimes_100 hl (k := 1) rfl (hr_inc _) (by decide) rfl (fun ls hl => ?_)
                            refine lv_goto (tgt := 57) hx hb dMO_byTimes_103 (by decide) ?_
                            exact ih_57 (j + 1) o (by omega) (by rw [sel_skip hgn]; exact ho) (by omega) _ _ hP hD hS ls (lv_sub hl [0, 1, 2, 3] rfl)
                          · have hgn : GS j = none := htn.mp c_10
                            refine lv_iload_n hx hb dMO_byTimes_74 rfl (lv_at hl 1 rfl) ?_
                            refine lv_iconst (v := (-1)) hx hb dMO_byTimes_75 (by decide +kernel) ?_
                            refine lv_icmp_eq (tgt := 94) hx hb dMO_byTimes_76 (by decide) (fun c_11 => ?_) (fun c_11 => ?_)
                            · have ho2 : o = none := (oI_m1 (fun z hz => by rw [hz] at ho; have := (sel_lt ho.symm).1; omega)).mp c_11
                              subst ho2
                              have hl : lv_has ls 5 [(3, .int (nI j)), (2, .int (-1)), (1, .int (nI i)), (0, .ref hM)] := hl
                              refine lv_iload_n hx hb dMO_byTimes_94 rfl (lv_at hl 0 rfl) ?_
                              refine lv_goto (tgt := 99) hx hb dMO_byTimes_95 (by decide) ?_
                              refine lv_istore_n (lv' := [(2, .int (nI j)), (3, .int (nI j)), (1, .int (nI i)), (0, .ref hM)]) hx hb dMO_byTimes_99 rfl hl (by decide) rfl (fun ls hl => ?_)
                              refine lv_iinc (v := nI (j + 1)) (lv' := [(3, .int (nI (j + 1))), (2, .int (nI j)), (1, .int (nI i)), (0, .ref hM)]) hx hb dMO_byTimes_100 hl (k := 1) rfl (hr_inc _) (by decide) rfl (fun ls hl => ?_)
                              refine lv_goto (tgt := 57) hx hb dMO_byTimes_103 (by decide) ?_
                              exact ih_57 (j + 1) (some j) (by omega) (by rw [sel, if_pos hgn, ← ho]) (by omega) _ _ hP hD hS ls (lv_sub hl [0, 1, 2, 3] rfl)
                            · obtain ⟨g, rfl⟩ := oI_ex c_11
                              have hl : lv_has ls 5 [(3, .int (nI j)), (2, .int (nI g)), (1, .int (nI i)), (0, .ref hM)] := hl
                              have hgl := (sel_lt ho.symm).1
                              have hw1 := hgT g (by omega)
                              have hw2 := hgT j (by omega)
                              refine lv_aload_n hx hb dMO_byTimes_79 rfl (lv_at hl 3 rfl) ?_
                              refine va_get (D := (dC, dI)) (ci := 8) (v := .ref z11) (C := RMO) (T := TMO) (N := 24) hx hb hts (fun w h => List.mem_cons_of_mem _ (inMO w h)) hown hK hP 0 rfl rfl 19 (by decide) (hts _ (List.mem_cons_of_mem _ kw_528)) (fun _ h9 => h9) rfl dMO_byTimes_80 ?_
                              refine lv_iload_n hx hb dMO_byTimes_83 rfl (lv_at hl 0 rfl) ?_
                              refine hr_iald hx hb hK hP 4 0 rfl rfl (i := j) (by omega) (by omega) dMO_byTimes_84 ?_
                              refine lv_aload_n hx hb dMO_byTimes_85 rfl (lv_at hl 3 rfl) ?_
                              refine va_get (D := (dC, dI)) (ci := 8) (v := .ref z11) (C := RMO) (T := TMO) (N := 24) hx hb hts (fun w h => List.mem_cons_of_mem _ (inMO w h)) hown hK hP 0 rfl rfl 19 (by decide) (hts _ (List.mem_cons_of_mem _ kw_528)) (fun _ h9 => h9) rfl dMO_byTimes_86 ?_
                              refine lv_iload_n hx hb dMO_byTimes_89 rfl (lv_at hl 1 rfl) ?_
                              refine hr_iald hx hb hK hP 4 0 rfl rfl (i := g) (by omega) (by omega) dMO_byTimes_90 ?_
                              refine hr_icmp_le hx hb (x := (gT j)) (y := (gT g)) (by omega) (by omega) (tgt := 98) dMO_byTimes_91 (by decide) (fun c_12 => ?_) (fun c_12 => ?_)
                              · refine lv_iload_n hx hb dMO_byTimes_98 rfl (lv_at hl 1 rfl) ?_
                                refine lv_istore_n (lv' := [(2, .int (nI g)), (3, .int (nI j)), (1, .int (nI i)), (0, .ref hM)]) hx hb dMO_byTimes_99 rfl hl (by decide) rfl (fun ls hl => ?_)
                                refine lv_iinc (v := nI (j + 1)) (lv' := [(3, .int (nI (j + 1))), (2, .int (nI g)), (1, .int (nI i)), (0, .ref hM)]) hx hb dMO_byTimes_100 hl (k := 1) rfl (hr_inc _) (by decide) rfl (fun ls hl => ?_)
                                refine lv_goto (tgt := 57) hx hb dMO_byTimes_103 (by decide) ?_
                                exact ih_57 (j + 1) (some g) (by omega) (by rw [sel, if_pos hgn, ← ho]; exact (if_neg (by omega)).symm) (by omega) _ _ hP hD hS ls (lv_sub hl [0, 1, 2, 3] rfl)
                              · refine lv_iload_n hx hb dMO_byTimes_94 rfl (lv_at hl 0 rfl) ?_
                                refine lv_goto (tgt := 99) hx hb dMO_byTimes_95 (by decide) ?_
                                refine lv_istore_n (lv' := [(2, .int (nI j)), (3, .int (nI j)), (1, .int (nI i)), (0, .ref hM)]) hx hb dMO_byTimes_99 rfl hl (by decide) rfl (fun ls hl => ?_)
                                refine lv_iinc (v := nI (j + 1)) (lv' := [(3, .int (nI (j + 1))), (2, .int (nI j)), (1, .int (nI i)), (0, .ref hM)]) hx hb dMO_byTimes_100 hl (k := 1) rfl (hr_inc _) (by decide) rfl (fun ls hl => ?_)
                                refine lv_goto (tgt := 57) hx hb dMO_byTimes_103 (by decide) ?_
                                exact ih_57 (j + 1) (some j) (by omega) (by rw [sel, if_pos hgn, ← ho]; exact (if_pos (by omega)).symm) (by omega) _ _ hP hD hS ls (lv_sub hl [0, 1, 2, 3] rfl)
                    exact loop_57 (gc + 1) 0 none (by omega) (rfl) (by omega) _ _ hP hD hS ls (lv_sub hl [0, 1, 2, 3] rfl)
              exact loop_45 (gc + 1) 0 wy (fillF tk 0 gc) (by omega) (fun g hg => by rw [fillF_in hg]; exact ⟨by decide, ⟨fun _ => rfl, fun _ => rfl⟩⟩) (fun g hg q hq => by cases hq) (by omega) _ _ hP hD hS ls (lv_sub hl [0, 1] rfl)
            · refine lv_aload_n hx hb dMO_byTimes_30 rfl (lv_at hl 1 rfl) ?_
              refine va_get (D := (dC, dI)) (ci := 8) (v := .ref z14) (C := RMO) (T := TMO) (N := 24) hx hb hts (fun w h => List.mem_cons_of_mem _ (inMO w h)) hown hK hP 0 rfl rfl 22 (by decide) (hts _ (List.mem_cons_of_mem _ kw_531)) (fun _ h9 => h9) rfl dMO_byTimes_31 ?_
              refine lv_iload_n hx hb dMO_byTimes_34 rfl (lv_at hl 0 rfl) ?_
              refine lv_iconst (v := nI 0) hx hb dMO_byTimes_35 (by decide +kernel) ?_
              refine hr_zastN hx hb hK hP hD hS 6 1 rfl rfl (i := i) (by omega) (by omega) (by omega) dMO_byTimes_36 (fun H locs hP hD hS => ?_)
              have hP : va_P (dC, dI) vwCl [(hM, .inr (8, [.int (nI th), .int (nI k), .int (nI n), .ref z1, .ref z2, .int (nI iS), .int (nI sc), .int (nI sn), .int (nI mv), .int (nI sg), .ref z3, .ref z4, .ref z5, .ref z6, .ref z7, .ref z8, .ref z9, .int (nI dn), .ref z10, .ref z11, .ref z12, .ref z13, .ref z14, .int (nI gc)])), (z4, .inl (cI, 4, .inl (fun j9 => nI ((fun _ => 0) j9)))), (z5, .inl (cI, 24, .inl (fun j9 => oI (bf j9)))), (z10, .inl (cI, 24, .inl (fun j9 => nI (gF j9)))), (z11, .inl (cI, 24, .inl (fun j9 => nI (gT j9)))), (z12, .inl (cI, 24, .inl (fun j9 => nI (wy j9)))), (z14, .inl (cZ, 24, .inl (fun j9 => nI ((va_up (fillF tk 0 i) i 0) j9))))] H := hP
              have hD : va_D A [(hM, .inr (8, [.int (nI th), .int (nI k), .int (nI n), .ref z1, .ref z2, .int (nI iS), .int (nI sc), .int (nI sn), .int (nI mv), .int (nI sg), .ref z3, .ref z4, .ref z5, .ref z6, .ref z7, .ref z8, .ref z9, .int (nI dn), .ref z10, .ref z11, .ref z12, .ref z13, .ref z14, .int (nI gc)])), (z4, .inl (cI, 4, .inl (fun j9 => nI ((fun _ => 0) j9)))), (z5, .inl (cI, 24, .inl (fun j9 => oI (bf j9)))), (z10, .inl (cI, 24, .inl (fun j9 => nI (gF j9)))), (z11, .inl (cI, 24, .inl (fun j9 => nI (gT j9)))), (z12, .inl (cI, 24, .inl (fun j9 => nI (wy j9)))), (z14, .inl (cZ, 24, .inl (fun j9 => nI ((va_up (fillF tk 0 i) i 0) j9))))] := hD
              refine lv_iinc (v := nI (i + 1)) (lv' := [(1, .int (nI (i + 1))), (0, .ref hM)]) hx hb dMO_byTimes_37 hl (k := 0) rfl (hr_inc _) (by decide) rfl (fun ls hl => ?_)
              refine lv_goto (tgt := 22) hx hb dMO_byTimes_40 (by decide) ?_
              rw [fillF_upN] at hP hD
              exact ih_22 (i + 1) (by omega) (by omega) _ _ hP hD hS ls (lv_sub hl [0, 1] rfl)
        exact loop_22 (gc + 1) 0 (by omega) (by omega) _ _ hP hD hS ls (lv_sub hl [0, 1] rfl)
      · refine lv_aload_n hx hb dMO_byTimes_7 rfl (lv_at hl 1 rfl) ?_
        refine va_get (D := (dC, dI)) (ci := 8) (v := .ref z4) (C := RMO) (T := TMO) (N := 24) hx hb hts (fun w h => List.mem_cons_of_mem _ (inMO w h)) hown hK hP 0 rfl rfl 11 (by decide) (hts _ (List.mem_cons_of_mem _ kw_520)) (fun _ h9 => h9) rfl dMO_byTimes_8 ?_
        refine lv_iload_n hx hb dMO_byTimes_11 rfl (lv_at hl 0 rfl) ?_
        refine lv_iconst (v := nI 0) hx hb dMO_byTimes_12 (by decide +kernel) ?_
        refine hr_iastN hx hb hK hP hD hS 1 0 rfl rfl (i := i) (by omega) (by omega) dMO_byTimes_13 (fun H locs hP hD hS => ?_)
        have hP : va_P (dC, dI) vwCl [(hM, .inr (8, [.int (nI th), .int (nI k), .int (nI n), .ref z1, .ref z2, .int (nI iS), .int (nI sc), .int (nI sn), .int (nI mv), .int (nI sg), .ref z3, .ref z4, .ref z5, .ref z6, .ref z7, .ref z8, .ref z9, .int (nI dn), .ref z10, .ref z11, .ref z12, .ref z13, .ref z14, .int (nI gc)])), (z4, .inl (cI, 4, .inl (fun j9 => nI ((va_up (fillF sm 0 i) i 0) j9)))), (z5, .inl (cI, 24, .inl (fun j9 => oI (bf j9)))), (z10, .inl (cI, 24, .inl (fun j9 => nI (gF j9)))), (z11, .inl (cI, 24, .inl (fun j9 => nI (gT j9)))), (z12, .inl (cI, 24, .inl (fun j9 => nI (wy j9)))), (z14, .inl (cZ, 24, .inl (fun j9 => nI (tk j9))))] H := hP
        have hD : va_D A [(hM, .inr (8, [.int (nI th), .int (nI k), .int (nI n), .ref z1, .ref z2, .int (nI iS), .int (nI sc), .int (nI sn), .int (nI mv), .int (nI sg), .ref z3, .ref z4, .ref z5, .ref z6, .ref z7, .ref z8, .ref z9, .int (nI dn), .ref z10, .ref z11, .ref z12, .ref z13, .ref z14, .int (nI gc)])), (z4, .inl (cI, 4, .inl (fun j9 => nI ((va_up (fillF sm 0 i) i 0) j9)))), (z5, .inl (cI, 24, .inl (fun j9 => oI (bf j9)))), (z10, .inl (cI, 24, .inl (fun j9 => nI (gF j9)))), (z11, .inl (cI, 24, .inl (fun j9 => nI (gT j9)))), (z12, .inl (cI, 24, .inl (fun j9 => nI (wy j9)))), (z14, .inl (cZ, 24, .inl (fun j9 => nI (tk j9))))] := hD
        refine lv_iinc (v := nI (i + 1)) (lv' := [(1, .int (nI (i + 1))), (0, .ref hM)]) hx hb dMO_byTimes_14 hl (k := 0) rfl (hr_inc _) (by decide) rfl (fun ls hl => ?_)
        refine lv_goto (tgt := 2) hx hb dMO_byTimes_17 (by decide) ?_
        rw [fillF_upN] at hP hD
        exact ih_2 (i + 1) (by omega) (by omega) _ _ hP hD hS ls (lv_sub hl [0, 1] rfl)
  exact loop_2 (4 + 1) 0 (by omega) (by omega) _ _ hP hD hS ls (lv_sub hl [0, 1] rfl)
