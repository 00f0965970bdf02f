set_option maxHeartbeats 400000 in
set_option maxRecDepth 100000 in
/-- again -/
theorem c_MO_again (l : Launch) (dC : Nat → ClassId) (dI : Nat → Nat → Nat) (cI cZ cG : ClassId) (hM : Nat) (z1 : Nat) (z2 : Nat) (z3 : Nat) (z4 : Nat) (z5 : Nat) (z6 : Nat) (z7 : Nat) (z8 : Nat) (z9 : Nat) (z10 : Nat) (z11 : Nat) (z12 : Nat) (z13 : Nat) (z14 : Nat) (th : Nat) (k : Nat) (n : Nat) (iS : Nat) (sc : Nat) (sn : Nat) (mv : Nat) (sg : Nat) (dn : Nat) (gc : Nat) (pr : Nat → Nat) (gd : Nat → Nat) (x : Int32) (sz : Nat) (hiS : iS < 2 ∧ (iS = 0 → sc = 0 ∧ sn = 0)) (hsc : sc ≤ 4) (hsn : sn ≤ 24) (hpr : ∀ j, j < 24 → pr j < 2) (hgd : ∀ j, j < 24 → gd j < 2) : Met l yMO_again wsMO_again ({ frames := 1, cells := 0, slots := 0, locals := 21 }) (va_Pc [.ref hM, .int x] (fun U => U.heap.size = sz ∧ va_P (dC, dI) vwCl [(hM, .inr (8, [.int (nI th), .int (nI k), .int (nI n), .ref z1, .ref z2, .int (nI iS), .int (nI sc), .int (nI sn), .int (nI mv), .int (nI sg), .ref z3, .ref z4, .ref z5, .ref z6, .ref z7, .ref z8, .ref z9, .int (nI dn), .ref z10, .ref z11, .ref z12, .ref z13, .ref z14, .int (nI gc)])), (z6, .inl (cZ, 24, .inl (fun j9 => nI (pr j9)))), (z7, .inl (cZ, 24, .inl (fun j9 => nI (gd j9))))] U.heap ∧ KX dC dI cI cZ cG U ∧ va_D (fun _ => True) [(hM, .inr (8, [.int (nI th), .int (nI k), .int (nI n), .ref z1, .ref z2, .int (nI iS), .int (nI sc), .int (nI sn), .int (nI mv), .int (nI sg), .ref z3, .ref z4, .ref z5, .ref z6, .ref z7, .ref z8, .ref z9, .int (nI dn), .ref z10, .ref z11, .ref z12, .ref z13, .ref z14, .int (nI gc)])), (z6, .inl (cZ, 24, .inl (fun j9 => nI (pr j9)))), (z7, .inl (cZ, 24, .inl (fun j9 => nI (gd j9))))])) (va_Qi (fun (r : Int32) (u : Unit) => r = nI ((agN sn pr gd x).elim 0 (fun _ => 1))) (fun u t => va_P (dC, dI) vwCl [(hM, .inr (8, [.int (nI 0), .int (nI k), .int (nI n), .ref z1, .ref z2, .int (nI iS), .int (nI sc), .int (nI sn), .int (nI mv), .int (nI sg), .ref z3, .ref z4, .ref z5, .ref z6, .ref z7, .ref z8, .ref z9, .int (nI dn), .ref z10, .ref z11, .ref z12, .ref z13, .ref z14, .int (nI gc)])), (z6, .inl (cZ, 24, .inl (fun j9 => nI (((agN sn pr gd x).elim pr (fun j => va_up pr j 0)) j9)))), (z7, .inl (cZ, 24, .inl (fun j9 => nI (gd j9))))] t.heap ∧ va_D (va_A [(hM, .inr (8, [.int (nI th), .int (nI k), .int (nI n), .ref z1, .ref z2, .int (nI iS), .int (nI sc), .int (nI sn), .int (nI mv), .int (nI sg), .ref z3, .ref z4, .ref z5, .ref z6, .ref z7, .ref z8, .ref z9, .int (nI dn), .ref z10, .ref z11, .ref z12, .ref z13, .ref z14, .int (nI gc)])), (z6, .inl (cZ, 24, .inl (fun j9 => nI (pr j9)))), (z7, .inl (cZ, 24, .inl (fun j9 => nI (gd j9))))] sz) [(hM, .inr (8, [.int (nI 0), .int (nI k), .int (nI n), .ref z1, .ref z2, .int (nI iS), .int (nI sc), .int (nI sn), .int (nI mv), .int (nI sg), .ref z3, .ref z4, .ref z5, .ref z6, .ref z7, .ref z8, .ref z9, .int (nI dn), .ref z10, .ref z11, .ref z12, .ref z13, .ref z14, .int (nI gc)])), (z6, .inl (cZ, 24, .inl (fun j9 => nI (((agN sn pr gd x).elim pr (fun j => va_up pr j 0)) j9)))), (z7, .inl (cZ, 24, .inl (fun j9 => nI (gd j9))))]) (va_A [(hM, .inr (8, [.int (nI th), .int (nI k), .int (nI n), .ref z1, .ref z2, .int (nI iS), .int (nI sc), .int (nI sn), .int (nI mv), .int (nI sg), .ref z3, .ref z4, .ref z5, .ref z6, .ref z7, .ref z8, .ref z9, .int (nI dn), .ref z10, .ref z11, .ref z12, .ref z13, .ref z14, .int (nI gc)])), (z6, .inl (cZ, 24, .inl (fun j9 => nI (pr j9)))), (z7, .inl (cZ, 24, .inl (fun j9 => nI (gd j9))))] sz)) 0 0 (va_A [(hM, .inr (8, [.int (nI th), .int (nI k), .int (nI n), .ref z1, .ref z2, .int (nI iS), .int (nI sc), .int (nI sn), .int (nI mv), .int (nI sg), .ref z3, .ref z4, .ref z5, .ref z6, .ref z7, .ref z8, .ref z9, .int (nI dn), .ref z10, .ref z11, .ref z12, .ref z13, .ref z14, .int (nI gc)])), (z6, .inl (cZ, 24, .inl (fun j9 => nI (pr j9)))), (z7, .inl (cZ, 24, .inl (fun j9 => nI (gd j9))))] sz) := by
  refine Met.ofW (cc := cMO_again) (maxL := 2) (ret := (some .boolean)) (by decide) rfl ?_
  intro p e s m args below meth c s₁ B hml hv
  obtain ⟨rfl, hsz, hP, hKX, hD0⟩ := hv
  have hK := hKX.1
  have hx := B.exec
  have hb := B.bytes
  have hr := B.returns
  have hts := atoms_spec (ws := wsMO_again) B.pre
  have hown : s.vm.findClass RMO = some m.cls := findClass_of_methodNamed B.named
  have hlocks := B.notSynchronized
  subst hsz
  have hD := hD0.self (sz := s.heap.size)
  generalize hAe : va_A [(hM, .inr (8, [.int (nI th), .int (nI k), .int (nI n), .ref z1, .ref z2, .int (nI iS), .int (nI sc), .int (nI sn), .int (nI mv), .int (nI sg), .ref z3, .ref z4, .ref z5, .ref z6, .ref z7, .ref z8, .ref z9, .int (nI dn), .ref z10, .ref z11, .ref z12, .ref z13, .ref z14, .int (nI gc)])), (z6, .inl (cZ, 24, .inl (fun j9 => nI (pr j9)))), (z7, .inl (cZ, 24, .inl (fun j9 => nI (gd j9))))] s.heap.size = A at hD ⊢
  have hA : ∀ q : Nat, s.heap.size ≤ q → A q := fun q h => by rw [← hAe]; exact Or.inr h
  have hS : va_S A s.heap s.heap [] := va_S.rf
  have hl := lv_entry ([.ref hM, .int x]) (n := 2) (Nat.le_of_ble_eq_true rfl)
  rw [lg_entry_eq]
  generalize (lg_sl ([.ref hM, .int x]) ++ List.replicate (2 - (lg_sl ([.ref hM, .int x])).length) Slot.unset).toArray = ls at hl ⊢
  have hl : lv_has ls 2 [(0, .ref hM), (1, .int x)] := hl
  generalize hRe : (headSpec wsMO_again ({ frames := 1, cells := 0, slots := 0, locals := 21 })).room = R
  have hRf : 1 ≤ R.frames := by rw [← hRe]; exact Nat.le_refl _
  have hRl : 21 ≤ R.locals := by rw [← hRe]; exact Nat.le_refl _
  have hRc : 0 ≤ R.cells := by rw [← hRe]; exact Nat.le_refl _
  have hRs : 0 ≤ R.slots := by rw [← hRe]; exact Nat.le_refl _
  generalize hargs : (List.toArray [.ref hM, .int x] : Array Value) = args at hts ⊢
  generalize hQe : MQ below _ args s _ _ _ = Q
  refine lv_aload_n hx hb dMO_again_0 rfl (lv_at hl 0 rfl) ?_
  refine lv_iconst (v := nI 0) hx hb dMO_again_1 (by decide +kernel) ?_
  refine va_put (D := (dC, dI)) (ci := 8) (v := .int (nI 0)) (ty := .int) (C := RMO) (T := TMO) (N := 24) hx hb hts (fun w h => List.mem_cons_of_mem _ (inMO w h)) tyMO tyMO_ok nmMO hown hK hP hD hS 0 rfl rfl 0 (by decide) (hts _ (List.mem_cons_of_mem _ kw_509)) (fun _ h9 => h9) rfl (by decide +kernel) rfl rfl (Nat.le_of_ble_eq_true rfl) dMO_again_2 (fun H locs hP hD hS => ?_)
  have hP : va_P (dC, dI) vwCl [(hM, .inr (8, [.int (nI 0), .int (nI k), .int (nI n), .ref z1, .ref z2, .int (nI iS), .int (nI sc), .int (nI sn), .int (nI mv), .int (nI sg), .ref z3, .ref z4, .ref z5, .ref z6, .ref z7, .ref z8, .ref z9, .int (nI dn), .ref z10, .ref z11, .ref z12, .ref z13, .ref z14, .int (nI gc)])), (z6, .inl (cZ, 24, .inl (fun j9 => nI (pr j9)))), (z7, .inl (cZ, 24, .inl (fun j9 => nI (gd j9))))] H := hP
  have hD : va_D A [(hM, .inr (8, [.int (nI 0), .int (nI k), .int (nI n), .ref z1, .ref z2, .int (nI iS), .int (nI sc), .int (nI sn), .int (nI mv), .int (nI sg), .ref z3, .ref z4, .ref z5, .ref z6, .ref z7, .ref z8, .ref z9, .int (nI dn), .ref z10, .ref z11, .ref z12, .ref z13, .ref z14, .int (nI gc)])), (z6, .inl (cZ, 24, .inl (fun j9 => nI (pr j9)))), (z7, .inl (cZ, 24, .inl (fun j9 => nI (gd j9))))] := hD
  refine lv_aload_n hx hb dMO_again_5 rfl (lv_at hl 0 rfl) ?_
  refine lv_iload_n hx hb dMO_again_6 rfl (lv_at hl 1 rfl) ?_
  refine vp_callSi (va_runV (C := RMO) (As := [.int x]) (rest := []) ⟨hx, hb, hml, hown, hts⟩ (c_MO_isIn l dC dI cI cZ cG hM z1 z2 z3 z4 z5 z6 z7 z8 z9 z10 z11 z12 z13 z14 0 k n iS sc sn mv sg dn gc x (hiS) (hsc) (hsn)) (hr_cwV 1 hts kw_651 kw_653 kw_19 kw_33 kw_654 (by decide +kernel) (by rw [← hRe]; exact ⟨Nat.le_of_ble_eq_true rfl, Nat.le_of_ble_eq_true rfl⟩)) (hr_preR hKX hP [0] rfl (ci := 8) (q0 := 0) (q := (RMO, TMO, 24)) rfl rfl) rfl rfl hl.1 rfl (lv_room (Nat.le_of_ble_eq_true rfl)) dMO_again_7 ⟨by omega, by omega⟩).run (fun rv hrv => ?_)
  refine hr_eqi hrv ?_
  have hb0 := inB_lt x sn
  refine hr_if_eq hx hb (x := inB x sn) (by omega) (tgt := 31) dMO_again_10 (by decide) (fun c_1 => ?_) (fun c_1 => ?_)
  · refine lv_iconst (v := nI 0) hx hb dMO_again_31 (by decide +kernel) ?_
    have ez : agN sn pr gd x = none := if_pos c_1
    rw [← hQe]
    exact W.zret (ty := .boolean) (v := nI 0) hx hb hr (by decide +kernel) (fun t ht hW => ⟨⟨_, (), rfl, by rw [ez]; first | rfl | simp, by rw [ht, ez]; exact hP, by rw [ez]; exact hD⟩, hS.F ht⟩) hS.2.2 dMO_again_32
  · obtain ⟨j, hj, rfl⟩ := inB_pos (by omega) c_1
    have hpj := hpr j (by omega)
    have hgj := hgd j (by omega)
    refine lv_aload_n hx hb dMO_again_13 rfl (lv_at hl 0 rfl) ?_
    refine va_get (D := (dC, dI)) (ci := 8) (v := .ref z6) (C := RMO) (T := TMO) (N := 24) hx hb hts (fun w h => List.mem_cons_of_mem _ (inMO w h)) hown hK hP 0 rfl rfl 13 (by decide) (hts _ (List.mem_cons_of_mem _ kw_522)) (fun _ h9 => h9) rfl dMO_again_14 ?_
    refine lv_iload_n hx hb dMO_again_17 rfl (lv_at hl 1 rfl) ?_
    refine hr_zald hx hb hK hP 1 1 rfl rfl (i := j) (by omega) (by omega) dMO_again_18 ?_
    refine hr_if_eq hx hb (x := (pr j)) (by omega) (tgt := 31) dMO_again_19 (by decide) (fun c_2 => ?_) (fun c_2 => ?_)
    · refine lv_iconst (v := nI 0) hx hb dMO_again_31 (by decide +kernel) ?_
      have ez : agN sn pr gd (nI j) = none := by rw [agN_nI hj hsn, if_pos c_2]
      rw [← hQe]
      exact W.zret (ty := .boolean) (v := nI 0) hx hb hr (by decide +kernel) (fun t ht hW => ⟨⟨_, (), rfl, by rw [ez]; first | rfl | simp, by rw [ht, ez]; exact hP, by rw [ez]; exact hD⟩, hS.F ht⟩) hS.2.2 dMO_again_32
    · refine lv_aload_n hx hb dMO_again_22 rfl (lv_at hl 0 rfl) ?_
      refine va_get (D := (dC, dI)) (ci := 8) (v := .ref z7) (C := RMO) (T := TMO) (N := 24) hx hb hts (fun w h => List.mem_cons_of_mem _ (inMO w h)) hown hK hP 0 rfl rfl 14 (by decide) (hts _ (List.mem_cons_of_mem _ kw_523)) (fun _ h9 => h9) rfl dMO_again_23 ?_
      refine lv_iload_n hx hb dMO_again_26 rfl (lv_at hl 1 rfl) ?_
      refine hr_zald hx hb hK hP 2 1 rfl rfl (i := j) (by omega) (by omega) dMO_again_27 ?_
      refine hr_if_eq hx hb (x := (gd j)) (by omega) (tgt := 33) dMO_again_28 (by decide) (fun c_3 => ?_) (fun c_3 => ?_)
      · refine lv_aload_n hx hb dMO_again_33 rfl (lv_at hl 0 rfl) ?_
        refine va_get (D := (dC, dI)) (ci := 8) (v := .ref z6) (C := RMO) (T := TMO) (N := 24) hx hb hts (fun w h => List.mem_cons_of_mem _ (inMO w h)) hown hK hP 0 rfl rfl 13 (by decide) (hts _ (List.mem_cons_of_mem _ kw_522)) (fun _ h9 => h9) rfl dMO_again_34 ?_
        refine lv_iload_n hx hb dMO_again_37 rfl (lv_at hl 1 rfl) ?_
        refine lv_iconst (v := nI 0) hx hb dMO_again_38 (by decide +kernel) ?_
        refine hr_zastN hx hb hK hP hD hS 1 1 rfl rfl (i := j) (by omega) (by omega) (by omega) dMO_again_39 (fun H locs hP hD hS => ?_)
        have hP : va_P (dC, dI) vwCl [(hM, .inr (8, [.int (nI 0), .int (nI k), .int (nI n), .ref z1, .ref z2, .int (nI iS), .int (nI sc), .int (nI sn), .int (nI mv), .int (nI sg), .ref z3, .ref z4, .ref z5, .ref z6, .ref z7, .ref z8, .ref z9, .int (nI dn), .ref z10, .ref z11, .ref z12, .ref z13, .ref z14, .int (nI gc)])), (z6, .inl (cZ, 24, .inl (fun j9 => nI ((va_up pr j 0) j9)))), (z7, .inl (cZ, 24, .inl (fun j9 => nI (gd j9))))] H := hP
        have hD : va_D A [(hM, .inr (8, [.int (nI 0), .int (nI k), .int (nI n), .ref z1, .ref z2, .int (nI iS), .int (nI sc), .int (nI sn), .int (nI mv), .int (nI sg), .ref z3, .ref z4, .ref z5, .ref z6, .ref z7, .ref z8, .ref z9, .int (nI dn), .ref z10, .ref z11, .ref z12, .ref z13, .ref z14, .int (nI gc)])), (z6, .inl (cZ, 24, .inl (fun j9 => nI ((va_up pr j 0) j9)))), (z7, .inl (cZ, 24, .inl (fun j9 => nI (gd j9))))] := hD
        refine lv_iconst (v := nI 1) hx hb dMO_again_40 (by decide +kernel) ?_
        have ez : agN sn pr gd (nI j) = some j := by rw [agN_nI hj hsn, if_neg c_2, if_pos c_3]
        rw [← hQe]
        exact W.zret (ty := .boolean) (v := nI 1) hx hb hr (by decide +kernel) (fun t ht hW => ⟨⟨_, (), rfl, by rw [ez]; first | rfl | simp, by rw [ht, ez]; exact hP, by rw [ez]; exact hD⟩, hS.F ht⟩) hS.2.2 dMO_again_41
      · refine lv_iconst (v := nI 0) hx hb dMO_again_31 (by decide +kernel) ?_
        have ez : agN sn pr gd (nI j) = none := by rw [agN_nI hj hsn, if_neg c_2, if_neg c_3]
        rw [← hQe]
        exact W.zret (ty := .boolean) (v := nI 0) hx hb hr (by decide +kernel) (fun t ht hW => ⟨⟨_, (), rfl, by rw [ez]; first | rfl | simp, by rw [ht, ez]; exact hP, by rw [ez]; exact hD⟩, hS.F ht⟩) hS.2.2 dMO_again_32

set_option maxHeartbeats 400000 in
set_option maxRecDepth 100000 in
/-- result -/
theorem c_MO_result (l : Launch) (dC : Nat → ClassId) (dI : Nat → Nat → Nat) (cI cZ cG : ClassId) (hM : Nat) (z1 : Nat) (z2 : Nat) (z3 : Nat) (z4 : Nat) (z5 : Nat) (z6 : Nat) (z7 : Nat) (z8 : Nat) (z9 : Nat) (z10 : Nat) (z11 : Nat) (z12 : Nat) (z13 : Nat) (z14 : Nat) (th : Nat) (k : Nat) (n : Nat) (iS : Nat) (sc : Nat) (sn : Nat) (mv : Nat) (sg : Nat) (dn : Nat) (gc : Nat) (sf : Nat → Option Nat) (pr : Nat → Nat) (gd : Nat → Nat) (tc : Nat → Nat) (x : Int32) (y : Int32) (z : Int32) (sz : Nat) (hiS : iS < 2 ∧ (iS = 0 → sc = 0 ∧ sn = 0)) (hsc : sc ≤ 4) (hsn : sn ≤ 24) (hsf : ∀ j, j < 24 → ∀ q, sf j = some q → q < 4) (hpr : ∀ j, j < 24 → pr j < 2) : Met l yMO_result wsMO_result ({ frames := 1, cells := 0, slots := 0, locals := 21 }) (va_Pc [.ref hM, .int x, .int y, .int z] (fun U => U.heap.size = sz ∧ va_P (dC, dI) vwCl [(hM, .inr (8, [.int (nI th), .int (nI k), .int (nI n), .ref z1, .ref z2, .int (nI iS), .int (nI sc), .int (nI sn), .int (nI mv), .int (nI sg), .ref z3, .ref z4, .ref z5, .ref z6, .ref z7, .ref z8, .ref z9, .int (nI dn), .ref z10, .ref z11, .ref z12, .ref z13, .ref z14, .int (nI gc)])), (z3, .inl (cI, 24, .inl (fun j9 => oI (sf j9)))), (z6, .inl (cZ, 24, .inl (fun j9 => nI (pr j9)))), (z7, .inl (cZ, 24, .inl (fun j9 => nI (gd j9)))), (z8, .inl (cI, 24, .inl (fun j9 => nI (tc j9))))] U.heap ∧ KX dC dI cI cZ cG U ∧ va_D (fun _ => True) [(hM, .inr (8, [.int (nI th), .int (nI k), .int (nI n), .ref z1, .ref z2, .int (nI iS), .int (nI sc), .int (nI sn), .int (nI mv), .int (nI sg), .ref z3, .ref z4, .ref z5, .ref z6, .ref z7, .ref z8, .ref z9, .int (nI dn), .ref z10, .ref z11, .ref z12, .ref z13, .ref z14, .int (nI gc)])), (z3, .inl (cI, 24, .inl (fun j9 => oI (sf j9)))), (z6, .inl (cZ, 24, .inl (fun j9 => nI (pr j9)))), (z7, .inl (cZ, 24, .inl (fun j9 => nI (gd j9)))), (z8, .inl (cI, 24, .inl (fun j9 => nI (tc j9))))])) (va_Qi (fun (r : Int32) (u : Unit) => r = (rmA sf sc sn pr x y)) (fun u t => va_P (dC, dI) vwCl [(hM, .inr (8, [.int (nI 0), .int (nI k), .int (nI n), .ref z1, .ref z2, .int (nI iS), .int (nI sc), .int (nI sn), .int (nI mv), .int (nI (if rmC sf sc sn x y = 1 then sg + 1 else sg)), .ref z3, .ref z4, .ref z5, .ref z6, .ref z7, .ref z8, .ref z9, .int (nI dn), .ref z10, .ref z11, .ref z12, .ref z13, .ref z14, .int (nI gc)])), (z3, .inl (cI, 24, .inl (fun j9 => oI (sf j9)))), (z6, .inl (cZ, 24, .inl (fun j9 => nI (((rmP sf sc sn pr x y).elim pr (fun j => va_up pr j 1)) j9)))), (z7, .inl (cZ, 24, .inl (fun j9 => nI (((rmP sf sc sn pr x y).elim gd (fun j => va_up gd j (if z = 0 then 1 else 0))) j9)))), (z8, .inl (cI, 24, .inl (fun j9 => nI (((rmP sf sc sn pr x y).elim tc (fun j => va_up tc j (tc j + 1))) j9))))] t.heap ∧ va_D (va_A [(hM, .inr (8, [.int (nI th), .int (nI k), .int (nI n), .ref z1, .ref z2, .int (nI iS), .int (nI sc), .int (nI sn), .int (nI mv), .int (nI sg), .ref z3, .ref z4, .ref z5, .ref z6, .ref z7, .ref z8, .ref z9, .int (nI dn), .ref z10, .ref z11, .ref z12, .ref z13, .ref z14, .int (nI gc)])), (z3, .inl (cI, 24, .inl (fun j9 => oI (sf j9)))), (z6, .inl (cZ, 24, .inl (fun j9 => nI (pr j9)))), (z7, .inl (cZ, 24, .inl (fun j9 => nI (gd j9)))), (z8, .inl (cI, 24, .inl (fun j9 => nI (tc j9))))] sz) [(hM, .inr (8, [.int (nI 0), .int (nI k), .int (nI n), .ref z1, .ref z2, .int (nI iS), .int (nI sc), .int (nI sn), .int (nI mv), .int (nI (if rmC sf sc sn x y = 1 then sg + 1 else sg)), .ref z3, .ref z4, .ref z5, .ref z6, .ref z7, .ref z8, .ref z9, .int (nI dn), .ref z10, .ref z11, .ref z12, .ref z13, .ref z14, .int (nI gc)])), (z3, .inl (cI, 24, .inl (fun j9 => oI (sf j9)))), (z6, .inl (cZ, 24, .inl (fun j9 => nI (((rmP sf sc sn pr x y).elim pr (fun j => va_up pr j 1)) j9)))), (z7, .inl (cZ, 24, .inl (fun j9 => nI (((rmP sf sc sn pr x y).elim gd (fun j => va_up gd j (if z = 0 then 1 else 0))) j9)))), (z8, .inl (cI, 24, .inl (fun j9 => nI (((rmP sf sc sn pr x y).elim tc (fun j => va_up tc j (tc j + 1))) j9))))]) (va_A [(hM, .inr (8, [.int (nI th), .int (nI k), .int (nI n), .ref z1, .ref z2, .int (nI iS), .int (nI sc), .int (nI sn), .int (nI mv), .int (nI sg), .ref z3, .ref z4, .ref z5, .ref z6, .ref z7, .ref z8, .ref z9, .int (nI dn), .ref z10, .ref z11, .ref z12, .ref z13, .ref z14, .int (nI gc)])), (z3, .inl (cI, 24, .inl (fun j9 => oI (sf j9)))), (z6, .inl (cZ, 24, .inl (fun j9 => nI (pr j9)))), (z7, .inl (cZ, 24, .inl (fun j9 => nI (gd j9)))), (z8, .inl (cI, 24, .inl (fun j9 => nI (tc j9))))] sz)) 0 0 (va_A [(hM, .inr (8, [.int (nI th), .int (nI k), .int (nI n), .ref z1, .ref z2, .int (nI iS), .int (nI sc), .int (nI sn), .int (nI mv), .int (nI sg), .ref z3, .ref z4, .ref z5, .ref z6, .ref z7, .ref z8, .ref z9, .int (nI dn), .ref z10, .ref z11, .ref z12, .ref z13, .ref z14, .int (nI gc)])), (z3, .inl (cI, 24, .inl (fun j9 => oI (sf j9)))), (z6, .inl (cZ, 24, .inl (fun j9 => nI (pr j9)))), (z7, .inl (cZ, 24, .inl (fun j9 => nI (gd j9)))), (z8, .inl (cI, 24, .inl (fun j9 => nI (tc j9))))] sz) := by
  refine Met.ofW (cc := cMO_result) (maxL := 4) (ret := (some .int)) (by decide) rfl ?_
  intro p e s m args below meth c s₁ B hml hv
  obtain ⟨rfl, hsz, hP, hKX, hD0⟩ := hv
  have hK := hKX.1
  have hx := B.exec
  have hb := B.bytes
  have hr := B.returns
  have hts := atoms_spec (ws := wsMO_result) B.pre
  have hown : s.vm.findClass RMO = some m.cls := findClass_of_methodNamed B.named
  have hlocks := B.notSynchronized
  subst hsz
  have hD := hD0.self (sz := s.heap.size)
  generalize hAe : va_A [(hM, .inr (8, [.int (nI th), .int (nI k), .int (nI n), .ref z1, .ref z2, .int (nI iS), .int (nI sc), .int (nI sn), .int (nI mv), .int (nI sg), .ref z3, .ref z4, .ref z5, .ref z6, .ref z7, .ref z8, .ref z9, .int (nI dn), .ref z10, .ref z11, .ref z12, .ref z13, .ref z14, .int (nI gc)])), (z3, .inl (cI, 24, .inl (fun j9 => oI (sf j9)))), (z6, .inl (cZ, 24, .inl (fun j9 => nI (pr j9)))), (z7, .inl (cZ, 24, .inl (fun j9 => nI (gd j9)))), (z8, .inl (cI, 24, .inl (fun j9 => nI (tc j9))))] s.heap.size = A at hD ⊢
  have hA : ∀ q : Nat, s.heap.size ≤ q → A q := fun q h => by rw [← hAe]; exact Or.inr h
  have hS : va_S A s.heap s.heap [] := va_S.rf
  have hl := lv_entry ([.ref hM, .int x, .int y, .int z]) (n := 4) (Nat.le_of_ble_eq_true rfl)
  rw [lg_entry_eq]
  generalize (lg_sl ([.ref hM, .int x, .int y, .int z]) ++ List.replicate (4 - (lg_sl ([.ref hM, .int x, .int y, .int z])).length) Slot.unset).toArray = ls at hl ⊢
  have hl : lv_has ls 4 [(0, .ref hM), (1, .int x), (2, .int y), (3, .int z)] := hl
  generalize hRe : (headSpec wsMO_result ({ frames := 1, cells := 0, slots := 0, locals := 21 })).room = R
  have hRf : 1 ≤ R.frames := by rw [← hRe]; exact Nat.le_refl _
  have hRl : 21 ≤ R.locals := by rw [← hRe]; exact Nat.le_refl _
  have hRc : 0 ≤ R.cells := by rw [← hRe]; exact Nat.le_refl _
  have hRs : 0 ≤ R.slots := by rw [← hRe]; exact Nat.le_refl _
  generalize hargs : (List.toArray [.ref hM, .int x, .int y, .int z] : Array Value) = args at hts ⊢
  generalize hQe : MQ below _ args s _ _ _ = Q
  refine lv_aload_n hx hb dMO_result_0 rfl (lv_at hl 0 rfl) ?_
  refine lv_iconst (v := nI 0) hx hb dMO_result_1 (by decide +kernel) ?_
  refine va_put (D := (dC, dI)) (ci := 8) (v := .int (nI 0)) (ty := .int) (C := RMO) (T := TMO) (N := 24) hx hb hts (fun w h => List.mem_cons_of_mem _ (inMO w h)) tyMO tyMO_ok nmMO hown hK hP hD hS 0 rfl rfl 0 (by decide) (hts _ (List.mem_cons_of_mem _ kw_509)) (fun _ h9 => h9) rfl (by decide +kernel) rfl rfl (Nat.le_of_ble_eq_true rfl) dMO_result_2 (fun H locs hP hD hS => ?_)
  have hP : va_P (dC, dI) vwCl [(hM, .inr (8, [.int (nI 0), .int (nI k), .int (nI n), .ref z1, .ref z2, .int (nI iS), .int (nI sc), .int (nI sn), .int (nI mv), .int (nI sg), .ref z3, .ref z4, .ref z5, .ref z6, .ref z7, .ref z8, .ref z9, .int (nI dn), .ref z10, .ref z11, .ref z12, .ref z13, .ref z14, .int (nI gc)])), (z3, .inl (cI, 24, .inl (fun j9 => oI (sf j9)))), (z6, .inl (cZ, 24, .inl (fun j9 => nI (pr j9)))), (z7, .inl (cZ, 24, .inl (fun j9 => nI (gd j9)))), (z8, .inl (cI, 24, .inl (fun j9 => nI (tc j9))))] H := hP
  have hD : va_D A [(hM, .inr (8, [.int (nI 0), .int (nI k), .int (nI n), .ref z1, .ref z2, .int (nI iS), .int (nI sc), .int (nI sn), .int (nI mv), .int (nI sg), .ref z3, .ref z4, .ref z5, .ref z6, .ref z7, .ref z8, .ref z9, .int (nI dn), .ref z10, .ref z11, .ref z12, .ref z13, .ref z14, .int (nI gc)])), (z3, .inl (cI, 24, .inl (fun j9 => oI (sf j9)))), (z6, .inl (cZ, 24, .inl (fun j9 => nI (pr j9)))), (z7, .inl (cZ, 24, .inl (fun j9 => nI (gd j9)))), (z8, .inl (cI, 24, .inl (fun j9 => nI (tc j9))))] := hD
  refine lv_aload_n hx hb dMO_result_5 rfl (lv_at hl 0 rfl) ?_
  refine lv_iload_n hx hb dMO_result_6 rfl (lv_at hl 1 rfl) ?_
  refine vp_callSi (va_runV (C := RMO) (As := [.int x]) (rest := []) ⟨hx, hb, hml, hown, hts⟩ (c_MO_isIn l dC dI cI cZ cG hM z1 z2 z3 z4 z5 z6 z7 z8 z9 z10 z11 z12 z13 z14 0 k n iS sc sn mv sg dn gc x (hiS) (hsc) (hsn)) (hr_cwV 1 hts kw_651 kw_653 kw_19 kw_33 kw_654 (by decide +kernel) (by rw [← hRe]; exact ⟨Nat.le_of_ble_eq_true rfl, Nat.le_of_ble_eq_true rfl⟩)) (hr_preR hKX hP [0] rfl (ci := 8) (q0 := 0) (q := (RMO, TMO, 24)) rfl rfl) rfl rfl hl.1 rfl (lv_room (Nat.le_of_ble_eq_true rfl)) dMO_result_7 ⟨by omega, by omega⟩).run (fun rv hrv => ?_)
  refine hr_eqi hrv ?_
  have hb0 := inB_lt x sn
  refine hr_if_eq hx hb (x := inB x sn) (by omega) (tgt := 21) dMO_result_10 (by decide) (fun c_1 => ?_) (fun c_1 => ?_)
  · have ec : rmC sf sc sn x y = 0 := if_pos c_1
    refine lv_iconst (v := (-1)) hx hb dMO_result_21 (by decide +kernel) ?_
    have e1 : rmA sf sc sn pr x y = -1 := if_pos ec
    have e2 : rmP sf sc sn pr x y = none := if_neg (by omega)
    have e3 : (if rmC sf sc sn x y = 1 then sg + 1 else sg) = sg := if_neg (by omega)
    rw [← hQe]
    exact W.iret (v := (-1)) hx hb hr (fun t ht hW => ⟨⟨_, (), rfl, e1.symm, by rw [ht, e2, e3]; exact hP, by rw [e2, e3]; exact hD⟩, hS.F ht⟩) hS.2.2 dMO_result_22
  · obtain ⟨j, hj, rfl⟩ := inB_pos (by omega) c_1
    have hpj := hpr j (by omega)
    have hsj := hsf j (by omega)
    have ec0 : inB (nI j) sn = 1 := inB_nI hj (by omega)
    refine lv_aload_n hx hb dMO_result_13 rfl (lv_at hl 0 rfl) ?_
    refine lv_iload_n hx hb dMO_result_14 rfl (lv_at hl 2 rfl) ?_
    refine vp_callSi (va_runV (C := RMO) (As := [.int y]) (rest := []) ⟨hx, hb, hml, hown, hts⟩ (c_MO_isShard l dC dI cI cZ cG hM z1 z2 z3 z4 z5 z6 z7 z8 z9 z10 z11 z12 z13 z14 0 k n iS sc sn mv sg dn gc y (hiS) (hsc) (hsn)) (hr_cwV 1 hts kw_659 kw_661 kw_20 kw_33 kw_662 (by decide +kernel) (by rw [← hRe]; exact ⟨Nat.le_of_ble_eq_true rfl, Nat.le_of_ble_eq_true rfl⟩)) (hr_preR hKX hP [0] rfl (ci := 8) (q0 := 0) (q := (RMO, TMO, 24)) rfl rfl) rfl rfl hl.1 rfl (lv_room (Nat.le_of_ble_eq_true rfl)) dMO_result_15 ⟨by omega, by omega⟩).run (fun rv hrv => ?_)
    refine hr_eqi hrv ?_
    have hb1 := inB_lt y sc
    refine hr_if_ne hx hb (x := inB y sc) (by omega) (tgt := 23) dMO_result_18 (by decide) (fun c_2 => ?_) (fun c_2 => ?_)
    · obtain ⟨q, hq, rfl⟩ := inB_pos (by omega) c_2
      refine lv_aload_n hx hb dMO_result_23 rfl (lv_at hl 0 rfl) ?_
      refine va_get (D := (dC, dI)) (ci := 8) (v := .ref z3) (C := RMO) (T := TMO) (N := 24) hx hb hts (fun w h => List.mem_cons_of_mem _ (inMO w h)) hown hK hP 0 rfl rfl 10 (by decide) (hts _ (List.mem_cons_of_mem _ kw_519)) (fun _ h9 => h9) rfl dMO_result_24 ?_
      refine lv_iload_n hx hb dMO_result_27 rfl (lv_at hl 1 rfl) ?_
      refine hr_iald hx hb hK hP 1 0 rfl rfl (i := j) (by omega) (by omega) dMO_result_28 ?_
      refine lv_iload_n hx hb dMO_result_29 rfl (lv_at hl 2 rfl) ?_
      refine lv_icmp_eq (tgt := 46) hx hb dMO_result_30 (by decide) (fun c_3 => ?_) (fun c_3 => ?_)
      · have ec : rmC sf sc sn (nI j) (nI q) = 2 := by rw [rmC, if_neg (by omega), inB_nI hq (by omega), if_neg (by decide), nI_clamp (by omega), if_pos c_3]
        refine lv_aload_n hx hb dMO_result_46 rfl (lv_at hl 0 rfl) ?_
        refine va_get (D := (dC, dI)) (ci := 8) (v := .ref z6) (C := RMO) (T := TMO) (N := 24) hx hb hts (fun w h => List.mem_cons_of_mem _ (inMO w h)) hown hK hP 0 rfl rfl 13 (by decide) (hts _ (List.mem_cons_of_mem _ kw_522)) (fun _ h9 => h9) rfl dMO_result_47 ?_
        refine lv_iload_n hx hb dMO_result_50 rfl (lv_at hl 1 rfl) ?_
        refine hr_zald hx hb hK hP 2 1 rfl rfl (i := j) (by omega) (by omega) dMO_result_51 ?_
        refine hr_if_eq hx hb (x := (pr j)) (by omega) (tgt := 57) dMO_result_52 (by decide) (fun c_4 => ?_) (fun c_4 => ?_)
        · have e2 : rmP sf sc sn pr (nI j) (nI q) = some j := by rw [rmP, if_pos ec, nI_clamp (by omega), if_pos c_4]
          refine lv_aload_n hx hb dMO_result_57 rfl (lv_at hl 0 rfl) ?_
          refine va_get (D := (dC, dI)) (ci := 8) (v := .ref z6) (C := RMO) (T := TMO) (N := 24) hx hb hts (fun w h => List.mem_cons_of_mem _ (inMO w h)) hown hK hP 0 rfl rfl 13 (by decide) (hts _ (List.mem_cons_of_mem _ kw_522)) (fun _ h9 => h9) rfl dMO_result_58 ?_
          refine lv_iload_n hx hb dMO_result_61 rfl (lv_at hl 1 rfl) ?_
          refine lv_iconst (v := nI 1) hx hb dMO_result_62 (by decide +kernel) ?_
          refine hr_zastN hx hb hK hP hD hS 2 1 rfl rfl (i := j) (by omega) (by omega) (by omega) dMO_result_63 (fun H locs hP hD hS => ?_)
          have hP : va_P (dC, dI) vwCl [(hM, .inr (8, [.int (nI 0), .int (nI k), .int (nI n), .ref z1, .ref z2, .int (nI iS), .int (nI sc), .int (nI sn), .int (nI mv), .int (nI sg), .ref z3, .ref z4, .ref z5, .ref z6, .ref z7, .ref z8, .ref z9, .int (nI dn), .ref z10, .ref z11, .ref z12, .ref z13, .ref z14, .int (nI gc)])), (z3, .inl (cI, 24, .inl (fun j9 => oI (sf j9)))), (z6, .inl (cZ, 24, .inl (fun j9 => nI ((va_up pr j 1) j9)))), (z7, .inl (cZ, 24, .inl (fun j9 => nI (gd j9)))), (z8, .inl (cI, 24, .inl (fun j9 => nI (tc j9))))] H := hP
          have hD : va_D A [(hM, .inr (8, [.int (nI 0), .int (nI k), .int (nI n), .ref z1, .ref z2, .int (nI iS), .int (nI sc), .int (nI sn), .int (nI mv), .int (nI sg), .ref z3, .ref z4, .ref z5, .ref z6, .ref z7, .ref z8, .ref z9, .int (nI dn), .ref z10, .ref z11, .ref z12, .ref z13, .ref z14, .int (nI gc)])), (z3, .inl (cI, 24, .inl (fun j9 => oI (sf j9)))), (z6, .inl (cZ, 24, .inl (fun j9 => nI ((va_up pr j 1) j9)))), (z7, .inl (cZ, 24, .inl (fun j9 => nI (gd j9)))), (z8, .inl (cI, 24, .inl (fun j9 => nI (tc j9))))] := hD
          refine lv_aload_n hx hb dMO_result_64 rfl (lv_at hl 0 rfl) ?_
          refine va_get (D := (dC, dI)) (ci := 8) (v := .ref z7) (C := RMO) (T := TMO) (N := 24) hx hb hts (fun w h => List.mem_cons_of_mem _ (inMO w h)) hown hK hP 0 rfl rfl 14 (by decide) (hts _ (List.mem_cons_of_mem _ kw_523)) (fun _ h9 => h9) rfl dMO_result_65 ?_
          refine lv_iload_n hx hb dMO_result_68 rfl (lv_at hl 1 rfl) ?_
          refine lv_iload_n hx hb dMO_result_69 rfl (lv_at hl 3 rfl) ?_
          refine lv_if_ne (tgt := 77) hx hb dMO_result_70 (by decide) (fun c_5 => ?_) (fun c_5 => ?_)
          · have eg : (if z = 0 then 1 else 0 : Nat) = 0 := if_neg c_5
            refine lv_iconst (v := nI 0) hx hb dMO_result_77 (by decide +kernel) ?_
            refine hr_zastN hx hb hK hP hD hS 3 1 rfl rfl (i := j) (by omega) (by omega) (by omega) dMO_result_78 (fun H locs hP hD hS => ?_)
            have hP : va_P (dC, dI) vwCl [(hM, .inr (8, [.int (nI 0), .int (nI k), .int (nI n), .ref z1, .ref z2, .int (nI iS), .int (nI sc), .int (nI sn), .int (nI mv), .int (nI sg), .ref z3, .ref z4, .ref z5, .ref z6, .ref z7, .ref z8, .ref z9, .int (nI dn), .ref z10, .ref z11, .ref z12, .ref z13, .ref z14, .int (nI gc)])), (z3, .inl (cI, 24, .inl (fun j9 => oI (sf j9)))), (z6, .inl (cZ, 24, .inl (fun j9 => nI ((va_up pr j 1) j9)))), (z7, .inl (cZ, 24, .inl (fun j9 => nI ((va_up gd j 0) j9)))), (z8, .inl (cI, 24, .inl (fun j9 => nI (tc j9))))] H := hP
            have hD : va_D A [(hM, .inr (8, [.int (nI 0), .int (nI k), .int (nI n), .ref z1, .ref z2, .int (nI iS), .int (nI sc), .int (nI sn), .int (nI mv), .int (nI sg), .ref z3, .ref z4, .ref z5, .ref z6, .ref z7, .ref z8, .ref z9, .int (nI dn), .ref z10, .ref z11, .ref z12, .ref z13, .ref z14, .int (nI gc)])), (z3, .inl (cI, 24, .inl (fun j9 => oI (sf j9)))), (z6, .inl (cZ, 24, .inl (fun j9 => nI ((va_up pr j 1) j9)))), (z7, .inl (cZ, 24, .inl (fun j9 => nI ((va_up gd j 0) j9)))), (z8, .inl (cI, 24, .inl (fun j9 => nI (tc j9))))] := hD
            refine lv_aload_n hx hb dMO_result_79 rfl (lv_at hl 0 rfl) ?_
            refine va_get (D := (dC, dI)) (ci := 8) (v := .ref z8) (C := RMO) (T := TMO) (N := 24) hx hb hts (fun w h => List.mem_cons_of_mem _ (inMO w h)) hown hK hP 0 rfl rfl 15 (by decide) (hts _ (List.mem_cons_of_mem _ kw_524)) (fun _ h9 => h9) rfl dMO_result_80 ?_
            refine lv_iload_n hx hb dMO_result_83 rfl (lv_at hl 1 rfl) ?_
            refine lv_dup2_11 hx hb dMO_result_84 rfl rfl ?_
            refine hr_iald hx hb hK hP 4 0 rfl rfl (i := j) (by omega) (by omega) dMO_result_85 ?_
            refine lv_iconst (v := nI 1) hx hb dMO_result_86 (by decide +kernel) ?_
            refine lv_iadd hx hb dMO_result_87 ?_
            refine hr_eqi (nI_add _ _) ?_
            refine hr_iastN hx hb hK hP hD hS 4 0 rfl rfl (i := j) (by omega) (by omega) dMO_result_88 (fun H locs hP hD hS => ?_)
            have hP : va_P (dC, dI) vwCl [(hM, .inr (8, [.int (nI 0), .int (nI k), .int (nI n), .ref z1, .ref z2, .int (nI iS), .int (nI sc), .int (nI sn), .int (nI mv), .int (nI sg), .ref z3, .ref z4, .ref z5, .ref z6, .ref z7, .ref z8, .ref z9, .int (nI dn), .ref z10, .ref z11, .ref z12, .ref z13, .ref z14, .int (nI gc)])), (z3, .inl (cI, 24, .inl (fun j9 => oI (sf j9)))), (z6, .inl (cZ, 24, .inl (fun j9 => nI ((va_up pr j 1) j9)))), (z7, .inl (cZ, 24, .inl (fun j9 => nI ((va_up gd j 0) j9)))), (z8, .inl (cI, 24, .inl (fun j9 => nI ((va_up tc j ((tc j) + 1)) j9))))] H := hP
            have hD : va_D A [(hM, .inr (8, [.int (nI 0), .int (nI k), .int (nI n), .ref z1, .ref z2, .int (nI iS), .int (nI sc), .int (nI sn), .int (nI mv), .int (nI sg), .ref z3, .ref z4, .ref z5, .ref z6, .ref z7, .ref z8, .ref z9, .int (nI dn), .ref z10, .ref z11, .ref z12, .ref z13, .ref z14, .int (nI gc)])), (z3, .inl (cI, 24, .inl (fun j9 => oI (sf j9)))), (z6, .inl (cZ, 24, .inl (fun j9 => nI ((va_up pr j 1) j9)))), (z7, .inl (cZ, 24, .inl (fun j9 => nI ((va_up gd j 0) j9)))), (z8, .inl (cI, 24, .inl (fun j9 => nI ((va_up tc j ((tc j) + 1)) j9))))] := hD
            refine lv_iconst (v := nI 1) hx hb dMO_result_89 (by decide +kernel) ?_
            have e1 : rmA sf sc sn pr (nI j) (nI q) = nI 1 := by rw [rmA, if_neg (by omega), if_neg (by omega), e2]; rfl
            have e3 : (if rmC sf sc sn (nI j) (nI q) = 1 then sg + 1 else sg) = sg := if_neg (by omega)
            rw [← hQe]
            exact W.iret (v := nI 1) hx hb hr (fun t ht hW => ⟨⟨_, (), rfl, e1.symm, by rw [ht, e2, e3, eg]; exact hP, by rw [e2, e3, eg]; exact hD⟩, hS.F ht⟩) hS.2.2 dMO_result_90
          · have eg : (if z = 0 then 1 else 0 : Nat) = 1 := if_pos c_5
            refine lv_iconst (v := nI 1) hx hb dMO_result_73 (by decide +kernel) ?_
            refine lv_goto (tgt := 78) hx hb dMO_result_74 (by decide) ?_
            refine hr_zastN hx hb hK hP hD hS 3 1 rfl rfl (i := j) (by omega) (by omega) (by omega) dMO_result_78 (fun H locs hP hD hS => ?_)
            have hP : va_P (dC, dI) vwCl [(hM, .inr (8, [.int (nI 0), .int (nI k), .int (nI n), .ref z1, .ref z2, .int (nI iS), .int (nI sc), .int (nI sn), .int (nI mv), .int (nI sg), .ref z3, .ref z4, .ref z5, .ref z6, .ref z7, .ref z8, .ref z9, .int (nI dn), .ref z10, .ref z11, .ref z12, .ref z13, .ref z14, .int (nI gc)])), (z3, .inl (cI, 24, .inl (fun j9 => oI (sf j9)))), (z6, .inl (cZ, 24, .inl (fun j9 => nI ((va_up pr j 1) j9)))), (z7, .inl (cZ, 24, .inl (fun j9 => nI ((va_up gd j 1) j9)))), (z8, .inl (cI, 24, .inl (fun j9 => nI (tc j9))))] H := hP
            have hD : va_D A [(hM, .inr (8, [.int (nI 0), .int (nI k), .int (nI n), .ref z1, .ref z2, .int (nI iS), .int (nI sc), .int (nI sn), .int (nI mv), .int (nI sg), .ref z3, .ref z4, .ref z5, .ref z6, .ref z7, .ref z8, .ref z9, .int (nI dn), .ref z10, .ref z11, .ref z12, .ref z13, .ref z14, .int (nI gc)])), (z3, .inl (cI, 24, .inl (fun j9 => oI (sf j9)))), (z6, .inl (cZ, 24, .inl (fun j9 => nI ((va_up pr j 1) j9)))), (z7, .inl (cZ, 24, .inl (fun j9 => nI ((va_up gd j 1) j9)))), (z8, .inl (cI, 24, .inl (fun j9 => nI (tc j9))))] := hD
            refine lv_aload_n hx hb dMO_result_79 rfl (lv_at hl 0 rfl) ?_
            refine va_get (D := (dC, dI)) (ci := 8) (v := .ref z8) (C := RMO) (T := TMO) (N := 24) hx hb hts (fun w h => List.mem_cons_of_mem _ (inMO w h)) hown hK hP 0 rfl rfl 15 (by decide) (hts _ (List.mem_cons_of_mem _ kw_524)) (fun _ h9 => h9) rfl dMO_result_80 ?_
            refine lv_iload_n hx hb dMO_result_83 rfl (lv_at hl 1 rfl) ?_
            refine lv_dup2_11 hx hb dMO_result_84 rfl rfl ?_
            refine hr_iald hx hb hK hP 4 0 rfl rfl (i := j) (by omega) (by omega) dMO_result_85 ?_
            refine lv_iconst (v := nI 1) hx hb dMO_result_86 (by decide +kernel) ?_
            refine lv_iadd hx hb dMO_result_87 ?_
            refine hr_eqi (nI_add _ _) ?_
            refine hr_iastN hx hb hK hP hD hS 4 0 rfl rfl (i := j) (by omega) (by omega) dMO_result_88 (fun H locs hP hD hS => ?_)
            have hP : va_P (dC, dI) vwCl [(hM, .inr (8, [.int (nI 0), .int (nI k), .int (nI n), .ref z1, .ref z2, .int (nI iS), .int (nI sc), .int (nI sn), .int (nI mv), .int (nI sg), .ref z3, .ref z4, .ref z5, .ref z6, .ref z7, .ref z8, .ref z9, .int (nI dn), .ref z10, .ref z11, .ref z12, .ref z13, .ref z14, .int (nI gc)])), (z3, .inl (cI, 24, .inl (fun j9 => oI (sf j9)))), (z6, .inl (cZ, 24, .inl (fun j9 => nI ((va_up pr j 1) j9)))), (z7, .inl (cZ, 24, .inl (fun j9 => nI ((va_up gd j 1) j9)))), (z8, .inl (cI, 24, .inl (fun j9 => nI ((va_up tc j ((tc j) + 1)) j9))))] H := hP
            have hD : va_D A [(hM, .inr (8, [.int (nI 0), .int (nI k), .int (nI n), .ref z1, .ref z2, .int (nI iS), .int (nI sc), .int (nI sn), .int (nI mv), .int (nI sg), .ref z3, .ref z4, .ref z5, .ref z6, .ref z7, .ref z8, .ref z9, .int (nI dn), .ref z10, .ref z11, .ref z12, .ref z13, .ref z14, .int (nI gc)])), (z3, .inl (cI, 24, .inl (fun j9 => oI (sf j9)))), (z6, .inl (cZ, 24, .inl (fun j9 => nI ((va_up pr j 1) j9)))), (z7, .inl (cZ, 24, .inl (fun j9 => nI ((va_up gd j 1) j9)))), (z8, .inl (cI, 24, .inl (fun j9 => nI ((va_up tc j ((tc j) + 1)) j9))))] := hD
            refine lv_iconst (v := nI 1) hx hb dMO_result_89 (by decide +kernel) ?_
            have e1 : rmA sf sc sn pr (nI j) (nI q) = nI 1 := by rw [rmA, if_neg (by omega), if_neg (by omega), e2]; rfl
            have e3 : (if rmC sf sc sn (nI j) (nI q) = 1 then sg + 1 else sg) = sg := if_neg (by omega)
            rw [← hQe]
            exact W.iret (v := nI 1) hx hb hr (fun t ht hW => ⟨⟨_, (), rfl, e1.symm, by rw [ht, e2, e3, eg]; exact hP, by rw [e2, e3, eg]; exact hD⟩, hS.F ht⟩) hS.2.2 dMO_result_90
        · have e2 : rmP sf sc sn pr (nI j) (nI q) = none := by rw [rmP, if_pos ec, nI_clamp (by omega), if_neg c_4]
          refine lv_iconst (v := nI 0) hx hb dMO_result_55 (by decide +kernel) ?_
          have e1 : rmA sf sc sn pr (nI j) (nI q) = nI 0 := by rw [rmA, if_neg (by omega), if_neg (by omega), e2]; rfl
          have e3 : (if rmC sf sc sn (nI j) (nI q) = 1 then sg + 1 else sg) = sg := if_neg (by omega)
          rw [← hQe]
          exact W.iret (v := nI 0) hx hb hr (fun t ht hW => ⟨⟨_, (), rfl, e1.symm, by rw [ht, e2, e3]; exact hP, by rw [e2, e3]; exact hD⟩, hS.F ht⟩) hS.2.2 dMO_result_56
      · have ec : rmC sf sc sn (nI j) (nI q) = 1 := by rw [rmC, if_neg (by omega), inB_nI hq (by omega), if_neg (by decide), nI_clamp (by omega), if_neg c_3]
        refine lv_aload_n hx hb dMO_result_33 rfl (lv_at hl 0 rfl) ?_
        refine lv_dup hx hb dMO_result_34 rfl ?_
        refine va_get (D := (dC, dI)) (ci := 8) (v := .int (nI sg)) (C := RMO) (T := TMO) (N := 24) hx hb hts (fun w h => List.mem_cons_of_mem _ (inMO w h)) hown hK hP 0 rfl rfl 9 (by decide) (hts _ (List.mem_cons_of_mem _ kw_518)) (fun _ h9 => h9) rfl dMO_result_35 ?_
        refine lv_iconst (v := nI 1) hx hb dMO_result_38 (by decide +kernel) ?_
        refine lv_iadd hx hb dMO_result_39 ?_
        refine hr_eqi (nI_add _ _) ?_
        refine va_put (D := (dC, dI)) (ci := 8) (v := .int (nI (sg + 1))) (ty := .int) (C := RMO) (T := TMO) (N := 24) hx hb hts (fun w h => List.mem_cons_of_mem _ (inMO w h)) tyMO tyMO_ok nmMO hown hK hP hD hS 0 rfl rfl 9 (by decide) (hts _ (List.mem_cons_of_mem _ kw_518)) (fun _ h9 => h9) rfl (by decide +kernel) rfl rfl (Nat.le_of_ble_eq_true rfl) dMO_result_40 (fun H locs hP hD hS => ?_)
        have hP : va_P (dC, dI) vwCl [(hM, .inr (8, [.int (nI 0), .int (nI k), .int (nI n), .ref z1, .ref z2, .int (nI iS), .int (nI sc), .int (nI sn), .int (nI mv), .int (nI (sg + 1)), .ref z3, .ref z4, .ref z5, .ref z6, .ref z7, .ref z8, .ref z9, .int (nI dn), .ref z10, .ref z11, .ref z12, .ref z13, .ref z14, .int (nI gc)])), (z3, .inl (cI, 24, .inl (fun j9 => oI (sf j9)))), (z6, .inl (cZ, 24, .inl (fun j9 => nI (pr j9)))), (z7, .inl (cZ, 24, .inl (fun j9 => nI (gd j9)))), (z8, .inl (cI, 24, .inl (fun j9 => nI (tc j9))))] H := hP
        have hD : va_D A [(hM, .inr (8, [.int (nI 0), .int (nI k), .int (nI n), .ref z1, .ref z2, .int (nI iS), .int (nI sc), .int (nI sn), .int (nI mv), .int (nI (sg + 1)), .ref z3, .ref z4, .ref z5, .ref z6, .ref z7, .ref z8, .ref z9, .int (nI dn), .ref z10, .ref z11, .ref z12, .ref z13, .ref z14, .int (nI gc)])), (z3, .inl (cI, 24, .inl (fun j9 => oI (sf j9)))), (z6, .inl (cZ, 24, .inl (fun j9 => nI (pr j9)))), (z7, .inl (cZ, 24, .inl (fun j9 => nI (gd j9)))), (z8, .inl (cI, 24, .inl (fun j9 => nI (tc j9))))] := hD
        refine lv_bipush (v := (-2)) hx hb dMO_result_43 (by decide +kernel) ?_
        have e1 : rmA sf sc sn pr (nI j) (nI q) = -2 := by rw [rmA, if_neg (by omega), if_pos ec]
        have e2 : rmP sf sc sn pr (nI j) (nI q) = none := if_neg (by omega)
        have e3 : (if rmC sf sc sn (nI j) (nI q) = 1 then sg + 1 else sg) = sg + 1 := if_pos ec
        rw [← hQe]
        exact W.iret (v := (-2)) hx hb hr (fun t ht hW => ⟨⟨_, (), rfl, e1.symm, by rw [ht, e2, e3]; exact hP, by rw [e2, e3]; exact hD⟩, hS.F ht⟩) hS.2.2 dMO_result_45
    · have ec : rmC sf sc sn (nI j) y = 0 := by rw [rmC, if_neg (by omega), if_pos c_2]
      refine lv_iconst (v := (-1)) hx hb dMO_result_21 (by decide +kernel) ?_
      have e1 : rmA sf sc sn pr (nI j) y = -1 := if_pos ec
      have e2 : rmP sf sc sn pr (nI j) y = none := if_neg (by omega)
      have e3 : (if rmC sf sc sn (nI j) y = 1 then sg + 1 else sg) = sg := if_neg (by omega)
      rw [← hQe]
      exact W.iret (v := (-1)) hx hb hr (fun t ht hW => ⟨⟨_, (), rfl, e1.symm, by rw [ht, e2, e3]; exact hP, by rw [e2, e3]; exact hD⟩, hS.F ht⟩) hS.2.2 dMO_result_22

set_option maxHeartbeats 400000 in
set_option maxRecDepth 100000 in
/-- testsOf -/
theorem c_MO_testsOf (l : Launch) (dC : Nat → ClassId) (dI : Nat → Nat → Nat) (cI cZ cG : ClassId) (hM : Nat) (z1 : Nat) (z2 : Nat) (z3 : Nat) (z4 : Nat) (z5 : Nat) (z6 : Nat) (z7 : Nat) (z8 : Nat) (z9 : Nat) (z10 : Nat) (z11 : Nat) (z12 : Nat) (z13 : Nat) (z14 : Nat) (th : Nat) (k : Nat) (n : Nat) (iS : Nat) (sc : Nat) (sn : Nat) (mv : Nat) (sg : Nat) (dn : Nat) (gc : Nat) (sf : Nat → Option Nat) (q : Nat) (hsn : sn ≤ 24) (hq : q < 2 ^ 31) (hsf : ∀ j, j < 24 → ∀ q, sf j = some q → q < 4) : Met l yMO_testsOf wsMO_testsOf ({ frames := 0, cells := 0, slots := 0, locals := 0 }) (va_Pc [.ref hM, .int (nI q)] (fun U => va_P (dC, dI) vwCl [(hM, .inr (8, [.int (nI th), .int (nI k), .int (nI n), .ref z1, .ref z2, .int (nI iS), .int (nI sc), .int (nI sn), .int (nI mv), .int (nI sg), .ref z3, .ref z4, .ref z5, .ref z6, .ref z7, .ref z8, .ref z9, .int (nI dn), .ref z10, .ref z11, .ref z12, .ref z13, .ref z14, .int (nI gc)])), (z3, .inl (cI, 24, .inl (fun j9 => oI (sf j9))))] U.heap ∧ KX dC dI cI cZ cG U)) (vp_Si (fun r => r = nI (dgN sf q sn))) 0 0 (fun _ => False) := by
  refine Met.ofW (cc := cMO_testsOf) (maxL := 4) (ret := (some .int)) (by decide) rfl ?_
  intro p e s m args below meth c s₁ B hml hv
  obtain ⟨rfl, hP, hKX⟩ := hv
  have hK := hKX.1
  have hx := B.exec
  have hb := B.bytes
  have hr := B.returns
  have hts := atoms_spec (ws := wsMO_testsOf) B.pre
  have hown : s.vm.findClass RMO = some m.cls := findClass_of_methodNamed B.named
  have hlocks := B.notSynchronized
  have hl := lv_entry ([.ref hM, .int (nI q)]) (n := 4) (Nat.le_of_ble_eq_true rfl)
  rw [lg_entry_eq]
  generalize (lg_sl ([.ref hM, .int (nI q)]) ++ List.replicate (4 - (lg_sl ([.ref hM, .int (nI q)])).length) Slot.unset).toArray = ls at hl ⊢
  have hl : lv_has ls 4 [(0, .ref hM), (1, .int (nI q))] := hl
  generalize hRe : (headSpec wsMO_testsOf ({ frames := 0, cells := 0, slots := 0, locals := 0 })).room = R
  have hRf : 0 ≤ R.frames := by rw [← hRe]; exact Nat.le_refl _
  have hRl : 0 ≤ R.locals := by rw [← hRe]; exact Nat.le_refl _
  have hRc : 0 ≤ R.cells := by rw [← hRe]; exact Nat.le_refl _
  have hRs : 0 ≤ R.slots := by rw [← hRe]; exact Nat.le_refl _
  generalize hargs : (List.toArray [.ref hM, .int (nI q)] : Array Value) = args at hts ⊢
  generalize hQe : MQ below _ args s _ _ _ = Q
  refine lv_iconst (v := nI 0) hx hb dMO_testsOf_0 (by decide +kernel) ?_
  refine lv_istore_n (lv' := [(2, .int (nI 0)), (0, .ref hM), (1, .int (nI q))]) hx hb dMO_testsOf_1 rfl hl (by decide) rfl (fun ls hl => ?_)
  refine lv_iconst (v := nI 0) hx hb dMO_testsOf_2 (by decide +kernel) ?_
  refine lv_istore_n (lv' := [(3, .int (nI 0)), (2, .int (nI 0)), (0, .ref hM), (1, .int (nI q))]) hx hb dMO_testsOf_3 rfl hl (by decide) rfl (fun ls hl => ?_)
  have loop_4 : ∀ (n9 : Nat) (i : Nat) (s1 : Nat), i ≤ sn → s1 = dgN sf q i → sn + 1 ≤ i + n9 → ∀ (ls : Array Slot), lv_has ls 4 [(3, .int (nI i)), (2, .int (nI s1)), (0, .ref hM), (1, .int (nI q))] → W p l e R s m args below meth c s.heap [] 0 0 Q (F0 m 4 ls []) := by
    intro n9
    induction n9 with
    | zero =>
      intro i s1 hi h1 hmeas
      exact absurd hmeas (by omega)
    | succ n9 ih_4 =>
      intro i s1 hi h1 hmeas ls hl
      have hdl := dgN_le sf q i
      refine lv_iload_n hx hb dMO_testsOf_4 rfl (lv_at hl 0 rfl) ?_
      refine lv_aload_n hx hb dMO_testsOf_5 rfl (lv_at hl 2 rfl) ?_
      refine va_get (D := (dC, dI)) (ci := 8) (v := .int (nI sn)) (C := RMO) (T := TMO) (N := 24) hx hb hts (fun w h => List.mem_cons_of_mem _ (inMO w h)) hown hK hP 0 rfl rfl 7 (by decide) (hts _ (List.mem_cons_of_mem _ kw_516)) (fun _ h9 => h9) rfl dMO_testsOf_6 ?_
      refine hr_icmp_ge hx hb (x := i) (y := sn) (by omega) (by omega) (tgt := 36) dMO_testsOf_9 (by decide) (fun c_1 => ?_) (fun c_1 => ?_)
      · have ei : sn = i := by omega
        subst ei
        refine lv_iload_n hx hb dMO_testsOf_36 rfl (lv_at hl 1 rfl) ?_
        rw [← hQe]
        exact W.iret (v := nI s1) hx hb hr (fun t ht hW => ⟨_, rfl, by rw [h1], by rw [ht]⟩) (fun q h => by cases h) dMO_testsOf_37
      · refine lv_iload_n hx hb dMO_testsOf_12 rfl (lv_at hl 1 rfl) ?_
        refine lv_aload_n hx hb dMO_testsOf_13 rfl (lv_at hl 2 rfl) ?_
        refine va_get (D := (dC, dI)) (ci := 8) (v := .ref z3) (C := RMO) (T := TMO) (N := 24) hx hb hts (fun w h => List.mem_cons_of_mem _ (inMO w h)) hown hK hP 0 rfl rfl 10 (by decide) (hts _ (List.mem_cons_of_mem _ kw_519)) (fun _ h9 => h9) rfl dMO_testsOf_14 ?_
        refine lv_iload_n hx hb dMO_testsOf_17 rfl (lv_at hl 0 rfl) ?_
        refine hr_iald hx hb hK hP 1 0 rfl rfl (i := i) (by omega) (by omega) dMO_testsOf_18 ?_
        refine lv_iload_n hx hb dMO_testsOf_19 rfl (lv_at hl 3 rfl) ?_
        refine lv_icmp_ne (tgt := 27) hx hb dMO_testsOf_20 (by decide) (fun c_2 => ?_) (fun c_2 => ?_)
        · have hsi : ¬ sf i = some q := fun z => c_2 (by rw [z]; rfl)
          refine lv_iconst (v := nI 0) hx hb dMO_testsOf_27 (by decide +kernel) ?_
          refine lv_iadd hx hb dMO_testsOf_28 ?_
          refine hr_eqi (nI_add _ _) ?_
          refine lv_istore_n (lv' := [(2, .int (nI (s1 + 0))), (3, .int (nI i)), (0, .ref hM), (1, .int (nI q))]) hx hb dMO_testsOf_29 rfl hl (by decide) rfl (fun ls hl => ?_)
          refine lv_iinc (v := nI (i + 1)) (lv' := [(3, .int (nI (i + 1))), (2, .int (nI (s1 + 0))), (0, .ref hM), (1, .int (nI q))]) hx hb dMO_testsOf_30 hl (k := 1) rfl (hr_inc _) (by decide) rfl (fun ls hl => ?_)
          refine lv_goto (tgt := 4) hx hb dMO_testsOf_33 (by decide) ?_
          exact ih_4 (i + 1) (s1 + 0) (by omega) (by have h3 := dgN_miss hsi; omega) (by omega) ls (lv_sub hl [0, 1, 2, 3] rfl)
        · have hsi : sf i = some q := (oI_nI (fun z hz => by have := hsf i (by omega) z hz; omega) (by omega)).mp c_2
          refine lv_iconst (v := nI 1) hx hb dMO_testsOf_23 (by decide +kernel) ?_
          refine lv_goto (tgt := 28) hx hb dMO_testsOf_24 (by decide) ?_
          refine lv_iadd hx hb dMO_testsOf_28 ?_
          refine hr_eqi (nI_add _ _) ?_
          refine lv_istore_n (lv' := [(2, .int (nI (s1 + 1))), (3, .int (nI i)), (0, .ref hM), (1, .int (nI q))]) hx hb dMO_testsOf_29 rfl hl (by decide) rfl (fun ls hl => ?_)
          refine lv_iinc (v := nI (i + 1)) (lv' := [(3, .int (nI (i + 1))), (2, .int (nI (s1 + 1))), (0, .ref hM), (1, .int (nI q))]) hx hb dMO_testsOf_30 hl (k := 1) rfl (hr_inc _) (by decide) rfl (fun ls hl => ?_)
          refine lv_goto (tgt := 4) hx hb dMO_testsOf_33 (by decide) ?_
          exact ih_4 (i + 1) (s1 + 1) (by omega) (by have h3 := dgN_hit hsi; omega) (by omega) ls (lv_sub hl [0, 1, 2, 3] rfl)
  exact loop_4 (sn + 1) 0 0 (by omega) (rfl) (by omega) ls (lv_sub hl [0, 1, 2, 3] rfl)

set_option maxHeartbeats 400000 in
set_option maxRecDepth 100000 in
/-- empty -/
theorem c_MO_empty (l : Launch) (dC : Nat → ClassId) (dI : Nat → Nat → Nat) (cI cZ cG : ClassId) (hM : Nat) (z1 : Nat) (z2 : Nat) (z3 : Nat) (z4 : Nat) (z5 : Nat) (z6 : Nat) (z7 : Nat) (z8 : Nat) (z9 : Nat) (z10 : Nat) (z11 : Nat) (z12 : Nat) (z13 : Nat) (z14 : Nat) (th : Nat) (k : Nat) (n : Nat) (iS : Nat) (sc : Nat) (sn : Nat) (mv : Nat) (sg : Nat) (dn : Nat) (gc : Nat) (sf : Nat → Option Nat) (x : Int32) (sz : Nat) (hiS : iS < 2 ∧ (iS = 0 → sc = 0 ∧ sn = 0)) (hsc : sc ≤ 4) (hsn : sn ≤ 24) (hsf : ∀ j, j < 24 → ∀ q, sf j = some q → q < 4) : Met l yMO_empty wsMO_empty ({ frames := 1, cells := 0, slots := 0, locals := 23 }) (va_Pc [.ref hM, .int x] (fun U => U.heap.size = sz ∧ va_P (dC, dI) vwCl [(hM, .inr (8, [.int (nI th), .int (nI k), .int (nI n), .ref z1, .ref z2, .int (nI iS), .int (nI sc), .int (nI sn), .int (nI mv), .int (nI sg), .ref z3, .ref z4, .ref z5, .ref z6, .ref z7, .ref z8, .ref z9, .int (nI dn), .ref z10, .ref z11, .ref z12, .ref z13, .ref z14, .int (nI gc)])), (z3, .inl (cI, 24, .inl (fun j9 => oI (sf j9))))] U.heap ∧ KX dC dI cI cZ cG U ∧ va_D (fun _ => True) [(hM, .inr (8, [.int (nI th), .int (nI k), .int (nI n), .ref z1, .ref z2, .int (nI iS), .int (nI sc), .int (nI sn), .int (nI mv), .int (nI sg), .ref z3, .ref z4, .ref z5, .ref z6, .ref z7, .ref z8, .ref z9, .int (nI dn), .ref z10, .ref z11, .ref z12, .ref z13, .ref z14, .int (nI gc)])), (z3, .inl (cI, 24, .inl (fun j9 => oI (sf j9))))])) (va_Qi (fun (r : Int32) (u : Unit) => r = oI (nthZ (fun q => dgN sf q sn) x sc 0 0)) (fun u t => va_P (dC, dI) vwCl [(hM, .inr (8, [.int (nI 0), .int (nI k), .int (nI n), .ref z1, .ref z2, .int (nI iS), .int (nI sc), .int (nI sn), .int (nI mv), .int (nI sg), .ref z3, .ref z4, .ref z5, .ref z6, .ref z7, .ref z8, .ref z9, .int (nI dn), .ref z10, .ref z11, .ref z12, .ref z13, .ref z14, .int (nI gc)])), (z3, .inl (cI, 24, .inl (fun j9 => oI (sf j9))))] t.heap ∧ va_D (va_A [(hM, .inr (8, [.int (nI th), .int (nI k), .int (nI n), .ref z1, .ref z2, .int (nI iS), .int (nI sc), .int (nI sn), .int (nI mv), .int (nI sg), .ref z3, .ref z4, .ref z5, .ref z6, .ref z7, .ref z8, .ref z9, .int (nI dn), .ref z10, .ref z11, .ref z12, .ref z13, .ref z14, .int (nI gc)])), (z3, .inl (cI, 24, .inl (fun j9 => oI (sf j9))))] sz) [(hM, .inr (8, [.int (nI 0), .int (nI k), .int (nI n), .ref z1, .ref z2, .int (nI iS), .int (nI sc), .int (nI sn), .int (nI mv), .int (nI sg), .ref z3, .ref z4, .ref z5, .ref z6, .ref z7, .ref z8, .ref z9, .int (nI dn), .ref z10, .ref z11, .ref z12, .ref z13, .ref z14, .int (nI gc)])), (z3, .inl (cI, 24, .inl (fun j9 => oI (sf j9))))]) (va_A [(hM, .inr (8, [.int (nI th), .int (nI k), .int (nI n), .ref z1, .ref z2, .int (nI iS), .int (nI sc), .int (nI sn), .int (nI mv), .int (nI sg), .ref z3, .ref z4, .ref z5, .ref z6, .ref z7, .ref z8, .ref z9, .int (nI dn), .ref z10, .ref z11, .ref z12, .ref z13, .ref z14, .int (nI gc)])), (z3, .inl (cI, 24, .inl (fun j9 => oI (sf j9))))] sz)) 0 0 (va_A [(hM, .inr (8, [.int (nI th), .int (nI k), .int (nI n), .ref z1, .ref z2, .int (nI iS), .int (nI sc), .int (nI sn), .int (nI mv), .int (nI sg), .ref z3, .ref z4, .ref z5, .ref z6, .ref z7, .ref z8, .ref z9, .int (nI dn), .ref z10, .ref z11, .ref z12, .ref z13, .ref z14, .int (nI gc)])), (z3, .inl (cI, 24, .inl (fun j9 => oI (sf j9))))] sz) := by
  refine Met.ofW (cc := cMO_empty) (maxL := 4) (ret := (some .int)) (by decide) rfl ?_
  intro p e s m args below meth c s₁ B hml hv
  obtain ⟨rfl, hsz, hP, hKX, hD0⟩ := hv
  have hK := hKX.1
  have hx := B.exec
  have hb := B.bytes
  have hr := B.returns
  have hts := atoms_spec (ws := wsMO_empty) B.pre
  have hown : s.vm.findClass RMO = some m.cls := findClass_of_methodNamed B.named
  have hlocks := B.notSynchronized
  subst hsz
  have hD := hD0.self (sz := s.heap.size)
  generalize hAe : va_A [(hM, .inr (8, [.int (nI th), .int (nI k), .int (nI n), .ref z1, .ref z2, .int (nI iS), .int (nI sc), .int (nI sn), .int (nI mv), .int (nI sg), .ref z3, .ref z4, .ref z5, .ref z6, .ref z7, .ref z8, .ref z9, .int (nI dn), .ref z10, .ref z11, .ref z12, .ref z13, .ref z14, .int (nI gc)])), (z3, .inl (cI, 24, .inl (fun j9 => oI (sf j9))))] s.heap.size = A at hD ⊢
  have hA : ∀ q : Nat, s.heap.size ≤ q → A q := fun q h => by rw [← hAe]; exact Or.inr h
  have hS : va_S A s.heap s.heap [] := va_S.rf
  have hl := lv_entry ([.ref hM, .int x]) (n := 4) (Nat.le_of_ble_eq_true rfl)
  rw [lg_entry_eq]
  generalize (lg_sl ([.ref hM, .int x]) ++ List.replicate (4 - (lg_sl ([.ref hM, .int x])).length) Slot.unset).toArray = ls at hl ⊢
  have hl : lv_has ls 4 [(0, .ref hM), (1, .int x)] := hl
  generalize hRe : (headSpec wsMO_empty ({ frames := 1, cells := 0, slots := 0, locals := 23 })).room = R
  have hRf : 1 ≤ R.frames := by rw [← hRe]; exact Nat.le_refl _
  have hRl : 23 ≤ R.locals := by rw [← hRe]; exact Nat.le_refl _
  have hRc : 0 ≤ R.cells := by rw [← hRe]; exact Nat.le_refl _
  have hRs : 0 ≤ R.slots := by rw [← hRe]; exact Nat.le_refl _
  generalize hargs : (List.toArray [.ref hM, .int x] : Array Value) = args at hts ⊢
  generalize hQe : MQ below _ args s _ _ _ = Q
  refine lv_aload_n hx hb dMO_empty_0 rfl (lv_at hl 0 rfl) ?_
  refine lv_iconst (v := nI 0) hx hb dMO_empty_1 (by decide +kernel) ?_
  refine va_put (D := (dC, dI)) (ci := 8) (v := .int (nI 0)) (ty := .int) (C := RMO) (T := TMO) (N := 24) hx hb hts (fun w h => List.mem_cons_of_mem _ (inMO w h)) tyMO tyMO_ok nmMO hown hK hP hD hS 0 rfl rfl 0 (by decide) (hts _ (List.mem_cons_of_mem _ kw_509)) (fun _ h9 => h9) rfl (by decide +kernel) rfl rfl (Nat.le_of_ble_eq_true rfl) dMO_empty_2 (fun H locs hP hD hS => ?_)
  have hP : va_P (dC, dI) vwCl [(hM, .inr (8, [.int (nI 0), .int (nI k), .int (nI n), .ref z1, .ref z2, .int (nI iS), .int (nI sc), .int (nI sn), .int (nI mv), .int (nI sg), .ref z3, .ref z4, .ref z5, .ref z6, .ref z7, .ref z8, .ref z9, .int (nI dn), .ref z10, .ref z11, .ref z12, .ref z13, .ref z14, .int (nI gc)])), (z3, .inl (cI, 24, .inl (fun j9 => oI (sf j9))))] H := hP
  have hD : va_D A [(hM, .inr (8, [.int (nI 0), .int (nI k), .int (nI n), .ref z1, .ref z2, .int (nI iS), .int (nI sc), .int (nI sn), .int (nI mv), .int (nI sg), .ref z3, .ref z4, .ref z5, .ref z6, .ref z7, .ref z8, .ref z9, .int (nI dn), .ref z10, .ref z11, .ref z12, .ref z13, .ref z14, .int (nI gc)])), (z3, .inl (cI, 24, .inl (fun j9 => oI (sf j9))))] := hD
  refine lv_iconst (v := nI 0) hx hb dMO_empty_5 (by decide +kernel) ?_
  refine lv_istore_n (lv' := [(2, .int (nI 0)), (0, .ref hM), (1, .int x)]) hx hb dMO_empty_6 rfl hl (by decide) rfl (fun ls hl => ?_)
  refine lv_iconst (v := nI 0) hx hb dMO_empty_7 (by decide +kernel) ?_
  refine lv_istore_n (lv' := [(3, .int (nI 0)), (2, .int (nI 0)), (0, .ref hM), (1, .int x)]) hx hb dMO_empty_8 rfl hl (by decide) rfl (fun ls hl => ?_)
  have loop_9 : ∀ (n9 : Nat) (i : Nat) (u : Nat), i ≤ sc → nthZ (fun q => dgN sf q sn) x (sc - i) i u = nthZ (fun q => dgN sf q sn) x sc 0 0 → sc + 1 ≤ i + n9 → ∀ (H : Heap) (locs : List Loc), va_P (dC, dI) vwCl [(hM, .inr (8, [.int (nI 0), .int (nI k), .int (nI n), .ref z1, .ref z2, .int (nI iS), .int (nI sc), .int (nI sn), .int (nI mv), .int (nI sg), .ref z3, .ref z4, .ref z5, .ref z6, .ref z7, .ref z8, .ref z9, .int (nI dn), .ref z10, .ref z11, .ref z12, .ref z13, .ref z14, .int (nI gc)])), (z3, .inl (cI, 24, .inl (fun j9 => oI (sf j9))))] H → va_D A [(hM, .inr (8, [.int (nI 0), .int (nI k), .int (nI n), .ref z1, .ref z2, .int (nI iS), .int (nI sc), .int (nI sn), .int (nI mv), .int (nI sg), .ref z3, .ref z4, .ref z5, .ref z6, .ref z7, .ref z8, .ref z9, .int (nI dn), .ref z10, .ref z11, .ref z12, .ref z13, .ref z14, .int (nI gc)])), (z3, .inl (cI, 24, .inl (fun j9 => oI (sf j9))))] → va_S A s.heap H locs → ∀ (ls : Array Slot), lv_has ls 4 [(3, .int (nI i)), (2, .int (nI u)), (0, .ref hM), (1, .int x)] → W p l e R s m args below meth c H locs 0 0 Q (F0 m 9 ls []) := by
    intro n9
    induction n9 with
    | zero =>
      intro i u hi hT hmeas
      exact absurd hmeas (by omega)
    | succ n9 ih_9 =>
      intro i u hi hT hmeas H locs hP hD hS ls hl
      refine lv_aload_n hx hb dMO_empty_9 rfl (lv_at hl 2 rfl) ?_
      refine lv_iload_n hx hb dMO_empty_10 rfl (lv_at hl 0 rfl) ?_
      refine vp_callSi (va_runV (C := RMO) (As := [.int (nI i)]) (rest := []) ⟨hx, hb, hml, hown, hts⟩ (c_MO_isShard l dC dI cI cZ cG hM z1 z2 z3 z4 z5 z6 z7 z8 z9 z10 z11 z12 z13 z14 0 k n iS sc sn mv sg dn gc (nI i) (hiS) (hsc) (hsn)) (hr_cwV 1 hts kw_659 kw_661 kw_20 kw_33 kw_662 (by decide +kernel) (by rw [← hRe]; exact ⟨Nat.le_of_ble_eq_true rfl, Nat.le_of_ble_eq_true rfl⟩)) (hr_preR hKX hP [0] rfl (ci := 8) (q0 := 0) (q := (RMO, TMO, 24)) rfl rfl) rfl rfl hl.1 rfl (lv_room (Nat.le_of_ble_eq_true rfl)) dMO_empty_11 ⟨by omega, by omega⟩).run (fun rv hrv => ?_)
      refine hr_eqi hrv ?_
      have hb1 := inB_lt (nI i) sc
      refine hr_if_eq hx hb (x := inB (nI i) sc) (by omega) (tgt := 44) dMO_empty_14 (by decide) (fun c_1 => ?_) (fun c_1 => ?_)
      · have ei : i = sc := by
          rcases (show i = sc ∨ i < sc by omega) with z | z
          · exact z
          · rw [inB_nI z (by omega)] at c_1; exact absurd c_1 (by decide)
        rw [ei, show sc - sc = 0 by omega] at hT
        refine lv_iconst (v := (-1)) hx hb dMO_empty_44 (by decide +kernel) ?_
        rw [← hQe]
        exact W.iret (v := (-1)) hx hb hr (fun t ht hW => ⟨⟨_, (), rfl, by rw [← hT]; rfl, by rw [ht]; exact hP, hD⟩, hS.F ht⟩) hS.2.2 dMO_empty_45
      · have hil : i < sc := by
          obtain ⟨j, hj, ej⟩ := inB_pos (by omega) c_1
          have := nI_inj (by omega) (by omega) ej
          omega
        refine lv_aload_n hx hb dMO_empty_17 rfl (lv_at hl 2 rfl) ?_
        refine lv_iload_n hx hb dMO_empty_18 rfl (lv_at hl 0 rfl) ?_
        refine vp_callSi (va_runV (C := RMO) (As := [.int (nI i)]) (rest := []) ⟨hx, hb, hml, hown, hts⟩ (c_MO_testsOf l dC dI cI cZ cG hM z1 z2 z3 z4 z5 z6 z7 z8 z9 z10 z11 z12 z13 z14 0 k n iS sc sn mv sg dn gc sf i (hsn) (by omega) (hsf)) (hr_cwV 1 hts kw_671 kw_673 kw_21 kw_33 kw_674 (by decide +kernel) (by rw [← hRe]; exact ⟨Nat.le_of_ble_eq_true rfl, Nat.le_of_ble_eq_true rfl⟩)) (hr_preR hKX hP [0, 1] rfl (ci := 8) (q0 := 0) (q := (RMO, TMO, 24)) rfl rfl) rfl rfl hl.1 rfl (lv_room (Nat.le_of_ble_eq_true rfl)) dMO_empty_19 ⟨by omega, by omega⟩).run (fun rv hrv => ?_)
        refine hr_eqi hrv ?_
        have hdl := dgN_le sf i sn
        refine hr_if_le hx hb (x := dgN sf i sn) (by omega) (tgt := 28) dMO_empty_22 (by decide) (fun c_2 => ?_) (fun c_2 => ?_)
        · refine lv_iload_n hx hb dMO_empty_28 rfl (lv_at hl 1 rfl) ?_
          refine lv_iload_n hx hb dMO_empty_29 rfl (lv_at hl 3 rfl) ?_
          refine lv_icmp_ne (tgt := 35) hx hb dMO_empty_30 (by decide) (fun c_3 => ?_) (fun c_3 => ?_)
          · refine lv_iinc (v := nI (u + 1)) (lv' := [(2, .int (nI (u + 1))), (3, .int (nI i)), (0, .ref hM), (1, .int x)]) hx hb dMO_empty_35 hl (k := 1) rfl (hr_inc _) (by decide) rfl (fun ls hl => ?_)
            refine lv_iinc (v := nI (i + 1)) (lv' := [(3, .int (nI (i + 1))), (2, .int (nI (u + 1))), (0, .ref hM), (1, .int x)]) hx hb dMO_empty_38 hl (k := 1) rfl (hr_inc _) (by decide) rfl (fun ls hl => ?_)
            refine lv_goto (tgt := 9) hx hb dMO_empty_41 (by decide) ?_
            exact ih_9 (i + 1) (u + 1) (by omega) (by rw [← hT, show sc - i = sc - (i + 1) + 1 by omega, nthZ_next (f := fun q => dgN sf q sn) (show dgN sf i sn = 0 by omega) c_3]) (by omega) _ _ hP hD hS ls (lv_sub hl [0, 1, 2, 3] rfl)
          · refine lv_iload_n hx hb dMO_empty_33 rfl (lv_at hl 0 rfl) ?_
            rw [← hQe]
            exact W.iret (v := nI i) hx hb hr (fun t ht hW => ⟨⟨_, (), rfl, by rw [← hT, show sc - i = sc - (i + 1) + 1 by omega, nthZ_hit (f := fun q => dgN sf q sn) (show dgN sf i sn = 0 by omega) c_3]; rfl, by rw [ht]; exact hP, hD⟩, hS.F ht⟩) hS.2.2 dMO_empty_34
        · refine lv_goto (tgt := 38) hx hb dMO_empty_25 (by decide) ?_
          refine lv_iinc (v := nI (i + 1)) (lv' := [(3, .int (nI (i + 1))), (2, .int (nI u)), (0, .ref hM), (1, .int x)]) hx hb dMO_empty_38 hl (k := 0) rfl (hr_inc _) (by decide) rfl (fun ls hl => ?_)
          refine lv_goto (tgt := 9) hx hb dMO_empty_41 (by decide) ?_
          exact ih_9 (i + 1) u (by omega) (by rw [← hT, show sc - i = sc - (i + 1) + 1 by omega, nthZ_skip (f := fun q => dgN sf q sn) (show ¬ dgN sf i sn = 0 by omega)]) (by omega) _ _ hP hD hS ls (lv_sub hl [0, 1, 2, 3] rfl)
  exact loop_9 (sc + 1) 0 0 (by omega) (rfl) (by omega) _ _ hP hD hS ls (lv_sub hl [0, 1, 2, 3] rfl)

set_option maxHeartbeats 400000 in
set_option maxRecDepth 100000 in
/-- missing -/
theorem c_MO_missing (l : Launch) (dC : Nat → ClassId) (dI : Nat → Nat → Nat) (cI cZ cG : ClassId) (hM : Nat) (z1 : Nat) (z2 : Nat) (z3 : Nat) (z4 : Nat) (z5 : Nat) (z6 : Nat) (z7 : Nat) (z8 : Nat) (z9 : Nat) (z10 : Nat) (z11 : Nat) (z12 : Nat) (z13 : Nat) (z14 : Nat) (th : Nat) (k : Nat) (n : Nat) (iS : Nat) (sc : Nat) (sn : Nat) (mv : Nat) (sg : Nat) (dn : Nat) (gc : Nat) (pr : Nat → Nat) (x : Int32) (sz : Nat) (hiS : iS < 2 ∧ (iS = 0 → sc = 0 ∧ sn = 0)) (hsc : sc ≤ 4) (hsn : sn ≤ 24) (hpr : ∀ j, j < 24 → pr j < 2) : Met l yMO_missing wsMO_missing ({ frames := 1, cells := 0, slots := 0, locals := 21 }) (va_Pc [.ref hM, .int x] (fun U => U.heap.size = sz ∧ va_P (dC, dI) vwCl [(hM, .inr (8, [.int (nI th), .int (nI k), .int (nI n), .ref z1, .ref z2, .int (nI iS), .int (nI sc), .int (nI sn), .int (nI mv), .int (nI sg), .ref z3, .ref z4, .ref z5, .ref z6, .ref z7, .ref z8, .ref z9, .int (nI dn), .ref z10, .ref z11, .ref z12, .ref z13, .ref z14, .int (nI gc)])), (z6, .inl (cZ, 24, .inl (fun j9 => nI (pr j9))))] U.heap ∧ KX dC dI cI cZ cG U ∧ va_D (fun _ => True) [(hM, .inr (8, [.int (nI th), .int (nI k), .int (nI n), .ref z1, .ref z2, .int (nI iS), .int (nI sc), .int (nI sn), .int (nI mv), .int (nI sg), .ref z3, .ref z4, .ref z5, .ref z6, .ref z7, .ref z8, .ref z9, .int (nI dn), .ref z10, .ref z11, .ref z12, .ref z13, .ref z14, .int (nI gc)])), (z6, .inl (cZ, 24, .inl (fun j9 => nI (pr j9))))])) (va_Qi (fun (r : Int32) (u : Unit) => r = oI (nthZ pr x sn 0 0)) (fun u t => va_P (dC, dI) vwCl [(hM, .inr (8, [.int (nI 0), .int (nI k), .int (nI n), .ref z1, .ref z2, .int (nI iS), .int (nI sc), .int (nI sn), .int (nI mv), .int (nI sg), .ref z3, .ref z4, .ref z5, .ref z6, .ref z7, .ref z8, .ref z9, .int (nI dn), .ref z10, .ref z11, .ref z12, .ref z13, .ref z14, .int (nI gc)])), (z6, .inl (cZ, 24, .inl (fun j9 => nI (pr j9))))] t.heap ∧ va_D (va_A [(hM, .inr (8, [.int (nI th), .int (nI k), .int (nI n), .ref z1, .ref z2, .int (nI iS), .int (nI sc), .int (nI sn), .int (nI mv), .int (nI sg), .ref z3, .ref z4, .ref z5, .ref z6, .ref z7, .ref z8, .ref z9, .int (nI dn), .ref z10, .ref z11, .ref z12, .ref z13, .ref z14, .int (nI gc)])), (z6, .inl (cZ, 24, .inl (fun j9 => nI (pr j9))))] sz) [(hM, .inr (8, [.int (nI 0), .int (nI k), .int (nI n), .ref z1, .ref z2, .int (nI iS), .int (nI sc), .int (nI sn), .int (nI mv), .int (nI sg), .ref z3, .ref z4, .ref z5, .ref z6, .ref z7, .ref z8, .ref z9, .int (nI dn), .ref z10, .ref z11, .ref z12, .ref z13, .ref z14, .int (nI gc)])), (z6, .inl (cZ, 24, .inl (fun j9 => nI (pr j9))))]) (va_A [(hM, .inr (8, [.int (nI th), .int (nI k), .int (nI n), .ref z1, .ref z2, .int (nI iS), .int (nI sc), .int (nI sn), .int (nI mv), .int (nI sg), .ref z3, .ref z4, .ref z5, .ref z6, .ref z7, .ref z8, .ref z9, .int (nI dn), .ref z10, .ref z11, .ref z12, .ref z13, .ref z14, .int (nI gc)])), (z6, .inl (cZ, 24, .inl (fun j9 => nI (pr j9))))] sz)) 0 0 (va_A [(hM, .inr (8, [.int (nI th), .int (nI k), .int (nI n), .ref z1, .ref z2, .int (nI iS), .int (nI sc), .int (nI sn), .int (nI mv), .int (nI sg), .ref z3, .ref z4, .ref z5, .ref z6, .ref z7, .ref z8, .ref z9, .int (nI dn), .ref z10, .ref z11, .ref z12, .ref z13, .ref z14, .int (nI gc)])), (z6, .inl (cZ, 24, .inl (fun j9 => nI (pr j9))))] sz) := by
  refine Met.ofW (cc := cMO_missing) (maxL := 4) (ret := (some .int)) (by decide) rfl ?_
  intro p e s m args below meth c s₁ B hml hv
  obtain ⟨rfl, hsz, hP, hKX, hD0⟩ := hv
  have hK := hKX.1
  have hx := B.exec
  have hb := B.bytes
  have hr := B.returns
  have hts := atoms_spec (ws := wsMO_missing) B.pre
  have hown : s.vm.findClass RMO = some m.cls := findClass_of_methodNamed B.named
  have hlocks := B.notSynchronized
  subst hsz
  have hD := hD0.self (sz := s.heap.size)
  generalize hAe : va_A [(hM, .inr (8, [.int (nI th), .int (nI k), .int (nI n), .ref z1, .ref z2, .int (nI iS), .int (nI sc), .int (nI sn), .int (nI mv), .int (nI sg), .ref z3, .ref z4, .ref z5, .ref z6, .ref z7, .ref z8, .ref z9, .int (nI dn), .ref z10, .ref z11, .ref z12, .ref z13, .ref z14, .int (nI gc)])), (z6, .inl (cZ, 24, .inl (fun j9 => nI (pr j9))))] s.heap.size = A at hD ⊢
  have hA : ∀ q : Nat, s.heap.size ≤ q → A q := fun q h => by rw [← hAe]; exact Or.inr h
  have hS : va_S A s.heap s.heap [] := va_S.rf
  have hl := lv_entry ([.ref hM, .int x]) (n := 4) (Nat.le_of_ble_eq_true rfl)
  rw [lg_entry_eq]
  generalize (lg_sl ([.ref hM, .int x]) ++ List.replicate (4 - (lg_sl ([.ref hM, .int x])).length) Slot.unset).toArray = ls at hl ⊢
  have hl : lv_has ls 4 [(0, .ref hM), (1, .int x)] := hl
  generalize hRe : (headSpec wsMO_missing ({ frames := 1, cells := 0, slots := 0, locals := 21 })).room = R
  have hRf : 1 ≤ R.frames := by rw [← hRe]; exact Nat.le_refl _
  have hRl : 21 ≤ R.locals := by rw [← hRe]; exact Nat.le_refl _
  have hRc : 0 ≤ R.cells := by rw [← hRe]; exact Nat.le_refl _
  have hRs : 0 ≤ R.slots := by rw [← hRe]; exact Nat.le_refl _
  generalize hargs : (List.toArray [.ref hM, .int x] : Array Value) = args at hts ⊢
  generalize hQe : MQ below _ args s _ _ _ = Q
  refine lv_aload_n hx hb dMO_missing_0 rfl (lv_at hl 0 rfl) ?_
  refine lv_iconst (v := nI 0) hx hb dMO_missing_1 (by decide +kernel) ?_
  refine va_put (D := (dC, dI)) (ci := 8) (v := .int (nI 0)) (ty := .int) (C := RMO) (T := TMO) (N := 24) hx hb hts (fun w h => List.mem_cons_of_mem _ (inMO w h)) tyMO tyMO_ok nmMO hown hK hP hD hS 0 rfl rfl 0 (by decide) (hts _ (List.mem_cons_of_mem _ kw_509)) (fun _ h9 => h9) rfl (by decide +kernel) rfl rfl (Nat.le_of_ble_eq_true rfl) dMO_missing_2 (fun H locs hP hD hS => ?_)
  have hP : va_P (dC, dI) vwCl [(hM, .inr (8, [.int (nI 0), .int (nI k), .int (nI n), .ref z1, .ref z2, .int (nI iS), .int (nI sc), .int (nI sn), .int (nI mv), .int (nI sg), .ref z3, .ref z4, .ref z5, .ref z6, .ref z7, .ref z8, .ref z9, .int (nI dn), .ref z10, .ref z11, .ref z12, .ref z13, .ref z14, .int (nI gc)])), (z6, .inl (cZ, 24, .inl (fun j9 => nI (pr j9))))] H := hP
  have hD : va_D A [(hM, .inr (8, [.int (nI 0), .int (nI k), .int (nI n), .ref z1, .ref z2, .int (nI iS), .int (nI sc), .int (nI sn), .int (nI mv), .int (nI sg), .ref z3, .ref z4, .ref z5, .ref z6, .ref z7, .ref z8, .ref z9, .int (nI dn), .ref z10, .ref z11, .ref z12, .ref z13, .ref z14, .int (nI gc)])), (z6, .inl (cZ, 24, .inl (fun j9 => nI (pr j9))))] := hD
  refine lv_iconst (v := nI 0) hx hb dMO_missing_5 (by decide +kernel) ?_
  refine lv_istore_n (lv' := [(2, .int (nI 0)), (0, .ref hM), (1, .int x)]) hx hb dMO_missing_6 rfl hl (by decide) rfl (fun ls hl => ?_)
  refine lv_iconst (v := nI 0) hx hb dMO_missing_7 (by decide +kernel) ?_
  refine lv_istore_n (lv' := [(3, .int (nI 0)), (2, .int (nI 0)), (0, .ref hM), (1, .int x)]) hx hb dMO_missing_8 rfl hl (by decide) rfl (fun ls hl => ?_)
  have loop_9 : ∀ (n9 : Nat) (i : Nat) (u : Nat), i ≤ sn → nthZ pr x (sn - i) i u = nthZ pr x sn 0 0 → sn + 1 ≤ i + n9 → ∀ (H : Heap) (locs : List Loc), va_P (dC, dI) vwCl [(hM, .inr (8, [.int (nI 0), .int (nI k), .int (nI n), .ref z1, .ref z2, .int (nI iS), .int (nI sc), .int (nI sn), .int (nI mv), .int (nI sg), .ref z3, .ref z4, .ref z5, .ref z6, .ref z7, .ref z8, .ref z9, .int (nI dn), .ref z10, .ref z11, .ref z12, .ref z13, .ref z14, .int (nI gc)])), (z6, .inl (cZ, 24, .inl (fun j9 => nI (pr j9))))] H → va_D A [(hM, .inr (8, [.int (nI 0), .int (nI k), .int (nI n), .ref z1, .ref z2, .int (nI iS), .int (nI sc), .int (nI sn), .int (nI mv), .int (nI sg), .ref z3, .ref z4, .ref z5, .ref z6, .ref z7, .ref z8, .ref z9, .int (nI dn), .ref z10, .ref z11, .ref z12, .ref z13, .ref z14, .int (nI gc)])), (z6, .inl (cZ, 24, .inl (fun j9 => nI (pr j9))))] → va_S A s.heap H locs → ∀ (ls : Array Slot), lv_has ls 4 [(3, .int (nI i)), (2, .int (nI u)), (0, .ref hM), (1, .int x)] → W p l e R s m args below meth c H locs 0 0 Q (F0 m 9 ls []) := by
    intro n9
    induction n9 with
    | zero =>
      intro i u hi hT hmeas
      exact absurd hmeas (by omega)
    | succ n9 ih_9 =>
      intro i u hi hT hmeas H locs hP hD hS ls hl
      refine lv_aload_n hx hb dMO_missing_9 rfl (lv_at hl 2 rfl) ?_
      refine lv_iload_n hx hb dMO_missing_10 rfl (lv_at hl 0 rfl) ?_
      refine vp_callSi (va_runV (C := RMO) (As := [.int (nI i)]) (rest := []) ⟨hx, hb, hml, hown, hts⟩ (c_MO_isIn l dC dI cI cZ cG hM z1 z2 z3 z4 z5 z6 z7 z8 z9 z10 z11 z12 z13 z14 0 k n iS sc sn mv sg dn gc (nI i) (hiS) (hsc) (hsn)) (hr_cwV 1 hts kw_651 kw_653 kw_19 kw_33 kw_654 (by decide +kernel) (by rw [← hRe]; exact ⟨Nat.le_of_ble_eq_true rfl, Nat.le_of_ble_eq_true rfl⟩)) (hr_preR hKX hP [0] rfl (ci := 8) (q0 := 0) (q := (RMO, TMO, 24)) rfl rfl) rfl rfl hl.1 rfl (lv_room (Nat.le_of_ble_eq_true rfl)) dMO_missing_11 ⟨by omega, by omega⟩).run (fun rv hrv => ?_)
      refine hr_eqi hrv ?_
      have hb0 := inB_lt (nI i) sn
      refine hr_if_eq hx hb (x := inB (nI i) sn) (by omega) (tgt := 45) dMO_missing_14 (by decide) (fun c_1 => ?_) (fun c_1 => ?_)
      · have ei : i = sn := by
          rcases (show i = sn ∨ i < sn by omega) with z | z
          · exact z
          · rw [inB_nI z (by omega)] at c_1; exact absurd c_1 (by decide)
        rw [ei, show sn - sn = 0 by omega] at hT
        refine lv_iconst (v := (-1)) hx hb dMO_missing_45 (by decide +kernel) ?_
        rw [← hQe]
        exact W.iret (v := (-1)) hx hb hr (fun t ht hW => ⟨⟨_, (), rfl, by rw [← hT]; rfl, by rw [ht]; exact hP, hD⟩, hS.F ht⟩) hS.2.2 dMO_missing_46
      · have hil : i < sn := by
          obtain ⟨j, hj, ej⟩ := inB_pos (by omega) c_1
          have := nI_inj (by omega) (by omega) ej
          omega
        have hpi := hpr i (by omega)
        refine lv_aload_n hx hb dMO_missing_17 rfl (lv_at hl 2 rfl) ?_
        refine va_get (D := (dC, dI)) (ci := 8) (v := .ref z6) (C := RMO) (T := TMO) (N := 24) hx hb hts (fun w h => List.mem_cons_of_mem _ (inMO w h)) hown hK hP 0 rfl rfl 13 (by decide) (hts _ (List.mem_cons_of_mem _ kw_522)) (fun _ h9 => h9) rfl dMO_missing_18 ?_
        refine lv_iload_n hx hb dMO_missing_21 rfl (lv_at hl 0 rfl) ?_
        refine hr_zald hx hb hK hP 1 1 rfl rfl (i := i) (by omega) (by omega) dMO_missing_22 ?_
        refine hr_if_eq hx hb (x := (pr i)) (by omega) (tgt := 29) dMO_missing_23 (by decide) (fun c_2 => ?_) (fun c_2 => ?_)
        · refine lv_iload_n hx hb dMO_missing_29 rfl (lv_at hl 1 rfl) ?_
          refine lv_iload_n hx hb dMO_missing_30 rfl (lv_at hl 3 rfl) ?_
          refine lv_icmp_ne (tgt := 36) hx hb dMO_missing_31 (by decide) (fun c_3 => ?_) (fun c_3 => ?_)
          · refine lv_iinc (v := nI (u + 1)) (lv' := [(2, .int (nI (u + 1))), (3, .int (nI i)), (0, .ref hM), (1, .int x)]) hx hb dMO_missing_36 hl (k := 1) rfl (hr_inc _) (by decide) rfl (fun ls hl => ?_)
            refine lv_iinc (v := nI (i + 1)) (lv' := [(3, .int (nI (i + 1))), (2, .int (nI (u + 1))), (0, .ref hM), (1, .int x)]) hx hb dMO_missing_39 hl (k := 1) rfl (hr_inc _) (by decide) rfl (fun ls hl => ?_)
            refine lv_goto (tgt := 9) hx hb dMO_missing_42 (by decide) ?_
            exact ih_9 (i + 1) (u + 1) (by omega) (by rw [← hT, show sn - i = sn - (i + 1) + 1 by omega, nthZ_next c_2 c_3]) (by omega) _ _ hP hD hS ls (lv_sub hl [0, 1, 2, 3] rfl)
          · refine lv_iload_n hx hb dMO_missing_34 rfl (lv_at hl 0 rfl) ?_
            rw [← hQe]
            exact W.iret (v := nI i) hx hb hr (fun t ht hW => ⟨⟨_, (), rfl, by rw [← hT, show sn - i = sn - (i + 1) + 1 by omega, nthZ_hit c_2 c_3]; rfl, by rw [ht]; exact hP, hD⟩, hS.F ht⟩) hS.2.2 dMO_missing_35
        · refine lv_goto (tgt := 39) hx hb dMO_missing_26 (by decide) ?_
          refine lv_iinc (v := nI (i + 1)) (lv' := [(3, .int (nI (i + 1))), (2, .int (nI u)), (0, .ref hM), (1, .int x)]) hx hb dMO_missing_39 hl (k := 0) rfl (hr_inc _) (by decide) rfl (fun ls hl => ?_)
          refine lv_goto (tgt := 9) hx hb dMO_missing_42 (by decide) ?_
          exact ih_9 (i + 1) u (by omega) (by rw [← hT, show sn - i = sn - (i + 1) + 1 by omega, nthZ_skip c_2]) (by omega) _ _ hP hD hS ls (lv_sub hl [0, 1, 2, 3] rfl)
  exact loop_9 (sn + 1) 0 0 (by omega) (rfl) (by omega) _ _ hP hD hS ls (lv_sub hl [0, 1, 2, 3] rfl)

set_option maxHeartbeats 400000 in
set_option maxRecDepth 100000 in
/-- verdict -/
theorem c_MO_verdict (l : Launch) (dC : Nat → ClassId) (dI : Nat → Nat → Nat) (cI cZ cG : ClassId) (hM : Nat) (z1 : Nat) (z2 : Nat) (z3 : Nat) (z4 : Nat) (z5 : Nat) (z6 : Nat) (z7 : Nat) (z8 : Nat) (z9 : Nat) (z10 : Nat) (z11 : Nat) (z12 : Nat) (z13 : Nat) (z14 : Nat) (th : Nat) (k : Nat) (n : Nat) (iS : Nat) (sc : Nat) (sn : Nat) (mv : Nat) (sg : Nat) (dn : Nat) (gc : Nat) (pr : Nat → Nat) (gd : Nat → Nat) (sz : Nat) (hiS : iS < 2 ∧ (iS = 0 → sc = 0 ∧ sn = 0)) (hsc : sc ≤ 4) (hsn : sn ≤ 24) (hpr : ∀ j, j < 24 → pr j < 2) (hgd : ∀ j, j < 24 → gd j < 2) : Met l yMO_verdict wsMO_verdict ({ frames := 0, cells := 0, slots := 0, locals := 0 }) (va_Pc [.ref hM] (fun U => U.heap.size = sz ∧ va_P (dC, dI) vwCl [(hM, .inr (8, [.int (nI th), .int (nI k), .int (nI n), .ref z1, .ref z2, .int (nI iS), .int (nI sc), .int (nI sn), .int (nI mv), .int (nI sg), .ref z3, .ref z4, .ref z5, .ref z6, .ref z7, .ref z8, .ref z9, .int (nI dn), .ref z10, .ref z11, .ref z12, .ref z13, .ref z14, .int (nI gc)])), (z6, .inl (cZ, 24, .inl (fun j9 => nI (pr j9)))), (z7, .inl (cZ, 24, .inl (fun j9 => nI (gd j9))))] U.heap ∧ KX dC dI cI cZ cG U ∧ va_D (fun _ => True) [(hM, .inr (8, [.int (nI th), .int (nI k), .int (nI n), .ref z1, .ref z2, .int (nI iS), .int (nI sc), .int (nI sn), .int (nI mv), .int (nI sg), .ref z3, .ref z4, .ref z5, .ref z6, .ref z7, .ref z8, .ref z9, .int (nI dn), .ref z10, .ref z11, .ref z12, .ref z13, .ref z14, .int (nI gc)])), (z6, .inl (cZ, 24, .inl (fun j9 => nI (pr j9)))), (z7, .inl (cZ, 24, .inl (fun j9 => nI (gd j9))))])) (va_Qi (fun (r : Int32) (u : Unit) => r = (vrM iS sn pr gd)) (fun u t => va_P (dC, dI) vwCl [(hM, .inr (8, [.int (nI 0), .int (nI k), .int (nI n), .ref z1, .ref z2, .int (nI iS), .int (nI sc), .int (nI sn), .int (nI mv), .int (nI sg), .ref z3, .ref z4, .ref z5, .ref z6, .ref z7, .ref z8, .ref z9, .int (nI dn), .ref z10, .ref z11, .ref z12, .ref z13, .ref z14, .int (nI gc)])), (z6, .inl (cZ, 24, .inl (fun j9 => nI (pr j9)))), (z7, .inl (cZ, 24, .inl (fun j9 => nI (gd j9))))] t.heap ∧ va_D (va_A [(hM, .inr (8, [.int (nI th), .int (nI k), .int (nI n), .ref z1, .ref z2, .int (nI iS), .int (nI sc), .int (nI sn), .int (nI mv), .int (nI sg), .ref z3, .ref z4, .ref z5, .ref z6, .ref z7, .ref z8, .ref z9, .int (nI dn), .ref z10, .ref z11, .ref z12, .ref z13, .ref z14, .int (nI gc)])), (z6, .inl (cZ, 24, .inl (fun j9 => nI (pr j9)))), (z7, .inl (cZ, 24, .inl (fun j9 => nI (gd j9))))] sz) [(hM, .inr (8, [.int (nI 0), .int (nI k), .int (nI n), .ref z1, .ref z2, .int (nI iS), .int (nI sc), .int (nI sn), .int (nI mv), .int (nI sg), .ref z3, .ref z4, .ref z5, .ref z6, .ref z7, .ref z8, .ref z9, .int (nI dn), .ref z10, .ref z11, .ref z12, .ref z13, .ref z14, .int (nI gc)])), (z6, .inl (cZ, 24, .inl (fun j9 => nI (pr j9)))), (z7, .inl (cZ, 24, .inl (fun j9 => nI (gd j9))))]) (va_A [(hM, .inr (8, [.int (nI th), .int (nI k), .int (nI n), .ref z1, .ref z2, .int (nI iS), .int (nI sc), .int (nI sn), .int (nI mv), .int (nI sg), .ref z3, .ref z4, .ref z5, .ref z6, .ref z7, .ref z8, .ref z9, .int (nI dn), .ref z10, .ref z11, .ref z12, .ref z13, .ref z14, .int (nI gc)])), (z6, .inl (cZ, 24, .inl (fun j9 => nI (pr j9)))), (z7, .inl (cZ, 24, .inl (fun j9 => nI (gd j9))))] sz)) 0 0 (va_A [(hM, .inr (8, [.int (nI th), .int (nI k), .int (nI n), .ref z1, .ref z2, .int (nI iS), .int (nI sc), .int (nI sn), .int (nI mv), .int (nI sg), .ref z3, .ref z4, .ref z5, .ref z6, .ref z7, .ref z8, .ref z9, .int (nI dn), .ref z10, .ref z11, .ref z12, .ref z13, .ref z14, .int (nI gc)])), (z6, .inl (cZ, 24, .inl (fun j9 => nI (pr j9)))), (z7, .inl (cZ, 24, .inl (fun j9 => nI (gd j9))))] sz) := by
  refine Met.ofW (cc := cMO_verdict) (maxL := 4) (ret := (some .int)) (by decide) rfl ?_
  intro p e s m args below meth c s₁ B hml hv
  obtain ⟨rfl, hsz, hP, hKX, hD0⟩ := hv
  have hK := hKX.1
  have hx := B.exec
  have hb := B.bytes
  have hr := B.returns
  have hts := atoms_spec (ws := wsMO_verdict) B.pre
  have hown : s.vm.findClass RMO = some m.cls := findClass_of_methodNamed B.named
  have hlocks := B.notSynchronized
  subst hsz
  have hD := hD0.self (sz := s.heap.size)
  generalize hAe : va_A [(hM, .inr (8, [.int (nI th), .int (nI k), .int (nI n), .ref z1, .ref z2, .int (nI iS), .int (nI sc), .int (nI sn), .int (nI mv), .int (nI sg), .ref z3, .ref z4, .ref z5, .ref z6, .ref z7, .ref z8, .ref z9, .int (nI dn), .ref z10, .ref z11, .ref z12, .ref z13, .ref z14, .int (nI gc)])), (z6, .inl (cZ, 24, .inl (fun j9 => nI (pr j9)))), (z7, .inl (cZ, 24, .inl (fun j9 => nI (gd j9))))] s.heap.size = A at hD ⊢
  have hA : ∀ q : Nat, s.heap.size ≤ q → A q := fun q h => by rw [← hAe]; exact Or.inr h
  have hS : va_S A s.heap s.heap [] := va_S.rf
  have hl := lv_entry ([.ref hM]) (n := 4) (Nat.le_of_ble_eq_true rfl)
  rw [lg_entry_eq]
  generalize (lg_sl ([.ref hM]) ++ List.replicate (4 - (lg_sl ([.ref hM])).length) Slot.unset).toArray = ls at hl ⊢
  have hl : lv_has ls 4 [(0, .ref hM)] := hl
  generalize hRe : (headSpec wsMO_verdict ({ frames := 0, cells := 0, slots := 0, locals := 0 })).room = R
  have hRf : 0 ≤ R.frames := by rw [← hRe]; exact Nat.le_refl _
  have hRl : 0 ≤ R.locals := by rw [← hRe]; exact Nat.le_refl _
  have hRc : 0 ≤ R.cells := by rw [← hRe]; exact Nat.le_refl _
  have hRs : 0 ≤ R.slots := by rw [← hRe]; exact Nat.le_refl _
  generalize hargs : (List.toArray [.ref hM] : Array Value) = args at hts ⊢
  generalize hQe : MQ below _ args s _ _ _ = Q
  refine lv_aload_n hx hb dMO_verdict_0 rfl (lv_at hl 0 rfl) ?_
  refine lv_iconst (v := nI 0) hx hb dMO_verdict_1 (by decide +kernel) ?_
  refine va_put (D := (dC, dI)) (ci := 8) (v := .int (nI 0)) (ty := .int) (C := RMO) (T := TMO) (N := 24) hx hb hts (fun w h => List.mem_cons_of_mem _ (inMO w h)) tyMO tyMO_ok nmMO hown hK hP hD hS 0 rfl rfl 0 (by decide) (hts _ (List.mem_cons_of_mem _ kw_509)) (fun _ h9 => h9) rfl (by decide +kernel) rfl rfl (Nat.le_of_ble_eq_true rfl) dMO_verdict_2 (fun H locs hP hD hS => ?_)
  have hP : va_P (dC, dI) vwCl [(hM, .inr (8, [.int (nI 0), .int (nI k), .int (nI n), .ref z1, .ref z2, .int (nI iS), .int (nI sc), .int (nI sn), .int (nI mv), .int (nI sg), .ref z3, .ref z4, .ref z5, .ref z6, .ref z7, .ref z8, .ref z9, .int (nI dn), .ref z10, .ref z11, .ref z12, .ref z13, .ref z14, .int (nI gc)])), (z6, .inl (cZ, 24, .inl (fun j9 => nI (pr j9)))), (z7, .inl (cZ, 24, .inl (fun j9 => nI (gd j9))))] H := hP
  have hD : va_D A [(hM, .inr (8, [.int (nI 0), .int (nI k), .int (nI n), .ref z1, .ref z2, .int (nI iS), .int (nI sc), .int (nI sn), .int (nI mv), .int (nI sg), .ref z3, .ref z4, .ref z5, .ref z6, .ref z7, .ref z8, .ref z9, .int (nI dn), .ref z10, .ref z11, .ref z12, .ref z13, .ref z14, .int (nI gc)])), (z6, .inl (cZ, 24, .inl (fun j9 => nI (pr j9)))), (z7, .inl (cZ, 24, .inl (fun j9 => nI (gd j9))))] := hD
  refine lv_aload_n hx hb dMO_verdict_5 rfl (lv_at hl 0 rfl) ?_
  refine va_get (D := (dC, dI)) (ci := 8) (v := .int (nI iS)) (C := RMO) (T := TMO) (N := 24) hx hb hts (fun w h => List.mem_cons_of_mem _ (inMO w h)) hown hK hP 0 rfl rfl 5 (by decide) (hts _ (List.mem_cons_of_mem _ kw_514)) (fun _ h9 => h9) rfl dMO_verdict_6 ?_
  refine hr_if_ne hx hb (x := iS) (by omega) (tgt := 14) dMO_verdict_9 (by decide) (fun c_1 => ?_) (fun c_1 => ?_)
  · refine lv_iconst (v := nI 1) hx hb dMO_verdict_14 (by decide +kernel) ?_
    refine lv_istore_n (lv' := [(1, .int (nI 1)), (0, .ref hM)]) hx hb dMO_verdict_15 rfl hl (by decide) rfl (fun ls hl => ?_)
    refine lv_iconst (v := nI 1) hx hb dMO_verdict_16 (by decide +kernel) ?_
    refine lv_istore_n (lv' := [(2, .int (nI 1)), (1, .int (nI 1)), (0, .ref hM)]) hx hb dMO_verdict_17 rfl hl (by decide) rfl (fun ls hl => ?_)
    refine lv_iconst (v := nI 0) hx hb dMO_verdict_18 (by decide +kernel) ?_
    refine lv_istore_n (lv' := [(3, .int (nI 0)), (2, .int (nI 1)), (1, .int (nI 1)), (0, .ref hM)]) hx hb dMO_verdict_19 rfl hl (by decide) rfl (fun ls hl => ?_)
    have loop_20 : ∀ (n9 : Nat) (i : Nat) (s1 : Nat) (s2 : Nat), i ≤ sn → s1 = allB pr i → s2 = allB gd i → sn + 1 ≤ i + n9 → ∀ (H : Heap) (locs : List Loc), va_P (dC, dI) vwCl [(hM, .inr (8, [.int (nI 0), .int (nI k), .int (nI n), .ref z1, .ref z2, .int (nI iS), .int (nI sc), .int (nI sn), .int (nI mv), .int (nI sg), .ref z3, .ref z4, .ref z5, .ref z6, .ref z7, .ref z8, .ref z9, .int (nI dn), .ref z10, .ref z11, .ref z12, .ref z13, .ref z14, .int (nI gc)])), (z6, .inl (cZ, 24, .inl (fun j9 => nI (pr j9)))), (z7, .inl (cZ, 24, .inl (fun j9 => nI (gd j9))))] H → va_D A [(hM, .inr (8, [.int (nI 0), .int (nI k), .int (nI n), .ref z1, .ref z2, .int (nI iS), .int (nI sc), .int (nI sn), .int (nI mv), .int (nI sg), .ref z3, .ref z4, .ref z5, .ref z6, .ref z7, .ref z8, .ref z9, .int (nI dn), .ref z10, .ref z11, .ref z12, .ref z13, .ref z14, .int (nI gc)])), (z6, .inl (cZ, 24, .inl (fun j9 => nI (pr j9)))), (z7, .inl (cZ, 24, .inl (fun j9 => nI (gd j9))))] → va_S A s.heap H locs → ∀ (ls : Array Slot), lv_has ls 4 [(3, .int (nI i)), (2, .int (nI s2)), (1, .int (nI s1)), (0, .ref hM)] → W p l e R s m args below meth c H locs 0 0 Q (F0 m 20 ls []) := by
      intro n9
      induction n9 with
      | zero =>
        intro i s1 s2 hi h1 h2 hmeas
        exact absurd hmeas (by omega)
      | succ n9 ih_20 =>
        intro i s1 s2 hi h1 h2 hmeas H locs hP hD hS ls hl
        have hl1 := allB_lt pr i
        have hl2 := allB_lt gd i
        refine lv_iload_n hx hb dMO_verdict_20 rfl (lv_at hl 0 rfl) ?_
        refine lv_aload_n hx hb dMO_verdict_21 rfl (lv_at hl 3 rfl) ?_
        refine va_get (D := (dC, dI)) (ci := 8) (v := .int (nI sn)) (C := RMO) (T := TMO) (N := 24) hx hb hts (fun w h => List.mem_cons_of_mem _ (inMO w h)) hown hK hP 0 rfl rfl 7 (by decide) (hts _ (List.mem_cons_of_mem _ kw_516)) (fun _ h9 => h9) rfl dMO_verdict_22 ?_
        refine hr_icmp_ge hx hb (x := i) (y := sn) (by omega) (by omega) (tgt := 72) dMO_verdict_25 (by decide) (fun c_2 => ?_) (fun c_2 => ?_)
        · have ei : sn = i := by omega
          subst ei
          refine lv_iload_n hx hb dMO_verdict_72 rfl (lv_at hl 2 rfl) ?_
          refine hr_if_ne hx hb (x := s1) (by omega) (tgt := 80) dMO_verdict_73 (by decide) (fun c_3 => ?_) (fun c_3 => ?_)
          · refine lv_iload_n hx hb dMO_verdict_80 rfl (lv_at hl 1 rfl) ?_
            refine hr_if_eq hx hb (x := s2) (by omega) (tgt := 88) dMO_verdict_81 (by decide) (fun c_4 => ?_) (fun c_4 => ?_)
            · refine lv_iconst (v := nI 2) hx hb dMO_verdict_88 (by decide +kernel) ?_
              rw [← hQe]
              exact W.iret (v := nI 2) hx hb hr (fun t ht hW => ⟨⟨_, (), rfl, by rw [vrM, if_neg c_1, if_neg (by omega), if_pos (by omega)], by rw [ht]; exact hP, hD⟩, hS.F ht⟩) hS.2.2 dMO_verdict_89
            · refine lv_iconst (v := nI 1) hx hb dMO_verdict_84 (by decide +kernel) ?_
              refine lv_goto (tgt := 89) hx hb dMO_verdict_85 (by decide) ?_
              rw [← hQe]
              exact W.iret (v := nI 1) hx hb hr (fun t ht hW => ⟨⟨_, (), rfl, by rw [vrM, if_neg c_1, if_neg (by omega), if_neg (by omega)], by rw [ht]; exact hP, hD⟩, hS.F ht⟩) hS.2.2 dMO_verdict_89
          · refine lv_iconst (v := nI 0) hx hb dMO_verdict_76 (by decide +kernel) ?_
            refine lv_goto (tgt := 89) hx hb dMO_verdict_77 (by decide) ?_
            rw [← hQe]
            exact W.iret (v := nI 0) hx hb hr (fun t ht hW => ⟨⟨_, (), rfl, by rw [vrM, if_neg c_1, if_pos (by omega)], by rw [ht]; exact hP, hD⟩, hS.F ht⟩) hS.2.2 dMO_verdict_89
        · have hpi := hpr i (by omega)
          have hgi := hgd i (by omega)
          refine lv_iload_n hx hb dMO_verdict_28 rfl (lv_at hl 2 rfl) ?_
          refine hr_if_eq hx hb (x := s1) (by omega) (tgt := 45) dMO_verdict_29 (by decide) (fun c_5 => ?_) (fun c_5 => ?_)
          · refine lv_iconst (v := nI 0) hx hb dMO_verdict_45 (by decide +kernel) ?_
            refine lv_istore_n (lv' := [(1, .int (nI 0)), (3, .int (nI i)), (2, .int (nI s2)), (0, .ref hM)]) hx hb dMO_verdict_46 rfl hl (by decide) rfl (fun ls hl => ?_)
            refine lv_iload_n hx hb dMO_verdict_47 rfl (lv_at hl 2 rfl) ?_
            refine hr_if_eq hx hb (x := s2) (by omega) (tgt := 64) dMO_verdict_48 (by decide) (fun c_6 => ?_) (fun c_6 => ?_)
            · refine lv_iconst (v := nI 0) hx hb dMO_verdict_64 (by decide +kernel) ?_
              refine lv_istore_n (lv' := [(2, .int (nI 0)), (1, .int (nI 0)), (3, .int (nI i)), (0, .ref hM)]) hx hb dMO_verdict_65 rfl hl (by decide) rfl (fun ls hl => ?_)
              refine lv_iinc (v := nI (i + 1)) (lv' := [(3, .int (nI (i + 1))), (2, .int (nI 0)), (1, .int (nI 0)), (0, .ref hM)]) hx hb dMO_verdict_66 hl (k := 2) rfl (hr_inc _) (by decide) rfl (fun ls hl => ?_)
              refine lv_goto (tgt := 20) hx hb dMO_verdict_69 (by decide) ?_
              exact ih_20 (i + 1) 0 0 (by omega) (by rw [allB, if_pos (by omega)]) (by rw [allB, if_pos (by omega)]) (by omega) _ _ hP hD hS ls (lv_sub hl [0, 1, 2, 3] rfl)
            · refine lv_aload_n hx hb dMO_verdict_51 rfl (lv_at hl 3 rfl) ?_
              refine va_get (D := (dC, dI)) (ci := 8) (v := .ref z7) (C := RMO) (T := TMO) (N := 24) hx hb hts (fun w h => List.mem_cons_of_mem _ (inMO w h)) hown hK hP 0 rfl rfl 14 (by decide) (hts _ (List.mem_cons_of_mem _ kw_523)) (fun _ h9 => h9) rfl dMO_verdict_52 ?_
              refine lv_iload_n hx hb dMO_verdict_55 rfl (lv_at hl 1 rfl) ?_
              refine hr_zald hx hb hK hP 2 1 rfl rfl (i := i) (by omega) (by omega) dMO_verdict_56 ?_
              refine hr_if_eq hx hb (x := (gd i)) (by omega) (tgt := 64) dMO_verdict_57 (by decide) (fun c_7 => ?_) (fun c_7 => ?_)
              · refine lv_iconst (v := nI 0) hx hb dMO_verdict_64 (by decide +kernel) ?_
                refine lv_istore_n (lv' := [(2, .int (nI 0)), (1, .int (nI 0)), (3, .int (nI i)), (0, .ref hM)]) hx hb dMO_verdict_65 rfl hl (by decide) rfl (fun ls hl => ?_)
                refine lv_iinc (v := nI (i + 1)) (lv' := [(3, .int (nI (i + 1))), (2, .int (nI 0)), (1, .int (nI 0)), (0, .ref hM)]) hx hb dMO_verdict_66 hl (k := 2) rfl (hr_inc _) (by decide) rfl (fun ls hl => ?_)
                refine lv_goto (tgt := 20) hx hb dMO_verdict_69 (by decide) ?_
                exact ih_20 (i + 1) 0 0 (by omega) (by rw [allB, if_pos (by omega)]) (by rw [allB, if_neg (by omega), if_pos c_7]) (by omega) _ _ hP hD hS ls (lv_sub hl [0, 1, 2, 3] rfl)
              · refine lv_iconst (v := nI 1) hx hb dMO_verdict_60 (by decide +kernel) ?_
                refine lv_goto (tgt := 65) hx hb dMO_verdict_61 (by decide) ?_
                refine lv_istore_n (lv' := [(2, .int (nI 1)), (1, .int (nI 0)), (3, .int (nI i)), (0, .ref hM)]) hx hb dMO_verdict_65 rfl hl (by decide) rfl (fun ls hl => ?_)
                refine lv_iinc (v := nI (i + 1)) (lv' := [(3, .int (nI (i + 1))), (2, .int (nI 1)), (1, .int (nI 0)), (0, .ref hM)]) hx hb dMO_verdict_66 hl (k := 2) rfl (hr_inc _) (by decide) rfl (fun ls hl => ?_)
                refine lv_goto (tgt := 20) hx hb dMO_verdict_69 (by decide) ?_
                exact ih_20 (i + 1) 0 1 (by omega) (by rw [allB, if_pos (by omega)]) (by rw [allB, if_neg (by omega), if_neg c_7]) (by omega) _ _ hP hD hS ls (lv_sub hl [0, 1, 2, 3] rfl)
          · refine lv_aload_n hx hb dMO_verdict_32 rfl (lv_at hl 3 rfl) ?_
            refine va_get (D := (dC, dI)) (ci := 8) (v := .ref z6) (C := RMO) (T := TMO) (N := 24) hx hb hts (fun w h => List.mem_cons_of_mem _ (inMO w h)) hown hK hP 0 rfl rfl 13 (by decide) (hts _ (List.mem_cons_of_mem _ kw_522)) (fun _ h9 => h9) rfl dMO_verdict_33 ?_
            refine lv_iload_n hx hb dMO_verdict_36 rfl (lv_at hl 0 rfl) ?_
            refine hr_zald hx hb hK hP 1 1 rfl rfl (i := i) (by omega) (by omega) dMO_verdict_37 ?_
            refine hr_if_eq hx hb (x := (pr i)) (by omega) (tgt := 45) dMO_verdict_38 (by decide) (fun c_8 => ?_) (fun c_8 => ?_)
            · refine lv_iconst (v := nI 0) hx hb dMO_verdict_45 (by decide +kernel) ?_
              refine lv_istore_n (lv' := [(1, .int (nI 0)), (3, .int (nI i)), (2, .int (nI s2)), (0, .ref hM)]) hx hb dMO_verdict_46 rfl hl (by decide) rfl (fun ls hl => ?_)
              refine lv_iload_n hx hb dMO_verdict_47 rfl (lv_at hl 2 rfl) ?_
              refine hr_if_eq hx hb (x := s2) (by omega) (tgt := 64) dMO_verdict_48 (by decide) (fun c_9 => ?_) (fun c_9 => ?_)
              · refine lv_iconst (v := nI 0) hx hb dMO_verdict_64 (by decide +kernel) ?_
                refine lv_istore_n (lv' := [(2, .int (nI 0)), (1, .int (nI 0)), (3, .int (nI i)), (0, .ref hM)]) hx hb dMO_verdict_65 rfl hl (by decide) rfl (fun ls hl => ?_)
                refine lv_iinc (v := nI (i + 1)) (lv' := [(3, .int (nI (i + 1))), (2, .int (nI 0)), (1, .int (nI 0)), (0, .ref hM)]) hx hb dMO_verdict_66 hl (k := 2) rfl (hr_inc _) (by decide) rfl (fun ls hl => ?_)
                refine lv_goto (tgt := 20) hx hb dMO_verdict_69 (by decide) ?_
                exact ih_20 (i + 1) 0 0 (by omega) (by rw [allB, if_neg (by omega), if_pos c_8]) (by rw [allB, if_pos (by omega)]) (by omega) _ _ hP hD hS ls (lv_sub hl [0, 1, 2, 3] rfl)
              · refine lv_aload_n hx hb dMO_verdict_51 rfl (lv_at hl 3 rfl) ?_
                refine va_get (D := (dC, dI)) (ci := 8) (v := .ref z7) (C := RMO) (T := TMO) (N := 24) hx hb hts (fun w h => List.mem_cons_of_mem _ (inMO w h)) hown hK hP 0 rfl rfl 14 (by decide) (hts _ (List.mem_cons_of_mem _ kw_523)) (fun _ h9 => h9) rfl dMO_verdict_52 ?_
                refine lv_iload_n hx hb dMO_verdict_55 rfl (lv_at hl 1 rfl) ?_
                refine hr_zald hx hb hK hP 2 1 rfl rfl (i := i) (by omega) (by omega) dMO_verdict_56 ?_
                refine hr_if_eq hx hb (x := (gd i)) (by omega) (tgt := 64) dMO_verdict_57 (by decide) (fun c_10 => ?_) (fun c_10 => ?_)
                · refine lv_iconst (v := nI 0) hx hb dMO_verdict_64 (by decide +kernel) ?_
                  refine lv_istore_n (lv' := [(2, .int (nI 0)), (1, .int (nI 0)), (3, .int (nI i)), (0, .ref hM)]) hx hb dMO_verdict_65 rfl hl (by decide) rfl (fun ls hl => ?_)
                  refine lv_iinc (v := nI (i + 1)) (lv' := [(3, .int (nI (i + 1))), (2, .int (nI 0)), (1, .int (nI 0)), (0, .ref hM)]) hx hb dMO_verdict_66 hl (k := 2) rfl (hr_inc _) (by decide) rfl (fun ls hl => ?_)
                  refine lv_goto (tgt := 20) hx hb dMO_verdict_69 (by decide) ?_
                  exact ih_20 (i + 1) 0 0 (by omega) (by rw [allB, if_neg (by omega), if_pos c_8]) (by rw [allB, if_neg (by omega), if_pos c_10]) (by omega) _ _ hP hD hS ls (lv_sub hl [0, 1, 2, 3] rfl)
                · refine lv_iconst (v := nI 1) hx hb dMO_verdict_60 (by decide +kernel) ?_
                  refine lv_goto (tgt := 65) hx hb dMO_verdict_61 (by decide) ?_
                  refine lv_istore_n (lv' := [(2, .int (nI 1)), (1, .int (nI 0)), (3, .int (nI i)), (0, .ref hM)]) hx hb dMO_verdict_65 rfl hl (by decide) rfl (fun ls hl => ?_)
                  refine lv_iinc (v := nI (i + 1)) (lv' := [(3, .int (nI (i + 1))), (2, .int (nI 1)), (1, .int (nI 0)), (0, .ref hM)]) hx hb dMO_verdict_66 hl (k := 2) rfl (hr_inc _) (by decide) rfl (fun ls hl => ?_)
                  refine lv_goto (tgt := 20) hx hb dMO_verdict_69 (by decide) ?_
                  exact ih_20 (i + 1) 0 1 (by omega) (by rw [allB, if_neg (by omega), if_pos c_8]) (by rw [allB, if_neg (by omega), if_neg c_10]) (by omega) _ _ hP hD hS ls (lv_sub hl [0, 1, 2, 3] rfl)
            · refine lv_iconst (v := nI 1) hx hb dMO_verdict_41 (by decide +kernel) ?_
              refine lv_goto (tgt := 46) hx hb dMO_verdict_42 (by decide) ?_
              refine lv_istore_n (lv' := [(1, .int (nI 1)), (3, .int (nI i)), (2, .int (nI s2)), (0, .ref hM)]) hx hb dMO_verdict_46 rfl hl (by decide) rfl (fun ls hl => ?_)
              refine lv_iload_n hx hb dMO_verdict_47 rfl (lv_at hl 2 rfl) ?_
              refine hr_if_eq hx hb (x := s2) (by omega) (tgt := 64) dMO_verdict_48 (by decide) (fun c_11 => ?_) (fun c_11 => ?_)
              · refine lv_iconst (v := nI 0) hx hb dMO_verdict_64 (by decide +kernel) ?_
                refine lv_istore_n (lv' := [(2, .int (nI 0)), (1, .int (nI 1)), (3, .int (nI i)), (0, .ref hM)]) hx hb dMO_verdict_65 rfl hl (by decide) rfl (fun ls hl => ?_)
                refine lv_iinc (v := nI (i + 1)) (lv' := [(3, .int (nI (i + 1))), (2, .int (nI 0)), (1, .int (nI 1)), (0, .ref hM)]) hx hb dMO_verdict_66 hl (k := 2) rfl (hr_inc _) (by decide) rfl (fun ls hl => ?_)
                refine lv_goto (tgt := 20) hx hb dMO_verdict_69 (by decide) ?_
                exact ih_20 (i + 1) 1 0 (by omega) (by rw [allB, if_neg (by omega), if_neg c_8]) (by rw [allB, if_pos (by omega)]) (by omega) _ _ hP hD hS ls (lv_sub hl [0, 1, 2, 3] rfl)
              · refine lv_aload_n hx hb dMO_verdict_51 rfl (lv_at hl 3 rfl) ?_
                refine va_get (D := (dC, dI)) (ci := 8) (v := .ref z7) (C := RMO) (T := TMO) (N := 24) hx hb hts (fun w h => List.mem_cons_of_mem _ (inMO w h)) hown hK hP 0 rfl rfl 14 (by decide) (hts _ (List.mem_cons_of_mem _ kw_523)) (fun _ h9 => h9) rfl dMO_verdict_52 ?_
                refine lv_iload_n hx hb dMO_verdict_55 rfl (lv_at hl 1 rfl) ?_
                refine hr_zald hx hb hK hP 2 1 rfl rfl (i := i) (by omega) (by omega) dMO_verdict_56 ?_
                refine hr_if_eq hx hb (x := (gd i)) (by omega) (tgt := 64) dMO_verdict_57 (by decide) (fun c_12 => ?_) (fun c_12 => ?_)
                · refine lv_iconst (v := nI 0) hx hb dMO_verdict_64 (by decide +kernel) ?_
                  refine lv_istore_n (lv' := [(2, .int (nI 0)), (1, .int (nI 1)), (3, .int (nI i)), (0, .ref hM)]) hx hb dMO_verdict_65 rfl hl (by decide) rfl (fun ls hl => ?_)
                  refine lv_iinc (v := nI (i + 1)) (lv' := [(3, .int (nI (i + 1))), (2, .int (nI 0)), (1, .int (nI 1)), (0, .ref hM)]) hx hb dMO_verdict_66 hl (k := 2) rfl (hr_inc _) (by decide) rfl (fun ls hl => ?_)
                  refine lv_goto (tgt := 20) hx hb dMO_verdict_69 (by decide) ?_
                  exact ih_20 (i + 1) 1 0 (by omega) (by rw [allB, if_neg (by omega), if_neg c_8]) (by rw [allB, if_neg (by omega), if_pos c_12]) (by omega) _ _ hP hD hS ls (lv_sub hl [0, 1, 2, 3] rfl)
                · refine lv_iconst (v := nI 1) hx hb dMO_verdict_60 (by decide +kernel) ?_
                  refine lv_goto (tgt := 65) hx hb dMO_verdict_61 (by decide) ?_
                  refine lv_istore_n (lv' := [(2, .int (nI 1)), (1, .int (nI 1)), (3, .int (nI i)), (0, .ref hM)]) hx hb dMO_verdict_65 rfl hl (by decide) rfl (fun ls hl => ?_)
                  refine lv_iinc (v := nI (i + 1)) (lv' := [(3, .int (nI (i + 1))), (2, .int (nI 1)), (1, .int (nI 1)), (0, .ref hM)]) hx hb dMO_verdict_66 hl (k := 2) rfl (hr_inc _) (by decide) rfl (fun ls hl => ?_)
                  refine lv_goto (tgt := 20) hx hb dMO_verdict_69 (by decide) ?_
                  exact ih_20 (i + 1) 1 1 (by omega) (by rw [allB, if_neg (by omega), if_neg c_8]) (by rw [allB, if_neg (by omega), if_neg c_12]) (by omega) _ _ hP hD hS ls (lv_sub hl [0, 1, 2, 3] rfl)
    exact loop_20 (sn + 1) 0 1 1 (by omega) (rfl) (rfl) (by omega) _ _ hP hD hS ls (lv_sub hl [0, 1, 2, 3] rfl)
  · refine lv_iconst (v := (-1)) hx hb dMO_verdict_12 (by decide +kernel) ?_
    rw [← hQe]
    exact W.iret (v := (-1)) hx hb hr (fun t ht hW => ⟨⟨_, (), rfl, by rw [vrM, if_pos c_1], by rw [ht]; exact hP, hD⟩, hS.F ht⟩) hS.2.2 dMO_verdict_13
