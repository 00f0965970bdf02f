set_option maxHeartbeats 400000 in
set_option maxRecDepth 100000 in
/-- isTest -/
theorem c_MO_isTest (l : Launch) (dC : Nat → ClassId) (dI : Nat → Nat → Nat) (cI cZ cG : ClassId) (hM : Nat) (z1 : Nat) (z2 : Nat) (z3 : Nat) (z4 : Nat) (z5 : Nat) (z6 : Nat) (z7 : Nat) (z8 : Nat) (z9 : Nat) (z10 : Nat) (z11 : Nat) (z12 : Nat) (z13 : Nat) (z14 : Nat) (th : Nat) (k : Nat) (n : Nat) (iS : Nat) (sc : Nat) (sn : Nat) (mv : Nat) (sg : Nat) (dn : Nat) (gc : Nat) (x : Int32) (hn : n ≤ 24) : Met l yMO_isTest wsMO_isTest ({ frames := 0, cells := 0, slots := 0, locals := 0 }) (va_Pc [.ref hM, .int x] (fun U => va_P (dC, dI) vwCl [(hM, .inr (8, [.int (nI th), .int (nI k), .int (nI n), .ref z1, .ref z2, .int (nI iS), .int (nI sc), .int (nI sn), .int (nI mv), .int (nI sg), .ref z3, .ref z4, .ref z5, .ref z6, .ref z7, .ref z8, .ref z9, .int (nI dn), .ref z10, .ref z11, .ref z12, .ref z13, .ref z14, .int (nI gc)]))] U.heap ∧ KX dC dI cI cZ cG U)) (vp_Si (fun r => r = nI (inB x n))) 0 0 (fun _ => False) := by
  refine Met.ofW (cc := cMO_isTest) (maxL := 2) (ret := (some .boolean)) (by decide) rfl ?_
  intro p e s m args below meth c s₁ B hml hv
  obtain ⟨rfl, hP, hKX⟩ := hv
  have hK := hKX.1
  have hx := B.exec
  have hb := B.bytes
  have hr := B.returns
  have hts := atoms_spec (ws := wsMO_isTest) B.pre
  have hown : s.vm.findClass RMO = some m.cls := findClass_of_methodNamed B.named
  have hlocks := B.notSynchronized
  have hl := lv_entry ([.ref hM, .int x]) (n := 2) (Nat.le_of_ble_eq_true rfl)
  rw [lg_entry_eq]
  generalize (lg_sl ([.ref hM, .int x]) ++ List.replicate (2 - (lg_sl ([.ref hM, .int x])).length) Slot.unset).toArray = ls at hl ⊢
  have hl : lv_has ls 2 [(0, .ref hM), (1, .int x)] := hl
  generalize hRe : (headSpec wsMO_isTest ({ frames := 0, cells := 0, slots := 0, locals := 0 })).room = R
  have hRf : 0 ≤ R.frames := by rw [← hRe]; exact Nat.le_refl _
  have hRl : 0 ≤ R.locals := by rw [← hRe]; exact Nat.le_refl _
  have hRc : 0 ≤ R.cells := by rw [← hRe]; exact Nat.le_refl _
  have hRs : 0 ≤ R.slots := by rw [← hRe]; exact Nat.le_refl _
  generalize hargs : (List.toArray [.ref hM, .int x] : Array Value) = args at hts ⊢
  generalize hQe : MQ below _ args s _ _ _ = Q
  refine lv_iload_n hx hb dMO_isTest_0 rfl (lv_at hl 1 rfl) ?_
  refine lv_if_lt (tgt := 16) hx hb dMO_isTest_1 (by decide) (fun c_1 => ?_) (fun c_1 => ?_)
  · refine lv_iconst (v := nI 0) hx hb dMO_isTest_16 (by decide +kernel) ?_
    rw [← hQe]
    exact W.zret (ty := .boolean) (v := nI 0) hx hb hr (by decide +kernel) (fun t ht hW => ⟨_, rfl, by rw [inB_neg c_1], by rw [ht]⟩) (fun q h => by cases h) dMO_isTest_17
  · refine lv_iload_n hx hb dMO_isTest_4 rfl (lv_at hl 1 rfl) ?_
    refine lv_aload_n hx hb dMO_isTest_5 rfl (lv_at hl 0 rfl) ?_
    refine va_get (D := (dC, dI)) (ci := 8) (v := .int (nI n)) (C := RMO) (T := TMO) (N := 24) hx hb hts (fun w h => List.mem_cons_of_mem _ (inMO w h)) hown hK hP 0 rfl rfl 2 (by decide) (hts _ (List.mem_cons_of_mem _ kw_511)) (fun _ h9 => h9) rfl dMO_isTest_6 ?_
    refine lv_icmp_ge (tgt := 16) hx hb dMO_isTest_9 (by decide) (fun c_2 => ?_) (fun c_2 => ?_)
    · refine lv_iconst (v := nI 0) hx hb dMO_isTest_16 (by decide +kernel) ?_
      rw [← hQe]
      exact W.zret (ty := .boolean) (v := nI 0) hx hb hr (by decide +kernel) (fun t ht hW => ⟨_, rfl, by rw [inB_big c_1 c_2], by rw [ht]⟩) (fun q h => by cases h) dMO_isTest_17
    · refine lv_iconst (v := nI 1) hx hb dMO_isTest_12 (by decide +kernel) ?_
      refine lv_goto (tgt := 17) hx hb dMO_isTest_13 (by decide) ?_
      rw [← hQe]
      exact W.zret (ty := .boolean) (v := nI 1) hx hb hr (by decide +kernel) (fun t ht hW => ⟨_, rfl, by rw [inB_in c_1 c_2], by rw [ht]⟩) (fun q h => by cases h) dMO_isTest_17

set_option maxHeartbeats 400000 in
set_option maxRecDepth 100000 in
/-- isTime -/
theorem c_MO_isTime (l : Launch) (dC : Nat → ClassId) (dI : Nat → Nat → Nat) (cI cZ cG : ClassId) (x : Int32) : Met l yMO_isTime wsMO_isTime ({ frames := 0, cells := 0, slots := 0, locals := 0 }) (va_Pc [.int x] (fun U => va_P (dC, dI) vwCl [] U.heap ∧ KX dC dI cI cZ cG U)) (vp_Si (fun r => r = nI (inB x 100001))) 0 0 (fun _ => False) := by
  refine Met.ofW (cc := cMO_isTime) (maxL := 1) (ret := (some .boolean)) (by decide) rfl ?_
  intro p e s m args below meth c s₁ B hml hv
  obtain ⟨rfl, hP, hKX⟩ := hv
  have hK := hKX.1
  have hx := B.exec
  have hb := B.bytes
  have hr := B.returns
  have hts := atoms_spec (ws := wsMO_isTime) B.pre
  have hown : s.vm.findClass RMO = some m.cls := findClass_of_methodNamed B.named
  have hlocks := B.notSynchronized
  have hl := lv_entry ([.int x]) (n := 1) (Nat.le_of_ble_eq_true rfl)
  rw [lg_entry_eq]
  generalize (lg_sl ([.int x]) ++ List.replicate (1 - (lg_sl ([.int x])).length) Slot.unset).toArray = ls at hl ⊢
  have hl : lv_has ls 1 [(0, .int x)] := hl
  generalize hRe : (headSpec wsMO_isTime ({ frames := 0, cells := 0, slots := 0, locals := 0 })).room = R
  have hRf : 0 ≤ R.frames := by rw [← hRe]; exact Nat.le_refl _
  have hRl : 0 ≤ R.locals := by rw [← hRe]; exact Nat.le_refl _
  have hRc : 0 ≤ R.cells := by rw [← hRe]; exact Nat.le_refl _
  have hRs : 0 ≤ R.slots := by rw [← hRe]; exact Nat.le_refl _
  generalize hargs : (List.toArray [.int x] : Array Value) = args at hts ⊢
  generalize hQe : MQ below _ args s _ _ _ = Q
  refine lv_iload_n hx hb dMO_isTime_0 rfl (lv_at hl 0 rfl) ?_
  refine lv_if_lt (tgt := 14) hx hb dMO_isTime_1 (by decide) (fun c_1 => ?_) (fun c_1 => ?_)
  · refine lv_iconst (v := nI 0) hx hb dMO_isTime_14 (by decide +kernel) ?_
    rw [← hQe]
    exact W.zret (ty := .boolean) (v := nI 0) hx hb hr (by decide +kernel) (fun t ht hW => ⟨_, rfl, by rw [inB_neg c_1], by rw [ht]⟩) (fun q h => by cases h) dMO_isTime_15
  · refine lv_iload_n hx hb dMO_isTime_4 rfl (lv_at hl 0 rfl) ?_
    refine lv_ldc (v := 100000) hx hb hown (hts (.constant RMO 63 100000) (by decide +kernel)) dMO_isTime_5 ?_
    refine hr_eqi (show (100000 : Int32) = nI 100000 by decide +kernel) ?_
    refine lv_icmp_gt (tgt := 14) hx hb dMO_isTime_7 (by decide) (fun c_2 => ?_) (fun c_2 => ?_)
    · refine lv_iconst (v := nI 0) hx hb dMO_isTime_14 (by decide +kernel) ?_
      rw [← hQe]
      exact W.zret (ty := .boolean) (v := nI 0) hx hb hr (by decide +kernel) (fun t ht hW => ⟨_, rfl, by rw [inB_big c_1 (inB_gt (by decide) c_2)], by rw [ht]⟩) (fun q h => by cases h) dMO_isTime_15
    · refine lv_iconst (v := nI 1) hx hb dMO_isTime_10 (by decide +kernel) ?_
      refine lv_goto (tgt := 15) hx hb dMO_isTime_11 (by decide) ?_
      rw [← hQe]
      exact W.zret (ty := .boolean) (v := nI 1) hx hb hr (by decide +kernel) (fun t ht hW => ⟨_, rfl, by rw [inB_in c_1 (inB_ngt (by decide) c_2)], by rw [ht]⟩) (fun q h => by cases h) dMO_isTime_15

set_option maxHeartbeats 400000 in
set_option maxRecDepth 100000 in
/-- test -/
theorem c_MO_test (l : Launch) (dC : Nat → ClassId) (dI : Nat → Nat → Nat) (cI cZ cG : ClassId) (hM : Nat) (z1 : Nat) (z2 : Nat) (z3 : Nat) (z4 : Nat) (z5 : Nat) (z6 : Nat) (z7 : Nat) (z8 : Nat) (z9 : Nat) (z10 : Nat) (z11 : Nat) (z12 : Nat) (z13 : Nat) (z14 : Nat) (th : Nat) (k : Nat) (n : Nat) (iS : Nat) (sc : Nat) (sn : Nat) (mv : Nat) (sg : Nat) (dn : Nat) (gc : Nat) (tf : Nat → Nat) (ff : Nat → Nat) (x : Int32) (sz : Nat) (hn : n ≤ 24) : Met l yMO_test wsMO_test ({ frames := 1, cells := 0, slots := 0, locals := 20 }) (va_Pc [.ref hM, .int x] (fun U => U.heap.size = sz ∧ va_P (dC, dI) vwCl [(hM, .inr (8, [.int (nI th), .int (nI k), .int (nI n), .ref z1, .ref z2, .int (nI iS), .int (nI sc), .int (nI sn), .int (nI mv), .int (nI sg), .ref z3, .ref z4, .ref z5, .ref z6, .ref z7, .ref z8, .ref z9, .int (nI dn), .ref z10, .ref z11, .ref z12, .ref z13, .ref z14, .int (nI gc)])), (z1, .inl (cI, 24, .inl (fun j9 => nI (tf j9)))), (z2, .inl (cI, 24, .inl (fun j9 => nI (ff j9))))] U.heap ∧ KX dC dI cI cZ cG U ∧ va_D (fun _ => True) [(hM, .inr (8, [.int (nI th), .int (nI k), .int (nI n), .ref z1, .ref z2, .int (nI iS), .int (nI sc), .int (nI sn), .int (nI mv), .int (nI sg), .ref z3, .ref z4, .ref z5, .ref z6, .ref z7, .ref z8, .ref z9, .int (nI dn), .ref z10, .ref z11, .ref z12, .ref z13, .ref z14, .int (nI gc)])), (z1, .inl (cI, 24, .inl (fun j9 => nI (tf j9)))), (z2, .inl (cI, 24, .inl (fun j9 => nI (ff j9))))])) (va_Qi (fun (r : Int32) (u : Unit) => r = ((addN n x).elim (-1) (fun _ => nI n))) (fun u t => va_P (dC, dI) vwCl [(hM, .inr (8, [.int (nI 0), .int (nI k), .int (nI ((addN n x).elim n (fun _ => n + 1))), .ref z1, .ref z2, .int (nI iS), .int (nI sc), .int (nI sn), .int (nI mv), .int (nI sg), .ref z3, .ref z4, .ref z5, .ref z6, .ref z7, .ref z8, .ref z9, .int (nI dn), .ref z10, .ref z11, .ref z12, .ref z13, .ref z14, .int (nI gc)])), (z1, .inl (cI, 24, .inl (fun j9 => nI (((addN n x).elim tf (va_up tf n)) j9)))), (z2, .inl (cI, 24, .inl (fun j9 => nI (((addN n x).elim ff (fun _ => va_up ff n n)) j9))))] t.heap ∧ va_D (va_A [(hM, .inr (8, [.int (nI th), .int (nI k), .int (nI n), .ref z1, .ref z2, .int (nI iS), .int (nI sc), .int (nI sn), .int (nI mv), .int (nI sg), .ref z3, .ref z4, .ref z5, .ref z6, .ref z7, .ref z8, .ref z9, .int (nI dn), .ref z10, .ref z11, .ref z12, .ref z13, .ref z14, .int (nI gc)])), (z1, .inl (cI, 24, .inl (fun j9 => nI (tf j9)))), (z2, .inl (cI, 24, .inl (fun j9 => nI (ff j9))))] sz) [(hM, .inr (8, [.int (nI 0), .int (nI k), .int (nI ((addN n x).elim n (fun _ => n + 1))), .ref z1, .ref z2, .int (nI iS), .int (nI sc), .int (nI sn), .int (nI mv), .int (nI sg), .ref z3, .ref z4, .ref z5, .ref z6, .ref z7, .ref z8, .ref z9, .int (nI dn), .ref z10, .ref z11, .ref z12, .ref z13, .ref z14, .int (nI gc)])), (z1, .inl (cI, 24, .inl (fun j9 => nI (((addN n x).elim tf (va_up tf n)) j9)))), (z2, .inl (cI, 24, .inl (fun j9 => nI (((addN n x).elim ff (fun _ => va_up ff n n)) j9))))]) (va_A [(hM, .inr (8, [.int (nI th), .int (nI k), .int (nI n), .ref z1, .ref z2, .int (nI iS), .int (nI sc), .int (nI sn), .int (nI mv), .int (nI sg), .ref z3, .ref z4, .ref z5, .ref z6, .ref z7, .ref z8, .ref z9, .int (nI dn), .ref z10, .ref z11, .ref z12, .ref z13, .ref z14, .int (nI gc)])), (z1, .inl (cI, 24, .inl (fun j9 => nI (tf j9)))), (z2, .inl (cI, 24, .inl (fun j9 => nI (ff j9))))] sz)) 0 0 (va_A [(hM, .inr (8, [.int (nI th), .int (nI k), .int (nI n), .ref z1, .ref z2, .int (nI iS), .int (nI sc), .int (nI sn), .int (nI mv), .int (nI sg), .ref z3, .ref z4, .ref z5, .ref z6, .ref z7, .ref z8, .ref z9, .int (nI dn), .ref z10, .ref z11, .ref z12, .ref z13, .ref z14, .int (nI gc)])), (z1, .inl (cI, 24, .inl (fun j9 => nI (tf j9)))), (z2, .inl (cI, 24, .inl (fun j9 => nI (ff j9))))] sz) := by
  refine Met.ofW (cc := cMO_test) (maxL := 2) (ret := (some .int)) (by decide) rfl ?_
  intro p e s m args below meth c s₁ B hml hv
  obtain ⟨rfl, hsz, hP, hKX, hD0⟩ := hv
  have hK := hKX.1
  have hx := B.exec
  have hb := B.bytes
  have hr := B.returns
  have hts := atoms_spec (ws := wsMO_test) B.pre
  have hown : s.vm.findClass RMO = some m.cls := findClass_of_methodNamed B.named
  have hlocks := B.notSynchronized
  subst hsz
  have hD := hD0.self (sz := s.heap.size)
  generalize hAe : va_A [(hM, .inr (8, [.int (nI th), .int (nI k), .int (nI n), .ref z1, .ref z2, .int (nI iS), .int (nI sc), .int (nI sn), .int (nI mv), .int (nI sg), .ref z3, .ref z4, .ref z5, .ref z6, .ref z7, .ref z8, .ref z9, .int (nI dn), .ref z10, .ref z11, .ref z12, .ref z13, .ref z14, .int (nI gc)])), (z1, .inl (cI, 24, .inl (fun j9 => nI (tf j9)))), (z2, .inl (cI, 24, .inl (fun j9 => nI (ff j9))))] s.heap.size = A at hD ⊢
  have hA : ∀ q : Nat, s.heap.size ≤ q → A q := fun q h => by rw [← hAe]; exact Or.inr h
  have hS : va_S A s.heap s.heap [] := va_S.rf
  have hl := lv_entry ([.ref hM, .int x]) (n := 2) (Nat.le_of_ble_eq_true rfl)
  rw [lg_entry_eq]
  generalize (lg_sl ([.ref hM, .int x]) ++ List.replicate (2 - (lg_sl ([.ref hM, .int x])).length) Slot.unset).toArray = ls at hl ⊢
  have hl : lv_has ls 2 [(0, .ref hM), (1, .int x)] := hl
  generalize hRe : (headSpec wsMO_test ({ frames := 1, cells := 0, slots := 0, locals := 20 })).room = R
  have hRf : 1 ≤ R.frames := by rw [← hRe]; exact Nat.le_refl _
  have hRl : 20 ≤ R.locals := by rw [← hRe]; exact Nat.le_refl _
  have hRc : 0 ≤ R.cells := by rw [← hRe]; exact Nat.le_refl _
  have hRs : 0 ≤ R.slots := by rw [← hRe]; exact Nat.le_refl _
  generalize hargs : (List.toArray [.ref hM, .int x] : Array Value) = args at hts ⊢
  generalize hQe : MQ below _ args s _ _ _ = Q
  refine lv_aload_n hx hb dMO_test_0 rfl (lv_at hl 0 rfl) ?_
  refine lv_iconst (v := nI 0) hx hb dMO_test_1 (by decide +kernel) ?_
  refine va_put (D := (dC, dI)) (ci := 8) (v := .int (nI 0)) (ty := .int) (C := RMO) (T := TMO) (N := 24) hx hb hts (fun w h => List.mem_cons_of_mem _ (inMO w h)) tyMO tyMO_ok nmMO hown hK hP hD hS 0 rfl rfl 0 (by decide) (hts _ (List.mem_cons_of_mem _ kw_509)) (fun _ h9 => h9) rfl (by decide +kernel) rfl rfl (Nat.le_of_ble_eq_true rfl) dMO_test_2 (fun H locs hP hD hS => ?_)
  have hP : va_P (dC, dI) vwCl [(hM, .inr (8, [.int (nI 0), .int (nI k), .int (nI n), .ref z1, .ref z2, .int (nI iS), .int (nI sc), .int (nI sn), .int (nI mv), .int (nI sg), .ref z3, .ref z4, .ref z5, .ref z6, .ref z7, .ref z8, .ref z9, .int (nI dn), .ref z10, .ref z11, .ref z12, .ref z13, .ref z14, .int (nI gc)])), (z1, .inl (cI, 24, .inl (fun j9 => nI (tf j9)))), (z2, .inl (cI, 24, .inl (fun j9 => nI (ff j9))))] H := hP
  have hD : va_D A [(hM, .inr (8, [.int (nI 0), .int (nI k), .int (nI n), .ref z1, .ref z2, .int (nI iS), .int (nI sc), .int (nI sn), .int (nI mv), .int (nI sg), .ref z3, .ref z4, .ref z5, .ref z6, .ref z7, .ref z8, .ref z9, .int (nI dn), .ref z10, .ref z11, .ref z12, .ref z13, .ref z14, .int (nI gc)])), (z1, .inl (cI, 24, .inl (fun j9 => nI (tf j9)))), (z2, .inl (cI, 24, .inl (fun j9 => nI (ff j9))))] := hD
  refine lv_aload_n hx hb dMO_test_5 rfl (lv_at hl 0 rfl) ?_
  refine va_get (D := (dC, dI)) (ci := 8) (v := .int (nI n)) (C := RMO) (T := TMO) (N := 24) hx hb hts (fun w h => List.mem_cons_of_mem _ (inMO w h)) hown hK hP 0 rfl rfl 2 (by decide) (hts _ (List.mem_cons_of_mem _ kw_511)) (fun _ h9 => h9) rfl dMO_test_6 ?_
  refine lv_bipush (v := nI 24) hx hb dMO_test_9 (by decide +kernel) ?_
  refine hr_icmp_eq hx hb (x := n) (y := 24) (by omega) (by omega) (tgt := 21) dMO_test_11 (by decide) (fun c_1 => ?_) (fun c_1 => ?_)
  · refine lv_iconst (v := (-1)) hx hb dMO_test_21 (by decide +kernel) ?_
    have ez : addN n x = none := by simp [addN, show ¬ n < 24 by omega]
    rw [← hQe]
    exact W.iret (v := (-1)) hx hb hr (fun t ht hW => ⟨⟨_, (), rfl, by rw [ez]; first | rfl | simp, by rw [ht, ez]; exact hP, by rw [ez]; exact hD⟩, hS.F ht⟩) hS.2.2 dMO_test_22
  · have hn24 : n < 24 := by omega
    refine lv_iload_n hx hb dMO_test_14 rfl (lv_at hl 1 rfl) ?_
    refine vp_callSi (va_runS (As := [.int x]) (rest := []) ⟨hx, hb, hml, hown, hts⟩ (c_MO_isTime l dC dI cI cZ cG x) (hr_cwS 1 hts kw_586 kw_587 kw_33 kw_588 (by decide +kernel) (by rw [← hRe]; exact ⟨Nat.le_of_ble_eq_true rfl, Nat.le_of_ble_eq_true rfl⟩)) (hr_preRS hKX hP [] rfl) rfl rfl hl.1 rfl (lv_room (Nat.le_of_ble_eq_true rfl)) dMO_test_15 ⟨by omega, by omega⟩).run (fun rv hrv => ?_)
    refine hr_eqi hrv ?_
    have hb1 := inB_lt x 100001
    refine hr_if_ne hx hb (x := inB x 100001) (by omega) (tgt := 23) dMO_test_18 (by decide) (fun c_2 => ?_) (fun c_2 => ?_)
    · obtain ⟨τ, hτ, rfl⟩ := inB_pos (by decide) c_2
      refine lv_aload_n hx hb dMO_test_23 rfl (lv_at hl 0 rfl) ?_
      refine va_get (D := (dC, dI)) (ci := 8) (v := .ref z1) (C := RMO) (T := TMO) (N := 24) hx hb hts (fun w h => List.mem_cons_of_mem _ (inMO w h)) hown hK hP 0 rfl rfl 3 (by decide) (hts _ (List.mem_cons_of_mem _ kw_512)) (fun _ h9 => h9) rfl dMO_test_24 ?_
      refine lv_aload_n hx hb dMO_test_27 rfl (lv_at hl 0 rfl) ?_
      refine va_get (D := (dC, dI)) (ci := 8) (v := .int (nI n)) (C := RMO) (T := TMO) (N := 24) hx hb hts (fun w h => List.mem_cons_of_mem _ (inMO w h)) hown hK hP 0 rfl rfl 2 (by decide) (hts _ (List.mem_cons_of_mem _ kw_511)) (fun _ h9 => h9) rfl dMO_test_28 ?_
      refine lv_iload_n hx hb dMO_test_31 rfl (lv_at hl 1 rfl) ?_
      refine hr_iastN hx hb hK hP hD hS 1 0 rfl rfl (i := n) (by omega) (by omega) dMO_test_32 (fun H locs hP hD hS => ?_)
      have hP : va_P (dC, dI) vwCl [(hM, .inr (8, [.int (nI 0), .int (nI k), .int (nI n), .ref z1, .ref z2, .int (nI iS), .int (nI sc), .int (nI sn), .int (nI mv), .int (nI sg), .ref z3, .ref z4, .ref z5, .ref z6, .ref z7, .ref z8, .ref z9, .int (nI dn), .ref z10, .ref z11, .ref z12, .ref z13, .ref z14, .int (nI gc)])), (z1, .inl (cI, 24, .inl (fun j9 => nI ((va_up tf n τ) j9)))), (z2, .inl (cI, 24, .inl (fun j9 => nI (ff j9))))] H := hP
      have hD : va_D A [(hM, .inr (8, [.int (nI 0), .int (nI k), .int (nI n), .ref z1, .ref z2, .int (nI iS), .int (nI sc), .int (nI sn), .int (nI mv), .int (nI sg), .ref z3, .ref z4, .ref z5, .ref z6, .ref z7, .ref z8, .ref z9, .int (nI dn), .ref z10, .ref z11, .ref z12, .ref z13, .ref z14, .int (nI gc)])), (z1, .inl (cI, 24, .inl (fun j9 => nI ((va_up tf n τ) j9)))), (z2, .inl (cI, 24, .inl (fun j9 => nI (ff j9))))] := hD
      refine lv_aload_n hx hb dMO_test_33 rfl (lv_at hl 0 rfl) ?_
      refine va_get (D := (dC, dI)) (ci := 8) (v := .ref z2) (C := RMO) (T := TMO) (N := 24) hx hb hts (fun w h => List.mem_cons_of_mem _ (inMO w h)) hown hK hP 0 rfl rfl 4 (by decide) (hts _ (List.mem_cons_of_mem _ kw_513)) (fun _ h9 => h9) rfl dMO_test_34 ?_
      refine lv_aload_n hx hb dMO_test_37 rfl (lv_at hl 0 rfl) ?_
      refine va_get (D := (dC, dI)) (ci := 8) (v := .int (nI n)) (C := RMO) (T := TMO) (N := 24) hx hb hts (fun w h => List.mem_cons_of_mem _ (inMO w h)) hown hK hP 0 rfl rfl 2 (by decide) (hts _ (List.mem_cons_of_mem _ kw_511)) (fun _ h9 => h9) rfl dMO_test_38 ?_
      refine lv_aload_n hx hb dMO_test_41 rfl (lv_at hl 0 rfl) ?_
      refine va_get (D := (dC, dI)) (ci := 8) (v := .int (nI n)) (C := RMO) (T := TMO) (N := 24) hx hb hts (fun w h => List.mem_cons_of_mem _ (inMO w h)) hown hK hP 0 rfl rfl 2 (by decide) (hts _ (List.mem_cons_of_mem _ kw_511)) (fun _ h9 => h9) rfl dMO_test_42 ?_
      refine hr_iastN hx hb hK hP hD hS 2 0 rfl rfl (i := n) (by omega) (by omega) dMO_test_45 (fun H locs hP hD hS => ?_)
      have hP : va_P (dC, dI) vwCl [(hM, .inr (8, [.int (nI 0), .int (nI k), .int (nI n), .ref z1, .ref z2, .int (nI iS), .int (nI sc), .int (nI sn), .int (nI mv), .int (nI sg), .ref z3, .ref z4, .ref z5, .ref z6, .ref z7, .ref z8, .ref z9, .int (nI dn), .ref z10, .ref z11, .ref z12, .ref z13, .ref z14, .int (nI gc)])), (z1, .inl (cI, 24, .inl (fun j9 => nI ((va_up tf n τ) j9)))), (z2, .inl (cI, 24, .inl (fun j9 => nI ((va_up ff n n) j9))))] H := hP
      have hD : va_D A [(hM, .inr (8, [.int (nI 0), .int (nI k), .int (nI n), .ref z1, .ref z2, .int (nI iS), .int (nI sc), .int (nI sn), .int (nI mv), .int (nI sg), .ref z3, .ref z4, .ref z5, .ref z6, .ref z7, .ref z8, .ref z9, .int (nI dn), .ref z10, .ref z11, .ref z12, .ref z13, .ref z14, .int (nI gc)])), (z1, .inl (cI, 24, .inl (fun j9 => nI ((va_up tf n τ) j9)))), (z2, .inl (cI, 24, .inl (fun j9 => nI ((va_up ff n n) j9))))] := hD
      refine lv_aload_n hx hb dMO_test_46 rfl (lv_at hl 0 rfl) ?_
      refine lv_dup hx hb dMO_test_47 rfl ?_
      refine va_get (D := (dC, dI)) (ci := 8) (v := .int (nI n)) (C := RMO) (T := TMO) (N := 24) hx hb hts (fun w h => List.mem_cons_of_mem _ (inMO w h)) hown hK hP 0 rfl rfl 2 (by decide) (hts _ (List.mem_cons_of_mem _ kw_511)) (fun _ h9 => h9) rfl dMO_test_48 ?_
      refine lv_iconst (v := nI 1) hx hb dMO_test_51 (by decide +kernel) ?_
      refine lv_iadd hx hb dMO_test_52 ?_
      refine hr_eqi (nI_add _ _) ?_
      refine va_put (D := (dC, dI)) (ci := 8) (v := .int (nI (n + 1))) (ty := .int) (C := RMO) (T := TMO) (N := 24) hx hb hts (fun w h => List.mem_cons_of_mem _ (inMO w h)) tyMO tyMO_ok nmMO hown hK hP hD hS 0 rfl rfl 2 (by decide) (hts _ (List.mem_cons_of_mem _ kw_511)) (fun _ h9 => h9) rfl (by decide +kernel) rfl rfl (Nat.le_of_ble_eq_true rfl) dMO_test_53 (fun H locs hP hD hS => ?_)
      have hP : va_P (dC, dI) vwCl [(hM, .inr (8, [.int (nI 0), .int (nI k), .int (nI (n + 1)), .ref z1, .ref z2, .int (nI iS), .int (nI sc), .int (nI sn), .int (nI mv), .int (nI sg), .ref z3, .ref z4, .ref z5, .ref z6, .ref z7, .ref z8, .ref z9, .int (nI dn), .ref z10, .ref z11, .ref z12, .ref z13, .ref z14, .int (nI gc)])), (z1, .inl (cI, 24, .inl (fun j9 => nI ((va_up tf n τ) j9)))), (z2, .inl (cI, 24, .inl (fun j9 => nI ((va_up ff n n) j9))))] H := hP
      have hD : va_D A [(hM, .inr (8, [.int (nI 0), .int (nI k), .int (nI (n + 1)), .ref z1, .ref z2, .int (nI iS), .int (nI sc), .int (nI sn), .int (nI mv), .int (nI sg), .ref z3, .ref z4, .ref z5, .ref z6, .ref z7, .ref z8, .ref z9, .int (nI dn), .ref z10, .ref z11, .ref z12, .ref z13, .ref z14, .int (nI gc)])), (z1, .inl (cI, 24, .inl (fun j9 => nI ((va_up tf n τ) j9)))), (z2, .inl (cI, 24, .inl (fun j9 => nI ((va_up ff n n) j9))))] := hD
      refine lv_aload_n hx hb dMO_test_56 rfl (lv_at hl 0 rfl) ?_
      refine va_get (D := (dC, dI)) (ci := 8) (v := .int (nI (n + 1))) (C := RMO) (T := TMO) (N := 24) hx hb hts (fun w h => List.mem_cons_of_mem _ (inMO w h)) hown hK hP 0 rfl rfl 2 (by decide) (hts _ (List.mem_cons_of_mem _ kw_511)) (fun _ h9 => h9) rfl dMO_test_57 ?_
      refine lv_iconst (v := nI 1) hx hb dMO_test_60 (by decide +kernel) ?_
      refine lv_isub hx hb dMO_test_61 ?_
      refine hr_eqi (pk_sub (by omega)) ?_
      have ez : addN n (nI τ) = some τ := by simp [addN, show n < 24 by omega, inB_nI hτ (by decide), nI_clamp (show τ < 2 ^ 31 by omega)]
      rw [← hQe]
      exact W.iret (v := nI ((n + 1) - 1)) hx hb hr (fun t ht hW => ⟨⟨_, (), rfl, by rw [ez]; first | rfl | simp, by rw [ht, ez]; exact hP, by rw [ez]; exact hD⟩, hS.F ht⟩) hS.2.2 dMO_test_62
    · refine lv_iconst (v := (-1)) hx hb dMO_test_21 (by decide +kernel) ?_
      have ez : addN n x = none := by simp [addN, c_2]
      rw [← hQe]
      exact W.iret (v := (-1)) hx hb hr (fun t ht hW => ⟨⟨_, (), rfl, by rw [ez]; first | rfl | simp, by rw [ht, ez]; exact hP, by rw [ez]; exact hD⟩, hS.F ht⟩) hS.2.2 dMO_test_22

set_option maxHeartbeats 400000 in
set_option maxRecDepth 100000 in
/-- time -/
theorem c_MO_time (l : Launch) (dC : Nat → ClassId) (dI : Nat → Nat → Nat) (cI cZ cG : ClassId) (hM : Nat) (z1 : Nat) (z2 : Nat) (z3 : Nat) (z4 : Nat) (z5 : Nat) (z6 : Nat) (z7 : Nat) (z8 : Nat) (z9 : Nat) (z10 : Nat) (z11 : Nat) (z12 : Nat) (z13 : Nat) (z14 : Nat) (th : Nat) (k : Nat) (n : Nat) (iS : Nat) (sc : Nat) (sn : Nat) (mv : Nat) (sg : Nat) (dn : Nat) (gc : Nat) (tf : Nat → Nat) (x : Int32) (y : Int32) (sz : Nat) (hn : n ≤ 24) : Met l yMO_time wsMO_time ({ frames := 1, cells := 0, slots := 0, locals := 21 }) (va_Pc [.ref hM, .int x, .int y] (fun U => U.heap.size = sz ∧ va_P (dC, dI) vwCl [(hM, .inr (8, [.int (nI th), .int (nI k), .int (nI n), .ref z1, .ref z2, .int (nI iS), .int (nI sc), .int (nI sn), .int (nI mv), .int (nI sg), .ref z3, .ref z4, .ref z5, .ref z6, .ref z7, .ref z8, .ref z9, .int (nI dn), .ref z10, .ref z11, .ref z12, .ref z13, .ref z14, .int (nI gc)])), (z1, .inl (cI, 24, .inl (fun j9 => nI (tf j9))))] U.heap ∧ KX dC dI cI cZ cG U ∧ va_D (fun _ => True) [(hM, .inr (8, [.int (nI th), .int (nI k), .int (nI n), .ref z1, .ref z2, .int (nI iS), .int (nI sc), .int (nI sn), .int (nI mv), .int (nI sg), .ref z3, .ref z4, .ref z5, .ref z6, .ref z7, .ref z8, .ref z9, .int (nI dn), .ref z10, .ref z11, .ref z12, .ref z13, .ref z14, .int (nI gc)])), (z1, .inl (cI, 24, .inl (fun j9 => nI (tf j9))))])) (va_Qi (fun (r : Int32) (u : Unit) => r = nI ((retN n x y).elim 0 (fun _ => 1))) (fun u t => va_P (dC, dI) vwCl [(hM, .inr (8, [.int (nI 0), .int (nI k), .int (nI n), .ref z1, .ref z2, .int (nI iS), .int (nI sc), .int (nI sn), .int (nI mv), .int (nI sg), .ref z3, .ref z4, .ref z5, .ref z6, .ref z7, .ref z8, .ref z9, .int (nI dn), .ref z10, .ref z11, .ref z12, .ref z13, .ref z14, .int (nI gc)])), (z1, .inl (cI, 24, .inl (fun j9 => nI (((retN n x y).elim tf (fun q => va_up tf q.1 q.2)) j9))))] t.heap ∧ va_D (va_A [(hM, .inr (8, [.int (nI th), .int (nI k), .int (nI n), .ref z1, .ref z2, .int (nI iS), .int (nI sc), .int (nI sn), .int (nI mv), .int (nI sg), .ref z3, .ref z4, .ref z5, .ref z6, .ref z7, .ref z8, .ref z9, .int (nI dn), .ref z10, .ref z11, .ref z12, .ref z13, .ref z14, .int (nI gc)])), (z1, .inl (cI, 24, .inl (fun j9 => nI (tf j9))))] sz) [(hM, .inr (8, [.int (nI 0), .int (nI k), .int (nI n), .ref z1, .ref z2, .int (nI iS), .int (nI sc), .int (nI sn), .int (nI mv), .int (nI sg), .ref z3, .ref z4, .ref z5, .ref z6, .ref z7, .ref z8, .ref z9, .int (nI dn), .ref z10, .ref z11, .ref z12, .ref z13, .ref z14, .int (nI gc)])), (z1, .inl (cI, 24, .inl (fun j9 => nI (((retN n x y).elim tf (fun q => va_up tf q.1 q.2)) j9))))]) (va_A [(hM, .inr (8, [.int (nI th), .int (nI k), .int (nI n), .ref z1, .ref z2, .int (nI iS), .int (nI sc), .int (nI sn), .int (nI mv), .int (nI sg), .ref z3, .ref z4, .ref z5, .ref z6, .ref z7, .ref z8, .ref z9, .int (nI dn), .ref z10, .ref z11, .ref z12, .ref z13, .ref z14, .int (nI gc)])), (z1, .inl (cI, 24, .inl (fun j9 => nI (tf j9))))] sz)) 0 0 (va_A [(hM, .inr (8, [.int (nI th), .int (nI k), .int (nI n), .ref z1, .ref z2, .int (nI iS), .int (nI sc), .int (nI sn), .int (nI mv), .int (nI sg), .ref z3, .ref z4, .ref z5, .ref z6, .ref z7, .ref z8, .ref z9, .int (nI dn), .ref z10, .ref z11, .ref z12, .ref z13, .ref z14, .int (nI gc)])), (z1, .inl (cI, 24, .inl (fun j9 => nI (tf j9))))] sz) := by
  refine Met.ofW (cc := cMO_time) (maxL := 3) (ret := (some .boolean)) (by decide) rfl ?_
  intro p e s m args below meth c s₁ B hml hv
  obtain ⟨rfl, hsz, hP, hKX, hD0⟩ := hv
  have hK := hKX.1
  have hx := B.exec
  have hb := B.bytes
  have hr := B.returns
  have hts := atoms_spec (ws := wsMO_time) B.pre
  have hown : s.vm.findClass RMO = some m.cls := findClass_of_methodNamed B.named
  have hlocks := B.notSynchronized
  subst hsz
  have hD := hD0.self (sz := s.heap.size)
  generalize hAe : va_A [(hM, .inr (8, [.int (nI th), .int (nI k), .int (nI n), .ref z1, .ref z2, .int (nI iS), .int (nI sc), .int (nI sn), .int (nI mv), .int (nI sg), .ref z3, .ref z4, .ref z5, .ref z6, .ref z7, .ref z8, .ref z9, .int (nI dn), .ref z10, .ref z11, .ref z12, .ref z13, .ref z14, .int (nI gc)])), (z1, .inl (cI, 24, .inl (fun j9 => nI (tf j9))))] s.heap.size = A at hD ⊢
  have hA : ∀ q : Nat, s.heap.size ≤ q → A q := fun q h => by rw [← hAe]; exact Or.inr h
  have hS : va_S A s.heap s.heap [] := va_S.rf
  have hl := lv_entry ([.ref hM, .int x, .int y]) (n := 3) (Nat.le_of_ble_eq_true rfl)
  rw [lg_entry_eq]
  generalize (lg_sl ([.ref hM, .int x, .int y]) ++ List.replicate (3 - (lg_sl ([.ref hM, .int x, .int y])).length) Slot.unset).toArray = ls at hl ⊢
  have hl : lv_has ls 3 [(0, .ref hM), (1, .int x), (2, .int y)] := hl
  generalize hRe : (headSpec wsMO_time ({ frames := 1, cells := 0, slots := 0, locals := 21 })).room = R
  have hRf : 1 ≤ R.frames := by rw [← hRe]; exact Nat.le_refl _
  have hRl : 21 ≤ R.locals := by rw [← hRe]; exact Nat.le_refl _
  have hRc : 0 ≤ R.cells := by rw [← hRe]; exact Nat.le_refl _
  have hRs : 0 ≤ R.slots := by rw [← hRe]; exact Nat.le_refl _
  generalize hargs : (List.toArray [.ref hM, .int x, .int y] : Array Value) = args at hts ⊢
  generalize hQe : MQ below _ args s _ _ _ = Q
  refine lv_aload_n hx hb dMO_time_0 rfl (lv_at hl 0 rfl) ?_
  refine lv_iconst (v := nI 0) hx hb dMO_time_1 (by decide +kernel) ?_
  refine va_put (D := (dC, dI)) (ci := 8) (v := .int (nI 0)) (ty := .int) (C := RMO) (T := TMO) (N := 24) hx hb hts (fun w h => List.mem_cons_of_mem _ (inMO w h)) tyMO tyMO_ok nmMO hown hK hP hD hS 0 rfl rfl 0 (by decide) (hts _ (List.mem_cons_of_mem _ kw_509)) (fun _ h9 => h9) rfl (by decide +kernel) rfl rfl (Nat.le_of_ble_eq_true rfl) dMO_time_2 (fun H locs hP hD hS => ?_)
  have hP : va_P (dC, dI) vwCl [(hM, .inr (8, [.int (nI 0), .int (nI k), .int (nI n), .ref z1, .ref z2, .int (nI iS), .int (nI sc), .int (nI sn), .int (nI mv), .int (nI sg), .ref z3, .ref z4, .ref z5, .ref z6, .ref z7, .ref z8, .ref z9, .int (nI dn), .ref z10, .ref z11, .ref z12, .ref z13, .ref z14, .int (nI gc)])), (z1, .inl (cI, 24, .inl (fun j9 => nI (tf j9))))] H := hP
  have hD : va_D A [(hM, .inr (8, [.int (nI 0), .int (nI k), .int (nI n), .ref z1, .ref z2, .int (nI iS), .int (nI sc), .int (nI sn), .int (nI mv), .int (nI sg), .ref z3, .ref z4, .ref z5, .ref z6, .ref z7, .ref z8, .ref z9, .int (nI dn), .ref z10, .ref z11, .ref z12, .ref z13, .ref z14, .int (nI gc)])), (z1, .inl (cI, 24, .inl (fun j9 => nI (tf j9))))] := hD
  refine lv_aload_n hx hb dMO_time_5 rfl (lv_at hl 0 rfl) ?_
  refine lv_iload_n hx hb dMO_time_6 rfl (lv_at hl 1 rfl) ?_
  refine vp_callSi (va_runV (C := RMO) (As := [.int x]) (rest := []) ⟨hx, hb, hml, hown, hts⟩ (c_MO_isTest l dC dI cI cZ cG hM z1 z2 z3 z4 z5 z6 z7 z8 z9 z10 z11 z12 z13 z14 0 k n iS sc sn mv sg dn gc x (hn)) (hr_cwV 1 hts kw_594 kw_596 kw_11 kw_33 kw_597 (by decide +kernel) (by rw [← hRe]; exact ⟨Nat.le_of_ble_eq_true rfl, Nat.le_of_ble_eq_true rfl⟩)) (hr_preR hKX hP [0] rfl (ci := 8) (q0 := 0) (q := (RMO, TMO, 24)) rfl rfl) rfl rfl hl.1 rfl (lv_room (Nat.le_of_ble_eq_true rfl)) dMO_time_7 ⟨by omega, by omega⟩).run (fun rv hrv => ?_)
  refine hr_eqi hrv ?_
  have hb0 := inB_lt x n
  refine hr_if_eq hx hb (x := inB x n) (by omega) (tgt := 20) dMO_time_10 (by decide) (fun c_1 => ?_) (fun c_1 => ?_)
  · refine lv_iconst (v := nI 0) hx hb dMO_time_20 (by decide +kernel) ?_
    have ez : retN n x y = none := by simp [retN, c_1]
    rw [← hQe]
    exact W.zret (ty := .boolean) (v := nI 0) hx hb hr (by decide +kernel) (fun t ht hW => ⟨⟨_, (), rfl, by rw [ez]; first | rfl | simp, by rw [ht, ez]; exact hP, by rw [ez]; exact hD⟩, hS.F ht⟩) hS.2.2 dMO_time_21
  · obtain ⟨j, hj, rfl⟩ := inB_pos (by omega) c_1
    refine lv_iload_n hx hb dMO_time_13 rfl (lv_at hl 2 rfl) ?_
    refine vp_callSi (va_runS (As := [.int y]) (rest := []) ⟨hx, hb, hml, hown, hts⟩ (c_MO_isTime l dC dI cI cZ cG y) (hr_cwS 1 hts kw_586 kw_587 kw_33 kw_588 (by decide +kernel) (by rw [← hRe]; exact ⟨Nat.le_of_ble_eq_true rfl, Nat.le_of_ble_eq_true rfl⟩)) (hr_preRS hKX hP [] rfl) rfl rfl hl.1 rfl (lv_room (Nat.le_of_ble_eq_true rfl)) dMO_time_14 ⟨by omega, by omega⟩).run (fun rv hrv => ?_)
    refine hr_eqi hrv ?_
    have hb1 := inB_lt y 100001
    refine hr_if_ne hx hb (x := inB y 100001) (by omega) (tgt := 22) dMO_time_17 (by decide) (fun c_2 => ?_) (fun c_2 => ?_)
    · obtain ⟨τ, hτ, rfl⟩ := inB_pos (by decide) c_2
      refine lv_aload_n hx hb dMO_time_22 rfl (lv_at hl 0 rfl) ?_
      refine va_get (D := (dC, dI)) (ci := 8) (v := .ref z1) (C := RMO) (T := TMO) (N := 24) hx hb hts (fun w h => List.mem_cons_of_mem _ (inMO w h)) hown hK hP 0 rfl rfl 3 (by decide) (hts _ (List.mem_cons_of_mem _ kw_512)) (fun _ h9 => h9) rfl dMO_time_23 ?_
      refine lv_iload_n hx hb dMO_time_26 rfl (lv_at hl 1 rfl) ?_
      refine lv_iload_n hx hb dMO_time_27 rfl (lv_at hl 2 rfl) ?_
      refine hr_iastN hx hb hK hP hD hS 1 0 rfl rfl (i := j) (by omega) (by omega) dMO_time_28 (fun H locs hP hD hS => ?_)
      have hP : va_P (dC, dI) vwCl [(hM, .inr (8, [.int (nI 0), .int (nI k), .int (nI n), .ref z1, .ref z2, .int (nI iS), .int (nI sc), .int (nI sn), .int (nI mv), .int (nI sg), .ref z3, .ref z4, .ref z5, .ref z6, .ref z7, .ref z8, .ref z9, .int (nI dn), .ref z10, .ref z11, .ref z12, .ref z13, .ref z14, .int (nI gc)])), (z1, .inl (cI, 24, .inl (fun j9 => nI ((va_up tf j τ) j9))))] H := hP
      have hD : va_D A [(hM, .inr (8, [.int (nI 0), .int (nI k), .int (nI n), .ref z1, .ref z2, .int (nI iS), .int (nI sc), .int (nI sn), .int (nI mv), .int (nI sg), .ref z3, .ref z4, .ref z5, .ref z6, .ref z7, .ref z8, .ref z9, .int (nI dn), .ref z10, .ref z11, .ref z12, .ref z13, .ref z14, .int (nI gc)])), (z1, .inl (cI, 24, .inl (fun j9 => nI ((va_up tf j τ) j9))))] := hD
      refine lv_iconst (v := nI 1) hx hb dMO_time_29 (by decide +kernel) ?_
      have ez : retN n (nI j) (nI τ) = some (j, τ) := by simp [retN, inB_nI hj (show n < 2 ^ 31 by omega), inB_nI hτ (by decide), nI_clamp (show τ < 2 ^ 31 by omega), nI_clamp (show j < 2 ^ 31 by omega)]
      rw [← hQe]
      exact W.zret (ty := .boolean) (v := nI 1) hx hb hr (by decide +kernel) (fun t ht hW => ⟨⟨_, (), rfl, by rw [ez]; first | rfl | simp, by rw [ht, ez]; exact hP, by rw [ez]; exact hD⟩, hS.F ht⟩) hS.2.2 dMO_time_30
    · refine lv_iconst (v := nI 0) hx hb dMO_time_20 (by decide +kernel) ?_
      have ez : retN n (nI j) y = none := by simp [retN, c_2]
      rw [← hQe]
      exact W.zret (ty := .boolean) (v := nI 0) hx hb hr (by decide +kernel) (fun t ht hW => ⟨⟨_, (), rfl, by rw [ez]; first | rfl | simp, by rw [ht, ez]; exact hP, by rw [ez]; exact hD⟩, hS.F ht⟩) hS.2.2 dMO_time_21

set_option maxHeartbeats 400000 in
set_option maxRecDepth 100000 in
/-- join -/
theorem c_MO_join (l : Launch) (dC : Nat → ClassId) (dI : Nat → Nat → Nat) (cI cZ cG : ClassId) (hM : Nat) (z1 : Nat) (z2 : Nat) (z3 : Nat) (z4 : Nat) (z5 : Nat) (z6 : Nat) (z7 : Nat) (z8 : Nat) (z9 : Nat) (z10 : Nat) (z11 : Nat) (z12 : Nat) (z13 : Nat) (z14 : Nat) (th : Nat) (k : Nat) (n : Nat) (iS : Nat) (sc : Nat) (sn : Nat) (mv : Nat) (sg : Nat) (dn : Nat) (gc : Nat) (ff : Nat → Nat) (x : Int32) (y : Int32) (sz : Nat) (hn : n ≤ 24) (hf : ∀ j, j < n → ff j ≤ j) : Met l yMO_join wsMO_join ({ frames := 1, cells := 0, slots := 0, locals := 21 }) (va_Pc [.ref hM, .int x, .int y] (fun U => U.heap.size = sz ∧ va_P (dC, dI) vwCl [(hM, .inr (8, [.int (nI th), .int (nI k), .int (nI n), .ref z1, .ref z2, .int (nI iS), .int (nI sc), .int (nI sn), .int (nI mv), .int (nI sg), .ref z3, .ref z4, .ref z5, .ref z6, .ref z7, .ref z8, .ref z9, .int (nI dn), .ref z10, .ref z11, .ref z12, .ref z13, .ref z14, .int (nI gc)])), (z2, .inl (cI, 24, .inl (fun j9 => nI (ff j9))))] U.heap ∧ KX dC dI cI cZ cG U ∧ va_D (fun _ => True) [(hM, .inr (8, [.int (nI th), .int (nI k), .int (nI n), .ref z1, .ref z2, .int (nI iS), .int (nI sc), .int (nI sn), .int (nI mv), .int (nI sg), .ref z3, .ref z4, .ref z5, .ref z6, .ref z7, .ref z8, .ref z9, .int (nI dn), .ref z10, .ref z11, .ref z12, .ref z13, .ref z14, .int (nI gc)])), (z2, .inl (cI, 24, .inl (fun j9 => nI (ff j9))))])) (va_Qi (fun (r : Int32) (u : Unit) => r = nI ((joinN n ff x y).elim 0 (fun _ => 1))) (fun u t => va_P (dC, dI) vwCl [(hM, .inr (8, [.int (nI 0), .int (nI k), .int (nI n), .ref z1, .ref z2, .int (nI iS), .int (nI sc), .int (nI sn), .int (nI mv), .int (nI sg), .ref z3, .ref z4, .ref z5, .ref z6, .ref z7, .ref z8, .ref z9, .int (nI dn), .ref z10, .ref z11, .ref z12, .ref z13, .ref z14, .int (nI gc)])), (z2, .inl (cI, 24, .inl (fun j9 => nI (((joinN n ff x y).elim ff (fun q => joinF ff q.2 q.1 n)) j9))))] t.heap ∧ va_D (va_A [(hM, .inr (8, [.int (nI th), .int (nI k), .int (nI n), .ref z1, .ref z2, .int (nI iS), .int (nI sc), .int (nI sn), .int (nI mv), .int (nI sg), .ref z3, .ref z4, .ref z5, .ref z6, .ref z7, .ref z8, .ref z9, .int (nI dn), .ref z10, .ref z11, .ref z12, .ref z13, .ref z14, .int (nI gc)])), (z2, .inl (cI, 24, .inl (fun j9 => nI (ff j9))))] sz) [(hM, .inr (8, [.int (nI 0), .int (nI k), .int (nI n), .ref z1, .ref z2, .int (nI iS), .int (nI sc), .int (nI sn), .int (nI mv), .int (nI sg), .ref z3, .ref z4, .ref z5, .ref z6, .ref z7, .ref z8, .ref z9, .int (nI dn), .ref z10, .ref z11, .ref z12, .ref z13, .ref z14, .int (nI gc)])), (z2, .inl (cI, 24, .inl (fun j9 => nI (((joinN n ff x y).elim ff (fun q => joinF ff q.2 q.1 n)) j9))))]) (va_A [(hM, .inr (8, [.int (nI th), .int (nI k), .int (nI n), .ref z1, .ref z2, .int (nI iS), .int (nI sc), .int (nI sn), .int (nI mv), .int (nI sg), .ref z3, .ref z4, .ref z5, .ref z6, .ref z7, .ref z8, .ref z9, .int (nI dn), .ref z10, .ref z11, .ref z12, .ref z13, .ref z14, .int (nI gc)])), (z2, .inl (cI, 24, .inl (fun j9 => nI (ff j9))))] sz)) 0 0 (va_A [(hM, .inr (8, [.int (nI th), .int (nI k), .int (nI n), .ref z1, .ref z2, .int (nI iS), .int (nI sc), .int (nI sn), .int (nI mv), .int (nI sg), .ref z3, .ref z4, .ref z5, .ref z6, .ref z7, .ref z8, .ref z9, .int (nI dn), .ref z10, .ref z11, .ref z12, .ref z13, .ref z14, .int (nI gc)])), (z2, .inl (cI, 24, .inl (fun j9 => nI (ff j9))))] sz) := by
  refine Met.ofW (cc := cMO_join) (maxL := 6) (ret := (some .boolean)) (by decide) rfl ?_
  intro p e s m args below meth c s₁ B hml hv
  obtain ⟨rfl, hsz, hP, hKX, hD0⟩ := hv
  have hK := hKX.1
  have hx := B.exec
  have hb := B.bytes
  have hr := B.returns
  have hts := atoms_spec (ws := wsMO_join) B.pre
  have hown : s.vm.findClass RMO = some m.cls := findClass_of_methodNamed B.named
  have hlocks := B.notSynchronized
  subst hsz
  have hD := hD0.self (sz := s.heap.size)
  generalize hAe : va_A [(hM, .inr (8, [.int (nI th), .int (nI k), .int (nI n), .ref z1, .ref z2, .int (nI iS), .int (nI sc), .int (nI sn), .int (nI mv), .int (nI sg), .ref z3, .ref z4, .ref z5, .ref z6, .ref z7, .ref z8, .ref z9, .int (nI dn), .ref z10, .ref z11, .ref z12, .ref z13, .ref z14, .int (nI gc)])), (z2, .inl (cI, 24, .inl (fun j9 => nI (ff j9))))] s.heap.size = A at hD ⊢
  have hA : ∀ q : Nat, s.heap.size ≤ q → A q := fun q h => by rw [← hAe]; exact Or.inr h
  have hS : va_S A s.heap s.heap [] := va_S.rf
  have hl := lv_entry ([.ref hM, .int x, .int y]) (n := 6) (Nat.le_of_ble_eq_true rfl)
  rw [lg_entry_eq]
  generalize (lg_sl ([.ref hM, .int x, .int y]) ++ List.replicate (6 - (lg_sl ([.ref hM, .int x, .int y])).length) Slot.unset).toArray = ls at hl ⊢
  have hl : lv_has ls 6 [(0, .ref hM), (1, .int x), (2, .int y)] := hl
  generalize hRe : (headSpec wsMO_join ({ frames := 1, cells := 0, slots := 0, locals := 21 })).room = R
  have hRf : 1 ≤ R.frames := by rw [← hRe]; exact Nat.le_refl _
  have hRl : 21 ≤ R.locals := by rw [← hRe]; exact Nat.le_refl _
  have hRc : 0 ≤ R.cells := by rw [← hRe]; exact Nat.le_refl _
  have hRs : 0 ≤ R.slots := by rw [← hRe]; exact Nat.le_refl _
  generalize hargs : (List.toArray [.ref hM, .int x, .int y] : Array Value) = args at hts ⊢
  generalize hQe : MQ below _ args s _ _ _ = Q
  refine lv_aload_n hx hb dMO_join_0 rfl (lv_at hl 0 rfl) ?_
  refine lv_iconst (v := nI 0) hx hb dMO_join_1 (by decide +kernel) ?_
  refine va_put (D := (dC, dI)) (ci := 8) (v := .int (nI 0)) (ty := .int) (C := RMO) (T := TMO) (N := 24) hx hb hts (fun w h => List.mem_cons_of_mem _ (inMO w h)) tyMO tyMO_ok nmMO hown hK hP hD hS 0 rfl rfl 0 (by decide) (hts _ (List.mem_cons_of_mem _ kw_509)) (fun _ h9 => h9) rfl (by decide +kernel) rfl rfl (Nat.le_of_ble_eq_true rfl) dMO_join_2 (fun H locs hP hD hS => ?_)
  have hP : va_P (dC, dI) vwCl [(hM, .inr (8, [.int (nI 0), .int (nI k), .int (nI n), .ref z1, .ref z2, .int (nI iS), .int (nI sc), .int (nI sn), .int (nI mv), .int (nI sg), .ref z3, .ref z4, .ref z5, .ref z6, .ref z7, .ref z8, .ref z9, .int (nI dn), .ref z10, .ref z11, .ref z12, .ref z13, .ref z14, .int (nI gc)])), (z2, .inl (cI, 24, .inl (fun j9 => nI (ff j9))))] H := hP
  have hD : va_D A [(hM, .inr (8, [.int (nI 0), .int (nI k), .int (nI n), .ref z1, .ref z2, .int (nI iS), .int (nI sc), .int (nI sn), .int (nI mv), .int (nI sg), .ref z3, .ref z4, .ref z5, .ref z6, .ref z7, .ref z8, .ref z9, .int (nI dn), .ref z10, .ref z11, .ref z12, .ref z13, .ref z14, .int (nI gc)])), (z2, .inl (cI, 24, .inl (fun j9 => nI (ff j9))))] := hD
  refine lv_aload_n hx hb dMO_join_5 rfl (lv_at hl 0 rfl) ?_
  refine lv_iload_n hx hb dMO_join_6 rfl (lv_at hl 1 rfl) ?_
  refine vp_callSi (va_runV (C := RMO) (As := [.int x]) (rest := []) ⟨hx, hb, hml, hown, hts⟩ (c_MO_isTest l dC dI cI cZ cG hM z1 z2 z3 z4 z5 z6 z7 z8 z9 z10 z11 z12 z13 z14 0 k n iS sc sn mv sg dn gc x (hn)) (hr_cwV 1 hts kw_594 kw_596 kw_11 kw_33 kw_597 (by decide +kernel) (by rw [← hRe]; exact ⟨Nat.le_of_ble_eq_true rfl, Nat.le_of_ble_eq_true rfl⟩)) (hr_preR hKX hP [0] rfl (ci := 8) (q0 := 0) (q := (RMO, TMO, 24)) rfl rfl) rfl rfl hl.1 rfl (lv_room (Nat.le_of_ble_eq_true rfl)) dMO_join_7 ⟨by omega, by omega⟩).run (fun rv hrv => ?_)
  refine hr_eqi hrv ?_
  have hb0 := inB_lt x n
  refine hr_if_eq hx hb (x := inB x n) (by omega) (tgt := 36) dMO_join_10 (by decide) (fun c_1 => ?_) (fun c_1 => ?_)
  · refine lv_iconst (v := nI 0) hx hb dMO_join_36 (by decide +kernel) ?_
    have ez : joinN n ff x y = none := by simp [joinN, c_1]
    rw [← hQe]
    exact W.zret (ty := .boolean) (v := nI 0) hx hb hr (by decide +kernel) (fun t ht hW => ⟨⟨_, (), rfl, by rw [ez]; first | rfl | simp, by rw [ht, ez]; exact hP, by rw [ez]; exact hD⟩, hS.F ht⟩) hS.2.2 dMO_join_37
  · obtain ⟨i, hi, rfl⟩ := inB_pos (by omega) c_1
    have hfi := hf i hi
    refine lv_aload_n hx hb dMO_join_13 rfl (lv_at hl 0 rfl) ?_
    refine lv_iload_n hx hb dMO_join_14 rfl (lv_at hl 2 rfl) ?_
    refine vp_callSi (va_runV (C := RMO) (As := [.int y]) (rest := []) ⟨hx, hb, hml, hown, hts⟩ (c_MO_isTest l dC dI cI cZ cG hM z1 z2 z3 z4 z5 z6 z7 z8 z9 z10 z11 z12 z13 z14 0 k n iS sc sn mv sg dn gc y (hn)) (hr_cwV 1 hts kw_594 kw_596 kw_11 kw_33 kw_597 (by decide +kernel) (by rw [← hRe]; exact ⟨Nat.le_of_ble_eq_true rfl, Nat.le_of_ble_eq_true rfl⟩)) (hr_preR hKX hP [0] rfl (ci := 8) (q0 := 0) (q := (RMO, TMO, 24)) rfl rfl) rfl rfl hl.1 rfl (lv_room (Nat.le_of_ble_eq_true rfl)) dMO_join_15 ⟨by omega, by omega⟩).run (fun rv hrv => ?_)
    refine hr_eqi hrv ?_
    have hb1 := inB_lt y n
    refine hr_if_eq hx hb (x := inB y n) (by omega) (tgt := 36) dMO_join_18 (by decide) (fun c_2 => ?_) (fun c_2 => ?_)
    · refine lv_iconst (v := nI 0) hx hb dMO_join_36 (by decide +kernel) ?_
      have ez : joinN n ff (nI i) y = none := by simp [joinN, c_2]
      rw [← hQe]
      exact W.zret (ty := .boolean) (v := nI 0) hx hb hr (by decide +kernel) (fun t ht hW => ⟨⟨_, (), rfl, by rw [ez]; first | rfl | simp, by rw [ht, ez]; exact hP, by rw [ez]; exact hD⟩, hS.F ht⟩) hS.2.2 dMO_join_37
    · obtain ⟨kk, hkk, rfl⟩ := inB_pos (by omega) c_2
      have hfk := hf kk hkk
      refine lv_aload_n hx hb dMO_join_21 rfl (lv_at hl 0 rfl) ?_
      refine va_get (D := (dC, dI)) (ci := 8) (v := .ref z2) (C := RMO) (T := TMO) (N := 24) hx hb hts (fun w h => List.mem_cons_of_mem _ (inMO w h)) hown hK hP 0 rfl rfl 4 (by decide) (hts _ (List.mem_cons_of_mem _ kw_513)) (fun _ h9 => h9) rfl dMO_join_22 ?_
      refine lv_iload_n hx hb dMO_join_25 rfl (lv_at hl 1 rfl) ?_
      refine hr_iald hx hb hK hP 1 0 rfl rfl (i := i) (by omega) (by omega) dMO_join_26 ?_
      refine lv_aload_n hx hb dMO_join_27 rfl (lv_at hl 0 rfl) ?_
      refine va_get (D := (dC, dI)) (ci := 8) (v := .ref z2) (C := RMO) (T := TMO) (N := 24) hx hb hts (fun w h => List.mem_cons_of_mem _ (inMO w h)) hown hK hP 0 rfl rfl 4 (by decide) (hts _ (List.mem_cons_of_mem _ kw_513)) (fun _ h9 => h9) rfl dMO_join_28 ?_
      refine lv_iload_n hx hb dMO_join_31 rfl (lv_at hl 2 rfl) ?_
      refine hr_iald hx hb hK hP 1 0 rfl rfl (i := kk) (by omega) (by omega) dMO_join_32 ?_
      refine hr_icmp_ne hx hb (x := (ff i)) (y := (ff kk)) (by omega) (by omega) (tgt := 38) dMO_join_33 (by decide) (fun c_3 => ?_) (fun c_3 => ?_)
      · refine lv_aload_n hx hb dMO_join_38 rfl (lv_at hl 0 rfl) ?_
        refine va_get (D := (dC, dI)) (ci := 8) (v := .ref z2) (C := RMO) (T := TMO) (N := 24) hx hb hts (fun w h => List.mem_cons_of_mem _ (inMO w h)) hown hK hP 0 rfl rfl 4 (by decide) (hts _ (List.mem_cons_of_mem _ kw_513)) (fun _ h9 => h9) rfl dMO_join_39 ?_
        refine lv_iload_n hx hb dMO_join_42 rfl (lv_at hl 1 rfl) ?_
        refine hr_iald hx hb hK hP 1 0 rfl rfl (i := i) (by omega) (by omega) dMO_join_43 ?_
        refine lv_aload_n hx hb dMO_join_44 rfl (lv_at hl 0 rfl) ?_
        refine va_get (D := (dC, dI)) (ci := 8) (v := .ref z2) (C := RMO) (T := TMO) (N := 24) hx hb hts (fun w h => List.mem_cons_of_mem _ (inMO w h)) hown hK hP 0 rfl rfl 4 (by decide) (hts _ (List.mem_cons_of_mem _ kw_513)) (fun _ h9 => h9) rfl dMO_join_45 ?_
        refine lv_iload_n hx hb dMO_join_48 rfl (lv_at hl 2 rfl) ?_
        refine hr_iald hx hb hK hP 1 0 rfl rfl (i := kk) (by omega) (by omega) dMO_join_49 ?_
        refine hr_icmp_ge hx hb (x := (ff i)) (y := (ff kk)) (by omega) (by omega) (tgt := 62) dMO_join_50 (by decide) (fun c_4 => ?_) (fun c_4 => ?_)
        · refine lv_aload_n hx hb dMO_join_62 rfl (lv_at hl 0 rfl) ?_
          refine va_get (D := (dC, dI)) (ci := 8) (v := .ref z2) (C := RMO) (T := TMO) (N := 24) hx hb hts (fun w h => List.mem_cons_of_mem _ (inMO w h)) hown hK hP 0 rfl rfl 4 (by decide) (hts _ (List.mem_cons_of_mem _ kw_513)) (fun _ h9 => h9) rfl dMO_join_63 ?_
          refine lv_iload_n hx hb dMO_join_66 rfl (lv_at hl 2 rfl) ?_
          refine hr_iald hx hb hK hP 1 0 rfl rfl (i := kk) (by omega) (by omega) dMO_join_67 ?_
          refine lv_istore_n (lv' := [(3, .int (nI (ff kk))), (0, .ref hM), (1, .int (nI i)), (2, .int (nI kk))]) hx hb dMO_join_68 rfl hl (by decide) rfl (fun ls hl => ?_)
          refine lv_aload_n hx hb dMO_join_69 rfl (lv_at hl 1 rfl) ?_
          refine va_get (D := (dC, dI)) (ci := 8) (v := .ref z2) (C := RMO) (T := TMO) (N := 24) hx hb hts (fun w h => List.mem_cons_of_mem _ (inMO w h)) hown hK hP 0 rfl rfl 4 (by decide) (hts _ (List.mem_cons_of_mem _ kw_513)) (fun _ h9 => h9) rfl dMO_join_70 ?_
          refine lv_iload_n hx hb dMO_join_73 rfl (lv_at hl 2 rfl) ?_
          refine hr_iald hx hb hK hP 1 0 rfl rfl (i := i) (by omega) (by omega) dMO_join_74 ?_
          refine lv_aload_n hx hb dMO_join_75 rfl (lv_at hl 1 rfl) ?_
          refine va_get (D := (dC, dI)) (ci := 8) (v := .ref z2) (C := RMO) (T := TMO) (N := 24) hx hb hts (fun w h => List.mem_cons_of_mem _ (inMO w h)) hown hK hP 0 rfl rfl 4 (by decide) (hts _ (List.mem_cons_of_mem _ kw_513)) (fun _ h9 => h9) rfl dMO_join_76 ?_
          refine lv_iload_n hx hb dMO_join_79 rfl (lv_at hl 3 rfl) ?_
          refine hr_iald hx hb hK hP 1 0 rfl rfl (i := kk) (by omega) (by omega) dMO_join_80 ?_
          refine lv_iadd hx hb dMO_join_81 ?_
          refine hr_eqi (nI_add _ _) ?_
          refine lv_iload_n hx hb dMO_join_82 rfl (lv_at hl 0 rfl) ?_
          refine lv_isub hx hb dMO_join_83 ?_
          refine hr_eqi (pk_sub (by omega)) ?_
          refine lv_istore (lv' := [(4, .int (nI (((ff i) + (ff kk)) - (ff kk)))), (3, .int (nI (ff kk))), (0, .ref hM), (1, .int (nI i)), (2, .int (nI kk))]) hx hb dMO_join_84 hl (by decide) rfl (fun ls hl => ?_)
          refine lv_iconst (v := nI 0) hx hb dMO_join_86 (by decide +kernel) ?_
          refine lv_istore (lv' := [(5, .int (nI 0)), (4, .int (nI (((ff i) + (ff kk)) - (ff kk)))), (3, .int (nI (ff kk))), (0, .ref hM), (1, .int (nI i)), (2, .int (nI kk))]) hx hb dMO_join_87 hl (by decide) rfl (fun ls hl => ?_)
          rw [← joinF_0 ff (ff i + ff kk - ff kk) (ff kk)] at hP hD
          have loop_89 : ∀ (n9 : Nat) (j : Nat), j ≤ n → n + 1 ≤ j + n9 → ∀ (H : Heap) (locs : List Loc), va_P (dC, dI) vwCl [(hM, .inr (8, [.int (nI 0), .int (nI k), .int (nI n), .ref z1, .ref z2, .int (nI iS), .int (nI sc), .int (nI sn), .int (nI mv), .int (nI sg), .ref z3, .ref z4, .ref z5, .ref z6, .ref z7, .ref z8, .ref z9, .int (nI dn), .ref z10, .ref z11, .ref z12, .ref z13, .ref z14, .int (nI gc)])), (z2, .inl (cI, 24, .inl (fun j9 => nI ((joinF ff (ff i + ff kk - ff kk) (ff kk) j) j9))))] H → va_D A [(hM, .inr (8, [.int (nI 0), .int (nI k), .int (nI n), .ref z1, .ref z2, .int (nI iS), .int (nI sc), .int (nI sn), .int (nI mv), .int (nI sg), .ref z3, .ref z4, .ref z5, .ref z6, .ref z7, .ref z8, .ref z9, .int (nI dn), .ref z10, .ref z11, .ref z12, .ref z13, .ref z14, .int (nI gc)])), (z2, .inl (cI, 24, .inl (fun j9 => nI ((joinF ff (ff i + ff kk - ff kk) (ff kk) j) j9))))] → va_S A s.heap H locs → ∀ (ls : Array Slot), lv_has ls 6 [(5, .int (nI j)), (4, .int (nI (((ff i) + (ff kk)) - (ff kk)))), (3, .int (nI (ff kk))), (0, .ref hM), (1, .int (nI i)), (2, .int (nI kk))] → W p l e R s m args below meth c H locs 0 0 Q (F0 m 89 ls []) := by
            intro n9
            induction n9 with
            | zero =>
              intro j hj hmeas
              exact absurd hmeas (by omega)
            | succ n9 ih_89 =>
              intro j hj hmeas H locs hP hD hS ls hl
              refine lv_iload hx hb dMO_join_89 (lv_at hl 0 rfl) ?_
              refine lv_aload_n hx hb dMO_join_91 rfl (lv_at hl 3 rfl) ?_
              refine va_get (D := (dC, dI)) (ci := 8) (v := .int (nI n)) (C := RMO) (T := TMO) (N := 24) hx hb hts (fun w h => List.mem_cons_of_mem _ (inMO w h)) hown hK hP 0 rfl rfl 2 (by decide) (hts _ (List.mem_cons_of_mem _ kw_511)) (fun _ h9 => h9) rfl dMO_join_92 ?_
              refine hr_icmp_ge hx hb (x := j) (y := n) (by omega) (by omega) (tgt := 134) dMO_join_95 (by decide) (fun c_5 => ?_) (fun c_5 => ?_)
              · have ej : n = j := by omega
                subst ej
                refine lv_iconst (v := nI 1) hx hb dMO_join_134 (by decide +kernel) ?_
                have ez : joinN n ff (nI i) (nI kk) = some ((ff kk), (ff i + ff kk - ff kk)) := joinN_some hi hkk hn c_3 (by omega) (by omega)
                rw [← hQe]
                exact W.zret (ty := .boolean) (v := nI 1) hx hb hr (by decide +kernel) (fun t ht hW => ⟨⟨_, (), rfl, by rw [ez]; first | rfl | simp, by rw [ht, ez]; exact hP, by rw [ez]; exact hD⟩, hS.F ht⟩) hS.2.2 dMO_join_135
              · have hfj := hf j (by omega)
                have hjj : joinF ff (ff i + ff kk - ff kk) (ff kk) j j < 2 ^ 31 := by rw [joinF_at]; omega
                refine lv_aload_n hx hb dMO_join_98 rfl (lv_at hl 3 rfl) ?_
                refine va_get (D := (dC, dI)) (ci := 8) (v := .ref z2) (C := RMO) (T := TMO) (N := 24) hx hb hts (fun w h => List.mem_cons_of_mem _ (inMO w h)) hown hK hP 0 rfl rfl 4 (by decide) (hts _ (List.mem_cons_of_mem _ kw_513)) (fun _ h9 => h9) rfl dMO_join_99 ?_
                refine lv_iload hx hb dMO_join_102 (lv_at hl 0 rfl) ?_
                refine lv_aload_n hx hb dMO_join_104 rfl (lv_at hl 3 rfl) ?_
                refine va_get (D := (dC, dI)) (ci := 8) (v := .ref z2) (C := RMO) (T := TMO) (N := 24) hx hb hts (fun w h => List.mem_cons_of_mem _ (inMO w h)) hown hK hP 0 rfl rfl 4 (by decide) (hts _ (List.mem_cons_of_mem _ kw_513)) (fun _ h9 => h9) rfl dMO_join_105 ?_
                refine lv_iload hx hb dMO_join_108 (lv_at hl 0 rfl) ?_
                refine hr_iald hx hb hK hP 1 0 rfl rfl (i := j) (by omega) (by omega) dMO_join_110 ?_
                refine lv_iload hx hb dMO_join_111 (lv_at hl 1 rfl) ?_
                refine hr_icmp_ne hx hb (x := ((joinF ff (ff i + ff kk - ff kk) (ff kk) j) j)) (y := (((ff i) + (ff kk)) - (ff kk))) (by omega) (by omega) (tgt := 120) dMO_join_113 (by decide) (fun c_6 => ?_) (fun c_6 => ?_)
                · refine lv_aload_n hx hb dMO_join_120 rfl (lv_at hl 3 rfl) ?_
                  refine va_get (D := (dC, dI)) (ci := 8) (v := .ref z2) (C := RMO) (T := TMO) (N := 24) hx hb hts (fun w h => List.mem_cons_of_mem _ (inMO w h)) hown hK hP 0 rfl rfl 4 (by decide) (hts _ (List.mem_cons_of_mem _ kw_513)) (fun _ h9 => h9) rfl dMO_join_121 ?_
                  refine lv_iload hx hb dMO_join_124 (lv_at hl 0 rfl) ?_
                  refine hr_iald hx hb hK hP 1 0 rfl rfl (i := j) (by omega) (by omega) dMO_join_126 ?_
                  refine hr_iastN hx hb hK hP hD hS 1 0 rfl rfl (i := j) (by omega) (by omega) dMO_join_127 (fun H locs hP hD hS => ?_)
                  have hP : va_P (dC, dI) vwCl [(hM, .inr (8, [.int (nI 0), .int (nI k), .int (nI n), .ref z1, .ref z2, .int (nI iS), .int (nI sc), .int (nI sn), .int (nI mv), .int (nI sg), .ref z3, .ref z4, .ref z5, .ref z6, .ref z7, .ref z8, .ref z9, .int (nI dn), .ref z10, .ref z11, .ref z12, .ref z13, .ref z14, .int (nI gc)])), (z2, .inl (cI, 24, .inl (fun j9 => nI ((va_up (joinF ff (ff i + ff kk - ff kk) (ff kk) j) j ((joinF ff (ff i + ff kk - ff kk) (ff kk) j) j)) j9))))] H := hP
                  have hD : va_D A [(hM, .inr (8, [.int (nI 0), .int (nI k), .int (nI n), .ref z1, .ref z2, .int (nI iS), .int (nI sc), .int (nI sn), .int (nI mv), .int (nI sg), .ref z3, .ref z4, .ref z5, .ref z6, .ref z7, .ref z8, .ref z9, .int (nI dn), .ref z10, .ref z11, .ref z12, .ref z13, .ref z14, .int (nI gc)])), (z2, .inl (cI, 24, .inl (fun j9 => nI ((va_up (joinF ff (ff i + ff kk - ff kk) (ff kk) j) j ((joinF ff (ff i + ff kk - ff kk) (ff kk) j) j)) j9))))] := hD
                  refine lv_iinc (v := nI (j + 1)) (lv' := [(5, .int (nI (j + 1))), (4, .int (nI (((ff i) + (ff kk)) - (ff kk)))), (3, .int (nI (ff kk))), (0, .ref hM), (1, .int (nI i)), (2, .int (nI kk))]) hx hb dMO_join_128 hl (k := 0) rfl (hr_inc _) (by decide) rfl (fun ls hl => ?_)
                  refine lv_goto (tgt := 89) hx hb dMO_join_131 (by decide) ?_
                  rw [joinF_miss2 (fun q => c_6 (by rw [joinF_at]; exact q))] at hP hD
                  exact ih_89 (j + 1) (by omega) (by omega) _ _ hP hD hS ls (lv_sub hl [0, 1, 2, 3, 4, 5] rfl)
                · refine lv_iload_n hx hb dMO_join_116 rfl (lv_at hl 2 rfl) ?_
                  refine lv_goto (tgt := 127) hx hb dMO_join_117 (by decide) ?_
                  refine hr_iastN hx hb hK hP hD hS 1 0 rfl rfl (i := j) (by omega) (by omega) dMO_join_127 (fun H locs hP hD hS => ?_)
                  have hP : va_P (dC, dI) vwCl [(hM, .inr (8, [.int (nI 0), .int (nI k), .int (nI n), .ref z1, .ref z2, .int (nI iS), .int (nI sc), .int (nI sn), .int (nI mv), .int (nI sg), .ref z3, .ref z4, .ref z5, .ref z6, .ref z7, .ref z8, .ref z9, .int (nI dn), .ref z10, .ref z11, .ref z12, .ref z13, .ref z14, .int (nI gc)])), (z2, .inl (cI, 24, .inl (fun j9 => nI ((va_up (joinF ff (ff i + ff kk - ff kk) (ff kk) j) j (ff kk)) j9))))] H := hP
                  have hD : va_D A [(hM, .inr (8, [.int (nI 0), .int (nI k), .int (nI n), .ref z1, .ref z2, .int (nI iS), .int (nI sc), .int (nI sn), .int (nI mv), .int (nI sg), .ref z3, .ref z4, .ref z5, .ref z6, .ref z7, .ref z8, .ref z9, .int (nI dn), .ref z10, .ref z11, .ref z12, .ref z13, .ref z14, .int (nI gc)])), (z2, .inl (cI, 24, .inl (fun j9 => nI ((va_up (joinF ff (ff i + ff kk - ff kk) (ff kk) j) j (ff kk)) j9))))] := hD
                  refine lv_iinc (v := nI (j + 1)) (lv' := [(5, .int (nI (j + 1))), (4, .int (nI (((ff i) + (ff kk)) - (ff kk)))), (3, .int (nI (ff kk))), (0, .ref hM), (1, .int (nI i)), (2, .int (nI kk))]) hx hb dMO_join_128 hl (k := 0) rfl (hr_inc _) (by decide) rfl (fun ls hl => ?_)
                  refine lv_goto (tgt := 89) hx hb dMO_join_131 (by decide) ?_
                  rw [joinF_hit (by rw [← c_6, joinF_at])] at hP hD
                  exact ih_89 (j + 1) (by omega) (by omega) _ _ hP hD hS ls (lv_sub hl [0, 1, 2, 3, 4, 5] rfl)
          exact loop_89 (n + 1) 0 (by omega) (by omega) _ _ hP hD hS ls (lv_sub hl [0, 1, 2, 3, 4, 5] rfl)
        · refine lv_aload_n hx hb dMO_join_53 rfl (lv_at hl 0 rfl) ?_
          refine va_get (D := (dC, dI)) (ci := 8) (v := .ref z2) (C := RMO) (T := TMO) (N := 24) hx hb hts (fun w h => List.mem_cons_of_mem _ (inMO w h)) hown hK hP 0 rfl rfl 4 (by decide) (hts _ (List.mem_cons_of_mem _ kw_513)) (fun _ h9 => h9) rfl dMO_join_54 ?_
          refine lv_iload_n hx hb dMO_join_57 rfl (lv_at hl 1 rfl) ?_
          refine hr_iald hx hb hK hP 1 0 rfl rfl (i := i) (by omega) (by omega) dMO_join_58 ?_
          refine lv_goto (tgt := 68) hx hb dMO_join_59 (by decide) ?_
          refine lv_istore_n (lv' := [(3, .int (nI (ff i))), (0, .ref hM), (1, .int (nI i)), (2, .int (nI kk))]) hx hb dMO_join_68 rfl hl (by decide) rfl (fun ls hl => ?_)
          refine lv_aload_n hx hb dMO_join_69 rfl (lv_at hl 1 rfl) ?_
          refine va_get (D := (dC, dI)) (ci := 8) (v := .ref z2) (C := RMO) (T := TMO) (N := 24) hx hb hts (fun w h => List.mem_cons_of_mem _ (inMO w h)) hown hK hP 0 rfl rfl 4 (by decide) (hts _ (List.mem_cons_of_mem _ kw_513)) (fun _ h9 => h9) rfl dMO_join_70 ?_
          refine lv_iload_n hx hb dMO_join_73 rfl (lv_at hl 2 rfl) ?_
          refine hr_iald hx hb hK hP 1 0 rfl rfl (i := i) (by omega) (by omega) dMO_join_74 ?_
          refine lv_aload_n hx hb dMO_join_75 rfl (lv_at hl 1 rfl) ?_
          refine va_get (D := (dC, dI)) (ci := 8) (v := .ref z2) (C := RMO) (T := TMO) (N := 24) hx hb hts (fun w h => List.mem_cons_of_mem _ (inMO w h)) hown hK hP 0 rfl rfl 4 (by decide) (hts _ (List.mem_cons_of_mem _ kw_513)) (fun _ h9 => h9) rfl dMO_join_76 ?_
          refine lv_iload_n hx hb dMO_join_79 rfl (lv_at hl 3 rfl) ?_
          refine hr_iald hx hb hK hP 1 0 rfl rfl (i := kk) (by omega) (by omega) dMO_join_80 ?_
          refine lv_iadd hx hb dMO_join_81 ?_
          refine hr_eqi (nI_add _ _) ?_
          refine lv_iload_n hx hb dMO_join_82 rfl (lv_at hl 0 rfl) ?_
          refine lv_isub hx hb dMO_join_83 ?_
          refine hr_eqi (pk_sub (by omega)) ?_
          refine lv_istore (lv' := [(4, .int (nI (((ff i) + (ff kk)) - (ff i)))), (3, .int (nI (ff i))), (0, .ref hM), (1, .int (nI i)), (2, .int (nI kk))]) hx hb dMO_join_84 hl (by decide) rfl (fun ls hl => ?_)
          refine lv_iconst (v := nI 0) hx hb dMO_join_86 (by decide +kernel) ?_
          refine lv_istore (lv' := [(5, .int (nI 0)), (4, .int (nI (((ff i) + (ff kk)) - (ff i)))), (3, .int (nI (ff i))), (0, .ref hM), (1, .int (nI i)), (2, .int (nI kk))]) hx hb dMO_join_87 hl (by decide) rfl (fun ls hl => ?_)
          rw [← joinF_0 ff (ff i + ff kk - ff i) (ff i)] at hP hD
          have loop_89 : ∀ (n9 : Nat) (j : Nat), j ≤ n → n + 1 ≤ j + n9 → ∀ (H : Heap) (locs : List Loc), va_P (dC, dI) vwCl [(hM, .inr (8, [.int (nI 0), .int (nI k), .int (nI n), .ref z1, .ref z2, .int (nI iS), .int (nI sc), .int (nI sn), .int (nI mv), .int (nI sg), .ref z3, .ref z4, .ref z5, .ref z6, .ref z7, .ref z8, .ref z9, .int (nI dn), .ref z10, .ref z11, .ref z12, .ref z13, .ref z14, .int (nI gc)])), (z2, .inl (cI, 24, .inl (fun j9 => nI ((joinF ff (ff i + ff kk - ff i) (ff i) j) j9))))] H → va_D A [(hM, .inr (8, [.int (nI 0), .int (nI k), .int (nI n), .ref z1, .ref z2, .int (nI iS), .int (nI sc), .int (nI sn), .int (nI mv), .int (nI sg), .ref z3, .ref z4, .ref z5, .ref z6, .ref z7, .ref z8, .ref z9, .int (nI dn), .ref z10, .ref z11, .ref z12, .ref z13, .ref z14, .int (nI gc)])), (z2, .inl (cI, 24, .inl (fun j9 => nI ((joinF ff (ff i + ff kk - ff i) (ff i) j) j9))))] → va_S A s.heap H locs → ∀ (ls : Array Slot), lv_has ls 6 [(5, .int (nI j)), (4, .int (nI (((ff i) + (ff kk)) - (ff i)))), (3, .int (nI (ff i))), (0, .ref hM), (1, .int (nI i)), (2, .int (nI kk))] → W p l e R s m args below meth c H locs 0 0 Q (F0 m 89 ls []) := by
            intro n9
            induction n9 with
            | zero =>
              intro j hj hmeas
              exact absurd hmeas (by omega)
            | succ n9 ih_89 =>
              intro j hj hmeas H locs hP hD hS ls hl
              refine lv_iload hx hb dMO_join_89 (lv_at hl 0 rfl) ?_
              refine lv_aload_n hx hb dMO_join_91 rfl (lv_at hl 3 rfl) ?_
              refine va_get (D := (dC, dI)) (ci := 8) (v := .int (nI n)) (C := RMO) (T := TMO) (N := 24) hx hb hts (fun w h => List.mem_cons_of_mem _ (inMO w h)) hown hK hP 0 rfl rfl 2 (by decide) (hts _ (List.mem_cons_of_mem _ kw_511)) (fun _ h9 => h9) rfl dMO_join_92 ?_
              refine hr_icmp_ge hx hb (x := j) (y := n) (by omega) (by omega) (tgt := 134) dMO_join_95 (by decide) (fun c_7 => ?_) (fun c_7 => ?_)
              · have ej : n = j := by omega
                subst ej
                refine lv_iconst (v := nI 1) hx hb dMO_join_134 (by decide +kernel) ?_
                have ez : joinN n ff (nI i) (nI kk) = some ((ff i), (ff i + ff kk - ff i)) := joinN_some hi hkk hn c_3 (by omega) (by omega)
                rw [← hQe]
                exact W.zret (ty := .boolean) (v := nI 1) hx hb hr (by decide +kernel) (fun t ht hW => ⟨⟨_, (), rfl, by rw [ez]; first | rfl | simp, by rw [ht, ez]; exact hP, by rw [ez]; exact hD⟩, hS.F ht⟩) hS.2.2 dMO_join_135
              · have hfj := hf j (by omega)
                have hjj : joinF ff (ff i + ff kk - ff i) (ff i) j j < 2 ^ 31 := by rw [joinF_at]; omega
                refine lv_aload_n hx hb dMO_join_98 rfl (lv_at hl 3 rfl) ?_
                refine va_get (D := (dC, dI)) (ci := 8) (v := .ref z2) (C := RMO) (T := TMO) (N := 24) hx hb hts (fun w h => List.mem_cons_of_mem _ (inMO w h)) hown hK hP 0 rfl rfl 4 (by decide) (hts _ (List.mem_cons_of_mem _ kw_513)) (fun _ h9 => h9) rfl dMO_join_99 ?_
                refine lv_iload hx hb dMO_join_102 (lv_at hl 0 rfl) ?_
                refine lv_aload_n hx hb dMO_join_104 rfl (lv_at hl 3 rfl) ?_
                refine va_get (D := (dC, dI)) (ci := 8) (v := .ref z2) (C := RMO) (T := TMO) (N := 24) hx hb hts (fun w h => List.mem_cons_of_mem _ (inMO w h)) hown hK hP 0 rfl rfl 4 (by decide) (hts _ (List.mem_cons_of_mem _ kw_513)) (fun _ h9 => h9) rfl dMO_join_105 ?_
                refine lv_iload hx hb dMO_join_108 (lv_at hl 0 rfl) ?_
                refine hr_iald hx hb hK hP 1 0 rfl rfl (i := j) (by omega) (by omega) dMO_join_110 ?_
                refine lv_iload hx hb dMO_join_111 (lv_at hl 1 rfl) ?_
                refine hr_icmp_ne hx hb (x := ((joinF ff (ff i + ff kk - ff i) (ff i) j) j)) (y := (((ff i) + (ff kk)) - (ff i))) (by omega) (by omega) (tgt := 120) dMO_join_113 (by decide) (fun c_8 => ?_) (fun c_8 => ?_)
                · refine lv_aload_n hx hb dMO_join_120 rfl (lv_at hl 3 rfl) ?_
                  refine va_get (D := (dC, dI)) (ci := 8) (v := .ref z2) (C := RMO) (T := TMO) (N := 24) hx hb hts (fun w h => List.mem_cons_of_mem _ (inMO w h)) hown hK hP 0 rfl rfl 4 (by decide) (hts _ (List.mem_cons_of_mem _ kw_513)) (fun _ h9 => h9) rfl dMO_join_121 ?_
                  refine lv_iload hx hb dMO_join_124 (lv_at hl 0 rfl) ?_
                  refine hr_iald hx hb hK hP 1 0 rfl rfl (i := j) (by omega) (by omega) dMO_join_126 ?_
                  refine hr_iastN hx hb hK hP hD hS 1 0 rfl rfl (i := j) (by omega) (by omega) dMO_join_127 (fun H locs hP hD hS => ?_)
                  have hP : va_P (dC, dI) vwCl [(hM, .inr (8, [.int (nI 0), .int (nI k), .int (nI n), .ref z1, .ref z2, .int (nI iS), .int (nI sc), .int (nI sn), .int (nI mv), .int (nI sg), .ref z3, .ref z4, .ref z5, .ref z6, .ref z7, .ref z8, .ref z9, .int (nI dn), .ref z10, .ref z11, .ref z12, .ref z13, .ref z14, .int (nI gc)])), (z2, .inl (cI, 24, .inl (fun j9 => nI ((va_up (joinF ff (ff i + ff kk - ff i) (ff i) j) j ((joinF ff (ff i + ff kk - ff i) (ff i) j) j)) j9))))] H := hP
                  have hD : va_D A [(hM, .inr (8, [.int (nI 0), .int (nI k), .int (nI n), .ref z1, .ref z2, .int (nI iS), .int (nI sc), .int (nI sn), .int (nI mv), .int (nI sg), .ref z3, .ref z4, .ref z5, .ref z6, .ref z7, .ref z8, .ref z9, .int (nI dn), .ref z10, .ref z11, .ref z12, .ref z13, .ref z14, .int (nI gc)])), (z2, .inl (cI, 24, .inl (fun j9 => nI ((va_up (joinF ff (ff i + ff kk - ff i) (ff i) j) j ((joinF ff (ff i + ff kk - ff i) (ff i) j) j)) j9))))] := hD
                  refine lv_iinc (v := nI (j + 1)) (lv' := [(5, .int (nI (j + 1))), (4, .int (nI (((ff i) + (ff kk)) - (ff i)))), (3, .int (nI (ff i))), (0, .ref hM), (1, .int (nI i)), (2, .int (nI kk))]) hx hb dMO_join_128 hl (k := 0) rfl (hr_inc _) (by decide) rfl (fun ls hl => ?_)
                  refine lv_goto (tgt := 89) hx hb dMO_join_131 (by decide) ?_
                  rw [joinF_miss2 (fun q => c_8 (by rw [joinF_at]; exact q))] at hP hD
                  exact ih_89 (j + 1) (by omega) (by omega) _ _ hP hD hS ls (lv_sub hl [0, 1, 2, 3, 4, 5] rfl)
                · refine lv_iload_n hx hb dMO_join_116 rfl (lv_at hl 2 rfl) ?_
                  refine lv_goto (tgt := 127) hx hb dMO_join_117 (by decide) ?_
                  refine hr_iastN hx hb hK hP hD hS 1 0 rfl rfl (i := j) (by omega) (by omega) dMO_join_127 (fun H locs hP hD hS => ?_)
                  have hP : va_P (dC, dI) vwCl [(hM, .inr (8, [.int (nI 0), .int (nI k), .int (nI n), .ref z1, .ref z2, .int (nI iS), .int (nI sc), .int (nI sn), .int (nI mv), .int (nI sg), .ref z3, .ref z4, .ref z5, .ref z6, .ref z7, .ref z8, .ref z9, .int (nI dn), .ref z10, .ref z11, .ref z12, .ref z13, .ref z14, .int (nI gc)])), (z2, .inl (cI, 24, .inl (fun j9 => nI ((va_up (joinF ff (ff i + ff kk - ff i) (ff i) j) j (ff i)) j9))))] H := hP
                  have hD : va_D A [(hM, .inr (8, [.int (nI 0), .int (nI k), .int (nI n), .ref z1, .ref z2, .int (nI iS), .int (nI sc), .int (nI sn), .int (nI mv), .int (nI sg), .ref z3, .ref z4, .ref z5, .ref z6, .ref z7, .ref z8, .ref z9, .int (nI dn), .ref z10, .ref z11, .ref z12, .ref z13, .ref z14, .int (nI gc)])), (z2, .inl (cI, 24, .inl (fun j9 => nI ((va_up (joinF ff (ff i + ff kk - ff i) (ff i) j) j (ff i)) j9))))] := hD
                  refine lv_iinc (v := nI (j + 1)) (lv' := [(5, .int (nI (j + 1))), (4, .int (nI (((ff i) + (ff kk)) - (ff i)))), (3, .int (nI (ff i))), (0, .ref hM), (1, .int (nI i)), (2, .int (nI kk))]) hx hb dMO_join_128 hl (k := 0) rfl (hr_inc _) (by decide) rfl (fun ls hl => ?_)
                  refine lv_goto (tgt := 89) hx hb dMO_join_131 (by decide) ?_
                  rw [joinF_hit (by rw [← c_8, joinF_at])] at hP hD
                  exact ih_89 (j + 1) (by omega) (by omega) _ _ hP hD hS ls (lv_sub hl [0, 1, 2, 3, 4, 5] rfl)
          exact loop_89 (n + 1) 0 (by omega) (by omega) _ _ hP hD hS ls (lv_sub hl [0, 1, 2, 3, 4, 5] rfl)
      · refine lv_iconst (v := nI 0) hx hb dMO_join_36 (by decide +kernel) ?_
        have ez : joinN n ff (nI i) (nI kk) = none := by simp [joinN, nI_clamp (show i < 2 ^ 31 by omega), nI_clamp (show kk < 2 ^ 31 by omega), c_3]
        rw [← hQe]
        exact W.zret (ty := .boolean) (v := nI 0) hx hb hr (by decide +kernel) (fun t ht hW => ⟨⟨_, (), rfl, by rw [ez]; first | rfl | simp, by rw [ht, ez]; exact hP, by rw [ez]; exact hD⟩, hS.F ht⟩) hS.2.2 dMO_join_37

set_option maxHeartbeats 400000 in
set_option maxRecDepth 100000 in
/-- shards -/
theorem c_MO_shards (l : Launch) (dC : Nat → ClassId) (dI : Nat → Nat → Nat) (cI cZ cG : ClassId) (hM : Nat) (z1 : Nat) (z2 : Nat) (z3 : Nat) (z4 : Nat) (z5 : Nat) (z6 : Nat) (z7 : Nat) (z8 : Nat) (z9 : Nat) (z10 : Nat) (z11 : Nat) (z12 : Nat) (z13 : Nat) (z14 : Nat) (th : Nat) (k : Nat) (n : Nat) (iS : Nat) (sc : Nat) (sn : Nat) (mv : Nat) (sg : Nat) (dn : Nat) (gc : Nat) (x : Int32) (sz : Nat) : Met l yMO_shards wsMO_shards ({ frames := 0, cells := 0, slots := 0, locals := 0 }) (va_Pc [.ref hM, .int x] (fun U => U.heap.size = sz ∧ va_P (dC, dI) vwCl [(hM, .inr (8, [.int (nI th), .int (nI k), .int (nI n), .ref z1, .ref z2, .int (nI iS), .int (nI sc), .int (nI sn), .int (nI mv), .int (nI sg), .ref z3, .ref z4, .ref z5, .ref z6, .ref z7, .ref z8, .ref z9, .int (nI dn), .ref z10, .ref z11, .ref z12, .ref z13, .ref z14, .int (nI gc)]))] U.heap ∧ KX dC dI cI cZ cG U ∧ va_D (fun _ => True) [(hM, .inr (8, [.int (nI th), .int (nI k), .int (nI n), .ref z1, .ref z2, .int (nI iS), .int (nI sc), .int (nI sn), .int (nI mv), .int (nI sg), .ref z3, .ref z4, .ref z5, .ref z6, .ref z7, .ref z8, .ref z9, .int (nI dn), .ref z10, .ref z11, .ref z12, .ref z13, .ref z14, .int (nI gc)]))])) (va_Qi (fun (r : Int32) (u : Unit) => r = nI ((shkN x).elim 0 (fun _ => 1))) (fun u t => va_P (dC, dI) vwCl [(hM, .inr (8, [.int (nI 0), .int (nI ((shkN x).elim k id)), .int (nI n), .ref z1, .ref z2, .int (nI iS), .int (nI sc), .int (nI sn), .int (nI mv), .int (nI sg), .ref z3, .ref z4, .ref z5, .ref z6, .ref z7, .ref z8, .ref z9, .int (nI dn), .ref z10, .ref z11, .ref z12, .ref z13, .ref z14, .int (nI gc)]))] t.heap ∧ va_D (va_A [(hM, .inr (8, [.int (nI th), .int (nI k), .int (nI n), .ref z1, .ref z2, .int (nI iS), .int (nI sc), .int (nI sn), .int (nI mv), .int (nI sg), .ref z3, .ref z4, .ref z5, .ref z6, .ref z7, .ref z8, .ref z9, .int (nI dn), .ref z10, .ref z11, .ref z12, .ref z13, .ref z14, .int (nI gc)]))] sz) [(hM, .inr (8, [.int (nI 0), .int (nI ((shkN x).elim k id)), .int (nI n), .ref z1, .ref z2, .int (nI iS), .int (nI sc), .int (nI sn), .int (nI mv), .int (nI sg), .ref z3, .ref z4, .ref z5, .ref z6, .ref z7, .ref z8, .ref z9, .int (nI dn), .ref z10, .ref z11, .ref z12, .ref z13, .ref z14, .int (nI gc)]))]) (va_A [(hM, .inr (8, [.int (nI th), .int (nI k), .int (nI n), .ref z1, .ref z2, .int (nI iS), .int (nI sc), .int (nI sn), .int (nI mv), .int (nI sg), .ref z3, .ref z4, .ref z5, .ref z6, .ref z7, .ref z8, .ref z9, .int (nI dn), .ref z10, .ref z11, .ref z12, .ref z13, .ref z14, .int (nI gc)]))] sz)) 0 0 (va_A [(hM, .inr (8, [.int (nI th), .int (nI k), .int (nI n), .ref z1, .ref z2, .int (nI iS), .int (nI sc), .int (nI sn), .int (nI mv), .int (nI sg), .ref z3, .ref z4, .ref z5, .ref z6, .ref z7, .ref z8, .ref z9, .int (nI dn), .ref z10, .ref z11, .ref z12, .ref z13, .ref z14, .int (nI gc)]))] sz) := by
  refine Met.ofW (cc := cMO_shards) (maxL := 2) (ret := (some .boolean)) (by decide) rfl ?_
  intro p e s m args below meth c s₁ B hml hv
  obtain ⟨rfl, hsz, hP, hKX, hD0⟩ := hv
  have hK := hKX.1
  have hx := B.exec
  have hb := B.bytes
  have hr := B.returns
  have hts := atoms_spec (ws := wsMO_shards) B.pre
  have hown : s.vm.findClass RMO = some m.cls := findClass_of_methodNamed B.named
  have hlocks := B.notSynchronized
  subst hsz
  have hD := hD0.self (sz := s.heap.size)
  generalize hAe : va_A [(hM, .inr (8, [.int (nI th), .int (nI k), .int (nI n), .ref z1, .ref z2, .int (nI iS), .int (nI sc), .int (nI sn), .int (nI mv), .int (nI sg), .ref z3, .ref z4, .ref z5, .ref z6, .ref z7, .ref z8, .ref z9, .int (nI dn), .ref z10, .ref z11, .ref z12, .ref z13, .ref z14, .int (nI gc)]))] s.heap.size = A at hD ⊢
  have hA : ∀ q : Nat, s.heap.size ≤ q → A q := fun q h => by rw [← hAe]; exact Or.inr h
  have hS : va_S A s.heap s.heap [] := va_S.rf
  have hl := lv_entry ([.ref hM, .int x]) (n := 2) (Nat.le_of_ble_eq_true rfl)
  rw [lg_entry_eq]
  generalize (lg_sl ([.ref hM, .int x]) ++ List.replicate (2 - (lg_sl ([.ref hM, .int x])).length) Slot.unset).toArray = ls at hl ⊢
  have hl : lv_has ls 2 [(0, .ref hM), (1, .int x)] := hl
  generalize hRe : (headSpec wsMO_shards ({ frames := 0, cells := 0, slots := 0, locals := 0 })).room = R
  have hRf : 0 ≤ R.frames := by rw [← hRe]; exact Nat.le_refl _
  have hRl : 0 ≤ R.locals := by rw [← hRe]; exact Nat.le_refl _
  have hRc : 0 ≤ R.cells := by rw [← hRe]; exact Nat.le_refl _
  have hRs : 0 ≤ R.slots := by rw [← hRe]; exact Nat.le_refl _
  generalize hargs : (List.toArray [.ref hM, .int x] : Array Value) = args at hts ⊢
  generalize hQe : MQ below _ args s _ _ _ = Q
  refine lv_aload_n hx hb dMO_shards_0 rfl (lv_at hl 0 rfl) ?_
  refine lv_iconst (v := nI 0) hx hb dMO_shards_1 (by decide +kernel) ?_
  refine va_put (D := (dC, dI)) (ci := 8) (v := .int (nI 0)) (ty := .int) (C := RMO) (T := TMO) (N := 24) hx hb hts (fun w h => List.mem_cons_of_mem _ (inMO w h)) tyMO tyMO_ok nmMO hown hK hP hD hS 0 rfl rfl 0 (by decide) (hts _ (List.mem_cons_of_mem _ kw_509)) (fun _ h9 => h9) rfl (by decide +kernel) rfl rfl (Nat.le_of_ble_eq_true rfl) dMO_shards_2 (fun H locs hP hD hS => ?_)
  have hP : va_P (dC, dI) vwCl [(hM, .inr (8, [.int (nI 0), .int (nI k), .int (nI n), .ref z1, .ref z2, .int (nI iS), .int (nI sc), .int (nI sn), .int (nI mv), .int (nI sg), .ref z3, .ref z4, .ref z5, .ref z6, .ref z7, .ref z8, .ref z9, .int (nI dn), .ref z10, .ref z11, .ref z12, .ref z13, .ref z14, .int (nI gc)]))] H := hP
  have hD : va_D A [(hM, .inr (8, [.int (nI 0), .int (nI k), .int (nI n), .ref z1, .ref z2, .int (nI iS), .int (nI sc), .int (nI sn), .int (nI mv), .int (nI sg), .ref z3, .ref z4, .ref z5, .ref z6, .ref z7, .ref z8, .ref z9, .int (nI dn), .ref z10, .ref z11, .ref z12, .ref z13, .ref z14, .int (nI gc)]))] := hD
  refine lv_iload_n hx hb dMO_shards_5 rfl (lv_at hl 1 rfl) ?_
  refine lv_iconst (v := nI 1) hx hb dMO_shards_6 (by decide +kernel) ?_
  refine lv_icmp_lt (tgt := 15) hx hb dMO_shards_7 (by decide) (fun c_1 => ?_) (fun c_1 => ?_)
  · refine lv_iconst (v := nI 0) hx hb dMO_shards_15 (by decide +kernel) ?_
    have ez : shkN x = none := by simp [shkN, c_1]
    rw [← hQe]
    exact W.zret (ty := .boolean) (v := nI 0) hx hb hr (by decide +kernel) (fun t ht hW => ⟨⟨_, (), rfl, by rw [ez]; first | rfl | simp, by rw [ht, ez]; exact hP, by rw [ez]; exact hD⟩, hS.F ht⟩) hS.2.2 dMO_shards_16
  · refine lv_iload_n hx hb dMO_shards_10 rfl (lv_at hl 1 rfl) ?_
    refine lv_iconst (v := nI 4) hx hb dMO_shards_11 (by decide +kernel) ?_
    refine lv_icmp_le (tgt := 17) hx hb dMO_shards_12 (by decide) (fun c_2 => ?_) (fun c_2 => ?_)
    · obtain ⟨q, hq1, hq4, rfl⟩ := shk_ok c_1 c_2
      refine lv_aload_n hx hb dMO_shards_17 rfl (lv_at hl 0 rfl) ?_
      refine lv_iload_n hx hb dMO_shards_18 rfl (lv_at hl 1 rfl) ?_
      refine va_put (D := (dC, dI)) (ci := 8) (v := .int (nI q)) (ty := .int) (C := RMO) (T := TMO) (N := 24) hx hb hts (fun w h => List.mem_cons_of_mem _ (inMO w h)) tyMO tyMO_ok nmMO hown hK hP hD hS 0 rfl rfl 1 (by decide) (hts _ (List.mem_cons_of_mem _ kw_510)) (fun _ h9 => h9) rfl (by decide +kernel) rfl rfl (Nat.le_of_ble_eq_true rfl) dMO_shards_19 (fun H locs hP hD hS => ?_)
      have hP : va_P (dC, dI) vwCl [(hM, .inr (8, [.int (nI 0), .int (nI q), .int (nI n), .ref z1, .ref z2, .int (nI iS), .int (nI sc), .int (nI sn), .int (nI mv), .int (nI sg), .ref z3, .ref z4, .ref z5, .ref z6, .ref z7, .ref z8, .ref z9, .int (nI dn), .ref z10, .ref z11, .ref z12, .ref z13, .ref z14, .int (nI gc)]))] H := hP
      have hD : va_D A [(hM, .inr (8, [.int (nI 0), .int (nI q), .int (nI n), .ref z1, .ref z2, .int (nI iS), .int (nI sc), .int (nI sn), .int (nI mv), .int (nI sg), .ref z3, .ref z4, .ref z5, .ref z6, .ref z7, .ref z8, .ref z9, .int (nI dn), .ref z10, .ref z11, .ref z12, .ref z13, .ref z14, .int (nI gc)]))] := hD
      refine lv_iconst (v := nI 1) hx hb dMO_shards_22 (by decide +kernel) ?_
      have ez : shkN (nI q) = some q := by simp [shkN, c_1, c_2, nI_clamp (show q < 2 ^ 31 by omega)]
      rw [← hQe]
      exact W.zret (ty := .boolean) (v := nI 1) hx hb hr (by decide +kernel) (fun t ht hW => ⟨⟨_, (), rfl, by rw [ez]; first | rfl | simp, by rw [ht, ez]; exact hP, by rw [ez]; exact hD⟩, hS.F ht⟩) hS.2.2 dMO_shards_23
    · refine lv_iconst (v := nI 0) hx hb dMO_shards_15 (by decide +kernel) ?_
      have ez : shkN x = none := by simp [shkN, c_1, c_2]
      rw [← hQe]
      exact W.zret (ty := .boolean) (v := nI 0) hx hb hr (by decide +kernel) (fun t ht hW => ⟨⟨_, (), rfl, by rw [ez]; first | rfl | simp, by rw [ht, ez]; exact hP, by rw [ez]; exact hD⟩, hS.F ht⟩) hS.2.2 dMO_shards_16

set_option maxHeartbeats 400000 in
set_option maxRecDepth 100000 in
/-- mean -/
theorem c_MO_mean (l : Launch) (dC : Nat → ClassId) (dI : Nat → Nat → Nat) (cI cZ cG : ClassId) (hM : Nat) (z1 : Nat) (z2 : Nat) (z3 : Nat) (z4 : Nat) (z5 : Nat) (z6 : Nat) (z7 : Nat) (z8 : Nat) (z9 : Nat) (z10 : Nat) (z11 : Nat) (z12 : Nat) (z13 : Nat) (z14 : Nat) (th : Nat) (k : Nat) (n : Nat) (iS : Nat) (sc : Nat) (sn : Nat) (mv : Nat) (sg : Nat) (dn : Nat) (gc : Nat) (tf : Nat → Nat) (sz : Nat) (hn : n ≤ 24) (ht : ∀ j, j < n → tf j ≤ 100000) : Met l yMO_mean wsMO_mean ({ frames := 0, cells := 0, slots := 0, locals := 0 }) (va_Pc [.ref hM] (fun U => U.heap.size = sz ∧ va_P (dC, dI) vwCl [(hM, .inr (8, [.int (nI th), .int (nI k), .int (nI n), .ref z1, .ref z2, .int (nI iS), .int (nI sc), .int (nI sn), .int (nI mv), .int (nI sg), .ref z3, .ref z4, .ref z5, .ref z6, .ref z7, .ref z8, .ref z9, .int (nI dn), .ref z10, .ref z11, .ref z12, .ref z13, .ref z14, .int (nI gc)])), (z1, .inl (cI, 24, .inl (fun j9 => nI (tf j9))))] U.heap ∧ KX dC dI cI cZ cG U ∧ va_D (fun _ => True) [(hM, .inr (8, [.int (nI th), .int (nI k), .int (nI n), .ref z1, .ref z2, .int (nI iS), .int (nI sc), .int (nI sn), .int (nI mv), .int (nI sg), .ref z3, .ref z4, .ref z5, .ref z6, .ref z7, .ref z8, .ref z9, .int (nI dn), .ref z10, .ref z11, .ref z12, .ref z13, .ref z14, .int (nI gc)])), (z1, .inl (cI, 24, .inl (fun j9 => nI (tf j9))))])) (va_Qi (fun (r : Int32) (u : Unit) => r = nI (meanN tf n)) (fun u t => va_P (dC, dI) vwCl [(hM, .inr (8, [.int (nI 0), .int (nI k), .int (nI n), .ref z1, .ref z2, .int (nI iS), .int (nI sc), .int (nI sn), .int (nI mv), .int (nI sg), .ref z3, .ref z4, .ref z5, .ref z6, .ref z7, .ref z8, .ref z9, .int (nI dn), .ref z10, .ref z11, .ref z12, .ref z13, .ref z14, .int (nI gc)])), (z1, .inl (cI, 24, .inl (fun j9 => nI (tf j9))))] t.heap ∧ va_D (va_A [(hM, .inr (8, [.int (nI th), .int (nI k), .int (nI n), .ref z1, .ref z2, .int (nI iS), .int (nI sc), .int (nI sn), .int (nI mv), .int (nI sg), .ref z3, .ref z4, .ref z5, .ref z6, .ref z7, .ref z8, .ref z9, .int (nI dn), .ref z10, .ref z11, .ref z12, .ref z13, .ref z14, .int (nI gc)])), (z1, .inl (cI, 24, .inl (fun j9 => nI (tf j9))))] sz) [(hM, .inr (8, [.int (nI 0), .int (nI k), .int (nI n), .ref z1, .ref z2, .int (nI iS), .int (nI sc), .int (nI sn), .int (nI mv), .int (nI sg), .ref z3, .ref z4, .ref z5, .ref z6, .ref z7, .ref z8, .ref z9, .int (nI dn), .ref z10, .ref z11, .ref z12, .ref z13, .ref z14, .int (nI gc)])), (z1, .inl (cI, 24, .inl (fun j9 => nI (tf j9))))]) (va_A [(hM, .inr (8, [.int (nI th), .int (nI k), .int (nI n), .ref z1, .ref z2, .int (nI iS), .int (nI sc), .int (nI sn), .int (nI mv), .int (nI sg), .ref z3, .ref z4, .ref z5, .ref z6, .ref z7, .ref z8, .ref z9, .int (nI dn), .ref z10, .ref z11, .ref z12, .ref z13, .ref z14, .int (nI gc)])), (z1, .inl (cI, 24, .inl (fun j9 => nI (tf j9))))] sz)) 0 0 (va_A [(hM, .inr (8, [.int (nI th), .int (nI k), .int (nI n), .ref z1, .ref z2, .int (nI iS), .int (nI sc), .int (nI sn), .int (nI mv), .int (nI sg), .ref z3, .ref z4, .ref z5, .ref z6, .ref z7, .ref z8, .ref z9, .int (nI dn), .ref z10, .ref z11, .ref z12, .ref z13, .ref z14, .int (nI gc)])), (z1, .inl (cI, 24, .inl (fun j9 => nI (tf j9))))] sz) := by
  refine Met.ofW (cc := cMO_mean) (maxL := 4) (ret := (some .int)) (by decide) rfl ?_
  intro p e s m args below meth c s₁ B hml hv
  obtain ⟨rfl, hsz, hP, hKX, hD0⟩ := hv
  have hK := hKX.1
  have hx := B.exec
  have hb := B.bytes
  have hr := B.returns
  have hts := atoms_spec (ws := wsMO_mean) B.pre
  have hown : s.vm.findClass RMO = some m.cls := findClass_of_methodNamed B.named
  have hlocks := B.notSynchronized
  subst hsz
  have hD := hD0.self (sz := s.heap.size)
  generalize hAe : va_A [(hM, .inr (8, [.int (nI th), .int (nI k), .int (nI n), .ref z1, .ref z2, .int (nI iS), .int (nI sc), .int (nI sn), .int (nI mv), .int (nI sg), .ref z3, .ref z4, .ref z5, .ref z6, .ref z7, .ref z8, .ref z9, .int (nI dn), .ref z10, .ref z11, .ref z12, .ref z13, .ref z14, .int (nI gc)])), (z1, .inl (cI, 24, .inl (fun j9 => nI (tf j9))))] s.heap.size = A at hD ⊢
  have hA : ∀ q : Nat, s.heap.size ≤ q → A q := fun q h => by rw [← hAe]; exact Or.inr h
  have hS : va_S A s.heap s.heap [] := va_S.rf
  have hl := lv_entry ([.ref hM]) (n := 4) (Nat.le_of_ble_eq_true rfl)
  rw [lg_entry_eq]
  generalize (lg_sl ([.ref hM]) ++ List.replicate (4 - (lg_sl ([.ref hM])).length) Slot.unset).toArray = ls at hl ⊢
  have hl : lv_has ls 4 [(0, .ref hM)] := hl
  generalize hRe : (headSpec wsMO_mean ({ frames := 0, cells := 0, slots := 0, locals := 0 })).room = R
  have hRf : 0 ≤ R.frames := by rw [← hRe]; exact Nat.le_refl _
  have hRl : 0 ≤ R.locals := by rw [← hRe]; exact Nat.le_refl _
  have hRc : 0 ≤ R.cells := by rw [← hRe]; exact Nat.le_refl _
  have hRs : 0 ≤ R.slots := by rw [← hRe]; exact Nat.le_refl _
  generalize hargs : (List.toArray [.ref hM] : Array Value) = args at hts ⊢
  generalize hQe : MQ below _ args s _ _ _ = Q
  refine lv_aload_n hx hb dMO_mean_0 rfl (lv_at hl 0 rfl) ?_
  refine lv_iconst (v := nI 0) hx hb dMO_mean_1 (by decide +kernel) ?_
  refine va_put (D := (dC, dI)) (ci := 8) (v := .int (nI 0)) (ty := .int) (C := RMO) (T := TMO) (N := 24) hx hb hts (fun w h => List.mem_cons_of_mem _ (inMO w h)) tyMO tyMO_ok nmMO hown hK hP hD hS 0 rfl rfl 0 (by decide) (hts _ (List.mem_cons_of_mem _ kw_509)) (fun _ h9 => h9) rfl (by decide +kernel) rfl rfl (Nat.le_of_ble_eq_true rfl) dMO_mean_2 (fun H locs hP hD hS => ?_)
  have hP : va_P (dC, dI) vwCl [(hM, .inr (8, [.int (nI 0), .int (nI k), .int (nI n), .ref z1, .ref z2, .int (nI iS), .int (nI sc), .int (nI sn), .int (nI mv), .int (nI sg), .ref z3, .ref z4, .ref z5, .ref z6, .ref z7, .ref z8, .ref z9, .int (nI dn), .ref z10, .ref z11, .ref z12, .ref z13, .ref z14, .int (nI gc)])), (z1, .inl (cI, 24, .inl (fun j9 => nI (tf j9))))] H := hP
  have hD : va_D A [(hM, .inr (8, [.int (nI 0), .int (nI k), .int (nI n), .ref z1, .ref z2, .int (nI iS), .int (nI sc), .int (nI sn), .int (nI mv), .int (nI sg), .ref z3, .ref z4, .ref z5, .ref z6, .ref z7, .ref z8, .ref z9, .int (nI dn), .ref z10, .ref z11, .ref z12, .ref z13, .ref z14, .int (nI gc)])), (z1, .inl (cI, 24, .inl (fun j9 => nI (tf j9))))] := hD
  refine lv_iconst (v := nI 0) hx hb dMO_mean_5 (by decide +kernel) ?_
  refine lv_istore_n (lv' := [(1, .int (nI 0)), (0, .ref hM)]) hx hb dMO_mean_6 rfl hl (by decide) rfl (fun ls hl => ?_)
  refine lv_iconst (v := nI 0) hx hb dMO_mean_7 (by decide +kernel) ?_
  refine lv_istore_n (lv' := [(2, .int (nI 0)), (1, .int (nI 0)), (0, .ref hM)]) hx hb dMO_mean_8 rfl hl (by decide) rfl (fun ls hl => ?_)
  refine lv_iconst (v := nI 0) hx hb dMO_mean_9 (by decide +kernel) ?_
  refine lv_istore_n (lv' := [(3, .int (nI 0)), (2, .int (nI 0)), (1, .int (nI 0)), (0, .ref hM)]) hx hb dMO_mean_10 rfl hl (by decide) rfl (fun ls hl => ?_)
  have loop_11 : ∀ (n9 : Nat) (i : Nat) (s1 : Nat) (s2 : Nat), i ≤ n → s1 = sumT tf i → s2 = cntT tf i → n + 1 ≤ i + n9 → ∀ (H : Heap) (locs : List Loc), va_P (dC, dI) vwCl [(hM, .inr (8, [.int (nI 0), .int (nI k), .int (nI n), .ref z1, .ref z2, .int (nI iS), .int (nI sc), .int (nI sn), .int (nI mv), .int (nI sg), .ref z3, .ref z4, .ref z5, .ref z6, .ref z7, .ref z8, .ref z9, .int (nI dn), .ref z10, .ref z11, .ref z12, .ref z13, .ref z14, .int (nI gc)])), (z1, .inl (cI, 24, .inl (fun j9 => nI (tf j9))))] H → va_D A [(hM, .inr (8, [.int (nI 0), .int (nI k), .int (nI n), .ref z1, .ref z2, .int (nI iS), .int (nI sc), .int (nI sn), .int (nI mv), .int (nI sg), .ref z3, .ref z4, .ref z5, .ref z6, .ref z7, .ref z8, .ref z9, .int (nI dn), .ref z10, .ref z11, .ref z12, .ref z13, .ref z14, .int (nI gc)])), (z1, .inl (cI, 24, .inl (fun j9 => nI (tf j9))))] → va_S A s.heap H locs → ∀ (ls : Array Slot), lv_has ls 4 [(3, .int (nI i)), (2, .int (nI s2)), (1, .int (nI s1)), (0, .ref hM)] → W p l e R s m args below meth c H locs 0 0 Q (F0 m 11 ls []) := by
    intro n9
    induction n9 with
    | zero =>
      intro i s1 s2 hi h1 h2 hmeas
      exact absurd hmeas (by omega)
    | succ n9 ih_11 =>
      intro i s1 s2 hi h1 h2 hmeas H locs hP hD hS ls hl
      have hs := sumT_le (f := tf) (B := 100000) (i := i) (fun j hj => ht j (by omega))
      have hc := cntT_le tf i
      refine lv_iload_n hx hb dMO_mean_11 rfl (lv_at hl 0 rfl) ?_
      refine lv_aload_n hx hb dMO_mean_12 rfl (lv_at hl 3 rfl) ?_
      refine va_get (D := (dC, dI)) (ci := 8) (v := .int (nI n)) (C := RMO) (T := TMO) (N := 24) hx hb hts (fun w h => List.mem_cons_of_mem _ (inMO w h)) hown hK hP 0 rfl rfl 2 (by decide) (hts _ (List.mem_cons_of_mem _ kw_511)) (fun _ h9 => h9) rfl dMO_mean_13 ?_
      refine hr_icmp_ge hx hb (x := i) (y := n) (by omega) (by omega) (tgt := 51) dMO_mean_16 (by decide) (fun c_1 => ?_) (fun c_1 => ?_)
      · have ei : n = i := by omega
        subst ei
        refine lv_iload_n hx hb dMO_mean_51 rfl (lv_at hl 1 rfl) ?_
        refine hr_if_ne hx hb (x := s2) (by omega) (tgt := 59) dMO_mean_52 (by decide) (fun c_2 => ?_) (fun c_2 => ?_)
        · refine lv_iload_n hx hb dMO_mean_59 rfl (lv_at hl 2 rfl) ?_
          refine lv_iload_n hx hb dMO_mean_60 rfl (lv_at hl 1 rfl) ?_
          refine lv_iadd hx hb dMO_mean_61 ?_
          refine hr_eqi (nI_add _ _) ?_
          refine lv_iconst (v := nI 1) hx hb dMO_mean_62 (by decide +kernel) ?_
          refine lv_isub hx hb dMO_mean_63 ?_
          refine hr_eqi (pk_sub (by omega)) ?_
          refine lv_iload_n hx hb dMO_mean_64 rfl (lv_at hl 1 rfl) ?_
          refine lv_idiv hx hb dMO_mean_65 (nI_ne0 (by omega) (by omega)) ?_
          refine hr_eqi (pk_div (by omega) (by omega) (by omega)) ?_
          rw [← hQe]
          exact W.iret (v := nI (((s1 + s2) - 1) / s2)) hx hb hr (fun t ht hW => ⟨⟨_, (), rfl, by rw [meanN, if_neg (by omega), h1, h2], by rw [ht]; exact hP, hD⟩, hS.F ht⟩) hS.2.2 dMO_mean_66
        · refine lv_iconst (v := nI 1) hx hb dMO_mean_55 (by decide +kernel) ?_
          refine lv_goto (tgt := 66) hx hb dMO_mean_56 (by decide) ?_
          rw [← hQe]
          exact W.iret (v := nI 1) hx hb hr (fun t ht hW => ⟨⟨_, (), rfl, by rw [meanN, if_pos (by omega)], by rw [ht]; exact hP, hD⟩, hS.F ht⟩) hS.2.2 dMO_mean_66
      · have ht1 := ht i (by omega)
        refine lv_iload_n hx hb dMO_mean_19 rfl (lv_at hl 2 rfl) ?_
        refine lv_aload_n hx hb dMO_mean_20 rfl (lv_at hl 3 rfl) ?_
        refine va_get (D := (dC, dI)) (ci := 8) (v := .ref z1) (C := RMO) (T := TMO) (N := 24) hx hb hts (fun w h => List.mem_cons_of_mem _ (inMO w h)) hown hK hP 0 rfl rfl 3 (by decide) (hts _ (List.mem_cons_of_mem _ kw_512)) (fun _ h9 => h9) rfl dMO_mean_21 ?_
        refine lv_iload_n hx hb dMO_mean_24 rfl (lv_at hl 0 rfl) ?_
        refine hr_iald hx hb hK hP 1 0 rfl rfl (i := i) (by omega) (by omega) dMO_mean_25 ?_
        refine lv_iadd hx hb dMO_mean_26 ?_
        refine hr_eqi (nI_add _ _) ?_
        refine lv_istore_n (lv' := [(1, .int (nI (s1 + (tf i)))), (3, .int (nI i)), (2, .int (nI s2)), (0, .ref hM)]) hx hb dMO_mean_27 rfl hl (by decide) rfl (fun ls hl => ?_)
        refine lv_iload_n hx hb dMO_mean_28 rfl (lv_at hl 2 rfl) ?_
        refine lv_aload_n hx hb dMO_mean_29 rfl (lv_at hl 3 rfl) ?_
        refine va_get (D := (dC, dI)) (ci := 8) (v := .ref z1) (C := RMO) (T := TMO) (N := 24) hx hb hts (fun w h => List.mem_cons_of_mem _ (inMO w h)) hown hK hP 0 rfl rfl 3 (by decide) (hts _ (List.mem_cons_of_mem _ kw_512)) (fun _ h9 => h9) rfl dMO_mean_30 ?_
        refine lv_iload_n hx hb dMO_mean_33 rfl (lv_at hl 1 rfl) ?_
        refine hr_iald hx hb hK hP 1 0 rfl rfl (i := i) (by omega) (by omega) dMO_mean_34 ?_
        refine hr_if_le hx hb (x := (tf i)) (by omega) (tgt := 42) dMO_mean_35 (by decide) (fun c_3 => ?_) (fun c_3 => ?_)
        · refine lv_iconst (v := nI 0) hx hb dMO_mean_42 (by decide +kernel) ?_
          refine lv_iadd hx hb dMO_mean_43 ?_
          refine hr_eqi (nI_add _ _) ?_
          refine lv_istore_n (lv' := [(2, .int (nI (s2 + 0))), (1, .int (nI (s1 + (tf i)))), (3, .int (nI i)), (0, .ref hM)]) hx hb dMO_mean_44 rfl hl (by decide) rfl (fun ls hl => ?_)
          refine lv_iinc (v := nI (i + 1)) (lv' := [(3, .int (nI (i + 1))), (2, .int (nI (s2 + 0))), (1, .int (nI (s1 + (tf i)))), (0, .ref hM)]) hx hb dMO_mean_45 hl (k := 2) rfl (hr_inc _) (by decide) rfl (fun ls hl => ?_)
          refine lv_goto (tgt := 11) hx hb dMO_mean_48 (by decide) ?_
          exact ih_11 (i + 1) (s1 + (tf i)) (s2 + 0) (by omega) (by rw [h1]; rfl) (by rw [h2]; simp [cntT, show  tf i = 0 by omega]) (by omega) _ _ hP hD hS ls (lv_sub hl [0, 1, 2, 3] rfl)
        · refine lv_iconst (v := nI 1) hx hb dMO_mean_38 (by decide +kernel) ?_
          refine lv_goto (tgt := 43) hx hb dMO_mean_39 (by decide) ?_
          refine lv_iadd hx hb dMO_mean_43 ?_
          refine hr_eqi (nI_add _ _) ?_
          refine lv_istore_n (lv' := [(2, .int (nI (s2 + 1))), (1, .int (nI (s1 + (tf i)))), (3, .int (nI i)), (0, .ref hM)]) hx hb dMO_mean_44 rfl hl (by decide) rfl (fun ls hl => ?_)
          refine lv_iinc (v := nI (i + 1)) (lv' := [(3, .int (nI (i + 1))), (2, .int (nI (s2 + 1))), (1, .int (nI (s1 + (tf i)))), (0, .ref hM)]) hx hb dMO_mean_45 hl (k := 2) rfl (hr_inc _) (by decide) rfl (fun ls hl => ?_)
          refine lv_goto (tgt := 11) hx hb dMO_mean_48 (by decide) ?_
          exact ih_11 (i + 1) (s1 + (tf i)) (s2 + 1) (by omega) (by rw [h1]; rfl) (by rw [h2]; simp [cntT, show ¬ tf i = 0 by omega]) (by omega) _ _ hP hD hS ls (lv_sub hl [0, 1, 2, 3] rfl)
  exact loop_11 (n + 1) 0 0 0 (by omega) (rfl) (rfl) (by omega) _ _ hP hD hS ls (lv_sub hl [0, 1, 2, 3] rfl)

set_option maxHeartbeats 400000 in
set_option maxRecDepth 100000 in
/-- groups -/
theorem c_MO_groups (l : Launch) (dC : Nat → ClassId) (dI : Nat → Nat → Nat) (cI cZ cG : ClassId) (hM : Nat) (z1 : Nat) (z2 : Nat) (z3 : Nat) (z4 : Nat) (z5 : Nat) (z6 : Nat) (z7 : Nat) (z8 : Nat) (z9 : Nat) (z10 : Nat) (z11 : Nat) (z12 : Nat) (z13 : Nat) (z14 : Nat) (th : Nat) (k : Nat) (n : Nat) (iS : Nat) (sc : Nat) (sn : Nat) (mv : Nat) (sg : Nat) (dn : Nat) (gc : Nat) (ff : Nat → Nat) (sz : Nat) (hn : n ≤ 24) (hf : ∀ j, j < n → ff j ≤ j) : Met l yMO_groups wsMO_groups ({ frames := 0, cells := 0, slots := 0, locals := 0 }) (va_Pc [.ref hM] (fun U => U.heap.size = sz ∧ va_P (dC, dI) vwCl [(hM, .inr (8, [.int (nI th), .int (nI k), .int (nI n), .ref z1, .ref z2, .int (nI iS), .int (nI sc), .int (nI sn), .int (nI mv), .int (nI sg), .ref z3, .ref z4, .ref z5, .ref z6, .ref z7, .ref z8, .ref z9, .int (nI dn), .ref z10, .ref z11, .ref z12, .ref z13, .ref z14, .int (nI gc)])), (z2, .inl (cI, 24, .inl (fun j9 => nI (ff j9))))] U.heap ∧ KX dC dI cI cZ cG U ∧ va_D (fun _ => True) [(hM, .inr (8, [.int (nI th), .int (nI k), .int (nI n), .ref z1, .ref z2, .int (nI iS), .int (nI sc), .int (nI sn), .int (nI mv), .int (nI sg), .ref z3, .ref z4, .ref z5, .ref z6, .ref z7, .ref z8, .ref z9, .int (nI dn), .ref z10, .ref z11, .ref z12, .ref z13, .ref z14, .int (nI gc)])), (z2, .inl (cI, 24, .inl (fun j9 => nI (ff j9))))])) (va_Qi (fun (r : Int32) (u : Unit) => r = nI (grpN ff n)) (fun u t => va_P (dC, dI) vwCl [(hM, .inr (8, [.int (nI 0), .int (nI k), .int (nI n), .ref z1, .ref z2, .int (nI iS), .int (nI sc), .int (nI sn), .int (nI mv), .int (nI sg), .ref z3, .ref z4, .ref z5, .ref z6, .ref z7, .ref z8, .ref z9, .int (nI dn), .ref z10, .ref z11, .ref z12, .ref z13, .ref z14, .int (nI gc)])), (z2, .inl (cI, 24, .inl (fun j9 => nI (ff j9))))] t.heap ∧ va_D (va_A [(hM, .inr (8, [.int (nI th), .int (nI k), .int (nI n), .ref z1, .ref z2, .int (nI iS), .int (nI sc), .int (nI sn), .int (nI mv), .int (nI sg), .ref z3, .ref z4, .ref z5, .ref z6, .ref z7, .ref z8, .ref z9, .int (nI dn), .ref z10, .ref z11, .ref z12, .ref z13, .ref z14, .int (nI gc)])), (z2, .inl (cI, 24, .inl (fun j9 => nI (ff j9))))] sz) [(hM, .inr (8, [.int (nI 0), .int (nI k), .int (nI n), .ref z1, .ref z2, .int (nI iS), .int (nI sc), .int (nI sn), .int (nI mv), .int (nI sg), .ref z3, .ref z4, .ref z5, .ref z6, .ref z7, .ref z8, .ref z9, .int (nI dn), .ref z10, .ref z11, .ref z12, .ref z13, .ref z14, .int (nI gc)])), (z2, .inl (cI, 24, .inl (fun j9 => nI (ff j9))))]) (va_A [(hM, .inr (8, [.int (nI th), .int (nI k), .int (nI n), .ref z1, .ref z2, .int (nI iS), .int (nI sc), .int (nI sn), .int (nI mv), .int (nI sg), .ref z3, .ref z4, .ref z5, .ref z6, .ref z7, .ref z8, .ref z9, .int (nI dn), .ref z10, .ref z11, .ref z12, .ref z13, .ref z14, .int (nI gc)])), (z2, .inl (cI, 24, .inl (fun j9 => nI (ff j9))))] sz)) 0 0 (va_A [(hM, .inr (8, [.int (nI th), .int (nI k), .int (nI n), .ref z1, .ref z2, .int (nI iS), .int (nI sc), .int (nI sn), .int (nI mv), .int (nI sg), .ref z3, .ref z4, .ref z5, .ref z6, .ref z7, .ref z8, .ref z9, .int (nI dn), .ref z10, .ref z11, .ref z12, .ref z13, .ref z14, .int (nI gc)])), (z2, .inl (cI, 24, .inl (fun j9 => nI (ff j9))))] sz) := by
  refine Met.ofW (cc := cMO_groups) (maxL := 3) (ret := (some .int)) (by decide) rfl ?_
  intro p e s m args below meth c s₁ B hml hv
  obtain ⟨rfl, hsz, hP, hKX, hD0⟩ := hv
  have hK := hKX.1
  have hx := B.exec
  have hb := B.bytes
  have hr := B.returns
  have hts := atoms_spec (ws := wsMO_groups) B.pre
  have hown : s.vm.findClass RMO = some m.cls := findClass_of_methodNamed B.named
  have hlocks := B.notSynchronized
  subst hsz
  have hD := hD0.self (sz := s.heap.size)
  generalize hAe : va_A [(hM, .inr (8, [.int (nI th), .int (nI k), .int (nI n), .ref z1, .ref z2, .int (nI iS), .int (nI sc), .int (nI sn), .int (nI mv), .int (nI sg), .ref z3, .ref z4, .ref z5, .ref z6, .ref z7, .ref z8, .ref z9, .int (nI dn), .ref z10, .ref z11, .ref z12, .ref z13, .ref z14, .int (nI gc)])), (z2, .inl (cI, 24, .inl (fun j9 => nI (ff j9))))] s.heap.size = A at hD ⊢
  have hA : ∀ q : Nat, s.heap.size ≤ q → A q := fun q h => by rw [← hAe]; exact Or.inr h
  have hS : va_S A s.heap s.heap [] := va_S.rf
  have hl := lv_entry ([.ref hM]) (n := 3) (Nat.le_of_ble_eq_true rfl)
  rw [lg_entry_eq]
  generalize (lg_sl ([.ref hM]) ++ List.replicate (3 - (lg_sl ([.ref hM])).length) Slot.unset).toArray = ls at hl ⊢
  have hl : lv_has ls 3 [(0, .ref hM)] := hl
  generalize hRe : (headSpec wsMO_groups ({ frames := 0, cells := 0, slots := 0, locals := 0 })).room = R
  have hRf : 0 ≤ R.frames := by rw [← hRe]; exact Nat.le_refl _
  have hRl : 0 ≤ R.locals := by rw [← hRe]; exact Nat.le_refl _
  have hRc : 0 ≤ R.cells := by rw [← hRe]; exact Nat.le_refl _
  have hRs : 0 ≤ R.slots := by rw [← hRe]; exact Nat.le_refl _
  generalize hargs : (List.toArray [.ref hM] : Array Value) = args at hts ⊢
  generalize hQe : MQ below _ args s _ _ _ = Q
  refine lv_aload_n hx hb dMO_groups_0 rfl (lv_at hl 0 rfl) ?_
  refine lv_iconst (v := nI 0) hx hb dMO_groups_1 (by decide +kernel) ?_
  refine va_put (D := (dC, dI)) (ci := 8) (v := .int (nI 0)) (ty := .int) (C := RMO) (T := TMO) (N := 24) hx hb hts (fun w h => List.mem_cons_of_mem _ (inMO w h)) tyMO tyMO_ok nmMO hown hK hP hD hS 0 rfl rfl 0 (by decide) (hts _ (List.mem_cons_of_mem _ kw_509)) (fun _ h9 => h9) rfl (by decide +kernel) rfl rfl (Nat.le_of_ble_eq_true rfl) dMO_groups_2 (fun H locs hP hD hS => ?_)
  have hP : va_P (dC, dI) vwCl [(hM, .inr (8, [.int (nI 0), .int (nI k), .int (nI n), .ref z1, .ref z2, .int (nI iS), .int (nI sc), .int (nI sn), .int (nI mv), .int (nI sg), .ref z3, .ref z4, .ref z5, .ref z6, .ref z7, .ref z8, .ref z9, .int (nI dn), .ref z10, .ref z11, .ref z12, .ref z13, .ref z14, .int (nI gc)])), (z2, .inl (cI, 24, .inl (fun j9 => nI (ff j9))))] H := hP
  have hD : va_D A [(hM, .inr (8, [.int (nI 0), .int (nI k), .int (nI n), .ref z1, .ref z2, .int (nI iS), .int (nI sc), .int (nI sn), .int (nI mv), .int (nI sg), .ref z3, .ref z4, .ref z5, .ref z6, .ref z7, .ref z8, .ref z9, .int (nI dn), .ref z10, .ref z11, .ref z12, .ref z13, .ref z14, .int (nI gc)])), (z2, .inl (cI, 24, .inl (fun j9 => nI (ff j9))))] := hD
  refine lv_iconst (v := nI 0) hx hb dMO_groups_5 (by decide +kernel) ?_
  refine lv_istore_n (lv' := [(1, .int (nI 0)), (0, .ref hM)]) hx hb dMO_groups_6 rfl hl (by decide) rfl (fun ls hl => ?_)
  refine lv_iconst (v := nI 0) hx hb dMO_groups_7 (by decide +kernel) ?_
  refine lv_istore_n (lv' := [(2, .int (nI 0)), (1, .int (nI 0)), (0, .ref hM)]) hx hb dMO_groups_8 rfl hl (by decide) rfl (fun ls hl => ?_)
  have loop_9 : ∀ (n9 : Nat) (i : Nat) (s1 : Nat), i ≤ n → s1 = grpN ff i → n + 1 ≤ i + n9 → ∀ (H : Heap) (locs : List Loc), va_P (dC, dI) vwCl [(hM, .inr (8, [.int (nI 0), .int (nI k), .int (nI n), .ref z1, .ref z2, .int (nI iS), .int (nI sc), .int (nI sn), .int (nI mv), .int (nI sg), .ref z3, .ref z4, .ref z5, .ref z6, .ref z7, .ref z8, .ref z9, .int (nI dn), .ref z10, .ref z11, .ref z12, .ref z13, .ref z14, .int (nI gc)])), (z2, .inl (cI, 24, .inl (fun j9 => nI (ff j9))))] H → va_D A [(hM, .inr (8, [.int (nI 0), .int (nI k), .int (nI n), .ref z1, .ref z2, .int (nI iS), .int (nI sc), .int (nI sn), .int (nI mv), .int (nI sg), .ref z3, .ref z4, .ref z5, .ref z6, .ref z7, .ref z8, .ref z9, .int (nI dn), .ref z10, .ref z11, .ref z12, .ref z13, .ref z14, .int (nI gc)])), (z2, .inl (cI, 24, .inl (fun j9 => nI (ff j9))))] → va_S A s.heap H locs → ∀ (ls : Array Slot), lv_has ls 3 [(2, .int (nI i)), (1, .int (nI s1)), (0, .ref hM)] → W p l e R s m args below meth c H locs 0 0 Q (F0 m 9 ls []) := by
    intro n9
    induction n9 with
    | zero =>
      intro i s1 hi h1 hmeas
      exact absurd hmeas (by omega)
    | succ n9 ih_9 =>
      intro i s1 hi h1 hmeas H locs hP hD hS ls hl
      have hg := grpN_le ff i
      refine lv_iload_n hx hb dMO_groups_9 rfl (lv_at hl 0 rfl) ?_
      refine lv_aload_n hx hb dMO_groups_10 rfl (lv_at hl 2 rfl) ?_
      refine va_get (D := (dC, dI)) (ci := 8) (v := .int (nI n)) (C := RMO) (T := TMO) (N := 24) hx hb hts (fun w h => List.mem_cons_of_mem _ (inMO w h)) hown hK hP 0 rfl rfl 2 (by decide) (hts _ (List.mem_cons_of_mem _ kw_511)) (fun _ h9 => h9) rfl dMO_groups_11 ?_
      refine hr_icmp_ge hx hb (x := i) (y := n) (by omega) (by omega) (tgt := 41) dMO_groups_14 (by decide) (fun c_1 => ?_) (fun c_1 => ?_)
      · have ei : n = i := by omega
        subst ei
        refine lv_iload_n hx hb dMO_groups_41 rfl (lv_at hl 1 rfl) ?_
        rw [← hQe]
        exact W.iret (v := nI s1) hx hb hr (fun t ht hW => ⟨⟨_, (), rfl, by rw [h1], by rw [ht]; exact hP, hD⟩, hS.F ht⟩) hS.2.2 dMO_groups_42
      · have ht1 := hf i (by omega)
        refine lv_iload_n hx hb dMO_groups_17 rfl (lv_at hl 1 rfl) ?_
        refine lv_aload_n hx hb dMO_groups_18 rfl (lv_at hl 2 rfl) ?_
        refine va_get (D := (dC, dI)) (ci := 8) (v := .ref z2) (C := RMO) (T := TMO) (N := 24) hx hb hts (fun w h => List.mem_cons_of_mem _ (inMO w h)) hown hK hP 0 rfl rfl 4 (by decide) (hts _ (List.mem_cons_of_mem _ kw_513)) (fun _ h9 => h9) rfl dMO_groups_19 ?_
        refine lv_iload_n hx hb dMO_groups_22 rfl (lv_at hl 0 rfl) ?_
        refine hr_iald hx hb hK hP 1 0 rfl rfl (i := i) (by omega) (by omega) dMO_groups_23 ?_
        refine lv_iload_n hx hb dMO_groups_24 rfl (lv_at hl 0 rfl) ?_
        refine hr_icmp_ne hx hb (x := (ff i)) (y := i) (by omega) (by omega) (tgt := 32) dMO_groups_25 (by decide) (fun c_2 => ?_) (fun c_2 => ?_)
        · refine lv_iconst (v := nI 0) hx hb dMO_groups_32 (by decide +kernel) ?_
          refine lv_iadd hx hb dMO_groups_33 ?_
          refine hr_eqi (nI_add _ _) ?_
          refine lv_istore_n (lv' := [(1, .int (nI (s1 + 0))), (2, .int (nI i)), (0, .ref hM)]) hx hb dMO_groups_34 rfl hl (by decide) rfl (fun ls hl => ?_)
          refine lv_iinc (v := nI (i + 1)) (lv' := [(2, .int (nI (i + 1))), (1, .int (nI (s1 + 0))), (0, .ref hM)]) hx hb dMO_groups_35 hl (k := 1) rfl (hr_inc _) (by decide) rfl (fun ls hl => ?_)
          refine lv_goto (tgt := 9) hx hb dMO_groups_38 (by decide) ?_
          exact ih_9 (i + 1) (s1 + 0) (by omega) (by rw [h1]; simp [grpN, c_2]) (by omega) _ _ hP hD hS ls (lv_sub hl [0, 1, 2] rfl)
        · refine lv_iconst (v := nI 1) hx hb dMO_groups_28 (by decide +kernel) ?_
          refine lv_goto (tgt := 33) hx hb dMO_groups_29 (by decide) ?_
          refine lv_iadd hx hb dMO_groups_33 ?_
          refine hr_eqi (nI_add _ _) ?_
          refine lv_istore_n (lv' := [(1, .int (nI (s1 + 1))), (2, .int (nI i)), (0, .ref hM)]) hx hb dMO_groups_34 rfl hl (by decide) rfl (fun ls hl => ?_)
          refine lv_iinc (v := nI (i + 1)) (lv' := [(2, .int (nI (i + 1))), (1, .int (nI (s1 + 1))), (0, .ref hM)]) hx hb dMO_groups_35 hl (k := 1) rfl (hr_inc _) (by decide) rfl (fun ls hl => ?_)
          refine lv_goto (tgt := 9) hx hb dMO_groups_38 (by decide) ?_
          exact ih_9 (i + 1) (s1 + 1) (by omega) (by rw [h1]; simp [grpN, c_2]) (by omega) _ _ hP hD hS ls (lv_sub hl [0, 1, 2] rfl)
  exact loop_9 (n + 1) 0 0 (by omega) (rfl) (by omega) _ _ hP hD hS ls (lv_sub hl [0, 1, 2] rfl)

set_option maxHeartbeats 400000 in
set_option maxRecDepth 100000 in
/-- isShard -/
theorem c_MO_isShard (l : Launch) (dC : Nat → ClassId) (dI : Nat → Nat → Nat) (cI cZ cG : ClassId) (hM : Nat) (z1 : Nat) (z2 : Nat) (z3 : Nat) (z4 : Nat) (z5 : Nat) (z6 : Nat) (z7 : Nat) (z8 : Nat) (z9 : Nat) (z10 : Nat) (z11 : Nat) (z12 : Nat) (z13 : Nat) (z14 : Nat) (th : Nat) (k : Nat) (n : Nat) (iS : Nat) (sc : Nat) (sn : Nat) (mv : Nat) (sg : Nat) (dn : Nat) (gc : Nat) (x : Int32) (hiS : iS < 2 ∧ (iS = 0 → sc = 0 ∧ sn = 0)) (hsc : sc ≤ 4) (hsn : sn ≤ 24) : Met l yMO_isShard wsMO_isShard ({ frames := 0, cells := 0, slots := 0, locals := 0 }) (va_Pc [.ref hM, .int x] (fun U => va_P (dC, dI) vwCl [(hM, .inr (8, [.int (nI th), .int (nI k), .int (nI n), .ref z1, .ref z2, .int (nI iS), .int (nI sc), .int (nI sn), .int (nI mv), .int (nI sg), .ref z3, .ref z4, .ref z5, .ref z6, .ref z7, .ref z8, .ref z9, .int (nI dn), .ref z10, .ref z11, .ref z12, .ref z13, .ref z14, .int (nI gc)]))] U.heap ∧ KX dC dI cI cZ cG U)) (vp_Si (fun r => r = nI (inB x sc))) 0 0 (fun _ => False) := by
  refine Met.ofW (cc := cMO_isShard) (maxL := 2) (ret := (some .boolean)) (by decide) rfl ?_
  intro p e s m args below meth c s₁ B hml hv
  obtain ⟨rfl, hP, hKX⟩ := hv
  have hK := hKX.1
  have hx := B.exec
  have hb := B.bytes
  have hr := B.returns
  have hts := atoms_spec (ws := wsMO_isShard) B.pre
  have hown : s.vm.findClass RMO = some m.cls := findClass_of_methodNamed B.named
  have hlocks := B.notSynchronized
  have hl := lv_entry ([.ref hM, .int x]) (n := 2) (Nat.le_of_ble_eq_true rfl)
  rw [lg_entry_eq]
  generalize (lg_sl ([.ref hM, .int x]) ++ List.replicate (2 - (lg_sl ([.ref hM, .int x])).length) Slot.unset).toArray = ls at hl ⊢
  have hl : lv_has ls 2 [(0, .ref hM), (1, .int x)] := hl
  generalize hRe : (headSpec wsMO_isShard ({ frames := 0, cells := 0, slots := 0, locals := 0 })).room = R
  have hRf : 0 ≤ R.frames := by rw [← hRe]; exact Nat.le_refl _
  have hRl : 0 ≤ R.locals := by rw [← hRe]; exact Nat.le_refl _
  have hRc : 0 ≤ R.cells := by rw [← hRe]; exact Nat.le_refl _
  have hRs : 0 ≤ R.slots := by rw [← hRe]; exact Nat.le_refl _
  generalize hargs : (List.toArray [.ref hM, .int x] : Array Value) = args at hts ⊢
  generalize hQe : MQ below _ args s _ _ _ = Q
  refine lv_aload_n hx hb dMO_isShard_0 rfl (lv_at hl 0 rfl) ?_
  refine va_get (D := (dC, dI)) (ci := 8) (v := .int (nI iS)) (C := RMO) (T := TMO) (N := 24) hx hb hts (fun w h => List.mem_cons_of_mem _ (inMO w h)) hown hK hP 0 rfl rfl 5 (by decide) (hts _ (List.mem_cons_of_mem _ kw_514)) (fun _ h9 => h9) rfl dMO_isShard_1 ?_
  refine hr_if_eq hx hb (x := iS) (by omega) (tgt := 23) dMO_isShard_4 (by decide) (fun c_1 => ?_) (fun c_1 => ?_)
  · refine lv_iconst (v := nI 0) hx hb dMO_isShard_23 (by decide +kernel) ?_
    rw [← hQe]
    exact W.zret (ty := .boolean) (v := nI 0) hx hb hr (by decide +kernel) (fun t ht hW => ⟨_, rfl, by rw [show sc = 0 from (hiS.2 c_1).1, inB_n0], by rw [ht]⟩) (fun q h => by cases h) dMO_isShard_24
  · refine lv_iload_n hx hb dMO_isShard_7 rfl (lv_at hl 1 rfl) ?_
    refine lv_if_lt (tgt := 23) hx hb dMO_isShard_8 (by decide) (fun c_2 => ?_) (fun c_2 => ?_)
    · refine lv_iconst (v := nI 0) hx hb dMO_isShard_23 (by decide +kernel) ?_
      rw [← hQe]
      exact W.zret (ty := .boolean) (v := nI 0) hx hb hr (by decide +kernel) (fun t ht hW => ⟨_, rfl, by rw [inB_neg c_2], by rw [ht]⟩) (fun q h => by cases h) dMO_isShard_24
    · refine lv_iload_n hx hb dMO_isShard_11 rfl (lv_at hl 1 rfl) ?_
      refine lv_aload_n hx hb dMO_isShard_12 rfl (lv_at hl 0 rfl) ?_
      refine va_get (D := (dC, dI)) (ci := 8) (v := .int (nI sc)) (C := RMO) (T := TMO) (N := 24) hx hb hts (fun w h => List.mem_cons_of_mem _ (inMO w h)) hown hK hP 0 rfl rfl 6 (by decide) (hts _ (List.mem_cons_of_mem _ kw_515)) (fun _ h9 => h9) rfl dMO_isShard_13 ?_
      refine lv_icmp_ge (tgt := 23) hx hb dMO_isShard_16 (by decide) (fun c_3 => ?_) (fun c_3 => ?_)
      · refine lv_iconst (v := nI 0) hx hb dMO_isShard_23 (by decide +kernel) ?_
        rw [← hQe]
        exact W.zret (ty := .boolean) (v := nI 0) hx hb hr (by decide +kernel) (fun t ht hW => ⟨_, rfl, by rw [inB_big c_2 c_3], by rw [ht]⟩) (fun q h => by cases h) dMO_isShard_24
      · refine lv_iconst (v := nI 1) hx hb dMO_isShard_19 (by decide +kernel) ?_
        refine lv_goto (tgt := 24) hx hb dMO_isShard_20 (by decide) ?_
        rw [← hQe]
        exact W.zret (ty := .boolean) (v := nI 1) hx hb hr (by decide +kernel) (fun t ht hW => ⟨_, rfl, by rw [inB_in c_2 c_3], by rw [ht]⟩) (fun q h => by cases h) dMO_isShard_24

set_option maxHeartbeats 400000 in
set_option maxRecDepth 100000 in
/-- isIn -/
theorem c_MO_isIn (l : Launch) (dC : Nat → ClassId) (dI : Nat → Nat → Nat) (cI cZ cG : ClassId) (hM : Nat) (z1 : Nat) (z2 : Nat) (z3 : Nat) (z4 : Nat) (z5 : Nat) (z6 : Nat) (z7 : Nat) (z8 : Nat) (z9 : Nat) (z10 : Nat) (z11 : Nat) (z12 : Nat) (z13 : Nat) (z14 : Nat) (th : Nat) (k : Nat) (n : Nat) (iS : Nat) (sc : Nat) (sn : Nat) (mv : Nat) (sg : Nat) (dn : Nat) (gc : Nat) (x : Int32) (hiS : iS < 2 ∧ (iS = 0 → sc = 0 ∧ sn = 0)) (hsc : sc ≤ 4) (hsn : sn ≤ 24) : Met l yMO_isIn wsMO_isIn ({ frames := 0, cells := 0, slots := 0, locals := 0 }) (va_Pc [.ref hM, .int x] (fun U => va_P (dC, dI) vwCl [(hM, .inr (8, [.int (nI th), .int (nI k), .int (nI n), .ref z1, .ref z2, .int (nI iS), .int (nI sc), .int (nI sn), .int (nI mv), .int (nI sg), .ref z3, .ref z4, .ref z5, .ref z6, .ref z7, .ref z8, .ref z9, .int (nI dn), .ref z10, .ref z11, .ref z12, .ref z13, .ref z14, .int (nI gc)]))] U.heap ∧ KX dC dI cI cZ cG U)) (vp_Si (fun r => r = nI (inB x sn))) 0 0 (fun _ => False) := by
  refine Met.ofW (cc := cMO_isIn) (maxL := 2) (ret := (some .boolean)) (by decide) rfl ?_
  intro p e s m args below meth c s₁ B hml hv
  obtain ⟨rfl, hP, hKX⟩ := hv
  have hK := hKX.1
  have hx := B.exec
  have hb := B.bytes
  have hr := B.returns
  have hts := atoms_spec (ws := wsMO_isIn) B.pre
  have hown : s.vm.findClass RMO = some m.cls := findClass_of_methodNamed B.named
  have hlocks := B.notSynchronized
  have hl := lv_entry ([.ref hM, .int x]) (n := 2) (Nat.le_of_ble_eq_true rfl)
  rw [lg_entry_eq]
  generalize (lg_sl ([.ref hM, .int x]) ++ List.replicate (2 - (lg_sl ([.ref hM, .int x])).length) Slot.unset).toArray = ls at hl ⊢
  have hl : lv_has ls 2 [(0, .ref hM), (1, .int x)] := hl
  generalize hRe : (headSpec wsMO_isIn ({ frames := 0, cells := 0, slots := 0, locals := 0 })).room = R
  have hRf : 0 ≤ R.frames := by rw [← hRe]; exact Nat.le_refl _
  have hRl : 0 ≤ R.locals := by rw [← hRe]; exact Nat.le_refl _
  have hRc : 0 ≤ R.cells := by rw [← hRe]; exact Nat.le_refl _
  have hRs : 0 ≤ R.slots := by rw [← hRe]; exact Nat.le_refl _
  generalize hargs : (List.toArray [.ref hM, .int x] : Array Value) = args at hts ⊢
  generalize hQe : MQ below _ args s _ _ _ = Q
  refine lv_aload_n hx hb dMO_isIn_0 rfl (lv_at hl 0 rfl) ?_
  refine va_get (D := (dC, dI)) (ci := 8) (v := .int (nI iS)) (C := RMO) (T := TMO) (N := 24) hx hb hts (fun w h => List.mem_cons_of_mem _ (inMO w h)) hown hK hP 0 rfl rfl 5 (by decide) (hts _ (List.mem_cons_of_mem _ kw_514)) (fun _ h9 => h9) rfl dMO_isIn_1 ?_
  refine hr_if_eq hx hb (x := iS) (by omega) (tgt := 23) dMO_isIn_4 (by decide) (fun c_1 => ?_) (fun c_1 => ?_)
  · refine lv_iconst (v := nI 0) hx hb dMO_isIn_23 (by decide +kernel) ?_
    rw [← hQe]
    exact W.zret (ty := .boolean) (v := nI 0) hx hb hr (by decide +kernel) (fun t ht hW => ⟨_, rfl, by rw [show sn = 0 from (hiS.2 c_1).2, inB_n0], by rw [ht]⟩) (fun q h => by cases h) dMO_isIn_24
  · refine lv_iload_n hx hb dMO_isIn_7 rfl (lv_at hl 1 rfl) ?_
    refine lv_if_lt (tgt := 23) hx hb dMO_isIn_8 (by decide) (fun c_2 => ?_) (fun c_2 => ?_)
    · refine lv_iconst (v := nI 0) hx hb dMO_isIn_23 (by decide +kernel) ?_
      rw [← hQe]
      exact W.zret (ty := .boolean) (v := nI 0) hx hb hr (by decide +kernel) (fun t ht hW => ⟨_, rfl, by rw [inB_neg c_2], by rw [ht]⟩) (fun q h => by cases h) dMO_isIn_24
    · refine lv_iload_n hx hb dMO_isIn_11 rfl (lv_at hl 1 rfl) ?_
      refine lv_aload_n hx hb dMO_isIn_12 rfl (lv_at hl 0 rfl) ?_
      refine va_get (D := (dC, dI)) (ci := 8) (v := .int (nI sn)) (C := RMO) (T := TMO) (N := 24) hx hb hts (fun w h => List.mem_cons_of_mem _ (inMO w h)) hown hK hP 0 rfl rfl 7 (by decide) (hts _ (List.mem_cons_of_mem _ kw_516)) (fun _ h9 => h9) rfl dMO_isIn_13 ?_
      refine lv_icmp_ge (tgt := 23) hx hb dMO_isIn_16 (by decide) (fun c_3 => ?_) (fun c_3 => ?_)
      · refine lv_iconst (v := nI 0) hx hb dMO_isIn_23 (by decide +kernel) ?_
        rw [← hQe]
        exact W.zret (ty := .boolean) (v := nI 0) hx hb hr (by decide +kernel) (fun t ht hW => ⟨_, rfl, by rw [inB_big c_2 c_3], by rw [ht]⟩) (fun q h => by cases h) dMO_isIn_24
      · refine lv_iconst (v := nI 1) hx hb dMO_isIn_19 (by decide +kernel) ?_
        refine lv_goto (tgt := 24) hx hb dMO_isIn_20 (by decide) ?_
        rw [← hQe]
        exact W.zret (ty := .boolean) (v := nI 1) hx hb hr (by decide +kernel) (fun t ht hW => ⟨_, rfl, by rw [inB_in c_2 c_3], by rw [ht]⟩) (fun q h => by cases h) dMO_isIn_24

set_option maxHeartbeats 400000 in
set_option maxRecDepth 100000 in
/-- shard -/
theorem c_MO_shard (l : Launch) (dC : Nat → ClassId) (dI : Nat → Nat → Nat) (cI cZ cG : ClassId) (hM : Nat) (z1 : Nat) (z2 : Nat) (z3 : Nat) (z4 : Nat) (z5 : Nat) (z6 : Nat) (z7 : Nat) (z8 : Nat) (z9 : Nat) (z10 : Nat) (z11 : Nat) (z12 : Nat) (z13 : Nat) (z14 : Nat) (th : Nat) (k : Nat) (n : Nat) (iS : Nat) (sc : Nat) (sn : Nat) (mv : Nat) (sg : Nat) (dn : Nat) (gc : Nat) (sf : Nat → Option Nat) (x : Int32) (sz : Nat) (hiS : iS < 2 ∧ (iS = 0 → sc = 0 ∧ sn = 0)) (hsc : sc ≤ 4) (hsn : sn ≤ 24) : Met l yMO_shard wsMO_shard ({ frames := 1, cells := 0, slots := 0, locals := 21 }) (va_Pc [.ref hM, .int x] (fun U => U.heap.size = sz ∧ va_P (dC, dI) vwCl [(hM, .inr (8, [.int (nI th), .int (nI k), .int (nI n), .ref z1, .ref z2, .int (nI iS), .int (nI sc), .int (nI sn), .int (nI mv), .int (nI sg), .ref z3, .ref z4, .ref z5, .ref z6, .ref z7, .ref z8, .ref z9, .int (nI dn), .ref z10, .ref z11, .ref z12, .ref z13, .ref z14, .int (nI gc)])), (z3, .inl (cI, 24, .inl (fun j9 => oI (sf j9))))] U.heap ∧ KX dC dI cI cZ cG U ∧ va_D (fun _ => True) [(hM, .inr (8, [.int (nI th), .int (nI k), .int (nI n), .ref z1, .ref z2, .int (nI iS), .int (nI sc), .int (nI sn), .int (nI mv), .int (nI sg), .ref z3, .ref z4, .ref z5, .ref z6, .ref z7, .ref z8, .ref z9, .int (nI dn), .ref z10, .ref z11, .ref z12, .ref z13, .ref z14, .int (nI gc)])), (z3, .inl (cI, 24, .inl (fun j9 => oI (sf j9))))])) (va_Qi (fun (r : Int32) (u : Unit) => r = oI (shB sf sn x)) (fun u t => va_P (dC, dI) vwCl [(hM, .inr (8, [.int (nI 0), .int (nI k), .int (nI n), .ref z1, .ref z2, .int (nI iS), .int (nI sc), .int (nI sn), .int (nI mv), .int (nI sg), .ref z3, .ref z4, .ref z5, .ref z6, .ref z7, .ref z8, .ref z9, .int (nI dn), .ref z10, .ref z11, .ref z12, .ref z13, .ref z14, .int (nI gc)])), (z3, .inl (cI, 24, .inl (fun j9 => oI (sf j9))))] t.heap ∧ va_D (va_A [(hM, .inr (8, [.int (nI th), .int (nI k), .int (nI n), .ref z1, .ref z2, .int (nI iS), .int (nI sc), .int (nI sn), .int (nI mv), .int (nI sg), .ref z3, .ref z4, .ref z5, .ref z6, .ref z7, .ref z8, .ref z9, .int (nI dn), .ref z10, .ref z11, .ref z12, .ref z13, .ref z14, .int (nI gc)])), (z3, .inl (cI, 24, .inl (fun j9 => oI (sf j9))))] sz) [(hM, .inr (8, [.int (nI 0), .int (nI k), .int (nI n), .ref z1, .ref z2, .int (nI iS), .int (nI sc), .int (nI sn), .int (nI mv), .int (nI sg), .ref z3, .ref z4, .ref z5, .ref z6, .ref z7, .ref z8, .ref z9, .int (nI dn), .ref z10, .ref z11, .ref z12, .ref z13, .ref z14, .int (nI gc)])), (z3, .inl (cI, 24, .inl (fun j9 => oI (sf j9))))]) (va_A [(hM, .inr (8, [.int (nI th), .int (nI k), .int (nI n), .ref z1, .ref z2, .int (nI iS), .int (nI sc), .int (nI sn), .int (nI mv), .int (nI sg), .ref z3, .ref z4, .ref z5, .ref z6, .ref z7, .ref z8, .ref z9, .int (nI dn), .ref z10, .ref z11, .ref z12, .ref z13, .ref z14, .int (nI gc)])), (z3, .inl (cI, 24, .inl (fun j9 => oI (sf j9))))] sz)) 0 0 (va_A [(hM, .inr (8, [.int (nI th), .int (nI k), .int (nI n), .ref z1, .ref z2, .int (nI iS), .int (nI sc), .int (nI sn), .int (nI mv), .int (nI sg), .ref z3, .ref z4, .ref z5, .ref z6, .ref z7, .ref z8, .ref z9, .int (nI dn), .ref z10, .ref z11, .ref z12, .ref z13, .ref z14, .int (nI gc)])), (z3, .inl (cI, 24, .inl (fun j9 => oI (sf j9))))] sz) := by
  refine Met.ofW (cc := cMO_shard) (maxL := 2) (ret := (some .int)) (by decide) rfl ?_
  intro p e s m args below meth c s₁ B hml hv
  obtain ⟨rfl, hsz, hP, hKX, hD0⟩ := hv
  have hK := hKX.1
  have hx := B.exec
  have hb := B.bytes
  have hr := B.returns
  have hts := atoms_spec (ws := wsMO_shard) B.pre
  have hown : s.vm.findClass RMO = some m.cls := findClass_of_methodNamed B.named
  have hlocks := B.notSynchronized
  subst hsz
  have hD := hD0.self (sz := s.heap.size)
  generalize hAe : va_A [(hM, .inr (8, [.int (nI th), .int (nI k), .int (nI n), .ref z1, .ref z2, .int (nI iS), .int (nI sc), .int (nI sn), .int (nI mv), .int (nI sg), .ref z3, .ref z4, .ref z5, .ref z6, .ref z7, .ref z8, .ref z9, .int (nI dn), .ref z10, .ref z11, .ref z12, .ref z13, .ref z14, .int (nI gc)])), (z3, .inl (cI, 24, .inl (fun j9 => oI (sf j9))))] s.heap.size = A at hD ⊢
  have hA : ∀ q : Nat, s.heap.size ≤ q → A q := fun q h => by rw [← hAe]; exact Or.inr h
  have hS : va_S A s.heap s.heap [] := va_S.rf
  have hl := lv_entry ([.ref hM, .int x]) (n := 2) (Nat.le_of_ble_eq_true rfl)
  rw [lg_entry_eq]
  generalize (lg_sl ([.ref hM, .int x]) ++ List.replicate (2 - (lg_sl ([.ref hM, .int x])).length) Slot.unset).toArray = ls at hl ⊢
  have hl : lv_has ls 2 [(0, .ref hM), (1, .int x)] := hl
  generalize hRe : (headSpec wsMO_shard ({ frames := 1, cells := 0, slots := 0, locals := 21 })).room = R
  have hRf : 1 ≤ R.frames := by rw [← hRe]; exact Nat.le_refl _
  have hRl : 21 ≤ R.locals := by rw [← hRe]; exact Nat.le_refl _
  have hRc : 0 ≤ R.cells := by rw [← hRe]; exact Nat.le_refl _
  have hRs : 0 ≤ R.slots := by rw [← hRe]; exact Nat.le_refl _
  generalize hargs : (List.toArray [.ref hM, .int x] : Array Value) = args at hts ⊢
  generalize hQe : MQ below _ args s _ _ _ = Q
  refine lv_aload_n hx hb dMO_shard_0 rfl (lv_at hl 0 rfl) ?_
  refine lv_iconst (v := nI 0) hx hb dMO_shard_1 (by decide +kernel) ?_
  refine va_put (D := (dC, dI)) (ci := 8) (v := .int (nI 0)) (ty := .int) (C := RMO) (T := TMO) (N := 24) hx hb hts (fun w h => List.mem_cons_of_mem _ (inMO w h)) tyMO tyMO_ok nmMO hown hK hP hD hS 0 rfl rfl 0 (by decide) (hts _ (List.mem_cons_of_mem _ kw_509)) (fun _ h9 => h9) rfl (by decide +kernel) rfl rfl (Nat.le_of_ble_eq_true rfl) dMO_shard_2 (fun H locs hP hD hS => ?_)
  have hP : va_P (dC, dI) vwCl [(hM, .inr (8, [.int (nI 0), .int (nI k), .int (nI n), .ref z1, .ref z2, .int (nI iS), .int (nI sc), .int (nI sn), .int (nI mv), .int (nI sg), .ref z3, .ref z4, .ref z5, .ref z6, .ref z7, .ref z8, .ref z9, .int (nI dn), .ref z10, .ref z11, .ref z12, .ref z13, .ref z14, .int (nI gc)])), (z3, .inl (cI, 24, .inl (fun j9 => oI (sf j9))))] H := hP
  have hD : va_D A [(hM, .inr (8, [.int (nI 0), .int (nI k), .int (nI n), .ref z1, .ref z2, .int (nI iS), .int (nI sc), .int (nI sn), .int (nI mv), .int (nI sg), .ref z3, .ref z4, .ref z5, .ref z6, .ref z7, .ref z8, .ref z9, .int (nI dn), .ref z10, .ref z11, .ref z12, .ref z13, .ref z14, .int (nI gc)])), (z3, .inl (cI, 24, .inl (fun j9 => oI (sf j9))))] := hD
  refine lv_aload_n hx hb dMO_shard_5 rfl (lv_at hl 0 rfl) ?_
  refine lv_iload_n hx hb dMO_shard_6 rfl (lv_at hl 1 rfl) ?_
  refine vp_callSi (va_runV (C := RMO) (As := [.int x]) (rest := []) ⟨hx, hb, hml, hown, hts⟩ (c_MO_isIn l dC dI cI cZ cG hM z1 z2 z3 z4 z5 z6 z7 z8 z9 z10 z11 z12 z13 z14 0 k n iS sc sn mv sg dn gc x (hiS) (hsc) (hsn)) (hr_cwV 1 hts kw_651 kw_653 kw_19 kw_33 kw_654 (by decide +kernel) (by rw [← hRe]; exact ⟨Nat.le_of_ble_eq_true rfl, Nat.le_of_ble_eq_true rfl⟩)) (hr_preR hKX hP [0] rfl (ci := 8) (q0 := 0) (q := (RMO, TMO, 24)) rfl rfl) rfl rfl hl.1 rfl (lv_room (Nat.le_of_ble_eq_true rfl)) dMO_shard_7 ⟨by omega, by omega⟩).run (fun rv hrv => ?_)
  refine hr_eqi hrv ?_
  have hb0 := inB_lt x sn
  refine hr_if_eq hx hb (x := inB x sn) (by omega) (tgt := 22) dMO_shard_10 (by decide) (fun c_1 => ?_) (fun c_1 => ?_)
  · refine lv_iconst (v := (-1)) hx hb dMO_shard_22 (by decide +kernel) ?_
    rw [← hQe]
    exact W.iret (v := (-1)) hx hb hr (fun t ht hW => ⟨⟨_, (), rfl, by rw [shB, if_pos c_1]; rfl, by rw [ht]; exact hP, hD⟩, hS.F ht⟩) hS.2.2 dMO_shard_23
  · obtain ⟨j, hj, rfl⟩ := inB_pos (by omega) c_1
    refine lv_aload_n hx hb dMO_shard_13 rfl (lv_at hl 0 rfl) ?_
    refine va_get (D := (dC, dI)) (ci := 8) (v := .ref z3) (C := RMO) (T := TMO) (N := 24) hx hb hts (fun w h => List.mem_cons_of_mem _ (inMO w h)) hown hK hP 0 rfl rfl 10 (by decide) (hts _ (List.mem_cons_of_mem _ kw_519)) (fun _ h9 => h9) rfl dMO_shard_14 ?_
    refine lv_iload_n hx hb dMO_shard_17 rfl (lv_at hl 1 rfl) ?_
    refine hr_iald hx hb hK hP 1 0 rfl rfl (i := j) (by omega) (by omega) dMO_shard_18 ?_
    refine lv_goto (tgt := 23) hx hb dMO_shard_19 (by decide) ?_
    rw [← hQe]
    exact W.iret (v := oI (sf j)) hx hb hr (fun t ht hW => ⟨⟨_, (), rfl, by rw [shB_nI hj hsn], by rw [ht]; exact hP, hD⟩, hS.F ht⟩) hS.2.2 dMO_shard_23

set_option maxHeartbeats 400000 in
set_option maxRecDepth 100000 in
/-- sum -/
theorem c_MO_sum (l : Launch) (dC : Nat → ClassId) (dI : Nat → Nat → Nat) (cI cZ cG : ClassId) (hM : Nat) (z1 : Nat) (z2 : Nat) (z3 : Nat) (z4 : Nat) (z5 : Nat) (z6 : Nat) (z7 : Nat) (z8 : Nat) (z9 : Nat) (z10 : Nat) (z11 : Nat) (z12 : Nat) (z13 : Nat) (z14 : Nat) (th : Nat) (k : Nat) (n : Nat) (iS : Nat) (sc : Nat) (sn : Nat) (mv : Nat) (sg : Nat) (dn : Nat) (gc : Nat) (sm : Nat → Nat) (x : Int32) (sz : Nat) (hiS : iS < 2 ∧ (iS = 0 → sc = 0 ∧ sn = 0)) (hsc : sc ≤ 4) (hsn : sn ≤ 24) : Met l yMO_sum wsMO_sum ({ frames := 1, cells := 0, slots := 0, locals := 21 }) (va_Pc [.ref hM, .int x] (fun U => U.heap.size = sz ∧ va_P (dC, dI) vwCl [(hM, .inr (8, [.int (nI th), .int (nI k), .int (nI n), .ref z1, .ref z2, .int (nI iS), .int (nI sc), .int (nI sn), .int (nI mv), .int (nI sg), .ref z3, .ref z4, .ref z5, .ref z6, .ref z7, .ref z8, .ref z9, .int (nI dn), .ref z10, .ref z11, .ref z12, .ref z13, .ref z14, .int (nI gc)])), (z4, .inl (cI, 4, .inl (fun j9 => nI (sm j9))))] U.heap ∧ KX dC dI cI cZ cG U ∧ va_D (fun _ => True) [(hM, .inr (8, [.int (nI th), .int (nI k), .int (nI n), .ref z1, .ref z2, .int (nI iS), .int (nI sc), .int (nI sn), .int (nI mv), .int (nI sg), .ref z3, .ref z4, .ref z5, .ref z6, .ref z7, .ref z8, .ref z9, .int (nI dn), .ref z10, .ref z11, .ref z12, .ref z13, .ref z14, .int (nI gc)])), (z4, .inl (cI, 4, .inl (fun j9 => nI (sm j9))))])) (va_Qi (fun (r : Int32) (u : Unit) => r = oI (rowA sc sm x)) (fun u t => va_P (dC, dI) vwCl [(hM, .inr (8, [.int (nI 0), .int (nI k), .int (nI n), .ref z1, .ref z2, .int (nI iS), .int (nI sc), .int (nI sn), .int (nI mv), .int (nI sg), .ref z3, .ref z4, .ref z5, .ref z6, .ref z7, .ref z8, .ref z9, .int (nI dn), .ref z10, .ref z11, .ref z12, .ref z13, .ref z14, .int (nI gc)])), (z4, .inl (cI, 4, .inl (fun j9 => nI (sm j9))))] t.heap ∧ va_D (va_A [(hM, .inr (8, [.int (nI th), .int (nI k), .int (nI n), .ref z1, .ref z2, .int (nI iS), .int (nI sc), .int (nI sn), .int (nI mv), .int (nI sg), .ref z3, .ref z4, .ref z5, .ref z6, .ref z7, .ref z8, .ref z9, .int (nI dn), .ref z10, .ref z11, .ref z12, .ref z13, .ref z14, .int (nI gc)])), (z4, .inl (cI, 4, .inl (fun j9 => nI (sm j9))))] sz) [(hM, .inr (8, [.int (nI 0), .int (nI k), .int (nI n), .ref z1, .ref z2, .int (nI iS), .int (nI sc), .int (nI sn), .int (nI mv), .int (nI sg), .ref z3, .ref z4, .ref z5, .ref z6, .ref z7, .ref z8, .ref z9, .int (nI dn), .ref z10, .ref z11, .ref z12, .ref z13, .ref z14, .int (nI gc)])), (z4, .inl (cI, 4, .inl (fun j9 => nI (sm j9))))]) (va_A [(hM, .inr (8, [.int (nI th), .int (nI k), .int (nI n), .ref z1, .ref z2, .int (nI iS), .int (nI sc), .int (nI sn), .int (nI mv), .int (nI sg), .ref z3, .ref z4, .ref z5, .ref z6, .ref z7, .ref z8, .ref z9, .int (nI dn), .ref z10, .ref z11, .ref z12, .ref z13, .ref z14, .int (nI gc)])), (z4, .inl (cI, 4, .inl (fun j9 => nI (sm j9))))] sz)) 0 0 (va_A [(hM, .inr (8, [.int (nI th), .int (nI k), .int (nI n), .ref z1, .ref z2, .int (nI iS), .int (nI sc), .int (nI sn), .int (nI mv), .int (nI sg), .ref z3, .ref z4, .ref z5, .ref z6, .ref z7, .ref z8, .ref z9, .int (nI dn), .ref z10, .ref z11, .ref z12, .ref z13, .ref z14, .int (nI gc)])), (z4, .inl (cI, 4, .inl (fun j9 => nI (sm j9))))] sz) := by
  refine Met.ofW (cc := cMO_sum) (maxL := 2) (ret := (some .int)) (by decide) rfl ?_
  intro p e s m args below meth c s₁ B hml hv
  obtain ⟨rfl, hsz, hP, hKX, hD0⟩ := hv
  have hK := hKX.1
  have hx := B.exec
  have hb := B.bytes
  have hr := B.returns
  have hts := atoms_spec (ws := wsMO_sum) B.pre
  have hown : s.vm.findClass RMO = some m.cls := findClass_of_methodNamed B.named
  have hlocks := B.notSynchronized
  subst hsz
  have hD := hD0.self (sz := s.heap.size)
  generalize hAe : va_A [(hM, .inr (8, [.int (nI th), .int (nI k), .int (nI n), .ref z1, .ref z2, .int (nI iS), .int (nI sc), .int (nI sn), .int (nI mv), .int (nI sg), .ref z3, .ref z4, .ref z5, .ref z6, .ref z7, .ref z8, .ref z9, .int (nI dn), .ref z10, .ref z11, .ref z12, .ref z13, .ref z14, .int (nI gc)])), (z4, .inl (cI, 4, .inl (fun j9 => nI (sm j9))))] s.heap.size = A at hD ⊢
  have hA : ∀ q : Nat, s.heap.size ≤ q → A q := fun q h => by rw [← hAe]; exact Or.inr h
  have hS : va_S A s.heap s.heap [] := va_S.rf
  have hl := lv_entry ([.ref hM, .int x]) (n := 2) (Nat.le_of_ble_eq_true rfl)
  rw [lg_entry_eq]
  generalize (lg_sl ([.ref hM, .int x]) ++ List.replicate (2 - (lg_sl ([.ref hM, .int x])).length) Slot.unset).toArray = ls at hl ⊢
  have hl : lv_has ls 2 [(0, .ref hM), (1, .int x)] := hl
  generalize hRe : (headSpec wsMO_sum ({ frames := 1, cells := 0, slots := 0, locals := 21 })).room = R
  have hRf : 1 ≤ R.frames := by rw [← hRe]; exact Nat.le_refl _
  have hRl : 21 ≤ R.locals := by rw [← hRe]; exact Nat.le_refl _
  have hRc : 0 ≤ R.cells := by rw [← hRe]; exact Nat.le_refl _
  have hRs : 0 ≤ R.slots := by rw [← hRe]; exact Nat.le_refl _
  generalize hargs : (List.toArray [.ref hM, .int x] : Array Value) = args at hts ⊢
  generalize hQe : MQ below _ args s _ _ _ = Q
  refine lv_aload_n hx hb dMO_sum_0 rfl (lv_at hl 0 rfl) ?_
  refine lv_iconst (v := nI 0) hx hb dMO_sum_1 (by decide +kernel) ?_
  refine va_put (D := (dC, dI)) (ci := 8) (v := .int (nI 0)) (ty := .int) (C := RMO) (T := TMO) (N := 24) hx hb hts (fun w h => List.mem_cons_of_mem _ (inMO w h)) tyMO tyMO_ok nmMO hown hK hP hD hS 0 rfl rfl 0 (by decide) (hts _ (List.mem_cons_of_mem _ kw_509)) (fun _ h9 => h9) rfl (by decide +kernel) rfl rfl (Nat.le_of_ble_eq_true rfl) dMO_sum_2 (fun H locs hP hD hS => ?_)
  have hP : va_P (dC, dI) vwCl [(hM, .inr (8, [.int (nI 0), .int (nI k), .int (nI n), .ref z1, .ref z2, .int (nI iS), .int (nI sc), .int (nI sn), .int (nI mv), .int (nI sg), .ref z3, .ref z4, .ref z5, .ref z6, .ref z7, .ref z8, .ref z9, .int (nI dn), .ref z10, .ref z11, .ref z12, .ref z13, .ref z14, .int (nI gc)])), (z4, .inl (cI, 4, .inl (fun j9 => nI (sm j9))))] H := hP
  have hD : va_D A [(hM, .inr (8, [.int (nI 0), .int (nI k), .int (nI n), .ref z1, .ref z2, .int (nI iS), .int (nI sc), .int (nI sn), .int (nI mv), .int (nI sg), .ref z3, .ref z4, .ref z5, .ref z6, .ref z7, .ref z8, .ref z9, .int (nI dn), .ref z10, .ref z11, .ref z12, .ref z13, .ref z14, .int (nI gc)])), (z4, .inl (cI, 4, .inl (fun j9 => nI (sm j9))))] := hD
  refine lv_aload_n hx hb dMO_sum_5 rfl (lv_at hl 0 rfl) ?_
  refine lv_iload_n hx hb dMO_sum_6 rfl (lv_at hl 1 rfl) ?_
  refine vp_callSi (va_runV (C := RMO) (As := [.int x]) (rest := []) ⟨hx, hb, hml, hown, hts⟩ (c_MO_isShard l dC dI cI cZ cG hM z1 z2 z3 z4 z5 z6 z7 z8 z9 z10 z11 z12 z13 z14 0 k n iS sc sn mv sg dn gc x (hiS) (hsc) (hsn)) (hr_cwV 1 hts kw_659 kw_661 kw_20 kw_33 kw_662 (by decide +kernel) (by rw [← hRe]; exact ⟨Nat.le_of_ble_eq_true rfl, Nat.le_of_ble_eq_true rfl⟩)) (hr_preR hKX hP [0] rfl (ci := 8) (q0 := 0) (q := (RMO, TMO, 24)) rfl rfl) rfl rfl hl.1 rfl (lv_room (Nat.le_of_ble_eq_true rfl)) dMO_sum_7 ⟨by omega, by omega⟩).run (fun rv hrv => ?_)
  refine hr_eqi hrv ?_
  have hb1 := inB_lt x sc
  refine hr_if_eq hx hb (x := inB x sc) (by omega) (tgt := 22) dMO_sum_10 (by decide) (fun c_1 => ?_) (fun c_1 => ?_)
  · refine lv_iconst (v := (-1)) hx hb dMO_sum_22 (by decide +kernel) ?_
    rw [← hQe]
    exact W.iret (v := (-1)) hx hb hr (fun t ht hW => ⟨⟨_, (), rfl, by rw [rowA, if_pos c_1]; rfl, by rw [ht]; exact hP, hD⟩, hS.F ht⟩) hS.2.2 dMO_sum_23
  · obtain ⟨j, hj, rfl⟩ := inB_pos (by omega) c_1
    refine lv_aload_n hx hb dMO_sum_13 rfl (lv_at hl 0 rfl) ?_
    refine va_get (D := (dC, dI)) (ci := 8) (v := .ref z4) (C := RMO) (T := TMO) (N := 24) hx hb hts (fun w h => List.mem_cons_of_mem _ (inMO w h)) hown hK hP 0 rfl rfl 11 (by decide) (hts _ (List.mem_cons_of_mem _ kw_520)) (fun _ h9 => h9) rfl dMO_sum_14 ?_
    refine lv_iload_n hx hb dMO_sum_17 rfl (lv_at hl 1 rfl) ?_
    refine hr_iald hx hb hK hP 1 0 rfl rfl (i := j) (by omega) (by omega) dMO_sum_18 ?_
    refine lv_goto (tgt := 23) hx hb dMO_sum_19 (by decide) ?_
    rw [← hQe]
    exact W.iret (v := nI (sm j)) hx hb hr (fun t ht hW => ⟨⟨_, (), rfl, by rw [rowA_nI hj (by omega)]; rfl, by rw [ht]; exact hP, hD⟩, hS.F ht⟩) hS.2.2 dMO_sum_23

set_option maxHeartbeats 400000 in
set_option maxRecDepth 100000 in
/-- tries -/
theorem c_MO_tries (l : Launch) (dC : Nat → ClassId) (dI : Nat → Nat → Nat) (cI cZ cG : ClassId) (hM : Nat) (z1 : Nat) (z2 : Nat) (z3 : Nat) (z4 : Nat) (z5 : Nat) (z6 : Nat) (z7 : Nat) (z8 : Nat) (z9 : Nat) (z10 : Nat) (z11 : Nat) (z12 : Nat) (z13 : Nat) (z14 : Nat) (th : Nat) (k : Nat) (n : Nat) (iS : Nat) (sc : Nat) (sn : Nat) (mv : Nat) (sg : Nat) (dn : Nat) (gc : Nat) (tc : Nat → Nat) (x : Int32) (sz : Nat) (hiS : iS < 2 ∧ (iS = 0 → sc = 0 ∧ sn = 0)) (hsc : sc ≤ 4) (hsn : sn ≤ 24) : Met l yMO_tries wsMO_tries ({ frames := 1, cells := 0, slots := 0, locals := 21 }) (va_Pc [.ref hM, .int x] (fun U => U.heap.size = sz ∧ va_P (dC, dI) vwCl [(hM, .inr (8, [.int (nI th), .int (nI k), .int (nI n), .ref z1, .ref z2, .int (nI iS), .int (nI sc), .int (nI sn), .int (nI mv), .int (nI sg), .ref z3, .ref z4, .ref z5, .ref z6, .ref z7, .ref z8, .ref z9, .int (nI dn), .ref z10, .ref z11, .ref z12, .ref z13, .ref z14, .int (nI gc)])), (z8, .inl (cI, 24, .inl (fun j9 => nI (tc j9))))] U.heap ∧ KX dC dI cI cZ cG U ∧ va_D (fun _ => True) [(hM, .inr (8, [.int (nI th), .int (nI k), .int (nI n), .ref z1, .ref z2, .int (nI iS), .int (nI sc), .int (nI sn), .int (nI mv), .int (nI sg), .ref z3, .ref z4, .ref z5, .ref z6, .ref z7, .ref z8, .ref z9, .int (nI dn), .ref z10, .ref z11, .ref z12, .ref z13, .ref z14, .int (nI gc)])), (z8, .inl (cI, 24, .inl (fun j9 => nI (tc j9))))])) (va_Qi (fun (r : Int32) (u : Unit) => r = nI ((rowA sn tc x).getD 0)) (fun u t => va_P (dC, dI) vwCl [(hM, .inr (8, [.int (nI 0), .int (nI k), .int (nI n), .ref z1, .ref z2, .int (nI iS), .int (nI sc), .int (nI sn), .int (nI mv), .int (nI sg), .ref z3, .ref z4, .ref z5, .ref z6, .ref z7, .ref z8, .ref z9, .int (nI dn), .ref z10, .ref z11, .ref z12, .ref z13, .ref z14, .int (nI gc)])), (z8, .inl (cI, 24, .inl (fun j9 => nI (tc j9))))] t.heap ∧ va_D (va_A [(hM, .inr (8, [.int (nI th), .int (nI k), .int (nI n), .ref z1, .ref z2, .int (nI iS), .int (nI sc), .int (nI sn), .int (nI mv), .int (nI sg), .ref z3, .ref z4, .ref z5, .ref z6, .ref z7, .ref z8, .ref z9, .int (nI dn), .ref z10, .ref z11, .ref z12, .ref z13, .ref z14, .int (nI gc)])), (z8, .inl (cI, 24, .inl (fun j9 => nI (tc j9))))] sz) [(hM, .inr (8, [.int (nI 0), .int (nI k), .int (nI n), .ref z1, .ref z2, .int (nI iS), .int (nI sc), .int (nI sn), .int (nI mv), .int (nI sg), .ref z3, .ref z4, .ref z5, .ref z6, .ref z7, .ref z8, .ref z9, .int (nI dn), .ref z10, .ref z11, .ref z12, .ref z13, .ref z14, .int (nI gc)])), (z8, .inl (cI, 24, .inl (fun j9 => nI (tc j9))))]) (va_A [(hM, .inr (8, [.int (nI th), .int (nI k), .int (nI n), .ref z1, .ref z2, .int (nI iS), .int (nI sc), .int (nI sn), .int (nI mv), .int (nI sg), .ref z3, .ref z4, .ref z5, .ref z6, .ref z7, .ref z8, .ref z9, .int (nI dn), .ref z10, .ref z11, .ref z12, .ref z13, .ref z14, .int (nI gc)])), (z8, .inl (cI, 24, .inl (fun j9 => nI (tc j9))))] sz)) 0 0 (va_A [(hM, .inr (8, [.int (nI th), .int (nI k), .int (nI n), .ref z1, .ref z2, .int (nI iS), .int (nI sc), .int (nI sn), .int (nI mv), .int (nI sg), .ref z3, .ref z4, .ref z5, .ref z6, .ref z7, .ref z8, .ref z9, .int (nI dn), .ref z10, .ref z11, .ref z12, .ref z13, .ref z14, .int (nI gc)])), (z8, .inl (cI, 24, .inl (fun j9 => nI (tc j9))))] sz) := by
  refine Met.ofW (cc := cMO_tries) (maxL := 2) (ret := (some .int)) (by decide) rfl ?_
  intro p e s m args below meth c s₁ B hml hv
  obtain ⟨rfl, hsz, hP, hKX, hD0⟩ := hv
  have hK := hKX.1
  have hx := B.exec
  have hb := B.bytes
  have hr := B.returns
  have hts := atoms_spec (ws := wsMO_tries) B.pre
  have hown : s.vm.findClass RMO = some m.cls := findClass_of_methodNamed B.named
  have hlocks := B.notSynchronized
  subst hsz
  have hD := hD0.self (sz := s.heap.size)
  generalize hAe : va_A [(hM, .inr (8, [.int (nI th), .int (nI k), .int (nI n), .ref z1, .ref z2, .int (nI iS), .int (nI sc), .int (nI sn), .int (nI mv), .int (nI sg), .ref z3, .ref z4, .ref z5, .ref z6, .ref z7, .ref z8, .ref z9, .int (nI dn), .ref z10, .ref z11, .ref z12, .ref z13, .ref z14, .int (nI gc)])), (z8, .inl (cI, 24, .inl (fun j9 => nI (tc j9))))] s.heap.size = A at hD ⊢
  have hA : ∀ q : Nat, s.heap.size ≤ q → A q := fun q h => by rw [← hAe]; exact Or.inr h
  have hS : va_S A s.heap s.heap [] := va_S.rf
  have hl := lv_entry ([.ref hM, .int x]) (n := 2) (Nat.le_of_ble_eq_true rfl)
  rw [lg_entry_eq]
  generalize (lg_sl ([.ref hM, .int x]) ++ List.replicate (2 - (lg_sl ([.ref hM, .int x])).length) Slot.unset).toArray = ls at hl ⊢
  have hl : lv_has ls 2 [(0, .ref hM), (1, .int x)] := hl
  generalize hRe : (headSpec wsMO_tries ({ frames := 1, cells := 0, slots := 0, locals := 21 })).room = R
  have hRf : 1 ≤ R.frames := by rw [← hRe]; exact Nat.le_refl _
  have hRl : 21 ≤ R.locals := by rw [← hRe]; exact Nat.le_refl _
  have hRc : 0 ≤ R.cells := by rw [← hRe]; exact Nat.le_refl _
  have hRs : 0 ≤ R.slots := by rw [← hRe]; exact Nat.le_refl _
  generalize hargs : (List.toArray [.ref hM, .int x] : Array Value) = args at hts ⊢
  generalize hQe : MQ below _ args s _ _ _ = Q
  refine lv_aload_n hx hb dMO_tries_0 rfl (lv_at hl 0 rfl) ?_
  refine lv_iconst (v := nI 0) hx hb dMO_tries_1 (by decide +kernel) ?_
  refine va_put (D := (dC, dI)) (ci := 8) (v := .int (nI 0)) (ty := .int) (C := RMO) (T := TMO) (N := 24) hx hb hts (fun w h => List.mem_cons_of_mem _ (inMO w h)) tyMO tyMO_ok nmMO hown hK hP hD hS 0 rfl rfl 0 (by decide) (hts _ (List.mem_cons_of_mem _ kw_509)) (fun _ h9 => h9) rfl (by decide +kernel) rfl rfl (Nat.le_of_ble_eq_true rfl) dMO_tries_2 (fun H locs hP hD hS => ?_)
  have hP : va_P (dC, dI) vwCl [(hM, .inr (8, [.int (nI 0), .int (nI k), .int (nI n), .ref z1, .ref z2, .int (nI iS), .int (nI sc), .int (nI sn), .int (nI mv), .int (nI sg), .ref z3, .ref z4, .ref z5, .ref z6, .ref z7, .ref z8, .ref z9, .int (nI dn), .ref z10, .ref z11, .ref z12, .ref z13, .ref z14, .int (nI gc)])), (z8, .inl (cI, 24, .inl (fun j9 => nI (tc j9))))] H := hP
  have hD : va_D A [(hM, .inr (8, [.int (nI 0), .int (nI k), .int (nI n), .ref z1, .ref z2, .int (nI iS), .int (nI sc), .int (nI sn), .int (nI mv), .int (nI sg), .ref z3, .ref z4, .ref z5, .ref z6, .ref z7, .ref z8, .ref z9, .int (nI dn), .ref z10, .ref z11, .ref z12, .ref z13, .ref z14, .int (nI gc)])), (z8, .inl (cI, 24, .inl (fun j9 => nI (tc j9))))] := hD
  refine lv_aload_n hx hb dMO_tries_5 rfl (lv_at hl 0 rfl) ?_
  refine lv_iload_n hx hb dMO_tries_6 rfl (lv_at hl 1 rfl) ?_
  refine vp_callSi (va_runV (C := RMO) (As := [.int x]) (rest := []) ⟨hx, hb, hml, hown, hts⟩ (c_MO_isIn l dC dI cI cZ cG hM z1 z2 z3 z4 z5 z6 z7 z8 z9 z10 z11 z12 z13 z14 0 k n iS sc sn mv sg dn gc x (hiS) (hsc) (hsn)) (hr_cwV 1 hts kw_651 kw_653 kw_19 kw_33 kw_654 (by decide +kernel) (by rw [← hRe]; exact ⟨Nat.le_of_ble_eq_true rfl, Nat.le_of_ble_eq_true rfl⟩)) (hr_preR hKX hP [0] rfl (ci := 8) (q0 := 0) (q := (RMO, TMO, 24)) rfl rfl) rfl rfl hl.1 rfl (lv_room (Nat.le_of_ble_eq_true rfl)) dMO_tries_7 ⟨by omega, by omega⟩).run (fun rv hrv => ?_)
  refine hr_eqi hrv ?_
  have hb0 := inB_lt x sn
  refine hr_if_eq hx hb (x := inB x sn) (by omega) (tgt := 22) dMO_tries_10 (by decide) (fun c_1 => ?_) (fun c_1 => ?_)
  · refine lv_iconst (v := nI 0) hx hb dMO_tries_22 (by decide +kernel) ?_
    rw [← hQe]
    exact W.iret (v := nI 0) hx hb hr (fun t ht hW => ⟨⟨_, (), rfl, by rw [rowA, if_pos c_1]; rfl, by rw [ht]; exact hP, hD⟩, hS.F ht⟩) hS.2.2 dMO_tries_23
  · obtain ⟨j, hj, rfl⟩ := inB_pos (by omega) c_1
    refine lv_aload_n hx hb dMO_tries_13 rfl (lv_at hl 0 rfl) ?_
    refine va_get (D := (dC, dI)) (ci := 8) (v := .ref z8) (C := RMO) (T := TMO) (N := 24) hx hb hts (fun w h => List.mem_cons_of_mem _ (inMO w h)) hown hK hP 0 rfl rfl 15 (by decide) (hts _ (List.mem_cons_of_mem _ kw_524)) (fun _ h9 => h9) rfl dMO_tries_14 ?_
    refine lv_iload_n hx hb dMO_tries_17 rfl (lv_at hl 1 rfl) ?_
    refine hr_iald hx hb hK hP 1 0 rfl rfl (i := j) (by omega) (by omega) dMO_tries_18 ?_
    refine lv_goto (tgt := 23) hx hb dMO_tries_19 (by decide) ?_
    rw [← hQe]
    exact W.iret (v := nI (tc j)) hx hb hr (fun t ht hW => ⟨⟨_, (), rfl, by rw [rowA_nI hj (by omega)]; rfl, by rw [ht]; exact hP, hD⟩, hS.F ht⟩) hS.2.2 dMO_tries_23

set_option maxHeartbeats 400000 in
set_option maxRecDepth 100000 in
/-- moved -/
theorem c_MO_moved (l : Launch) (dC : Nat → ClassId) (dI : Nat → Nat → Nat) (cI cZ cG : ClassId) (hM : Nat) (z1 : Nat) (z2 : Nat) (z3 : Nat) (z4 : Nat) (z5 : Nat) (z6 : Nat) (z7 : Nat) (z8 : Nat) (z9 : Nat) (z10 : Nat) (z11 : Nat) (z12 : Nat) (z13 : Nat) (z14 : Nat) (th : Nat) (k : Nat) (n : Nat) (iS : Nat) (sc : Nat) (sn : Nat) (mv : Nat) (sg : Nat) (dn : Nat) (gc : Nat) (sz : Nat) : Met l yMO_moved wsMO_moved ({ frames := 0, cells := 0, slots := 0, locals := 0 }) (va_Pc [.ref hM] (fun U => U.heap.size = sz ∧ va_P (dC, dI) vwCl [(hM, .inr (8, [.int (nI th), .int (nI k), .int (nI n), .ref z1, .ref z2, .int (nI iS), .int (nI sc), .int (nI sn), .int (nI mv), .int (nI sg), .ref z3, .ref z4, .ref z5, .ref z6, .ref z7, .ref z8, .ref z9, .int (nI dn), .ref z10, .ref z11, .ref z12, .ref z13, .ref z14, .int (nI gc)]))] U.heap ∧ KX dC dI cI cZ cG U ∧ va_D (fun _ => True) [(hM, .inr (8, [.int (nI th), .int (nI k), .int (nI n), .ref z1, .ref z2, .int (nI iS), .int (nI sc), .int (nI sn), .int (nI mv), .int (nI sg), .ref z3, .ref z4, .ref z5, .ref z6, .ref z7, .ref z8, .ref z9, .int (nI dn), .ref z10, .ref z11, .ref z12, .ref z13, .ref z14, .int (nI gc)]))])) (va_Qi (fun (r : Int32) (u : Unit) => r = nI mv) (fun u t => va_P (dC, dI) vwCl [(hM, .inr (8, [.int (nI 0), .int (nI k), .int (nI n), .ref z1, .ref z2, .int (nI iS), .int (nI sc), .int (nI sn), .int (nI mv), .int (nI sg), .ref z3, .ref z4, .ref z5, .ref z6, .ref z7, .ref z8, .ref z9, .int (nI dn), .ref z10, .ref z11, .ref z12, .ref z13, .ref z14, .int (nI gc)]))] t.heap ∧ va_D (va_A [(hM, .inr (8, [.int (nI th), .int (nI k), .int (nI n), .ref z1, .ref z2, .int (nI iS), .int (nI sc), .int (nI sn), .int (nI mv), .int (nI sg), .ref z3, .ref z4, .ref z5, .ref z6, .ref z7, .ref z8, .ref z9, .int (nI dn), .ref z10, .ref z11, .ref z12, .ref z13, .ref z14, .int (nI gc)]))] sz) [(hM, .inr (8, [.int (nI 0), .int (nI k), .int (nI n), .ref z1, .ref z2, .int (nI iS), .int (nI sc), .int (nI sn), .int (nI mv), .int (nI sg), .ref z3, .ref z4, .ref z5, .ref z6, .ref z7, .ref z8, .ref z9, .int (nI dn), .ref z10, .ref z11, .ref z12, .ref z13, .ref z14, .int (nI gc)]))]) (va_A [(hM, .inr (8, [.int (nI th), .int (nI k), .int (nI n), .ref z1, .ref z2, .int (nI iS), .int (nI sc), .int (nI sn), .int (nI mv), .int (nI sg), .ref z3, .ref z4, .ref z5, .ref z6, .ref z7, .ref z8, .ref z9, .int (nI dn), .ref z10, .ref z11, .ref z12, .ref z13, .ref z14, .int (nI gc)]))] sz)) 0 0 (va_A [(hM, .inr (8, [.int (nI th), .int (nI k), .int (nI n), .ref z1, .ref z2, .int (nI iS), .int (nI sc), .int (nI sn), .int (nI mv), .int (nI sg), .ref z3, .ref z4, .ref z5, .ref z6, .ref z7, .ref z8, .ref z9, .int (nI dn), .ref z10, .ref z11, .ref z12, .ref z13, .ref z14, .int (nI gc)]))] sz) := by
  refine Met.ofW (cc := cMO_moved) (maxL := 1) (ret := (some .int)) (by decide) rfl ?_
  intro p e s m args below meth c s₁ B hml hv
  obtain ⟨rfl, hsz, hP, hKX, hD0⟩ := hv
  have hK := hKX.1
  have hx := B.exec
  have hb := B.bytes
  have hr := B.returns
  have hts := atoms_spec (ws := wsMO_moved) B.pre
  have hown : s.vm.findClass RMO = some m.cls := findClass_of_methodNamed B.named
  have hlocks := B.notSynchronized
  subst hsz
  have hD := hD0.self (sz := s.heap.size)
  generalize hAe : va_A [(hM, .inr (8, [.int (nI th), .int (nI k), .int (nI n), .ref z1, .ref z2, .int (nI iS), .int (nI sc), .int (nI sn), .int (nI mv), .int (nI sg), .ref z3, .ref z4, .ref z5, .ref z6, .ref z7, .ref z8, .ref z9, .int (nI dn), .ref z10, .ref z11, .ref z12, .ref z13, .ref z14, .int (nI gc)]))] s.heap.size = A at hD ⊢
  have hA : ∀ q : Nat, s.heap.size ≤ q → A q := fun q h => by rw [← hAe]; exact Or.inr h
  have hS : va_S A s.heap s.heap [] := va_S.rf
  have hl := lv_entry ([.ref hM]) (n := 1) (Nat.le_of_ble_eq_true rfl)
  rw [lg_entry_eq]
  generalize (lg_sl ([.ref hM]) ++ List.replicate (1 - (lg_sl ([.ref hM])).length) Slot.unset).toArray = ls at hl ⊢
  have hl : lv_has ls 1 [(0, .ref hM)] := hl
  generalize hRe : (headSpec wsMO_moved ({ frames := 0, cells := 0, slots := 0, locals := 0 })).room = R
  have hRf : 0 ≤ R.frames := by rw [← hRe]; exact Nat.le_refl _
  have hRl : 0 ≤ R.locals := by rw [← hRe]; exact Nat.le_refl _
  have hRc : 0 ≤ R.cells := by rw [← hRe]; exact Nat.le_refl _
  have hRs : 0 ≤ R.slots := by rw [← hRe]; exact Nat.le_refl _
  generalize hargs : (List.toArray [.ref hM] : Array Value) = args at hts ⊢
  generalize hQe : MQ below _ args s _ _ _ = Q
  refine lv_aload_n hx hb dMO_moved_0 rfl (lv_at hl 0 rfl) ?_
  refine lv_iconst (v := nI 0) hx hb dMO_moved_1 (by decide +kernel) ?_
  refine va_put (D := (dC, dI)) (ci := 8) (v := .int (nI 0)) (ty := .int) (C := RMO) (T := TMO) (N := 24) hx hb hts (fun w h => List.mem_cons_of_mem _ (inMO w h)) tyMO tyMO_ok nmMO hown hK hP hD hS 0 rfl rfl 0 (by decide) (hts _ (List.mem_cons_of_mem _ kw_509)) (fun _ h9 => h9) rfl (by decide +kernel) rfl rfl (Nat.le_of_ble_eq_true rfl) dMO_moved_2 (fun H locs hP hD hS => ?_)
  have hP : va_P (dC, dI) vwCl [(hM, .inr (8, [.int (nI 0), .int (nI k), .int (nI n), .ref z1, .ref z2, .int (nI iS), .int (nI sc), .int (nI sn), .int (nI mv), .int (nI sg), .ref z3, .ref z4, .ref z5, .ref z6, .ref z7, .ref z8, .ref z9, .int (nI dn), .ref z10, .ref z11, .ref z12, .ref z13, .ref z14, .int (nI gc)]))] H := hP
  have hD : va_D A [(hM, .inr (8, [.int (nI 0), .int (nI k), .int (nI n), .ref z1, .ref z2, .int (nI iS), .int (nI sc), .int (nI sn), .int (nI mv), .int (nI sg), .ref z3, .ref z4, .ref z5, .ref z6, .ref z7, .ref z8, .ref z9, .int (nI dn), .ref z10, .ref z11, .ref z12, .ref z13, .ref z14, .int (nI gc)]))] := hD
  refine lv_aload_n hx hb dMO_moved_5 rfl (lv_at hl 0 rfl) ?_
  refine va_get (D := (dC, dI)) (ci := 8) (v := .int (nI mv)) (C := RMO) (T := TMO) (N := 24) hx hb hts (fun w h => List.mem_cons_of_mem _ (inMO w h)) hown hK hP 0 rfl rfl 8 (by decide) (hts _ (List.mem_cons_of_mem _ kw_517)) (fun _ h9 => h9) rfl dMO_moved_6 ?_
  rw [← hQe]
  exact W.iret (v := nI mv) hx hb hr (fun t ht hW => ⟨⟨_, (), rfl, rfl, by rw [ht]; exact hP, hD⟩, hS.F ht⟩) hS.2.2 dMO_moved_9

set_option maxHeartbeats 400000 in
set_option maxRecDepth 100000 in
/-- strange -/
theorem c_MO_strange (l : Launch) (dC : Nat → ClassId) (dI : Nat → Nat → Nat) (cI cZ cG : ClassId) (hM : Nat) (z1 : Nat) (z2 : Nat) (z3 : Nat) (z4 : Nat) (z5 : Nat) (z6 : Nat) (z7 : Nat) (z8 : Nat) (z9 : Nat) (z10 : Nat) (z11 : Nat) (z12 : Nat) (z13 : Nat) (z14 : Nat) (th : Nat) (k : Nat) (n : Nat) (iS : Nat) (sc : Nat) (sn : Nat) (mv : Nat) (sg : Nat) (dn : Nat) (gc : Nat) (sz : Nat) : Met l yMO_strange wsMO_strange ({ frames := 0, cells := 0, slots := 0, locals := 0 }) (va_Pc [.ref hM] (fun U => U.heap.size = sz ∧ va_P (dC, dI) vwCl [(hM, .inr (8, [.int (nI th), .int (nI k), .int (nI n), .ref z1, .ref z2, .int (nI iS), .int (nI sc), .int (nI sn), .int (nI mv), .int (nI sg), .ref z3, .ref z4, .ref z5, .ref z6, .ref z7, .ref z8, .ref z9, .int (nI dn), .ref z10, .ref z11, .ref z12, .ref z13, .ref z14, .int (nI gc)]))] U.heap ∧ KX dC dI cI cZ cG U ∧ va_D (fun _ => True) [(hM, .inr (8, [.int (nI th), .int (nI k), .int (nI n), .ref z1, .ref z2, .int (nI iS), .int (nI sc), .int (nI sn), .int (nI mv), .int (nI sg), .ref z3, .ref z4, .ref z5, .ref z6, .ref z7, .ref z8, .ref z9, .int (nI dn), .ref z10, .ref z11, .ref z12, .ref z13, .ref z14, .int (nI gc)]))])) (va_Qi (fun (r : Int32) (u : Unit) => r = nI sg) (fun u t => va_P (dC, dI) vwCl [(hM, .inr (8, [.int (nI 0), .int (nI k), .int (nI n), .ref z1, .ref z2, .int (nI iS), .int (nI sc), .int (nI sn), .int (nI mv), .int (nI sg), .ref z3, .ref z4, .ref z5, .ref z6, .ref z7, .ref z8, .ref z9, .int (nI dn), .ref z10, .ref z11, .ref z12, .ref z13, .ref z14, .int (nI gc)]))] t.heap ∧ va_D (va_A [(hM, .inr (8, [.int (nI th), .int (nI k), .int (nI n), .ref z1, .ref z2, .int (nI iS), .int (nI sc), .int (nI sn), .int (nI mv), .int (nI sg), .ref z3, .ref z4, .ref z5, .ref z6, .ref z7, .ref z8, .ref z9, .int (nI dn), .ref z10, .ref z11, .ref z12, .ref z13, .ref z14, .int (nI gc)]))] sz) [(hM, .inr (8, [.int (nI 0), .int (nI k), .int (nI n), .ref z1, .ref z2, .int (nI iS), .int (nI sc), .int (nI sn), .int (nI mv), .int (nI sg), .ref z3, .ref z4, .ref z5, .ref z6, .ref z7, .ref z8, .ref z9, .int (nI dn), .ref z10, .ref z11, .ref z12, .ref z13, .ref z14, .int (nI gc)]))]) (va_A [(hM, .inr (8, [.int (nI th), .int (nI k), .int (nI n), .ref z1, .ref z2, .int (nI iS), .int (nI sc), .int (nI sn), .int (nI mv), .int (nI sg), .ref z3, .ref z4, .ref z5, .ref z6, .ref z7, .ref z8, .ref z9, .int (nI dn), .ref z10, .ref z11, .ref z12, .ref z13, .ref z14, .int (nI gc)]))] sz)) 0 0 (va_A [(hM, .inr (8, [.int (nI th), .int (nI k), .int (nI n), .ref z1, .ref z2, .int (nI iS), .int (nI sc), .int (nI sn), .int (nI mv), .int (nI sg), .ref z3, .ref z4, .ref z5, .ref z6, .ref z7, .ref z8, .ref z9, .int (nI dn), .ref z10, .ref z11, .ref z12, .ref z13, .ref z14, .int (nI gc)]))] sz) := by
  refine Met.ofW (cc := cMO_strange) (maxL := 1) (ret := (some .int)) (by decide) rfl ?_
  intro p e s m args below meth c s₁ B hml hv
  obtain ⟨rfl, hsz, hP, hKX, hD0⟩ := hv
  have hK := hKX.1
  have hx := B.exec
  have hb := B.bytes
  have hr := B.returns
  have hts := atoms_spec (ws := wsMO_strange) B.pre
  have hown : s.vm.findClass RMO = some m.cls := findClass_of_methodNamed B.named
  have hlocks := B.notSynchronized
  subst hsz
  have hD := hD0.self (sz := s.heap.size)
  generalize hAe : va_A [(hM, .inr (8, [.int (nI th), .int (nI k), .int (nI n), .ref z1, .ref z2, .int (nI iS), .int (nI sc), .int (nI sn), .int (nI mv), .int (nI sg), .ref z3, .ref z4, .ref z5, .ref z6, .ref z7, .ref z8, .ref z9, .int (nI dn), .ref z10, .ref z11, .ref z12, .ref z13, .ref z14, .int (nI gc)]))] s.heap.size = A at hD ⊢
  have hA : ∀ q : Nat, s.heap.size ≤ q → A q := fun q h => by rw [← hAe]; exact Or.inr h
  have hS : va_S A s.heap s.heap [] := va_S.rf
  have hl := lv_entry ([.ref hM]) (n := 1) (Nat.le_of_ble_eq_true rfl)
  rw [lg_entry_eq]
  generalize (lg_sl ([.ref hM]) ++ List.replicate (1 - (lg_sl ([.ref hM])).length) Slot.unset).toArray = ls at hl ⊢
  have hl : lv_has ls 1 [(0, .ref hM)] := hl
  generalize hRe : (headSpec wsMO_strange ({ frames := 0, cells := 0, slots := 0, locals := 0 })).room = R
  have hRf : 0 ≤ R.frames := by rw [← hRe]; exact Nat.le_refl _
  have hRl : 0 ≤ R.locals := by rw [← hRe]; exact Nat.le_refl _
  have hRc : 0 ≤ R.cells := by rw [← hRe]; exact Nat.le_refl _
  have hRs : 0 ≤ R.slots := by rw [← hRe]; exact Nat.le_refl _
  generalize hargs : (List.toArray [.ref hM] : Array Value) = args at hts ⊢
  generalize hQe : MQ below _ args s _ _ _ = Q
  refine lv_aload_n hx hb dMO_strange_0 rfl (lv_at hl 0 rfl) ?_
  refine lv_iconst (v := nI 0) hx hb dMO_strange_1 (by decide +kernel) ?_
  refine va_put (D := (dC, dI)) (ci := 8) (v := .int (nI 0)) (ty := .int) (C := RMO) (T := TMO) (N := 24) hx hb hts (fun w h => List.mem_cons_of_mem _ (inMO w h)) tyMO tyMO_ok nmMO hown hK hP hD hS 0 rfl rfl 0 (by decide) (hts _ (List.mem_cons_of_mem _ kw_509)) (fun _ h9 => h9) rfl (by decide +kernel) rfl rfl (Nat.le_of_ble_eq_true rfl) dMO_strange_2 (fun H locs hP hD hS => ?_)
  have hP : va_P (dC, dI) vwCl [(hM, .inr (8, [.int (nI 0), .int (nI k), .int (nI n), .ref z1, .ref z2, .int (nI iS), .int (nI sc), .int (nI sn), .int (nI mv), .int (nI sg), .ref z3, .ref z4, .ref z5, .ref z6, .ref z7, .ref z8, .ref z9, .int (nI dn), .ref z10, .ref z11, .ref z12, .ref z13, .ref z14, .int (nI gc)]))] H := hP
  have hD : va_D A [(hM, .inr (8, [.int (nI 0), .int (nI k), .int (nI n), .ref z1, .ref z2, .int (nI iS), .int (nI sc), .int (nI sn), .int (nI mv), .int (nI sg), .ref z3, .ref z4, .ref z5, .ref z6, .ref z7, .ref z8, .ref z9, .int (nI dn), .ref z10, .ref z11, .ref z12, .ref z13, .ref z14, .int (nI gc)]))] := hD
  refine lv_aload_n hx hb dMO_strange_5 rfl (lv_at hl 0 rfl) ?_
  refine va_get (D := (dC, dI)) (ci := 8) (v := .int (nI sg)) (C := RMO) (T := TMO) (N := 24) hx hb hts (fun w h => List.mem_cons_of_mem _ (inMO w h)) hown hK hP 0 rfl rfl 9 (by decide) (hts _ (List.mem_cons_of_mem _ kw_518)) (fun _ h9 => h9) rfl dMO_strange_6 ?_
  rw [← hQe]
  exact W.iret (v := nI sg) hx hb hr (fun t ht hW => ⟨⟨_, (), rfl, rfl, by rw [ht]; exact hP, hD⟩, hS.F ht⟩) hS.2.2 dMO_strange_9

set_option maxHeartbeats 400000 in
set_option maxRecDepth 100000 in
/-- drawn -/
theorem c_MO_drawn (l : Launch) (dC : Nat → ClassId) (dI : Nat → Nat → Nat) (cI cZ cG : ClassId) (hM : Nat) (z1 : Nat) (z2 : Nat) (z3 : Nat) (z4 : Nat) (z5 : Nat) (z6 : Nat) (z7 : Nat) (z8 : Nat) (z9 : Nat) (z10 : Nat) (z11 : Nat) (z12 : Nat) (z13 : Nat) (z14 : Nat) (th : Nat) (k : Nat) (n : Nat) (iS : Nat) (sc : Nat) (sn : Nat) (mv : Nat) (sg : Nat) (dn : Nat) (gc : Nat) (wr : Nat → Nat) (x : Int32) (sz : Nat) (hdn : dn ≤ 24) : Met l yMO_drawn wsMO_drawn ({ frames := 0, cells := 0, slots := 0, locals := 0 }) (va_Pc [.ref hM, .int x] (fun U => U.heap.size = sz ∧ va_P (dC, dI) vwCl [(hM, .inr (8, [.int (nI th), .int (nI k), .int (nI n), .ref z1, .ref z2, .int (nI iS), .int (nI sc), .int (nI sn), .int (nI mv), .int (nI sg), .ref z3, .ref z4, .ref z5, .ref z6, .ref z7, .ref z8, .ref z9, .int (nI dn), .ref z10, .ref z11, .ref z12, .ref z13, .ref z14, .int (nI gc)])), (z9, .inl (cI, 24, .inl (fun j9 => nI (wr j9))))] U.heap ∧ KX dC dI cI cZ cG U ∧ va_D (fun _ => True) [(hM, .inr (8, [.int (nI th), .int (nI k), .int (nI n), .ref z1, .ref z2, .int (nI iS), .int (nI sc), .int (nI sn), .int (nI mv), .int (nI sg), .ref z3, .ref z4, .ref z5, .ref z6, .ref z7, .ref z8, .ref z9, .int (nI dn), .ref z10, .ref z11, .ref z12, .ref z13, .ref z14, .int (nI gc)])), (z9, .inl (cI, 24, .inl (fun j9 => nI (wr j9))))])) (va_Qi (fun (r : Int32) (u : Unit) => r = oI (rowA dn wr x)) (fun u t => va_P (dC, dI) vwCl [(hM, .inr (8, [.int (nI 0), .int (nI k), .int (nI n), .ref z1, .ref z2, .int (nI iS), .int (nI sc), .int (nI sn), .int (nI mv), .int (nI sg), .ref z3, .ref z4, .ref z5, .ref z6, .ref z7, .ref z8, .ref z9, .int (nI dn), .ref z10, .ref z11, .ref z12, .ref z13, .ref z14, .int (nI gc)])), (z9, .inl (cI, 24, .inl (fun j9 => nI (wr j9))))] t.heap ∧ va_D (va_A [(hM, .inr (8, [.int (nI th), .int (nI k), .int (nI n), .ref z1, .ref z2, .int (nI iS), .int (nI sc), .int (nI sn), .int (nI mv), .int (nI sg), .ref z3, .ref z4, .ref z5, .ref z6, .ref z7, .ref z8, .ref z9, .int (nI dn), .ref z10, .ref z11, .ref z12, .ref z13, .ref z14, .int (nI gc)])), (z9, .inl (cI, 24, .inl (fun j9 => nI (wr j9))))] sz) [(hM, .inr (8, [.int (nI 0), .int (nI k), .int (nI n), .ref z1, .ref z2, .int (nI iS), .int (nI sc), .int (nI sn), .int (nI mv), .int (nI sg), .ref z3, .ref z4, .ref z5, .ref z6, .ref z7, .ref z8, .ref z9, .int (nI dn), .ref z10, .ref z11, .ref z12, .ref z13, .ref z14, .int (nI gc)])), (z9, .inl (cI, 24, .inl (fun j9 => nI (wr j9))))]) (va_A [(hM, .inr (8, [.int (nI th), .int (nI k), .int (nI n), .ref z1, .ref z2, .int (nI iS), .int (nI sc), .int (nI sn), .int (nI mv), .int (nI sg), .ref z3, .ref z4, .ref z5, .ref z6, .ref z7, .ref z8, .ref z9, .int (nI dn), .ref z10, .ref z11, .ref z12, .ref z13, .ref z14, .int (nI gc)])), (z9, .inl (cI, 24, .inl (fun j9 => nI (wr j9))))] sz)) 0 0 (va_A [(hM, .inr (8, [.int (nI th), .int (nI k), .int (nI n), .ref z1, .ref z2, .int (nI iS), .int (nI sc), .int (nI sn), .int (nI mv), .int (nI sg), .ref z3, .ref z4, .ref z5, .ref z6, .ref z7, .ref z8, .ref z9, .int (nI dn), .ref z10, .ref z11, .ref z12, .ref z13, .ref z14, .int (nI gc)])), (z9, .inl (cI, 24, .inl (fun j9 => nI (wr j9))))] sz) := by
  refine Met.ofW (cc := cMO_drawn) (maxL := 2) (ret := (some .int)) (by decide) rfl ?_
  intro p e s m args below meth c s₁ B hml hv
  obtain ⟨rfl, hsz, hP, hKX, hD0⟩ := hv
  have hK := hKX.1
  have hx := B.exec
  have hb := B.bytes
  have hr := B.returns
  have hts := atoms_spec (ws := wsMO_drawn) B.pre
  have hown : s.vm.findClass RMO = some m.cls := findClass_of_methodNamed B.named
  have hlocks := B.notSynchronized
  subst hsz
  have hD := hD0.self (sz := s.heap.size)
  generalize hAe : va_A [(hM, .inr (8, [.int (nI th), .int (nI k), .int (nI n), .ref z1, .ref z2, .int (nI iS), .int (nI sc), .int (nI sn), .int (nI mv), .int (nI sg), .ref z3, .ref z4, .ref z5, .ref z6, .ref z7, .ref z8, .ref z9, .int (nI dn), .ref z10, .ref z11, .ref z12, .ref z13, .ref z14, .int (nI gc)])), (z9, .inl (cI, 24, .inl (fun j9 => nI (wr j9))))] s.heap.size = A at hD ⊢
  have hA : ∀ q : Nat, s.heap.size ≤ q → A q := fun q h => by rw [← hAe]; exact Or.inr h
  have hS : va_S A s.heap s.heap [] := va_S.rf
  have hl := lv_entry ([.ref hM, .int x]) (n := 2) (Nat.le_of_ble_eq_true rfl)
  rw [lg_entry_eq]
  generalize (lg_sl ([.ref hM, .int x]) ++ List.replicate (2 - (lg_sl ([.ref hM, .int x])).length) Slot.unset).toArray = ls at hl ⊢
  have hl : lv_has ls 2 [(0, .ref hM), (1, .int x)] := hl
  generalize hRe : (headSpec wsMO_drawn ({ frames := 0, cells := 0, slots := 0, locals := 0 })).room = R
  have hRf : 0 ≤ R.frames := by rw [← hRe]; exact Nat.le_refl _
  have hRl : 0 ≤ R.locals := by rw [← hRe]; exact Nat.le_refl _
  have hRc : 0 ≤ R.cells := by rw [← hRe]; exact Nat.le_refl _
  have hRs : 0 ≤ R.slots := by rw [← hRe]; exact Nat.le_refl _
  generalize hargs : (List.toArray [.ref hM, .int x] : Array Value) = args at hts ⊢
  generalize hQe : MQ below _ args s _ _ _ = Q
  refine lv_aload_n hx hb dMO_drawn_0 rfl (lv_at hl 0 rfl) ?_
  refine lv_iconst (v := nI 0) hx hb dMO_drawn_1 (by decide +kernel) ?_
  refine va_put (D := (dC, dI)) (ci := 8) (v := .int (nI 0)) (ty := .int) (C := RMO) (T := TMO) (N := 24) hx hb hts (fun w h => List.mem_cons_of_mem _ (inMO w h)) tyMO tyMO_ok nmMO hown hK hP hD hS 0 rfl rfl 0 (by decide) (hts _ (List.mem_cons_of_mem _ kw_509)) (fun _ h9 => h9) rfl (by decide +kernel) rfl rfl (Nat.le_of_ble_eq_true rfl) dMO_drawn_2 (fun H locs hP hD hS => ?_)
  have hP : va_P (dC, dI) vwCl [(hM, .inr (8, [.int (nI 0), .int (nI k), .int (nI n), .ref z1, .ref z2, .int (nI iS), .int (nI sc), .int (nI sn), .int (nI mv), .int (nI sg), .ref z3, .ref z4, .ref z5, .ref z6, .ref z7, .ref z8, .ref z9, .int (nI dn), .ref z10, .ref z11, .ref z12, .ref z13, .ref z14, .int (nI gc)])), (z9, .inl (cI, 24, .inl (fun j9 => nI (wr j9))))] H := hP
  have hD : va_D A [(hM, .inr (8, [.int (nI 0), .int (nI k), .int (nI n), .ref z1, .ref z2, .int (nI iS), .int (nI sc), .int (nI sn), .int (nI mv), .int (nI sg), .ref z3, .ref z4, .ref z5, .ref z6, .ref z7, .ref z8, .ref z9, .int (nI dn), .ref z10, .ref z11, .ref z12, .ref z13, .ref z14, .int (nI gc)])), (z9, .inl (cI, 24, .inl (fun j9 => nI (wr j9))))] := hD
  refine lv_iload_n hx hb dMO_drawn_5 rfl (lv_at hl 1 rfl) ?_
  refine lv_if_lt (tgt := 26) hx hb dMO_drawn_6 (by decide) (fun c_1 => ?_) (fun c_1 => ?_)
  · refine lv_iconst (v := (-1)) hx hb dMO_drawn_26 (by decide +kernel) ?_
    rw [← hQe]
    exact W.iret (v := (-1)) hx hb hr (fun t ht hW => ⟨⟨_, (), rfl, by rw [rowA, if_pos (inB_neg c_1)]; rfl, by rw [ht]; exact hP, hD⟩, hS.F ht⟩) hS.2.2 dMO_drawn_27
  · refine lv_iload_n hx hb dMO_drawn_9 rfl (lv_at hl 1 rfl) ?_
    refine lv_aload_n hx hb dMO_drawn_10 rfl (lv_at hl 0 rfl) ?_
    refine va_get (D := (dC, dI)) (ci := 8) (v := .int (nI dn)) (C := RMO) (T := TMO) (N := 24) hx hb hts (fun w h => List.mem_cons_of_mem _ (inMO w h)) hown hK hP 0 rfl rfl 17 (by decide) (hts _ (List.mem_cons_of_mem _ kw_526)) (fun _ h9 => h9) rfl dMO_drawn_11 ?_
    refine lv_icmp_ge (tgt := 26) hx hb dMO_drawn_14 (by decide) (fun c_2 => ?_) (fun c_2 => ?_)
    · refine lv_iconst (v := (-1)) hx hb dMO_drawn_26 (by decide +kernel) ?_
      rw [← hQe]
      exact W.iret (v := (-1)) hx hb hr (fun t ht hW => ⟨⟨_, (), rfl, by rw [rowA, if_pos (inB_big c_1 c_2)]; rfl, by rw [ht]; exact hP, hD⟩, hS.F ht⟩) hS.2.2 dMO_drawn_27
    · obtain ⟨j, hj, rfl⟩ := inB_pos (n := dn) (by omega) (by rw [inB_in c_1 c_2]; decide)
      refine lv_aload_n hx hb dMO_drawn_17 rfl (lv_at hl 0 rfl) ?_
      refine va_get (D := (dC, dI)) (ci := 8) (v := .ref z9) (C := RMO) (T := TMO) (N := 24) hx hb hts (fun w h => List.mem_cons_of_mem _ (inMO w h)) hown hK hP 0 rfl rfl 16 (by decide) (hts _ (List.mem_cons_of_mem _ kw_525)) (fun _ h9 => h9) rfl dMO_drawn_18 ?_
      refine lv_iload_n hx hb dMO_drawn_21 rfl (lv_at hl 1 rfl) ?_
      refine hr_iald hx hb hK hP 1 0 rfl rfl (i := j) (by omega) (by omega) dMO_drawn_22 ?_
      refine lv_goto (tgt := 27) hx hb dMO_drawn_23 (by decide) ?_
      rw [← hQe]
      exact W.iret (v := nI (wr j)) hx hb hr (fun t ht hW => ⟨⟨_, (), rfl, by rw [rowA_nI hj (by omega)]; rfl, by rw [ht]; exact hP, hD⟩, hS.F ht⟩) hS.2.2 dMO_drawn_27
