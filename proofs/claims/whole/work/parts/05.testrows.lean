set_option maxHeartbeats 4000000 in
set_option maxRecDepth 100000 in
/-- is there such a TEST -/
theorem c_TR_has (l : Launch) (dC : Nat → ClassId) (dI : Nat → Nat → Nat) (cI cZ cG : ClassId) (h : Nat) (a : Nat) (b : Nat) (n : Nat) (tf : Nat → Nat) (ff : Nat → Nat) (x : Int32) (hn : n ≤ 24) : Met l yTR_has wsTR_has ({ frames := 0, cells := 0, slots := 0, locals := 0 }) (va_Pc [.ref h, .int x] (fun U => va_P (dC, dI) vwCl [(h, .inr (0, [.int (nI n), .ref a, .ref b])), (a, .inl (cI, 24, .inl (fun j9 => nI (tf j9)))), (b, .inl (cI, 24, .inl (fun j9 => nI (ff j9))))] U.heap ∧ KX dC dI cI cZ cG U)) (vp_Si (fun r => r = nI (inB x n))) 0 0 (fun _ => False) := by
  refine Met.ofW (cc := cTR_has) (maxL := 2) (ret := (some .boolean)) (by decide) rfl ?_
  intro p e s m args below meth c s₁ B hml hv
  obtain ⟨rfl, hP, hKX⟩ := hv
  have hK := hKX.1
  have hx := B.exec
  have hb := B.bytes
  have hr := B.returns
  have hts := atoms_spec (ws := wsTR_has) B.pre
  have hown : s.vm.findClass RTR = some m.cls := findClass_of_methodNamed B.named
  have hlocks := B.notSynchronized
  have hl := lv_entry ([.ref h, .int x]) (n := 2) (Nat.le_of_ble_eq_true rfl)
  rw [lg_entry_eq]
  generalize (lg_sl ([.ref h, .int x]) ++ List.replicate (2 - (lg_sl ([.ref h, .int x])).length) Slot.unset).toArray = ls at hl ⊢
  have hl : lv_has ls 2 [(0, .ref h), (1, .int x)] := hl
  generalize hRe : (headSpec wsTR_has ({ frames := 0, cells := 0, slots := 0, locals := 0 })).room = R
  have hRf : 0 ≤ R.frames := by rw [← hRe]; exact Nat.le_refl _
  have hRl : 0 ≤ R.locals := by rw [← hRe]; exact Nat.le_refl _
  have hRc : 0 ≤ R.cells := by rw [← hRe]; exact Nat.le_refl _
  have hRs : 0 ≤ R.slots := by rw [← hRe]; exact Nat.le_refl _
  generalize hargs : (List.toArray [.ref h, .int x] : Array Value) = args at hts ⊢
  generalize hQe : MQ below _ args s _ _ _ = Q
  refine lv_iload_n hx hb dTR_has_0 rfl (lv_at hl 1 rfl) ?_
  refine lv_if_lt (tgt := 16) hx hb dTR_has_1 (by decide) (fun c_1 => ?_) (fun c_1 => ?_)
  · refine lv_iconst (v := nI 0) hx hb dTR_has_16 (by decide +kernel) ?_
    rw [← hQe]
    exact W.zret (ty := .boolean) (v := nI 0) hx hb hr (by decide +kernel) (fun t ht hW => ⟨_, rfl, by rw [inB_neg c_1], by rw [ht]⟩) (fun q h => by cases h) dTR_has_17
  · refine lv_iload_n hx hb dTR_has_4 rfl (lv_at hl 1 rfl) ?_
    refine lv_aload_n hx hb dTR_has_5 rfl (lv_at hl 0 rfl) ?_
    refine va_get (D := (dC, dI)) (ci := 0) (v := .int (nI n)) (C := RTR) (T := TTR) (N := 3) hx hb hts (fun w h => List.mem_cons_of_mem _ (inTR w h)) hown hK hP 0 rfl rfl 0 (by decide) (hts _ (List.mem_cons_of_mem _ kw_55)) (fun _ h9 => h9) rfl dTR_has_6 ?_
    refine lv_icmp_ge (tgt := 16) hx hb dTR_has_9 (by decide) (fun c_2 => ?_) (fun c_2 => ?_)
    · refine lv_iconst (v := nI 0) hx hb dTR_has_16 (by decide +kernel) ?_
      rw [← hQe]
      exact W.zret (ty := .boolean) (v := nI 0) hx hb hr (by decide +kernel) (fun t ht hW => ⟨_, rfl, by rw [inB_big c_1 c_2], by rw [ht]⟩) (fun q h => by cases h) dTR_has_17
    · refine lv_iconst (v := nI 1) hx hb dTR_has_12 (by decide +kernel) ?_
      refine lv_goto (tgt := 17) hx hb dTR_has_13 (by decide) ?_
      rw [← hQe]
      exact W.zret (ty := .boolean) (v := nI 1) hx hb hr (by decide +kernel) (fun t ht hW => ⟨_, rfl, by rw [inB_in c_1 c_2], by rw [ht]⟩) (fun q h => by cases h) dTR_has_17

set_option maxHeartbeats 4000000 in
set_option maxRecDepth 100000 in
/-- a TIME, or none -/
theorem c_TR_isTime (l : Launch) (dC : Nat → ClassId) (dI : Nat → Nat → Nat) (cI cZ cG : ClassId) (x : Int32) : Met l yTR_isTime wsTR_isTime ({ frames := 0, cells := 0, slots := 0, locals := 0 }) (va_Pc [.int x] (fun U => va_P (dC, dI) vwCl [] U.heap ∧ KX dC dI cI cZ cG U)) (vp_Si (fun r => r = nI (inB x 100001))) 0 0 (fun _ => False) := by
  refine Met.ofW (cc := cTR_isTime) (maxL := 1) (ret := (some .boolean)) (by decide) rfl ?_
  intro p e s m args below meth c s₁ B hml hv
  obtain ⟨rfl, hP, hKX⟩ := hv
  have hK := hKX.1
  have hx := B.exec
  have hb := B.bytes
  have hr := B.returns
  have hts := atoms_spec (ws := wsTR_isTime) B.pre
  have hown : s.vm.findClass RTR = some m.cls := findClass_of_methodNamed B.named
  have hlocks := B.notSynchronized
  have hl := lv_entry ([.int x]) (n := 1) (Nat.le_of_ble_eq_true rfl)
  rw [lg_entry_eq]
  generalize (lg_sl ([.int x]) ++ List.replicate (1 - (lg_sl ([.int x])).length) Slot.unset).toArray = ls at hl ⊢
  have hl : lv_has ls 1 [(0, .int x)] := hl
  generalize hRe : (headSpec wsTR_isTime ({ frames := 0, cells := 0, slots := 0, locals := 0 })).room = R
  have hRf : 0 ≤ R.frames := by rw [← hRe]; exact Nat.le_refl _
  have hRl : 0 ≤ R.locals := by rw [← hRe]; exact Nat.le_refl _
  have hRc : 0 ≤ R.cells := by rw [← hRe]; exact Nat.le_refl _
  have hRs : 0 ≤ R.slots := by rw [← hRe]; exact Nat.le_refl _
  generalize hargs : (List.toArray [.int x] : Array Value) = args at hts ⊢
  generalize hQe : MQ below _ args s _ _ _ = Q
  refine lv_iload_n hx hb dTR_isTime_0 rfl (lv_at hl 0 rfl) ?_
  refine lv_if_lt (tgt := 14) hx hb dTR_isTime_1 (by decide) (fun c_1 => ?_) (fun c_1 => ?_)
  · refine lv_iconst (v := nI 0) hx hb dTR_isTime_14 (by decide +kernel) ?_
    rw [← hQe]
    exact W.zret (ty := .boolean) (v := nI 0) hx hb hr (by decide +kernel) (fun t ht hW => ⟨_, rfl, by rw [inB_neg c_1], by rw [ht]⟩) (fun q h => by cases h) dTR_isTime_15
  · refine lv_iload_n hx hb dTR_isTime_4 rfl (lv_at hl 0 rfl) ?_
    refine lv_ldc (v := 100000) hx hb hown (hts (.constant RTR 38 100000) (by decide +kernel)) dTR_isTime_5 ?_
    refine hr_eqi (show (100000 : Int32) = nI 100000 by decide +kernel) ?_
    refine lv_icmp_gt (tgt := 14) hx hb dTR_isTime_7 (by decide) (fun c_2 => ?_) (fun c_2 => ?_)
    · refine lv_iconst (v := nI 0) hx hb dTR_isTime_14 (by decide +kernel) ?_
      rw [← hQe]
      exact W.zret (ty := .boolean) (v := nI 0) hx hb hr (by decide +kernel) (fun t ht hW => ⟨_, rfl, by rw [inB_big c_1 (inB_gt (by decide) c_2)], by rw [ht]⟩) (fun q h => by cases h) dTR_isTime_15
    · refine lv_iconst (v := nI 1) hx hb dTR_isTime_10 (by decide +kernel) ?_
      refine lv_goto (tgt := 15) hx hb dTR_isTime_11 (by decide) ?_
      rw [← hQe]
      exact W.zret (ty := .boolean) (v := nI 1) hx hb hr (by decide +kernel) (fun t ht hW => ⟨_, rfl, by rw [inB_in c_1 (inB_ngt (by decide) c_2)], by rw [ht]⟩) (fun q h => by cases h) dTR_isTime_15

set_option maxHeartbeats 4000000 in
set_option maxRecDepth 100000 in
/-- a new TEST -/
theorem c_TR_add (l : Launch) (dC : Nat → ClassId) (dI : Nat → Nat → Nat) (cI cZ cG : ClassId) (h : Nat) (a : Nat) (b : Nat) (n : Nat) (tf : Nat → Nat) (ff : Nat → Nat) (x : Int32) (sz : Nat) (hn : n ≤ 24) : Met l yTR_add wsTR_add ({ frames := 1, cells := 0, slots := 0, locals := 20 }) (va_Pc [.ref h, .int x] (fun U => U.heap.size = sz ∧ va_P (dC, dI) vwCl [(h, .inr (0, [.int (nI n), .ref a, .ref b])), (a, .inl (cI, 24, .inl (fun j9 => nI (tf j9)))), (b, .inl (cI, 24, .inl (fun j9 => nI (ff j9))))] U.heap ∧ KX dC dI cI cZ cG U ∧ va_D (fun _ => True) [(h, .inr (0, [.int (nI n), .ref a, .ref b])), (a, .inl (cI, 24, .inl (fun j9 => nI (tf j9)))), (b, .inl (cI, 24, .inl (fun j9 => nI (ff j9))))])) (va_Qi (fun (r : Int32) (u : Unit) => r = ((addN n x).elim (-1) (fun _ => nI n))) (fun u t => va_P (dC, dI) vwCl [(h, .inr (0, [.int (nI ((addN n x).elim n (fun _ => n + 1))), .ref a, .ref b])), (a, .inl (cI, 24, .inl (fun j9 => nI (((addN n x).elim tf (va_up tf n)) j9)))), (b, .inl (cI, 24, .inl (fun j9 => nI (((addN n x).elim ff (fun _ => va_up ff n n)) j9))))] t.heap ∧ va_D (va_A [(h, .inr (0, [.int (nI n), .ref a, .ref b])), (a, .inl (cI, 24, .inl (fun j9 => nI (tf j9)))), (b, .inl (cI, 24, .inl (fun j9 => nI (ff j9))))] sz) [(h, .inr (0, [.int (nI ((addN n x).elim n (fun _ => n + 1))), .ref a, .ref b])), (a, .inl (cI, 24, .inl (fun j9 => nI (((addN n x).elim tf (va_up tf n)) j9)))), (b, .inl (cI, 24, .inl (fun j9 => nI (((addN n x).elim ff (fun _ => va_up ff n n)) j9))))]) (va_A [(h, .inr (0, [.int (nI n), .ref a, .ref b])), (a, .inl (cI, 24, .inl (fun j9 => nI (tf j9)))), (b, .inl (cI, 24, .inl (fun j9 => nI (ff j9))))] sz)) 0 0 (va_A [(h, .inr (0, [.int (nI n), .ref a, .ref b])), (a, .inl (cI, 24, .inl (fun j9 => nI (tf j9)))), (b, .inl (cI, 24, .inl (fun j9 => nI (ff j9))))] sz) := by
  refine Met.ofW (cc := cTR_add) (maxL := 3) (ret := (some .int)) (by decide) rfl ?_
  intro p e s m args below meth c s₁ B hml hv
  obtain ⟨rfl, hsz, hP, hKX, hD0⟩ := hv
  have hK := hKX.1
  have hx := B.exec
  have hb := B.bytes
  have hr := B.returns
  have hts := atoms_spec (ws := wsTR_add) B.pre
  have hown : s.vm.findClass RTR = some m.cls := findClass_of_methodNamed B.named
  have hlocks := B.notSynchronized
  subst hsz
  have hD := hD0.self (sz := s.heap.size)
  generalize hAe : va_A [(h, .inr (0, [.int (nI n), .ref a, .ref b])), (a, .inl (cI, 24, .inl (fun j9 => nI (tf j9)))), (b, .inl (cI, 24, .inl (fun j9 => nI (ff j9))))] s.heap.size = A at hD ⊢
  have hA : ∀ q : Nat, s.heap.size ≤ q → A q := fun q h => by rw [← hAe]; exact Or.inr h
  have hS : va_S A s.heap s.heap [] := va_S.rf
  have hl := lv_entry ([.ref h, .int x]) (n := 3) (Nat.le_of_ble_eq_true rfl)
  rw [lg_entry_eq]
  generalize (lg_sl ([.ref h, .int x]) ++ List.replicate (3 - (lg_sl ([.ref h, .int x])).length) Slot.unset).toArray = ls at hl ⊢
  have hl : lv_has ls 3 [(0, .ref h), (1, .int x)] := hl
  generalize hRe : (headSpec wsTR_add ({ frames := 1, cells := 0, slots := 0, locals := 20 })).room = R
  have hRf : 1 ≤ R.frames := by rw [← hRe]; exact Nat.le_refl _
  have hRl : 20 ≤ R.locals := by rw [← hRe]; exact Nat.le_refl _
  have hRc : 0 ≤ R.cells := by rw [← hRe]; exact Nat.le_refl _
  have hRs : 0 ≤ R.slots := by rw [← hRe]; exact Nat.le_refl _
  generalize hargs : (List.toArray [.ref h, .int x] : Array Value) = args at hts ⊢
  generalize hQe : MQ below _ args s _ _ _ = Q
  refine lv_aload_n hx hb dTR_add_0 rfl (lv_at hl 0 rfl) ?_
  refine va_get (D := (dC, dI)) (ci := 0) (v := .int (nI n)) (C := RTR) (T := TTR) (N := 3) hx hb hts (fun w h => List.mem_cons_of_mem _ (inTR w h)) hown hK hP 0 rfl rfl 0 (by decide) (hts _ (List.mem_cons_of_mem _ kw_55)) (fun _ h9 => h9) rfl dTR_add_1 ?_
  refine lv_bipush (v := nI 24) hx hb dTR_add_4 (by decide +kernel) ?_
  refine hr_icmp_ge hx hb (x := n) (y := 24) (by omega) (by omega) (tgt := 16) dTR_add_6 (by decide) (fun c_1 => ?_) (fun c_1 => ?_)
  · refine lv_iconst (v := (-1)) hx hb dTR_add_16 (by decide +kernel) ?_
    have ez : addN n x = none := by simp [addN, show ¬ n < 24 by omega]
    rw [← hQe]
    exact W.iret (v := (-1)) hx hb hr (fun t ht hW => ⟨⟨_, (), rfl, by rw [ez]; rfl, by rw [ht, ez]; exact hP, by rw [ez]; exact hD⟩, hS.F ht⟩) hS.2.2 dTR_add_17
  · refine lv_iload_n hx hb dTR_add_9 rfl (lv_at hl 1 rfl) ?_
    refine vp_callSi (va_runS (As := [.int x]) (rest := []) ⟨hx, hb, hml, hown, hts⟩ (c_TR_isTime l dC dI cI cZ cG x) (hr_cwS 1 hts kw_257 kw_258 kw_25 kw_259 (by decide +kernel) (by rw [← hRe]; exact ⟨Nat.le_of_ble_eq_true rfl, Nat.le_of_ble_eq_true rfl⟩)) (hr_preRS hKX hP [] rfl) rfl rfl hl.1 rfl (lv_room (Nat.le_of_ble_eq_true rfl)) dTR_add_10 ⟨by omega, by omega⟩).run (fun rv hrv => ?_)
    refine hr_eqi hrv ?_
    have hb1 := inB_lt x 100001
    refine hr_if_ne hx hb (x := inB x 100001) (by omega) (tgt := 18) dTR_add_13 (by decide) (fun c_2 => ?_) (fun c_2 => ?_)
    · obtain ⟨τ, hτ, rfl⟩ := inB_pos (by decide) c_2
      refine lv_aload_n hx hb dTR_add_18 rfl (lv_at hl 0 rfl) ?_
      refine va_get (D := (dC, dI)) (ci := 0) (v := .int (nI n)) (C := RTR) (T := TTR) (N := 3) hx hb hts (fun w h => List.mem_cons_of_mem _ (inTR w h)) hown hK hP 0 rfl rfl 0 (by decide) (hts _ (List.mem_cons_of_mem _ kw_55)) (fun _ h9 => h9) rfl dTR_add_19 ?_
      refine lv_istore_n (lv' := [(2, .int (nI n)), (0, .ref h), (1, .int (nI τ))]) hx hb dTR_add_22 rfl hl (by decide) rfl (fun ls hl => ?_)
      refine lv_aload_n hx hb dTR_add_23 rfl (lv_at hl 1 rfl) ?_
      refine va_get (D := (dC, dI)) (ci := 0) (v := .ref a) (C := RTR) (T := TTR) (N := 3) hx hb hts (fun w h => List.mem_cons_of_mem _ (inTR w h)) hown hK hP 0 rfl rfl 1 (by decide) (hts _ (List.mem_cons_of_mem _ kw_57)) (fun _ h9 => h9) rfl dTR_add_24 ?_
      refine lv_iload_n hx hb dTR_add_27 rfl (lv_at hl 0 rfl) ?_
      refine lv_iload_n hx hb dTR_add_28 rfl (lv_at hl 2 rfl) ?_
      refine hr_iastN hx hb hK hP hD hS 1 0 rfl rfl (i := n) (by omega) (by omega) dTR_add_29 (fun H locs hP hD hS => ?_)
      have hP : va_P (dC, dI) vwCl [(h, .inr (0, [.int (nI n), .ref a, .ref b])), (a, .inl (cI, 24, .inl (fun j9 => nI ((va_up tf n τ) j9)))), (b, .inl (cI, 24, .inl (fun j9 => nI (ff j9))))] H := hP
      have hD : va_D A [(h, .inr (0, [.int (nI n), .ref a, .ref b])), (a, .inl (cI, 24, .inl (fun j9 => nI ((va_up tf n τ) j9)))), (b, .inl (cI, 24, .inl (fun j9 => nI (ff j9))))] := hD
      refine lv_aload_n hx hb dTR_add_30 rfl (lv_at hl 1 rfl) ?_
      refine va_get (D := (dC, dI)) (ci := 0) (v := .ref b) (C := RTR) (T := TTR) (N := 3) hx hb hts (fun w h => List.mem_cons_of_mem _ (inTR w h)) hown hK hP 0 rfl rfl 2 (by decide) (hts _ (List.mem_cons_of_mem _ kw_59)) (fun _ h9 => h9) rfl dTR_add_31 ?_
      refine lv_iload_n hx hb dTR_add_34 rfl (lv_at hl 0 rfl) ?_
      refine lv_iload_n hx hb dTR_add_35 rfl (lv_at hl 0 rfl) ?_
      refine hr_iastN hx hb hK hP hD hS 2 0 rfl rfl (i := n) (by omega) (by omega) dTR_add_36 (fun H locs hP hD hS => ?_)
      have hP : va_P (dC, dI) vwCl [(h, .inr (0, [.int (nI n), .ref a, .ref b])), (a, .inl (cI, 24, .inl (fun j9 => nI ((va_up tf n τ) j9)))), (b, .inl (cI, 24, .inl (fun j9 => nI ((va_up ff n n) j9))))] H := hP
      have hD : va_D A [(h, .inr (0, [.int (nI n), .ref a, .ref b])), (a, .inl (cI, 24, .inl (fun j9 => nI ((va_up tf n τ) j9)))), (b, .inl (cI, 24, .inl (fun j9 => nI ((va_up ff n n) j9))))] := hD
      refine lv_aload_n hx hb dTR_add_37 rfl (lv_at hl 1 rfl) ?_
      refine lv_dup hx hb dTR_add_38 rfl ?_
      refine va_get (D := (dC, dI)) (ci := 0) (v := .int (nI n)) (C := RTR) (T := TTR) (N := 3) hx hb hts (fun w h => List.mem_cons_of_mem _ (inTR w h)) hown hK hP 0 rfl rfl 0 (by decide) (hts _ (List.mem_cons_of_mem _ kw_55)) (fun _ h9 => h9) rfl dTR_add_39 ?_
      refine lv_iconst (v := nI 1) hx hb dTR_add_42 (by decide +kernel) ?_
      refine lv_iadd hx hb dTR_add_43 ?_
      refine hr_eqi (nI_add _ _) ?_
      refine va_put (D := (dC, dI)) (ci := 0) (v := .int (nI (n + 1))) (ty := .int) (C := RTR) (T := TTR) (N := 3) hx hb hts (fun w h => List.mem_cons_of_mem _ (inTR w h)) tyTR tyTR_ok nmTR hown hK hP hD hS 0 rfl rfl 0 (by decide) (hts _ (List.mem_cons_of_mem _ kw_55)) (fun _ h9 => h9) rfl (by decide +kernel) rfl rfl (Nat.le_of_ble_eq_true rfl) dTR_add_44 (fun H locs hP hD hS => ?_)
      have hP : va_P (dC, dI) vwCl [(h, .inr (0, [.int (nI (n + 1)), .ref a, .ref b])), (a, .inl (cI, 24, .inl (fun j9 => nI ((va_up tf n τ) j9)))), (b, .inl (cI, 24, .inl (fun j9 => nI ((va_up ff n n) j9))))] H := hP
      have hD : va_D A [(h, .inr (0, [.int (nI (n + 1)), .ref a, .ref b])), (a, .inl (cI, 24, .inl (fun j9 => nI ((va_up tf n τ) j9)))), (b, .inl (cI, 24, .inl (fun j9 => nI ((va_up ff n n) j9))))] := hD
      refine lv_iload_n hx hb dTR_add_47 rfl (lv_at hl 0 rfl) ?_
      have ez : addN n (nI τ) = some τ := by simp [addN, show n < 24 by omega, inB_nI hτ (by decide), nI_clamp (show τ < 2 ^ 31 by omega)]
      rw [← hQe]
      exact W.iret (v := nI n) hx hb hr (fun t ht hW => ⟨⟨_, (), rfl, by rw [ez]; rfl, by rw [ht, ez]; exact hP, by rw [ez]; exact hD⟩, hS.F ht⟩) hS.2.2 dTR_add_48
    · refine lv_iconst (v := (-1)) hx hb dTR_add_16 (by decide +kernel) ?_
      have ez : addN n x = none := by simp [addN, c_2]
      rw [← hQe]
      exact W.iret (v := (-1)) hx hb hr (fun t ht hW => ⟨⟨_, (), rfl, by rw [ez]; rfl, by rw [ht, ez]; exact hP, by rw [ez]; exact hD⟩, hS.F ht⟩) hS.2.2 dTR_add_17

set_option maxHeartbeats 4000000 in
set_option maxRecDepth 100000 in
/-- another TIME -/
theorem c_TR_retime (l : Launch) (dC : Nat → ClassId) (dI : Nat → Nat → Nat) (cI cZ cG : ClassId) (h : Nat) (a : Nat) (b : Nat) (n : Nat) (tf : Nat → Nat) (ff : Nat → Nat) (x : Int32) (y : Int32) (sz : Nat) (hn : n ≤ 24) : Met l yTR_retime wsTR_retime ({ frames := 1, cells := 0, slots := 0, locals := 24 }) (va_Pc [.ref h, .int x, .int y] (fun U => U.heap.size = sz ∧ va_P (dC, dI) vwCl [(h, .inr (0, [.int (nI n), .ref a, .ref b])), (a, .inl (cI, 24, .inl (fun j9 => nI (tf j9)))), (b, .inl (cI, 24, .inl (fun j9 => nI (ff j9))))] U.heap ∧ KX dC dI cI cZ cG U ∧ va_D (fun _ => True) [(h, .inr (0, [.int (nI n), .ref a, .ref b])), (a, .inl (cI, 24, .inl (fun j9 => nI (tf j9)))), (b, .inl (cI, 24, .inl (fun j9 => nI (ff j9))))])) (va_Qi (fun (r : Int32) (u : Unit) => r = nI ((retN n x y).elim 0 (fun _ => 1))) (fun u t => va_P (dC, dI) vwCl [(h, .inr (0, [.int (nI n), .ref a, .ref b])), (a, .inl (cI, 24, .inl (fun j9 => nI (((retN n x y).elim tf (fun q => va_up tf q.1 q.2)) j9)))), (b, .inl (cI, 24, .inl (fun j9 => nI (ff j9))))] t.heap ∧ va_D (va_A [(h, .inr (0, [.int (nI n), .ref a, .ref b])), (a, .inl (cI, 24, .inl (fun j9 => nI (tf j9)))), (b, .inl (cI, 24, .inl (fun j9 => nI (ff j9))))] sz) [(h, .inr (0, [.int (nI n), .ref a, .ref b])), (a, .inl (cI, 24, .inl (fun j9 => nI (((retN n x y).elim tf (fun q => va_up tf q.1 q.2)) j9)))), (b, .inl (cI, 24, .inl (fun j9 => nI (ff j9))))]) (va_A [(h, .inr (0, [.int (nI n), .ref a, .ref b])), (a, .inl (cI, 24, .inl (fun j9 => nI (tf j9)))), (b, .inl (cI, 24, .inl (fun j9 => nI (ff j9))))] sz)) 0 0 (va_A [(h, .inr (0, [.int (nI n), .ref a, .ref b])), (a, .inl (cI, 24, .inl (fun j9 => nI (tf j9)))), (b, .inl (cI, 24, .inl (fun j9 => nI (ff j9))))] sz) := by
  refine Met.ofW (cc := cTR_retime) (maxL := 3) (ret := (some .boolean)) (by decide) rfl ?_
  intro p e s m args below meth c s₁ B hml hv
  obtain ⟨rfl, hsz, hP, hKX, hD0⟩ := hv
  have hK := hKX.1
  have hx := B.exec
  have hb := B.bytes
  have hr := B.returns
  have hts := atoms_spec (ws := wsTR_retime) B.pre
  have hown : s.vm.findClass RTR = some m.cls := findClass_of_methodNamed B.named
  have hlocks := B.notSynchronized
  subst hsz
  have hD := hD0.self (sz := s.heap.size)
  generalize hAe : va_A [(h, .inr (0, [.int (nI n), .ref a, .ref b])), (a, .inl (cI, 24, .inl (fun j9 => nI (tf j9)))), (b, .inl (cI, 24, .inl (fun j9 => nI (ff j9))))] s.heap.size = A at hD ⊢
  have hA : ∀ q : Nat, s.heap.size ≤ q → A q := fun q h => by rw [← hAe]; exact Or.inr h
  have hS : va_S A s.heap s.heap [] := va_S.rf
  have hl := lv_entry ([.ref h, .int x, .int y]) (n := 3) (Nat.le_of_ble_eq_true rfl)
  rw [lg_entry_eq]
  generalize (lg_sl ([.ref h, .int x, .int y]) ++ List.replicate (3 - (lg_sl ([.ref h, .int x, .int y])).length) Slot.unset).toArray = ls at hl ⊢
  have hl : lv_has ls 3 [(0, .ref h), (1, .int x), (2, .int y)] := hl
  generalize hRe : (headSpec wsTR_retime ({ frames := 1, cells := 0, slots := 0, locals := 24 })).room = R
  have hRf : 1 ≤ R.frames := by rw [← hRe]; exact Nat.le_refl _
  have hRl : 24 ≤ R.locals := by rw [← hRe]; exact Nat.le_refl _
  have hRc : 0 ≤ R.cells := by rw [← hRe]; exact Nat.le_refl _
  have hRs : 0 ≤ R.slots := by rw [← hRe]; exact Nat.le_refl _
  generalize hargs : (List.toArray [.ref h, .int x, .int y] : Array Value) = args at hts ⊢
  generalize hQe : MQ below _ args s _ _ _ = Q
  refine lv_aload_n hx hb dTR_retime_0 rfl (lv_at hl 0 rfl) ?_
  refine lv_iload_n hx hb dTR_retime_1 rfl (lv_at hl 1 rfl) ?_
  refine vp_callSi (va_runV (C := RTR) (As := [.int x]) (rest := []) ⟨hx, hb, hml, hown, hts⟩ (c_TR_has l dC dI cI cZ cG h a b n tf ff x (hn)) (hr_cwV 1 hts kw_269 kw_270 kw_271 kw_25 kw_272 (by decide +kernel) (by rw [← hRe]; exact ⟨Nat.le_of_ble_eq_true rfl, Nat.le_of_ble_eq_true rfl⟩)) (hr_preR hKX hP [0, 1, 2] rfl (ci := 0) (q0 := 0) (q := (RTR, TTR, 3)) rfl rfl) rfl rfl hl.1 rfl (lv_room (Nat.le_of_ble_eq_true rfl)) dTR_retime_2 ⟨by omega, by omega⟩).run (fun rv hrv => ?_)
  refine hr_eqi hrv ?_
  have hb0 := inB_lt x n
  refine hr_if_eq hx hb (x := inB x n) (by omega) (tgt := 15) dTR_retime_5 (by decide) (fun c_1 => ?_) (fun c_1 => ?_)
  · refine lv_iconst (v := nI 0) hx hb dTR_retime_15 (by decide +kernel) ?_
    have ez : retN n x y = none := by simp [retN, c_1]
    rw [← hQe]
    exact W.zret (ty := .boolean) (v := nI 0) hx hb hr (by decide +kernel) (fun t ht hW => ⟨⟨_, (), rfl, by rw [ez]; rfl, by rw [ht, ez]; exact hP, by rw [ez]; exact hD⟩, hS.F ht⟩) hS.2.2 dTR_retime_16
  · obtain ⟨j, hj, rfl⟩ := inB_pos (by omega) c_1
    refine lv_iload_n hx hb dTR_retime_8 rfl (lv_at hl 2 rfl) ?_
    refine vp_callSi (va_runS (As := [.int y]) (rest := []) ⟨hx, hb, hml, hown, hts⟩ (c_TR_isTime l dC dI cI cZ cG y) (hr_cwS 1 hts kw_257 kw_258 kw_25 kw_259 (by decide +kernel) (by rw [← hRe]; exact ⟨Nat.le_of_ble_eq_true rfl, Nat.le_of_ble_eq_true rfl⟩)) (hr_preRS hKX hP [] rfl) rfl rfl hl.1 rfl (lv_room (Nat.le_of_ble_eq_true rfl)) dTR_retime_9 ⟨by omega, by omega⟩).run (fun rv hrv => ?_)
    refine hr_eqi hrv ?_
    have hb1 := inB_lt y 100001
    refine hr_if_ne hx hb (x := inB y 100001) (by omega) (tgt := 17) dTR_retime_12 (by decide) (fun c_2 => ?_) (fun c_2 => ?_)
    · obtain ⟨τ, hτ, rfl⟩ := inB_pos (by decide) c_2
      refine lv_aload_n hx hb dTR_retime_17 rfl (lv_at hl 0 rfl) ?_
      refine va_get (D := (dC, dI)) (ci := 0) (v := .ref a) (C := RTR) (T := TTR) (N := 3) hx hb hts (fun w h => List.mem_cons_of_mem _ (inTR w h)) hown hK hP 0 rfl rfl 1 (by decide) (hts _ (List.mem_cons_of_mem _ kw_57)) (fun _ h9 => h9) rfl dTR_retime_18 ?_
      refine lv_iload_n hx hb dTR_retime_21 rfl (lv_at hl 1 rfl) ?_
      refine lv_iload_n hx hb dTR_retime_22 rfl (lv_at hl 2 rfl) ?_
      refine hr_iastN hx hb hK hP hD hS 1 0 rfl rfl (i := j) (by omega) (by omega) dTR_retime_23 (fun H locs hP hD hS => ?_)
      have hP : va_P (dC, dI) vwCl [(h, .inr (0, [.int (nI n), .ref a, .ref b])), (a, .inl (cI, 24, .inl (fun j9 => nI ((va_up tf j τ) j9)))), (b, .inl (cI, 24, .inl (fun j9 => nI (ff j9))))] H := hP
      have hD : va_D A [(h, .inr (0, [.int (nI n), .ref a, .ref b])), (a, .inl (cI, 24, .inl (fun j9 => nI ((va_up tf j τ) j9)))), (b, .inl (cI, 24, .inl (fun j9 => nI (ff j9))))] := hD
      refine lv_iconst (v := nI 1) hx hb dTR_retime_24 (by decide +kernel) ?_
      have ez : retN n (nI j) (nI τ) = some (j, τ) := by simp [retN, inB_nI hj (show n < 2 ^ 31 by omega), inB_nI hτ (by decide), nI_clamp (show τ < 2 ^ 31 by omega), nI_clamp (show j < 2 ^ 31 by omega)]
      rw [← hQe]
      exact W.zret (ty := .boolean) (v := nI 1) hx hb hr (by decide +kernel) (fun t ht hW => ⟨⟨_, (), rfl, by rw [ez]; rfl, by rw [ht, ez]; exact hP, by rw [ez]; exact hD⟩, hS.F ht⟩) hS.2.2 dTR_retime_25
    · refine lv_iconst (v := nI 0) hx hb dTR_retime_15 (by decide +kernel) ?_
      have ez : retN n (nI j) y = none := by simp [retN, c_2]
      rw [← hQe]
      exact W.zret (ty := .boolean) (v := nI 0) hx hb hr (by decide +kernel) (fun t ht hW => ⟨⟨_, (), rfl, by rw [ez]; rfl, by rw [ht, ez]; exact hP, by rw [ez]; exact hD⟩, hS.F ht⟩) hS.2.2 dTR_retime_16

set_option maxHeartbeats 4000000 in
set_option maxRecDepth 100000 in
/-- the MEAN -/
theorem c_TR_mean (l : Launch) (dC : Nat → ClassId) (dI : Nat → Nat → Nat) (cI cZ cG : ClassId) (h : Nat) (a : Nat) (b : Nat) (n : Nat) (tf : Nat → Nat) (ff : Nat → Nat) (hn : n ≤ 24) (ht : ∀ j, j < n → tf j ≤ 100000) : Met l yTR_meanTime wsTR_meanTime ({ frames := 0, cells := 0, slots := 0, locals := 0 }) (va_Pc [.ref h] (fun U => va_P (dC, dI) vwCl [(h, .inr (0, [.int (nI n), .ref a, .ref b])), (a, .inl (cI, 24, .inl (fun j9 => nI (tf j9)))), (b, .inl (cI, 24, .inl (fun j9 => nI (ff j9))))] U.heap ∧ KX dC dI cI cZ cG U)) (vp_Si (fun r => r = nI (meanN tf n))) 0 0 (fun _ => False) := by
  refine Met.ofW (cc := cTR_meanTime) (maxL := 4) (ret := (some .int)) (by decide) rfl ?_
  intro p e s m args below meth c s₁ B hml hv
  obtain ⟨rfl, hP, hKX⟩ := hv
  have hK := hKX.1
  have hx := B.exec
  have hb := B.bytes
  have hr := B.returns
  have hts := atoms_spec (ws := wsTR_meanTime) B.pre
  have hown : s.vm.findClass RTR = some m.cls := findClass_of_methodNamed B.named
  have hlocks := B.notSynchronized
  have hl := lv_entry ([.ref h]) (n := 4) (Nat.le_of_ble_eq_true rfl)
  rw [lg_entry_eq]
  generalize (lg_sl ([.ref h]) ++ List.replicate (4 - (lg_sl ([.ref h])).length) Slot.unset).toArray = ls at hl ⊢
  have hl : lv_has ls 4 [(0, .ref h)] := hl
  generalize hRe : (headSpec wsTR_meanTime ({ frames := 0, cells := 0, slots := 0, locals := 0 })).room = R
  have hRf : 0 ≤ R.frames := by rw [← hRe]; exact Nat.le_refl _
  have hRl : 0 ≤ R.locals := by rw [← hRe]; exact Nat.le_refl _
  have hRc : 0 ≤ R.cells := by rw [← hRe]; exact Nat.le_refl _
  have hRs : 0 ≤ R.slots := by rw [← hRe]; exact Nat.le_refl _
  generalize hargs : (List.toArray [.ref h] : Array Value) = args at hts ⊢
  generalize hQe : MQ below _ args s _ _ _ = Q
  refine lv_iconst (v := nI 0) hx hb dTR_meanTime_0 (by decide +kernel) ?_
  refine lv_istore_n (lv' := [(1, .int (nI 0)), (0, .ref h)]) hx hb dTR_meanTime_1 rfl hl (by decide) rfl (fun ls hl => ?_)
  refine lv_iconst (v := nI 0) hx hb dTR_meanTime_2 (by decide +kernel) ?_
  refine lv_istore_n (lv' := [(2, .int (nI 0)), (1, .int (nI 0)), (0, .ref h)]) hx hb dTR_meanTime_3 rfl hl (by decide) rfl (fun ls hl => ?_)
  refine lv_iconst (v := nI 0) hx hb dTR_meanTime_4 (by decide +kernel) ?_
  refine lv_istore_n (lv' := [(3, .int (nI 0)), (2, .int (nI 0)), (1, .int (nI 0)), (0, .ref h)]) hx hb dTR_meanTime_5 rfl hl (by decide) rfl (fun ls hl => ?_)
  have loop_6 : ∀ (n9 : Nat) (i : Nat) (s1 : Nat) (s2 : Nat), i ≤ n → s1 = sumT tf i → s2 = cntT tf i → n + 1 ≤ i + n9 → ∀ (ls : Array Slot), lv_has ls 4 [(3, .int (nI i)), (2, .int (nI s2)), (1, .int (nI s1)), (0, .ref h)] → W p l e R s m args below meth c s.heap [] 0 0 Q (F0 m 6 ls []) := by
    intro n9
    induction n9 with
    | zero =>
      intro i s1 s2 hi h1 h2 hmeas
      exact absurd hmeas (by omega)
    | succ n9 ih_6 =>
      intro i s1 s2 hi h1 h2 hmeas ls hl
      have hs := sumT_le (f := tf) (B := 100000) (i := i) (fun j hj => ht j (by omega))
      have hc := cntT_le tf i
      refine lv_iload_n hx hb dTR_meanTime_6 rfl (lv_at hl 0 rfl) ?_
      refine lv_aload_n hx hb dTR_meanTime_7 rfl (lv_at hl 3 rfl) ?_
      refine va_get (D := (dC, dI)) (ci := 0) (v := .int (nI n)) (C := RTR) (T := TTR) (N := 3) hx hb hts (fun w h => List.mem_cons_of_mem _ (inTR w h)) hown hK hP 0 rfl rfl 0 (by decide) (hts _ (List.mem_cons_of_mem _ kw_55)) (fun _ h9 => h9) rfl dTR_meanTime_8 ?_
      refine hr_icmp_ge hx hb (x := i) (y := n) (by omega) (by omega) (tgt := 46) dTR_meanTime_11 (by decide) (fun c_1 => ?_) (fun c_1 => ?_)
      · have ei : i = n := by omega
        subst ei
        refine lv_iload_n hx hb dTR_meanTime_46 rfl (lv_at hl 1 rfl) ?_
        refine hr_if_ne hx hb (x := s2) (by omega) (tgt := 54) dTR_meanTime_47 (by decide) (fun c_2 => ?_) (fun c_2 => ?_)
        · refine lv_iload_n hx hb dTR_meanTime_54 rfl (lv_at hl 2 rfl) ?_
          refine lv_iload_n hx hb dTR_meanTime_55 rfl (lv_at hl 1 rfl) ?_
          refine lv_iadd hx hb dTR_meanTime_56 ?_
          refine hr_eqi (nI_add _ _) ?_
          refine lv_iconst (v := nI 1) hx hb dTR_meanTime_57 (by decide +kernel) ?_
          refine lv_isub hx hb dTR_meanTime_58 ?_
          refine hr_eqi (pk_sub (by omega)) ?_
          refine lv_iload_n hx hb dTR_meanTime_59 rfl (lv_at hl 1 rfl) ?_
          refine lv_idiv hx hb dTR_meanTime_60 (nI_ne0 (by omega) (by omega)) ?_
          refine hr_eqi (pk_div (by omega) (by omega) (by omega)) ?_
          rw [← hQe]
          exact W.iret (v := nI (((s1 + s2) - 1) / s2)) hx hb hr (fun t ht hW => ⟨_, rfl, by rw [meanN, if_neg (by omega), h1, h2], by rw [ht]⟩) (fun q h => by cases h) dTR_meanTime_61
        · refine lv_iconst (v := nI 1) hx hb dTR_meanTime_50 (by decide +kernel) ?_
          refine lv_goto (tgt := 61) hx hb dTR_meanTime_51 (by decide) ?_
          rw [← hQe]
          exact W.iret (v := nI 1) hx hb hr (fun t ht hW => ⟨_, rfl, by rw [meanN, if_pos (by omega)], by rw [ht]⟩) (fun q h => by cases h) dTR_meanTime_61
      · have ht1 := ht i (by omega)
        refine lv_iload_n hx hb dTR_meanTime_14 rfl (lv_at hl 2 rfl) ?_
        refine lv_aload_n hx hb dTR_meanTime_15 rfl (lv_at hl 3 rfl) ?_
        refine va_get (D := (dC, dI)) (ci := 0) (v := .ref a) (C := RTR) (T := TTR) (N := 3) hx hb hts (fun w h => List.mem_cons_of_mem _ (inTR w h)) hown hK hP 0 rfl rfl 1 (by decide) (hts _ (List.mem_cons_of_mem _ kw_57)) (fun _ h9 => h9) rfl dTR_meanTime_16 ?_
        refine lv_iload_n hx hb dTR_meanTime_19 rfl (lv_at hl 0 rfl) ?_
        refine hr_iald hx hb hK hP 1 0 rfl rfl (i := i) (by omega) (by omega) dTR_meanTime_20 ?_
        refine lv_iadd hx hb dTR_meanTime_21 ?_
        refine hr_eqi (nI_add _ _) ?_
        refine lv_istore_n (lv' := [(1, .int (nI (s1 + (tf i)))), (3, .int (nI i)), (2, .int (nI s2)), (0, .ref h)]) hx hb dTR_meanTime_22 rfl hl (by decide) rfl (fun ls hl => ?_)
        refine lv_iload_n hx hb dTR_meanTime_23 rfl (lv_at hl 2 rfl) ?_
        refine lv_aload_n hx hb dTR_meanTime_24 rfl (lv_at hl 3 rfl) ?_
        refine va_get (D := (dC, dI)) (ci := 0) (v := .ref a) (C := RTR) (T := TTR) (N := 3) hx hb hts (fun w h => List.mem_cons_of_mem _ (inTR w h)) hown hK hP 0 rfl rfl 1 (by decide) (hts _ (List.mem_cons_of_mem _ kw_57)) (fun _ h9 => h9) rfl dTR_meanTime_25 ?_
        refine lv_iload_n hx hb dTR_meanTime_28 rfl (lv_at hl 1 rfl) ?_
        refine hr_iald hx hb hK hP 1 0 rfl rfl (i := i) (by omega) (by omega) dTR_meanTime_29 ?_
        refine hr_if_ne hx hb (x := (tf i)) (by omega) (tgt := 37) dTR_meanTime_30 (by decide) (fun c_3 => ?_) (fun c_3 => ?_)
        · refine lv_iconst (v := nI 1) hx hb dTR_meanTime_37 (by decide +kernel) ?_
          refine lv_iadd hx hb dTR_meanTime_38 ?_
          refine hr_eqi (nI_add _ _) ?_
          refine lv_istore_n (lv' := [(2, .int (nI (s2 + 1))), (1, .int (nI (s1 + (tf i)))), (3, .int (nI i)), (0, .ref h)]) hx hb dTR_meanTime_39 rfl hl (by decide) rfl (fun ls hl => ?_)
          refine lv_iinc (v := nI (i + 1)) (lv' := [(3, .int (nI (i + 1))), (2, .int (nI (s2 + 1))), (1, .int (nI (s1 + (tf i)))), (0, .ref h)]) hx hb dTR_meanTime_40 hl (k := 2) rfl (hr_inc _) (by decide) rfl (fun ls hl => ?_)
          refine lv_goto (tgt := 6) hx hb dTR_meanTime_43 (by decide) ?_
          exact ih_6 (i + 1) (s1 + (tf i)) (s2 + 1) (by omega) (by rw [h1]; rfl) (by rw [h2]; simp [cntT, c_3]) (by omega) ls (lv_sub hl [0, 1, 2, 3] rfl)
        · refine lv_iconst (v := nI 0) hx hb dTR_meanTime_33 (by decide +kernel) ?_
          refine lv_goto (tgt := 38) hx hb dTR_meanTime_34 (by decide) ?_
          refine lv_iadd hx hb dTR_meanTime_38 ?_
          refine hr_eqi (nI_add _ _) ?_
          refine lv_istore_n (lv' := [(2, .int (nI (s2 + 0))), (1, .int (nI (s1 + (tf i)))), (3, .int (nI i)), (0, .ref h)]) hx hb dTR_meanTime_39 rfl hl (by decide) rfl (fun ls hl => ?_)
          refine lv_iinc (v := nI (i + 1)) (lv' := [(3, .int (nI (i + 1))), (2, .int (nI (s2 + 0))), (1, .int (nI (s1 + (tf i)))), (0, .ref h)]) hx hb dTR_meanTime_40 hl (k := 2) rfl (hr_inc _) (by decide) rfl (fun ls hl => ?_)
          refine lv_goto (tgt := 6) hx hb dTR_meanTime_43 (by decide) ?_
          exact ih_6 (i + 1) (s1 + (tf i)) (s2 + 0) (by omega) (by rw [h1]; rfl) (by rw [h2]; simp [cntT, c_3]) (by omega) ls (lv_sub hl [0, 1, 2, 3] rfl)
  exact loop_6 (n + 1) 0 0 0 (by omega) (rfl) (rfl) (by omega) ls (lv_sub hl [0, 1, 2, 3] rfl)

set_option maxHeartbeats 4000000 in
set_option maxRecDepth 100000 in
/-- how many GROUPS -/
theorem c_TR_groups (l : Launch) (dC : Nat → ClassId) (dI : Nat → Nat → Nat) (cI cZ cG : ClassId) (h : Nat) (a : Nat) (b : Nat) (n : Nat) (tf : Nat → Nat) (ff : Nat → Nat) (hn : n ≤ 24) (hf : ∀ j, j < n → ff j ≤ j) : Met l yTR_countGroups wsTR_countGroups ({ frames := 0, cells := 0, slots := 0, locals := 0 }) (va_Pc [.ref h] (fun U => va_P (dC, dI) vwCl [(h, .inr (0, [.int (nI n), .ref a, .ref b])), (a, .inl (cI, 24, .inl (fun j9 => nI (tf j9)))), (b, .inl (cI, 24, .inl (fun j9 => nI (ff j9))))] U.heap ∧ KX dC dI cI cZ cG U)) (vp_Si (fun r => r = nI (grpN ff n))) 0 0 (fun _ => False) := by
  refine Met.ofW (cc := cTR_countGroups) (maxL := 3) (ret := (some .int)) (by decide) rfl ?_
  intro p e s m args below meth c s₁ B hml hv
  obtain ⟨rfl, hP, hKX⟩ := hv
  have hK := hKX.1
  have hx := B.exec
  have hb := B.bytes
  have hr := B.returns
  have hts := atoms_spec (ws := wsTR_countGroups) B.pre
  have hown : s.vm.findClass RTR = some m.cls := findClass_of_methodNamed B.named
  have hlocks := B.notSynchronized
  have hl := lv_entry ([.ref h]) (n := 3) (Nat.le_of_ble_eq_true rfl)
  rw [lg_entry_eq]
  generalize (lg_sl ([.ref h]) ++ List.replicate (3 - (lg_sl ([.ref h])).length) Slot.unset).toArray = ls at hl ⊢
  have hl : lv_has ls 3 [(0, .ref h)] := hl
  generalize hRe : (headSpec wsTR_countGroups ({ frames := 0, cells := 0, slots := 0, locals := 0 })).room = R
  have hRf : 0 ≤ R.frames := by rw [← hRe]; exact Nat.le_refl _
  have hRl : 0 ≤ R.locals := by rw [← hRe]; exact Nat.le_refl _
  have hRc : 0 ≤ R.cells := by rw [← hRe]; exact Nat.le_refl _
  have hRs : 0 ≤ R.slots := by rw [← hRe]; exact Nat.le_refl _
  generalize hargs : (List.toArray [.ref h] : Array Value) = args at hts ⊢
  generalize hQe : MQ below _ args s _ _ _ = Q
  refine lv_iconst (v := nI 0) hx hb dTR_countGroups_0 (by decide +kernel) ?_
  refine lv_istore_n (lv' := [(1, .int (nI 0)), (0, .ref h)]) hx hb dTR_countGroups_1 rfl hl (by decide) rfl (fun ls hl => ?_)
  refine lv_iconst (v := nI 0) hx hb dTR_countGroups_2 (by decide +kernel) ?_
  refine lv_istore_n (lv' := [(2, .int (nI 0)), (1, .int (nI 0)), (0, .ref h)]) hx hb dTR_countGroups_3 rfl hl (by decide) rfl (fun ls hl => ?_)
  have loop_4 : ∀ (n9 : Nat) (i : Nat) (s1 : Nat), i ≤ n → s1 = grpN ff i → n + 1 ≤ i + n9 → ∀ (ls : Array Slot), lv_has ls 3 [(2, .int (nI i)), (1, .int (nI s1)), (0, .ref h)] → W p l e R s m args below meth c s.heap [] 0 0 Q (F0 m 4 ls []) := by
    intro n9
    induction n9 with
    | zero =>
      intro i s1 hi h1 hmeas
      exact absurd hmeas (by omega)
    | succ n9 ih_4 =>
      intro i s1 hi h1 hmeas ls hl
      have hg := grpN_le ff i
      refine lv_iload_n hx hb dTR_countGroups_4 rfl (lv_at hl 0 rfl) ?_
      refine lv_aload_n hx hb dTR_countGroups_5 rfl (lv_at hl 2 rfl) ?_
      refine va_get (D := (dC, dI)) (ci := 0) (v := .int (nI n)) (C := RTR) (T := TTR) (N := 3) hx hb hts (fun w h => List.mem_cons_of_mem _ (inTR w h)) hown hK hP 0 rfl rfl 0 (by decide) (hts _ (List.mem_cons_of_mem _ kw_55)) (fun _ h9 => h9) rfl dTR_countGroups_6 ?_
      refine hr_icmp_ge hx hb (x := i) (y := n) (by omega) (by omega) (tgt := 36) dTR_countGroups_9 (by decide) (fun c_1 => ?_) (fun c_1 => ?_)
      · have ei : i = n := by omega
        subst ei
        refine lv_iload_n hx hb dTR_countGroups_36 rfl (lv_at hl 1 rfl) ?_
        rw [← hQe]
        exact W.iret (v := nI s1) hx hb hr (fun t ht hW => ⟨_, rfl, by rw [h1], by rw [ht]⟩) (fun q h => by cases h) dTR_countGroups_37
      · have ht1 := hf i (by omega)
        refine lv_iload_n hx hb dTR_countGroups_12 rfl (lv_at hl 1 rfl) ?_
        refine lv_aload_n hx hb dTR_countGroups_13 rfl (lv_at hl 2 rfl) ?_
        refine va_get (D := (dC, dI)) (ci := 0) (v := .ref b) (C := RTR) (T := TTR) (N := 3) hx hb hts (fun w h => List.mem_cons_of_mem _ (inTR w h)) hown hK hP 0 rfl rfl 2 (by decide) (hts _ (List.mem_cons_of_mem _ kw_59)) (fun _ h9 => h9) rfl dTR_countGroups_14 ?_
        refine lv_iload_n hx hb dTR_countGroups_17 rfl (lv_at hl 0 rfl) ?_
        refine hr_iald hx hb hK hP 2 0 rfl rfl (i := i) (by omega) (by omega) dTR_countGroups_18 ?_
        refine lv_iload_n hx hb dTR_countGroups_19 rfl (lv_at hl 0 rfl) ?_
        refine hr_icmp_ne hx hb (x := (ff i)) (y := i) (by omega) (by omega) (tgt := 27) dTR_countGroups_20 (by decide) (fun c_2 => ?_) (fun c_2 => ?_)
        · refine lv_iconst (v := nI 0) hx hb dTR_countGroups_27 (by decide +kernel) ?_
          refine lv_iadd hx hb dTR_countGroups_28 ?_
          refine hr_eqi (nI_add _ _) ?_
          refine lv_istore_n (lv' := [(1, .int (nI (s1 + 0))), (2, .int (nI i)), (0, .ref h)]) hx hb dTR_countGroups_29 rfl hl (by decide) rfl (fun ls hl => ?_)
          refine lv_iinc (v := nI (i + 1)) (lv' := [(2, .int (nI (i + 1))), (1, .int (nI (s1 + 0))), (0, .ref h)]) hx hb dTR_countGroups_30 hl (k := 1) rfl (hr_inc _) (by decide) rfl (fun ls hl => ?_)
          refine lv_goto (tgt := 4) hx hb dTR_countGroups_33 (by decide) ?_
          exact ih_4 (i + 1) (s1 + 0) (by omega) (by rw [h1]; simp [grpN, c_2]) (by omega) ls (lv_sub hl [0, 1, 2] rfl)
        · refine lv_iconst (v := nI 1) hx hb dTR_countGroups_23 (by decide +kernel) ?_
          refine lv_goto (tgt := 28) hx hb dTR_countGroups_24 (by decide) ?_
          refine lv_iadd hx hb dTR_countGroups_28 ?_
          refine hr_eqi (nI_add _ _) ?_
          refine lv_istore_n (lv' := [(1, .int (nI (s1 + 1))), (2, .int (nI i)), (0, .ref h)]) hx hb dTR_countGroups_29 rfl hl (by decide) rfl (fun ls hl => ?_)
          refine lv_iinc (v := nI (i + 1)) (lv' := [(2, .int (nI (i + 1))), (1, .int (nI (s1 + 1))), (0, .ref h)]) hx hb dTR_countGroups_30 hl (k := 1) rfl (hr_inc _) (by decide) rfl (fun ls hl => ?_)
          refine lv_goto (tgt := 4) hx hb dTR_countGroups_33 (by decide) ?_
          exact ih_4 (i + 1) (s1 + 1) (by omega) (by rw [h1]; simp [grpN, c_2]) (by omega) ls (lv_sub hl [0, 1, 2] rfl)
  exact loop_4 (n + 1) 0 0 (by omega) (rfl) (by omega) ls (lv_sub hl [0, 1, 2] rfl)

set_option maxHeartbeats 4000000 in
set_option maxRecDepth 100000 in
/-- two TESTS belong together -/
theorem c_TR_unite (l : Launch) (dC : Nat → ClassId) (dI : Nat → Nat → Nat) (cI cZ cG : ClassId) (h : Nat) (a : Nat) (b : Nat) (n : Nat) (tf : Nat → Nat) (ff : Nat → Nat) (x : Int32) (y : Int32) (sz : Nat) (hn : n ≤ 24) (hf : ∀ j, j < n → ff j ≤ j) : Met l yTR_unite wsTR_unite ({ frames := 1, cells := 0, slots := 0, locals := 24 }) (va_Pc [.ref h, .int x, .int y] (fun U => U.heap.size = sz ∧ va_P (dC, dI) vwCl [(h, .inr (0, [.int (nI n), .ref a, .ref b])), (a, .inl (cI, 24, .inl (fun j9 => nI (tf j9)))), (b, .inl (cI, 24, .inl (fun j9 => nI (ff j9))))] U.heap ∧ KX dC dI cI cZ cG U ∧ va_D (fun _ => True) [(h, .inr (0, [.int (nI n), .ref a, .ref b])), (a, .inl (cI, 24, .inl (fun j9 => nI (tf j9)))), (b, .inl (cI, 24, .inl (fun j9 => nI (ff j9))))])) (va_Qi (fun (r : Int32) (u : Unit) => r = nI ((joinN n ff x y).elim 0 (fun _ => 1))) (fun u t => va_P (dC, dI) vwCl [(h, .inr (0, [.int (nI n), .ref a, .ref b])), (a, .inl (cI, 24, .inl (fun j9 => nI (tf j9)))), (b, .inl (cI, 24, .inl (fun j9 => nI (((joinN n ff x y).elim ff (fun q => joinF ff q.2 q.1 n)) j9))))] t.heap ∧ va_D (va_A [(h, .inr (0, [.int (nI n), .ref a, .ref b])), (a, .inl (cI, 24, .inl (fun j9 => nI (tf j9)))), (b, .inl (cI, 24, .inl (fun j9 => nI (ff j9))))] sz) [(h, .inr (0, [.int (nI n), .ref a, .ref b])), (a, .inl (cI, 24, .inl (fun j9 => nI (tf j9)))), (b, .inl (cI, 24, .inl (fun j9 => nI (((joinN n ff x y).elim ff (fun q => joinF ff q.2 q.1 n)) j9))))]) (va_A [(h, .inr (0, [.int (nI n), .ref a, .ref b])), (a, .inl (cI, 24, .inl (fun j9 => nI (tf j9)))), (b, .inl (cI, 24, .inl (fun j9 => nI (ff j9))))] sz)) 0 0 (va_A [(h, .inr (0, [.int (nI n), .ref a, .ref b])), (a, .inl (cI, 24, .inl (fun j9 => nI (tf j9)))), (b, .inl (cI, 24, .inl (fun j9 => nI (ff j9))))] sz) := by
  refine Met.ofW (cc := cTR_unite) (maxL := 6) (ret := (some .boolean)) (by decide) rfl ?_
  intro p e s m args below meth c s₁ B hml hv
  obtain ⟨rfl, hsz, hP, hKX, hD0⟩ := hv
  have hK := hKX.1
  have hx := B.exec
  have hb := B.bytes
  have hr := B.returns
  have hts := atoms_spec (ws := wsTR_unite) B.pre
  have hown : s.vm.findClass RTR = some m.cls := findClass_of_methodNamed B.named
  have hlocks := B.notSynchronized
  subst hsz
  have hD := hD0.self (sz := s.heap.size)
  generalize hAe : va_A [(h, .inr (0, [.int (nI n), .ref a, .ref b])), (a, .inl (cI, 24, .inl (fun j9 => nI (tf j9)))), (b, .inl (cI, 24, .inl (fun j9 => nI (ff j9))))] s.heap.size = A at hD ⊢
  have hA : ∀ q : Nat, s.heap.size ≤ q → A q := fun q h => by rw [← hAe]; exact Or.inr h
  have hS : va_S A s.heap s.heap [] := va_S.rf
  have hl := lv_entry ([.ref h, .int x, .int y]) (n := 6) (Nat.le_of_ble_eq_true rfl)
  rw [lg_entry_eq]
  generalize (lg_sl ([.ref h, .int x, .int y]) ++ List.replicate (6 - (lg_sl ([.ref h, .int x, .int y])).length) Slot.unset).toArray = ls at hl ⊢
  have hl : lv_has ls 6 [(0, .ref h), (1, .int x), (2, .int y)] := hl
  generalize hRe : (headSpec wsTR_unite ({ frames := 1, cells := 0, slots := 0, locals := 24 })).room = R
  have hRf : 1 ≤ R.frames := by rw [← hRe]; exact Nat.le_refl _
  have hRl : 24 ≤ R.locals := by rw [← hRe]; exact Nat.le_refl _
  have hRc : 0 ≤ R.cells := by rw [← hRe]; exact Nat.le_refl _
  have hRs : 0 ≤ R.slots := by rw [← hRe]; exact Nat.le_refl _
  generalize hargs : (List.toArray [.ref h, .int x, .int y] : Array Value) = args at hts ⊢
  generalize hQe : MQ below _ args s _ _ _ = Q
  refine lv_aload_n hx hb dTR_unite_0 rfl (lv_at hl 0 rfl) ?_
  refine lv_iload_n hx hb dTR_unite_1 rfl (lv_at hl 1 rfl) ?_
  refine vp_callSi (va_runV (C := RTR) (As := [.int x]) (rest := []) ⟨hx, hb, hml, hown, hts⟩ (c_TR_has l dC dI cI cZ cG h a b n tf ff x (hn)) (hr_cwV 1 hts kw_269 kw_270 kw_271 kw_25 kw_272 (by decide +kernel) (by rw [← hRe]; exact ⟨Nat.le_of_ble_eq_true rfl, Nat.le_of_ble_eq_true rfl⟩)) (hr_preR hKX hP [0, 1, 2] rfl (ci := 0) (q0 := 0) (q := (RTR, TTR, 3)) rfl rfl) rfl rfl hl.1 rfl (lv_room (Nat.le_of_ble_eq_true rfl)) dTR_unite_2 ⟨by omega, by omega⟩).run (fun rv hrv => ?_)
  refine hr_eqi hrv ?_
  have hb0 := inB_lt x n
  refine hr_if_eq hx hb (x := inB x n) (by omega) (tgt := 31) dTR_unite_5 (by decide) (fun c_1 => ?_) (fun c_1 => ?_)
  · refine lv_iconst (v := nI 0) hx hb dTR_unite_31 (by decide +kernel) ?_
    have ez : joinN n ff x y = none := by simp [joinN, c_1]
    rw [← hQe]
    exact W.zret (ty := .boolean) (v := nI 0) hx hb hr (by decide +kernel) (fun t ht hW => ⟨⟨_, (), rfl, by rw [ez]; rfl, by rw [ht, ez]; exact hP, by rw [ez]; exact hD⟩, hS.F ht⟩) hS.2.2 dTR_unite_32
  · obtain ⟨i, hi, rfl⟩ := inB_pos (by omega) c_1
    have hfi := hf i hi
    refine lv_aload_n hx hb dTR_unite_8 rfl (lv_at hl 0 rfl) ?_
    refine lv_iload_n hx hb dTR_unite_9 rfl (lv_at hl 2 rfl) ?_
    refine vp_callSi (va_runV (C := RTR) (As := [.int y]) (rest := []) ⟨hx, hb, hml, hown, hts⟩ (c_TR_has l dC dI cI cZ cG h a b n tf ff y (hn)) (hr_cwV 1 hts kw_269 kw_270 kw_271 kw_25 kw_272 (by decide +kernel) (by rw [← hRe]; exact ⟨Nat.le_of_ble_eq_true rfl, Nat.le_of_ble_eq_true rfl⟩)) (hr_preR hKX hP [0, 1, 2] rfl (ci := 0) (q0 := 0) (q := (RTR, TTR, 3)) rfl rfl) rfl rfl hl.1 rfl (lv_room (Nat.le_of_ble_eq_true rfl)) dTR_unite_10 ⟨by omega, by omega⟩).run (fun rv hrv => ?_)
    refine hr_eqi hrv ?_
    have hb1 := inB_lt y n
    refine hr_if_eq hx hb (x := inB y n) (by omega) (tgt := 31) dTR_unite_13 (by decide) (fun c_2 => ?_) (fun c_2 => ?_)
    · refine lv_iconst (v := nI 0) hx hb dTR_unite_31 (by decide +kernel) ?_
      have ez : joinN n ff (nI i) y = none := by simp [joinN, c_2]
      rw [← hQe]
      exact W.zret (ty := .boolean) (v := nI 0) hx hb hr (by decide +kernel) (fun t ht hW => ⟨⟨_, (), rfl, by rw [ez]; rfl, by rw [ht, ez]; exact hP, by rw [ez]; exact hD⟩, hS.F ht⟩) hS.2.2 dTR_unite_32
    · obtain ⟨k, hk, rfl⟩ := inB_pos (by omega) c_2
      have hfk := hf k hk
      refine lv_aload_n hx hb dTR_unite_16 rfl (lv_at hl 0 rfl) ?_
      refine va_get (D := (dC, dI)) (ci := 0) (v := .ref b) (C := RTR) (T := TTR) (N := 3) hx hb hts (fun w h => List.mem_cons_of_mem _ (inTR w h)) hown hK hP 0 rfl rfl 2 (by decide) (hts _ (List.mem_cons_of_mem _ kw_59)) (fun _ h9 => h9) rfl dTR_unite_17 ?_
      refine lv_iload_n hx hb dTR_unite_20 rfl (lv_at hl 1 rfl) ?_
      refine hr_iald hx hb hK hP 2 0 rfl rfl (i := i) (by omega) (by omega) dTR_unite_21 ?_
      refine lv_aload_n hx hb dTR_unite_22 rfl (lv_at hl 0 rfl) ?_
      refine va_get (D := (dC, dI)) (ci := 0) (v := .ref b) (C := RTR) (T := TTR) (N := 3) hx hb hts (fun w h => List.mem_cons_of_mem _ (inTR w h)) hown hK hP 0 rfl rfl 2 (by decide) (hts _ (List.mem_cons_of_mem _ kw_59)) (fun _ h9 => h9) rfl dTR_unite_23 ?_
      refine lv_iload_n hx hb dTR_unite_26 rfl (lv_at hl 2 rfl) ?_
      refine hr_iald hx hb hK hP 2 0 rfl rfl (i := k) (by omega) (by omega) dTR_unite_27 ?_
      refine hr_icmp_ne hx hb (x := (ff i)) (y := (ff k)) (by omega) (by omega) (tgt := 33) dTR_unite_28 (by decide) (fun c_3 => ?_) (fun c_3 => ?_)
      · refine lv_aload_n hx hb dTR_unite_33 rfl (lv_at hl 0 rfl) ?_
        refine va_get (D := (dC, dI)) (ci := 0) (v := .ref b) (C := RTR) (T := TTR) (N := 3) hx hb hts (fun w h => List.mem_cons_of_mem _ (inTR w h)) hown hK hP 0 rfl rfl 2 (by decide) (hts _ (List.mem_cons_of_mem _ kw_59)) (fun _ h9 => h9) rfl dTR_unite_34 ?_
        refine lv_iload_n hx hb dTR_unite_37 rfl (lv_at hl 1 rfl) ?_
        refine hr_iald hx hb hK hP 2 0 rfl rfl (i := i) (by omega) (by omega) dTR_unite_38 ?_
        refine lv_aload_n hx hb dTR_unite_39 rfl (lv_at hl 0 rfl) ?_
        refine va_get (D := (dC, dI)) (ci := 0) (v := .ref b) (C := RTR) (T := TTR) (N := 3) hx hb hts (fun w h => List.mem_cons_of_mem _ (inTR w h)) hown hK hP 0 rfl rfl 2 (by decide) (hts _ (List.mem_cons_of_mem _ kw_59)) (fun _ h9 => h9) rfl dTR_unite_40 ?_
        refine lv_iload_n hx hb dTR_unite_43 rfl (lv_at hl 2 rfl) ?_
        refine hr_iald hx hb hK hP 2 0 rfl rfl (i := k) (by omega) (by omega) dTR_unite_44 ?_
        refine va_mmin (rest := []) hx hb (by rw [hml]; exact hl.1.symm) hown (hts (.methodLink RTR 29 Lib.Math.min.name) (by decide +kernel)) (hts (.static Lib.Math.min.name) (by decide +kernel)) (hts (.initialized "java/lang/Math") (by decide +kernel)) (hts (.code Lib.Math.min.name Lib.Math.min.code 2 (some .int)) (by decide +kernel)) (Nat.le_trans (Nat.le_of_ble_eq_true rfl) hRf) (Nat.le_trans (Nat.le_of_ble_eq_true rfl) hRl) (Nat.zero_le _) (Nat.zero_le _) dTR_unite_45 ?_
        refine hr_eqi (hr_min (by omega) (by omega)) ?_
        refine lv_istore_n (lv' := [(3, .int (nI (min (ff i) (ff k)))), (0, .ref h), (1, .int (nI i)), (2, .int (nI k))]) hx hb dTR_unite_48 rfl hl (by decide) rfl (fun ls hl => ?_)
        refine lv_aload_n hx hb dTR_unite_49 rfl (lv_at hl 1 rfl) ?_
        refine va_get (D := (dC, dI)) (ci := 0) (v := .ref b) (C := RTR) (T := TTR) (N := 3) hx hb hts (fun w h => List.mem_cons_of_mem _ (inTR w h)) hown hK hP 0 rfl rfl 2 (by decide) (hts _ (List.mem_cons_of_mem _ kw_59)) (fun _ h9 => h9) rfl dTR_unite_50 ?_
        refine lv_iload_n hx hb dTR_unite_53 rfl (lv_at hl 2 rfl) ?_
        refine hr_iald hx hb hK hP 2 0 rfl rfl (i := i) (by omega) (by omega) dTR_unite_54 ?_
        refine lv_aload_n hx hb dTR_unite_55 rfl (lv_at hl 1 rfl) ?_
        refine va_get (D := (dC, dI)) (ci := 0) (v := .ref b) (C := RTR) (T := TTR) (N := 3) hx hb hts (fun w h => List.mem_cons_of_mem _ (inTR w h)) hown hK hP 0 rfl rfl 2 (by decide) (hts _ (List.mem_cons_of_mem _ kw_59)) (fun _ h9 => h9) rfl dTR_unite_56 ?_
        refine lv_iload_n hx hb dTR_unite_59 rfl (lv_at hl 3 rfl) ?_
        refine hr_iald hx hb hK hP 2 0 rfl rfl (i := k) (by omega) (by omega) dTR_unite_60 ?_
        refine va_mmax (rest := []) hx hb (by rw [hml]; exact hl.1.symm) hown (hts (.methodLink RTR 35 Lib.Math.max.name) (by decide +kernel)) (hts (.static Lib.Math.max.name) (by decide +kernel)) (hts (.initialized "java/lang/Math") (by decide +kernel)) (hts (.code Lib.Math.max.name Lib.Math.max.code 2 (some .int)) (by decide +kernel)) (Nat.le_trans (Nat.le_of_ble_eq_true rfl) hRf) (Nat.le_trans (Nat.le_of_ble_eq_true rfl) hRl) (Nat.zero_le _) (Nat.zero_le _) dTR_unite_61 ?_
        refine hr_eqi (hr_max (by omega) (by omega)) ?_
        refine lv_istore (lv' := [(4, .int (nI (max (ff i) (ff k)))), (3, .int (nI (min (ff i) (ff k)))), (0, .ref h), (1, .int (nI i)), (2, .int (nI k))]) hx hb dTR_unite_64 hl (by decide) rfl (fun ls hl => ?_)
        refine lv_iconst (v := nI 0) hx hb dTR_unite_66 (by decide +kernel) ?_
        refine lv_istore (lv' := [(5, .int (nI 0)), (4, .int (nI (max (ff i) (ff k)))), (3, .int (nI (min (ff i) (ff k)))), (0, .ref h), (1, .int (nI i)), (2, .int (nI k))]) hx hb dTR_unite_67 hl (by decide) rfl (fun ls hl => ?_)
        rw [← joinF_0 ff (max (ff i) (ff k)) (min (ff i) (ff k))] at hP hD
        have loop_69 : ∀ (n9 : Nat) (j : Nat), j ≤ n → n + 1 ≤ j + n9 → ∀ (H : Heap) (locs : List Loc), va_P (dC, dI) vwCl [(h, .inr (0, [.int (nI n), .ref a, .ref b])), (a, .inl (cI, 24, .inl (fun j9 => nI (tf j9)))), (b, .inl (cI, 24, .inl (fun j9 => nI ((joinF ff (max (ff i) (ff k)) (min (ff i) (ff k)) j) j9))))] H → va_D A [(h, .inr (0, [.int (nI n), .ref a, .ref b])), (a, .inl (cI, 24, .inl (fun j9 => nI (tf j9)))), (b, .inl (cI, 24, .inl (fun j9 => nI ((joinF ff (max (ff i) (ff k)) (min (ff i) (ff k)) j) j9))))] → va_S A s.heap H locs → ∀ (ls : Array Slot), lv_has ls 6 [(5, .int (nI j)), (4, .int (nI (max (ff i) (ff k)))), (3, .int (nI (min (ff i) (ff k)))), (0, .ref h), (1, .int (nI i)), (2, .int (nI k))] → W p l e R s m args below meth c H locs 0 0 Q (F0 m 69 ls []) := by
          intro n9
          induction n9 with
          | zero =>
            intro j hj hmeas
            exact absurd hmeas (by omega)
          | succ n9 ih_69 =>
            intro j hj hmeas H locs hP hD hS ls hl
            have hG : max (ff i) (ff k) < 24 := by omega
            have hKk : min (ff i) (ff k) < 24 := by omega
            refine lv_iload hx hb dTR_unite_69 (lv_at hl 0 rfl) ?_
            refine lv_aload_n hx hb dTR_unite_71 rfl (lv_at hl 3 rfl) ?_
            refine va_get (D := (dC, dI)) (ci := 0) (v := .int (nI n)) (C := RTR) (T := TTR) (N := 3) hx hb hts (fun w h => List.mem_cons_of_mem _ (inTR w h)) hown hK hP 0 rfl rfl 0 (by decide) (hts _ (List.mem_cons_of_mem _ kw_55)) (fun _ h9 => h9) rfl dTR_unite_72 ?_
            refine hr_icmp_ge hx hb (x := j) (y := n) (by omega) (by omega) (tgt := 104) dTR_unite_75 (by decide) (fun c_4 => ?_) (fun c_4 => ?_)
            · have ej : j = n := by omega
              subst ej
              refine lv_iconst (v := nI 1) hx hb dTR_unite_104 (by decide +kernel) ?_
              have ez : joinN j ff (nI i) (nI k) = some ((min (ff i) (ff k)), (max (ff i) (ff k))) := by simp [joinN, nI_clamp (show i < 2 ^ 31 by omega), nI_clamp (show k < 2 ^ 31 by omega), inB_nI hi (show j < 2 ^ 31 by omega), inB_nI hk (show j < 2 ^ 31 by omega), c_3]
              rw [← hQe]
              exact W.zret (ty := .boolean) (v := nI 1) hx hb hr (by decide +kernel) (fun t ht hW => ⟨⟨_, (), rfl, by rw [ez]; rfl, by rw [ht, ez]; exact hP, by rw [ez]; exact hD⟩, hS.F ht⟩) hS.2.2 dTR_unite_105
            · have hfj := hf j (by omega)
              have hjj : joinF ff (max (ff i) (ff k)) (min (ff i) (ff k)) j j < 2 ^ 31 := by rw [joinF_at]; omega
              refine lv_aload_n hx hb dTR_unite_78 rfl (lv_at hl 3 rfl) ?_
              refine va_get (D := (dC, dI)) (ci := 0) (v := .ref b) (C := RTR) (T := TTR) (N := 3) hx hb hts (fun w h => List.mem_cons_of_mem _ (inTR w h)) hown hK hP 0 rfl rfl 2 (by decide) (hts _ (List.mem_cons_of_mem _ kw_59)) (fun _ h9 => h9) rfl dTR_unite_79 ?_
              refine lv_iload hx hb dTR_unite_82 (lv_at hl 0 rfl) ?_
              refine hr_iald hx hb hK hP 2 0 rfl rfl (i := j) (by omega) (by omega) dTR_unite_84 ?_
              refine lv_iload hx hb dTR_unite_85 (lv_at hl 1 rfl) ?_
              refine hr_icmp_ne hx hb (x := ((joinF ff (max (ff i) (ff k)) (min (ff i) (ff k)) j) j)) (y := (max (ff i) (ff k))) (by omega) (by omega) (tgt := 98) dTR_unite_87 (by decide) (fun c_5 => ?_) (fun c_5 => ?_)
              · refine lv_iinc (v := nI (j + 1)) (lv' := [(5, .int (nI (j + 1))), (4, .int (nI (max (ff i) (ff k)))), (3, .int (nI (min (ff i) (ff k)))), (0, .ref h), (1, .int (nI i)), (2, .int (nI k))]) hx hb dTR_unite_98 hl (k := 0) rfl (hr_inc _) (by decide) rfl (fun ls hl => ?_)
                refine lv_goto (tgt := 69) hx hb dTR_unite_101 (by decide) ?_
                rw [joinF_miss (fun q => c_5 (by rw [joinF_at]; exact q))] at hP hD
                exact ih_69 (j + 1) (by omega) (by omega) _ _ hP hD hS ls (lv_sub hl [0, 1, 2, 3, 4, 5] rfl)
              · refine lv_aload_n hx hb dTR_unite_90 rfl (lv_at hl 3 rfl) ?_
                refine va_get (D := (dC, dI)) (ci := 0) (v := .ref b) (C := RTR) (T := TTR) (N := 3) hx hb hts (fun w h => List.mem_cons_of_mem _ (inTR w h)) hown hK hP 0 rfl rfl 2 (by decide) (hts _ (List.mem_cons_of_mem _ kw_59)) (fun _ h9 => h9) rfl dTR_unite_91 ?_
                refine lv_iload hx hb dTR_unite_94 (lv_at hl 0 rfl) ?_
                refine lv_iload_n hx hb dTR_unite_96 rfl (lv_at hl 2 rfl) ?_
                refine hr_iastN hx hb hK hP hD hS 2 0 rfl rfl (i := j) (by omega) (by omega) dTR_unite_97 (fun H locs hP hD hS => ?_)
                have hP : va_P (dC, dI) vwCl [(h, .inr (0, [.int (nI n), .ref a, .ref b])), (a, .inl (cI, 24, .inl (fun j9 => nI (tf j9)))), (b, .inl (cI, 24, .inl (fun j9 => nI ((va_up (joinF ff (max (ff i) (ff k)) (min (ff i) (ff k)) j) j (min (ff i) (ff k))) j9))))] H := hP
                have hD : va_D A [(h, .inr (0, [.int (nI n), .ref a, .ref b])), (a, .inl (cI, 24, .inl (fun j9 => nI (tf j9)))), (b, .inl (cI, 24, .inl (fun j9 => nI ((va_up (joinF ff (max (ff i) (ff k)) (min (ff i) (ff k)) j) j (min (ff i) (ff k))) j9))))] := hD
                refine lv_iinc (v := nI (j + 1)) (lv' := [(5, .int (nI (j + 1))), (4, .int (nI (max (ff i) (ff k)))), (3, .int (nI (min (ff i) (ff k)))), (0, .ref h), (1, .int (nI i)), (2, .int (nI k))]) hx hb dTR_unite_98 hl (k := 0) rfl (hr_inc _) (by decide) rfl (fun ls hl => ?_)
                refine lv_goto (tgt := 69) hx hb dTR_unite_101 (by decide) ?_
                rw [joinF_hit (by rw [← c_5, joinF_at])] at hP hD
                exact ih_69 (j + 1) (by omega) (by omega) _ _ hP hD hS ls (lv_sub hl [0, 1, 2, 3, 4, 5] rfl)
        exact loop_69 (n + 1) 0 (by omega) (by omega) _ _ hP hD hS ls (lv_sub hl [0, 1, 2, 3, 4, 5] rfl)
      · refine lv_iconst (v := nI 0) hx hb dTR_unite_31 (by decide +kernel) ?_
        have ez : joinN n ff (nI i) (nI k) = none := by simp [joinN, nI_clamp (show i < 2 ^ 31 by omega), nI_clamp (show k < 2 ^ 31 by omega), c_3]
        rw [← hQe]
        exact W.zret (ty := .boolean) (v := nI 0) hx hb hr (by decide +kernel) (fun t ht hW => ⟨⟨_, (), rfl, by rw [ez]; rfl, by rw [ht, ez]; exact hP, by rw [ez]; exact hD⟩, hS.F ht⟩) hS.2.2 dTR_unite_32
