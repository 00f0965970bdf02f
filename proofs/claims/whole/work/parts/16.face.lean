set_option maxHeartbeats 400000 in
set_option maxRecDepth 100000 in
/-- SR.test -/
theorem c_SR_test (l : Launch) (dC : Nat → ClassId) (dI : Nat → Nat → Nat) (cI cZ cG : ClassId) (hC : Nat) (h : Nat) (hG : Nat) (kS : Nat) (hY : Nat) (h5 : Nat) (h6 : Nat) (kD : Nat) (k : Nat) (a : Nat) (b : Nat) (n : Nat) (tf : Nat → Nat) (ff : Nat → Nat) (x : Int32) (sz : Nat) (hn : n ≤ 24) : Met l ySR_test wsSR_test ({ frames := 2, cells := 0, slots := 0, locals := 42 }) (va_Pc [.ref hC, .int x] (fun U => U.heap.size = sz ∧ va_P (dC, dI) vwCl [(hC, .inr (7, [.ref h, .ref hG, .ref kS, .ref hY, .ref h5, .ref h6, .ref kD, .int (nI k)])), (h, .inr (0, [.int (nI n), .ref a, .ref b])), (a, .inl (cI, 24, .inl (fun j9 => nI (tf j9)))), (b, .inl (cI, 24, .inl (fun j9 => nI (ff j9))))] U.heap ∧ KX dC dI cI cZ cG U ∧ va_D (fun _ => True) [(hC, .inr (7, [.ref h, .ref hG, .ref kS, .ref hY, .ref h5, .ref h6, .ref kD, .int (nI k)])), (h, .inr (0, [.int (nI n), .ref a, .ref b])), (a, .inl (cI, 24, .inl (fun j9 => nI (tf j9)))), (b, .inl (cI, 24, .inl (fun j9 => nI (ff j9))))])) (va_Qi (fun (r : Int32) (u : Unit) => r = ((addN n x).elim (-1) (fun _ => nI n))) (fun u t => va_P (dC, dI) vwCl [(hC, .inr (7, [.ref h, .ref hG, .ref kS, .ref hY, .ref h5, .ref h6, .ref kD, .int (nI k)])), (h, .inr (0, [.int (nI ((addN n x).elim n (fun _ => n + 1))), .ref a, .ref b])), (a, .inl (cI, 24, .inl (fun j9 => nI (((addN n x).elim tf (va_up tf n)) j9)))), (b, .inl (cI, 24, .inl (fun j9 => nI (((addN n x).elim ff (fun _ => va_up ff n n)) j9))))] t.heap ∧ va_D (va_A [(hC, .inr (7, [.ref h, .ref hG, .ref kS, .ref hY, .ref h5, .ref h6, .ref kD, .int (nI k)])), (h, .inr (0, [.int (nI n), .ref a, .ref b])), (a, .inl (cI, 24, .inl (fun j9 => nI (tf j9)))), (b, .inl (cI, 24, .inl (fun j9 => nI (ff j9))))] sz) [(hC, .inr (7, [.ref h, .ref hG, .ref kS, .ref hY, .ref h5, .ref h6, .ref kD, .int (nI k)])), (h, .inr (0, [.int (nI ((addN n x).elim n (fun _ => n + 1))), .ref a, .ref b])), (a, .inl (cI, 24, .inl (fun j9 => nI (((addN n x).elim tf (va_up tf n)) j9)))), (b, .inl (cI, 24, .inl (fun j9 => nI (((addN n x).elim ff (fun _ => va_up ff n n)) j9))))]) (va_A [(hC, .inr (7, [.ref h, .ref hG, .ref kS, .ref hY, .ref h5, .ref h6, .ref kD, .int (nI k)])), (h, .inr (0, [.int (nI n), .ref a, .ref b])), (a, .inl (cI, 24, .inl (fun j9 => nI (tf j9)))), (b, .inl (cI, 24, .inl (fun j9 => nI (ff j9))))] sz)) 0 0 (va_A [(hC, .inr (7, [.ref h, .ref hG, .ref kS, .ref hY, .ref h5, .ref h6, .ref kD, .int (nI k)])), (h, .inr (0, [.int (nI n), .ref a, .ref b])), (a, .inl (cI, 24, .inl (fun j9 => nI (tf j9)))), (b, .inl (cI, 24, .inl (fun j9 => nI (ff j9))))] sz) := by
  refine Met.ofW (cc := cSR_test) (maxL := 2) (ret := (some .int)) (by decide) rfl ?_
  intro p e s m args below meth c s₁ B hml hv
  obtain ⟨rfl, hsz, hP, hKX, hD0⟩ := hv
  have hK := hKX.1
  have hx := B.exec
  have hb := B.bytes
  have hr := B.returns
  have hts := atoms_spec (ws := wsSR_test) B.pre
  have hown : s.vm.findClass RSR = some m.cls := findClass_of_methodNamed B.named
  have hlocks := B.notSynchronized
  subst hsz
  have hD := hD0.self (sz := s.heap.size)
  generalize hAe : va_A [(hC, .inr (7, [.ref h, .ref hG, .ref kS, .ref hY, .ref h5, .ref h6, .ref kD, .int (nI k)])), (h, .inr (0, [.int (nI n), .ref a, .ref b])), (a, .inl (cI, 24, .inl (fun j9 => nI (tf j9)))), (b, .inl (cI, 24, .inl (fun j9 => nI (ff j9))))] s.heap.size = A at hD ⊢
  have hA : ∀ q : Nat, s.heap.size ≤ q → A q := fun q h => by rw [← hAe]; exact Or.inr h
  have hS : va_S A s.heap s.heap [] := va_S.rf
  have hl := lv_entry ([.ref hC, .int x]) (n := 2) (Nat.le_of_ble_eq_true rfl)
  rw [lg_entry_eq]
  generalize (lg_sl ([.ref hC, .int x]) ++ List.replicate (2 - (lg_sl ([.ref hC, .int x])).length) Slot.unset).toArray = ls at hl ⊢
  have hl : lv_has ls 2 [(0, .ref hC), (1, .int x)] := hl
  generalize hRe : (headSpec wsSR_test ({ frames := 2, cells := 0, slots := 0, locals := 42 })).room = R
  have hRf : 2 ≤ R.frames := by rw [← hRe]; exact Nat.le_refl _
  have hRl : 42 ≤ R.locals := by rw [← hRe]; exact Nat.le_refl _
  have hRc : 0 ≤ R.cells := by rw [← hRe]; exact Nat.le_refl _
  have hRs : 0 ≤ R.slots := by rw [← hRe]; exact Nat.le_refl _
  generalize hargs : (List.toArray [.ref hC, .int x] : Array Value) = args at hts ⊢
  generalize hQe : MQ below _ args s _ _ _ = Q
  refine lv_aload_n hx hb dSR_test_0 rfl (lv_at hl 0 rfl) ?_
  refine va_get (D := (dC, dI)) (ci := 7) (v := .ref h) (C := RSR) (T := TSR) (N := 8) hx hb hts (fun w h => List.mem_cons_of_mem _ (inSR w h)) hown hK hP 0 rfl rfl 0 (by decide) (hts _ (List.mem_cons_of_mem _ kw_224)) (fun _ h9 => h9) rfl dSR_test_1 ?_
  refine lv_iload_n hx hb dSR_test_4 rfl (lv_at hl 1 rfl) ?_
  refine hr_calli (wr := [(hC, .inr (7, [.ref h, .ref hG, .ref kS, .ref hY, .ref h5, .ref h6, .ref kD, .int (nI k)]))]) (va_runV (C := RTR) (As := [.int x]) (rest := []) ⟨hx, hb, hml, hown, hts⟩ (c_TR_add l dC dI cI cZ cG h a b n tf ff x s.heap.size (hn)) (hr_cwV 1 hts kw_253 kw_254 kw_255 kw_25 kw_256 (by decide +kernel) (by rw [← hRe]; exact ⟨Nat.le_of_ble_eq_true rfl, Nat.le_of_ble_eq_true rfl⟩)) (hr_preW hKX hP hD [1, 2, 3] (by decide) rfl (ci := 0) (q0 := 1) (q := (RTR, TTR, 3)) rfl rfl) rfl rfl hl.1 rfl (lv_room (Nat.le_of_ble_eq_true rfl)) dSR_test_5 ⟨by omega, by omega⟩) hP hD hS hA [1, 2, 3] [0] rfl rfl (by decide) (by decide) [0, 1, 2, 3] (fun u => [(hC, .inr (7, [.ref h, .ref hG, .ref kS, .ref hY, .ref h5, .ref h6, .ref kD, .int (nI k)])), (h, .inr (0, [.int (nI ((addN n x).elim n (fun _ => n + 1))), .ref a, .ref b])), (a, .inl (cI, 24, .inl (fun j9 => nI (((addN n x).elim tf (va_up tf n)) j9)))), (b, .inl (cI, 24, .inl (fun j9 => nI (((addN n x).elim ff (fun _ => va_up ff n n)) j9))))]) (by decide) (fun u => rfl) (fun rv u H locs hrv hP hD hS => ?_)
  have hP : va_P (dC, dI) vwCl [(hC, .inr (7, [.ref h, .ref hG, .ref kS, .ref hY, .ref h5, .ref h6, .ref kD, .int (nI k)])), (h, .inr (0, [.int (nI ((addN n x).elim n (fun _ => n + 1))), .ref a, .ref b])), (a, .inl (cI, 24, .inl (fun j9 => nI (((addN n x).elim tf (va_up tf n)) j9)))), (b, .inl (cI, 24, .inl (fun j9 => nI (((addN n x).elim ff (fun _ => va_up ff n n)) j9))))] H := hP
  have hD : va_D A [(hC, .inr (7, [.ref h, .ref hG, .ref kS, .ref hY, .ref h5, .ref h6, .ref kD, .int (nI k)])), (h, .inr (0, [.int (nI ((addN n x).elim n (fun _ => n + 1))), .ref a, .ref b])), (a, .inl (cI, 24, .inl (fun j9 => nI (((addN n x).elim tf (va_up tf n)) j9)))), (b, .inl (cI, 24, .inl (fun j9 => nI (((addN n x).elim ff (fun _ => va_up ff n n)) j9))))] := hD
  refine hr_eqi hrv ?_
  rw [← hQe]
  exact W.iret (v := ((addN n x).elim (-1) (fun _ => nI n))) hx hb hr (fun t ht hW => ⟨⟨_, (), rfl, rfl, by rw [ht]; exact hP, hD⟩, hS.F ht⟩) hS.2.2 dSR_test_8

set_option maxHeartbeats 400000 in
set_option maxRecDepth 100000 in
/-- SR.time -/
theorem c_SR_time (l : Launch) (dC : Nat → ClassId) (dI : Nat → Nat → Nat) (cI cZ cG : ClassId) (hC : Nat) (h : Nat) (hG : Nat) (kS : Nat) (hY : Nat) (h5 : Nat) (h6 : Nat) (kD : Nat) (k : Nat) (a : Nat) (b : Nat) (n : Nat) (tf : Nat → Nat) (ff : Nat → Nat) (x : Int32) (y : Int32) (sz : Nat) (hn : n ≤ 24) : Met l ySR_time wsSR_time ({ frames := 2, cells := 0, slots := 0, locals := 46 }) (va_Pc [.ref hC, .int x, .int y] (fun U => U.heap.size = sz ∧ va_P (dC, dI) vwCl [(hC, .inr (7, [.ref h, .ref hG, .ref kS, .ref hY, .ref h5, .ref h6, .ref kD, .int (nI k)])), (h, .inr (0, [.int (nI n), .ref a, .ref b])), (a, .inl (cI, 24, .inl (fun j9 => nI (tf j9)))), (b, .inl (cI, 24, .inl (fun j9 => nI (ff j9))))] U.heap ∧ KX dC dI cI cZ cG U ∧ va_D (fun _ => True) [(hC, .inr (7, [.ref h, .ref hG, .ref kS, .ref hY, .ref h5, .ref h6, .ref kD, .int (nI k)])), (h, .inr (0, [.int (nI n), .ref a, .ref b])), (a, .inl (cI, 24, .inl (fun j9 => nI (tf j9)))), (b, .inl (cI, 24, .inl (fun j9 => nI (ff j9))))])) (va_Qi (fun (r : Int32) (u : Unit) => r = nI ((retN n x y).elim 0 (fun _ => 1))) (fun u t => va_P (dC, dI) vwCl [(hC, .inr (7, [.ref h, .ref hG, .ref kS, .ref hY, .ref h5, .ref h6, .ref kD, .int (nI k)])), (h, .inr (0, [.int (nI n), .ref a, .ref b])), (a, .inl (cI, 24, .inl (fun j9 => nI (((retN n x y).elim tf (fun q => va_up tf q.1 q.2)) j9)))), (b, .inl (cI, 24, .inl (fun j9 => nI (ff j9))))] t.heap ∧ va_D (va_A [(hC, .inr (7, [.ref h, .ref hG, .ref kS, .ref hY, .ref h5, .ref h6, .ref kD, .int (nI k)])), (h, .inr (0, [.int (nI n), .ref a, .ref b])), (a, .inl (cI, 24, .inl (fun j9 => nI (tf j9)))), (b, .inl (cI, 24, .inl (fun j9 => nI (ff j9))))] sz) [(hC, .inr (7, [.ref h, .ref hG, .ref kS, .ref hY, .ref h5, .ref h6, .ref kD, .int (nI k)])), (h, .inr (0, [.int (nI n), .ref a, .ref b])), (a, .inl (cI, 24, .inl (fun j9 => nI (((retN n x y).elim tf (fun q => va_up tf q.1 q.2)) j9)))), (b, .inl (cI, 24, .inl (fun j9 => nI (ff j9))))]) (va_A [(hC, .inr (7, [.ref h, .ref hG, .ref kS, .ref hY, .ref h5, .ref h6, .ref kD, .int (nI k)])), (h, .inr (0, [.int (nI n), .ref a, .ref b])), (a, .inl (cI, 24, .inl (fun j9 => nI (tf j9)))), (b, .inl (cI, 24, .inl (fun j9 => nI (ff j9))))] sz)) 0 0 (va_A [(hC, .inr (7, [.ref h, .ref hG, .ref kS, .ref hY, .ref h5, .ref h6, .ref kD, .int (nI k)])), (h, .inr (0, [.int (nI n), .ref a, .ref b])), (a, .inl (cI, 24, .inl (fun j9 => nI (tf j9)))), (b, .inl (cI, 24, .inl (fun j9 => nI (ff j9))))] sz) := by
  refine Met.ofW (cc := cSR_time) (maxL := 3) (ret := (some .boolean)) (by decide) rfl ?_
  intro p e s m args below meth c s₁ B hml hv
  obtain ⟨rfl, hsz, hP, hKX, hD0⟩ := hv
  have hK := hKX.1
  have hx := B.exec
  have hb := B.bytes
  have hr := B.returns
  have hts := atoms_spec (ws := wsSR_time) B.pre
  have hown : s.vm.findClass RSR = some m.cls := findClass_of_methodNamed B.named
  have hlocks := B.notSynchronized
  subst hsz
  have hD := hD0.self (sz := s.heap.size)
  generalize hAe : va_A [(hC, .inr (7, [.ref h, .ref hG, .ref kS, .ref hY, .ref h5, .ref h6, .ref kD, .int (nI k)])), (h, .inr (0, [.int (nI n), .ref a, .ref b])), (a, .inl (cI, 24, .inl (fun j9 => nI (tf j9)))), (b, .inl (cI, 24, .inl (fun j9 => nI (ff j9))))] s.heap.size = A at hD ⊢
  have hA : ∀ q : Nat, s.heap.size ≤ q → A q := fun q h => by rw [← hAe]; exact Or.inr h
  have hS : va_S A s.heap s.heap [] := va_S.rf
  have hl := lv_entry ([.ref hC, .int x, .int y]) (n := 3) (Nat.le_of_ble_eq_true rfl)
  rw [lg_entry_eq]
  generalize (lg_sl ([.ref hC, .int x, .int y]) ++ List.replicate (3 - (lg_sl ([.ref hC, .int x, .int y])).length) Slot.unset).toArray = ls at hl ⊢
  have hl : lv_has ls 3 [(0, .ref hC), (1, .int x), (2, .int y)] := hl
  generalize hRe : (headSpec wsSR_time ({ frames := 2, cells := 0, slots := 0, locals := 46 })).room = R
  have hRf : 2 ≤ R.frames := by rw [← hRe]; exact Nat.le_refl _
  have hRl : 46 ≤ R.locals := by rw [← hRe]; exact Nat.le_refl _
  have hRc : 0 ≤ R.cells := by rw [← hRe]; exact Nat.le_refl _
  have hRs : 0 ≤ R.slots := by rw [← hRe]; exact Nat.le_refl _
  generalize hargs : (List.toArray [.ref hC, .int x, .int y] : Array Value) = args at hts ⊢
  generalize hQe : MQ below _ args s _ _ _ = Q
  refine lv_aload_n hx hb dSR_time_0 rfl (lv_at hl 0 rfl) ?_
  refine va_get (D := (dC, dI)) (ci := 7) (v := .ref h) (C := RSR) (T := TSR) (N := 8) hx hb hts (fun w h => List.mem_cons_of_mem _ (inSR w h)) hown hK hP 0 rfl rfl 0 (by decide) (hts _ (List.mem_cons_of_mem _ kw_224)) (fun _ h9 => h9) rfl dSR_time_1 ?_
  refine lv_iload_n hx hb dSR_time_4 rfl (lv_at hl 1 rfl) ?_
  refine lv_iload_n hx hb dSR_time_5 rfl (lv_at hl 2 rfl) ?_
  refine hr_calli (wr := [(hC, .inr (7, [.ref h, .ref hG, .ref kS, .ref hY, .ref h5, .ref h6, .ref kD, .int (nI k)]))]) (va_runV (C := RTR) (As := [.int x, .int y]) (rest := []) ⟨hx, hb, hml, hown, hts⟩ (c_TR_retime l dC dI cI cZ cG h a b n tf ff x y s.heap.size (hn)) (hr_cwV 2 hts kw_265 kw_266 kw_267 kw_25 kw_268 (by decide +kernel) (by rw [← hRe]; exact ⟨Nat.le_of_ble_eq_true rfl, Nat.le_of_ble_eq_true rfl⟩)) (hr_preW hKX hP hD [1, 2, 3] (by decide) rfl (ci := 0) (q0 := 1) (q := (RTR, TTR, 3)) rfl rfl) rfl rfl hl.1 rfl (lv_room (Nat.le_of_ble_eq_true rfl)) dSR_time_6 ⟨by omega, by omega⟩) hP hD hS hA [1, 2, 3] [0] rfl rfl (by decide) (by decide) [0, 1, 2, 3] (fun u => [(hC, .inr (7, [.ref h, .ref hG, .ref kS, .ref hY, .ref h5, .ref h6, .ref kD, .int (nI k)])), (h, .inr (0, [.int (nI n), .ref a, .ref b])), (a, .inl (cI, 24, .inl (fun j9 => nI (((retN n x y).elim tf (fun q => va_up tf q.1 q.2)) j9)))), (b, .inl (cI, 24, .inl (fun j9 => nI (ff j9))))]) (by decide) (fun u => rfl) (fun rv u H locs hrv hP hD hS => ?_)
  have hP : va_P (dC, dI) vwCl [(hC, .inr (7, [.ref h, .ref hG, .ref kS, .ref hY, .ref h5, .ref h6, .ref kD, .int (nI k)])), (h, .inr (0, [.int (nI n), .ref a, .ref b])), (a, .inl (cI, 24, .inl (fun j9 => nI (((retN n x y).elim tf (fun q => va_up tf q.1 q.2)) j9)))), (b, .inl (cI, 24, .inl (fun j9 => nI (ff j9))))] H := hP
  have hD : va_D A [(hC, .inr (7, [.ref h, .ref hG, .ref kS, .ref hY, .ref h5, .ref h6, .ref kD, .int (nI k)])), (h, .inr (0, [.int (nI n), .ref a, .ref b])), (a, .inl (cI, 24, .inl (fun j9 => nI (((retN n x y).elim tf (fun q => va_up tf q.1 q.2)) j9)))), (b, .inl (cI, 24, .inl (fun j9 => nI (ff j9))))] := hD
  refine hr_eqi hrv ?_
  rw [← hQe]
  exact W.zret (ty := .boolean) (v := nI ((retN n x y).elim 0 (fun _ => 1))) hx hb hr (hr_nz (by cases h9 : retN n x y <;> simp)) (fun t ht hW => ⟨⟨_, (), rfl, rfl, by rw [ht]; exact hP, hD⟩, hS.F ht⟩) hS.2.2 dSR_time_9

set_option maxHeartbeats 400000 in
set_option maxRecDepth 100000 in
/-- SR.join -/
theorem c_SR_join (l : Launch) (dC : Nat → ClassId) (dI : Nat → Nat → Nat) (cI cZ cG : ClassId) (hC : Nat) (h : Nat) (hG : Nat) (kS : Nat) (hY : Nat) (h5 : Nat) (h6 : Nat) (kD : Nat) (k : Nat) (a : Nat) (b : Nat) (n : Nat) (tf : Nat → Nat) (ff : Nat → Nat) (x : Int32) (y : Int32) (sz : Nat) (hn : n ≤ 24) (hf : ∀ j, j < n → ff j ≤ j) : Met l ySR_join wsSR_join ({ frames := 2, cells := 0, slots := 0, locals := 49 }) (va_Pc [.ref hC, .int x, .int y] (fun U => U.heap.size = sz ∧ va_P (dC, dI) vwCl [(hC, .inr (7, [.ref h, .ref hG, .ref kS, .ref hY, .ref h5, .ref h6, .ref kD, .int (nI k)])), (h, .inr (0, [.int (nI n), .ref a, .ref b])), (a, .inl (cI, 24, .inl (fun j9 => nI (tf j9)))), (b, .inl (cI, 24, .inl (fun j9 => nI (ff j9))))] U.heap ∧ KX dC dI cI cZ cG U ∧ va_D (fun _ => True) [(hC, .inr (7, [.ref h, .ref hG, .ref kS, .ref hY, .ref h5, .ref h6, .ref kD, .int (nI k)])), (h, .inr (0, [.int (nI n), .ref a, .ref b])), (a, .inl (cI, 24, .inl (fun j9 => nI (tf j9)))), (b, .inl (cI, 24, .inl (fun j9 => nI (ff j9))))])) (va_Qi (fun (r : Int32) (u : Unit) => r = nI ((joinN n ff x y).elim 0 (fun _ => 1))) (fun u t => va_P (dC, dI) vwCl [(hC, .inr (7, [.ref h, .ref hG, .ref kS, .ref hY, .ref h5, .ref h6, .ref kD, .int (nI k)])), (h, .inr (0, [.int (nI n), .ref a, .ref b])), (a, .inl (cI, 24, .inl (fun j9 => nI (tf j9)))), (b, .inl (cI, 24, .inl (fun j9 => nI (((joinN n ff x y).elim ff (fun q => joinF ff q.2 q.1 n)) j9))))] t.heap ∧ va_D (va_A [(hC, .inr (7, [.ref h, .ref hG, .ref kS, .ref hY, .ref h5, .ref h6, .ref kD, .int (nI k)])), (h, .inr (0, [.int (nI n), .ref a, .ref b])), (a, .inl (cI, 24, .inl (fun j9 => nI (tf j9)))), (b, .inl (cI, 24, .inl (fun j9 => nI (ff j9))))] sz) [(hC, .inr (7, [.ref h, .ref hG, .ref kS, .ref hY, .ref h5, .ref h6, .ref kD, .int (nI k)])), (h, .inr (0, [.int (nI n), .ref a, .ref b])), (a, .inl (cI, 24, .inl (fun j9 => nI (tf j9)))), (b, .inl (cI, 24, .inl (fun j9 => nI (((joinN n ff x y).elim ff (fun q => joinF ff q.2 q.1 n)) j9))))]) (va_A [(hC, .inr (7, [.ref h, .ref hG, .ref kS, .ref hY, .ref h5, .ref h6, .ref kD, .int (nI k)])), (h, .inr (0, [.int (nI n), .ref a, .ref b])), (a, .inl (cI, 24, .inl (fun j9 => nI (tf j9)))), (b, .inl (cI, 24, .inl (fun j9 => nI (ff j9))))] sz)) 0 0 (va_A [(hC, .inr (7, [.ref h, .ref hG, .ref kS, .ref hY, .ref h5, .ref h6, .ref kD, .int (nI k)])), (h, .inr (0, [.int (nI n), .ref a, .ref b])), (a, .inl (cI, 24, .inl (fun j9 => nI (tf j9)))), (b, .inl (cI, 24, .inl (fun j9 => nI (ff j9))))] sz) := by
  refine Met.ofW (cc := cSR_join) (maxL := 3) (ret := (some .boolean)) (by decide) rfl ?_
  intro p e s m args below meth c s₁ B hml hv
  obtain ⟨rfl, hsz, hP, hKX, hD0⟩ := hv
  have hK := hKX.1
  have hx := B.exec
  have hb := B.bytes
  have hr := B.returns
  have hts := atoms_spec (ws := wsSR_join) B.pre
  have hown : s.vm.findClass RSR = some m.cls := findClass_of_methodNamed B.named
  have hlocks := B.notSynchronized
  subst hsz
  have hD := hD0.self (sz := s.heap.size)
  generalize hAe : va_A [(hC, .inr (7, [.ref h, .ref hG, .ref kS, .ref hY, .ref h5, .ref h6, .ref kD, .int (nI k)])), (h, .inr (0, [.int (nI n), .ref a, .ref b])), (a, .inl (cI, 24, .inl (fun j9 => nI (tf j9)))), (b, .inl (cI, 24, .inl (fun j9 => nI (ff j9))))] s.heap.size = A at hD ⊢
  have hA : ∀ q : Nat, s.heap.size ≤ q → A q := fun q h => by rw [← hAe]; exact Or.inr h
  have hS : va_S A s.heap s.heap [] := va_S.rf
  have hl := lv_entry ([.ref hC, .int x, .int y]) (n := 3) (Nat.le_of_ble_eq_true rfl)
  rw [lg_entry_eq]
  generalize (lg_sl ([.ref hC, .int x, .int y]) ++ List.replicate (3 - (lg_sl ([.ref hC, .int x, .int y])).length) Slot.unset).toArray = ls at hl ⊢
  have hl : lv_has ls 3 [(0, .ref hC), (1, .int x), (2, .int y)] := hl
  generalize hRe : (headSpec wsSR_join ({ frames := 2, cells := 0, slots := 0, locals := 49 })).room = R
  have hRf : 2 ≤ R.frames := by rw [← hRe]; exact Nat.le_refl _
  have hRl : 49 ≤ R.locals := by rw [← hRe]; exact Nat.le_refl _
  have hRc : 0 ≤ R.cells := by rw [← hRe]; exact Nat.le_refl _
  have hRs : 0 ≤ R.slots := by rw [← hRe]; exact Nat.le_refl _
  generalize hargs : (List.toArray [.ref hC, .int x, .int y] : Array Value) = args at hts ⊢
  generalize hQe : MQ below _ args s _ _ _ = Q
  refine lv_aload_n hx hb dSR_join_0 rfl (lv_at hl 0 rfl) ?_
  refine va_get (D := (dC, dI)) (ci := 7) (v := .ref h) (C := RSR) (T := TSR) (N := 8) hx hb hts (fun w h => List.mem_cons_of_mem _ (inSR w h)) hown hK hP 0 rfl rfl 0 (by decide) (hts _ (List.mem_cons_of_mem _ kw_224)) (fun _ h9 => h9) rfl dSR_join_1 ?_
  refine lv_iload_n hx hb dSR_join_4 rfl (lv_at hl 1 rfl) ?_
  refine lv_iload_n hx hb dSR_join_5 rfl (lv_at hl 2 rfl) ?_
  refine hr_calli (wr := [(hC, .inr (7, [.ref h, .ref hG, .ref kS, .ref hY, .ref h5, .ref h6, .ref kD, .int (nI k)]))]) (va_runV (C := RTR) (As := [.int x, .int y]) (rest := []) ⟨hx, hb, hml, hown, hts⟩ (c_TR_unite l dC dI cI cZ cG h a b n tf ff x y s.heap.size (hn) (hf)) (hr_cwV 2 hts kw_277 kw_278 kw_279 kw_25 kw_280 (by decide +kernel) (by rw [← hRe]; exact ⟨Nat.le_of_ble_eq_true rfl, Nat.le_of_ble_eq_true rfl⟩)) (hr_preW hKX hP hD [1, 2, 3] (by decide) rfl (ci := 0) (q0 := 1) (q := (RTR, TTR, 3)) rfl rfl) rfl rfl hl.1 rfl (lv_room (Nat.le_of_ble_eq_true rfl)) dSR_join_6 ⟨by omega, by omega⟩) hP hD hS hA [1, 2, 3] [0] rfl rfl (by decide) (by decide) [0, 1, 2, 3] (fun u => [(hC, .inr (7, [.ref h, .ref hG, .ref kS, .ref hY, .ref h5, .ref h6, .ref kD, .int (nI k)])), (h, .inr (0, [.int (nI n), .ref a, .ref b])), (a, .inl (cI, 24, .inl (fun j9 => nI (tf j9)))), (b, .inl (cI, 24, .inl (fun j9 => nI (((joinN n ff x y).elim ff (fun q => joinF ff q.2 q.1 n)) j9))))]) (by decide) (fun u => rfl) (fun rv u H locs hrv hP hD hS => ?_)
  have hP : va_P (dC, dI) vwCl [(hC, .inr (7, [.ref h, .ref hG, .ref kS, .ref hY, .ref h5, .ref h6, .ref kD, .int (nI k)])), (h, .inr (0, [.int (nI n), .ref a, .ref b])), (a, .inl (cI, 24, .inl (fun j9 => nI (tf j9)))), (b, .inl (cI, 24, .inl (fun j9 => nI (((joinN n ff x y).elim ff (fun q => joinF ff q.2 q.1 n)) j9))))] H := hP
  have hD : va_D A [(hC, .inr (7, [.ref h, .ref hG, .ref kS, .ref hY, .ref h5, .ref h6, .ref kD, .int (nI k)])), (h, .inr (0, [.int (nI n), .ref a, .ref b])), (a, .inl (cI, 24, .inl (fun j9 => nI (tf j9)))), (b, .inl (cI, 24, .inl (fun j9 => nI (((joinN n ff x y).elim ff (fun q => joinF ff q.2 q.1 n)) j9))))] := hD
  refine hr_eqi hrv ?_
  rw [← hQe]
  exact W.zret (ty := .boolean) (v := nI ((joinN n ff x y).elim 0 (fun _ => 1))) hx hb hr (hr_nz (by cases h9 : joinN n ff x y <;> simp)) (fun t ht hW => ⟨⟨_, (), rfl, rfl, by rw [ht]; exact hP, hD⟩, hS.F ht⟩) hS.2.2 dSR_join_9

set_option maxHeartbeats 400000 in
set_option maxRecDepth 100000 in
/-- SR.mean -/
theorem c_SR_mean (l : Launch) (dC : Nat → ClassId) (dI : Nat → Nat → Nat) (cI cZ cG : ClassId) (hC : Nat) (h : Nat) (hG : Nat) (kS : Nat) (hY : Nat) (h5 : Nat) (h6 : Nat) (kD : Nat) (k : Nat) (a : Nat) (b : Nat) (n : Nat) (tf : Nat → Nat) (ff : Nat → Nat) (hn : n ≤ 24) (ht : ∀ j, j < n → tf j ≤ 100000) : Met l ySR_mean wsSR_mean ({ frames := 1, cells := 0, slots := 0, locals := 23 }) (va_Pc [.ref hC] (fun U => va_P (dC, dI) vwCl [(hC, .inr (7, [.ref h, .ref hG, .ref kS, .ref hY, .ref h5, .ref h6, .ref kD, .int (nI k)])), (h, .inr (0, [.int (nI n), .ref a, .ref b])), (a, .inl (cI, 24, .inl (fun j9 => nI (tf j9)))), (b, .inl (cI, 24, .inl (fun j9 => nI (ff j9))))] U.heap ∧ KX dC dI cI cZ cG U)) (vp_Si (fun r => r = nI (meanN tf n))) 0 0 (fun _ => False) := by
  refine Met.ofW (cc := cSR_mean) (maxL := 1) (ret := (some .int)) (by decide) rfl ?_
  intro p e s m args below meth c s₁ B hml hv
  obtain ⟨rfl, hP, hKX⟩ := hv
  have hK := hKX.1
  have hx := B.exec
  have hb := B.bytes
  have hr := B.returns
  have hts := atoms_spec (ws := wsSR_mean) B.pre
  have hown : s.vm.findClass RSR = some m.cls := findClass_of_methodNamed B.named
  have hlocks := B.notSynchronized
  have hl := lv_entry ([.ref hC]) (n := 1) (Nat.le_of_ble_eq_true rfl)
  rw [lg_entry_eq]
  generalize (lg_sl ([.ref hC]) ++ List.replicate (1 - (lg_sl ([.ref hC])).length) Slot.unset).toArray = ls at hl ⊢
  have hl : lv_has ls 1 [(0, .ref hC)] := hl
  generalize hRe : (headSpec wsSR_mean ({ frames := 1, cells := 0, slots := 0, locals := 23 })).room = R
  have hRf : 1 ≤ R.frames := by rw [← hRe]; exact Nat.le_refl _
  have hRl : 23 ≤ R.locals := by rw [← hRe]; exact Nat.le_refl _
  have hRc : 0 ≤ R.cells := by rw [← hRe]; exact Nat.le_refl _
  have hRs : 0 ≤ R.slots := by rw [← hRe]; exact Nat.le_refl _
  generalize hargs : (List.toArray [.ref hC] : Array Value) = args at hts ⊢
  generalize hQe : MQ below _ args s _ _ _ = Q
  refine lv_aload_n hx hb dSR_mean_0 rfl (lv_at hl 0 rfl) ?_
  refine va_get (D := (dC, dI)) (ci := 7) (v := .ref h) (C := RSR) (T := TSR) (N := 8) hx hb hts (fun w h => List.mem_cons_of_mem _ (inSR w h)) hown hK hP 0 rfl rfl 0 (by decide) (hts _ (List.mem_cons_of_mem _ kw_224)) (fun _ h9 => h9) rfl dSR_mean_1 ?_
  refine vp_callSi (va_runV (C := RTR) (As := []) (rest := []) ⟨hx, hb, hml, hown, hts⟩ (c_TR_mean l dC dI cI cZ cG h a b n tf ff (hn) (ht)) (hr_cwV 0 hts kw_291 kw_292 kw_293 kw_25 kw_294 (by decide +kernel) (by rw [← hRe]; exact ⟨Nat.le_of_ble_eq_true rfl, Nat.le_of_ble_eq_true rfl⟩)) (hr_preR hKX hP [1, 2, 3] rfl (ci := 0) (q0 := 1) (q := (RTR, TTR, 3)) rfl rfl) rfl rfl hl.1 rfl (lv_room (Nat.le_of_ble_eq_true rfl)) dSR_mean_4 ⟨by omega, by omega⟩).run (fun rv hrv => ?_)
  refine hr_eqi hrv ?_
  rw [← hQe]
  exact W.iret (v := nI (meanN tf n)) hx hb hr (fun t ht hW => ⟨_, rfl, rfl, by rw [ht]⟩) (fun q h => by cases h) dSR_mean_7

set_option maxHeartbeats 400000 in
set_option maxRecDepth 100000 in
/-- SR.groups -/
theorem c_SR_groups (l : Launch) (dC : Nat → ClassId) (dI : Nat → Nat → Nat) (cI cZ cG : ClassId) (hC : Nat) (h : Nat) (hG : Nat) (kS : Nat) (hY : Nat) (h5 : Nat) (h6 : Nat) (kD : Nat) (k : Nat) (a : Nat) (b : Nat) (n : Nat) (tf : Nat → Nat) (ff : Nat → Nat) (hn : n ≤ 24) (hf : ∀ j, j < n → ff j ≤ j) : Met l ySR_groups wsSR_groups ({ frames := 1, cells := 0, slots := 0, locals := 22 }) (va_Pc [.ref hC] (fun U => va_P (dC, dI) vwCl [(hC, .inr (7, [.ref h, .ref hG, .ref kS, .ref hY, .ref h5, .ref h6, .ref kD, .int (nI k)])), (h, .inr (0, [.int (nI n), .ref a, .ref b])), (a, .inl (cI, 24, .inl (fun j9 => nI (tf j9)))), (b, .inl (cI, 24, .inl (fun j9 => nI (ff j9))))] U.heap ∧ KX dC dI cI cZ cG U)) (vp_Si (fun r => r = nI (grpN ff n))) 0 0 (fun _ => False) := by
  refine Met.ofW (cc := cSR_groups) (maxL := 1) (ret := (some .int)) (by decide) rfl ?_
  intro p e s m args below meth c s₁ B hml hv
  obtain ⟨rfl, hP, hKX⟩ := hv
  have hK := hKX.1
  have hx := B.exec
  have hb := B.bytes
  have hr := B.returns
  have hts := atoms_spec (ws := wsSR_groups) B.pre
  have hown : s.vm.findClass RSR = some m.cls := findClass_of_methodNamed B.named
  have hlocks := B.notSynchronized
  have hl := lv_entry ([.ref hC]) (n := 1) (Nat.le_of_ble_eq_true rfl)
  rw [lg_entry_eq]
  generalize (lg_sl ([.ref hC]) ++ List.replicate (1 - (lg_sl ([.ref hC])).length) Slot.unset).toArray = ls at hl ⊢
  have hl : lv_has ls 1 [(0, .ref hC)] := hl
  generalize hRe : (headSpec wsSR_groups ({ frames := 1, cells := 0, slots := 0, locals := 22 })).room = R
  have hRf : 1 ≤ R.frames := by rw [← hRe]; exact Nat.le_refl _
  have hRl : 22 ≤ R.locals := by rw [← hRe]; exact Nat.le_refl _
  have hRc : 0 ≤ R.cells := by rw [← hRe]; exact Nat.le_refl _
  have hRs : 0 ≤ R.slots := by rw [← hRe]; exact Nat.le_refl _
  generalize hargs : (List.toArray [.ref hC] : Array Value) = args at hts ⊢
  generalize hQe : MQ below _ args s _ _ _ = Q
  refine lv_aload_n hx hb dSR_groups_0 rfl (lv_at hl 0 rfl) ?_
  refine va_get (D := (dC, dI)) (ci := 7) (v := .ref h) (C := RSR) (T := TSR) (N := 8) hx hb hts (fun w h => List.mem_cons_of_mem _ (inSR w h)) hown hK hP 0 rfl rfl 0 (by decide) (hts _ (List.mem_cons_of_mem _ kw_224)) (fun _ h9 => h9) rfl dSR_groups_1 ?_
  refine vp_callSi (va_runV (C := RTR) (As := []) (rest := []) ⟨hx, hb, hml, hown, hts⟩ (c_TR_groups l dC dI cI cZ cG h a b n tf ff (hn) (hf)) (hr_cwV 0 hts kw_299 kw_300 kw_301 kw_25 kw_302 (by decide +kernel) (by rw [← hRe]; exact ⟨Nat.le_of_ble_eq_true rfl, Nat.le_of_ble_eq_true rfl⟩)) (hr_preR hKX hP [1, 2, 3] rfl (ci := 0) (q0 := 1) (q := (RTR, TTR, 3)) rfl rfl) rfl rfl hl.1 rfl (lv_room (Nat.le_of_ble_eq_true rfl)) dSR_groups_4 ⟨by omega, by omega⟩).run (fun rv hrv => ?_)
  refine hr_eqi hrv ?_
  rw [← hQe]
  exact W.iret (v := nI (grpN ff n)) hx hb hr (fun t ht hW => ⟨_, rfl, rfl, by rw [ht]⟩) (fun q h => by cases h) dSR_groups_7

set_option maxHeartbeats 400000 in
set_option maxRecDepth 100000 in
/-- SR.shard -/
theorem c_SR_shard (l : Launch) (dC : Nat → ClassId) (dI : Nat → Nat → Nat) (cI cZ cG : ClassId) (hC : Nat) (h : Nat) (hG : Nat) (kS : Nat) (hY : Nat) (h5 : Nat) (h6 : Nat) (kD : Nat) (k : Nat) (a5 : Nat) (b5 : Nat) (d5 : Nat) (sc : Nat) (mv : Nat) (s5 : Nat → Nat) (zs : Nat → Nat) (sf : Nat → Option Nat) (x : Int32) : Met l ySR_shard wsSR_shard ({ frames := 2, cells := 0, slots := 0, locals := 41 }) (va_Pc [.ref hC, .int x] (fun U => va_P (dC, dI) vwCl [(hC, .inr (7, [.ref h, .ref hG, .ref kS, .ref hY, .ref h5, .ref h6, .ref kD, .int (nI k)])), (h5, .inr (5, [.int (nI sc), .int (nI mv), .ref a5, .ref b5, .ref d5])), (a5, .inl (cI, 4, .inl (fun j9 => nI (s5 j9)))), (b5, .inl (cI, 4, .inl (fun j9 => nI (zs j9)))), (d5, .inl (cI, 24, .inl (fun j9 => oI (sf j9))))] U.heap ∧ KX dC dI cI cZ cG U)) (vp_Si (fun r => r = oI (shA sf x))) 0 0 (fun _ => False) := by
  refine Met.ofW (cc := cSR_shard) (maxL := 2) (ret := (some .int)) (by decide) rfl ?_
  intro p e s m args below meth c s₁ B hml hv
  obtain ⟨rfl, hP, hKX⟩ := hv
  have hK := hKX.1
  have hx := B.exec
  have hb := B.bytes
  have hr := B.returns
  have hts := atoms_spec (ws := wsSR_shard) B.pre
  have hown : s.vm.findClass RSR = some m.cls := findClass_of_methodNamed B.named
  have hlocks := B.notSynchronized
  have hl := lv_entry ([.ref hC, .int x]) (n := 2) (Nat.le_of_ble_eq_true rfl)
  rw [lg_entry_eq]
  generalize (lg_sl ([.ref hC, .int x]) ++ List.replicate (2 - (lg_sl ([.ref hC, .int x])).length) Slot.unset).toArray = ls at hl ⊢
  have hl : lv_has ls 2 [(0, .ref hC), (1, .int x)] := hl
  generalize hRe : (headSpec wsSR_shard ({ frames := 2, cells := 0, slots := 0, locals := 41 })).room = R
  have hRf : 2 ≤ R.frames := by rw [← hRe]; exact Nat.le_refl _
  have hRl : 41 ≤ R.locals := by rw [← hRe]; exact Nat.le_refl _
  have hRc : 0 ≤ R.cells := by rw [← hRe]; exact Nat.le_refl _
  have hRs : 0 ≤ R.slots := by rw [← hRe]; exact Nat.le_refl _
  generalize hargs : (List.toArray [.ref hC, .int x] : Array Value) = args at hts ⊢
  generalize hQe : MQ below _ args s _ _ _ = Q
  refine lv_aload_n hx hb dSR_shard_0 rfl (lv_at hl 0 rfl) ?_
  refine va_get (D := (dC, dI)) (ci := 7) (v := .ref h5) (C := RSR) (T := TSR) (N := 8) hx hb hts (fun w h => List.mem_cons_of_mem _ (inSR w h)) hown hK hP 0 rfl rfl 4 (by decide) (hts _ (List.mem_cons_of_mem _ kw_228)) (fun _ h9 => h9) rfl dSR_shard_1 ?_
  refine lv_iload_n hx hb dSR_shard_4 rfl (lv_at hl 1 rfl) ?_
  refine vp_callSi (va_runV (C := RSP) (As := [.int x]) (rest := []) ⟨hx, hb, hml, hown, hts⟩ (c_SP_shardAt l dC dI cI cZ cG h5 a5 b5 d5 sc mv s5 zs sf x) (hr_cwV 1 hts kw_408 kw_334 kw_335 kw_29 kw_336 (by decide +kernel) (by rw [← hRe]; exact ⟨Nat.le_of_ble_eq_true rfl, Nat.le_of_ble_eq_true rfl⟩)) (hr_preR hKX hP [1, 2, 3, 4] rfl (ci := 5) (q0 := 1) (q := (RSP, TSP, 5)) rfl rfl) rfl rfl hl.1 rfl (lv_room (Nat.le_of_ble_eq_true rfl)) dSR_shard_5 ⟨by omega, by omega⟩).run (fun rv hrv => ?_)
  refine hr_eqi hrv ?_
  rw [← hQe]
  exact W.iret (v := oI (shA sf x)) hx hb hr (fun t ht hW => ⟨_, rfl, rfl, by rw [ht]⟩) (fun q h => by cases h) dSR_shard_8

set_option maxHeartbeats 400000 in
set_option maxRecDepth 100000 in
/-- SR.drawn -/
theorem c_SR_drawn (l : Launch) (dC : Nat → ClassId) (dI : Nat → Nat → Nat) (cI cZ cG : ClassId) (hC : Nat) (h : Nat) (hG : Nat) (kS : Nat) (hY : Nat) (h5 : Nat) (h6 : Nat) (kD : Nat) (k : Nat) (aD : Nat) (dn : Nat) (wr : Nat → Nat) (x : Int32) (hdn : dn ≤ 24) : Met l ySR_drawn wsSR_drawn ({ frames := 1, cells := 0, slots := 0, locals := 21 }) (va_Pc [.ref hC, .int x] (fun U => va_P (dC, dI) vwCl [(hC, .inr (7, [.ref h, .ref hG, .ref kS, .ref hY, .ref h5, .ref h6, .ref kD, .int (nI k)])), (kD, .inr (2, [.int (nI dn), .ref aD])), (aD, .inl (cI, 24, .inl (fun j9 => nI (wr j9))))] U.heap ∧ KX dC dI cI cZ cG U)) (vp_Si (fun r => r = oI (rowA dn wr x))) 0 0 (fun _ => False) := by
  refine Met.ofW (cc := cSR_drawn) (maxL := 2) (ret := (some .int)) (by decide) rfl ?_
  intro p e s m args below meth c s₁ B hml hv
  obtain ⟨rfl, hP, hKX⟩ := hv
  have hK := hKX.1
  have hx := B.exec
  have hb := B.bytes
  have hr := B.returns
  have hts := atoms_spec (ws := wsSR_drawn) B.pre
  have hown : s.vm.findClass RSR = some m.cls := findClass_of_methodNamed B.named
  have hlocks := B.notSynchronized
  have hl := lv_entry ([.ref hC, .int x]) (n := 2) (Nat.le_of_ble_eq_true rfl)
  rw [lg_entry_eq]
  generalize (lg_sl ([.ref hC, .int x]) ++ List.replicate (2 - (lg_sl ([.ref hC, .int x])).length) Slot.unset).toArray = ls at hl ⊢
  have hl : lv_has ls 2 [(0, .ref hC), (1, .int x)] := hl
  generalize hRe : (headSpec wsSR_drawn ({ frames := 1, cells := 0, slots := 0, locals := 21 })).room = R
  have hRf : 1 ≤ R.frames := by rw [← hRe]; exact Nat.le_refl _
  have hRl : 21 ≤ R.locals := by rw [← hRe]; exact Nat.le_refl _
  have hRc : 0 ≤ R.cells := by rw [← hRe]; exact Nat.le_refl _
  have hRs : 0 ≤ R.slots := by rw [← hRe]; exact Nat.le_refl _
  generalize hargs : (List.toArray [.ref hC, .int x] : Array Value) = args at hts ⊢
  generalize hQe : MQ below _ args s _ _ _ = Q
  refine lv_aload_n hx hb dSR_drawn_0 rfl (lv_at hl 0 rfl) ?_
  refine va_get (D := (dC, dI)) (ci := 7) (v := .ref kD) (C := RSR) (T := TSR) (N := 8) hx hb hts (fun w h => List.mem_cons_of_mem _ (inSR w h)) hown hK hP 0 rfl rfl 6 (by decide) (hts _ (List.mem_cons_of_mem _ kw_230)) (fun _ h9 => h9) rfl dSR_drawn_1 ?_
  refine lv_iload_n hx hb dSR_drawn_4 rfl (lv_at hl 1 rfl) ?_
  refine vp_callSi (va_runV (C := RDR) (As := [.int x]) (rest := []) ⟨hx, hb, hml, hown, hts⟩ (c_DR_at l dC dI cI cZ cG kD aD dn wr x (hdn)) (hr_cwV 1 hts kw_441 kw_442 kw_443 kw_32 kw_444 (by decide +kernel) (by rw [← hRe]; exact ⟨Nat.le_of_ble_eq_true rfl, Nat.le_of_ble_eq_true rfl⟩)) (hr_preR hKX hP [1, 2] rfl (ci := 2) (q0 := 1) (q := (RDR, TDR, 2)) rfl rfl) rfl rfl hl.1 rfl (lv_room (Nat.le_of_ble_eq_true rfl)) dSR_drawn_5 ⟨by omega, by omega⟩).run (fun rv hrv => ?_)
  refine hr_eqi hrv ?_
  rw [← hQe]
  exact W.iret (v := oI (rowA dn wr x)) hx hb hr (fun t ht hW => ⟨_, rfl, rfl, by rw [ht]⟩) (fun q h => by cases h) dSR_drawn_8

set_option maxHeartbeats 400000 in
set_option maxRecDepth 100000 in
/-- SR.again -/
theorem c_SR_again (l : Launch) (dC : Nat → ClassId) (dI : Nat → Nat → Nat) (cI cZ cG : ClassId) (hC : Nat) (h : Nat) (hG : Nat) (kS : Nat) (hY : Nat) (h5 : Nat) (h6 : Nat) (kD : Nat) (k : Nat) (a6 : Nat) (b6 : Nat) (d6 : Nat) (sg : Nat) (pr : Nat → Nat) (vs : Nat → Int32) (tc : Nat → Nat) (x : Int32) (sz : Nat) (hpr : ∀ j, j < 24 → pr j < 2) : Met l ySR_again wsSR_again ({ frames := 4, cells := 0, slots := 0, locals := 83 }) (va_Pc [.ref hC, .int x] (fun U => U.heap.size = sz ∧ va_P (dC, dI) vwCl [(hC, .inr (7, [.ref h, .ref hG, .ref kS, .ref hY, .ref h5, .ref h6, .ref kD, .int (nI k)])), (h6, .inr (3, [.int (nI sg), .ref a6, .ref b6, .ref d6])), (a6, .inl (cZ, 24, .inl (fun j9 => nI (pr j9)))), (b6, .inl (cI, 24, .inl vs)), (d6, .inl (cI, 24, .inl (fun j9 => nI (tc j9))))] U.heap ∧ KX dC dI cI cZ cG U ∧ va_D (fun _ => True) [(hC, .inr (7, [.ref h, .ref hG, .ref kS, .ref hY, .ref h5, .ref h6, .ref kD, .int (nI k)])), (h6, .inr (3, [.int (nI sg), .ref a6, .ref b6, .ref d6])), (a6, .inl (cZ, 24, .inl (fun j9 => nI (pr j9)))), (b6, .inl (cI, 24, .inl vs)), (d6, .inl (cI, 24, .inl (fun j9 => nI (tc j9))))])) (va_Qi (fun (r : Int32) (u : Unit) => r = nI ((dropN pr vs x).elim 0 (fun _ => 1))) (fun u t => va_P (dC, dI) vwCl [(hC, .inr (7, [.ref h, .ref hG, .ref kS, .ref hY, .ref h5, .ref h6, .ref kD, .int (nI k)])), (h6, .inr (3, [.int (nI sg), .ref a6, .ref b6, .ref d6])), (a6, .inl (cZ, 24, .inl (fun j9 => nI (((dropN pr vs x).elim pr (fun j => va_up pr j 0)) j9)))), (b6, .inl (cI, 24, .inl vs)), (d6, .inl (cI, 24, .inl (fun j9 => nI (tc j9))))] t.heap ∧ va_D (va_A [(hC, .inr (7, [.ref h, .ref hG, .ref kS, .ref hY, .ref h5, .ref h6, .ref kD, .int (nI k)])), (h6, .inr (3, [.int (nI sg), .ref a6, .ref b6, .ref d6])), (a6, .inl (cZ, 24, .inl (fun j9 => nI (pr j9)))), (b6, .inl (cI, 24, .inl vs)), (d6, .inl (cI, 24, .inl (fun j9 => nI (tc j9))))] sz) [(hC, .inr (7, [.ref h, .ref hG, .ref kS, .ref hY, .ref h5, .ref h6, .ref kD, .int (nI k)])), (h6, .inr (3, [.int (nI sg), .ref a6, .ref b6, .ref d6])), (a6, .inl (cZ, 24, .inl (fun j9 => nI (((dropN pr vs x).elim pr (fun j => va_up pr j 0)) j9)))), (b6, .inl (cI, 24, .inl vs)), (d6, .inl (cI, 24, .inl (fun j9 => nI (tc j9))))]) (va_A [(hC, .inr (7, [.ref h, .ref hG, .ref kS, .ref hY, .ref h5, .ref h6, .ref kD, .int (nI k)])), (h6, .inr (3, [.int (nI sg), .ref a6, .ref b6, .ref d6])), (a6, .inl (cZ, 24, .inl (fun j9 => nI (pr j9)))), (b6, .inl (cI, 24, .inl vs)), (d6, .inl (cI, 24, .inl (fun j9 => nI (tc j9))))] sz)) 0 0 (va_A [(hC, .inr (7, [.ref h, .ref hG, .ref kS, .ref hY, .ref h5, .ref h6, .ref kD, .int (nI k)])), (h6, .inr (3, [.int (nI sg), .ref a6, .ref b6, .ref d6])), (a6, .inl (cZ, 24, .inl (fun j9 => nI (pr j9)))), (b6, .inl (cI, 24, .inl vs)), (d6, .inl (cI, 24, .inl (fun j9 => nI (tc j9))))] sz) := by
  refine Met.ofW (cc := cSR_again) (maxL := 2) (ret := (some .boolean)) (by decide) rfl ?_
  intro p e s m args below meth c s₁ B hml hv
  obtain ⟨rfl, hsz, hP, hKX, hD0⟩ := hv
  have hK := hKX.1
  have hx := B.exec
  have hb := B.bytes
  have hr := B.returns
  have hts := atoms_spec (ws := wsSR_again) B.pre
  have hown : s.vm.findClass RSR = some m.cls := findClass_of_methodNamed B.named
  have hlocks := B.notSynchronized
  subst hsz
  have hD := hD0.self (sz := s.heap.size)
  generalize hAe : va_A [(hC, .inr (7, [.ref h, .ref hG, .ref kS, .ref hY, .ref h5, .ref h6, .ref kD, .int (nI k)])), (h6, .inr (3, [.int (nI sg), .ref a6, .ref b6, .ref d6])), (a6, .inl (cZ, 24, .inl (fun j9 => nI (pr j9)))), (b6, .inl (cI, 24, .inl vs)), (d6, .inl (cI, 24, .inl (fun j9 => nI (tc j9))))] s.heap.size = A at hD ⊢
  have hA : ∀ q : Nat, s.heap.size ≤ q → A q := fun q h => by rw [← hAe]; exact Or.inr h
  have hS : va_S A s.heap s.heap [] := va_S.rf
  have hl := lv_entry ([.ref hC, .int x]) (n := 2) (Nat.le_of_ble_eq_true rfl)
  rw [lg_entry_eq]
  generalize (lg_sl ([.ref hC, .int x]) ++ List.replicate (2 - (lg_sl ([.ref hC, .int x])).length) Slot.unset).toArray = ls at hl ⊢
  have hl : lv_has ls 2 [(0, .ref hC), (1, .int x)] := hl
  generalize hRe : (headSpec wsSR_again ({ frames := 4, cells := 0, slots := 0, locals := 83 })).room = R
  have hRf : 4 ≤ R.frames := by rw [← hRe]; exact Nat.le_refl _
  have hRl : 83 ≤ R.locals := by rw [← hRe]; exact Nat.le_refl _
  have hRc : 0 ≤ R.cells := by rw [← hRe]; exact Nat.le_refl _
  have hRs : 0 ≤ R.slots := by rw [← hRe]; exact Nat.le_refl _
  generalize hargs : (List.toArray [.ref hC, .int x] : Array Value) = args at hts ⊢
  generalize hQe : MQ below _ args s _ _ _ = Q
  refine lv_aload_n hx hb dSR_again_0 rfl (lv_at hl 0 rfl) ?_
  refine va_get (D := (dC, dI)) (ci := 7) (v := .ref h6) (C := RSR) (T := TSR) (N := 8) hx hb hts (fun w h => List.mem_cons_of_mem _ (inSR w h)) hown hK hP 0 rfl rfl 5 (by decide) (hts _ (List.mem_cons_of_mem _ kw_229)) (fun _ h9 => h9) rfl dSR_again_1 ?_
  refine lv_iload_n hx hb dSR_again_4 rfl (lv_at hl 1 rfl) ?_
  refine hr_calli (wr := [(hC, .inr (7, [.ref h, .ref hG, .ref kS, .ref hY, .ref h5, .ref h6, .ref kD, .int (nI k)]))]) (va_runV (C := RRR) (As := [.int x]) (rest := []) ⟨hx, hb, hml, hown, hts⟩ (c_RR_dropBad l dC dI cI cZ cG h6 a6 b6 d6 sg pr vs tc x s.heap.size (hpr)) (hr_cwV 1 hts kw_458 kw_459 kw_460 kw_31 kw_461 (by decide +kernel) (by rw [← hRe]; exact ⟨Nat.le_of_ble_eq_true rfl, Nat.le_of_ble_eq_true rfl⟩)) (hr_preW hKX hP hD [1, 2, 3, 4] (by decide) rfl (ci := 3) (q0 := 1) (q := (RRR, TRR, 4)) rfl rfl) rfl rfl hl.1 rfl (lv_room (Nat.le_of_ble_eq_true rfl)) dSR_again_5 ⟨by omega, by omega⟩) hP hD hS hA [1, 2, 3, 4] [0] rfl rfl (by decide) (by decide) [0, 1, 2, 3, 4] (fun u => [(hC, .inr (7, [.ref h, .ref hG, .ref kS, .ref hY, .ref h5, .ref h6, .ref kD, .int (nI k)])), (h6, .inr (3, [.int (nI sg), .ref a6, .ref b6, .ref d6])), (a6, .inl (cZ, 24, .inl (fun j9 => nI (((dropN pr vs x).elim pr (fun j => va_up pr j 0)) j9)))), (b6, .inl (cI, 24, .inl vs)), (d6, .inl (cI, 24, .inl (fun j9 => nI (tc j9))))]) (by decide) (fun u => rfl) (fun rv u H locs hrv hP hD hS => ?_)
  have hP : va_P (dC, dI) vwCl [(hC, .inr (7, [.ref h, .ref hG, .ref kS, .ref hY, .ref h5, .ref h6, .ref kD, .int (nI k)])), (h6, .inr (3, [.int (nI sg), .ref a6, .ref b6, .ref d6])), (a6, .inl (cZ, 24, .inl (fun j9 => nI (((dropN pr vs x).elim pr (fun j => va_up pr j 0)) j9)))), (b6, .inl (cI, 24, .inl vs)), (d6, .inl (cI, 24, .inl (fun j9 => nI (tc j9))))] H := hP
  have hD : va_D A [(hC, .inr (7, [.ref h, .ref hG, .ref kS, .ref hY, .ref h5, .ref h6, .ref kD, .int (nI k)])), (h6, .inr (3, [.int (nI sg), .ref a6, .ref b6, .ref d6])), (a6, .inl (cZ, 24, .inl (fun j9 => nI (((dropN pr vs x).elim pr (fun j => va_up pr j 0)) j9)))), (b6, .inl (cI, 24, .inl vs)), (d6, .inl (cI, 24, .inl (fun j9 => nI (tc j9))))] := hD
  refine hr_eqi hrv ?_
  rw [← hQe]
  exact W.zret (ty := .boolean) (v := nI ((dropN pr vs x).elim 0 (fun _ => 1))) hx hb hr (hr_nz (by cases h9 : dropN pr vs x <;> simp)) (fun t ht hW => ⟨⟨_, (), rfl, rfl, by rw [ht]; exact hP, hD⟩, hS.F ht⟩) hS.2.2 dSR_again_8

set_option maxHeartbeats 400000 in
set_option maxRecDepth 100000 in
/-- SR.tries -/
theorem c_SR_tries (l : Launch) (dC : Nat → ClassId) (dI : Nat → Nat → Nat) (cI cZ cG : ClassId) (hC : Nat) (h : Nat) (hG : Nat) (kS : Nat) (hY : Nat) (h5 : Nat) (h6 : Nat) (kD : Nat) (k : Nat) (a6 : Nat) (b6 : Nat) (d6 : Nat) (sg : Nat) (pr : Nat → Nat) (vs : Nat → Int32) (tc : Nat → Nat) (x : Int32) : Met l ySR_tries wsSR_tries ({ frames := 2, cells := 0, slots := 0, locals := 41 }) (va_Pc [.ref hC, .int x] (fun U => va_P (dC, dI) vwCl [(hC, .inr (7, [.ref h, .ref hG, .ref kS, .ref hY, .ref h5, .ref h6, .ref kD, .int (nI k)])), (h6, .inr (3, [.int (nI sg), .ref a6, .ref b6, .ref d6])), (a6, .inl (cZ, 24, .inl (fun j9 => nI (pr j9)))), (b6, .inl (cI, 24, .inl vs)), (d6, .inl (cI, 24, .inl (fun j9 => nI (tc j9))))] U.heap ∧ KX dC dI cI cZ cG U)) (vp_Si (fun r => r = nI (hasB tc x))) 0 0 (fun _ => False) := by
  refine Met.ofW (cc := cSR_tries) (maxL := 2) (ret := (some .int)) (by decide) rfl ?_
  intro p e s m args below meth c s₁ B hml hv
  obtain ⟨rfl, hP, hKX⟩ := hv
  have hK := hKX.1
  have hx := B.exec
  have hb := B.bytes
  have hr := B.returns
  have hts := atoms_spec (ws := wsSR_tries) B.pre
  have hown : s.vm.findClass RSR = some m.cls := findClass_of_methodNamed B.named
  have hlocks := B.notSynchronized
  have hl := lv_entry ([.ref hC, .int x]) (n := 2) (Nat.le_of_ble_eq_true rfl)
  rw [lg_entry_eq]
  generalize (lg_sl ([.ref hC, .int x]) ++ List.replicate (2 - (lg_sl ([.ref hC, .int x])).length) Slot.unset).toArray = ls at hl ⊢
  have hl : lv_has ls 2 [(0, .ref hC), (1, .int x)] := hl
  generalize hRe : (headSpec wsSR_tries ({ frames := 2, cells := 0, slots := 0, locals := 41 })).room = R
  have hRf : 2 ≤ R.frames := by rw [← hRe]; exact Nat.le_refl _
  have hRl : 41 ≤ R.locals := by rw [← hRe]; exact Nat.le_refl _
  have hRc : 0 ≤ R.cells := by rw [← hRe]; exact Nat.le_refl _
  have hRs : 0 ≤ R.slots := by rw [← hRe]; exact Nat.le_refl _
  generalize hargs : (List.toArray [.ref hC, .int x] : Array Value) = args at hts ⊢
  generalize hQe : MQ below _ args s _ _ _ = Q
  refine lv_aload_n hx hb dSR_tries_0 rfl (lv_at hl 0 rfl) ?_
  refine va_get (D := (dC, dI)) (ci := 7) (v := .ref h6) (C := RSR) (T := TSR) (N := 8) hx hb hts (fun w h => List.mem_cons_of_mem _ (inSR w h)) hown hK hP 0 rfl rfl 5 (by decide) (hts _ (List.mem_cons_of_mem _ kw_229)) (fun _ h9 => h9) rfl dSR_tries_1 ?_
  refine lv_iload_n hx hb dSR_tries_4 rfl (lv_at hl 1 rfl) ?_
  refine vp_callSi (va_runV (C := RRR) (As := [.int x]) (rest := []) ⟨hx, hb, hml, hown, hts⟩ (c_RR_triesOf l dC dI cI cZ cG h6 a6 b6 d6 sg pr vs tc x) (hr_cwV 1 hts kw_496 kw_497 kw_498 kw_31 kw_499 (by decide +kernel) (by rw [← hRe]; exact ⟨Nat.le_of_ble_eq_true rfl, Nat.le_of_ble_eq_true rfl⟩)) (hr_preR hKX hP [1, 2, 3, 4] rfl (ci := 3) (q0 := 1) (q := (RRR, TRR, 4)) rfl rfl) rfl rfl hl.1 rfl (lv_room (Nat.le_of_ble_eq_true rfl)) dSR_tries_5 ⟨by omega, by omega⟩).run (fun rv hrv => ?_)
  refine hr_eqi hrv ?_
  rw [← hQe]
  exact W.iret (v := nI (hasB tc x)) hx hb hr (fun t ht hW => ⟨_, rfl, rfl, by rw [ht]⟩) (fun q h => by cases h) dSR_tries_8

set_option maxHeartbeats 400000 in
set_option maxRecDepth 100000 in
/-- moved -/
theorem c_SR_moved (l : Launch) (dC : Nat → ClassId) (dI : Nat → Nat → Nat) (cI cZ cG : ClassId) (hC : Nat) (h : Nat) (hG : Nat) (kS : Nat) (hY : Nat) (h5 : Nat) (h6 : Nat) (kD : Nat) (k : Nat) (a5 : Nat) (b5 : Nat) (d5 : Nat) (sc : Nat) (mv : Nat) (s5 : Nat → Nat) (zs : Nat → Nat) (sf : Nat → Option Nat) : Met l ySR_moved wsSR_moved ({ frames := 0, cells := 0, slots := 0, locals := 0 }) (va_Pc [.ref hC] (fun U => va_P (dC, dI) vwCl [(hC, .inr (7, [.ref h, .ref hG, .ref kS, .ref hY, .ref h5, .ref h6, .ref kD, .int (nI k)])), (h5, .inr (5, [.int (nI sc), .int (nI mv), .ref a5, .ref b5, .ref d5])), (a5, .inl (cI, 4, .inl (fun j9 => nI (s5 j9)))), (b5, .inl (cI, 4, .inl (fun j9 => nI (zs j9)))), (d5, .inl (cI, 24, .inl (fun j9 => oI (sf j9))))] U.heap ∧ KX dC dI cI cZ cG U)) (vp_Si (fun r => r = nI mv)) 0 0 (fun _ => False) := by
  refine Met.ofW (cc := cSR_moved) (maxL := 1) (ret := (some .int)) (by decide) rfl ?_
  intro p e s m args below meth c s₁ B hml hv
  obtain ⟨rfl, hP, hKX⟩ := hv
  have hK := hKX.1
  have hx := B.exec
  have hb := B.bytes
  have hr := B.returns
  have hts := atoms_spec (ws := wsSR_moved) B.pre
  have hown : s.vm.findClass RSR = some m.cls := findClass_of_methodNamed B.named
  have hlocks := B.notSynchronized
  have hl := lv_entry ([.ref hC]) (n := 1) (Nat.le_of_ble_eq_true rfl)
  rw [lg_entry_eq]
  generalize (lg_sl ([.ref hC]) ++ List.replicate (1 - (lg_sl ([.ref hC])).length) Slot.unset).toArray = ls at hl ⊢
  have hl : lv_has ls 1 [(0, .ref hC)] := hl
  generalize hRe : (headSpec wsSR_moved ({ frames := 0, cells := 0, slots := 0, locals := 0 })).room = R
  have hRf : 0 ≤ R.frames := by rw [← hRe]; exact Nat.le_refl _
  have hRl : 0 ≤ R.locals := by rw [← hRe]; exact Nat.le_refl _
  have hRc : 0 ≤ R.cells := by rw [← hRe]; exact Nat.le_refl _
  have hRs : 0 ≤ R.slots := by rw [← hRe]; exact Nat.le_refl _
  generalize hargs : (List.toArray [.ref hC] : Array Value) = args at hts ⊢
  generalize hQe : MQ below _ args s _ _ _ = Q
  refine lv_aload_n hx hb dSR_moved_0 rfl (lv_at hl 0 rfl) ?_
  refine va_get (D := (dC, dI)) (ci := 7) (v := .ref h5) (C := RSR) (T := TSR) (N := 8) hx hb hts (fun w h => List.mem_cons_of_mem _ (inSR w h)) hown hK hP 0 rfl rfl 4 (by decide) (hts _ (List.mem_cons_of_mem _ kw_228)) (fun _ h9 => h9) rfl dSR_moved_1 ?_
  refine va_get (D := (dC, dI)) (ci := 5) (v := .int (nI mv)) (C := RSP) (T := TSP) (N := 5) hx hb hts (fun w h => List.mem_cons_of_mem _ (inSP w h)) hown hK hP 1 rfl rfl 1 (by decide) (hts _ (List.mem_cons_of_mem _ kw_172)) (fun _ h9 => h9) rfl dSR_moved_4 ?_
  rw [← hQe]
  exact W.iret (v := nI mv) hx hb hr (fun t ht hW => ⟨_, rfl, rfl, by rw [ht]⟩) (fun q h => by cases h) dSR_moved_7

set_option maxHeartbeats 400000 in
set_option maxRecDepth 100000 in
/-- strange -/
theorem c_SR_strange (l : Launch) (dC : Nat → ClassId) (dI : Nat → Nat → Nat) (cI cZ cG : ClassId) (hC : Nat) (h : Nat) (hG : Nat) (kS : Nat) (hY : Nat) (h5 : Nat) (h6 : Nat) (kD : Nat) (k : Nat) (a6 : Nat) (b6 : Nat) (d6 : Nat) (sg : Nat) (pr : Nat → Nat) (vs : Nat → Int32) (tc : Nat → Nat) : Met l ySR_strange wsSR_strange ({ frames := 0, cells := 0, slots := 0, locals := 0 }) (va_Pc [.ref hC] (fun U => va_P (dC, dI) vwCl [(hC, .inr (7, [.ref h, .ref hG, .ref kS, .ref hY, .ref h5, .ref h6, .ref kD, .int (nI k)])), (h6, .inr (3, [.int (nI sg), .ref a6, .ref b6, .ref d6])), (a6, .inl (cZ, 24, .inl (fun j9 => nI (pr j9)))), (b6, .inl (cI, 24, .inl vs)), (d6, .inl (cI, 24, .inl (fun j9 => nI (tc j9))))] U.heap ∧ KX dC dI cI cZ cG U)) (vp_Si (fun r => r = nI sg)) 0 0 (fun _ => False) := by
  refine Met.ofW (cc := cSR_strange) (maxL := 1) (ret := (some .int)) (by decide) rfl ?_
  intro p e s m args below meth c s₁ B hml hv
  obtain ⟨rfl, hP, hKX⟩ := hv
  have hK := hKX.1
  have hx := B.exec
  have hb := B.bytes
  have hr := B.returns
  have hts := atoms_spec (ws := wsSR_strange) B.pre
  have hown : s.vm.findClass RSR = some m.cls := findClass_of_methodNamed B.named
  have hlocks := B.notSynchronized
  have hl := lv_entry ([.ref hC]) (n := 1) (Nat.le_of_ble_eq_true rfl)
  rw [lg_entry_eq]
  generalize (lg_sl ([.ref hC]) ++ List.replicate (1 - (lg_sl ([.ref hC])).length) Slot.unset).toArray = ls at hl ⊢
  have hl : lv_has ls 1 [(0, .ref hC)] := hl
  generalize hRe : (headSpec wsSR_strange ({ frames := 0, cells := 0, slots := 0, locals := 0 })).room = R
  have hRf : 0 ≤ R.frames := by rw [← hRe]; exact Nat.le_refl _
  have hRl : 0 ≤ R.locals := by rw [← hRe]; exact Nat.le_refl _
  have hRc : 0 ≤ R.cells := by rw [← hRe]; exact Nat.le_refl _
  have hRs : 0 ≤ R.slots := by rw [← hRe]; exact Nat.le_refl _
  generalize hargs : (List.toArray [.ref hC] : Array Value) = args at hts ⊢
  generalize hQe : MQ below _ args s _ _ _ = Q
  refine lv_aload_n hx hb dSR_strange_0 rfl (lv_at hl 0 rfl) ?_
  refine va_get (D := (dC, dI)) (ci := 7) (v := .ref h6) (C := RSR) (T := TSR) (N := 8) hx hb hts (fun w h => List.mem_cons_of_mem _ (inSR w h)) hown hK hP 0 rfl rfl 5 (by decide) (hts _ (List.mem_cons_of_mem _ kw_229)) (fun _ h9 => h9) rfl dSR_strange_1 ?_
  refine va_get (D := (dC, dI)) (ci := 3) (v := .int (nI sg)) (C := RRR) (T := TRR) (N := 4) hx hb hts (fun w h => List.mem_cons_of_mem _ (inRR w h)) hown hK hP 1 rfl rfl 0 (by decide) (hts _ (List.mem_cons_of_mem _ kw_196)) (fun _ h9 => h9) rfl dSR_strange_4 ?_
  rw [← hQe]
  exact W.iret (v := nI sg) hx hb hr (fun t ht hW => ⟨_, rfl, rfl, by rw [ht]⟩) (fun q h => by cases h) dSR_strange_7

set_option maxHeartbeats 400000 in
set_option maxRecDepth 100000 in
/-- shards -/
theorem c_SR_shards (l : Launch) (dC : Nat → ClassId) (dI : Nat → Nat → Nat) (cI cZ cG : ClassId) (hC : Nat) (h : Nat) (hG : Nat) (kS : Nat) (hY : Nat) (h5 : Nat) (h6 : Nat) (kD : Nat) (k : Nat) (x : Int32) (sz : Nat) : Met l ySR_shards wsSR_shards ({ frames := 0, cells := 0, slots := 0, locals := 0 }) (va_Pc [.ref hC, .int x] (fun U => U.heap.size = sz ∧ va_P (dC, dI) vwCl [(hC, .inr (7, [.ref h, .ref hG, .ref kS, .ref hY, .ref h5, .ref h6, .ref kD, .int (nI k)]))] U.heap ∧ KX dC dI cI cZ cG U ∧ va_D (fun _ => True) [(hC, .inr (7, [.ref h, .ref hG, .ref kS, .ref hY, .ref h5, .ref h6, .ref kD, .int (nI k)]))])) (va_Qi (fun (r : Int32) (u : Unit) => r = nI ((shkN x).elim 0 (fun _ => 1))) (fun u t => va_P (dC, dI) vwCl [(hC, .inr (7, [.ref h, .ref hG, .ref kS, .ref hY, .ref h5, .ref h6, .ref kD, .int (nI ((shkN x).elim k id))]))] t.heap ∧ va_D (va_A [(hC, .inr (7, [.ref h, .ref hG, .ref kS, .ref hY, .ref h5, .ref h6, .ref kD, .int (nI k)]))] sz) [(hC, .inr (7, [.ref h, .ref hG, .ref kS, .ref hY, .ref h5, .ref h6, .ref kD, .int (nI ((shkN x).elim k id))]))]) (va_A [(hC, .inr (7, [.ref h, .ref hG, .ref kS, .ref hY, .ref h5, .ref h6, .ref kD, .int (nI k)]))] sz)) 0 0 (va_A [(hC, .inr (7, [.ref h, .ref hG, .ref kS, .ref hY, .ref h5, .ref h6, .ref kD, .int (nI k)]))] sz) := by
  refine Met.ofW (cc := cSR_shards) (maxL := 2) (ret := (some .boolean)) (by decide) rfl ?_
  intro p e s m args below meth c s₁ B hml hv
  obtain ⟨rfl, hsz, hP, hKX, hD0⟩ := hv
  have hK := hKX.1
  have hx := B.exec
  have hb := B.bytes
  have hr := B.returns
  have hts := atoms_spec (ws := wsSR_shards) B.pre
  have hown : s.vm.findClass RSR = some m.cls := findClass_of_methodNamed B.named
  have hlocks := B.notSynchronized
  subst hsz
  have hD := hD0.self (sz := s.heap.size)
  generalize hAe : va_A [(hC, .inr (7, [.ref h, .ref hG, .ref kS, .ref hY, .ref h5, .ref h6, .ref kD, .int (nI k)]))] s.heap.size = A at hD ⊢
  have hA : ∀ q : Nat, s.heap.size ≤ q → A q := fun q h => by rw [← hAe]; exact Or.inr h
  have hS : va_S A s.heap s.heap [] := va_S.rf
  have hl := lv_entry ([.ref hC, .int x]) (n := 2) (Nat.le_of_ble_eq_true rfl)
  rw [lg_entry_eq]
  generalize (lg_sl ([.ref hC, .int x]) ++ List.replicate (2 - (lg_sl ([.ref hC, .int x])).length) Slot.unset).toArray = ls at hl ⊢
  have hl : lv_has ls 2 [(0, .ref hC), (1, .int x)] := hl
  generalize hRe : (headSpec wsSR_shards ({ frames := 0, cells := 0, slots := 0, locals := 0 })).room = R
  have hRf : 0 ≤ R.frames := by rw [← hRe]; exact Nat.le_refl _
  have hRl : 0 ≤ R.locals := by rw [← hRe]; exact Nat.le_refl _
  have hRc : 0 ≤ R.cells := by rw [← hRe]; exact Nat.le_refl _
  have hRs : 0 ≤ R.slots := by rw [← hRe]; exact Nat.le_refl _
  generalize hargs : (List.toArray [.ref hC, .int x] : Array Value) = args at hts ⊢
  generalize hQe : MQ below _ args s _ _ _ = Q
  refine lv_iload_n hx hb dSR_shards_0 rfl (lv_at hl 1 rfl) ?_
  refine lv_iconst (v := nI 1) hx hb dSR_shards_1 (by decide +kernel) ?_
  refine lv_icmp_lt (tgt := 10) hx hb dSR_shards_2 (by decide) (fun c_1 => ?_) (fun c_1 => ?_)
  · refine lv_iconst (v := nI 0) hx hb dSR_shards_10 (by decide +kernel) ?_
    have ez : shkN x = none := by simp [shkN, c_1]
    rw [← hQe]
    exact W.zret (ty := .boolean) (v := nI 0) hx hb hr (by decide +kernel) (fun t ht hW => ⟨⟨_, (), rfl, by rw [ez]; rfl, by rw [ht, ez]; exact hP, by rw [ez]; exact hD⟩, hS.F ht⟩) hS.2.2 dSR_shards_11
  · refine lv_iload_n hx hb dSR_shards_5 rfl (lv_at hl 1 rfl) ?_
    refine lv_iconst (v := nI 4) hx hb dSR_shards_6 (by decide +kernel) ?_
    refine lv_icmp_le (tgt := 12) hx hb dSR_shards_7 (by decide) (fun c_2 => ?_) (fun c_2 => ?_)
    · obtain ⟨q, hq1, hq4, rfl⟩ := shk_ok c_1 c_2
      refine lv_aload_n hx hb dSR_shards_12 rfl (lv_at hl 0 rfl) ?_
      refine lv_iload_n hx hb dSR_shards_13 rfl (lv_at hl 1 rfl) ?_
      refine va_put (D := (dC, dI)) (ci := 7) (v := .int (nI q)) (ty := .int) (C := RSR) (T := TSR) (N := 8) hx hb hts (fun w h => List.mem_cons_of_mem _ (inSR w h)) tySR tySR_ok nmSR hown hK hP hD hS 0 rfl rfl 7 (by decide) (hts _ (List.mem_cons_of_mem _ kw_231)) (fun _ h9 => h9) rfl (by decide +kernel) rfl rfl (Nat.le_of_ble_eq_true rfl) dSR_shards_14 (fun H locs hP hD hS => ?_)
      have hP : va_P (dC, dI) vwCl [(hC, .inr (7, [.ref h, .ref hG, .ref kS, .ref hY, .ref h5, .ref h6, .ref kD, .int (nI q)]))] H := hP
      have hD : va_D A [(hC, .inr (7, [.ref h, .ref hG, .ref kS, .ref hY, .ref h5, .ref h6, .ref kD, .int (nI q)]))] := hD
      refine lv_iconst (v := nI 1) hx hb dSR_shards_17 (by decide +kernel) ?_
      have ez : shkN (nI q) = some q := by simp [shkN, c_1, c_2, nI_clamp (show q < 2 ^ 31 by omega)]
      rw [← hQe]
      exact W.zret (ty := .boolean) (v := nI 1) hx hb hr (by decide +kernel) (fun t ht hW => ⟨⟨_, (), rfl, by rw [ez]; rfl, by rw [ht, ez]; exact hP, by rw [ez]; exact hD⟩, hS.F ht⟩) hS.2.2 dSR_shards_18
    · refine lv_iconst (v := nI 0) hx hb dSR_shards_10 (by decide +kernel) ?_
      have ez : shkN x = none := by simp [shkN, c_1, c_2]
      rw [← hQe]
      exact W.zret (ty := .boolean) (v := nI 0) hx hb hr (by decide +kernel) (fun t ht hW => ⟨⟨_, (), rfl, by rw [ez]; rfl, by rw [ht, ez]; exact hP, by rw [ez]; exact hD⟩, hS.F ht⟩) hS.2.2 dSR_shards_11

set_option maxHeartbeats 400000 in
set_option maxRecDepth 100000 in
/-- sum -/
theorem c_SR_sum (l : Launch) (dC : Nat → ClassId) (dI : Nat → Nat → Nat) (cI cZ cG : ClassId) (hC : Nat) (h : Nat) (hG : Nat) (kS : Nat) (hY : Nat) (h5 : Nat) (h6 : Nat) (kD : Nat) (k : Nat) (a5 : Nat) (b5 : Nat) (d5 : Nat) (sc : Nat) (mv : Nat) (s5 : Nat → Nat) (zs : Nat → Nat) (sf : Nat → Option Nat) (x : Int32) (hsc : sc ≤ 4) : Met l ySR_sum wsSR_sum ({ frames := 1, cells := 0, slots := 0, locals := 21 }) (va_Pc [.ref hC, .int x] (fun U => va_P (dC, dI) vwCl [(hC, .inr (7, [.ref h, .ref hG, .ref kS, .ref hY, .ref h5, .ref h6, .ref kD, .int (nI k)])), (h5, .inr (5, [.int (nI sc), .int (nI mv), .ref a5, .ref b5, .ref d5])), (a5, .inl (cI, 4, .inl (fun j9 => nI (s5 j9)))), (b5, .inl (cI, 4, .inl (fun j9 => nI (zs j9)))), (d5, .inl (cI, 24, .inl (fun j9 => oI (sf j9))))] U.heap ∧ KX dC dI cI cZ cG U)) (vp_Si (fun r => r = oI (rowA sc s5 x))) 0 0 (fun _ => False) := by
  refine Met.ofW (cc := cSR_sum) (maxL := 2) (ret := (some .int)) (by decide) rfl ?_
  intro p e s m args below meth c s₁ B hml hv
  obtain ⟨rfl, hP, hKX⟩ := hv
  have hK := hKX.1
  have hx := B.exec
  have hb := B.bytes
  have hr := B.returns
  have hts := atoms_spec (ws := wsSR_sum) B.pre
  have hown : s.vm.findClass RSR = some m.cls := findClass_of_methodNamed B.named
  have hlocks := B.notSynchronized
  have hl := lv_entry ([.ref hC, .int x]) (n := 2) (Nat.le_of_ble_eq_true rfl)
  rw [lg_entry_eq]
  generalize (lg_sl ([.ref hC, .int x]) ++ List.replicate (2 - (lg_sl ([.ref hC, .int x])).length) Slot.unset).toArray = ls at hl ⊢
  have hl : lv_has ls 2 [(0, .ref hC), (1, .int x)] := hl
  generalize hRe : (headSpec wsSR_sum ({ frames := 1, cells := 0, slots := 0, locals := 21 })).room = R
  have hRf : 1 ≤ R.frames := by rw [← hRe]; exact Nat.le_refl _
  have hRl : 21 ≤ R.locals := by rw [← hRe]; exact Nat.le_refl _
  have hRc : 0 ≤ R.cells := by rw [← hRe]; exact Nat.le_refl _
  have hRs : 0 ≤ R.slots := by rw [← hRe]; exact Nat.le_refl _
  generalize hargs : (List.toArray [.ref hC, .int x] : Array Value) = args at hts ⊢
  generalize hQe : MQ below _ args s _ _ _ = Q
  refine lv_aload_n hx hb dSR_sum_0 rfl (lv_at hl 0 rfl) ?_
  refine va_get (D := (dC, dI)) (ci := 7) (v := .ref h5) (C := RSR) (T := TSR) (N := 8) hx hb hts (fun w h => List.mem_cons_of_mem _ (inSR w h)) hown hK hP 0 rfl rfl 4 (by decide) (hts _ (List.mem_cons_of_mem _ kw_228)) (fun _ h9 => h9) rfl dSR_sum_1 ?_
  refine lv_iload_n hx hb dSR_sum_4 rfl (lv_at hl 1 rfl) ?_
  refine vp_callSi (va_runV (C := RSP) (As := [.int x]) (rest := []) ⟨hx, hb, hml, hown, hts⟩ (c_SP_hasShard l dC dI cI cZ cG h5 a5 b5 d5 sc mv s5 zs sf x (hsc)) (hr_cwV 1 hts kw_413 kw_383 kw_384 kw_29 kw_385 (by decide +kernel) (by rw [← hRe]; exact ⟨Nat.le_of_ble_eq_true rfl, Nat.le_of_ble_eq_true rfl⟩)) (hr_preR hKX hP [1, 2, 3, 4] rfl (ci := 5) (q0 := 1) (q := (RSP, TSP, 5)) rfl rfl) rfl rfl hl.1 rfl (lv_room (Nat.le_of_ble_eq_true rfl)) dSR_sum_5 ⟨by omega, by omega⟩).run (fun rv hrv => ?_)
  refine hr_eqi hrv ?_
  have hb0 := inB_lt x sc
  refine hr_if_eq hx hb (x := inB x sc) (by omega) (tgt := 23) dSR_sum_8 (by decide) (fun c_1 => ?_) (fun c_1 => ?_)
  · refine lv_iconst (v := (-1)) hx hb dSR_sum_23 (by decide +kernel) ?_
    rw [← hQe]
    exact W.iret (v := (-1)) hx hb hr (fun t ht hW => ⟨_, rfl, by rw [rowA, if_pos c_1]; rfl, by rw [ht]⟩) (fun q h => by cases h) dSR_sum_24
  · obtain ⟨j, hj, rfl⟩ := inB_pos (by omega) c_1
    refine lv_aload_n hx hb dSR_sum_11 rfl (lv_at hl 0 rfl) ?_
    refine va_get (D := (dC, dI)) (ci := 7) (v := .ref h5) (C := RSR) (T := TSR) (N := 8) hx hb hts (fun w h => List.mem_cons_of_mem _ (inSR w h)) hown hK hP 0 rfl rfl 4 (by decide) (hts _ (List.mem_cons_of_mem _ kw_228)) (fun _ h9 => h9) rfl dSR_sum_12 ?_
    refine va_get (D := (dC, dI)) (ci := 5) (v := .ref a5) (C := RSP) (T := TSP) (N := 5) hx hb hts (fun w h => List.mem_cons_of_mem _ (inSP w h)) hown hK hP 1 rfl rfl 2 (by decide) (hts _ (List.mem_cons_of_mem _ kw_174)) (fun _ h9 => h9) rfl dSR_sum_15 ?_
    refine lv_iload_n hx hb dSR_sum_18 rfl (lv_at hl 1 rfl) ?_
    refine hr_iald hx hb hK hP 2 0 rfl rfl (i := j) (by omega) (by omega) dSR_sum_19 ?_
    refine lv_goto (tgt := 24) hx hb dSR_sum_20 (by decide) ?_
    rw [← hQe]
    exact W.iret (v := nI (s5 j)) hx hb hr (fun t ht hW => ⟨_, rfl, by rw [rowA_nI hj (by omega)]; rfl, by rw [ht]⟩) (fun q h => by cases h) dSR_sum_24

set_option maxHeartbeats 400000 in
set_option maxRecDepth 100000 in
/-- empty -/
theorem c_SR_empty (l : Launch) (dC : Nat → ClassId) (dI : Nat → Nat → Nat) (cI cZ cG : ClassId) (hC : Nat) (h : Nat) (hG : Nat) (kS : Nat) (hY : Nat) (h5 : Nat) (h6 : Nat) (kD : Nat) (k : Nat) (a5 : Nat) (b5 : Nat) (d5 : Nat) (sc : Nat) (mv : Nat) (s5 : Nat → Nat) (zs : Nat → Nat) (sf : Nat → Option Nat) (x : Int32) (hsc : sc ≤ 4) (hzs : ∀ q, q < 4 → zs q < 2 ^ 31) : Met l ySR_empty wsSR_empty ({ frames := 0, cells := 0, slots := 0, locals := 0 }) (va_Pc [.ref hC, .int x] (fun U => va_P (dC, dI) vwCl [(hC, .inr (7, [.ref h, .ref hG, .ref kS, .ref hY, .ref h5, .ref h6, .ref kD, .int (nI k)])), (h5, .inr (5, [.int (nI sc), .int (nI mv), .ref a5, .ref b5, .ref d5])), (a5, .inl (cI, 4, .inl (fun j9 => nI (s5 j9)))), (b5, .inl (cI, 4, .inl (fun j9 => nI (zs j9)))), (d5, .inl (cI, 24, .inl (fun j9 => oI (sf j9))))] U.heap ∧ KX dC dI cI cZ cG U)) (vp_Si (fun r => r = oI (nthZ zs x sc 0 0))) 0 0 (fun _ => False) := by
  refine Met.ofW (cc := cSR_empty) (maxL := 4) (ret := (some .int)) (by decide) rfl ?_
  intro p e s m args below meth c s₁ B hml hv
  obtain ⟨rfl, hP, hKX⟩ := hv
  have hK := hKX.1
  have hx := B.exec
  have hb := B.bytes
  have hr := B.returns
  have hts := atoms_spec (ws := wsSR_empty) B.pre
  have hown : s.vm.findClass RSR = some m.cls := findClass_of_methodNamed B.named
  have hlocks := B.notSynchronized
  have hl := lv_entry ([.ref hC, .int x]) (n := 4) (Nat.le_of_ble_eq_true rfl)
  rw [lg_entry_eq]
  generalize (lg_sl ([.ref hC, .int x]) ++ List.replicate (4 - (lg_sl ([.ref hC, .int x])).length) Slot.unset).toArray = ls at hl ⊢
  have hl : lv_has ls 4 [(0, .ref hC), (1, .int x)] := hl
  generalize hRe : (headSpec wsSR_empty ({ frames := 0, cells := 0, slots := 0, locals := 0 })).room = R
  have hRf : 0 ≤ R.frames := by rw [← hRe]; exact Nat.le_refl _
  have hRl : 0 ≤ R.locals := by rw [← hRe]; exact Nat.le_refl _
  have hRc : 0 ≤ R.cells := by rw [← hRe]; exact Nat.le_refl _
  have hRs : 0 ≤ R.slots := by rw [← hRe]; exact Nat.le_refl _
  generalize hargs : (List.toArray [.ref hC, .int x] : Array Value) = args at hts ⊢
  generalize hQe : MQ below _ args s _ _ _ = Q
  refine lv_iconst (v := nI 0) hx hb dSR_empty_0 (by decide +kernel) ?_
  refine lv_istore_n (lv' := [(2, .int (nI 0)), (0, .ref hC), (1, .int x)]) hx hb dSR_empty_1 rfl hl (by decide) rfl (fun ls hl => ?_)
  refine lv_iconst (v := nI 0) hx hb dSR_empty_2 (by decide +kernel) ?_
  refine lv_istore_n (lv' := [(3, .int (nI 0)), (2, .int (nI 0)), (0, .ref hC), (1, .int x)]) hx hb dSR_empty_3 rfl hl (by decide) rfl (fun ls hl => ?_)
  have loop_4 : ∀ (n9 : Nat) (i : Nat) (sn : Nat), i ≤ sc → nthZ zs x (sc - i) i sn = nthZ zs x sc 0 0 → sc + 1 ≤ i + n9 → ∀ (ls : Array Slot), lv_has ls 4 [(3, .int (nI i)), (2, .int (nI sn)), (0, .ref hC), (1, .int x)] → W p l e R s m args below meth c s.heap [] 0 0 Q (F0 m 4 ls []) := by
    intro n9
    induction n9 with
    | zero =>
      intro i sn hi hT hmeas
      exact absurd hmeas (by omega)
    | succ n9 ih_4 =>
      intro i sn hi hT hmeas ls hl
      refine lv_iload_n hx hb dSR_empty_4 rfl (lv_at hl 0 rfl) ?_
      refine lv_aload_n hx hb dSR_empty_5 rfl (lv_at hl 2 rfl) ?_
      refine va_get (D := (dC, dI)) (ci := 7) (v := .ref h5) (C := RSR) (T := TSR) (N := 8) hx hb hts (fun w h => List.mem_cons_of_mem _ (inSR w h)) hown hK hP 0 rfl rfl 4 (by decide) (hts _ (List.mem_cons_of_mem _ kw_228)) (fun _ h9 => h9) rfl dSR_empty_6 ?_
      refine va_get (D := (dC, dI)) (ci := 5) (v := .int (nI sc)) (C := RSP) (T := TSP) (N := 5) hx hb hts (fun w h => List.mem_cons_of_mem _ (inSP w h)) hown hK hP 1 rfl rfl 0 (by decide) (hts _ (List.mem_cons_of_mem _ kw_170)) (fun _ h9 => h9) rfl dSR_empty_9 ?_
      refine hr_icmp_ge hx hb (x := i) (y := sc) (by omega) (by omega) (tgt := 43) dSR_empty_12 (by decide) (fun c_1 => ?_) (fun c_1 => ?_)
      · rw [show sc - i = 0 by omega] at hT
        refine lv_iconst (v := (-1)) hx hb dSR_empty_43 (by decide +kernel) ?_
        rw [← hQe]
        exact W.iret (v := (-1)) hx hb hr (fun t ht hW => ⟨_, rfl, by rw [← hT]; rfl, by rw [ht]⟩) (fun q h => by cases h) dSR_empty_44
      · have hz1 := hzs i (by omega)
        refine lv_aload_n hx hb dSR_empty_15 rfl (lv_at hl 2 rfl) ?_
        refine va_get (D := (dC, dI)) (ci := 7) (v := .ref h5) (C := RSR) (T := TSR) (N := 8) hx hb hts (fun w h => List.mem_cons_of_mem _ (inSR w h)) hown hK hP 0 rfl rfl 4 (by decide) (hts _ (List.mem_cons_of_mem _ kw_228)) (fun _ h9 => h9) rfl dSR_empty_16 ?_
        refine va_get (D := (dC, dI)) (ci := 5) (v := .ref b5) (C := RSP) (T := TSP) (N := 5) hx hb hts (fun w h => List.mem_cons_of_mem _ (inSP w h)) hown hK hP 1 rfl rfl 3 (by decide) (hts _ (List.mem_cons_of_mem _ kw_176)) (fun _ h9 => h9) rfl dSR_empty_19 ?_
        refine lv_iload_n hx hb dSR_empty_22 rfl (lv_at hl 0 rfl) ?_
        refine hr_iald hx hb hK hP 3 0 rfl rfl (i := i) (by omega) (by omega) dSR_empty_23 ?_
        refine hr_if_ne hx hb (x := (zs i)) (by omega) (tgt := 37) dSR_empty_24 (by decide) (fun c_2 => ?_) (fun c_2 => ?_)
        · refine lv_iinc (v := nI (i + 1)) (lv' := [(3, .int (nI (i + 1))), (2, .int (nI sn)), (0, .ref hC), (1, .int x)]) hx hb dSR_empty_37 hl (k := 0) rfl (hr_inc _) (by decide) rfl (fun ls hl => ?_)
          refine lv_goto (tgt := 4) hx hb dSR_empty_40 (by decide) ?_
          exact ih_4 (i + 1) sn (by omega) (by rw [← hT, show sc - i = sc - (i + 1) + 1 by omega, nthZ_skip c_2]) (by omega) ls (lv_sub hl [0, 1, 2, 3] rfl)
        · refine lv_iload_n hx hb dSR_empty_27 rfl (lv_at hl 1 rfl) ?_
          refine lv_iload_n hx hb dSR_empty_28 rfl (lv_at hl 3 rfl) ?_
          refine lv_icmp_ne (tgt := 34) hx hb dSR_empty_29 (by decide) (fun c_3 => ?_) (fun c_3 => ?_)
          · refine lv_iinc (v := nI (sn + 1)) (lv' := [(2, .int (nI (sn + 1))), (3, .int (nI i)), (0, .ref hC), (1, .int x)]) hx hb dSR_empty_34 hl (k := 1) rfl (hr_inc _) (by decide) rfl (fun ls hl => ?_)
            refine lv_iinc (v := nI (i + 1)) (lv' := [(3, .int (nI (i + 1))), (2, .int (nI (sn + 1))), (0, .ref hC), (1, .int x)]) hx hb dSR_empty_37 hl (k := 1) rfl (hr_inc _) (by decide) rfl (fun ls hl => ?_)
            refine lv_goto (tgt := 4) hx hb dSR_empty_40 (by decide) ?_
            exact ih_4 (i + 1) (sn + 1) (by omega) (by rw [← hT, show sc - i = sc - (i + 1) + 1 by omega, nthZ_next c_2 c_3]) (by omega) ls (lv_sub hl [0, 1, 2, 3] rfl)
          · refine lv_iload_n hx hb dSR_empty_32 rfl (lv_at hl 0 rfl) ?_
            rw [← hQe]
            exact W.iret (v := nI i) hx hb hr (fun t ht hW => ⟨_, rfl, by rw [← hT, show sc - i = sc - (i + 1) + 1 by omega, nthZ_hit c_2 c_3]; rfl, by rw [ht]⟩) (fun q h => by cases h) dSR_empty_33
  exact loop_4 (sc + 1) 0 0 (by omega) (rfl) (by omega) ls (lv_sub hl [0, 1, 2, 3] rfl)

set_option maxHeartbeats 400000 in
set_option maxRecDepth 100000 in
/-- isMissing -/
theorem c_SR_isMissing (l : Launch) (dC : Nat → ClassId) (dI : Nat → Nat → Nat) (cI cZ cG : ClassId) (hC : Nat) (h : Nat) (hG : Nat) (kS : Nat) (hY : Nat) (h5 : Nat) (h6 : Nat) (kD : Nat) (k : Nat) (a5 : Nat) (b5 : Nat) (d5 : Nat) (sc : Nat) (mv : Nat) (s5 : Nat → Nat) (zs : Nat → Nat) (sf : Nat → Option Nat) (a6 : Nat) (b6 : Nat) (d6 : Nat) (sg : Nat) (pr : Nat → Nat) (vs : Nat → Int32) (tc : Nat → Nat) (j : Nat) (hsf : ∀ j, j < 24 → ∀ q, sf j = some q → q < 4) (hpr : ∀ j, j < 24 → pr j < 2) (hj : j < 24) : Met l ySR_isMissing wsSR_isMissing ({ frames := 2, cells := 0, slots := 0, locals := 41 }) (va_Pc [.ref hC, .int (nI j)] (fun U => va_P (dC, dI) vwCl [(hC, .inr (7, [.ref h, .ref hG, .ref kS, .ref hY, .ref h5, .ref h6, .ref kD, .int (nI k)])), (h5, .inr (5, [.int (nI sc), .int (nI mv), .ref a5, .ref b5, .ref d5])), (a5, .inl (cI, 4, .inl (fun j9 => nI (s5 j9)))), (b5, .inl (cI, 4, .inl (fun j9 => nI (zs j9)))), (d5, .inl (cI, 24, .inl (fun j9 => oI (sf j9)))), (h6, .inr (3, [.int (nI sg), .ref a6, .ref b6, .ref d6])), (a6, .inl (cZ, 24, .inl (fun j9 => nI (pr j9)))), (b6, .inl (cI, 24, .inl vs)), (d6, .inl (cI, 24, .inl (fun j9 => nI (tc j9))))] U.heap ∧ KX dC dI cI cZ cG U)) (vp_Si (fun r => r = nI (1 - misZ sf pr j))) 0 0 (fun _ => False) := by
  refine Met.ofW (cc := cSR_isMissing) (maxL := 2) (ret := (some .boolean)) (by decide) rfl ?_
  intro p e s m args below meth c s₁ B hml hv
  obtain ⟨rfl, hP, hKX⟩ := hv
  have hK := hKX.1
  have hx := B.exec
  have hb := B.bytes
  have hr := B.returns
  have hts := atoms_spec (ws := wsSR_isMissing) B.pre
  have hown : s.vm.findClass RSR = some m.cls := findClass_of_methodNamed B.named
  have hlocks := B.notSynchronized
  have hl := lv_entry ([.ref hC, .int (nI j)]) (n := 2) (Nat.le_of_ble_eq_true rfl)
  rw [lg_entry_eq]
  generalize (lg_sl ([.ref hC, .int (nI j)]) ++ List.replicate (2 - (lg_sl ([.ref hC, .int (nI j)])).length) Slot.unset).toArray = ls at hl ⊢
  have hl : lv_has ls 2 [(0, .ref hC), (1, .int (nI j))] := hl
  generalize hRe : (headSpec wsSR_isMissing ({ frames := 2, cells := 0, slots := 0, locals := 41 })).room = R
  have hRf : 2 ≤ R.frames := by rw [← hRe]; exact Nat.le_refl _
  have hRl : 41 ≤ R.locals := by rw [← hRe]; exact Nat.le_refl _
  have hRc : 0 ≤ R.cells := by rw [← hRe]; exact Nat.le_refl _
  have hRs : 0 ≤ R.slots := by rw [← hRe]; exact Nat.le_refl _
  generalize hargs : (List.toArray [.ref hC, .int (nI j)] : Array Value) = args at hts ⊢
  generalize hQe : MQ below _ args s _ _ _ = Q
  refine lv_aload_n hx hb dSR_isMissing_0 rfl (lv_at hl 0 rfl) ?_
  refine va_get (D := (dC, dI)) (ci := 7) (v := .ref h5) (C := RSR) (T := TSR) (N := 8) hx hb hts (fun w h => List.mem_cons_of_mem _ (inSR w h)) hown hK hP 0 rfl rfl 4 (by decide) (hts _ (List.mem_cons_of_mem _ kw_228)) (fun _ h9 => h9) rfl dSR_isMissing_1 ?_
  refine lv_iload_n hx hb dSR_isMissing_4 rfl (lv_at hl 1 rfl) ?_
  refine vp_callSi (va_runV (C := RSP) (As := [.int (nI j)]) (rest := []) ⟨hx, hb, hml, hown, hts⟩ (c_SP_shardAt l dC dI cI cZ cG h5 a5 b5 d5 sc mv s5 zs sf (nI j)) (hr_cwV 1 hts kw_408 kw_334 kw_335 kw_29 kw_336 (by decide +kernel) (by rw [← hRe]; exact ⟨Nat.le_of_ble_eq_true rfl, Nat.le_of_ble_eq_true rfl⟩)) (hr_preR hKX hP [1, 2, 3, 4] rfl (ci := 5) (q0 := 1) (q := (RSP, TSP, 5)) rfl rfl) rfl rfl hl.1 rfl (lv_room (Nat.le_of_ble_eq_true rfl)) dSR_isMissing_5 ⟨by omega, by omega⟩).run (fun rv hrv => ?_)
  refine hr_eqi hrv ?_
  refine hr_eqi (show oI (shA sf (nI j)) = oI (sf j) by rw [shA_nI hj]) ?_
  refine lv_iconst (v := (-1)) hx hb dSR_isMissing_8 (by decide +kernel) ?_
  refine lv_icmp_eq (tgt := 27) hx hb dSR_isMissing_9 (by decide) (fun c_1 => ?_) (fun c_1 => ?_)
  · have hs1 := (oI_m1 (fun q hq => by have := hsf j hj q hq; omega)).mp c_1
    refine lv_iconst (v := nI 0) hx hb dSR_isMissing_27 (by decide +kernel) ?_
    rw [← hQe]
    exact W.zret (ty := .boolean) (v := nI 0) hx hb hr (by decide +kernel) (fun t ht hW => ⟨_, rfl, by rw [misZ, if_pos hs1], by rw [ht]⟩) (fun q h => by cases h) dSR_isMissing_28
  · have hs1 : ¬ sf j = none := fun z => c_1 (by rw [z]; rfl)
    refine lv_aload_n hx hb dSR_isMissing_12 rfl (lv_at hl 0 rfl) ?_
    refine va_get (D := (dC, dI)) (ci := 7) (v := .ref h6) (C := RSR) (T := TSR) (N := 8) hx hb hts (fun w h => List.mem_cons_of_mem _ (inSR w h)) hown hK hP 0 rfl rfl 5 (by decide) (hts _ (List.mem_cons_of_mem _ kw_229)) (fun _ h9 => h9) rfl dSR_isMissing_13 ?_
    refine lv_iload_n hx hb dSR_isMissing_16 rfl (lv_at hl 1 rfl) ?_
    refine vp_callSi (va_runV (C := RRR) (As := [.int (nI j)]) (rest := []) ⟨hx, hb, hml, hown, hts⟩ (c_RR_has l dC dI cI cZ cG h6 a6 b6 d6 sg pr vs tc (nI j) (hpr)) (hr_cwV 1 hts kw_482 kw_467 kw_468 kw_31 kw_469 (by decide +kernel) (by rw [← hRe]; exact ⟨Nat.le_of_ble_eq_true rfl, Nat.le_of_ble_eq_true rfl⟩)) (hr_preR hKX hP [5, 6, 7, 8] rfl (ci := 3) (q0 := 5) (q := (RRR, TRR, 4)) rfl rfl) rfl rfl hl.1 rfl (lv_room (Nat.le_of_ble_eq_true rfl)) dSR_isMissing_17 ⟨by omega, by omega⟩).run (fun rv hrv => ?_)
    refine hr_eqi hrv ?_
    refine hr_eqi (show nI (hasB pr (nI j)) = nI (pr j) by rw [hasB_nI hj]) ?_
    have hpj := hpr j hj
    refine hr_if_ne hx hb (x := (pr j)) (by omega) (tgt := 27) dSR_isMissing_20 (by decide) (fun c_2 => ?_) (fun c_2 => ?_)
    · refine lv_iconst (v := nI 0) hx hb dSR_isMissing_27 (by decide +kernel) ?_
      rw [← hQe]
      exact W.zret (ty := .boolean) (v := nI 0) hx hb hr (by decide +kernel) (fun t ht hW => ⟨_, rfl, by rw [misZ, if_neg hs1, if_neg c_2], by rw [ht]⟩) (fun q h => by cases h) dSR_isMissing_28
    · refine lv_iconst (v := nI 1) hx hb dSR_isMissing_23 (by decide +kernel) ?_
      refine lv_goto (tgt := 28) hx hb dSR_isMissing_24 (by decide) ?_
      rw [← hQe]
      exact W.zret (ty := .boolean) (v := nI 1) hx hb hr (by decide +kernel) (fun t ht hW => ⟨_, rfl, by rw [misZ, if_neg hs1, if_pos c_2], by rw [ht]⟩) (fun q h => by cases h) dSR_isMissing_28

set_option maxHeartbeats 400000 in
set_option maxRecDepth 100000 in
/-- missing -/
theorem c_SR_missing (l : Launch) (dC : Nat → ClassId) (dI : Nat → Nat → Nat) (cI cZ cG : ClassId) (hC : Nat) (h : Nat) (hG : Nat) (kS : Nat) (hY : Nat) (h5 : Nat) (h6 : Nat) (kD : Nat) (k : Nat) (a5 : Nat) (b5 : Nat) (d5 : Nat) (sc : Nat) (mv : Nat) (s5 : Nat → Nat) (zs : Nat → Nat) (sf : Nat → Option Nat) (a6 : Nat) (b6 : Nat) (d6 : Nat) (sg : Nat) (pr : Nat → Nat) (vs : Nat → Int32) (tc : Nat → Nat) (x : Int32) (hsf : ∀ j, j < 24 → ∀ q, sf j = some q → q < 4) (hpr : ∀ j, j < 24 → pr j < 2) : Met l ySR_missing wsSR_missing ({ frames := 3, cells := 0, slots := 0, locals := 62 }) (va_Pc [.ref hC, .int x] (fun U => va_P (dC, dI) vwCl [(hC, .inr (7, [.ref h, .ref hG, .ref kS, .ref hY, .ref h5, .ref h6, .ref kD, .int (nI k)])), (h5, .inr (5, [.int (nI sc), .int (nI mv), .ref a5, .ref b5, .ref d5])), (a5, .inl (cI, 4, .inl (fun j9 => nI (s5 j9)))), (b5, .inl (cI, 4, .inl (fun j9 => nI (zs j9)))), (d5, .inl (cI, 24, .inl (fun j9 => oI (sf j9)))), (h6, .inr (3, [.int (nI sg), .ref a6, .ref b6, .ref d6])), (a6, .inl (cZ, 24, .inl (fun j9 => nI (pr j9)))), (b6, .inl (cI, 24, .inl vs)), (d6, .inl (cI, 24, .inl (fun j9 => nI (tc j9))))] U.heap ∧ KX dC dI cI cZ cG U)) (vp_Si (fun r => r = oI (nthZ (misZ sf pr) x 24 0 0))) 0 0 (fun _ => False) := by
  refine Met.ofW (cc := cSR_missing) (maxL := 4) (ret := (some .int)) (by decide) rfl ?_
  intro p e s m args below meth c s₁ B hml hv
  obtain ⟨rfl, hP, hKX⟩ := hv
  have hK := hKX.1
  have hx := B.exec
  have hb := B.bytes
  have hr := B.returns
  have hts := atoms_spec (ws := wsSR_missing) B.pre
  have hown : s.vm.findClass RSR = some m.cls := findClass_of_methodNamed B.named
  have hlocks := B.notSynchronized
  have hl := lv_entry ([.ref hC, .int x]) (n := 4) (Nat.le_of_ble_eq_true rfl)
  rw [lg_entry_eq]
  generalize (lg_sl ([.ref hC, .int x]) ++ List.replicate (4 - (lg_sl ([.ref hC, .int x])).length) Slot.unset).toArray = ls at hl ⊢
  have hl : lv_has ls 4 [(0, .ref hC), (1, .int x)] := hl
  generalize hRe : (headSpec wsSR_missing ({ frames := 3, cells := 0, slots := 0, locals := 62 })).room = R
  have hRf : 3 ≤ R.frames := by rw [← hRe]; exact Nat.le_refl _
  have hRl : 62 ≤ R.locals := by rw [← hRe]; exact Nat.le_refl _
  have hRc : 0 ≤ R.cells := by rw [← hRe]; exact Nat.le_refl _
  have hRs : 0 ≤ R.slots := by rw [← hRe]; exact Nat.le_refl _
  generalize hargs : (List.toArray [.ref hC, .int x] : Array Value) = args at hts ⊢
  generalize hQe : MQ below _ args s _ _ _ = Q
  refine lv_iconst (v := nI 0) hx hb dSR_missing_0 (by decide +kernel) ?_
  refine lv_istore_n (lv' := [(2, .int (nI 0)), (0, .ref hC), (1, .int x)]) hx hb dSR_missing_1 rfl hl (by decide) rfl (fun ls hl => ?_)
  refine lv_iconst (v := nI 0) hx hb dSR_missing_2 (by decide +kernel) ?_
  refine lv_istore_n (lv' := [(3, .int (nI 0)), (2, .int (nI 0)), (0, .ref hC), (1, .int x)]) hx hb dSR_missing_3 rfl hl (by decide) rfl (fun ls hl => ?_)
  have loop_4 : ∀ (n9 : Nat) (i : Nat) (sn : Nat), i ≤ 24 → nthZ (misZ sf pr) x (24 - i) i sn = nthZ (misZ sf pr) x 24 0 0 → 24 + 1 ≤ i + n9 → ∀ (ls : Array Slot), lv_has ls 4 [(3, .int (nI i)), (2, .int (nI sn)), (0, .ref hC), (1, .int x)] → W p l e R s m args below meth c s.heap [] 0 0 Q (F0 m 4 ls []) := by
    intro n9
    induction n9 with
    | zero =>
      intro i sn hi hT hmeas
      exact absurd hmeas (by omega)
    | succ n9 ih_4 =>
      intro i sn hi hT hmeas ls hl
      refine lv_iload_n hx hb dSR_missing_4 rfl (lv_at hl 0 rfl) ?_
      refine lv_bipush (v := nI 24) hx hb dSR_missing_5 (by decide +kernel) ?_
      refine hr_icmp_ge hx hb (x := i) (y := 24) (by omega) (by omega) (tgt := 34) dSR_missing_7 (by decide) (fun c_1 => ?_) (fun c_1 => ?_)
      · rw [show 24 - i = 0 by omega] at hT
        refine lv_iconst (v := (-1)) hx hb dSR_missing_34 (by decide +kernel) ?_
        rw [← hQe]
        exact W.iret (v := (-1)) hx hb hr (fun t ht hW => ⟨_, rfl, by rw [← hT]; rfl, by rw [ht]⟩) (fun q h => by cases h) dSR_missing_35
      · refine lv_aload_n hx hb dSR_missing_10 rfl (lv_at hl 2 rfl) ?_
        refine lv_iload_n hx hb dSR_missing_11 rfl (lv_at hl 0 rfl) ?_
        refine vp_callSi (va_runV (C := RSR) (As := [.int (nI i)]) (rest := []) ⟨hx, hb, hml, hown, hts⟩ (c_SR_isMissing l dC dI cI cZ cG hC h hG kS hY h5 h6 kD k a5 b5 d5 sc mv s5 zs sf a6 b6 d6 sg pr vs tc i (hsf) (hpr) (by omega)) (hr_cwV 1 hts kw_478 kw_480 kw_10 kw_23 kw_481 (by decide +kernel) (by rw [← hRe]; exact ⟨Nat.le_of_ble_eq_true rfl, Nat.le_of_ble_eq_true rfl⟩)) (hr_preR hKX hP [0, 1, 2, 3, 4, 5, 6, 7, 8] rfl (ci := 7) (q0 := 0) (q := (RSR, TSR, 8)) rfl rfl) rfl rfl hl.1 rfl (lv_room (Nat.le_of_ble_eq_true rfl)) dSR_missing_12 ⟨by omega, by omega⟩).run (fun rv hrv => ?_)
        refine hr_eqi hrv ?_
        have hm0 := misZ_lt sf pr i
        refine hr_if_eq hx hb (x := (1 - misZ sf pr i)) (by omega) (tgt := 28) dSR_missing_15 (by decide) (fun c_2 => ?_) (fun c_2 => ?_)
        · refine lv_iinc (v := nI (i + 1)) (lv' := [(3, .int (nI (i + 1))), (2, .int (nI sn)), (0, .ref hC), (1, .int x)]) hx hb dSR_missing_28 hl (k := 0) rfl (hr_inc _) (by decide) rfl (fun ls hl => ?_)
          refine lv_goto (tgt := 4) hx hb dSR_missing_31 (by decide) ?_
          exact ih_4 (i + 1) sn (by omega) (by rw [← hT, show 24 - i = 24 - (i + 1) + 1 by omega, nthZ_skip (show ¬ misZ sf pr i = 0 by omega)]) (by omega) ls (lv_sub hl [0, 1, 2, 3] rfl)
        · refine lv_iload_n hx hb dSR_missing_18 rfl (lv_at hl 1 rfl) ?_
          refine lv_iload_n hx hb dSR_missing_19 rfl (lv_at hl 3 rfl) ?_
          refine lv_icmp_ne (tgt := 25) hx hb dSR_missing_20 (by decide) (fun c_3 => ?_) (fun c_3 => ?_)
          · refine lv_iinc (v := nI (sn + 1)) (lv' := [(2, .int (nI (sn + 1))), (3, .int (nI i)), (0, .ref hC), (1, .int x)]) hx hb dSR_missing_25 hl (k := 1) rfl (hr_inc _) (by decide) rfl (fun ls hl => ?_)
            refine lv_iinc (v := nI (i + 1)) (lv' := [(3, .int (nI (i + 1))), (2, .int (nI (sn + 1))), (0, .ref hC), (1, .int x)]) hx hb dSR_missing_28 hl (k := 1) rfl (hr_inc _) (by decide) rfl (fun ls hl => ?_)
            refine lv_goto (tgt := 4) hx hb dSR_missing_31 (by decide) ?_
            exact ih_4 (i + 1) (sn + 1) (by omega) (by rw [← hT, show 24 - i = 24 - (i + 1) + 1 by omega, nthZ_next (show misZ sf pr i = 0 by omega) c_3]) (by omega) ls (lv_sub hl [0, 1, 2, 3] rfl)
          · refine lv_iload_n hx hb dSR_missing_23 rfl (lv_at hl 0 rfl) ?_
            rw [← hQe]
            exact W.iret (v := nI i) hx hb hr (fun t ht hW => ⟨_, rfl, by rw [← hT, show 24 - i = 24 - (i + 1) + 1 by omega, nthZ_hit (show misZ sf pr i = 0 by omega) c_3]; rfl, by rw [ht]⟩) (fun q h => by cases h) dSR_missing_24
  exact loop_4 (24 + 1) 0 0 (by omega) (rfl) (by omega) ls (lv_sub hl [0, 1, 2, 3] rfl)

set_option maxHeartbeats 400000 in
set_option maxRecDepth 100000 in
/-- verdict -/
theorem c_SR_verdict (l : Launch) (dC : Nat → ClassId) (dI : Nat → Nat → Nat) (cI cZ cG : ClassId) (hC : Nat) (h : Nat) (hG : Nat) (kS : Nat) (hY : Nat) (h5 : Nat) (h6 : Nat) (kD : Nat) (k : Nat) (a5 : Nat) (b5 : Nat) (d5 : Nat) (sc : Nat) (mv : Nat) (s5 : Nat → Nat) (zs : Nat → Nat) (sf : Nat → Option Nat) (a6 : Nat) (b6 : Nat) (d6 : Nat) (sg : Nat) (pr : Nat → Nat) (vs : Nat → Int32) (tc : Nat → Nat) (hsc : sc ≤ 4) (hsf : ∀ j, j < 24 → ∀ q, sf j = some q → q < 4) (hpr : ∀ j, j < 24 → pr j < 2) : Met l ySR_verdict wsSR_verdict ({ frames := 4, cells := 0, slots := 0, locals := 85 }) (va_Pc [.ref hC] (fun U => va_P (dC, dI) vwCl [(hC, .inr (7, [.ref h, .ref hG, .ref kS, .ref hY, .ref h5, .ref h6, .ref kD, .int (nI k)])), (h5, .inr (5, [.int (nI sc), .int (nI mv), .ref a5, .ref b5, .ref d5])), (a5, .inl (cI, 4, .inl (fun j9 => nI (s5 j9)))), (b5, .inl (cI, 4, .inl (fun j9 => nI (zs j9)))), (d5, .inl (cI, 24, .inl (fun j9 => oI (sf j9)))), (h6, .inr (3, [.int (nI sg), .ref a6, .ref b6, .ref d6])), (a6, .inl (cZ, 24, .inl (fun j9 => nI (pr j9)))), (b6, .inl (cI, 24, .inl vs)), (d6, .inl (cI, 24, .inl (fun j9 => nI (tc j9))))] U.heap ∧ KX dC dI cI cZ cG U)) (vp_Si (fun r => r = (vrd sf sc pr vs))) 0 0 (fun _ => False) := by
  refine Met.ofW (cc := cSR_verdict) (maxL := 1) (ret := (some .int)) (by decide) rfl ?_
  intro p e s m args below meth c s₁ B hml hv
  obtain ⟨rfl, hP, hKX⟩ := hv
  have hK := hKX.1
  have hx := B.exec
  have hb := B.bytes
  have hr := B.returns
  have hts := atoms_spec (ws := wsSR_verdict) B.pre
  have hown : s.vm.findClass RSR = some m.cls := findClass_of_methodNamed B.named
  have hlocks := B.notSynchronized
  have hl := lv_entry ([.ref hC]) (n := 1) (Nat.le_of_ble_eq_true rfl)
  rw [lg_entry_eq]
  generalize (lg_sl ([.ref hC]) ++ List.replicate (1 - (lg_sl ([.ref hC])).length) Slot.unset).toArray = ls at hl ⊢
  have hl : lv_has ls 1 [(0, .ref hC)] := hl
  generalize hRe : (headSpec wsSR_verdict ({ frames := 4, cells := 0, slots := 0, locals := 85 })).room = R
  have hRf : 4 ≤ R.frames := by rw [← hRe]; exact Nat.le_refl _
  have hRl : 85 ≤ R.locals := by rw [← hRe]; exact Nat.le_refl _
  have hRc : 0 ≤ R.cells := by rw [← hRe]; exact Nat.le_refl _
  have hRs : 0 ≤ R.slots := by rw [← hRe]; exact Nat.le_refl _
  generalize hargs : (List.toArray [.ref hC] : Array Value) = args at hts ⊢
  generalize hQe : MQ below _ args s _ _ _ = Q
  refine lv_aload_n hx hb dSR_verdict_0 rfl (lv_at hl 0 rfl) ?_
  refine va_get (D := (dC, dI)) (ci := 7) (v := .ref h5) (C := RSR) (T := TSR) (N := 8) hx hb hts (fun w h => List.mem_cons_of_mem _ (inSR w h)) hown hK hP 0 rfl rfl 4 (by decide) (hts _ (List.mem_cons_of_mem _ kw_228)) (fun _ h9 => h9) rfl dSR_verdict_1 ?_
  refine va_get (D := (dC, dI)) (ci := 5) (v := .int (nI sc)) (C := RSP) (T := TSP) (N := 5) hx hb hts (fun w h => List.mem_cons_of_mem _ (inSP w h)) hown hK hP 1 rfl rfl 0 (by decide) (hts _ (List.mem_cons_of_mem _ kw_170)) (fun _ h9 => h9) rfl dSR_verdict_4 ?_
  refine hr_if_ne hx hb (x := sc) (by omega) (tgt := 12) dSR_verdict_7 (by decide) (fun c_1 => ?_) (fun c_1 => ?_)
  · refine lv_aload_n hx hb dSR_verdict_12 rfl (lv_at hl 0 rfl) ?_
    refine lv_iconst (v := nI 0) hx hb dSR_verdict_13 (by decide +kernel) ?_
    refine vp_callSi (va_runV (C := RSR) (As := [.int (nI 0)]) (rest := []) ⟨hx, hb, hml, hown, hts⟩ (c_SR_missing l dC dI cI cZ cG hC h hG kS hY h5 h6 kD k a5 b5 d5 sc mv s5 zs sf a6 b6 d6 sg pr vs tc (nI 0) (hsf) (hpr)) (hr_cwV 1 hts kw_487 kw_475 kw_476 kw_23 kw_477 (by decide +kernel) (by rw [← hRe]; exact ⟨Nat.le_of_ble_eq_true rfl, Nat.le_of_ble_eq_true rfl⟩)) (hr_preR hKX hP [0, 1, 2, 3, 4, 5, 6, 7, 8] rfl (ci := 7) (q0 := 0) (q := (RSR, TSR, 8)) rfl rfl) rfl rfl hl.1 rfl (lv_room (Nat.le_of_ble_eq_true rfl)) dSR_verdict_14 ⟨by omega, by omega⟩).run (fun rv hrv => ?_)
    refine hr_eqi hrv ?_
    refine lv_iconst (v := (-1)) hx hb dSR_verdict_17 (by decide +kernel) ?_
    refine lv_icmp_eq (tgt := 23) hx hb dSR_verdict_18 (by decide) (fun c_2 => ?_) (fun c_2 => ?_)
    · have hs1 := (oI_m1 (fun q hq => nthZ_lt hq)).mp c_2
      refine lv_aload_n hx hb dSR_verdict_23 rfl (lv_at hl 0 rfl) ?_
      refine va_get (D := (dC, dI)) (ci := 7) (v := .ref h6) (C := RSR) (T := TSR) (N := 8) hx hb hts (fun w h => List.mem_cons_of_mem _ (inSR w h)) hown hK hP 0 rfl rfl 5 (by decide) (hts _ (List.mem_cons_of_mem _ kw_229)) (fun _ h9 => h9) rfl dSR_verdict_24 ?_
      refine vp_callSi (va_runV (C := RRR) (As := []) (rest := []) ⟨hx, hb, hml, hown, hts⟩ (c_RR_anyBad l dC dI cI cZ cG h6 a6 b6 d6 sg pr vs tc (hpr)) (hr_cwV 0 hts kw_488 kw_489 kw_490 kw_31 kw_491 (by decide +kernel) (by rw [← hRe]; exact ⟨Nat.le_of_ble_eq_true rfl, Nat.le_of_ble_eq_true rfl⟩)) (hr_preR hKX hP [5, 6, 7, 8] rfl (ci := 3) (q0 := 5) (q := (RRR, TRR, 4)) rfl rfl) rfl rfl hl.1 rfl (lv_room (Nat.le_of_ble_eq_true rfl)) dSR_verdict_27 ⟨by omega, by omega⟩).run (fun rv hrv => ?_)
      refine hr_eqi hrv ?_
      have ha0 := anyB_lt pr vs 24
      refine hr_if_eq hx hb (x := anyB pr vs 24) (by omega) (tgt := 37) dSR_verdict_30 (by decide) (fun c_3 => ?_) (fun c_3 => ?_)
      · refine lv_iconst (v := nI 1) hx hb dSR_verdict_37 (by decide +kernel) ?_
        rw [← hQe]
        exact W.iret (v := nI 1) hx hb hr (fun t ht hW => ⟨_, rfl, by rw [vrd, if_neg c_1, if_pos hs1, if_pos c_3], by rw [ht]⟩) (fun q h => by cases h) dSR_verdict_38
      · refine lv_iconst (v := nI 2) hx hb dSR_verdict_33 (by decide +kernel) ?_
        refine lv_goto (tgt := 38) hx hb dSR_verdict_34 (by decide) ?_
        rw [← hQe]
        exact W.iret (v := nI 2) hx hb hr (fun t ht hW => ⟨_, rfl, by rw [vrd, if_neg c_1, if_pos hs1, if_neg c_3], by rw [ht]⟩) (fun q h => by cases h) dSR_verdict_38
    · have hs1 : ¬ (nthZ (misZ sf pr) (nI 0) 24 0 0) = none := fun z => c_2 (by rw [z]; rfl)
      refine lv_iconst (v := nI 0) hx hb dSR_verdict_21 (by decide +kernel) ?_
      rw [← hQe]
      exact W.iret (v := nI 0) hx hb hr (fun t ht hW => ⟨_, rfl, by rw [vrd, if_neg c_1, if_neg hs1], by rw [ht]⟩) (fun q h => by cases h) dSR_verdict_22
  · refine lv_iconst (v := (-1)) hx hb dSR_verdict_10 (by decide +kernel) ?_
    rw [← hQe]
    exact W.iret (v := (-1)) hx hb hr (fun t ht hW => ⟨_, rfl, by rw [vrd, if_pos c_1], by rw [ht]⟩) (fun q h => by cases h) dSR_verdict_11

set_option maxHeartbeats 400000 in
set_option maxRecDepth 100000 in
/-- draw -/
theorem c_SR_draw (l : Launch) (dC : Nat → ClassId) (dI : Nat → Nat → Nat) (cI cZ cG : ClassId) (hC : Nat) (h : Nat) (hG : Nat) (kS : Nat) (hY : Nat) (h5 : Nat) (h6 : Nat) (kD : Nat) (k : Nat) (a5 : Nat) (b5 : Nat) (d5 : Nat) (sc : Nat) (mv : Nat) (s5 : Nat → Nat) (zs : Nat → Nat) (sf : Nat → Option Nat) (aD : Nat) (dn : Nat) (wr : Nat → Nat) (x : Int32) (z : Int64) (sz : Nat) (hsc : sc ≤ 4) (hsf : ∀ j, j < 24 → ∀ q, sf j = some q → q < 4) : Met l ySR_draw wsSR_draw ({ frames := 3, cells := 0, slots := 0, locals := 64 }) (va_Pc [.ref hC, .int x, .long z] (fun U => U.heap.size = sz ∧ va_P (dC, dI) vwCl [(hC, .inr (7, [.ref h, .ref hG, .ref kS, .ref hY, .ref h5, .ref h6, .ref kD, .int (nI k)])), (h5, .inr (5, [.int (nI sc), .int (nI mv), .ref a5, .ref b5, .ref d5])), (a5, .inl (cI, 4, .inl (fun j9 => nI (s5 j9)))), (b5, .inl (cI, 4, .inl (fun j9 => nI (zs j9)))), (d5, .inl (cI, 24, .inl (fun j9 => oI (sf j9)))), (kD, .inr (2, [.int (nI dn), .ref aD])), (aD, .inl (cI, 24, .inl (fun j9 => nI (wr j9))))] U.heap ∧ KX dC dI cI cZ cG U ∧ va_D (fun _ => True) [(hC, .inr (7, [.ref h, .ref hG, .ref kS, .ref hY, .ref h5, .ref h6, .ref kD, .int (nI k)])), (h5, .inr (5, [.int (nI sc), .int (nI mv), .ref a5, .ref b5, .ref d5])), (a5, .inl (cI, 4, .inl (fun j9 => nI (s5 j9)))), (b5, .inl (cI, 4, .inl (fun j9 => nI (zs j9)))), (d5, .inl (cI, 24, .inl (fun j9 => oI (sf j9)))), (kD, .inr (2, [.int (nI dn), .ref aD])), (aD, .inl (cI, 24, .inl (fun j9 => nI (wr j9))))])) (va_Qi (fun (r : Int32) (u : Unit) => r = ((drwN sc x).elim (-1) (fun q => nI (dgN sf q 24)))) (fun u t => va_P (dC, dI) vwCl [(hC, .inr (7, [.ref h, .ref hG, .ref kS, .ref hY, .ref h5, .ref h6, .ref kD, .int (nI k)])), (h5, .inr (5, [.int (nI sc), .int (nI mv), .ref a5, .ref b5, .ref d5])), (a5, .inl (cI, 4, .inl (fun j9 => nI (s5 j9)))), (b5, .inl (cI, 4, .inl (fun j9 => nI (zs j9)))), (d5, .inl (cI, 24, .inl (fun j9 => oI (sf j9)))), (kD, .inr (2, [.int (nI ((drwN sc x).elim dn (fun q => dgN sf q 24))), .ref aD])), (aD, .inl (cI, 24, .inl (fun j9 => nI (((drwN sc x).elim wr (fun q => shf (dgN sf q 24 - 1) z (dgR sf q wr 24))) j9))))] t.heap ∧ va_D (va_A [(hC, .inr (7, [.ref h, .ref hG, .ref kS, .ref hY, .ref h5, .ref h6, .ref kD, .int (nI k)])), (h5, .inr (5, [.int (nI sc), .int (nI mv), .ref a5, .ref b5, .ref d5])), (a5, .inl (cI, 4, .inl (fun j9 => nI (s5 j9)))), (b5, .inl (cI, 4, .inl (fun j9 => nI (zs j9)))), (d5, .inl (cI, 24, .inl (fun j9 => oI (sf j9)))), (kD, .inr (2, [.int (nI dn), .ref aD])), (aD, .inl (cI, 24, .inl (fun j9 => nI (wr j9))))] sz) [(hC, .inr (7, [.ref h, .ref hG, .ref kS, .ref hY, .ref h5, .ref h6, .ref kD, .int (nI k)])), (h5, .inr (5, [.int (nI sc), .int (nI mv), .ref a5, .ref b5, .ref d5])), (a5, .inl (cI, 4, .inl (fun j9 => nI (s5 j9)))), (b5, .inl (cI, 4, .inl (fun j9 => nI (zs j9)))), (d5, .inl (cI, 24, .inl (fun j9 => oI (sf j9)))), (kD, .inr (2, [.int (nI ((drwN sc x).elim dn (fun q => dgN sf q 24))), .ref aD])), (aD, .inl (cI, 24, .inl (fun j9 => nI (((drwN sc x).elim wr (fun q => shf (dgN sf q 24 - 1) z (dgR sf q wr 24))) j9))))]) (va_A [(hC, .inr (7, [.ref h, .ref hG, .ref kS, .ref hY, .ref h5, .ref h6, .ref kD, .int (nI k)])), (h5, .inr (5, [.int (nI sc), .int (nI mv), .ref a5, .ref b5, .ref d5])), (a5, .inl (cI, 4, .inl (fun j9 => nI (s5 j9)))), (b5, .inl (cI, 4, .inl (fun j9 => nI (zs j9)))), (d5, .inl (cI, 24, .inl (fun j9 => oI (sf j9)))), (kD, .inr (2, [.int (nI dn), .ref aD])), (aD, .inl (cI, 24, .inl (fun j9 => nI (wr j9))))] sz)) 0 0 (va_A [(hC, .inr (7, [.ref h, .ref hG, .ref kS, .ref hY, .ref h5, .ref h6, .ref kD, .int (nI k)])), (h5, .inr (5, [.int (nI sc), .int (nI mv), .ref a5, .ref b5, .ref d5])), (a5, .inl (cI, 4, .inl (fun j9 => nI (s5 j9)))), (b5, .inl (cI, 4, .inl (fun j9 => nI (zs j9)))), (d5, .inl (cI, 24, .inl (fun j9 => oI (sf j9)))), (kD, .inr (2, [.int (nI dn), .ref aD])), (aD, .inl (cI, 24, .inl (fun j9 => nI (wr j9))))] sz) := by
  refine Met.ofW (cc := cSR_draw) (maxL := 4) (ret := (some .int)) (by decide) rfl ?_
  intro p e s m args below meth c s₁ B hml hv
  obtain ⟨rfl, hsz, hP, hKX, hD0⟩ := hv
  have hK := hKX.1
  have hx := B.exec
  have hb := B.bytes
  have hr := B.returns
  have hts := atoms_spec (ws := wsSR_draw) B.pre
  have hown : s.vm.findClass RSR = some m.cls := findClass_of_methodNamed B.named
  have hlocks := B.notSynchronized
  subst hsz
  have hD := hD0.self (sz := s.heap.size)
  generalize hAe : va_A [(hC, .inr (7, [.ref h, .ref hG, .ref kS, .ref hY, .ref h5, .ref h6, .ref kD, .int (nI k)])), (h5, .inr (5, [.int (nI sc), .int (nI mv), .ref a5, .ref b5, .ref d5])), (a5, .inl (cI, 4, .inl (fun j9 => nI (s5 j9)))), (b5, .inl (cI, 4, .inl (fun j9 => nI (zs j9)))), (d5, .inl (cI, 24, .inl (fun j9 => oI (sf j9)))), (kD, .inr (2, [.int (nI dn), .ref aD])), (aD, .inl (cI, 24, .inl (fun j9 => nI (wr j9))))] s.heap.size = A at hD ⊢
  have hA : ∀ q : Nat, s.heap.size ≤ q → A q := fun q h => by rw [← hAe]; exact Or.inr h
  have hS : va_S A s.heap s.heap [] := va_S.rf
  have hl := lv_entry ([.ref hC, .int x, .long z]) (n := 4) (Nat.le_of_ble_eq_true rfl)
  rw [lg_entry_eq]
  generalize (lg_sl ([.ref hC, .int x, .long z]) ++ List.replicate (4 - (lg_sl ([.ref hC, .int x, .long z])).length) Slot.unset).toArray = ls at hl ⊢
  have hl : lv_has ls 4 [(0, .ref hC), (1, .int x), (2, .long z)] := hl
  generalize hRe : (headSpec wsSR_draw ({ frames := 3, cells := 0, slots := 0, locals := 64 })).room = R
  have hRf : 3 ≤ R.frames := by rw [← hRe]; exact Nat.le_refl _
  have hRl : 64 ≤ R.locals := by rw [← hRe]; exact Nat.le_refl _
  have hRc : 0 ≤ R.cells := by rw [← hRe]; exact Nat.le_refl _
  have hRs : 0 ≤ R.slots := by rw [← hRe]; exact Nat.le_refl _
  generalize hargs : (List.toArray [.ref hC, .int x, .long z] : Array Value) = args at hts ⊢
  generalize hQe : MQ below _ args s _ _ _ = Q
  refine lv_aload_n hx hb dSR_draw_0 rfl (lv_at hl 0 rfl) ?_
  refine va_get (D := (dC, dI)) (ci := 7) (v := .ref h5) (C := RSR) (T := TSR) (N := 8) hx hb hts (fun w h => List.mem_cons_of_mem _ (inSR w h)) hown hK hP 0 rfl rfl 4 (by decide) (hts _ (List.mem_cons_of_mem _ kw_228)) (fun _ h9 => h9) rfl dSR_draw_1 ?_
  refine lv_iload_n hx hb dSR_draw_4 rfl (lv_at hl 1 rfl) ?_
  refine vp_callSi (va_runV (C := RSP) (As := [.int x]) (rest := []) ⟨hx, hb, hml, hown, hts⟩ (c_SP_hasShard l dC dI cI cZ cG h5 a5 b5 d5 sc mv s5 zs sf x (hsc)) (hr_cwV 1 hts kw_413 kw_383 kw_384 kw_29 kw_385 (by decide +kernel) (by rw [← hRe]; exact ⟨Nat.le_of_ble_eq_true rfl, Nat.le_of_ble_eq_true rfl⟩)) (hr_preR hKX hP [1, 2, 3, 4] rfl (ci := 5) (q0 := 1) (q := (RSP, TSP, 5)) rfl rfl) rfl rfl hl.1 rfl (lv_room (Nat.le_of_ble_eq_true rfl)) dSR_draw_5 ⟨by omega, by omega⟩).run (fun rv hrv => ?_)
  refine hr_eqi hrv ?_
  have hb0 := inB_lt x sc
  refine hr_if_ne hx hb (x := inB x sc) (by omega) (tgt := 13) dSR_draw_8 (by decide) (fun c_1 => ?_) (fun c_1 => ?_)
  · obtain ⟨q, hq, rfl⟩ := inB_pos (by omega) c_1
    refine lv_aload_n hx hb dSR_draw_13 rfl (lv_at hl 0 rfl) ?_
    refine va_get (D := (dC, dI)) (ci := 7) (v := .ref kD) (C := RSR) (T := TSR) (N := 8) hx hb hts (fun w h => List.mem_cons_of_mem _ (inSR w h)) hown hK hP 0 rfl rfl 6 (by decide) (hts _ (List.mem_cons_of_mem _ kw_230)) (fun _ h9 => h9) rfl dSR_draw_14 ?_
    refine lv_aload_n hx hb dSR_draw_17 rfl (lv_at hl 0 rfl) ?_
    refine va_get (D := (dC, dI)) (ci := 7) (v := .ref h5) (C := RSR) (T := TSR) (N := 8) hx hb hts (fun w h => List.mem_cons_of_mem _ (inSR w h)) hown hK hP 0 rfl rfl 4 (by decide) (hts _ (List.mem_cons_of_mem _ kw_228)) (fun _ h9 => h9) rfl dSR_draw_18 ?_
    refine lv_iload_n hx hb dSR_draw_21 rfl (lv_at hl 1 rfl) ?_
    refine hr_callv (wr := [(hC, .inr (7, [.ref h, .ref hG, .ref kS, .ref hY, .ref h5, .ref h6, .ref kD, .int (nI k)]))]) (va_runV (C := RDR) (As := [.ref h5, .int (nI q)]) (rest := []) ⟨hx, hb, hml, hown, hts⟩ (c_DR_gather l dC dI cI cZ cG kD aD dn wr h5 a5 b5 d5 sc mv s5 zs sf q s.heap.size (by omega) (hsf)) (hr_cwV 2 hts kw_426 kw_427 kw_428 kw_32 kw_429 (by decide +kernel) (by rw [← hRe]; exact ⟨Nat.le_of_ble_eq_true rfl, Nat.le_of_ble_eq_true rfl⟩)) (hr_preW hKX hP hD [5, 6, 1, 2, 3, 4] (by decide) rfl (ci := 2) (q0 := 5) (q := (RDR, TDR, 2)) rfl rfl) rfl rfl hl.1 rfl (lv_room (Nat.le_of_ble_eq_true rfl)) dSR_draw_22 ⟨by omega, by omega⟩) hP hD hS hA [5, 6, 1, 2, 3, 4] [0] rfl rfl (by decide) (by decide) [0, 3, 4, 5, 6, 1, 2] (fun u => [(hC, .inr (7, [.ref h, .ref hG, .ref kS, .ref hY, .ref h5, .ref h6, .ref kD, .int (nI k)])), (h5, .inr (5, [.int (nI sc), .int (nI mv), .ref a5, .ref b5, .ref d5])), (a5, .inl (cI, 4, .inl (fun j9 => nI (s5 j9)))), (b5, .inl (cI, 4, .inl (fun j9 => nI (zs j9)))), (d5, .inl (cI, 24, .inl (fun j9 => oI (sf j9)))), (kD, .inr (2, [.int (nI (dgN sf q 24)), .ref aD])), (aD, .inl (cI, 24, .inl (fun j9 => nI ((dgR sf q wr 24) j9))))]) (by decide) (fun u => rfl) (fun u H locs hrv hP hD hS => ?_)
    have hP : va_P (dC, dI) vwCl [(hC, .inr (7, [.ref h, .ref hG, .ref kS, .ref hY, .ref h5, .ref h6, .ref kD, .int (nI k)])), (h5, .inr (5, [.int (nI sc), .int (nI mv), .ref a5, .ref b5, .ref d5])), (a5, .inl (cI, 4, .inl (fun j9 => nI (s5 j9)))), (b5, .inl (cI, 4, .inl (fun j9 => nI (zs j9)))), (d5, .inl (cI, 24, .inl (fun j9 => oI (sf j9)))), (kD, .inr (2, [.int (nI (dgN sf q 24)), .ref aD])), (aD, .inl (cI, 24, .inl (fun j9 => nI ((dgR sf q wr 24) j9))))] H := hP
    have hD : va_D A [(hC, .inr (7, [.ref h, .ref hG, .ref kS, .ref hY, .ref h5, .ref h6, .ref kD, .int (nI k)])), (h5, .inr (5, [.int (nI sc), .int (nI mv), .ref a5, .ref b5, .ref d5])), (a5, .inl (cI, 4, .inl (fun j9 => nI (s5 j9)))), (b5, .inl (cI, 4, .inl (fun j9 => nI (zs j9)))), (d5, .inl (cI, 24, .inl (fun j9 => oI (sf j9)))), (kD, .inr (2, [.int (nI (dgN sf q 24)), .ref aD])), (aD, .inl (cI, 24, .inl (fun j9 => nI ((dgR sf q wr 24) j9))))] := hD
    refine lv_aload_n hx hb dSR_draw_25 rfl (lv_at hl 0 rfl) ?_
    refine va_get (D := (dC, dI)) (ci := 7) (v := .ref kD) (C := RSR) (T := TSR) (N := 8) hx hb hts (fun w h => List.mem_cons_of_mem _ (inSR w h)) hown hK hP 0 rfl rfl 6 (by decide) (hts _ (List.mem_cons_of_mem _ kw_230)) (fun _ h9 => h9) rfl dSR_draw_26 ?_
    refine lv_lload_n hx hb dSR_draw_29 rfl (lv_at hl 2 rfl) ?_
    refine hr_callv (wr := [(hC, .inr (7, [.ref h, .ref hG, .ref kS, .ref hY, .ref h5, .ref h6, .ref kD, .int (nI k)])), (h5, .inr (5, [.int (nI sc), .int (nI mv), .ref a5, .ref b5, .ref d5])), (a5, .inl (cI, 4, .inl (fun j9 => nI (s5 j9)))), (b5, .inl (cI, 4, .inl (fun j9 => nI (zs j9)))), (d5, .inl (cI, 24, .inl (fun j9 => oI (sf j9))))]) (va_runV (C := RDR) (As := [.long z]) (rest := []) ⟨hx, hb, hml, hown, hts⟩ (c_DR_shuffle l dC dI cI cZ cG kD aD (dgN sf q 24) (dgR sf q wr 24) z H.size (dgN_le sf q 24)) (hr_cwV 1 hts kw_431 kw_432 kw_433 kw_32 kw_434 (by decide +kernel) (by rw [← hRe]; exact ⟨Nat.le_of_ble_eq_true rfl, Nat.le_of_ble_eq_true rfl⟩)) (hr_preW hKX hP hD [5, 6] (by decide) rfl (ci := 2) (q0 := 5) (q := (RDR, TDR, 2)) rfl rfl) rfl rfl hl.1 rfl (lv_room (Nat.le_of_ble_eq_true rfl)) dSR_draw_30 ⟨by omega, by omega⟩) hP hD hS hA [5, 6] [0, 1, 2, 3, 4] rfl rfl (by decide) (by decide) [0, 1, 2, 3, 4, 5, 6] (fun u => [(hC, .inr (7, [.ref h, .ref hG, .ref kS, .ref hY, .ref h5, .ref h6, .ref kD, .int (nI k)])), (h5, .inr (5, [.int (nI sc), .int (nI mv), .ref a5, .ref b5, .ref d5])), (a5, .inl (cI, 4, .inl (fun j9 => nI (s5 j9)))), (b5, .inl (cI, 4, .inl (fun j9 => nI (zs j9)))), (d5, .inl (cI, 24, .inl (fun j9 => oI (sf j9)))), (kD, .inr (2, [.int (nI (dgN sf q 24)), .ref aD])), (aD, .inl (cI, 24, .inl (fun j9 => nI ((shf ((dgN sf q 24) - 1) z (dgR sf q wr 24)) j9))))]) (by decide) (fun u => rfl) (fun u H locs hrv hP hD hS => ?_)
    have hP : va_P (dC, dI) vwCl [(hC, .inr (7, [.ref h, .ref hG, .ref kS, .ref hY, .ref h5, .ref h6, .ref kD, .int (nI k)])), (h5, .inr (5, [.int (nI sc), .int (nI mv), .ref a5, .ref b5, .ref d5])), (a5, .inl (cI, 4, .inl (fun j9 => nI (s5 j9)))), (b5, .inl (cI, 4, .inl (fun j9 => nI (zs j9)))), (d5, .inl (cI, 24, .inl (fun j9 => oI (sf j9)))), (kD, .inr (2, [.int (nI (dgN sf q 24)), .ref aD])), (aD, .inl (cI, 24, .inl (fun j9 => nI ((shf ((dgN sf q 24) - 1) z (dgR sf q wr 24)) j9))))] H := hP
    have hD : va_D A [(hC, .inr (7, [.ref h, .ref hG, .ref kS, .ref hY, .ref h5, .ref h6, .ref kD, .int (nI k)])), (h5, .inr (5, [.int (nI sc), .int (nI mv), .ref a5, .ref b5, .ref d5])), (a5, .inl (cI, 4, .inl (fun j9 => nI (s5 j9)))), (b5, .inl (cI, 4, .inl (fun j9 => nI (zs j9)))), (d5, .inl (cI, 24, .inl (fun j9 => oI (sf j9)))), (kD, .inr (2, [.int (nI (dgN sf q 24)), .ref aD])), (aD, .inl (cI, 24, .inl (fun j9 => nI ((shf ((dgN sf q 24) - 1) z (dgR sf q wr 24)) j9))))] := hD
    refine lv_aload_n hx hb dSR_draw_33 rfl (lv_at hl 0 rfl) ?_
    refine va_get (D := (dC, dI)) (ci := 7) (v := .ref kD) (C := RSR) (T := TSR) (N := 8) hx hb hts (fun w h => List.mem_cons_of_mem _ (inSR w h)) hown hK hP 0 rfl rfl 6 (by decide) (hts _ (List.mem_cons_of_mem _ kw_230)) (fun _ h9 => h9) rfl dSR_draw_34 ?_
    refine va_get (D := (dC, dI)) (ci := 2) (v := .int (nI (dgN sf q 24))) (C := RDR) (T := TDR) (N := 2) hx hb hts (fun w h => List.mem_cons_of_mem _ (inDR w h)) hown hK hP 5 rfl rfl 0 (by decide) (hts _ (List.mem_cons_of_mem _ kw_217)) (fun _ h9 => h9) rfl dSR_draw_37 ?_
    have ez : drwN sc (nI q) = some q := by simp [drwN, inB_nI hq (show sc < 2 ^ 31 by omega), nI_clamp (show q < 2 ^ 31 by omega)]
    rw [← hQe]
    exact W.iret (v := nI (dgN sf q 24)) hx hb hr (fun t ht hW => ⟨⟨_, (), rfl, by rw [ez]; rfl, by rw [ht, ez]; exact hP, by rw [ez]; exact hD⟩, hS.F ht⟩) hS.2.2 dSR_draw_40
  · refine lv_iconst (v := (-1)) hx hb dSR_draw_11 (by decide +kernel) ?_
    have ez : drwN sc x = none := if_pos c_1
    rw [← hQe]
    exact W.iret (v := (-1)) hx hb hr (fun t ht hW => ⟨⟨_, (), rfl, by rw [ez]; rfl, by rw [ht, ez]; exact hP, by rw [ez]; exact hD⟩, hS.F ht⟩) hS.2.2 dSR_draw_12

set_option maxHeartbeats 400000 in
set_option maxRecDepth 100000 in
/-- result -/
theorem c_SR_result (l : Launch) (dC : Nat → ClassId) (dI : Nat → Nat → Nat) (cI cZ cG : ClassId) (hC : Nat) (h : Nat) (hG : Nat) (kS : Nat) (hY : Nat) (h5 : Nat) (h6 : Nat) (kD : Nat) (k : Nat) (a5 : Nat) (b5 : Nat) (d5 : Nat) (sc : Nat) (mv : Nat) (s5 : Nat → Nat) (zs : Nat → Nat) (sf : Nat → Option Nat) (a6 : Nat) (b6 : Nat) (d6 : Nat) (sg : Nat) (pr : Nat → Nat) (vs : Nat → Int32) (tc : Nat → Nat) (x : Int32) (y : Int32) (z : Int32) (sz : Nat) (hsc : sc ≤ 4) (hsf : ∀ j, j < 24 → ∀ q, sf j = some q → q < 4) (hpr : ∀ j, j < 24 → pr j < 2) : Met l ySR_result wsSR_result ({ frames := 2, cells := 0, slots := 0, locals := 42 }) (va_Pc [.ref hC, .int x, .int y, .int z] (fun U => U.heap.size = sz ∧ va_P (dC, dI) vwCl [(hC, .inr (7, [.ref h, .ref hG, .ref kS, .ref hY, .ref h5, .ref h6, .ref kD, .int (nI k)])), (h5, .inr (5, [.int (nI sc), .int (nI mv), .ref a5, .ref b5, .ref d5])), (a5, .inl (cI, 4, .inl (fun j9 => nI (s5 j9)))), (b5, .inl (cI, 4, .inl (fun j9 => nI (zs j9)))), (d5, .inl (cI, 24, .inl (fun j9 => oI (sf j9)))), (h6, .inr (3, [.int (nI sg), .ref a6, .ref b6, .ref d6])), (a6, .inl (cZ, 24, .inl (fun j9 => nI (pr j9)))), (b6, .inl (cI, 24, .inl vs)), (d6, .inl (cI, 24, .inl (fun j9 => nI (tc j9))))] U.heap ∧ KX dC dI cI cZ cG U ∧ va_D (fun _ => True) [(hC, .inr (7, [.ref h, .ref hG, .ref kS, .ref hY, .ref h5, .ref h6, .ref kD, .int (nI k)])), (h5, .inr (5, [.int (nI sc), .int (nI mv), .ref a5, .ref b5, .ref d5])), (a5, .inl (cI, 4, .inl (fun j9 => nI (s5 j9)))), (b5, .inl (cI, 4, .inl (fun j9 => nI (zs j9)))), (d5, .inl (cI, 24, .inl (fun j9 => oI (sf j9)))), (h6, .inr (3, [.int (nI sg), .ref a6, .ref b6, .ref d6])), (a6, .inl (cZ, 24, .inl (fun j9 => nI (pr j9)))), (b6, .inl (cI, 24, .inl vs)), (d6, .inl (cI, 24, .inl (fun j9 => nI (tc j9))))])) (va_Qi (fun (r : Int32) (u : Unit) => r = (rsA sf sc pr x y)) (fun u t => va_P (dC, dI) vwCl [(hC, .inr (7, [.ref h, .ref hG, .ref kS, .ref hY, .ref h5, .ref h6, .ref kD, .int (nI k)])), (h5, .inr (5, [.int (nI sc), .int (nI mv), .ref a5, .ref b5, .ref d5])), (a5, .inl (cI, 4, .inl (fun j9 => nI (s5 j9)))), (b5, .inl (cI, 4, .inl (fun j9 => nI (zs j9)))), (d5, .inl (cI, 24, .inl (fun j9 => oI (sf j9)))), (h6, .inr (3, [.int (nI (if rsC sf sc x y = 1 then sg + 1 else sg)), .ref a6, .ref b6, .ref d6])), (a6, .inl (cZ, 24, .inl (fun j9 => nI (((rsP sf sc pr x y).elim pr (fun j => va_up pr j 1)) j9)))), (b6, .inl (cI, 24, .inl ((rsP sf sc pr x y).elim vs (fun j => upd vs j z)))), (d6, .inl (cI, 24, .inl (fun j9 => nI (((rsP sf sc pr x y).elim tc (fun j => va_up tc j (tc j + 1))) j9))))] t.heap ∧ va_D (va_A [(hC, .inr (7, [.ref h, .ref hG, .ref kS, .ref hY, .ref h5, .ref h6, .ref kD, .int (nI k)])), (h5, .inr (5, [.int (nI sc), .int (nI mv), .ref a5, .ref b5, .ref d5])), (a5, .inl (cI, 4, .inl (fun j9 => nI (s5 j9)))), (b5, .inl (cI, 4, .inl (fun j9 => nI (zs j9)))), (d5, .inl (cI, 24, .inl (fun j9 => oI (sf j9)))), (h6, .inr (3, [.int (nI sg), .ref a6, .ref b6, .ref d6])), (a6, .inl (cZ, 24, .inl (fun j9 => nI (pr j9)))), (b6, .inl (cI, 24, .inl vs)), (d6, .inl (cI, 24, .inl (fun j9 => nI (tc j9))))] sz) [(hC, .inr (7, [.ref h, .ref hG, .ref kS, .ref hY, .ref h5, .ref h6, .ref kD, .int (nI k)])), (h5, .inr (5, [.int (nI sc), .int (nI mv), .ref a5, .ref b5, .ref d5])), (a5, .inl (cI, 4, .inl (fun j9 => nI (s5 j9)))), (b5, .inl (cI, 4, .inl (fun j9 => nI (zs j9)))), (d5, .inl (cI, 24, .inl (fun j9 => oI (sf j9)))), (h6, .inr (3, [.int (nI (if rsC sf sc x y = 1 then sg + 1 else sg)), .ref a6, .ref b6, .ref d6])), (a6, .inl (cZ, 24, .inl (fun j9 => nI (((rsP sf sc pr x y).elim pr (fun j => va_up pr j 1)) j9)))), (b6, .inl (cI, 24, .inl ((rsP sf sc pr x y).elim vs (fun j => upd vs j z)))), (d6, .inl (cI, 24, .inl (fun j9 => nI (((rsP sf sc pr x y).elim tc (fun j => va_up tc j (tc j + 1))) j9))))]) (va_A [(hC, .inr (7, [.ref h, .ref hG, .ref kS, .ref hY, .ref h5, .ref h6, .ref kD, .int (nI k)])), (h5, .inr (5, [.int (nI sc), .int (nI mv), .ref a5, .ref b5, .ref d5])), (a5, .inl (cI, 4, .inl (fun j9 => nI (s5 j9)))), (b5, .inl (cI, 4, .inl (fun j9 => nI (zs j9)))), (d5, .inl (cI, 24, .inl (fun j9 => oI (sf j9)))), (h6, .inr (3, [.int (nI sg), .ref a6, .ref b6, .ref d6])), (a6, .inl (cZ, 24, .inl (fun j9 => nI (pr j9)))), (b6, .inl (cI, 24, .inl vs)), (d6, .inl (cI, 24, .inl (fun j9 => nI (tc j9))))] sz)) 0 0 (va_A [(hC, .inr (7, [.ref h, .ref hG, .ref kS, .ref hY, .ref h5, .ref h6, .ref kD, .int (nI k)])), (h5, .inr (5, [.int (nI sc), .int (nI mv), .ref a5, .ref b5, .ref d5])), (a5, .inl (cI, 4, .inl (fun j9 => nI (s5 j9)))), (b5, .inl (cI, 4, .inl (fun j9 => nI (zs j9)))), (d5, .inl (cI, 24, .inl (fun j9 => oI (sf j9)))), (h6, .inr (3, [.int (nI sg), .ref a6, .ref b6, .ref d6])), (a6, .inl (cZ, 24, .inl (fun j9 => nI (pr j9)))), (b6, .inl (cI, 24, .inl vs)), (d6, .inl (cI, 24, .inl (fun j9 => nI (tc j9))))] sz) := by
  refine Met.ofW (cc := cSR_result) (maxL := 5) (ret := (some .int)) (by decide) rfl ?_
  intro p e s m args below meth c s₁ B hml hv
  obtain ⟨rfl, hsz, hP, hKX, hD0⟩ := hv
  have hK := hKX.1
  have hx := B.exec
  have hb := B.bytes
  have hr := B.returns
  have hts := atoms_spec (ws := wsSR_result) B.pre
  have hown : s.vm.findClass RSR = some m.cls := findClass_of_methodNamed B.named
  have hlocks := B.notSynchronized
  subst hsz
  have hD := hD0.self (sz := s.heap.size)
  generalize hAe : va_A [(hC, .inr (7, [.ref h, .ref hG, .ref kS, .ref hY, .ref h5, .ref h6, .ref kD, .int (nI k)])), (h5, .inr (5, [.int (nI sc), .int (nI mv), .ref a5, .ref b5, .ref d5])), (a5, .inl (cI, 4, .inl (fun j9 => nI (s5 j9)))), (b5, .inl (cI, 4, .inl (fun j9 => nI (zs j9)))), (d5, .inl (cI, 24, .inl (fun j9 => oI (sf j9)))), (h6, .inr (3, [.int (nI sg), .ref a6, .ref b6, .ref d6])), (a6, .inl (cZ, 24, .inl (fun j9 => nI (pr j9)))), (b6, .inl (cI, 24, .inl vs)), (d6, .inl (cI, 24, .inl (fun j9 => nI (tc j9))))] s.heap.size = A at hD ⊢
  have hA : ∀ q : Nat, s.heap.size ≤ q → A q := fun q h => by rw [← hAe]; exact Or.inr h
  have hS : va_S A s.heap s.heap [] := va_S.rf
  have hl := lv_entry ([.ref hC, .int x, .int y, .int z]) (n := 5) (Nat.le_of_ble_eq_true rfl)
  rw [lg_entry_eq]
  generalize (lg_sl ([.ref hC, .int x, .int y, .int z]) ++ List.replicate (5 - (lg_sl ([.ref hC, .int x, .int y, .int z])).length) Slot.unset).toArray = ls at hl ⊢
  have hl : lv_has ls 5 [(0, .ref hC), (1, .int x), (2, .int y), (3, .int z)] := hl
  generalize hRe : (headSpec wsSR_result ({ frames := 2, cells := 0, slots := 0, locals := 42 })).room = R
  have hRf : 2 ≤ R.frames := by rw [← hRe]; exact Nat.le_refl _
  have hRl : 42 ≤ R.locals := by rw [← hRe]; exact Nat.le_refl _
  have hRc : 0 ≤ R.cells := by rw [← hRe]; exact Nat.le_refl _
  have hRs : 0 ≤ R.slots := by rw [← hRe]; exact Nat.le_refl _
  generalize hargs : (List.toArray [.ref hC, .int x, .int y, .int z] : Array Value) = args at hts ⊢
  generalize hQe : MQ below _ args s _ _ _ = Q
  have hsA : ∀ q, shA sf x = some q → q < 2 ^ 31 := fun q hq => by
    by_cases hi : inB x 24 = 0
    · rw [shA_out hi] at hq; cases hq
    · obtain ⟨j, hj, rfl⟩ := inB_pos (by decide) hi
      rw [shA_nI hj] at hq; have := hsf j hj q hq; omega
  refine lv_aload_n hx hb dSR_result_0 rfl (lv_at hl 0 rfl) ?_
  refine va_get (D := (dC, dI)) (ci := 7) (v := .ref h5) (C := RSR) (T := TSR) (N := 8) hx hb hts (fun w h => List.mem_cons_of_mem _ (inSR w h)) hown hK hP 0 rfl rfl 4 (by decide) (hts _ (List.mem_cons_of_mem _ kw_228)) (fun _ h9 => h9) rfl dSR_result_1 ?_
  refine lv_iload_n hx hb dSR_result_4 rfl (lv_at hl 1 rfl) ?_
  refine vp_callSi (va_runV (C := RSP) (As := [.int x]) (rest := []) ⟨hx, hb, hml, hown, hts⟩ (c_SP_shardAt l dC dI cI cZ cG h5 a5 b5 d5 sc mv s5 zs sf x) (hr_cwV 1 hts kw_408 kw_334 kw_335 kw_29 kw_336 (by decide +kernel) (by rw [← hRe]; exact ⟨Nat.le_of_ble_eq_true rfl, Nat.le_of_ble_eq_true rfl⟩)) (hr_preR hKX hP [1, 2, 3, 4] rfl (ci := 5) (q0 := 1) (q := (RSP, TSP, 5)) rfl rfl) rfl rfl hl.1 rfl (lv_room (Nat.le_of_ble_eq_true rfl)) dSR_result_5 ⟨by omega, by omega⟩).run (fun rv hrv => ?_)
  refine hr_eqi hrv ?_
  refine lv_istore (lv' := [(4, .int (oI (shA sf x))), (0, .ref hC), (1, .int x), (2, .int y), (3, .int z)]) hx hb dSR_result_8 hl (by decide) rfl (fun ls hl => ?_)
  refine lv_iload hx hb dSR_result_10 (lv_at hl 0 rfl) ?_
  refine lv_iconst (v := (-1)) hx hb dSR_result_12 (by decide +kernel) ?_
  refine lv_icmp_eq (tgt := 27) hx hb dSR_result_13 (by decide) (fun c_1 => ?_) (fun c_1 => ?_)
  · have hs1 := (oI_m1 hsA).mp c_1
    have ec : rsC sf sc x y = 0 := by unfold rsC; rw [hs1]
    refine lv_iconst (v := (-1)) hx hb dSR_result_27 (by decide +kernel) ?_
    have e1 : rsA sf sc pr x y = -1 := by rw [rsA, if_pos ec]
    have e2 : rsP sf sc pr x y = none := by rw [rsP, if_neg (by omega)]
    have e3 : (if rsC sf sc x y = 1 then sg + 1 else sg) = sg := if_neg (by omega)
    rw [← hQe]
    exact W.iret (v := (-1)) hx hb hr (fun t ht hW => ⟨⟨_, (), rfl, (show _ = rsA sf sc pr x y by rw [e1]), by rw [ht, e2, e3]; exact hP, by rw [e2, e3]; exact hD⟩, hS.F ht⟩) hS.2.2 dSR_result_28
  · obtain ⟨q, hs1⟩ := oI_ex c_1
    have hq4 := hsA q hs1
    rw [hs1] at hl
    have hl : lv_has ls 5 [(4, .int (nI q)), (0, .ref hC), (1, .int x), (2, .int y), (3, .int z)] := hl
    refine lv_aload_n hx hb dSR_result_16 rfl (lv_at hl 1 rfl) ?_
    refine va_get (D := (dC, dI)) (ci := 7) (v := .ref h5) (C := RSR) (T := TSR) (N := 8) hx hb hts (fun w h => List.mem_cons_of_mem _ (inSR w h)) hown hK hP 0 rfl rfl 4 (by decide) (hts _ (List.mem_cons_of_mem _ kw_228)) (fun _ h9 => h9) rfl dSR_result_17 ?_
    refine lv_iload_n hx hb dSR_result_20 rfl (lv_at hl 3 rfl) ?_
    refine vp_callSi (va_runV (C := RSP) (As := [.int y]) (rest := []) ⟨hx, hb, hml, hown, hts⟩ (c_SP_hasShard l dC dI cI cZ cG h5 a5 b5 d5 sc mv s5 zs sf y (hsc)) (hr_cwV 1 hts kw_413 kw_383 kw_384 kw_29 kw_385 (by decide +kernel) (by rw [← hRe]; exact ⟨Nat.le_of_ble_eq_true rfl, Nat.le_of_ble_eq_true rfl⟩)) (hr_preR hKX hP [1, 2, 3, 4] rfl (ci := 5) (q0 := 1) (q := (RSP, TSP, 5)) rfl rfl) rfl rfl hl.1 rfl (lv_room (Nat.le_of_ble_eq_true rfl)) dSR_result_21 ⟨by omega, by omega⟩).run (fun rv hrv => ?_)
    refine hr_eqi hrv ?_
    have hb0 := inB_lt y sc
    refine hr_if_ne hx hb (x := inB y sc) (by omega) (tgt := 29) dSR_result_24 (by decide) (fun c_2 => ?_) (fun c_2 => ?_)
    · refine lv_iload hx hb dSR_result_29 (lv_at hl 0 rfl) ?_
      refine lv_iload_n hx hb dSR_result_31 rfl (lv_at hl 3 rfl) ?_
      refine lv_icmp_eq (tgt := 51) hx hb dSR_result_32 (by decide) (fun c_3 => ?_) (fun c_3 => ?_)
      · have ec : rsC sf sc x y = 2 := by unfold rsC; rw [hs1]; show (if inB y sc = 0 then 0 else if nI q = y then 2 else 1) = 2; rw [if_neg c_2, if_pos c_3]
        refine lv_aload_n hx hb dSR_result_51 rfl (lv_at hl 1 rfl) ?_
        refine va_get (D := (dC, dI)) (ci := 7) (v := .ref h6) (C := RSR) (T := TSR) (N := 8) hx hb hts (fun w h => List.mem_cons_of_mem _ (inSR w h)) hown hK hP 0 rfl rfl 5 (by decide) (hts _ (List.mem_cons_of_mem _ kw_229)) (fun _ h9 => h9) rfl dSR_result_52 ?_
        refine lv_iload_n hx hb dSR_result_55 rfl (lv_at hl 2 rfl) ?_
        refine lv_iload_n hx hb dSR_result_56 rfl (lv_at hl 4 rfl) ?_
        refine hr_calli (wr := [(hC, .inr (7, [.ref h, .ref hG, .ref kS, .ref hY, .ref h5, .ref h6, .ref kD, .int (nI k)])), (h5, .inr (5, [.int (nI sc), .int (nI mv), .ref a5, .ref b5, .ref d5])), (a5, .inl (cI, 4, .inl (fun j9 => nI (s5 j9)))), (b5, .inl (cI, 4, .inl (fun j9 => nI (zs j9)))), (d5, .inl (cI, 24, .inl (fun j9 => oI (sf j9))))]) (va_runV (C := RRR) (As := [.int x, .int z]) (rest := []) ⟨hx, hb, hml, hown, hts⟩ (c_RR_put l dC dI cI cZ cG h6 a6 b6 d6 sg pr vs tc x z s.heap.size (hpr)) (hr_cwV 2 hts kw_449 kw_450 kw_451 kw_31 kw_452 (by decide +kernel) (by rw [← hRe]; exact ⟨Nat.le_of_ble_eq_true rfl, Nat.le_of_ble_eq_true rfl⟩)) (hr_preW hKX hP hD [5, 6, 7, 8] (by decide) rfl (ci := 3) (q0 := 5) (q := (RRR, TRR, 4)) rfl rfl) rfl rfl hl.1 rfl (lv_room (Nat.le_of_ble_eq_true rfl)) dSR_result_57 ⟨by omega, by omega⟩) hP hD hS hA [5, 6, 7, 8] [0, 1, 2, 3, 4] rfl rfl (by decide) (by decide) [0, 1, 2, 3, 4, 5, 6, 7, 8] (fun u => [(hC, .inr (7, [.ref h, .ref hG, .ref kS, .ref hY, .ref h5, .ref h6, .ref kD, .int (nI k)])), (h5, .inr (5, [.int (nI sc), .int (nI mv), .ref a5, .ref b5, .ref d5])), (a5, .inl (cI, 4, .inl (fun j9 => nI (s5 j9)))), (b5, .inl (cI, 4, .inl (fun j9 => nI (zs j9)))), (d5, .inl (cI, 24, .inl (fun j9 => oI (sf j9)))), (h6, .inr (3, [.int (nI sg), .ref a6, .ref b6, .ref d6])), (a6, .inl (cZ, 24, .inl (fun j9 => nI (((putN pr x).elim pr (fun j => va_up pr j 1)) j9)))), (b6, .inl (cI, 24, .inl ((putN pr x).elim vs (fun j => upd vs j z)))), (d6, .inl (cI, 24, .inl (fun j9 => nI (((putN pr x).elim tc (fun j => va_up tc j (tc j + 1))) j9))))]) (by decide) (fun u => rfl) (fun rv u H locs hrv hP hD hS => ?_)
        have hP : va_P (dC, dI) vwCl [(hC, .inr (7, [.ref h, .ref hG, .ref kS, .ref hY, .ref h5, .ref h6, .ref kD, .int (nI k)])), (h5, .inr (5, [.int (nI sc), .int (nI mv), .ref a5, .ref b5, .ref d5])), (a5, .inl (cI, 4, .inl (fun j9 => nI (s5 j9)))), (b5, .inl (cI, 4, .inl (fun j9 => nI (zs j9)))), (d5, .inl (cI, 24, .inl (fun j9 => oI (sf j9)))), (h6, .inr (3, [.int (nI sg), .ref a6, .ref b6, .ref d6])), (a6, .inl (cZ, 24, .inl (fun j9 => nI (((putN pr x).elim pr (fun j => va_up pr j 1)) j9)))), (b6, .inl (cI, 24, .inl ((putN pr x).elim vs (fun j => upd vs j z)))), (d6, .inl (cI, 24, .inl (fun j9 => nI (((putN pr x).elim tc (fun j => va_up tc j (tc j + 1))) j9))))] H := hP
        have hD : va_D A [(hC, .inr (7, [.ref h, .ref hG, .ref kS, .ref hY, .ref h5, .ref h6, .ref kD, .int (nI k)])), (h5, .inr (5, [.int (nI sc), .int (nI mv), .ref a5, .ref b5, .ref d5])), (a5, .inl (cI, 4, .inl (fun j9 => nI (s5 j9)))), (b5, .inl (cI, 4, .inl (fun j9 => nI (zs j9)))), (d5, .inl (cI, 24, .inl (fun j9 => oI (sf j9)))), (h6, .inr (3, [.int (nI sg), .ref a6, .ref b6, .ref d6])), (a6, .inl (cZ, 24, .inl (fun j9 => nI (((putN pr x).elim pr (fun j => va_up pr j 1)) j9)))), (b6, .inl (cI, 24, .inl ((putN pr x).elim vs (fun j => upd vs j z)))), (d6, .inl (cI, 24, .inl (fun j9 => nI (((putN pr x).elim tc (fun j => va_up tc j (tc j + 1))) j9))))] := hD
        refine hr_eqi hrv ?_
        have hb1 : (putN pr x).elim 0 (fun _ => 1) < 2 := by cases putN pr x <;> simp
        refine hr_if_eq hx hb (x := ((putN pr x).elim 0 (fun _ => 1))) (by omega) (tgt := 67) dSR_result_60 (by decide) (fun c_4 => ?_) (fun c_4 => ?_)
        · refine lv_iconst (v := nI 0) hx hb dSR_result_67 (by decide +kernel) ?_
          have e1 : rsA sf sc pr x y = nI ((putN pr x).elim 0 (fun _ => 1)) := by rw [rsA, if_neg (by omega), if_neg (by omega)]
          have e2 : rsP sf sc pr x y = putN pr x := by rw [rsP, if_pos ec]
          have e3 : (if rsC sf sc x y = 1 then sg + 1 else sg) = sg := if_neg (by omega)
          rw [← hQe]
          exact W.iret (v := nI 0) hx hb hr (fun t ht hW => ⟨⟨_, (), rfl, (show _ = rsA sf sc pr x y by rw [e1]; exact congrArg nI (by omega)), by rw [ht, e2, e3]; exact hP, by rw [e2, e3]; exact hD⟩, hS.F ht⟩) hS.2.2 dSR_result_68
        · refine lv_iconst (v := nI 1) hx hb dSR_result_63 (by decide +kernel) ?_
          refine lv_goto (tgt := 68) hx hb dSR_result_64 (by decide) ?_
          have e1 : rsA sf sc pr x y = nI ((putN pr x).elim 0 (fun _ => 1)) := by rw [rsA, if_neg (by omega), if_neg (by omega)]
          have e2 : rsP sf sc pr x y = putN pr x := by rw [rsP, if_pos ec]
          have e3 : (if rsC sf sc x y = 1 then sg + 1 else sg) = sg := if_neg (by omega)
          rw [← hQe]
          exact W.iret (v := nI 1) hx hb hr (fun t ht hW => ⟨⟨_, (), rfl, (show _ = rsA sf sc pr x y by rw [e1]; exact congrArg nI (by omega)), by rw [ht, e2, e3]; exact hP, by rw [e2, e3]; exact hD⟩, hS.F ht⟩) hS.2.2 dSR_result_68
      · have ec : rsC sf sc x y = 1 := by unfold rsC; rw [hs1]; show (if inB y sc = 0 then 0 else if nI q = y then 2 else 1) = 1; rw [if_neg c_2, if_neg c_3]
        refine lv_aload_n hx hb dSR_result_35 rfl (lv_at hl 1 rfl) ?_
        refine va_get (D := (dC, dI)) (ci := 7) (v := .ref h6) (C := RSR) (T := TSR) (N := 8) hx hb hts (fun w h => List.mem_cons_of_mem _ (inSR w h)) hown hK hP 0 rfl rfl 5 (by decide) (hts _ (List.mem_cons_of_mem _ kw_229)) (fun _ h9 => h9) rfl dSR_result_36 ?_
        refine lv_dup hx hb dSR_result_39 rfl ?_
        refine va_get (D := (dC, dI)) (ci := 3) (v := .int (nI sg)) (C := RRR) (T := TRR) (N := 4) hx hb hts (fun w h => List.mem_cons_of_mem _ (inRR w h)) hown hK hP 5 rfl rfl 0 (by decide) (hts _ (List.mem_cons_of_mem _ kw_196)) (fun _ h9 => h9) rfl dSR_result_40 ?_
        refine lv_iconst (v := nI 1) hx hb dSR_result_43 (by decide +kernel) ?_
        refine lv_iadd hx hb dSR_result_44 ?_
        refine hr_eqi (nI_add _ _) ?_
        refine va_put (D := (dC, dI)) (ci := 3) (v := .int (nI (sg + 1))) (ty := .int) (C := RRR) (T := TRR) (N := 4) hx hb hts (fun w h => List.mem_cons_of_mem _ (inRR w h)) tyRR tyRR_ok nmRR hown hK hP hD hS 5 rfl rfl 0 (by decide) (hts _ (List.mem_cons_of_mem _ kw_196)) (fun _ h9 => h9) rfl (by decide +kernel) rfl rfl (Nat.le_of_ble_eq_true rfl) dSR_result_45 (fun H locs hP hD hS => ?_)
        have hP : va_P (dC, dI) vwCl [(hC, .inr (7, [.ref h, .ref hG, .ref kS, .ref hY, .ref h5, .ref h6, .ref kD, .int (nI k)])), (h5, .inr (5, [.int (nI sc), .int (nI mv), .ref a5, .ref b5, .ref d5])), (a5, .inl (cI, 4, .inl (fun j9 => nI (s5 j9)))), (b5, .inl (cI, 4, .inl (fun j9 => nI (zs j9)))), (d5, .inl (cI, 24, .inl (fun j9 => oI (sf j9)))), (h6, .inr (3, [.int (nI (sg + 1)), .ref a6, .ref b6, .ref d6])), (a6, .inl (cZ, 24, .inl (fun j9 => nI (pr j9)))), (b6, .inl (cI, 24, .inl vs)), (d6, .inl (cI, 24, .inl (fun j9 => nI (tc j9))))] H := hP
        have hD : va_D A [(hC, .inr (7, [.ref h, .ref hG, .ref kS, .ref hY, .ref h5, .ref h6, .ref kD, .int (nI k)])), (h5, .inr (5, [.int (nI sc), .int (nI mv), .ref a5, .ref b5, .ref d5])), (a5, .inl (cI, 4, .inl (fun j9 => nI (s5 j9)))), (b5, .inl (cI, 4, .inl (fun j9 => nI (zs j9)))), (d5, .inl (cI, 24, .inl (fun j9 => oI (sf j9)))), (h6, .inr (3, [.int (nI (sg + 1)), .ref a6, .ref b6, .ref d6])), (a6, .inl (cZ, 24, .inl (fun j9 => nI (pr j9)))), (b6, .inl (cI, 24, .inl vs)), (d6, .inl (cI, 24, .inl (fun j9 => nI (tc j9))))] := hD
        refine lv_bipush (v := (-2)) hx hb dSR_result_48 (by decide +kernel) ?_
        have e1 : rsA sf sc pr x y = -2 := by rw [rsA, if_neg (by omega), if_pos ec]
        have e2 : rsP sf sc pr x y = none := by rw [rsP, if_neg (by omega)]
        have e3 : (if rsC sf sc x y = 1 then sg + 1 else sg) = sg + 1 := if_pos ec
        rw [← hQe]
        exact W.iret (v := (-2)) hx hb hr (fun t ht hW => ⟨⟨_, (), rfl, (show _ = rsA sf sc pr x y by rw [e1]), by rw [ht, e2, e3]; exact hP, by rw [e2, e3]; exact hD⟩, hS.F ht⟩) hS.2.2 dSR_result_50
    · have ec : rsC sf sc x y = 0 := by unfold rsC; rw [hs1]; exact if_pos c_2
      refine lv_iconst (v := (-1)) hx hb dSR_result_27 (by decide +kernel) ?_
      have e1 : rsA sf sc pr x y = -1 := by rw [rsA, if_pos ec]
      have e2 : rsP sf sc pr x y = none := by rw [rsP, if_neg (by omega)]
      have e3 : (if rsC sf sc x y = 1 then sg + 1 else sg) = sg := if_neg (by omega)
      rw [← hQe]
      exact W.iret (v := (-1)) hx hb hr (fun t ht hW => ⟨⟨_, (), rfl, (show _ = rsA sf sc pr x y by rw [e1]), by rw [ht, e2, e3]; exact hP, by rw [e2, e3]; exact hD⟩, hS.F ht⟩) hS.2.2 dSR_result_28
