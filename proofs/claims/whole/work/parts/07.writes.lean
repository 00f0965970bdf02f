set_option maxHeartbeats 4000000 in
set_option maxRecDepth 100000 in
/-- a row is filled -/
theorem c_AR_fill (l : Launch) (dC : Nat → ClassId) (dI : Nat → Nat → Nat) (cI cZ cG : ClassId) (a : Nat) (N : Nat) (f : Nat → Int32) (x : Int32) (sz : Nat) (hN : N < 2 ^ 31) : Met l yAR_fill wsAR_fill ({ frames := 0, cells := 0, slots := 0, locals := 0 }) (va_Pc [.ref a, .int x] (fun U => U.heap.size = sz ∧ va_P (dC, dI) vwCl [(a, .inl (cI, N, .inl f))] U.heap ∧ KX dC dI cI cZ cG U ∧ va_D (fun _ => True) [(a, .inl (cI, N, .inl f))])) (va_Qv (fun (u : Unit) => True) (fun u t => va_P (dC, dI) vwCl [(a, .inl (cI, N, .inl (fun _ => x)))] t.heap ∧ va_D (va_A [(a, .inl (cI, N, .inl f))] sz) [(a, .inl (cI, N, .inl (fun _ => x)))]) (va_A [(a, .inl (cI, N, .inl f))] sz)) 0 0 (va_A [(a, .inl (cI, N, .inl f))] sz) := by
  refine Met.ofW (cc := cAR_fill) (maxL := 4) (ret := none) (by decide) rfl ?_
  intro p e s m args below meth c s₁ B hml hv
  obtain ⟨rfl, hsz, hP, hKX, hD0⟩ := hv
  have hK := hKX.1
  have hx := B.exec
  have hb := B.bytes
  have hr := B.returns
  have hts := atoms_spec (ws := wsAR_fill) B.pre
  have hown : s.vm.findClass RAR = some m.cls := findClass_of_methodNamed B.named
  have hlocks := B.notSynchronized
  subst hsz
  have hD := hD0.self (sz := s.heap.size)
  generalize hAe : va_A [(a, .inl (cI, N, .inl f))] s.heap.size = A at hD ⊢
  have hA : ∀ q : Nat, s.heap.size ≤ q → A q := fun q h => by rw [← hAe]; exact Or.inr h
  have hS : va_S A s.heap s.heap [] := va_S.rf
  have hl := lv_entry ([.ref a, .int x]) (n := 4) (Nat.le_of_ble_eq_true rfl)
  rw [lg_entry_eq]
  generalize (lg_sl ([.ref a, .int x]) ++ List.replicate (4 - (lg_sl ([.ref a, .int x])).length) Slot.unset).toArray = ls at hl ⊢
  have hl : lv_has ls 4 [(0, .ref a), (1, .int x)] := hl
  generalize hRe : (headSpec wsAR_fill ({ frames := 0, cells := 0, slots := 0, locals := 0 })).room = R
  have hRf : 0 ≤ R.frames := by rw [← hRe]; exact Nat.le_refl _
  have hRl : 0 ≤ R.locals := by rw [← hRe]; exact Nat.le_refl _
  have hRc : 0 ≤ R.cells := by rw [← hRe]; exact Nat.le_refl _
  have hRs : 0 ≤ R.slots := by rw [← hRe]; exact Nat.le_refl _
  generalize hargs : (List.toArray [.ref a, .int x] : Array Value) = args at hts ⊢
  generalize hQe : MQ below _ args s _ _ _ = Q
  refine lv_iconst (v := nI 0) hx hb dAR_fill_0 (by decide +kernel) ?_
  refine lv_istore_n (lv' := [(2, .int (nI 0)), (0, .ref a), (1, .int x)]) hx hb dAR_fill_1 rfl hl (by decide) rfl (fun ls hl => ?_)
  refine lv_aload_n hx hb dAR_fill_2 rfl (lv_at hl 1 rfl) ?_
  refine va_alen (v := nI N) hx hb hK hP 0 0 rfl rfl rfl dAR_fill_3 ?_
  refine lv_istore_n (lv' := [(3, .int (nI N)), (2, .int (nI 0)), (0, .ref a), (1, .int x)]) hx hb dAR_fill_4 rfl hl (by decide) rfl (fun ls hl => ?_)
  rw [← fillF_0 f x] at hP hD
  have loop_5 : ∀ (n9 : Nat) (i : Nat), i ≤ N → N + 1 ≤ i + n9 → ∀ (H : Heap) (locs : List Loc), va_P (dC, dI) vwCl [(a, .inl (cI, N, .inl (fillF f x i)))] H → va_D A [(a, .inl (cI, N, .inl (fillF f x i)))] → va_S A s.heap H locs → ∀ (ls : Array Slot), lv_has ls 4 [(2, .int (nI i)), (3, .int (nI N)), (0, .ref a), (1, .int x)] → W p l e R s m args below meth c H locs 0 0 Q (F0 m 5 ls []) := by
    intro n9
    induction n9 with
    | zero =>
      intro i hi hmeas
      exact absurd hmeas (by omega)
    | succ n9 ih_5 =>
      intro i hi hmeas H locs hP hD hS ls hl
      refine lv_iload_n hx hb dAR_fill_5 rfl (lv_at hl 0 rfl) ?_
      refine lv_iload_n hx hb dAR_fill_6 rfl (lv_at hl 1 rfl) ?_
      refine hr_icmp_ge hx hb (x := i) (y := N) (by omega) (by omega) (tgt := 20) dAR_fill_7 (by decide) (fun c_1 => ?_) (fun c_1 => ?_)
      · have ei : i = N := by omega
        subst ei
        have hP := hr_extP 0 (fun _ => x) rfl (fun j hj => fillF_in hj) hP
        have hD := hr_extD 0 (fun _ => x) rfl hD
        have hP : va_P (dC, dI) vwCl [(a, .inl (cI, i, .inl (fun _ => x)))] H := hP
        have hD : va_D A [(a, .inl (cI, i, .inl (fun _ => x)))] := hD
        rw [← hQe]
        exact W.vret hx hb hr (fun t ht hW => ⟨⟨(), rfl, trivial, by rw [ht]; exact hP, hD⟩, hS.F ht⟩) hS.2.2 dAR_fill_20
      · refine lv_aload_n hx hb dAR_fill_10 rfl (lv_at hl 2 rfl) ?_
        refine lv_iload_n hx hb dAR_fill_11 rfl (lv_at hl 0 rfl) ?_
        refine lv_iload_n hx hb dAR_fill_12 rfl (lv_at hl 3 rfl) ?_
        refine hr_iast hx hb hK hP hD hS 0 0 rfl rfl (i := i) (by omega) (by omega) dAR_fill_13 (fun H locs hP hD hS => ?_)
        have hP : va_P (dC, dI) vwCl [(a, .inl (cI, N, .inl (upd (fillF f x i) i x)))] H := hP
        have hD : va_D A [(a, .inl (cI, N, .inl (upd (fillF f x i) i x)))] := hD
        refine lv_iinc (v := nI (i + 1)) (lv' := [(2, .int (nI (i + 1))), (3, .int (nI N)), (0, .ref a), (1, .int x)]) hx hb dAR_fill_14 hl (k := 0) rfl (hr_inc _) (by decide) rfl (fun ls hl => ?_)
        refine lv_goto (tgt := 5) hx hb dAR_fill_17 (by decide) ?_
        rw [fillF_up] at hP hD
        exact ih_5 (i + 1) (by omega) (by omega) _ _ hP hD hS ls (lv_sub hl [0, 1, 2, 3] rfl)
  exact loop_5 (N + 1) 0 (by omega) (by omega) _ _ hP hD hS ls (lv_sub hl [1, 0, 2, 3] rfl)

set_option maxHeartbeats 4000000 in
set_option maxRecDepth 100000 in
/-- RESULTS go -/
theorem c_RR_forget (l : Launch) (dC : Nat → ClassId) (dI : Nat → Nat → Nat) (cI cZ cG : ClassId) (h : Nat) (a : Nat) (b : Nat) (d : Nat) (sg : Nat) (pr : Nat → Nat) (vs : Nat → Int32) (tc : Nat → Nat) (sz : Nat) : Met l yRR_forget wsRR_forget ({ frames := 1, cells := 0, slots := 0, locals := 23 }) (va_Pc [.ref h] (fun U => U.heap.size = sz ∧ va_P (dC, dI) vwCl [(h, .inr (3, [.int (nI sg), .ref a, .ref b, .ref d])), (a, .inl (cZ, 24, .inl (fun j9 => nI (pr j9)))), (b, .inl (cI, 24, .inl vs)), (d, .inl (cI, 24, .inl (fun j9 => nI (tc j9))))] U.heap ∧ KX dC dI cI cZ cG U ∧ va_D (fun _ => True) [(h, .inr (3, [.int (nI sg), .ref a, .ref b, .ref d])), (a, .inl (cZ, 24, .inl (fun j9 => nI (pr j9)))), (b, .inl (cI, 24, .inl vs)), (d, .inl (cI, 24, .inl (fun j9 => nI (tc j9))))])) (va_Qv (fun (u : Unit) => True) (fun u t => va_P (dC, dI) vwCl [(h, .inr (3, [.int (nI 0), .ref a, .ref b, .ref d])), (a, .inl (cZ, 24, .inl (fun j9 => nI ((fun _ => 0) j9)))), (b, .inl (cI, 24, .inl vs)), (d, .inl (cI, 24, .inl (fun j9 => nI ((fun _ => 0) j9))))] t.heap ∧ va_D (va_A [(h, .inr (3, [.int (nI sg), .ref a, .ref b, .ref d])), (a, .inl (cZ, 24, .inl (fun j9 => nI (pr j9)))), (b, .inl (cI, 24, .inl vs)), (d, .inl (cI, 24, .inl (fun j9 => nI (tc j9))))] sz) [(h, .inr (3, [.int (nI 0), .ref a, .ref b, .ref d])), (a, .inl (cZ, 24, .inl (fun j9 => nI ((fun _ => 0) j9)))), (b, .inl (cI, 24, .inl vs)), (d, .inl (cI, 24, .inl (fun j9 => nI ((fun _ => 0) j9))))]) (va_A [(h, .inr (3, [.int (nI sg), .ref a, .ref b, .ref d])), (a, .inl (cZ, 24, .inl (fun j9 => nI (pr j9)))), (b, .inl (cI, 24, .inl vs)), (d, .inl (cI, 24, .inl (fun j9 => nI (tc j9))))] sz)) 0 0 (va_A [(h, .inr (3, [.int (nI sg), .ref a, .ref b, .ref d])), (a, .inl (cZ, 24, .inl (fun j9 => nI (pr j9)))), (b, .inl (cI, 24, .inl vs)), (d, .inl (cI, 24, .inl (fun j9 => nI (tc j9))))] sz) := by
  refine Met.ofW (cc := cRR_forget) (maxL := 2) (ret := none) (by decide) rfl ?_
  intro p e s m args below meth c s₁ B hml hv
  obtain ⟨rfl, hsz, hP, hKX, hD0⟩ := hv
  have hK := hKX.1
  have hx := B.exec
  have hb := B.bytes
  have hr := B.returns
  have hts := atoms_spec (ws := wsRR_forget) B.pre
  have hown : s.vm.findClass RRR = some m.cls := findClass_of_methodNamed B.named
  have hlocks := B.notSynchronized
  subst hsz
  have hD := hD0.self (sz := s.heap.size)
  generalize hAe : va_A [(h, .inr (3, [.int (nI sg), .ref a, .ref b, .ref d])), (a, .inl (cZ, 24, .inl (fun j9 => nI (pr j9)))), (b, .inl (cI, 24, .inl vs)), (d, .inl (cI, 24, .inl (fun j9 => nI (tc j9))))] s.heap.size = A at hD ⊢
  have hA : ∀ q : Nat, s.heap.size ≤ q → A q := fun q h => by rw [← hAe]; exact Or.inr h
  have hS : va_S A s.heap s.heap [] := va_S.rf
  have hl := lv_entry ([.ref h]) (n := 2) (Nat.le_of_ble_eq_true rfl)
  rw [lg_entry_eq]
  generalize (lg_sl ([.ref h]) ++ List.replicate (2 - (lg_sl ([.ref h])).length) Slot.unset).toArray = ls at hl ⊢
  have hl : lv_has ls 2 [(0, .ref h)] := hl
  generalize hRe : (headSpec wsRR_forget ({ frames := 1, cells := 0, slots := 0, locals := 23 })).room = R
  have hRf : 1 ≤ R.frames := by rw [← hRe]; exact Nat.le_refl _
  have hRl : 23 ≤ R.locals := by rw [← hRe]; exact Nat.le_refl _
  have hRc : 0 ≤ R.cells := by rw [← hRe]; exact Nat.le_refl _
  have hRs : 0 ≤ R.slots := by rw [← hRe]; exact Nat.le_refl _
  generalize hargs : (List.toArray [.ref h] : Array Value) = args at hts ⊢
  generalize hQe : MQ below _ args s _ _ _ = Q
  refine lv_aload_n hx hb dRR_forget_0 rfl (lv_at hl 0 rfl) ?_
  refine lv_iconst (v := nI 0) hx hb dRR_forget_1 (by decide +kernel) ?_
  refine va_put (D := (dC, dI)) (ci := 3) (v := .int (nI 0)) (ty := .int) (C := RRR) (T := TRR) (N := 4) hx hb hts (fun w h => List.mem_cons_of_mem _ (inRR w h)) tyRR tyRR_ok nmRR hown hK hP hD hS 0 rfl rfl 0 (by decide) (hts _ (List.mem_cons_of_mem _ kw_195)) (fun _ h9 => h9) rfl (by decide +kernel) rfl rfl (Nat.le_of_ble_eq_true rfl) dRR_forget_2 (fun H locs hP hD hS => ?_)
  have hP : va_P (dC, dI) vwCl [(h, .inr (3, [.int (nI 0), .ref a, .ref b, .ref d])), (a, .inl (cZ, 24, .inl (fun j9 => nI (pr j9)))), (b, .inl (cI, 24, .inl vs)), (d, .inl (cI, 24, .inl (fun j9 => nI (tc j9))))] H := hP
  have hD : va_D A [(h, .inr (3, [.int (nI 0), .ref a, .ref b, .ref d])), (a, .inl (cZ, 24, .inl (fun j9 => nI (pr j9)))), (b, .inl (cI, 24, .inl vs)), (d, .inl (cI, 24, .inl (fun j9 => nI (tc j9))))] := hD
  refine lv_aload_n hx hb dRR_forget_5 rfl (lv_at hl 0 rfl) ?_
  refine va_get (D := (dC, dI)) (ci := 3) (v := .ref d) (C := RRR) (T := TRR) (N := 4) hx hb hts (fun w h => List.mem_cons_of_mem _ (inRR w h)) hown hK hP 0 rfl rfl 3 (by decide) (hts _ (List.mem_cons_of_mem _ kw_199)) (fun _ h9 => h9) rfl dRR_forget_6 ?_
  refine lv_iconst (v := nI 0) hx hb dRR_forget_9 (by decide +kernel) ?_
  refine hr_callv (wr := [(h, .inr (3, [.int (nI 0), .ref a, .ref b, .ref d])), (a, .inl (cZ, 24, .inl (fun j9 => nI (pr j9)))), (b, .inl (cI, 24, .inl vs))]) (va_runS (As := [.ref d, .int (nI 0)]) (rest := []) ⟨hx, hb, hml, hown, hts⟩ (c_AR_fill l dC dI cI cZ cG d 24 (fun j9 => nI (tc j9)) (nI 0) H.size (by decide)) (hr_cwS 2 hts kw_398 kw_167 kw_30 kw_168 (by decide +kernel) (by rw [← hRe]; exact ⟨Nat.le_of_ble_eq_true rfl, Nat.le_of_ble_eq_true rfl⟩)) (hr_preWS hKX hP hD [3] (by decide) rfl) rfl rfl hl.1 rfl (lv_room (Nat.le_of_ble_eq_true rfl)) dRR_forget_10 ⟨by omega, by omega⟩) hP hD hS hA [3] [0, 1, 2] rfl rfl (by decide) (by decide) [0, 1, 2, 3] (fun u => [(h, .inr (3, [.int (nI 0), .ref a, .ref b, .ref d])), (a, .inl (cZ, 24, .inl (fun j9 => nI (pr j9)))), (b, .inl (cI, 24, .inl vs)), (d, .inl (cI, 24, .inl (fun j9 => nI ((fun _ => 0) j9))))]) (by decide) (fun u => rfl) (fun u H locs hrv hP hD hS => ?_)
  have hP : va_P (dC, dI) vwCl [(h, .inr (3, [.int (nI 0), .ref a, .ref b, .ref d])), (a, .inl (cZ, 24, .inl (fun j9 => nI (pr j9)))), (b, .inl (cI, 24, .inl vs)), (d, .inl (cI, 24, .inl (fun j9 => nI ((fun _ => 0) j9))))] H := hP
  have hD : va_D A [(h, .inr (3, [.int (nI 0), .ref a, .ref b, .ref d])), (a, .inl (cZ, 24, .inl (fun j9 => nI (pr j9)))), (b, .inl (cI, 24, .inl vs)), (d, .inl (cI, 24, .inl (fun j9 => nI ((fun _ => 0) j9))))] := hD
  refine lv_iconst (v := nI 0) hx hb dRR_forget_13 (by decide +kernel) ?_
  refine lv_istore_n (lv' := [(1, .int (nI 0)), (0, .ref h)]) hx hb dRR_forget_14 rfl hl (by decide) rfl (fun ls hl => ?_)
  rw [← fillF_0 pr 0] at hP hD
  have loop_15 : ∀ (n9 : Nat) (i : Nat), i ≤ 24 → 24 + 1 ≤ i + n9 → ∀ (H : Heap) (locs : List Loc), va_P (dC, dI) vwCl [(h, .inr (3, [.int (nI 0), .ref a, .ref b, .ref d])), (a, .inl (cZ, 24, .inl (fun j9 => nI ((fillF pr 0 i) j9)))), (b, .inl (cI, 24, .inl vs)), (d, .inl (cI, 24, .inl (fun j9 => nI ((fun _ => 0) j9))))] H → va_D A [(h, .inr (3, [.int (nI 0), .ref a, .ref b, .ref d])), (a, .inl (cZ, 24, .inl (fun j9 => nI ((fillF pr 0 i) j9)))), (b, .inl (cI, 24, .inl vs)), (d, .inl (cI, 24, .inl (fun j9 => nI ((fun _ => 0) j9))))] → va_S A s.heap H locs → ∀ (ls : Array Slot), lv_has ls 2 [(1, .int (nI i)), (0, .ref h)] → W p l e R s m args below meth c H locs 0 0 Q (F0 m 15 ls []) := by
    intro n9
    induction n9 with
    | zero =>
      intro i hi hmeas
      exact absurd hmeas (by omega)
    | succ n9 ih_15 =>
      intro i hi hmeas H locs hP hD hS ls hl
      refine lv_iload_n hx hb dRR_forget_15 rfl (lv_at hl 0 rfl) ?_
      refine lv_bipush (v := nI 24) hx hb dRR_forget_16 (by decide +kernel) ?_
      refine hr_icmp_ge hx hb (x := i) (y := 24) (by omega) (by omega) (tgt := 34) dRR_forget_18 (by decide) (fun c_1 => ?_) (fun c_1 => ?_)
      · have ei : i = 24 := by omega
        subst ei
        have hP := hr_extP 1 (fun j9 => nI ((fun _ => 0) j9)) rfl (fun j hj => by rw [fillF_in hj]) hP
        have hD := hr_extD 1 (fun j9 => nI ((fun _ => 0) j9)) rfl hD
        have hP : va_P (dC, dI) vwCl [(h, .inr (3, [.int (nI 0), .ref a, .ref b, .ref d])), (a, .inl (cZ, 24, .inl (fun j9 => nI ((fun _ => 0) j9)))), (b, .inl (cI, 24, .inl vs)), (d, .inl (cI, 24, .inl (fun j9 => nI ((fun _ => 0) j9))))] H := hP
        have hD : va_D A [(h, .inr (3, [.int (nI 0), .ref a, .ref b, .ref d])), (a, .inl (cZ, 24, .inl (fun j9 => nI ((fun _ => 0) j9)))), (b, .inl (cI, 24, .inl vs)), (d, .inl (cI, 24, .inl (fun j9 => nI ((fun _ => 0) j9))))] := hD
        rw [← hQe]
        exact W.vret hx hb hr (fun t ht hW => ⟨⟨(), rfl, trivial, by rw [ht]; exact hP, hD⟩, hS.F ht⟩) hS.2.2 dRR_forget_34
      · refine lv_aload_n hx hb dRR_forget_21 rfl (lv_at hl 1 rfl) ?_
        refine va_get (D := (dC, dI)) (ci := 3) (v := .ref a) (C := RRR) (T := TRR) (N := 4) hx hb hts (fun w h => List.mem_cons_of_mem _ (inRR w h)) hown hK hP 0 rfl rfl 1 (by decide) (hts _ (List.mem_cons_of_mem _ kw_197)) (fun _ h9 => h9) rfl dRR_forget_22 ?_
        refine lv_iload_n hx hb dRR_forget_25 rfl (lv_at hl 0 rfl) ?_
        refine lv_iconst (v := nI 0) hx hb dRR_forget_26 (by decide +kernel) ?_
        refine hr_zastN hx hb hK hP hD hS 1 1 rfl rfl (i := i) (by omega) (by omega) (by omega) dRR_forget_27 (fun H locs hP hD hS => ?_)
        have hP : va_P (dC, dI) vwCl [(h, .inr (3, [.int (nI 0), .ref a, .ref b, .ref d])), (a, .inl (cZ, 24, .inl (fun j9 => nI ((va_up (fillF pr 0 i) i 0) j9)))), (b, .inl (cI, 24, .inl vs)), (d, .inl (cI, 24, .inl (fun j9 => nI ((fun _ => 0) j9))))] H := hP
        have hD : va_D A [(h, .inr (3, [.int (nI 0), .ref a, .ref b, .ref d])), (a, .inl (cZ, 24, .inl (fun j9 => nI ((va_up (fillF pr 0 i) i 0) j9)))), (b, .inl (cI, 24, .inl vs)), (d, .inl (cI, 24, .inl (fun j9 => nI ((fun _ => 0) j9))))] := hD
        refine lv_iinc (v := nI (i + 1)) (lv' := [(1, .int (nI (i + 1))), (0, .ref h)]) hx hb dRR_forget_28 hl (k := 0) rfl (hr_inc _) (by decide) rfl (fun ls hl => ?_)
        refine lv_goto (tgt := 15) hx hb dRR_forget_31 (by decide) ?_
        rw [fillF_upN] at hP hD
        exact ih_15 (i + 1) (by omega) (by omega) _ _ hP hD hS ls (lv_sub hl [0, 1] rfl)
  exact loop_15 (24 + 1) 0 (by omega) (by omega) _ _ hP hD hS ls (lv_sub hl [0, 1] rfl)

set_option maxHeartbeats 4000000 in
set_option maxRecDepth 100000 in
/-- a RESULT -/
theorem c_RR_put (l : Launch) (dC : Nat → ClassId) (dI : Nat → Nat → Nat) (cI cZ cG : ClassId) (h : Nat) (a : Nat) (b : Nat) (d : Nat) (sg : Nat) (pr : Nat → Nat) (vs : Nat → Int32) (tc : Nat → Nat) (x : Int32) (y : Int32) (sz : Nat) (hpr : ∀ j, j < 24 → pr j < 2) : Met l yRR_put wsRR_put ({ frames := 1, cells := 0, slots := 0, locals := 20 }) (va_Pc [.ref h, .int x, .int y] (fun U => U.heap.size = sz ∧ va_P (dC, dI) vwCl [(h, .inr (3, [.int (nI sg), .ref a, .ref b, .ref d])), (a, .inl (cZ, 24, .inl (fun j9 => nI (pr j9)))), (b, .inl (cI, 24, .inl vs)), (d, .inl (cI, 24, .inl (fun j9 => nI (tc j9))))] U.heap ∧ KX dC dI cI cZ cG U ∧ va_D (fun _ => True) [(h, .inr (3, [.int (nI sg), .ref a, .ref b, .ref d])), (a, .inl (cZ, 24, .inl (fun j9 => nI (pr j9)))), (b, .inl (cI, 24, .inl vs)), (d, .inl (cI, 24, .inl (fun j9 => nI (tc j9))))])) (va_Qi (fun (r : Int32) (u : Unit) => r = nI ((putN pr x).elim 0 (fun _ => 1))) (fun u t => va_P (dC, dI) vwCl [(h, .inr (3, [.int (nI sg), .ref a, .ref b, .ref d])), (a, .inl (cZ, 24, .inl (fun j9 => nI (((putN pr x).elim pr (fun j => va_up pr j 1)) j9)))), (b, .inl (cI, 24, .inl ((putN pr x).elim vs (fun j => upd vs j y)))), (d, .inl (cI, 24, .inl (fun j9 => nI (((putN pr x).elim tc (fun j => va_up tc j (tc j + 1))) j9))))] t.heap ∧ va_D (va_A [(h, .inr (3, [.int (nI sg), .ref a, .ref b, .ref d])), (a, .inl (cZ, 24, .inl (fun j9 => nI (pr j9)))), (b, .inl (cI, 24, .inl vs)), (d, .inl (cI, 24, .inl (fun j9 => nI (tc j9))))] sz) [(h, .inr (3, [.int (nI sg), .ref a, .ref b, .ref d])), (a, .inl (cZ, 24, .inl (fun j9 => nI (((putN pr x).elim pr (fun j => va_up pr j 1)) j9)))), (b, .inl (cI, 24, .inl ((putN pr x).elim vs (fun j => upd vs j y)))), (d, .inl (cI, 24, .inl (fun j9 => nI (((putN pr x).elim tc (fun j => va_up tc j (tc j + 1))) j9))))]) (va_A [(h, .inr (3, [.int (nI sg), .ref a, .ref b, .ref d])), (a, .inl (cZ, 24, .inl (fun j9 => nI (pr j9)))), (b, .inl (cI, 24, .inl vs)), (d, .inl (cI, 24, .inl (fun j9 => nI (tc j9))))] sz)) 0 0 (va_A [(h, .inr (3, [.int (nI sg), .ref a, .ref b, .ref d])), (a, .inl (cZ, 24, .inl (fun j9 => nI (pr j9)))), (b, .inl (cI, 24, .inl vs)), (d, .inl (cI, 24, .inl (fun j9 => nI (tc j9))))] sz) := by
  refine Met.ofW (cc := cRR_put) (maxL := 3) (ret := (some .boolean)) (by decide) rfl ?_
  intro p e s m args below meth c s₁ B hml hv
  obtain ⟨rfl, hsz, hP, hKX, hD0⟩ := hv
  have hK := hKX.1
  have hx := B.exec
  have hb := B.bytes
  have hr := B.returns
  have hts := atoms_spec (ws := wsRR_put) B.pre
  have hown : s.vm.findClass RRR = some m.cls := findClass_of_methodNamed B.named
  have hlocks := B.notSynchronized
  subst hsz
  have hD := hD0.self (sz := s.heap.size)
  generalize hAe : va_A [(h, .inr (3, [.int (nI sg), .ref a, .ref b, .ref d])), (a, .inl (cZ, 24, .inl (fun j9 => nI (pr j9)))), (b, .inl (cI, 24, .inl vs)), (d, .inl (cI, 24, .inl (fun j9 => nI (tc j9))))] s.heap.size = A at hD ⊢
  have hA : ∀ q : Nat, s.heap.size ≤ q → A q := fun q h => by rw [← hAe]; exact Or.inr h
  have hS : va_S A s.heap s.heap [] := va_S.rf
  have hl := lv_entry ([.ref h, .int x, .int y]) (n := 3) (Nat.le_of_ble_eq_true rfl)
  rw [lg_entry_eq]
  generalize (lg_sl ([.ref h, .int x, .int y]) ++ List.replicate (3 - (lg_sl ([.ref h, .int x, .int y])).length) Slot.unset).toArray = ls at hl ⊢
  have hl : lv_has ls 3 [(0, .ref h), (1, .int x), (2, .int y)] := hl
  generalize hRe : (headSpec wsRR_put ({ frames := 1, cells := 0, slots := 0, locals := 20 })).room = R
  have hRf : 1 ≤ R.frames := by rw [← hRe]; exact Nat.le_refl _
  have hRl : 20 ≤ R.locals := by rw [← hRe]; exact Nat.le_refl _
  have hRc : 0 ≤ R.cells := by rw [← hRe]; exact Nat.le_refl _
  have hRs : 0 ≤ R.slots := by rw [← hRe]; exact Nat.le_refl _
  generalize hargs : (List.toArray [.ref h, .int x, .int y] : Array Value) = args at hts ⊢
  generalize hQe : MQ below _ args s _ _ _ = Q
  refine lv_iload_n hx hb dRR_put_0 rfl (lv_at hl 1 rfl) ?_
  refine vp_callSi (va_runSN (As := [.int x]) (rest := []) ⟨hx, hb, hml, hown, hts⟩ (c_SR_isTestNumber l dC dI cI cZ cG x) (hr_cnS 1 hts hKX.2.2 kw_338 kw_23 kw_339 (by decide +kernel) (by rw [← hRe]; exact ⟨Nat.le_of_ble_eq_true rfl, Nat.le_of_ble_eq_true rfl⟩)) (hr_preRS hKX hP [] rfl) rfl rfl hl.1 rfl (lv_room (Nat.le_of_ble_eq_true rfl)) dRR_put_1 ⟨by omega, by omega⟩).run (fun rv hrv => ?_)
  refine hr_eqi hrv ?_
  have hb0 := inB_lt x 24
  refine hr_if_eq hx hb (x := inB x 24) (by omega) (tgt := 16) dRR_put_4 (by decide) (fun c_1 => ?_) (fun c_1 => ?_)
  · refine lv_iconst (v := nI 0) hx hb dRR_put_16 (by decide +kernel) ?_
    have ez : putN pr x = none := by simp [putN, c_1]
    rw [← hQe]
    exact W.zret (ty := .boolean) (v := nI 0) hx hb hr (by decide +kernel) (fun t ht hW => ⟨⟨_, (), rfl, by rw [ez]; rfl, by rw [ht, ez]; exact hP, by rw [ez]; exact hD⟩, hS.F ht⟩) hS.2.2 dRR_put_17
  · obtain ⟨j, hj, rfl⟩ := inB_pos (by decide) c_1
    have hpj := hpr j hj
    refine lv_aload_n hx hb dRR_put_7 rfl (lv_at hl 0 rfl) ?_
    refine va_get (D := (dC, dI)) (ci := 3) (v := .ref a) (C := RRR) (T := TRR) (N := 4) hx hb hts (fun w h => List.mem_cons_of_mem _ (inRR w h)) hown hK hP 0 rfl rfl 1 (by decide) (hts _ (List.mem_cons_of_mem _ kw_197)) (fun _ h9 => h9) rfl dRR_put_8 ?_
    refine lv_iload_n hx hb dRR_put_11 rfl (lv_at hl 1 rfl) ?_
    refine hr_zald hx hb hK hP 1 1 rfl rfl (i := j) (by omega) (by omega) dRR_put_12 ?_
    refine hr_if_eq hx hb (x := (pr j)) (by omega) (tgt := 18) dRR_put_13 (by decide) (fun c_2 => ?_) (fun c_2 => ?_)
    · refine lv_aload_n hx hb dRR_put_18 rfl (lv_at hl 0 rfl) ?_
      refine va_get (D := (dC, dI)) (ci := 3) (v := .ref a) (C := RRR) (T := TRR) (N := 4) hx hb hts (fun w h => List.mem_cons_of_mem _ (inRR w h)) hown hK hP 0 rfl rfl 1 (by decide) (hts _ (List.mem_cons_of_mem _ kw_197)) (fun _ h9 => h9) rfl dRR_put_19 ?_
      refine lv_iload_n hx hb dRR_put_22 rfl (lv_at hl 1 rfl) ?_
      refine lv_iconst (v := nI 1) hx hb dRR_put_23 (by decide +kernel) ?_
      refine hr_zastN hx hb hK hP hD hS 1 1 rfl rfl (i := j) (by omega) (by omega) (by omega) dRR_put_24 (fun H locs hP hD hS => ?_)
      have hP : va_P (dC, dI) vwCl [(h, .inr (3, [.int (nI sg), .ref a, .ref b, .ref d])), (a, .inl (cZ, 24, .inl (fun j9 => nI ((va_up pr j 1) j9)))), (b, .inl (cI, 24, .inl vs)), (d, .inl (cI, 24, .inl (fun j9 => nI (tc j9))))] H := hP
      have hD : va_D A [(h, .inr (3, [.int (nI sg), .ref a, .ref b, .ref d])), (a, .inl (cZ, 24, .inl (fun j9 => nI ((va_up pr j 1) j9)))), (b, .inl (cI, 24, .inl vs)), (d, .inl (cI, 24, .inl (fun j9 => nI (tc j9))))] := hD
      refine lv_aload_n hx hb dRR_put_25 rfl (lv_at hl 0 rfl) ?_
      refine va_get (D := (dC, dI)) (ci := 3) (v := .ref b) (C := RRR) (T := TRR) (N := 4) hx hb hts (fun w h => List.mem_cons_of_mem _ (inRR w h)) hown hK hP 0 rfl rfl 2 (by decide) (hts _ (List.mem_cons_of_mem _ kw_198)) (fun _ h9 => h9) rfl dRR_put_26 ?_
      refine lv_iload_n hx hb dRR_put_29 rfl (lv_at hl 1 rfl) ?_
      refine lv_iload_n hx hb dRR_put_30 rfl (lv_at hl 2 rfl) ?_
      refine hr_iast hx hb hK hP hD hS 2 0 rfl rfl (i := j) (by omega) (by omega) dRR_put_31 (fun H locs hP hD hS => ?_)
      have hP : va_P (dC, dI) vwCl [(h, .inr (3, [.int (nI sg), .ref a, .ref b, .ref d])), (a, .inl (cZ, 24, .inl (fun j9 => nI ((va_up pr j 1) j9)))), (b, .inl (cI, 24, .inl (upd vs j y))), (d, .inl (cI, 24, .inl (fun j9 => nI (tc j9))))] H := hP
      have hD : va_D A [(h, .inr (3, [.int (nI sg), .ref a, .ref b, .ref d])), (a, .inl (cZ, 24, .inl (fun j9 => nI ((va_up pr j 1) j9)))), (b, .inl (cI, 24, .inl (upd vs j y))), (d, .inl (cI, 24, .inl (fun j9 => nI (tc j9))))] := hD
      refine lv_aload_n hx hb dRR_put_32 rfl (lv_at hl 0 rfl) ?_
      refine va_get (D := (dC, dI)) (ci := 3) (v := .ref d) (C := RRR) (T := TRR) (N := 4) hx hb hts (fun w h => List.mem_cons_of_mem _ (inRR w h)) hown hK hP 0 rfl rfl 3 (by decide) (hts _ (List.mem_cons_of_mem _ kw_199)) (fun _ h9 => h9) rfl dRR_put_33 ?_
      refine lv_iload_n hx hb dRR_put_36 rfl (lv_at hl 1 rfl) ?_
      refine lv_dup2_11 hx hb dRR_put_37 rfl rfl ?_
      refine hr_iald hx hb hK hP 3 0 rfl rfl (i := j) (by omega) (by omega) dRR_put_38 ?_
      refine lv_iconst (v := nI 1) hx hb dRR_put_39 (by decide +kernel) ?_
      refine lv_iadd hx hb dRR_put_40 ?_
      refine hr_eqi (nI_add _ _) ?_
      refine hr_iastN hx hb hK hP hD hS 3 0 rfl rfl (i := j) (by omega) (by omega) dRR_put_41 (fun H locs hP hD hS => ?_)
      have hP : va_P (dC, dI) vwCl [(h, .inr (3, [.int (nI sg), .ref a, .ref b, .ref d])), (a, .inl (cZ, 24, .inl (fun j9 => nI ((va_up pr j 1) j9)))), (b, .inl (cI, 24, .inl (upd vs j y))), (d, .inl (cI, 24, .inl (fun j9 => nI ((va_up tc j ((tc j) + 1)) j9))))] H := hP
      have hD : va_D A [(h, .inr (3, [.int (nI sg), .ref a, .ref b, .ref d])), (a, .inl (cZ, 24, .inl (fun j9 => nI ((va_up pr j 1) j9)))), (b, .inl (cI, 24, .inl (upd vs j y))), (d, .inl (cI, 24, .inl (fun j9 => nI ((va_up tc j ((tc j) + 1)) j9))))] := hD
      refine lv_iconst (v := nI 1) hx hb dRR_put_42 (by decide +kernel) ?_
      have ez : putN pr (nI j) = some j := by simp [putN, inB_nI hj (show 24 < 2 ^ 31 by decide), nI_clamp (show j < 2 ^ 31 by omega), c_2]
      rw [← hQe]
      exact W.zret (ty := .boolean) (v := nI 1) hx hb hr (by decide +kernel) (fun t ht hW => ⟨⟨_, (), rfl, by rw [ez]; rfl, by rw [ht, ez]; exact hP, by rw [ez]; exact hD⟩, hS.F ht⟩) hS.2.2 dRR_put_43
    · refine lv_iconst (v := nI 0) hx hb dRR_put_16 (by decide +kernel) ?_
      have ez : putN pr (nI j) = none := by simp [putN, inB_nI hj (show 24 < 2 ^ 31 by decide), nI_clamp (show j < 2 ^ 31 by omega), c_2]
      rw [← hQe]
      exact W.zret (ty := .boolean) (v := nI 0) hx hb hr (by decide +kernel) (fun t ht hW => ⟨⟨_, (), rfl, by rw [ez]; rfl, by rw [ht, ez]; exact hP, by rw [ez]; exact hD⟩, hS.F ht⟩) hS.2.2 dRR_put_17

set_option maxHeartbeats 4000000 in
set_option maxRecDepth 100000 in
/-- a RESULT is dropped -/
theorem c_RR_dropBad (l : Launch) (dC : Nat → ClassId) (dI : Nat → Nat → Nat) (cI cZ cG : ClassId) (h : Nat) (a : Nat) (b : Nat) (d : Nat) (sg : Nat) (pr : Nat → Nat) (vs : Nat → Int32) (tc : Nat → Nat) (x : Int32) (sz : Nat) (hpr : ∀ j, j < 24 → pr j < 2) : Met l yRR_dropBad wsRR_dropBad ({ frames := 3, cells := 0, slots := 0, locals := 62 }) (va_Pc [.ref h, .int x] (fun U => U.heap.size = sz ∧ va_P (dC, dI) vwCl [(h, .inr (3, [.int (nI sg), .ref a, .ref b, .ref d])), (a, .inl (cZ, 24, .inl (fun j9 => nI (pr j9)))), (b, .inl (cI, 24, .inl vs)), (d, .inl (cI, 24, .inl (fun j9 => nI (tc j9))))] U.heap ∧ KX dC dI cI cZ cG U ∧ va_D (fun _ => True) [(h, .inr (3, [.int (nI sg), .ref a, .ref b, .ref d])), (a, .inl (cZ, 24, .inl (fun j9 => nI (pr j9)))), (b, .inl (cI, 24, .inl vs)), (d, .inl (cI, 24, .inl (fun j9 => nI (tc j9))))])) (va_Qi (fun (r : Int32) (u : Unit) => r = nI ((dropN pr vs x).elim 0 (fun _ => 1))) (fun u t => va_P (dC, dI) vwCl [(h, .inr (3, [.int (nI sg), .ref a, .ref b, .ref d])), (a, .inl (cZ, 24, .inl (fun j9 => nI (((dropN pr vs x).elim pr (fun j => va_up pr j 0)) j9)))), (b, .inl (cI, 24, .inl vs)), (d, .inl (cI, 24, .inl (fun j9 => nI (tc j9))))] t.heap ∧ va_D (va_A [(h, .inr (3, [.int (nI sg), .ref a, .ref b, .ref d])), (a, .inl (cZ, 24, .inl (fun j9 => nI (pr j9)))), (b, .inl (cI, 24, .inl vs)), (d, .inl (cI, 24, .inl (fun j9 => nI (tc j9))))] sz) [(h, .inr (3, [.int (nI sg), .ref a, .ref b, .ref d])), (a, .inl (cZ, 24, .inl (fun j9 => nI (((dropN pr vs x).elim pr (fun j => va_up pr j 0)) j9)))), (b, .inl (cI, 24, .inl vs)), (d, .inl (cI, 24, .inl (fun j9 => nI (tc j9))))]) (va_A [(h, .inr (3, [.int (nI sg), .ref a, .ref b, .ref d])), (a, .inl (cZ, 24, .inl (fun j9 => nI (pr j9)))), (b, .inl (cI, 24, .inl vs)), (d, .inl (cI, 24, .inl (fun j9 => nI (tc j9))))] sz)) 0 0 (va_A [(h, .inr (3, [.int (nI sg), .ref a, .ref b, .ref d])), (a, .inl (cZ, 24, .inl (fun j9 => nI (pr j9)))), (b, .inl (cI, 24, .inl vs)), (d, .inl (cI, 24, .inl (fun j9 => nI (tc j9))))] sz) := by
  refine Met.ofW (cc := cRR_dropBad) (maxL := 2) (ret := (some .boolean)) (by decide) rfl ?_
  intro p e s m args below meth c s₁ B hml hv
  obtain ⟨rfl, hsz, hP, hKX, hD0⟩ := hv
  have hK := hKX.1
  have hx := B.exec
  have hb := B.bytes
  have hr := B.returns
  have hts := atoms_spec (ws := wsRR_dropBad) B.pre
  have hown : s.vm.findClass RRR = some m.cls := findClass_of_methodNamed B.named
  have hlocks := B.notSynchronized
  subst hsz
  have hD := hD0.self (sz := s.heap.size)
  generalize hAe : va_A [(h, .inr (3, [.int (nI sg), .ref a, .ref b, .ref d])), (a, .inl (cZ, 24, .inl (fun j9 => nI (pr j9)))), (b, .inl (cI, 24, .inl vs)), (d, .inl (cI, 24, .inl (fun j9 => nI (tc j9))))] s.heap.size = A at hD ⊢
  have hA : ∀ q : Nat, s.heap.size ≤ q → A q := fun q h => by rw [← hAe]; exact Or.inr h
  have hS : va_S A s.heap s.heap [] := va_S.rf
  have hl := lv_entry ([.ref h, .int x]) (n := 2) (Nat.le_of_ble_eq_true rfl)
  rw [lg_entry_eq]
  generalize (lg_sl ([.ref h, .int x]) ++ List.replicate (2 - (lg_sl ([.ref h, .int x])).length) Slot.unset).toArray = ls at hl ⊢
  have hl : lv_has ls 2 [(0, .ref h), (1, .int x)] := hl
  generalize hRe : (headSpec wsRR_dropBad ({ frames := 3, cells := 0, slots := 0, locals := 62 })).room = R
  have hRf : 3 ≤ R.frames := by rw [← hRe]; exact Nat.le_refl _
  have hRl : 62 ≤ R.locals := by rw [← hRe]; exact Nat.le_refl _
  have hRc : 0 ≤ R.cells := by rw [← hRe]; exact Nat.le_refl _
  have hRs : 0 ≤ R.slots := by rw [← hRe]; exact Nat.le_refl _
  generalize hargs : (List.toArray [.ref h, .int x] : Array Value) = args at hts ⊢
  generalize hQe : MQ below _ args s _ _ _ = Q
  refine lv_aload_n hx hb dRR_dropBad_0 rfl (lv_at hl 0 rfl) ?_
  refine lv_iload_n hx hb dRR_dropBad_1 rfl (lv_at hl 1 rfl) ?_
  refine vp_callSi (va_runV (C := RRR) (As := [.int x]) (rest := []) ⟨hx, hb, hml, hown, hts⟩ (c_RR_isBad l dC dI cI cZ cG h a b d sg pr vs tc x (hpr)) (hr_cwV 1 hts kw_462 kw_464 kw_9 kw_31 kw_465 (by decide +kernel) (by rw [← hRe]; exact ⟨Nat.le_of_ble_eq_true rfl, Nat.le_of_ble_eq_true rfl⟩)) (hr_preR hKX hP [0, 1, 2, 3] rfl (ci := 3) (q0 := 0) (q := (RRR, TRR, 4)) rfl rfl) rfl rfl hl.1 rfl (lv_room (Nat.le_of_ble_eq_true rfl)) dRR_dropBad_2 ⟨by omega, by omega⟩).run (fun rv hrv => ?_)
  refine hr_eqi hrv ?_
  have hb0 := badB_lt pr vs x
  refine hr_if_ne hx hb (x := badB pr vs x) (by omega) (tgt := 10) dRR_dropBad_5 (by decide) (fun c_1 => ?_) (fun c_1 => ?_)
  · have hin : ¬ inB x 24 = 0 := fun q => c_1 (badB_out q)
    obtain ⟨j, hj, rfl⟩ := inB_pos (by decide) hin
    refine lv_aload_n hx hb dRR_dropBad_10 rfl (lv_at hl 0 rfl) ?_
    refine va_get (D := (dC, dI)) (ci := 3) (v := .ref a) (C := RRR) (T := TRR) (N := 4) hx hb hts (fun w h => List.mem_cons_of_mem _ (inRR w h)) hown hK hP 0 rfl rfl 1 (by decide) (hts _ (List.mem_cons_of_mem _ kw_197)) (fun _ h9 => h9) rfl dRR_dropBad_11 ?_
    refine lv_iload_n hx hb dRR_dropBad_14 rfl (lv_at hl 1 rfl) ?_
    refine lv_iconst (v := nI 0) hx hb dRR_dropBad_15 (by decide +kernel) ?_
    refine hr_zastN hx hb hK hP hD hS 1 1 rfl rfl (i := j) (by omega) (by omega) (by omega) dRR_dropBad_16 (fun H locs hP hD hS => ?_)
    have hP : va_P (dC, dI) vwCl [(h, .inr (3, [.int (nI sg), .ref a, .ref b, .ref d])), (a, .inl (cZ, 24, .inl (fun j9 => nI ((va_up pr j 0) j9)))), (b, .inl (cI, 24, .inl vs)), (d, .inl (cI, 24, .inl (fun j9 => nI (tc j9))))] H := hP
    have hD : va_D A [(h, .inr (3, [.int (nI sg), .ref a, .ref b, .ref d])), (a, .inl (cZ, 24, .inl (fun j9 => nI ((va_up pr j 0) j9)))), (b, .inl (cI, 24, .inl vs)), (d, .inl (cI, 24, .inl (fun j9 => nI (tc j9))))] := hD
    refine lv_iconst (v := nI 1) hx hb dRR_dropBad_17 (by decide +kernel) ?_
    have ez : dropN pr vs (nI j) = some j := by simp [dropN, nI_clamp (show j < 2 ^ 31 by omega), c_1]
    rw [← hQe]
    exact W.zret (ty := .boolean) (v := nI 1) hx hb hr (by decide +kernel) (fun t ht hW => ⟨⟨_, (), rfl, by rw [ez]; rfl, by rw [ht, ez]; exact hP, by rw [ez]; exact hD⟩, hS.F ht⟩) hS.2.2 dRR_dropBad_18
  · refine lv_iconst (v := nI 0) hx hb dRR_dropBad_8 (by decide +kernel) ?_
    have ez : dropN pr vs x = none := by simp [dropN, c_1]
    rw [← hQe]
    exact W.zret (ty := .boolean) (v := nI 0) hx hb hr (by decide +kernel) (fun t ht hW => ⟨⟨_, (), rfl, by rw [ez]; rfl, by rw [ht, ez]; exact hP, by rw [ez]; exact hD⟩, hS.F ht⟩) hS.2.2 dRR_dropBad_9

set_option maxHeartbeats 4000000 in
set_option maxRecDepth 100000 in
/-- a SHARD has more -/
theorem c_SP_addTime (l : Launch) (dC : Nat → ClassId) (dI : Nat → Nat → Nat) (cI cZ cG : ClassId) (h : Nat) (a : Nat) (b : Nat) (d : Nat) (sc : Nat) (mv : Nat) (sm : Nat → Nat) (zs : Nat → Nat) (sf : Nat → Option Nat) (q : Nat) (ti : Nat) (sz : Nat) (hsc : sc ≤ 4) (hq : q < sc) : Met l ySP_addTime wsSP_addTime ({ frames := 1, cells := 0, slots := 0, locals := 21 }) (va_Pc [.ref h, .int (nI q), .int (nI ti)] (fun U => U.heap.size = sz ∧ va_P (dC, dI) vwCl [(h, .inr (5, [.int (nI sc), .int (nI mv), .ref a, .ref b, .ref d])), (a, .inl (cI, 4, .inl (fun j9 => nI (sm j9)))), (b, .inl (cI, 4, .inl (fun j9 => nI (zs j9)))), (d, .inl (cI, 24, .inl (fun j9 => oI (sf j9))))] U.heap ∧ KX dC dI cI cZ cG U ∧ va_D (fun _ => True) [(h, .inr (5, [.int (nI sc), .int (nI mv), .ref a, .ref b, .ref d])), (a, .inl (cI, 4, .inl (fun j9 => nI (sm j9)))), (b, .inl (cI, 4, .inl (fun j9 => nI (zs j9)))), (d, .inl (cI, 24, .inl (fun j9 => oI (sf j9))))])) (va_Qv (fun (u : Unit) => True) (fun u t => va_P (dC, dI) vwCl [(h, .inr (5, [.int (nI sc), .int (nI mv), .ref a, .ref b, .ref d])), (a, .inl (cI, 4, .inl (fun j9 => nI ((va_up sm q (sm q + ti)) j9)))), (b, .inl (cI, 4, .inl (fun j9 => nI (zs j9)))), (d, .inl (cI, 24, .inl (fun j9 => oI (sf j9))))] t.heap ∧ va_D (va_A [(h, .inr (5, [.int (nI sc), .int (nI mv), .ref a, .ref b, .ref d])), (a, .inl (cI, 4, .inl (fun j9 => nI (sm j9)))), (b, .inl (cI, 4, .inl (fun j9 => nI (zs j9)))), (d, .inl (cI, 24, .inl (fun j9 => oI (sf j9))))] sz) [(h, .inr (5, [.int (nI sc), .int (nI mv), .ref a, .ref b, .ref d])), (a, .inl (cI, 4, .inl (fun j9 => nI ((va_up sm q (sm q + ti)) j9)))), (b, .inl (cI, 4, .inl (fun j9 => nI (zs j9)))), (d, .inl (cI, 24, .inl (fun j9 => oI (sf j9))))]) (va_A [(h, .inr (5, [.int (nI sc), .int (nI mv), .ref a, .ref b, .ref d])), (a, .inl (cI, 4, .inl (fun j9 => nI (sm j9)))), (b, .inl (cI, 4, .inl (fun j9 => nI (zs j9)))), (d, .inl (cI, 24, .inl (fun j9 => oI (sf j9))))] sz)) 0 0 (va_A [(h, .inr (5, [.int (nI sc), .int (nI mv), .ref a, .ref b, .ref d])), (a, .inl (cI, 4, .inl (fun j9 => nI (sm j9)))), (b, .inl (cI, 4, .inl (fun j9 => nI (zs j9)))), (d, .inl (cI, 24, .inl (fun j9 => oI (sf j9))))] sz) := by
  refine Met.ofW (cc := cSP_addTime) (maxL := 3) (ret := none) (by decide) rfl ?_
  intro p e s m args below meth c s₁ B hml hv
  obtain ⟨rfl, hsz, hP, hKX, hD0⟩ := hv
  have hK := hKX.1
  have hx := B.exec
  have hb := B.bytes
  have hr := B.returns
  have hts := atoms_spec (ws := wsSP_addTime) B.pre
  have hown : s.vm.findClass RSP = some m.cls := findClass_of_methodNamed B.named
  have hlocks := B.notSynchronized
  subst hsz
  have hD := hD0.self (sz := s.heap.size)
  generalize hAe : va_A [(h, .inr (5, [.int (nI sc), .int (nI mv), .ref a, .ref b, .ref d])), (a, .inl (cI, 4, .inl (fun j9 => nI (sm j9)))), (b, .inl (cI, 4, .inl (fun j9 => nI (zs j9)))), (d, .inl (cI, 24, .inl (fun j9 => oI (sf j9))))] s.heap.size = A at hD ⊢
  have hA : ∀ q : Nat, s.heap.size ≤ q → A q := fun q h => by rw [← hAe]; exact Or.inr h
  have hS : va_S A s.heap s.heap [] := va_S.rf
  have hl := lv_entry ([.ref h, .int (nI q), .int (nI ti)]) (n := 3) (Nat.le_of_ble_eq_true rfl)
  rw [lg_entry_eq]
  generalize (lg_sl ([.ref h, .int (nI q), .int (nI ti)]) ++ List.replicate (3 - (lg_sl ([.ref h, .int (nI q), .int (nI ti)])).length) Slot.unset).toArray = ls at hl ⊢
  have hl : lv_has ls 3 [(0, .ref h), (1, .int (nI q)), (2, .int (nI ti))] := hl
  generalize hRe : (headSpec wsSP_addTime ({ frames := 1, cells := 0, slots := 0, locals := 21 })).room = R
  have hRf : 1 ≤ R.frames := by rw [← hRe]; exact Nat.le_refl _
  have hRl : 21 ≤ R.locals := by rw [← hRe]; exact Nat.le_refl _
  have hRc : 0 ≤ R.cells := by rw [← hRe]; exact Nat.le_refl _
  have hRs : 0 ≤ R.slots := by rw [← hRe]; exact Nat.le_refl _
  generalize hargs : (List.toArray [.ref h, .int (nI q), .int (nI ti)] : Array Value) = args at hts ⊢
  generalize hQe : MQ below _ args s _ _ _ = Q
  refine lv_aload_n hx hb dSP_addTime_0 rfl (lv_at hl 0 rfl) ?_
  refine lv_iload_n hx hb dSP_addTime_1 rfl (lv_at hl 1 rfl) ?_
  refine vp_callSi (va_runV (C := RSP) (As := [.int (nI q)]) (rest := []) ⟨hx, hb, hml, hown, hts⟩ (c_SP_hasShard l dC dI cI cZ cG h a b d sc mv sm zs sf (nI q) (hsc)) (hr_cwV 1 hts kw_382 kw_383 kw_384 kw_29 kw_385 (by decide +kernel) (by rw [← hRe]; exact ⟨Nat.le_of_ble_eq_true rfl, Nat.le_of_ble_eq_true rfl⟩)) (hr_preR hKX hP [0, 1, 2, 3] rfl (ci := 5) (q0 := 0) (q := (RSP, TSP, 5)) rfl rfl) rfl rfl hl.1 rfl (lv_room (Nat.le_of_ble_eq_true rfl)) dSP_addTime_2 ⟨by omega, by omega⟩).run (fun rv hrv => ?_)
  refine hr_eqi hrv ?_
  rw [inB_nI hq (show sc < 2 ^ 31 by omega)]
  refine hr_if_eq hx hb (x := 1) (by omega) (tgt := 18) dSP_addTime_5 (by decide) (fun c_1 => ?_) (fun c_1 => ?_)
  · exact absurd c_1 (by decide)
  · refine lv_aload_n hx hb dSP_addTime_8 rfl (lv_at hl 0 rfl) ?_
    refine va_get (D := (dC, dI)) (ci := 5) (v := .ref a) (C := RSP) (T := TSP) (N := 5) hx hb hts (fun w h => List.mem_cons_of_mem _ (inSP w h)) hown hK hP 0 rfl rfl 2 (by decide) (hts _ (List.mem_cons_of_mem _ kw_173)) (fun _ h9 => h9) rfl dSP_addTime_9 ?_
    refine lv_iload_n hx hb dSP_addTime_12 rfl (lv_at hl 1 rfl) ?_
    refine lv_dup2_11 hx hb dSP_addTime_13 rfl rfl ?_
    refine hr_iald hx hb hK hP 1 0 rfl rfl (i := q) (by omega) (by omega) dSP_addTime_14 ?_
    refine lv_iload_n hx hb dSP_addTime_15 rfl (lv_at hl 2 rfl) ?_
    refine lv_iadd hx hb dSP_addTime_16 ?_
    refine hr_eqi (nI_add _ _) ?_
    refine hr_iastN hx hb hK hP hD hS 1 0 rfl rfl (i := q) (by omega) (by omega) dSP_addTime_17 (fun H locs hP hD hS => ?_)
    have hP : va_P (dC, dI) vwCl [(h, .inr (5, [.int (nI sc), .int (nI mv), .ref a, .ref b, .ref d])), (a, .inl (cI, 4, .inl (fun j9 => nI ((va_up sm q ((sm q) + ti)) j9)))), (b, .inl (cI, 4, .inl (fun j9 => nI (zs j9)))), (d, .inl (cI, 24, .inl (fun j9 => oI (sf j9))))] H := hP
    have hD : va_D A [(h, .inr (5, [.int (nI sc), .int (nI mv), .ref a, .ref b, .ref d])), (a, .inl (cI, 4, .inl (fun j9 => nI ((va_up sm q ((sm q) + ti)) j9)))), (b, .inl (cI, 4, .inl (fun j9 => nI (zs j9)))), (d, .inl (cI, 24, .inl (fun j9 => oI (sf j9))))] := hD
    rw [← hQe]
    exact W.vret hx hb hr (fun t ht hW => ⟨⟨(), rfl, trivial, by rw [ht]; exact hP, hD⟩, hS.F ht⟩) hS.2.2 dSP_addTime_18

set_option maxHeartbeats 4000000 in
set_option maxRecDepth 100000 in
/-- a TEST has a SHARD -/
theorem c_SP_give (l : Launch) (dC : Nat → ClassId) (dI : Nat → Nat → Nat) (cI cZ cG : ClassId) (h : Nat) (a : Nat) (b : Nat) (d : Nat) (sc : Nat) (mv : Nat) (sm : Nat → Nat) (zs : Nat → Nat) (sf : Nat → Option Nat) (j : Nat) (q : Nat) (sz : Nat) (hsc : sc ≤ 4) (hj : j < 24) (hq : q < sc) (hsf : ∀ k, sf j = some k → k < 2 ^ 31) : Met l ySP_give wsSP_give ({ frames := 1, cells := 0, slots := 0, locals := 21 }) (va_Pc [.ref h, .int (nI j), .int (nI q)] (fun U => U.heap.size = sz ∧ va_P (dC, dI) vwCl [(h, .inr (5, [.int (nI sc), .int (nI mv), .ref a, .ref b, .ref d])), (a, .inl (cI, 4, .inl (fun j9 => nI (sm j9)))), (b, .inl (cI, 4, .inl (fun j9 => nI (zs j9)))), (d, .inl (cI, 24, .inl (fun j9 => oI (sf j9))))] U.heap ∧ KX dC dI cI cZ cG U ∧ va_D (fun _ => True) [(h, .inr (5, [.int (nI sc), .int (nI mv), .ref a, .ref b, .ref d])), (a, .inl (cI, 4, .inl (fun j9 => nI (sm j9)))), (b, .inl (cI, 4, .inl (fun j9 => nI (zs j9)))), (d, .inl (cI, 24, .inl (fun j9 => oI (sf j9))))])) (va_Qv (fun (u : Unit) => True) (fun u t => va_P (dC, dI) vwCl [(h, .inr (5, [.int (nI sc), .int (nI (mv + mvdB (sf j) q)), .ref a, .ref b, .ref d])), (a, .inl (cI, 4, .inl (fun j9 => nI (sm j9)))), (b, .inl (cI, 4, .inl (fun j9 => nI ((va_up zs q (zs q + 1)) j9)))), (d, .inl (cI, 24, .inl (fun j9 => oI ((va_up sf j (some q)) j9))))] t.heap ∧ va_D (va_A [(h, .inr (5, [.int (nI sc), .int (nI mv), .ref a, .ref b, .ref d])), (a, .inl (cI, 4, .inl (fun j9 => nI (sm j9)))), (b, .inl (cI, 4, .inl (fun j9 => nI (zs j9)))), (d, .inl (cI, 24, .inl (fun j9 => oI (sf j9))))] sz) [(h, .inr (5, [.int (nI sc), .int (nI (mv + mvdB (sf j) q)), .ref a, .ref b, .ref d])), (a, .inl (cI, 4, .inl (fun j9 => nI (sm j9)))), (b, .inl (cI, 4, .inl (fun j9 => nI ((va_up zs q (zs q + 1)) j9)))), (d, .inl (cI, 24, .inl (fun j9 => oI ((va_up sf j (some q)) j9))))]) (va_A [(h, .inr (5, [.int (nI sc), .int (nI mv), .ref a, .ref b, .ref d])), (a, .inl (cI, 4, .inl (fun j9 => nI (sm j9)))), (b, .inl (cI, 4, .inl (fun j9 => nI (zs j9)))), (d, .inl (cI, 24, .inl (fun j9 => oI (sf j9))))] sz)) 0 0 (va_A [(h, .inr (5, [.int (nI sc), .int (nI mv), .ref a, .ref b, .ref d])), (a, .inl (cI, 4, .inl (fun j9 => nI (sm j9)))), (b, .inl (cI, 4, .inl (fun j9 => nI (zs j9)))), (d, .inl (cI, 24, .inl (fun j9 => oI (sf j9))))] sz) := by
  refine Met.ofW (cc := cSP_give) (maxL := 3) (ret := none) (by decide) rfl ?_
  intro p e s m args below meth c s₁ B hml hv
  obtain ⟨rfl, hsz, hP, hKX, hD0⟩ := hv
  have hK := hKX.1
  have hx := B.exec
  have hb := B.bytes
  have hr := B.returns
  have hts := atoms_spec (ws := wsSP_give) B.pre
  have hown : s.vm.findClass RSP = some m.cls := findClass_of_methodNamed B.named
  have hlocks := B.notSynchronized
  subst hsz
  have hD := hD0.self (sz := s.heap.size)
  generalize hAe : va_A [(h, .inr (5, [.int (nI sc), .int (nI mv), .ref a, .ref b, .ref d])), (a, .inl (cI, 4, .inl (fun j9 => nI (sm j9)))), (b, .inl (cI, 4, .inl (fun j9 => nI (zs j9)))), (d, .inl (cI, 24, .inl (fun j9 => oI (sf j9))))] s.heap.size = A at hD ⊢
  have hA : ∀ q : Nat, s.heap.size ≤ q → A q := fun q h => by rw [← hAe]; exact Or.inr h
  have hS : va_S A s.heap s.heap [] := va_S.rf
  have hl := lv_entry ([.ref h, .int (nI j), .int (nI q)]) (n := 3) (Nat.le_of_ble_eq_true rfl)
  rw [lg_entry_eq]
  generalize (lg_sl ([.ref h, .int (nI j), .int (nI q)]) ++ List.replicate (3 - (lg_sl ([.ref h, .int (nI j), .int (nI q)])).length) Slot.unset).toArray = ls at hl ⊢
  have hl : lv_has ls 3 [(0, .ref h), (1, .int (nI j)), (2, .int (nI q))] := hl
  generalize hRe : (headSpec wsSP_give ({ frames := 1, cells := 0, slots := 0, locals := 21 })).room = R
  have hRf : 1 ≤ R.frames := by rw [← hRe]; exact Nat.le_refl _
  have hRl : 21 ≤ R.locals := by rw [← hRe]; exact Nat.le_refl _
  have hRc : 0 ≤ R.cells := by rw [← hRe]; exact Nat.le_refl _
  have hRs : 0 ≤ R.slots := by rw [← hRe]; exact Nat.le_refl _
  generalize hargs : (List.toArray [.ref h, .int (nI j), .int (nI q)] : Array Value) = args at hts ⊢
  generalize hQe : MQ below _ args s _ _ _ = Q
  refine lv_iload_n hx hb dSP_give_0 rfl (lv_at hl 1 rfl) ?_
  refine vp_callSi (va_runSN (As := [.int (nI j)]) (rest := []) ⟨hx, hb, hml, hown, hts⟩ (c_SR_isTestNumber l dC dI cI cZ cG (nI j)) (hr_cnS 1 hts hKX.2.1 kw_338 kw_23 kw_339 (by decide +kernel) (by rw [← hRe]; exact ⟨Nat.le_of_ble_eq_true rfl, Nat.le_of_ble_eq_true rfl⟩)) (hr_preRS hKX hP [] rfl) rfl rfl hl.1 rfl (lv_room (Nat.le_of_ble_eq_true rfl)) dSP_give_1 ⟨by omega, by omega⟩).run (fun rv hrv => ?_)
  refine hr_eqi hrv ?_
  rw [inB_nI hj (by decide)]
  refine hr_if_eq hx hb (x := 1) (by omega) (tgt := 15) dSP_give_4 (by decide) (fun c_1 => ?_) (fun c_1 => ?_)
  · exact absurd c_1 (by decide)
  · refine lv_aload_n hx hb dSP_give_7 rfl (lv_at hl 0 rfl) ?_
    refine lv_iload_n hx hb dSP_give_8 rfl (lv_at hl 2 rfl) ?_
    refine vp_callSi (va_runV (C := RSP) (As := [.int (nI q)]) (rest := []) ⟨hx, hb, hml, hown, hts⟩ (c_SP_hasShard l dC dI cI cZ cG h a b d sc mv sm zs sf (nI q) (hsc)) (hr_cwV 1 hts kw_382 kw_383 kw_384 kw_29 kw_385 (by decide +kernel) (by rw [← hRe]; exact ⟨Nat.le_of_ble_eq_true rfl, Nat.le_of_ble_eq_true rfl⟩)) (hr_preR hKX hP [0, 1, 2, 3] rfl (ci := 5) (q0 := 0) (q := (RSP, TSP, 5)) rfl rfl) rfl rfl hl.1 rfl (lv_room (Nat.le_of_ble_eq_true rfl)) dSP_give_9 ⟨by omega, by omega⟩).run (fun rv hrv => ?_)
    refine hr_eqi hrv ?_
    rw [inB_nI hq (show sc < 2 ^ 31 by omega)]
    refine hr_if_ne hx hb (x := 1) (by omega) (tgt := 16) dSP_give_12 (by decide) (fun c_2 => ?_) (fun c_2 => ?_)
    · refine lv_aload_n hx hb dSP_give_16 rfl (lv_at hl 0 rfl) ?_
      refine va_get (D := (dC, dI)) (ci := 5) (v := .ref d) (C := RSP) (T := TSP) (N := 5) hx hb hts (fun w h => List.mem_cons_of_mem _ (inSP w h)) hown hK hP 0 rfl rfl 4 (by decide) (hts _ (List.mem_cons_of_mem _ kw_177)) (fun _ h9 => h9) rfl dSP_give_17 ?_
      refine lv_iload_n hx hb dSP_give_20 rfl (lv_at hl 1 rfl) ?_
      refine hr_iald hx hb hK hP 3 0 rfl rfl (i := j) (by omega) (by omega) dSP_give_21 ?_
      refine lv_iconst (v := (-1)) hx hb dSP_give_22 (by decide +kernel) ?_
      refine lv_icmp_eq (tgt := 46) hx hb dSP_give_23 (by decide) (fun c_3 => ?_) (fun c_3 => ?_)
      · refine lv_aload_n hx hb dSP_give_46 rfl (lv_at hl 0 rfl) ?_
        refine va_get (D := (dC, dI)) (ci := 5) (v := .ref d) (C := RSP) (T := TSP) (N := 5) hx hb hts (fun w h => List.mem_cons_of_mem _ (inSP w h)) hown hK hP 0 rfl rfl 4 (by decide) (hts _ (List.mem_cons_of_mem _ kw_177)) (fun _ h9 => h9) rfl dSP_give_47 ?_
        refine lv_iload_n hx hb dSP_give_50 rfl (lv_at hl 1 rfl) ?_
        refine lv_iload_n hx hb dSP_give_51 rfl (lv_at hl 2 rfl) ?_
        refine hr_iastO (x := (some q)) hx hb hK hP hD hS 3 0 rfl rfl (i := j) (by omega) (by omega) dSP_give_52 (fun H locs hP hD hS => ?_)
        have hP : va_P (dC, dI) vwCl [(h, .inr (5, [.int (nI sc), .int (nI mv), .ref a, .ref b, .ref d])), (a, .inl (cI, 4, .inl (fun j9 => nI (sm j9)))), (b, .inl (cI, 4, .inl (fun j9 => nI (zs j9)))), (d, .inl (cI, 24, .inl (fun j9 => oI ((va_up sf j (some q)) j9))))] H := hP
        have hD : va_D A [(h, .inr (5, [.int (nI sc), .int (nI mv), .ref a, .ref b, .ref d])), (a, .inl (cI, 4, .inl (fun j9 => nI (sm j9)))), (b, .inl (cI, 4, .inl (fun j9 => nI (zs j9)))), (d, .inl (cI, 24, .inl (fun j9 => oI ((va_up sf j (some q)) j9))))] := hD
        refine lv_aload_n hx hb dSP_give_53 rfl (lv_at hl 0 rfl) ?_
        refine va_get (D := (dC, dI)) (ci := 5) (v := .ref b) (C := RSP) (T := TSP) (N := 5) hx hb hts (fun w h => List.mem_cons_of_mem _ (inSP w h)) hown hK hP 0 rfl rfl 3 (by decide) (hts _ (List.mem_cons_of_mem _ kw_175)) (fun _ h9 => h9) rfl dSP_give_54 ?_
        refine lv_iload_n hx hb dSP_give_57 rfl (lv_at hl 2 rfl) ?_
        refine lv_dup2_11 hx hb dSP_give_58 rfl rfl ?_
        refine hr_iald hx hb hK hP 2 0 rfl rfl (i := q) (by omega) (by omega) dSP_give_59 ?_
        refine lv_iconst (v := nI 1) hx hb dSP_give_60 (by decide +kernel) ?_
        refine lv_iadd hx hb dSP_give_61 ?_
        refine hr_eqi (nI_add _ _) ?_
        refine hr_iastN hx hb hK hP hD hS 2 0 rfl rfl (i := q) (by omega) (by omega) dSP_give_62 (fun H locs hP hD hS => ?_)
        have hP : va_P (dC, dI) vwCl [(h, .inr (5, [.int (nI sc), .int (nI mv), .ref a, .ref b, .ref d])), (a, .inl (cI, 4, .inl (fun j9 => nI (sm j9)))), (b, .inl (cI, 4, .inl (fun j9 => nI ((va_up zs q ((zs q) + 1)) j9)))), (d, .inl (cI, 24, .inl (fun j9 => oI ((va_up sf j (some q)) j9))))] H := hP
        have hD : va_D A [(h, .inr (5, [.int (nI sc), .int (nI mv), .ref a, .ref b, .ref d])), (a, .inl (cI, 4, .inl (fun j9 => nI (sm j9)))), (b, .inl (cI, 4, .inl (fun j9 => nI ((va_up zs q ((zs q) + 1)) j9)))), (d, .inl (cI, 24, .inl (fun j9 => oI ((va_up sf j (some q)) j9))))] := hD
        have ez : mvdB (sf j) q = 0 := by rw [(oI_m1 hsf).mp c_3]; rfl
        rw [← hQe]
        exact W.vret hx hb hr (fun t ht hW => ⟨⟨(), rfl, trivial, by rw [ht, ez]; exact hP, by rw [ez]; exact hD⟩, hS.F ht⟩) hS.2.2 dSP_give_63
      · refine lv_aload_n hx hb dSP_give_26 rfl (lv_at hl 0 rfl) ?_
        refine va_get (D := (dC, dI)) (ci := 5) (v := .ref d) (C := RSP) (T := TSP) (N := 5) hx hb hts (fun w h => List.mem_cons_of_mem _ (inSP w h)) hown hK hP 0 rfl rfl 4 (by decide) (hts _ (List.mem_cons_of_mem _ kw_177)) (fun _ h9 => h9) rfl dSP_give_27 ?_
        refine lv_iload_n hx hb dSP_give_30 rfl (lv_at hl 1 rfl) ?_
        refine hr_iald hx hb hK hP 3 0 rfl rfl (i := j) (by omega) (by omega) dSP_give_31 ?_
        refine lv_iload_n hx hb dSP_give_32 rfl (lv_at hl 2 rfl) ?_
        refine lv_icmp_eq (tgt := 46) hx hb dSP_give_33 (by decide) (fun c_4 => ?_) (fun c_4 => ?_)
        · refine lv_aload_n hx hb dSP_give_46 rfl (lv_at hl 0 rfl) ?_
          refine va_get (D := (dC, dI)) (ci := 5) (v := .ref d) (C := RSP) (T := TSP) (N := 5) hx hb hts (fun w h => List.mem_cons_of_mem _ (inSP w h)) hown hK hP 0 rfl rfl 4 (by decide) (hts _ (List.mem_cons_of_mem _ kw_177)) (fun _ h9 => h9) rfl dSP_give_47 ?_
          refine lv_iload_n hx hb dSP_give_50 rfl (lv_at hl 1 rfl) ?_
          refine lv_iload_n hx hb dSP_give_51 rfl (lv_at hl 2 rfl) ?_
          refine hr_iastO (x := (some q)) hx hb hK hP hD hS 3 0 rfl rfl (i := j) (by omega) (by omega) dSP_give_52 (fun H locs hP hD hS => ?_)
          have hP : va_P (dC, dI) vwCl [(h, .inr (5, [.int (nI sc), .int (nI mv), .ref a, .ref b, .ref d])), (a, .inl (cI, 4, .inl (fun j9 => nI (sm j9)))), (b, .inl (cI, 4, .inl (fun j9 => nI (zs j9)))), (d, .inl (cI, 24, .inl (fun j9 => oI ((va_up sf j (some q)) j9))))] H := hP
          have hD : va_D A [(h, .inr (5, [.int (nI sc), .int (nI mv), .ref a, .ref b, .ref d])), (a, .inl (cI, 4, .inl (fun j9 => nI (sm j9)))), (b, .inl (cI, 4, .inl (fun j9 => nI (zs j9)))), (d, .inl (cI, 24, .inl (fun j9 => oI ((va_up sf j (some q)) j9))))] := hD
          refine lv_aload_n hx hb dSP_give_53 rfl (lv_at hl 0 rfl) ?_
          refine va_get (D := (dC, dI)) (ci := 5) (v := .ref b) (C := RSP) (T := TSP) (N := 5) hx hb hts (fun w h => List.mem_cons_of_mem _ (inSP w h)) hown hK hP 0 rfl rfl 3 (by decide) (hts _ (List.mem_cons_of_mem _ kw_175)) (fun _ h9 => h9) rfl dSP_give_54 ?_
          refine lv_iload_n hx hb dSP_give_57 rfl (lv_at hl 2 rfl) ?_
          refine lv_dup2_11 hx hb dSP_give_58 rfl rfl ?_
          refine hr_iald hx hb hK hP 2 0 rfl rfl (i := q) (by omega) (by omega) dSP_give_59 ?_
          refine lv_iconst (v := nI 1) hx hb dSP_give_60 (by decide +kernel) ?_
          refine lv_iadd hx hb dSP_give_61 ?_
          refine hr_eqi (nI_add _ _) ?_
          refine hr_iastN hx hb hK hP hD hS 2 0 rfl rfl (i := q) (by omega) (by omega) dSP_give_62 (fun H locs hP hD hS => ?_)
          have hP : va_P (dC, dI) vwCl [(h, .inr (5, [.int (nI sc), .int (nI mv), .ref a, .ref b, .ref d])), (a, .inl (cI, 4, .inl (fun j9 => nI (sm j9)))), (b, .inl (cI, 4, .inl (fun j9 => nI ((va_up zs q ((zs q) + 1)) j9)))), (d, .inl (cI, 24, .inl (fun j9 => oI ((va_up sf j (some q)) j9))))] H := hP
          have hD : va_D A [(h, .inr (5, [.int (nI sc), .int (nI mv), .ref a, .ref b, .ref d])), (a, .inl (cI, 4, .inl (fun j9 => nI (sm j9)))), (b, .inl (cI, 4, .inl (fun j9 => nI ((va_up zs q ((zs q) + 1)) j9)))), (d, .inl (cI, 24, .inl (fun j9 => oI ((va_up sf j (some q)) j9))))] := hD
          have ez : mvdB (sf j) q = 0 := by rw [(oI_nI hsf (by omega)).mp c_4]; simp [mvdB]
          rw [← hQe]
          exact W.vret hx hb hr (fun t ht hW => ⟨⟨(), rfl, trivial, by rw [ht, ez]; exact hP, by rw [ez]; exact hD⟩, hS.F ht⟩) hS.2.2 dSP_give_63
        · refine lv_aload_n hx hb dSP_give_36 rfl (lv_at hl 0 rfl) ?_
          refine lv_dup hx hb dSP_give_37 rfl ?_
          refine va_get (D := (dC, dI)) (ci := 5) (v := .int (nI mv)) (C := RSP) (T := TSP) (N := 5) hx hb hts (fun w h => List.mem_cons_of_mem _ (inSP w h)) hown hK hP 0 rfl rfl 1 (by decide) (hts _ (List.mem_cons_of_mem _ kw_171)) (fun _ h9 => h9) rfl dSP_give_38 ?_
          refine lv_iconst (v := nI 1) hx hb dSP_give_41 (by decide +kernel) ?_
          refine lv_iadd hx hb dSP_give_42 ?_
          refine hr_eqi (nI_add _ _) ?_
          refine va_put (D := (dC, dI)) (ci := 5) (v := .int (nI (mv + 1))) (ty := .int) (C := RSP) (T := TSP) (N := 5) hx hb hts (fun w h => List.mem_cons_of_mem _ (inSP w h)) tySP tySP_ok nmSP hown hK hP hD hS 0 rfl rfl 1 (by decide) (hts _ (List.mem_cons_of_mem _ kw_171)) (fun _ h9 => h9) rfl (by decide +kernel) rfl rfl (Nat.le_of_ble_eq_true rfl) dSP_give_43 (fun H locs hP hD hS => ?_)
          have hP : va_P (dC, dI) vwCl [(h, .inr (5, [.int (nI sc), .int (nI (mv + 1)), .ref a, .ref b, .ref d])), (a, .inl (cI, 4, .inl (fun j9 => nI (sm j9)))), (b, .inl (cI, 4, .inl (fun j9 => nI (zs j9)))), (d, .inl (cI, 24, .inl (fun j9 => oI (sf j9))))] H := hP
          have hD : va_D A [(h, .inr (5, [.int (nI sc), .int (nI (mv + 1)), .ref a, .ref b, .ref d])), (a, .inl (cI, 4, .inl (fun j9 => nI (sm j9)))), (b, .inl (cI, 4, .inl (fun j9 => nI (zs j9)))), (d, .inl (cI, 24, .inl (fun j9 => oI (sf j9))))] := hD
          refine lv_aload_n hx hb dSP_give_46 rfl (lv_at hl 0 rfl) ?_
          refine va_get (D := (dC, dI)) (ci := 5) (v := .ref d) (C := RSP) (T := TSP) (N := 5) hx hb hts (fun w h => List.mem_cons_of_mem _ (inSP w h)) hown hK hP 0 rfl rfl 4 (by decide) (hts _ (List.mem_cons_of_mem _ kw_177)) (fun _ h9 => h9) rfl dSP_give_47 ?_
          refine lv_iload_n hx hb dSP_give_50 rfl (lv_at hl 1 rfl) ?_
          refine lv_iload_n hx hb dSP_give_51 rfl (lv_at hl 2 rfl) ?_
          refine hr_iastO (x := (some q)) hx hb hK hP hD hS 3 0 rfl rfl (i := j) (by omega) (by omega) dSP_give_52 (fun H locs hP hD hS => ?_)
          have hP : va_P (dC, dI) vwCl [(h, .inr (5, [.int (nI sc), .int (nI (mv + 1)), .ref a, .ref b, .ref d])), (a, .inl (cI, 4, .inl (fun j9 => nI (sm j9)))), (b, .inl (cI, 4, .inl (fun j9 => nI (zs j9)))), (d, .inl (cI, 24, .inl (fun j9 => oI ((va_up sf j (some q)) j9))))] H := hP
          have hD : va_D A [(h, .inr (5, [.int (nI sc), .int (nI (mv + 1)), .ref a, .ref b, .ref d])), (a, .inl (cI, 4, .inl (fun j9 => nI (sm j9)))), (b, .inl (cI, 4, .inl (fun j9 => nI (zs j9)))), (d, .inl (cI, 24, .inl (fun j9 => oI ((va_up sf j (some q)) j9))))] := hD
          refine lv_aload_n hx hb dSP_give_53 rfl (lv_at hl 0 rfl) ?_
          refine va_get (D := (dC, dI)) (ci := 5) (v := .ref b) (C := RSP) (T := TSP) (N := 5) hx hb hts (fun w h => List.mem_cons_of_mem _ (inSP w h)) hown hK hP 0 rfl rfl 3 (by decide) (hts _ (List.mem_cons_of_mem _ kw_175)) (fun _ h9 => h9) rfl dSP_give_54 ?_
          refine lv_iload_n hx hb dSP_give_57 rfl (lv_at hl 2 rfl) ?_
          refine lv_dup2_11 hx hb dSP_give_58 rfl rfl ?_
          refine hr_iald hx hb hK hP 2 0 rfl rfl (i := q) (by omega) (by omega) dSP_give_59 ?_
          refine lv_iconst (v := nI 1) hx hb dSP_give_60 (by decide +kernel) ?_
          refine lv_iadd hx hb dSP_give_61 ?_
          refine hr_eqi (nI_add _ _) ?_
          refine hr_iastN hx hb hK hP hD hS 2 0 rfl rfl (i := q) (by omega) (by omega) dSP_give_62 (fun H locs hP hD hS => ?_)
          have hP : va_P (dC, dI) vwCl [(h, .inr (5, [.int (nI sc), .int (nI (mv + 1)), .ref a, .ref b, .ref d])), (a, .inl (cI, 4, .inl (fun j9 => nI (sm j9)))), (b, .inl (cI, 4, .inl (fun j9 => nI ((va_up zs q ((zs q) + 1)) j9)))), (d, .inl (cI, 24, .inl (fun j9 => oI ((va_up sf j (some q)) j9))))] H := hP
          have hD : va_D A [(h, .inr (5, [.int (nI sc), .int (nI (mv + 1)), .ref a, .ref b, .ref d])), (a, .inl (cI, 4, .inl (fun j9 => nI (sm j9)))), (b, .inl (cI, 4, .inl (fun j9 => nI ((va_up zs q ((zs q) + 1)) j9)))), (d, .inl (cI, 24, .inl (fun j9 => oI ((va_up sf j (some q)) j9))))] := hD
          have ez : mvdB (sf j) q = 1 := mvdB_1 (fun z => c_3 ((oI_m1 hsf).mpr z)) (fun z => c_4 ((oI_nI hsf (by omega)).mpr z))
          rw [← hQe]
          exact W.vret hx hb hr (fun t ht hW => ⟨⟨(), rfl, trivial, by rw [ht, ez]; exact hP, by rw [ez]; exact hD⟩, hS.F ht⟩) hS.2.2 dSP_give_63
    · exact absurd c_2 (by decide)
