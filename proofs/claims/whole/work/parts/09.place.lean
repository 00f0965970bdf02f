set_option maxHeartbeats 4000000 in
set_option maxRecDepth 100000 in
/-- GROUPS by falling TIMES -/
theorem c_GY_place (l : Launch) (dC : Nat → ClassId) (dI : Nat → Nat → Nat) (cI cZ cG : ClassId) (hY : Nat) (aY : Nat) (yc : Nat) (ym : Nat → Nat) (hG : Nat) (aG : Nat) (bG : Nat) (dG : Nat) (gG : Nat) (gc : Nat) (gn : Nat) (gF : Nat → Nat) (gT : Nat → Nat) (gS : Nat → Option Nat) (gO : Nat → Nat) (h : Nat) (a : Nat) (b : Nat) (d : Nat) (sc : Nat) (mv : Nat) (sm : Nat → Nat) (zs : Nat → Nat) (sf : Nat → Option Nat) (k : Nat) (sz : Nat) (hk : 1 ≤ k ∧ k ≤ 4) (hgc : gc ≤ 24) (hgT : ∀ g, g < gc → 1 ≤ gT g ∧ gT g ≤ 2400000) (hgS : ∀ g, g < gc → gS g = none) (hgF : ∀ g, g < gc → gF g < 24) (hsf : ∀ j, j < 24 → ∀ q, sf j = some q → q < 4) : Met l yGY_place wsGY_place ({ frames := 2, cells := 0, slots := 0, locals := 41 }) (va_Pc [.ref hY, .ref hG, .ref h, .int (nI k)] (fun U => U.heap.size = sz ∧ va_P (dC, dI) vwCl [(hY, .inr (4, [.int (nI yc), .ref aY])), (aY, .inl (cI, 4, .inl (fun j9 => nI (ym j9)))), (hG, .inr (1, [.int (nI gc), .int (nI gn), .ref aG, .ref bG, .ref dG, .ref gG])), (aG, .inl (cI, 24, .inl (fun j9 => nI (gF j9)))), (bG, .inl (cI, 24, .inl (fun j9 => nI (gT j9)))), (dG, .inl (cI, 24, .inl (fun j9 => oI (gS j9)))), (gG, .inl (cI, 24, .inl (fun j9 => nI (gO j9)))), (h, .inr (5, [.int (nI sc), .int (nI mv), .ref a, .ref b, .ref d])), (a, .inl (cI, 4, .inl (fun j9 => nI (sm j9)))), (b, .inl (cI, 4, .inl (fun j9 => nI (zs j9)))), (d, .inl (cI, 24, .inl (fun j9 => oI (sf j9))))] U.heap ∧ KX dC dI cI cZ cG U ∧ va_D (fun _ => True) [(hY, .inr (4, [.int (nI yc), .ref aY])), (aY, .inl (cI, 4, .inl (fun j9 => nI (ym j9)))), (hG, .inr (1, [.int (nI gc), .int (nI gn), .ref aG, .ref bG, .ref dG, .ref gG])), (aG, .inl (cI, 24, .inl (fun j9 => nI (gF j9)))), (bG, .inl (cI, 24, .inl (fun j9 => nI (gT j9)))), (dG, .inl (cI, 24, .inl (fun j9 => oI (gS j9)))), (gG, .inl (cI, 24, .inl (fun j9 => nI (gO j9)))), (h, .inr (5, [.int (nI sc), .int (nI mv), .ref a, .ref b, .ref d])), (a, .inl (cI, 4, .inl (fun j9 => nI (sm j9)))), (b, .inl (cI, 4, .inl (fun j9 => nI (zs j9)))), (d, .inl (cI, 24, .inl (fun j9 => oI (sf j9))))])) (va_Qv (fun (u : Unit) => True) (fun u t => va_P (dC, dI) vwCl [(hY, .inr (4, [.int (nI k), .ref aY])), (aY, .inl (cI, 4, .inl (fun j9 => nI (((grd gT gF sf gc k gS gc).2) j9)))), (hG, .inr (1, [.int (nI gc), .int (nI gn), .ref aG, .ref bG, .ref dG, .ref gG])), (aG, .inl (cI, 24, .inl (fun j9 => nI (gF j9)))), (bG, .inl (cI, 24, .inl (fun j9 => nI (gT j9)))), (dG, .inl (cI, 24, .inl (fun j9 => oI (((grd gT gF sf gc k gS gc).1) j9)))), (gG, .inl (cI, 24, .inl (fun j9 => nI (gO j9)))), (h, .inr (5, [.int (nI sc), .int (nI mv), .ref a, .ref b, .ref d])), (a, .inl (cI, 4, .inl (fun j9 => nI (sm j9)))), (b, .inl (cI, 4, .inl (fun j9 => nI (zs j9)))), (d, .inl (cI, 24, .inl (fun j9 => oI (sf j9))))] t.heap ∧ va_D (va_A [(hY, .inr (4, [.int (nI yc), .ref aY])), (aY, .inl (cI, 4, .inl (fun j9 => nI (ym j9)))), (hG, .inr (1, [.int (nI gc), .int (nI gn), .ref aG, .ref bG, .ref dG, .ref gG])), (aG, .inl (cI, 24, .inl (fun j9 => nI (gF j9)))), (bG, .inl (cI, 24, .inl (fun j9 => nI (gT j9)))), (dG, .inl (cI, 24, .inl (fun j9 => oI (gS j9)))), (gG, .inl (cI, 24, .inl (fun j9 => nI (gO j9)))), (h, .inr (5, [.int (nI sc), .int (nI mv), .ref a, .ref b, .ref d])), (a, .inl (cI, 4, .inl (fun j9 => nI (sm j9)))), (b, .inl (cI, 4, .inl (fun j9 => nI (zs j9)))), (d, .inl (cI, 24, .inl (fun j9 => oI (sf j9))))] sz) [(hY, .inr (4, [.int (nI k), .ref aY])), (aY, .inl (cI, 4, .inl (fun j9 => nI (((grd gT gF sf gc k gS gc).2) j9)))), (hG, .inr (1, [.int (nI gc), .int (nI gn), .ref aG, .ref bG, .ref dG, .ref gG])), (aG, .inl (cI, 24, .inl (fun j9 => nI (gF j9)))), (bG, .inl (cI, 24, .inl (fun j9 => nI (gT j9)))), (dG, .inl (cI, 24, .inl (fun j9 => oI (((grd gT gF sf gc k gS gc).1) j9)))), (gG, .inl (cI, 24, .inl (fun j9 => nI (gO j9)))), (h, .inr (5, [.int (nI sc), .int (nI mv), .ref a, .ref b, .ref d])), (a, .inl (cI, 4, .inl (fun j9 => nI (sm j9)))), (b, .inl (cI, 4, .inl (fun j9 => nI (zs j9)))), (d, .inl (cI, 24, .inl (fun j9 => oI (sf j9))))]) (va_A [(hY, .inr (4, [.int (nI yc), .ref aY])), (aY, .inl (cI, 4, .inl (fun j9 => nI (ym j9)))), (hG, .inr (1, [.int (nI gc), .int (nI gn), .ref aG, .ref bG, .ref dG, .ref gG])), (aG, .inl (cI, 24, .inl (fun j9 => nI (gF j9)))), (bG, .inl (cI, 24, .inl (fun j9 => nI (gT j9)))), (dG, .inl (cI, 24, .inl (fun j9 => oI (gS j9)))), (gG, .inl (cI, 24, .inl (fun j9 => nI (gO j9)))), (h, .inr (5, [.int (nI sc), .int (nI mv), .ref a, .ref b, .ref d])), (a, .inl (cI, 4, .inl (fun j9 => nI (sm j9)))), (b, .inl (cI, 4, .inl (fun j9 => nI (zs j9)))), (d, .inl (cI, 24, .inl (fun j9 => oI (sf j9))))] sz)) 0 0 (va_A [(hY, .inr (4, [.int (nI yc), .ref aY])), (aY, .inl (cI, 4, .inl (fun j9 => nI (ym j9)))), (hG, .inr (1, [.int (nI gc), .int (nI gn), .ref aG, .ref bG, .ref dG, .ref gG])), (aG, .inl (cI, 24, .inl (fun j9 => nI (gF j9)))), (bG, .inl (cI, 24, .inl (fun j9 => nI (gT j9)))), (dG, .inl (cI, 24, .inl (fun j9 => oI (gS j9)))), (gG, .inl (cI, 24, .inl (fun j9 => nI (gO j9)))), (h, .inr (5, [.int (nI sc), .int (nI mv), .ref a, .ref b, .ref d])), (a, .inl (cI, 4, .inl (fun j9 => nI (sm j9)))), (b, .inl (cI, 4, .inl (fun j9 => nI (zs j9)))), (d, .inl (cI, 24, .inl (fun j9 => oI (sf j9))))] sz) := by
  refine Met.ofW (cc := cGY_place) (maxL := 7) (ret := none) (by decide) rfl ?_
  intro p e s m args below meth c s₁ B hml hv
  obtain ⟨rfl, hsz, hP, hKX, hD0⟩ := hv
  have hK := hKX.1
  have hx := B.exec
  have hb := B.bytes
  have hr := B.returns
  have hts := atoms_spec (ws := wsGY_place) B.pre
  have hown : s.vm.findClass RGY = some m.cls := findClass_of_methodNamed B.named
  have hlocks := B.notSynchronized
  subst hsz
  have hD := hD0.self (sz := s.heap.size)
  generalize hAe : va_A [(hY, .inr (4, [.int (nI yc), .ref aY])), (aY, .inl (cI, 4, .inl (fun j9 => nI (ym j9)))), (hG, .inr (1, [.int (nI gc), .int (nI gn), .ref aG, .ref bG, .ref dG, .ref gG])), (aG, .inl (cI, 24, .inl (fun j9 => nI (gF j9)))), (bG, .inl (cI, 24, .inl (fun j9 => nI (gT j9)))), (dG, .inl (cI, 24, .inl (fun j9 => oI (gS j9)))), (gG, .inl (cI, 24, .inl (fun j9 => nI (gO j9)))), (h, .inr (5, [.int (nI sc), .int (nI mv), .ref a, .ref b, .ref d])), (a, .inl (cI, 4, .inl (fun j9 => nI (sm j9)))), (b, .inl (cI, 4, .inl (fun j9 => nI (zs j9)))), (d, .inl (cI, 24, .inl (fun j9 => oI (sf j9))))] s.heap.size = A at hD ⊢
  have hA : ∀ q : Nat, s.heap.size ≤ q → A q := fun q h => by rw [← hAe]; exact Or.inr h
  have hS : va_S A s.heap s.heap [] := va_S.rf
  have hl := lv_entry ([.ref hY, .ref hG, .ref h, .int (nI k)]) (n := 7) (Nat.le_of_ble_eq_true rfl)
  rw [lg_entry_eq]
  generalize (lg_sl ([.ref hY, .ref hG, .ref h, .int (nI k)]) ++ List.replicate (7 - (lg_sl ([.ref hY, .ref hG, .ref h, .int (nI k)])).length) Slot.unset).toArray = ls at hl ⊢
  have hl : lv_has ls 7 [(0, .ref hY), (1, .ref hG), (2, .ref h), (3, .int (nI k))] := hl
  generalize hRe : (headSpec wsGY_place ({ frames := 2, cells := 0, slots := 0, locals := 41 })).room = R
  have hRf : 2 ≤ R.frames := by rw [← hRe]; exact Nat.le_refl _
  have hRl : 41 ≤ R.locals := by rw [← hRe]; exact Nat.le_refl _
  have hRc : 0 ≤ R.cells := by rw [← hRe]; exact Nat.le_refl _
  have hRs : 0 ≤ R.slots := by rw [← hRe]; exact Nat.le_refl _
  generalize hargs : (List.toArray [.ref hY, .ref hG, .ref h, .int (nI k)] : Array Value) = args at hts ⊢
  generalize hQe : MQ below _ args s _ _ _ = Q
  refine lv_aload_n hx hb dGY_place_0 rfl (lv_at hl 0 rfl) ?_
  refine lv_iload_n hx hb dGY_place_1 rfl (lv_at hl 3 rfl) ?_
  refine lv_iconst (v := nI 4) hx hb dGY_place_2 (by decide +kernel) ?_
  refine va_mmin (rest := [.ref hY]) hx hb (by rw [hml]; exact hl.1.symm) hown (hts (.methodLink RGY 15 Lib.Math.min.name) (by decide +kernel)) (hts (.static Lib.Math.min.name) (by decide +kernel)) (hts (.initialized "java/lang/Math") (by decide +kernel)) (hts (.code Lib.Math.min.name Lib.Math.min.code 2 (some .int)) (by decide +kernel)) (Nat.le_trans (Nat.le_of_ble_eq_true rfl) hRf) (Nat.le_trans (Nat.le_of_ble_eq_true rfl) hRl) (Nat.zero_le _) (Nat.zero_le _) dGY_place_3 ?_
  refine hr_eqi (hr_min (by omega) (by omega)) ?_
  rw [show min k 4 = k by omega]
  refine va_put (D := (dC, dI)) (ci := 4) (v := .int (nI k)) (ty := .int) (C := RGY) (T := TGY) (N := 2) hx hb hts (fun w h => List.mem_cons_of_mem _ (inGY w h)) tyGY tyGY_ok nmGY hown hK hP hD hS 0 rfl rfl 0 (by decide) (hts _ (List.mem_cons_of_mem _ kw_153)) (fun _ h9 => h9) rfl (by decide +kernel) rfl rfl (Nat.le_of_ble_eq_true rfl) dGY_place_6 (fun H locs hP hD hS => ?_)
  have hP : va_P (dC, dI) vwCl [(hY, .inr (4, [.int (nI k), .ref aY])), (aY, .inl (cI, 4, .inl (fun j9 => nI (ym j9)))), (hG, .inr (1, [.int (nI gc), .int (nI gn), .ref aG, .ref bG, .ref dG, .ref gG])), (aG, .inl (cI, 24, .inl (fun j9 => nI (gF j9)))), (bG, .inl (cI, 24, .inl (fun j9 => nI (gT j9)))), (dG, .inl (cI, 24, .inl (fun j9 => oI (gS j9)))), (gG, .inl (cI, 24, .inl (fun j9 => nI (gO j9)))), (h, .inr (5, [.int (nI sc), .int (nI mv), .ref a, .ref b, .ref d])), (a, .inl (cI, 4, .inl (fun j9 => nI (sm j9)))), (b, .inl (cI, 4, .inl (fun j9 => nI (zs j9)))), (d, .inl (cI, 24, .inl (fun j9 => oI (sf j9))))] H := hP
  have hD : va_D A [(hY, .inr (4, [.int (nI k), .ref aY])), (aY, .inl (cI, 4, .inl (fun j9 => nI (ym j9)))), (hG, .inr (1, [.int (nI gc), .int (nI gn), .ref aG, .ref bG, .ref dG, .ref gG])), (aG, .inl (cI, 24, .inl (fun j9 => nI (gF j9)))), (bG, .inl (cI, 24, .inl (fun j9 => nI (gT j9)))), (dG, .inl (cI, 24, .inl (fun j9 => oI (gS j9)))), (gG, .inl (cI, 24, .inl (fun j9 => nI (gO j9)))), (h, .inr (5, [.int (nI sc), .int (nI mv), .ref a, .ref b, .ref d])), (a, .inl (cI, 4, .inl (fun j9 => nI (sm j9)))), (b, .inl (cI, 4, .inl (fun j9 => nI (zs j9)))), (d, .inl (cI, 24, .inl (fun j9 => oI (sf j9))))] := hD
  refine lv_aload_n hx hb dGY_place_9 rfl (lv_at hl 0 rfl) ?_
  refine va_get (D := (dC, dI)) (ci := 4) (v := .ref aY) (C := RGY) (T := TGY) (N := 2) hx hb hts (fun w h => List.mem_cons_of_mem _ (inGY w h)) hown hK hP 0 rfl rfl 1 (by decide) (hts _ (List.mem_cons_of_mem _ kw_154)) (fun _ h9 => h9) rfl dGY_place_10 ?_
  refine lv_iconst (v := nI 0) hx hb dGY_place_13 (by decide +kernel) ?_
  refine hr_callv (wr := [(hY, .inr (4, [.int (nI k), .ref aY])), (hG, .inr (1, [.int (nI gc), .int (nI gn), .ref aG, .ref bG, .ref dG, .ref gG])), (aG, .inl (cI, 24, .inl (fun j9 => nI (gF j9)))), (bG, .inl (cI, 24, .inl (fun j9 => nI (gT j9)))), (dG, .inl (cI, 24, .inl (fun j9 => oI (gS j9)))), (gG, .inl (cI, 24, .inl (fun j9 => nI (gO j9)))), (h, .inr (5, [.int (nI sc), .int (nI mv), .ref a, .ref b, .ref d])), (a, .inl (cI, 4, .inl (fun j9 => nI (sm j9)))), (b, .inl (cI, 4, .inl (fun j9 => nI (zs j9)))), (d, .inl (cI, 24, .inl (fun j9 => oI (sf j9))))]) (va_runS (As := [.ref aY, .int (nI 0)]) (rest := []) ⟨hx, hb, hml, hown, hts⟩ (c_AR_fill l dC dI cI cZ cG aY 4 (fun j9 => nI (ym j9)) (nI 0) H.size (by decide)) (hr_cwS 2 hts kw_364 kw_167 kw_30 kw_168 (by decide +kernel) (by rw [← hRe]; exact ⟨Nat.le_of_ble_eq_true rfl, Nat.le_of_ble_eq_true rfl⟩)) (hr_preWS hKX hP hD [1] (by decide) rfl) rfl rfl hl.1 rfl (lv_room (Nat.le_of_ble_eq_true rfl)) dGY_place_14 ⟨by omega, by omega⟩) hP hD hS hA [1] [0, 2, 3, 4, 5, 6, 7, 8, 9, 10] rfl rfl (by decide) (by decide) [0, 10, 1, 2, 3, 4, 5, 6, 7, 8, 9] (fun u => [(hY, .inr (4, [.int (nI k), .ref aY])), (aY, .inl (cI, 4, .inl (fun j9 => nI ((fun _ => 0) j9)))), (hG, .inr (1, [.int (nI gc), .int (nI gn), .ref aG, .ref bG, .ref dG, .ref gG])), (aG, .inl (cI, 24, .inl (fun j9 => nI (gF j9)))), (bG, .inl (cI, 24, .inl (fun j9 => nI (gT j9)))), (dG, .inl (cI, 24, .inl (fun j9 => oI (gS j9)))), (gG, .inl (cI, 24, .inl (fun j9 => nI (gO j9)))), (h, .inr (5, [.int (nI sc), .int (nI mv), .ref a, .ref b, .ref d])), (a, .inl (cI, 4, .inl (fun j9 => nI (sm j9)))), (b, .inl (cI, 4, .inl (fun j9 => nI (zs j9)))), (d, .inl (cI, 24, .inl (fun j9 => oI (sf j9))))]) (by decide) (fun u => rfl) (fun u H locs hrv hP hD hS => ?_)
  have hP : va_P (dC, dI) vwCl [(hY, .inr (4, [.int (nI k), .ref aY])), (aY, .inl (cI, 4, .inl (fun j9 => nI ((fun _ => 0) j9)))), (hG, .inr (1, [.int (nI gc), .int (nI gn), .ref aG, .ref bG, .ref dG, .ref gG])), (aG, .inl (cI, 24, .inl (fun j9 => nI (gF j9)))), (bG, .inl (cI, 24, .inl (fun j9 => nI (gT j9)))), (dG, .inl (cI, 24, .inl (fun j9 => oI (gS j9)))), (gG, .inl (cI, 24, .inl (fun j9 => nI (gO j9)))), (h, .inr (5, [.int (nI sc), .int (nI mv), .ref a, .ref b, .ref d])), (a, .inl (cI, 4, .inl (fun j9 => nI (sm j9)))), (b, .inl (cI, 4, .inl (fun j9 => nI (zs j9)))), (d, .inl (cI, 24, .inl (fun j9 => oI (sf j9))))] H := hP
  have hD : va_D A [(hY, .inr (4, [.int (nI k), .ref aY])), (aY, .inl (cI, 4, .inl (fun j9 => nI ((fun _ => 0) j9)))), (hG, .inr (1, [.int (nI gc), .int (nI gn), .ref aG, .ref bG, .ref dG, .ref gG])), (aG, .inl (cI, 24, .inl (fun j9 => nI (gF j9)))), (bG, .inl (cI, 24, .inl (fun j9 => nI (gT j9)))), (dG, .inl (cI, 24, .inl (fun j9 => oI (gS j9)))), (gG, .inl (cI, 24, .inl (fun j9 => nI (gO j9)))), (h, .inr (5, [.int (nI sc), .int (nI mv), .ref a, .ref b, .ref d])), (a, .inl (cI, 4, .inl (fun j9 => nI (sm j9)))), (b, .inl (cI, 4, .inl (fun j9 => nI (zs j9)))), (d, .inl (cI, 24, .inl (fun j9 => oI (sf j9))))] := hD
  refine lv_iconst (v := nI 0) hx hb dGY_place_17 (by decide +kernel) ?_
  refine lv_istore (lv' := [(4, .int (nI 0)), (0, .ref hY), (1, .ref hG), (2, .ref h), (3, .int (nI k))]) hx hb dGY_place_18 hl (by decide) rfl (fun ls hl => ?_)
  have loop_20 : ∀ (n9 : Nat) (i : Nat), i ≤ gc → gc + 1 ≤ i + n9 → ∀ (H : Heap) (locs : List Loc), va_P (dC, dI) vwCl [(hY, .inr (4, [.int (nI k), .ref aY])), (aY, .inl (cI, 4, .inl (fun j9 => nI (((grd gT gF sf gc k gS i).2) j9)))), (hG, .inr (1, [.int (nI gc), .int (nI gn), .ref aG, .ref bG, .ref dG, .ref gG])), (aG, .inl (cI, 24, .inl (fun j9 => nI (gF j9)))), (bG, .inl (cI, 24, .inl (fun j9 => nI (gT j9)))), (dG, .inl (cI, 24, .inl (fun j9 => oI (((grd gT gF sf gc k gS i).1) j9)))), (gG, .inl (cI, 24, .inl (fun j9 => nI (gO j9)))), (h, .inr (5, [.int (nI sc), .int (nI mv), .ref a, .ref b, .ref d])), (a, .inl (cI, 4, .inl (fun j9 => nI (sm j9)))), (b, .inl (cI, 4, .inl (fun j9 => nI (zs j9)))), (d, .inl (cI, 24, .inl (fun j9 => oI (sf j9))))] H → va_D A [(hY, .inr (4, [.int (nI k), .ref aY])), (aY, .inl (cI, 4, .inl (fun j9 => nI (((grd gT gF sf gc k gS i).2) j9)))), (hG, .inr (1, [.int (nI gc), .int (nI gn), .ref aG, .ref bG, .ref dG, .ref gG])), (aG, .inl (cI, 24, .inl (fun j9 => nI (gF j9)))), (bG, .inl (cI, 24, .inl (fun j9 => nI (gT j9)))), (dG, .inl (cI, 24, .inl (fun j9 => oI (((grd gT gF sf gc k gS i).1) j9)))), (gG, .inl (cI, 24, .inl (fun j9 => nI (gO j9)))), (h, .inr (5, [.int (nI sc), .int (nI mv), .ref a, .ref b, .ref d])), (a, .inl (cI, 4, .inl (fun j9 => nI (sm j9)))), (b, .inl (cI, 4, .inl (fun j9 => nI (zs j9)))), (d, .inl (cI, 24, .inl (fun j9 => oI (sf j9))))] → va_S A s.heap H locs → ∀ (ls : Array Slot), lv_has ls 7 [(4, .int (nI i)), (0, .ref hY), (1, .ref hG), (2, .ref h), (3, .int (nI k))] → W p l e R s m args below meth c H locs 0 0 Q (F0 m 20 ls []) := by
    intro n9
    induction n9 with
    | zero =>
      intro i hi hmeas
      exact absurd hmeas (by omega)
    | succ n9 ih_20 =>
      intro i hi hmeas H locs hP hD hS ls hl
      refine lv_iload hx hb dGY_place_20 (lv_at hl 0 rfl) ?_
      refine lv_aload_n hx hb dGY_place_22 rfl (lv_at hl 2 rfl) ?_
      refine va_get (D := (dC, dI)) (ci := 1) (v := .int (nI gc)) (C := RGR) (T := TGR) (N := 6) hx hb hts (fun w h => List.mem_cons_of_mem _ (inGR w h)) hown hK hP 2 rfl rfl 0 (by decide) (hts _ (List.mem_cons_of_mem _ kw_77)) (fun _ h9 => h9) rfl dGY_place_23 ?_
      refine hr_icmp_ge hx hb (x := i) (y := gc) (by omega) (by omega) (tgt := 84) dGY_place_26 (by decide) (fun c_1 => ?_) (fun c_1 => ?_)
      · have ei : gc = i := by omega
        subst ei
        rw [← hQe]
        exact W.vret hx hb hr (fun t ht hW => ⟨⟨(), rfl, trivial, by rw [ht]; exact hP, hD⟩, hS.F ht⟩) hS.2.2 dGY_place_84
      · have hgl := sel_getD (w := gT) (gs := (grd gT gF sf gc k gS i).1) (G := gc) (by omega)
        have hFl := hgF ((sel gT (grd gT gF sf gc k gS i).1 gc).getD 0) hgl
        have hql := lsh_lt (sm := (grd gT gF sf gc k gS i).2) (k := k) (o := sf (gF ((sel gT (grd gT gF sf gc k gS i).1 gc).getD 0))) hk.1
        have hsl : ∀ q, q < 4 → (grd gT gF sf gc k gS i).2 q < 2 ^ 30 := fun q _ => by have := grd_le (F := gF) (sf := sf) (k := k) (g0 := gS) (B := 2400000) (show 0 < gc by omega) (fun g hg => (hgT g hg).2) i q; have : 2400000 * i ≤ 2400000 * 24 := Nat.mul_le_mul_left _ (by omega); omega
        refine lv_aload_n hx hb dGY_place_29 rfl (lv_at hl 2 rfl) ?_
        refine vp_callSi (va_runS (As := [.ref hG]) (rest := []) ⟨hx, hb, hml, hown, hts⟩ (c_GY_longest l dC dI cI cZ cG hG aG bG dG gG gc gn gF gT ((grd gT gF sf gc k gS i).1) gO (hgc) (hgT) (fun g hg q hq => by have := grd_S hk.1 hgS i g q hg hq; omega)) (hr_cwS 1 hts kw_365 kw_366 kw_28 kw_367 (by decide +kernel) (by rw [← hRe]; exact ⟨Nat.le_of_ble_eq_true rfl, Nat.le_of_ble_eq_true rfl⟩)) (hr_preRS hKX hP [2, 3, 4, 5, 6] rfl) rfl rfl hl.1 rfl (lv_room (Nat.le_of_ble_eq_true rfl)) dGY_place_30 ⟨by omega, by omega⟩).run (fun rv hrv => ?_)
        refine hr_eqi hrv ?_
        refine lv_istore (lv' := [(5, .int (nI ((sel gT ((grd gT gF sf gc k gS i).1) gc).getD 0))), (4, .int (nI i)), (0, .ref hY), (1, .ref hG), (2, .ref h), (3, .int (nI k))]) hx hb dGY_place_33 hl (by decide) rfl (fun ls hl => ?_)
        refine lv_aload_n hx hb dGY_place_35 rfl (lv_at hl 2 rfl) ?_
        refine lv_aload_n hx hb dGY_place_36 rfl (lv_at hl 4 rfl) ?_
        refine lv_aload_n hx hb dGY_place_37 rfl (lv_at hl 3 rfl) ?_
        refine va_get (D := (dC, dI)) (ci := 1) (v := .ref aG) (C := RGR) (T := TGR) (N := 6) hx hb hts (fun w h => List.mem_cons_of_mem _ (inGR w h)) hown hK hP 2 rfl rfl 2 (by decide) (hts _ (List.mem_cons_of_mem _ kw_84)) (fun _ h9 => h9) rfl dGY_place_38 ?_
        refine lv_iload hx hb dGY_place_41 (lv_at hl 0 rfl) ?_
        refine hr_iald hx hb hK hP 3 0 rfl rfl (i := ((sel gT ((grd gT gF sf gc k gS i).1) gc).getD 0)) (by omega) (by omega) dGY_place_43 ?_
        refine vp_callSi (va_runV (C := RSP) (As := [.int (nI (gF ((sel gT ((grd gT gF sf gc k gS i).1) gc).getD 0)))]) (rest := [.ref hY]) ⟨hx, hb, hml, hown, hts⟩ (c_SP_shardAt l dC dI cI cZ cG h a b d sc mv sm zs sf (nI (gF ((sel gT (grd gT gF sf gc k gS i).1 gc).getD 0)))) (hr_cwV 1 hts kw_368 kw_334 kw_335 kw_29 kw_336 (by decide +kernel) (by rw [← hRe]; exact ⟨Nat.le_of_ble_eq_true rfl, Nat.le_of_ble_eq_true rfl⟩)) (hr_preR hKX hP [7, 8, 9, 10] rfl (ci := 5) (q0 := 7) (q := (RSP, TSP, 5)) rfl rfl) rfl rfl hl.1 rfl (lv_room (Nat.le_of_ble_eq_true rfl)) dGY_place_44 ⟨by omega, by omega⟩).run (fun rv hrv => ?_)
        refine hr_eqi hrv ?_
        refine hr_eqi (show oI (shA sf (nI (gF ((sel gT (grd gT gF sf gc k gS i).1 gc).getD 0)))) = oI (sf (gF ((sel gT (grd gT gF sf gc k gS i).1 gc).getD 0))) by rw [shA_nI hFl]) ?_
        refine vp_callSi (va_runV (C := RGY) (As := [.int (oI (sf (gF ((sel gT (grd gT gF sf gc k gS i).1 gc).getD 0))))]) (rest := []) ⟨hx, hb, hml, hown, hts⟩ (c_GY_least l dC dI cI cZ cG hY aY k ((grd gT gF sf gc k gS i).2) (sf (gF ((sel gT (grd gT gF sf gc k gS i).1 gc).getD 0))) (hk) (hsl) (fun q hq => by have := hsf _ hFl q hq; omega)) (hr_cwV 1 hts kw_369 kw_371 kw_6 kw_28 kw_372 (by decide +kernel) (by rw [← hRe]; exact ⟨Nat.le_of_ble_eq_true rfl, Nat.le_of_ble_eq_true rfl⟩)) (hr_preR hKX hP [0, 1] rfl (ci := 4) (q0 := 0) (q := (RGY, TGY, 2)) rfl rfl) rfl rfl hl.1 rfl (lv_room (Nat.le_of_ble_eq_true rfl)) dGY_place_47 ⟨by omega, by omega⟩).run (fun rv hrv => ?_)
        refine hr_eqi hrv ?_
        refine lv_istore (lv' := [(6, .int (nI (lsh ((grd gT gF sf gc k gS i).2) k (sf (gF ((sel gT (grd gT gF sf gc k gS i).1 gc).getD 0)))))), (5, .int (nI ((sel gT ((grd gT gF sf gc k gS i).1) gc).getD 0))), (4, .int (nI i)), (0, .ref hY), (1, .ref hG), (2, .ref h), (3, .int (nI k))]) hx hb dGY_place_50 hl (by decide) rfl (fun ls hl => ?_)
        refine lv_aload_n hx hb dGY_place_52 rfl (lv_at hl 4 rfl) ?_
        refine va_get (D := (dC, dI)) (ci := 1) (v := .ref dG) (C := RGR) (T := TGR) (N := 6) hx hb hts (fun w h => List.mem_cons_of_mem _ (inGR w h)) hown hK hP 2 rfl rfl 4 (by decide) (hts _ (List.mem_cons_of_mem _ kw_91)) (fun _ h9 => h9) rfl dGY_place_53 ?_
        refine lv_iload hx hb dGY_place_56 (lv_at hl 1 rfl) ?_
        refine lv_iload hx hb dGY_place_58 (lv_at hl 0 rfl) ?_
        refine hr_iastO (x := (some (lsh ((grd gT gF sf gc k gS i).2) k (sf (gF ((sel gT (grd gT gF sf gc k gS i).1 gc).getD 0)))))) hx hb hK hP hD hS 5 0 rfl rfl (i := ((sel gT ((grd gT gF sf gc k gS i).1) gc).getD 0)) (by omega) (by omega) dGY_place_60 (fun H locs hP hD hS => ?_)
        have hP : va_P (dC, dI) vwCl [(hY, .inr (4, [.int (nI k), .ref aY])), (aY, .inl (cI, 4, .inl (fun j9 => nI (((grd gT gF sf gc k gS i).2) j9)))), (hG, .inr (1, [.int (nI gc), .int (nI gn), .ref aG, .ref bG, .ref dG, .ref gG])), (aG, .inl (cI, 24, .inl (fun j9 => nI (gF j9)))), (bG, .inl (cI, 24, .inl (fun j9 => nI (gT j9)))), (dG, .inl (cI, 24, .inl (fun j9 => oI ((va_up ((grd gT gF sf gc k gS i).1) ((sel gT ((grd gT gF sf gc k gS i).1) gc).getD 0) (some (lsh ((grd gT gF sf gc k gS i).2) k (sf (gF ((sel gT (grd gT gF sf gc k gS i).1 gc).getD 0)))))) j9)))), (gG, .inl (cI, 24, .inl (fun j9 => nI (gO j9)))), (h, .inr (5, [.int (nI sc), .int (nI mv), .ref a, .ref b, .ref d])), (a, .inl (cI, 4, .inl (fun j9 => nI (sm j9)))), (b, .inl (cI, 4, .inl (fun j9 => nI (zs j9)))), (d, .inl (cI, 24, .inl (fun j9 => oI (sf j9))))] H := hP
        have hD : va_D A [(hY, .inr (4, [.int (nI k), .ref aY])), (aY, .inl (cI, 4, .inl (fun j9 => nI (((grd gT gF sf gc k gS i).2) j9)))), (hG, .inr (1, [.int (nI gc), .int (nI gn), .ref aG, .ref bG, .ref dG, .ref gG])), (aG, .inl (cI, 24, .inl (fun j9 => nI (gF j9)))), (bG, .inl (cI, 24, .inl (fun j9 => nI (gT j9)))), (dG, .inl (cI, 24, .inl (fun j9 => oI ((va_up ((grd gT gF sf gc k gS i).1) ((sel gT ((grd gT gF sf gc k gS i).1) gc).getD 0) (some (lsh ((grd gT gF sf gc k gS i).2) k (sf (gF ((sel gT (grd gT gF sf gc k gS i).1 gc).getD 0)))))) j9)))), (gG, .inl (cI, 24, .inl (fun j9 => nI (gO j9)))), (h, .inr (5, [.int (nI sc), .int (nI mv), .ref a, .ref b, .ref d])), (a, .inl (cI, 4, .inl (fun j9 => nI (sm j9)))), (b, .inl (cI, 4, .inl (fun j9 => nI (zs j9)))), (d, .inl (cI, 24, .inl (fun j9 => oI (sf j9))))] := hD
        refine lv_aload_n hx hb dGY_place_61 rfl (lv_at hl 3 rfl) ?_
        refine va_get (D := (dC, dI)) (ci := 4) (v := .ref aY) (C := RGY) (T := TGY) (N := 2) hx hb hts (fun w h => List.mem_cons_of_mem _ (inGY w h)) hown hK hP 0 rfl rfl 1 (by decide) (hts _ (List.mem_cons_of_mem _ kw_154)) (fun _ h9 => h9) rfl dGY_place_62 ?_
        refine lv_iload hx hb dGY_place_65 (lv_at hl 0 rfl) ?_
        refine lv_dup2_11 hx hb dGY_place_67 rfl rfl ?_
        refine hr_iald hx hb hK hP 1 0 rfl rfl (i := (lsh ((grd gT gF sf gc k gS i).2) k (sf (gF ((sel gT (grd gT gF sf gc k gS i).1 gc).getD 0))))) (by omega) (by omega) dGY_place_68 ?_
        refine lv_aload_n hx hb dGY_place_69 rfl (lv_at hl 4 rfl) ?_
        refine va_get (D := (dC, dI)) (ci := 1) (v := .ref bG) (C := RGR) (T := TGR) (N := 6) hx hb hts (fun w h => List.mem_cons_of_mem _ (inGR w h)) hown hK hP 2 rfl rfl 3 (by decide) (hts _ (List.mem_cons_of_mem _ kw_88)) (fun _ h9 => h9) rfl dGY_place_70 ?_
        refine lv_iload hx hb dGY_place_73 (lv_at hl 1 rfl) ?_
        refine hr_iald hx hb hK hP 4 0 rfl rfl (i := ((sel gT ((grd gT gF sf gc k gS i).1) gc).getD 0)) (by omega) (by omega) dGY_place_75 ?_
        refine lv_iadd hx hb dGY_place_76 ?_
        refine hr_eqi (nI_add _ _) ?_
        refine hr_iastN hx hb hK hP hD hS 1 0 rfl rfl (i := (lsh ((grd gT gF sf gc k gS i).2) k (sf (gF ((sel gT (grd gT gF sf gc k gS i).1 gc).getD 0))))) (by omega) (by omega) dGY_place_77 (fun H locs hP hD hS => ?_)
        have hP : va_P (dC, dI) vwCl [(hY, .inr (4, [.int (nI k), .ref aY])), (aY, .inl (cI, 4, .inl (fun j9 => nI ((va_up ((grd gT gF sf gc k gS i).2) (lsh ((grd gT gF sf gc k gS i).2) k (sf (gF ((sel gT (grd gT gF sf gc k gS i).1 gc).getD 0)))) ((((grd gT gF sf gc k gS i).2) (lsh ((grd gT gF sf gc k gS i).2) k (sf (gF ((sel gT (grd gT gF sf gc k gS i).1 gc).getD 0))))) + (gT ((sel gT ((grd gT gF sf gc k gS i).1) gc).getD 0)))) j9)))), (hG, .inr (1, [.int (nI gc), .int (nI gn), .ref aG, .ref bG, .ref dG, .ref gG])), (aG, .inl (cI, 24, .inl (fun j9 => nI (gF j9)))), (bG, .inl (cI, 24, .inl (fun j9 => nI (gT j9)))), (dG, .inl (cI, 24, .inl (fun j9 => oI ((va_up ((grd gT gF sf gc k gS i).1) ((sel gT ((grd gT gF sf gc k gS i).1) gc).getD 0) (some (lsh ((grd gT gF sf gc k gS i).2) k (sf (gF ((sel gT (grd gT gF sf gc k gS i).1 gc).getD 0)))))) j9)))), (gG, .inl (cI, 24, .inl (fun j9 => nI (gO j9)))), (h, .inr (5, [.int (nI sc), .int (nI mv), .ref a, .ref b, .ref d])), (a, .inl (cI, 4, .inl (fun j9 => nI (sm j9)))), (b, .inl (cI, 4, .inl (fun j9 => nI (zs j9)))), (d, .inl (cI, 24, .inl (fun j9 => oI (sf j9))))] H := hP
        have hD : va_D A [(hY, .inr (4, [.int (nI k), .ref aY])), (aY, .inl (cI, 4, .inl (fun j9 => nI ((va_up ((grd gT gF sf gc k gS i).2) (lsh ((grd gT gF sf gc k gS i).2) k (sf (gF ((sel gT (grd gT gF sf gc k gS i).1 gc).getD 0)))) ((((grd gT gF sf gc k gS i).2) (lsh ((grd gT gF sf gc k gS i).2) k (sf (gF ((sel gT (grd gT gF sf gc k gS i).1 gc).getD 0))))) + (gT ((sel gT ((grd gT gF sf gc k gS i).1) gc).getD 0)))) j9)))), (hG, .inr (1, [.int (nI gc), .int (nI gn), .ref aG, .ref bG, .ref dG, .ref gG])), (aG, .inl (cI, 24, .inl (fun j9 => nI (gF j9)))), (bG, .inl (cI, 24, .inl (fun j9 => nI (gT j9)))), (dG, .inl (cI, 24, .inl (fun j9 => oI ((va_up ((grd gT gF sf gc k gS i).1) ((sel gT ((grd gT gF sf gc k gS i).1) gc).getD 0) (some (lsh ((grd gT gF sf gc k gS i).2) k (sf (gF ((sel gT (grd gT gF sf gc k gS i).1 gc).getD 0)))))) j9)))), (gG, .inl (cI, 24, .inl (fun j9 => nI (gO j9)))), (h, .inr (5, [.int (nI sc), .int (nI mv), .ref a, .ref b, .ref d])), (a, .inl (cI, 4, .inl (fun j9 => nI (sm j9)))), (b, .inl (cI, 4, .inl (fun j9 => nI (zs j9)))), (d, .inl (cI, 24, .inl (fun j9 => oI (sf j9))))] := hD
        refine lv_iinc (v := nI (i + 1)) (lv' := [(4, .int (nI (i + 1))), (6, .int (nI (lsh ((grd gT gF sf gc k gS i).2) k (sf (gF ((sel gT (grd gT gF sf gc k gS i).1 gc).getD 0)))))), (5, .int (nI ((sel gT ((grd gT gF sf gc k gS i).1) gc).getD 0))), (0, .ref hY), (1, .ref hG), (2, .ref h), (3, .int (nI k))]) hx hb dGY_place_78 hl (k := 2) rfl (hr_inc _) (by decide) rfl (fun ls hl => ?_)
        refine lv_goto (tgt := 20) hx hb dGY_place_81 (by decide) ?_
        exact ih_20 (i + 1) (by omega) (by omega) _ _ hP hD hS ls (lv_sub hl [0, 3, 4, 5, 6] rfl)
  exact loop_20 (gc + 1) 0 (by omega) (by omega) _ _ hP hD hS ls (lv_sub hl [0, 1, 2, 3, 4] rfl)

set_option maxHeartbeats 4000000 in
set_option maxRecDepth 100000 in
/-- the SPLIT is taken -/
theorem c_SP_take (l : Launch) (dC : Nat → ClassId) (dI : Nat → Nat → Nat) (cI cZ cG : ClassId) (h : Nat) (a : Nat) (b : Nat) (d : Nat) (sc : Nat) (mv : Nat) (sm : Nat → Nat) (zs : Nat → Nat) (sf : Nat → Option Nat) (hG : Nat) (aG : Nat) (bG : Nat) (dG : Nat) (gG : Nat) (gc : Nat) (gn : Nat) (gF : Nat → Nat) (gT : Nat → Nat) (gS : Nat → Option Nat) (gO : Nat → Nat) (sh : Nat → Nat) (k : Nat) (sz : Nat) (hk : 1 ≤ k ∧ k ≤ 4) (hgc : gc ≤ 24) (hgn : gn ≤ 24) (hgS : ∀ g, g < gc → gS g = some (sh g) ∧ sh g < k) (hgO : ∀ j, j < gn → gO j < gc) (hsf : ∀ j, j < 24 → ∀ q, sf j = some q → q < 4) : Met l ySP_take wsSP_take ({ frames := 2, cells := 0, slots := 0, locals := 43 }) (va_Pc [.ref h, .ref hG, .int (nI k)] (fun U => U.heap.size = sz ∧ va_P (dC, dI) vwCl [(h, .inr (5, [.int (nI sc), .int (nI mv), .ref a, .ref b, .ref d])), (a, .inl (cI, 4, .inl (fun j9 => nI (sm j9)))), (b, .inl (cI, 4, .inl (fun j9 => nI (zs j9)))), (d, .inl (cI, 24, .inl (fun j9 => oI (sf j9)))), (hG, .inr (1, [.int (nI gc), .int (nI gn), .ref aG, .ref bG, .ref dG, .ref gG])), (aG, .inl (cI, 24, .inl (fun j9 => nI (gF j9)))), (bG, .inl (cI, 24, .inl (fun j9 => nI (gT j9)))), (dG, .inl (cI, 24, .inl (fun j9 => oI (gS j9)))), (gG, .inl (cI, 24, .inl (fun j9 => nI (gO j9))))] U.heap ∧ KX dC dI cI cZ cG U ∧ va_D (fun _ => True) [(h, .inr (5, [.int (nI sc), .int (nI mv), .ref a, .ref b, .ref d])), (a, .inl (cI, 4, .inl (fun j9 => nI (sm j9)))), (b, .inl (cI, 4, .inl (fun j9 => nI (zs j9)))), (d, .inl (cI, 24, .inl (fun j9 => oI (sf j9)))), (hG, .inr (1, [.int (nI gc), .int (nI gn), .ref aG, .ref bG, .ref dG, .ref gG])), (aG, .inl (cI, 24, .inl (fun j9 => nI (gF j9)))), (bG, .inl (cI, 24, .inl (fun j9 => nI (gT j9)))), (dG, .inl (cI, 24, .inl (fun j9 => oI (gS j9)))), (gG, .inl (cI, 24, .inl (fun j9 => nI (gO j9))))])) (va_Qv (fun (u : Unit) => True) (fun u t => va_P (dC, dI) vwCl [(h, .inr (5, [.int (nI k), .int (nI (mvA sf sh gO gn)), .ref a, .ref b, .ref d])), (a, .inl (cI, 4, .inl (fun j9 => nI ((smA gT sh gc) j9)))), (b, .inl (cI, 4, .inl (fun j9 => nI ((zsA sh gO gn) j9)))), (d, .inl (cI, 24, .inl (fun j9 => oI ((sfA sf sh gO gn) j9)))), (hG, .inr (1, [.int (nI gc), .int (nI gn), .ref aG, .ref bG, .ref dG, .ref gG])), (aG, .inl (cI, 24, .inl (fun j9 => nI (gF j9)))), (bG, .inl (cI, 24, .inl (fun j9 => nI (gT j9)))), (dG, .inl (cI, 24, .inl (fun j9 => oI (gS j9)))), (gG, .inl (cI, 24, .inl (fun j9 => nI (gO j9))))] t.heap ∧ va_D (va_A [(h, .inr (5, [.int (nI sc), .int (nI mv), .ref a, .ref b, .ref d])), (a, .inl (cI, 4, .inl (fun j9 => nI (sm j9)))), (b, .inl (cI, 4, .inl (fun j9 => nI (zs j9)))), (d, .inl (cI, 24, .inl (fun j9 => oI (sf j9)))), (hG, .inr (1, [.int (nI gc), .int (nI gn), .ref aG, .ref bG, .ref dG, .ref gG])), (aG, .inl (cI, 24, .inl (fun j9 => nI (gF j9)))), (bG, .inl (cI, 24, .inl (fun j9 => nI (gT j9)))), (dG, .inl (cI, 24, .inl (fun j9 => oI (gS j9)))), (gG, .inl (cI, 24, .inl (fun j9 => nI (gO j9))))] sz) [(h, .inr (5, [.int (nI k), .int (nI (mvA sf sh gO gn)), .ref a, .ref b, .ref d])), (a, .inl (cI, 4, .inl (fun j9 => nI ((smA gT sh gc) j9)))), (b, .inl (cI, 4, .inl (fun j9 => nI ((zsA sh gO gn) j9)))), (d, .inl (cI, 24, .inl (fun j9 => oI ((sfA sf sh gO gn) j9)))), (hG, .inr (1, [.int (nI gc), .int (nI gn), .ref aG, .ref bG, .ref dG, .ref gG])), (aG, .inl (cI, 24, .inl (fun j9 => nI (gF j9)))), (bG, .inl (cI, 24, .inl (fun j9 => nI (gT j9)))), (dG, .inl (cI, 24, .inl (fun j9 => oI (gS j9)))), (gG, .inl (cI, 24, .inl (fun j9 => nI (gO j9))))]) (va_A [(h, .inr (5, [.int (nI sc), .int (nI mv), .ref a, .ref b, .ref d])), (a, .inl (cI, 4, .inl (fun j9 => nI (sm j9)))), (b, .inl (cI, 4, .inl (fun j9 => nI (zs j9)))), (d, .inl (cI, 24, .inl (fun j9 => oI (sf j9)))), (hG, .inr (1, [.int (nI gc), .int (nI gn), .ref aG, .ref bG, .ref dG, .ref gG])), (aG, .inl (cI, 24, .inl (fun j9 => nI (gF j9)))), (bG, .inl (cI, 24, .inl (fun j9 => nI (gT j9)))), (dG, .inl (cI, 24, .inl (fun j9 => oI (gS j9)))), (gG, .inl (cI, 24, .inl (fun j9 => nI (gO j9))))] sz)) 0 0 (va_A [(h, .inr (5, [.int (nI sc), .int (nI mv), .ref a, .ref b, .ref d])), (a, .inl (cI, 4, .inl (fun j9 => nI (sm j9)))), (b, .inl (cI, 4, .inl (fun j9 => nI (zs j9)))), (d, .inl (cI, 24, .inl (fun j9 => oI (sf j9)))), (hG, .inr (1, [.int (nI gc), .int (nI gn), .ref aG, .ref bG, .ref dG, .ref gG])), (aG, .inl (cI, 24, .inl (fun j9 => nI (gF j9)))), (bG, .inl (cI, 24, .inl (fun j9 => nI (gT j9)))), (dG, .inl (cI, 24, .inl (fun j9 => oI (gS j9)))), (gG, .inl (cI, 24, .inl (fun j9 => nI (gO j9))))] sz) := by
  refine Met.ofW (cc := cSP_take) (maxL := 4) (ret := none) (by decide) rfl ?_
  intro p e s m args below meth c s₁ B hml hv
  obtain ⟨rfl, hsz, hP, hKX, hD0⟩ := hv
  have hK := hKX.1
  have hx := B.exec
  have hb := B.bytes
  have hr := B.returns
  have hts := atoms_spec (ws := wsSP_take) B.pre
  have hown : s.vm.findClass RSP = some m.cls := findClass_of_methodNamed B.named
  have hlocks := B.notSynchronized
  subst hsz
  have hD := hD0.self (sz := s.heap.size)
  generalize hAe : va_A [(h, .inr (5, [.int (nI sc), .int (nI mv), .ref a, .ref b, .ref d])), (a, .inl (cI, 4, .inl (fun j9 => nI (sm j9)))), (b, .inl (cI, 4, .inl (fun j9 => nI (zs j9)))), (d, .inl (cI, 24, .inl (fun j9 => oI (sf j9)))), (hG, .inr (1, [.int (nI gc), .int (nI gn), .ref aG, .ref bG, .ref dG, .ref gG])), (aG, .inl (cI, 24, .inl (fun j9 => nI (gF j9)))), (bG, .inl (cI, 24, .inl (fun j9 => nI (gT j9)))), (dG, .inl (cI, 24, .inl (fun j9 => oI (gS j9)))), (gG, .inl (cI, 24, .inl (fun j9 => nI (gO j9))))] s.heap.size = A at hD ⊢
  have hA : ∀ q : Nat, s.heap.size ≤ q → A q := fun q h => by rw [← hAe]; exact Or.inr h
  have hS : va_S A s.heap s.heap [] := va_S.rf
  have hl := lv_entry ([.ref h, .ref hG, .int (nI k)]) (n := 4) (Nat.le_of_ble_eq_true rfl)
  rw [lg_entry_eq]
  generalize (lg_sl ([.ref h, .ref hG, .int (nI k)]) ++ List.replicate (4 - (lg_sl ([.ref h, .ref hG, .int (nI k)])).length) Slot.unset).toArray = ls at hl ⊢
  have hl : lv_has ls 4 [(0, .ref h), (1, .ref hG), (2, .int (nI k))] := hl
  generalize hRe : (headSpec wsSP_take ({ frames := 2, cells := 0, slots := 0, locals := 43 })).room = R
  have hRf : 2 ≤ R.frames := by rw [← hRe]; exact Nat.le_refl _
  have hRl : 43 ≤ R.locals := by rw [← hRe]; exact Nat.le_refl _
  have hRc : 0 ≤ R.cells := by rw [← hRe]; exact Nat.le_refl _
  have hRs : 0 ≤ R.slots := by rw [← hRe]; exact Nat.le_refl _
  generalize hargs : (List.toArray [.ref h, .ref hG, .int (nI k)] : Array Value) = args at hts ⊢
  generalize hQe : MQ below _ args s _ _ _ = Q
  refine lv_aload_n hx hb dSP_take_0 rfl (lv_at hl 0 rfl) ?_
  refine lv_iload_n hx hb dSP_take_1 rfl (lv_at hl 2 rfl) ?_
  refine lv_iconst (v := nI 4) hx hb dSP_take_2 (by decide +kernel) ?_
  refine va_mmin (rest := [.ref h]) hx hb (by rw [hml]; exact hl.1.symm) hown (hts (.methodLink RSP 41 Lib.Math.min.name) (by decide +kernel)) (hts (.static Lib.Math.min.name) (by decide +kernel)) (hts (.initialized "java/lang/Math") (by decide +kernel)) (hts (.code Lib.Math.min.name Lib.Math.min.code 2 (some .int)) (by decide +kernel)) (Nat.le_trans (Nat.le_of_ble_eq_true rfl) hRf) (Nat.le_trans (Nat.le_of_ble_eq_true rfl) hRl) (Nat.zero_le _) (Nat.zero_le _) dSP_take_3 ?_
  refine hr_eqi (hr_min (by omega) (by omega)) ?_
  rw [show min k 4 = k by omega]
  refine va_put (D := (dC, dI)) (ci := 5) (v := .int (nI k)) (ty := .int) (C := RSP) (T := TSP) (N := 5) hx hb hts (fun w h => List.mem_cons_of_mem _ (inSP w h)) tySP tySP_ok nmSP hown hK hP hD hS 0 rfl rfl 0 (by decide) (hts _ (List.mem_cons_of_mem _ kw_169)) (fun _ h9 => h9) rfl (by decide +kernel) rfl rfl (Nat.le_of_ble_eq_true rfl) dSP_take_6 (fun H locs hP hD hS => ?_)
  have hP : va_P (dC, dI) vwCl [(h, .inr (5, [.int (nI k), .int (nI mv), .ref a, .ref b, .ref d])), (a, .inl (cI, 4, .inl (fun j9 => nI (sm j9)))), (b, .inl (cI, 4, .inl (fun j9 => nI (zs j9)))), (d, .inl (cI, 24, .inl (fun j9 => oI (sf j9)))), (hG, .inr (1, [.int (nI gc), .int (nI gn), .ref aG, .ref bG, .ref dG, .ref gG])), (aG, .inl (cI, 24, .inl (fun j9 => nI (gF j9)))), (bG, .inl (cI, 24, .inl (fun j9 => nI (gT j9)))), (dG, .inl (cI, 24, .inl (fun j9 => oI (gS j9)))), (gG, .inl (cI, 24, .inl (fun j9 => nI (gO j9))))] H := hP
  have hD : va_D A [(h, .inr (5, [.int (nI k), .int (nI mv), .ref a, .ref b, .ref d])), (a, .inl (cI, 4, .inl (fun j9 => nI (sm j9)))), (b, .inl (cI, 4, .inl (fun j9 => nI (zs j9)))), (d, .inl (cI, 24, .inl (fun j9 => oI (sf j9)))), (hG, .inr (1, [.int (nI gc), .int (nI gn), .ref aG, .ref bG, .ref dG, .ref gG])), (aG, .inl (cI, 24, .inl (fun j9 => nI (gF j9)))), (bG, .inl (cI, 24, .inl (fun j9 => nI (gT j9)))), (dG, .inl (cI, 24, .inl (fun j9 => oI (gS j9)))), (gG, .inl (cI, 24, .inl (fun j9 => nI (gO j9))))] := hD
  refine lv_aload_n hx hb dSP_take_9 rfl (lv_at hl 0 rfl) ?_
  refine lv_iconst (v := nI 0) hx hb dSP_take_10 (by decide +kernel) ?_
  refine va_put (D := (dC, dI)) (ci := 5) (v := .int (nI 0)) (ty := .int) (C := RSP) (T := TSP) (N := 5) hx hb hts (fun w h => List.mem_cons_of_mem _ (inSP w h)) tySP tySP_ok nmSP hown hK hP hD hS 0 rfl rfl 1 (by decide) (hts _ (List.mem_cons_of_mem _ kw_171)) (fun _ h9 => h9) rfl (by decide +kernel) rfl rfl (Nat.le_of_ble_eq_true rfl) dSP_take_11 (fun H locs hP hD hS => ?_)
  have hP : va_P (dC, dI) vwCl [(h, .inr (5, [.int (nI k), .int (nI 0), .ref a, .ref b, .ref d])), (a, .inl (cI, 4, .inl (fun j9 => nI (sm j9)))), (b, .inl (cI, 4, .inl (fun j9 => nI (zs j9)))), (d, .inl (cI, 24, .inl (fun j9 => oI (sf j9)))), (hG, .inr (1, [.int (nI gc), .int (nI gn), .ref aG, .ref bG, .ref dG, .ref gG])), (aG, .inl (cI, 24, .inl (fun j9 => nI (gF j9)))), (bG, .inl (cI, 24, .inl (fun j9 => nI (gT j9)))), (dG, .inl (cI, 24, .inl (fun j9 => oI (gS j9)))), (gG, .inl (cI, 24, .inl (fun j9 => nI (gO j9))))] H := hP
  have hD : va_D A [(h, .inr (5, [.int (nI k), .int (nI 0), .ref a, .ref b, .ref d])), (a, .inl (cI, 4, .inl (fun j9 => nI (sm j9)))), (b, .inl (cI, 4, .inl (fun j9 => nI (zs j9)))), (d, .inl (cI, 24, .inl (fun j9 => oI (sf j9)))), (hG, .inr (1, [.int (nI gc), .int (nI gn), .ref aG, .ref bG, .ref dG, .ref gG])), (aG, .inl (cI, 24, .inl (fun j9 => nI (gF j9)))), (bG, .inl (cI, 24, .inl (fun j9 => nI (gT j9)))), (dG, .inl (cI, 24, .inl (fun j9 => oI (gS j9)))), (gG, .inl (cI, 24, .inl (fun j9 => nI (gO j9))))] := hD
  refine lv_aload_n hx hb dSP_take_14 rfl (lv_at hl 0 rfl) ?_
  refine va_get (D := (dC, dI)) (ci := 5) (v := .ref a) (C := RSP) (T := TSP) (N := 5) hx hb hts (fun w h => List.mem_cons_of_mem _ (inSP w h)) hown hK hP 0 rfl rfl 2 (by decide) (hts _ (List.mem_cons_of_mem _ kw_173)) (fun _ h9 => h9) rfl dSP_take_15 ?_
  refine lv_iconst (v := nI 0) hx hb dSP_take_18 (by decide +kernel) ?_
  refine hr_callv (wr := [(h, .inr (5, [.int (nI k), .int (nI 0), .ref a, .ref b, .ref d])), (b, .inl (cI, 4, .inl (fun j9 => nI (zs j9)))), (d, .inl (cI, 24, .inl (fun j9 => oI (sf j9)))), (hG, .inr (1, [.int (nI gc), .int (nI gn), .ref aG, .ref bG, .ref dG, .ref gG])), (aG, .inl (cI, 24, .inl (fun j9 => nI (gF j9)))), (bG, .inl (cI, 24, .inl (fun j9 => nI (gT j9)))), (dG, .inl (cI, 24, .inl (fun j9 => oI (gS j9)))), (gG, .inl (cI, 24, .inl (fun j9 => nI (gO j9))))]) (va_runS (As := [.ref a, .int (nI 0)]) (rest := []) ⟨hx, hb, hml, hown, hts⟩ (c_AR_fill l dC dI cI cZ cG a 4 (fun j9 => nI (sm j9)) (nI 0) H.size (by decide)) (hr_cwS 2 hts kw_166 kw_167 kw_30 kw_168 (by decide +kernel) (by rw [← hRe]; exact ⟨Nat.le_of_ble_eq_true rfl, Nat.le_of_ble_eq_true rfl⟩)) (hr_preWS hKX hP hD [1] (by decide) rfl) rfl rfl hl.1 rfl (lv_room (Nat.le_of_ble_eq_true rfl)) dSP_take_19 ⟨by omega, by omega⟩) hP hD hS hA [1] [0, 2, 3, 4, 5, 6, 7, 8] rfl rfl (by decide) (by decide) [0, 8, 1, 2, 3, 4, 5, 6, 7] (fun u => [(h, .inr (5, [.int (nI k), .int (nI 0), .ref a, .ref b, .ref d])), (a, .inl (cI, 4, .inl (fun j9 => nI ((fun _ => 0) j9)))), (b, .inl (cI, 4, .inl (fun j9 => nI (zs j9)))), (d, .inl (cI, 24, .inl (fun j9 => oI (sf j9)))), (hG, .inr (1, [.int (nI gc), .int (nI gn), .ref aG, .ref bG, .ref dG, .ref gG])), (aG, .inl (cI, 24, .inl (fun j9 => nI (gF j9)))), (bG, .inl (cI, 24, .inl (fun j9 => nI (gT j9)))), (dG, .inl (cI, 24, .inl (fun j9 => oI (gS j9)))), (gG, .inl (cI, 24, .inl (fun j9 => nI (gO j9))))]) (by decide) (fun u => rfl) (fun u H locs hrv hP hD hS => ?_)
  have hP : va_P (dC, dI) vwCl [(h, .inr (5, [.int (nI k), .int (nI 0), .ref a, .ref b, .ref d])), (a, .inl (cI, 4, .inl (fun j9 => nI ((fun _ => 0) j9)))), (b, .inl (cI, 4, .inl (fun j9 => nI (zs j9)))), (d, .inl (cI, 24, .inl (fun j9 => oI (sf j9)))), (hG, .inr (1, [.int (nI gc), .int (nI gn), .ref aG, .ref bG, .ref dG, .ref gG])), (aG, .inl (cI, 24, .inl (fun j9 => nI (gF j9)))), (bG, .inl (cI, 24, .inl (fun j9 => nI (gT j9)))), (dG, .inl (cI, 24, .inl (fun j9 => oI (gS j9)))), (gG, .inl (cI, 24, .inl (fun j9 => nI (gO j9))))] H := hP
  have hD : va_D A [(h, .inr (5, [.int (nI k), .int (nI 0), .ref a, .ref b, .ref d])), (a, .inl (cI, 4, .inl (fun j9 => nI ((fun _ => 0) j9)))), (b, .inl (cI, 4, .inl (fun j9 => nI (zs j9)))), (d, .inl (cI, 24, .inl (fun j9 => oI (sf j9)))), (hG, .inr (1, [.int (nI gc), .int (nI gn), .ref aG, .ref bG, .ref dG, .ref gG])), (aG, .inl (cI, 24, .inl (fun j9 => nI (gF j9)))), (bG, .inl (cI, 24, .inl (fun j9 => nI (gT j9)))), (dG, .inl (cI, 24, .inl (fun j9 => oI (gS j9)))), (gG, .inl (cI, 24, .inl (fun j9 => nI (gO j9))))] := hD
  refine lv_aload_n hx hb dSP_take_22 rfl (lv_at hl 0 rfl) ?_
  refine va_get (D := (dC, dI)) (ci := 5) (v := .ref b) (C := RSP) (T := TSP) (N := 5) hx hb hts (fun w h => List.mem_cons_of_mem _ (inSP w h)) hown hK hP 0 rfl rfl 3 (by decide) (hts _ (List.mem_cons_of_mem _ kw_175)) (fun _ h9 => h9) rfl dSP_take_23 ?_
  refine lv_iconst (v := nI 0) hx hb dSP_take_26 (by decide +kernel) ?_
  refine hr_callv (wr := [(h, .inr (5, [.int (nI k), .int (nI 0), .ref a, .ref b, .ref d])), (a, .inl (cI, 4, .inl (fun j9 => nI ((fun _ => 0) j9)))), (d, .inl (cI, 24, .inl (fun j9 => oI (sf j9)))), (hG, .inr (1, [.int (nI gc), .int (nI gn), .ref aG, .ref bG, .ref dG, .ref gG])), (aG, .inl (cI, 24, .inl (fun j9 => nI (gF j9)))), (bG, .inl (cI, 24, .inl (fun j9 => nI (gT j9)))), (dG, .inl (cI, 24, .inl (fun j9 => oI (gS j9)))), (gG, .inl (cI, 24, .inl (fun j9 => nI (gO j9))))]) (va_runS (As := [.ref b, .int (nI 0)]) (rest := []) ⟨hx, hb, hml, hown, hts⟩ (c_AR_fill l dC dI cI cZ cG b 4 (fun j9 => nI (zs j9)) (nI 0) H.size (by decide)) (hr_cwS 2 hts kw_166 kw_167 kw_30 kw_168 (by decide +kernel) (by rw [← hRe]; exact ⟨Nat.le_of_ble_eq_true rfl, Nat.le_of_ble_eq_true rfl⟩)) (hr_preWS hKX hP hD [2] (by decide) rfl) rfl rfl hl.1 rfl (lv_room (Nat.le_of_ble_eq_true rfl)) dSP_take_27 ⟨by omega, by omega⟩) hP hD hS hA [2] [0, 1, 3, 4, 5, 6, 7, 8] rfl rfl (by decide) (by decide) [0, 1, 8, 2, 3, 4, 5, 6, 7] (fun u => [(h, .inr (5, [.int (nI k), .int (nI 0), .ref a, .ref b, .ref d])), (a, .inl (cI, 4, .inl (fun j9 => nI ((fun _ => 0) j9)))), (b, .inl (cI, 4, .inl (fun j9 => nI ((fun _ => 0) j9)))), (d, .inl (cI, 24, .inl (fun j9 => oI (sf j9)))), (hG, .inr (1, [.int (nI gc), .int (nI gn), .ref aG, .ref bG, .ref dG, .ref gG])), (aG, .inl (cI, 24, .inl (fun j9 => nI (gF j9)))), (bG, .inl (cI, 24, .inl (fun j9 => nI (gT j9)))), (dG, .inl (cI, 24, .inl (fun j9 => oI (gS j9)))), (gG, .inl (cI, 24, .inl (fun j9 => nI (gO j9))))]) (by decide) (fun u => rfl) (fun u H locs hrv hP hD hS => ?_)
  have hP : va_P (dC, dI) vwCl [(h, .inr (5, [.int (nI k), .int (nI 0), .ref a, .ref b, .ref d])), (a, .inl (cI, 4, .inl (fun j9 => nI ((fun _ => 0) j9)))), (b, .inl (cI, 4, .inl (fun j9 => nI ((fun _ => 0) j9)))), (d, .inl (cI, 24, .inl (fun j9 => oI (sf j9)))), (hG, .inr (1, [.int (nI gc), .int (nI gn), .ref aG, .ref bG, .ref dG, .ref gG])), (aG, .inl (cI, 24, .inl (fun j9 => nI (gF j9)))), (bG, .inl (cI, 24, .inl (fun j9 => nI (gT j9)))), (dG, .inl (cI, 24, .inl (fun j9 => oI (gS j9)))), (gG, .inl (cI, 24, .inl (fun j9 => nI (gO j9))))] H := hP
  have hD : va_D A [(h, .inr (5, [.int (nI k), .int (nI 0), .ref a, .ref b, .ref d])), (a, .inl (cI, 4, .inl (fun j9 => nI ((fun _ => 0) j9)))), (b, .inl (cI, 4, .inl (fun j9 => nI ((fun _ => 0) j9)))), (d, .inl (cI, 24, .inl (fun j9 => oI (sf j9)))), (hG, .inr (1, [.int (nI gc), .int (nI gn), .ref aG, .ref bG, .ref dG, .ref gG])), (aG, .inl (cI, 24, .inl (fun j9 => nI (gF j9)))), (bG, .inl (cI, 24, .inl (fun j9 => nI (gT j9)))), (dG, .inl (cI, 24, .inl (fun j9 => oI (gS j9)))), (gG, .inl (cI, 24, .inl (fun j9 => nI (gO j9))))] := hD
  refine lv_iconst (v := nI 0) hx hb dSP_take_30 (by decide +kernel) ?_
  refine lv_istore_n (lv' := [(3, .int (nI 0)), (0, .ref h), (1, .ref hG), (2, .int (nI k))]) hx hb dSP_take_31 rfl hl (by decide) rfl (fun ls hl => ?_)
  have loop_32 : ∀ (n9 : Nat) (i : Nat), i ≤ gc → gc + 1 ≤ i + n9 → ∀ (H : Heap) (locs : List Loc), va_P (dC, dI) vwCl [(h, .inr (5, [.int (nI k), .int (nI 0), .ref a, .ref b, .ref d])), (a, .inl (cI, 4, .inl (fun j9 => nI ((smA gT sh i) j9)))), (b, .inl (cI, 4, .inl (fun j9 => nI ((fun _ => 0) j9)))), (d, .inl (cI, 24, .inl (fun j9 => oI (sf j9)))), (hG, .inr (1, [.int (nI gc), .int (nI gn), .ref aG, .ref bG, .ref dG, .ref gG])), (aG, .inl (cI, 24, .inl (fun j9 => nI (gF j9)))), (bG, .inl (cI, 24, .inl (fun j9 => nI (gT j9)))), (dG, .inl (cI, 24, .inl (fun j9 => oI (gS j9)))), (gG, .inl (cI, 24, .inl (fun j9 => nI (gO j9))))] H → va_D A [(h, .inr (5, [.int (nI k), .int (nI 0), .ref a, .ref b, .ref d])), (a, .inl (cI, 4, .inl (fun j9 => nI ((smA gT sh i) j9)))), (b, .inl (cI, 4, .inl (fun j9 => nI ((fun _ => 0) j9)))), (d, .inl (cI, 24, .inl (fun j9 => oI (sf j9)))), (hG, .inr (1, [.int (nI gc), .int (nI gn), .ref aG, .ref bG, .ref dG, .ref gG])), (aG, .inl (cI, 24, .inl (fun j9 => nI (gF j9)))), (bG, .inl (cI, 24, .inl (fun j9 => nI (gT j9)))), (dG, .inl (cI, 24, .inl (fun j9 => oI (gS j9)))), (gG, .inl (cI, 24, .inl (fun j9 => nI (gO j9))))] → va_S A s.heap H locs → ∀ (ls : Array Slot), lv_has ls 4 [(3, .int (nI i)), (0, .ref h), (1, .ref hG), (2, .int (nI k))] → W p l e R s m args below meth c H locs 0 0 Q (F0 m 32 ls []) := by
    intro n9
    induction n9 with
    | zero =>
      intro i hi hmeas
      exact absurd hmeas (by omega)
    | succ n9 ih_32 =>
      intro i hi hmeas H locs hP hD hS ls hl
      refine lv_iload_n hx hb dSP_take_32 rfl (lv_at hl 0 rfl) ?_
      refine lv_aload_n hx hb dSP_take_33 rfl (lv_at hl 2 rfl) ?_
      refine va_get (D := (dC, dI)) (ci := 1) (v := .int (nI gc)) (C := RGR) (T := TGR) (N := 6) hx hb hts (fun w h => List.mem_cons_of_mem _ (inGR w h)) hown hK hP 4 rfl rfl 0 (by decide) (hts _ (List.mem_cons_of_mem _ kw_78)) (fun _ h9 => h9) rfl dSP_take_34 ?_
      refine hr_icmp_ge hx hb (x := i) (y := gc) (by omega) (by omega) (tgt := 62) dSP_take_37 (by decide) (fun c_1 => ?_) (fun c_1 => ?_)
      · have ei : gc = i := by omega
        subst ei
        refine lv_iconst (v := nI 0) hx hb dSP_take_62 (by decide +kernel) ?_
        refine lv_istore_n (lv' := [(3, .int (nI 0)), (0, .ref h), (1, .ref hG), (2, .int (nI k))]) hx hb dSP_take_63 rfl hl (by decide) rfl (fun ls hl => ?_)
        rw [← sfA_0 sf sh gO] at hP hD
        have loop_64 : ∀ (n9 : Nat) (j : Nat), j ≤ gn → gn + 1 ≤ j + n9 → ∀ (H : Heap) (locs : List Loc), va_P (dC, dI) vwCl [(h, .inr (5, [.int (nI k), .int (nI (mvA sf sh gO j)), .ref a, .ref b, .ref d])), (a, .inl (cI, 4, .inl (fun j9 => nI ((smA gT sh gc) j9)))), (b, .inl (cI, 4, .inl (fun j9 => nI ((zsA sh gO j) j9)))), (d, .inl (cI, 24, .inl (fun j9 => oI ((sfA sf sh gO j) j9)))), (hG, .inr (1, [.int (nI gc), .int (nI gn), .ref aG, .ref bG, .ref dG, .ref gG])), (aG, .inl (cI, 24, .inl (fun j9 => nI (gF j9)))), (bG, .inl (cI, 24, .inl (fun j9 => nI (gT j9)))), (dG, .inl (cI, 24, .inl (fun j9 => oI (gS j9)))), (gG, .inl (cI, 24, .inl (fun j9 => nI (gO j9))))] H → va_D A [(h, .inr (5, [.int (nI k), .int (nI (mvA sf sh gO j)), .ref a, .ref b, .ref d])), (a, .inl (cI, 4, .inl (fun j9 => nI ((smA gT sh gc) j9)))), (b, .inl (cI, 4, .inl (fun j9 => nI ((zsA sh gO j) j9)))), (d, .inl (cI, 24, .inl (fun j9 => oI ((sfA sf sh gO j) j9)))), (hG, .inr (1, [.int (nI gc), .int (nI gn), .ref aG, .ref bG, .ref dG, .ref gG])), (aG, .inl (cI, 24, .inl (fun j9 => nI (gF j9)))), (bG, .inl (cI, 24, .inl (fun j9 => nI (gT j9)))), (dG, .inl (cI, 24, .inl (fun j9 => oI (gS j9)))), (gG, .inl (cI, 24, .inl (fun j9 => nI (gO j9))))] → va_S A s.heap H locs → ∀ (ls : Array Slot), lv_has ls 4 [(3, .int (nI j)), (0, .ref h), (1, .ref hG), (2, .int (nI k))] → W p l e R s m args below meth c H locs 0 0 Q (F0 m 64 ls []) := by
          intro n9
          induction n9 with
          | zero =>
            intro j hj hmeas
            exact absurd hmeas (by omega)
          | succ n9 ih_64 =>
            intro j hj hmeas H locs hP hD hS ls hl
            refine lv_iload_n hx hb dSP_take_64 rfl (lv_at hl 0 rfl) ?_
            refine lv_aload_n hx hb dSP_take_65 rfl (lv_at hl 2 rfl) ?_
            refine va_get (D := (dC, dI)) (ci := 1) (v := .int (nI gn)) (C := RGR) (T := TGR) (N := 6) hx hb hts (fun w h => List.mem_cons_of_mem _ (inGR w h)) hown hK hP 4 rfl rfl 1 (by decide) (hts _ (List.mem_cons_of_mem _ kw_82)) (fun _ h9 => h9) rfl dSP_take_66 ?_
            refine hr_icmp_ge hx hb (x := j) (y := gn) (by omega) (by omega) (tgt := 88) dSP_take_69 (by decide) (fun c_2 => ?_) (fun c_2 => ?_)
            · have ej : gn = j := by omega
              subst ej
              rw [← hQe]
              exact W.vret hx hb hr (fun t ht hW => ⟨⟨(), rfl, trivial, by rw [ht]; exact hP, hD⟩, hS.F ht⟩) hS.2.2 dSP_take_88
            · have hO1 := hgO j (by omega)
              obtain ⟨hs1, hs2⟩ := hgS (gO j) hO1
              refine lv_aload_n hx hb dSP_take_72 rfl (lv_at hl 1 rfl) ?_
              refine lv_iload_n hx hb dSP_take_73 rfl (lv_at hl 0 rfl) ?_
              refine lv_aload_n hx hb dSP_take_74 rfl (lv_at hl 2 rfl) ?_
              refine lv_iload_n hx hb dSP_take_75 rfl (lv_at hl 0 rfl) ?_
              refine vp_callSi (va_runV (C := RGR) (As := [.int (nI j)]) (rest := [.int (nI j), .ref h]) ⟨hx, hb, hml, hown, hts⟩ (c_GR_shardFor l dC dI cI cZ cG hG aG bG dG gG gc gn gF gT gS gO j (hgn) (hgc) (by omega) (hO1)) (hr_cwV 1 hts kw_386 kw_387 kw_388 kw_26 kw_389 (by decide +kernel) (by rw [← hRe]; exact ⟨Nat.le_of_ble_eq_true rfl, Nat.le_of_ble_eq_true rfl⟩)) (hr_preR hKX hP [4, 5, 6, 7, 8] rfl (ci := 1) (q0 := 4) (q := (RGR, TGR, 6)) rfl rfl) rfl rfl hl.1 rfl (lv_room (Nat.le_of_ble_eq_true rfl)) dSP_take_76 ⟨by omega, by omega⟩).run (fun rv hrv => ?_)
              refine hr_eqi hrv ?_
              refine hr_eqi (show oI (gS (gO j)) = nI (sh (gO j)) by rw [hs1]; rfl) ?_
              refine hr_callv (wr := [(hG, .inr (1, [.int (nI gc), .int (nI gn), .ref aG, .ref bG, .ref dG, .ref gG])), (aG, .inl (cI, 24, .inl (fun j9 => nI (gF j9)))), (bG, .inl (cI, 24, .inl (fun j9 => nI (gT j9)))), (dG, .inl (cI, 24, .inl (fun j9 => oI (gS j9)))), (gG, .inl (cI, 24, .inl (fun j9 => nI (gO j9))))]) (va_runV (C := RSP) (As := [.int (nI j), .int (nI (sh (gO j)))]) (rest := []) ⟨hx, hb, hml, hown, hts⟩ (c_SP_give l dC dI cI cZ cG h a b d k (mvA sf sh gO j) (smA gT sh gc) (zsA sh gO j) (sfA sf sh gO j) j (sh (gO j)) H.size (hk.2) (by omega) (hs2) (fun q hq => by rw [sfA_at] at hq; have := hsf j (by omega) q hq; omega)) (hr_cwV 2 hts kw_390 kw_392 kw_8 kw_29 kw_393 (by decide +kernel) (by rw [← hRe]; exact ⟨Nat.le_of_ble_eq_true rfl, Nat.le_of_ble_eq_true rfl⟩)) (hr_preW hKX hP hD [0, 1, 2, 3] (by decide) rfl (ci := 5) (q0 := 0) (q := (RSP, TSP, 5)) rfl rfl) rfl rfl hl.1 rfl (lv_room (Nat.le_of_ble_eq_true rfl)) dSP_take_79 ⟨by omega, by omega⟩) hP hD hS hA [0, 1, 2, 3] [4, 5, 6, 7, 8] rfl rfl (by decide) (by decide) [5, 6, 7, 8, 0, 1, 2, 3, 4] (fun u => [(h, .inr (5, [.int (nI k), .int (nI ((mvA sf sh gO j) + mvdB ((sfA sf sh gO j) j) (sh (gO j)))), .ref a, .ref b, .ref d])), (a, .inl (cI, 4, .inl (fun j9 => nI ((smA gT sh gc) j9)))), (b, .inl (cI, 4, .inl (fun j9 => nI ((va_up (zsA sh gO j) (sh (gO j)) ((zsA sh gO j) (sh (gO j)) + 1)) j9)))), (d, .inl (cI, 24, .inl (fun j9 => oI ((va_up (sfA sf sh gO j) j (some (sh (gO j)))) j9)))), (hG, .inr (1, [.int (nI gc), .int (nI gn), .ref aG, .ref bG, .ref dG, .ref gG])), (aG, .inl (cI, 24, .inl (fun j9 => nI (gF j9)))), (bG, .inl (cI, 24, .inl (fun j9 => nI (gT j9)))), (dG, .inl (cI, 24, .inl (fun j9 => oI (gS j9)))), (gG, .inl (cI, 24, .inl (fun j9 => nI (gO j9))))]) (by decide) (fun u => rfl) (fun u H locs hrv hP hD hS => ?_)
              have hP : va_P (dC, dI) vwCl [(h, .inr (5, [.int (nI k), .int (nI ((mvA sf sh gO j) + mvdB ((sfA sf sh gO j) j) (sh (gO j)))), .ref a, .ref b, .ref d])), (a, .inl (cI, 4, .inl (fun j9 => nI ((smA gT sh gc) j9)))), (b, .inl (cI, 4, .inl (fun j9 => nI ((va_up (zsA sh gO j) (sh (gO j)) ((zsA sh gO j) (sh (gO j)) + 1)) j9)))), (d, .inl (cI, 24, .inl (fun j9 => oI ((va_up (sfA sf sh gO j) j (some (sh (gO j)))) j9)))), (hG, .inr (1, [.int (nI gc), .int (nI gn), .ref aG, .ref bG, .ref dG, .ref gG])), (aG, .inl (cI, 24, .inl (fun j9 => nI (gF j9)))), (bG, .inl (cI, 24, .inl (fun j9 => nI (gT j9)))), (dG, .inl (cI, 24, .inl (fun j9 => oI (gS j9)))), (gG, .inl (cI, 24, .inl (fun j9 => nI (gO j9))))] H := hP
              have hD : va_D A [(h, .inr (5, [.int (nI k), .int (nI ((mvA sf sh gO j) + mvdB ((sfA sf sh gO j) j) (sh (gO j)))), .ref a, .ref b, .ref d])), (a, .inl (cI, 4, .inl (fun j9 => nI ((smA gT sh gc) j9)))), (b, .inl (cI, 4, .inl (fun j9 => nI ((va_up (zsA sh gO j) (sh (gO j)) ((zsA sh gO j) (sh (gO j)) + 1)) j9)))), (d, .inl (cI, 24, .inl (fun j9 => oI ((va_up (sfA sf sh gO j) j (some (sh (gO j)))) j9)))), (hG, .inr (1, [.int (nI gc), .int (nI gn), .ref aG, .ref bG, .ref dG, .ref gG])), (aG, .inl (cI, 24, .inl (fun j9 => nI (gF j9)))), (bG, .inl (cI, 24, .inl (fun j9 => nI (gT j9)))), (dG, .inl (cI, 24, .inl (fun j9 => oI (gS j9)))), (gG, .inl (cI, 24, .inl (fun j9 => nI (gO j9))))] := hD
              refine lv_iinc (v := nI (j + 1)) (lv' := [(3, .int (nI (j + 1))), (0, .ref h), (1, .ref hG), (2, .int (nI k))]) hx hb dSP_take_82 hl (k := 0) rfl (hr_inc _) (by decide) rfl (fun ls hl => ?_)
              refine lv_goto (tgt := 64) hx hb dSP_take_85 (by decide) ?_
              rw [sfA_up, sfA_at] at hP hD
              exact ih_64 (j + 1) (by omega) (by omega) _ _ hP hD hS ls (lv_sub hl [0, 1, 2, 3] rfl)
        exact loop_64 (gn + 1) 0 (by omega) (by omega) _ _ hP hD hS ls (lv_sub hl [0, 1, 2, 3] rfl)
      · obtain ⟨hs1, hs2⟩ := hgS i (by omega)
        refine lv_aload_n hx hb dSP_take_40 rfl (lv_at hl 1 rfl) ?_
        refine lv_aload_n hx hb dSP_take_41 rfl (lv_at hl 2 rfl) ?_
        refine va_get (D := (dC, dI)) (ci := 1) (v := .ref dG) (C := RGR) (T := TGR) (N := 6) hx hb hts (fun w h => List.mem_cons_of_mem _ (inGR w h)) hown hK hP 4 rfl rfl 4 (by decide) (hts _ (List.mem_cons_of_mem _ kw_93)) (fun _ h9 => h9) rfl dSP_take_42 ?_
        refine lv_iload_n hx hb dSP_take_45 rfl (lv_at hl 0 rfl) ?_
        refine hr_iald hx hb hK hP 7 0 rfl rfl (i := i) (by omega) (by omega) dSP_take_46 ?_
        refine hr_eqi (show oI (gS i) = nI (sh i) by rw [hs1]; rfl) ?_
        refine lv_aload_n hx hb dSP_take_47 rfl (lv_at hl 2 rfl) ?_
        refine va_get (D := (dC, dI)) (ci := 1) (v := .ref bG) (C := RGR) (T := TGR) (N := 6) hx hb hts (fun w h => List.mem_cons_of_mem _ (inGR w h)) hown hK hP 4 rfl rfl 3 (by decide) (hts _ (List.mem_cons_of_mem _ kw_89)) (fun _ h9 => h9) rfl dSP_take_48 ?_
        refine lv_iload_n hx hb dSP_take_51 rfl (lv_at hl 0 rfl) ?_
        refine hr_iald hx hb hK hP 6 0 rfl rfl (i := i) (by omega) (by omega) dSP_take_52 ?_
        refine hr_callv (wr := [(hG, .inr (1, [.int (nI gc), .int (nI gn), .ref aG, .ref bG, .ref dG, .ref gG])), (aG, .inl (cI, 24, .inl (fun j9 => nI (gF j9)))), (bG, .inl (cI, 24, .inl (fun j9 => nI (gT j9)))), (dG, .inl (cI, 24, .inl (fun j9 => oI (gS j9)))), (gG, .inl (cI, 24, .inl (fun j9 => nI (gO j9))))]) (va_runV (C := RSP) (As := [.int (nI (sh i)), .int (nI (gT i))]) (rest := []) ⟨hx, hb, hml, hown, hts⟩ (c_SP_addTime l dC dI cI cZ cG h a b d k 0 (smA gT sh i) (fun _ => 0) sf (sh i) (gT i) H.size (hk.2) (hs2)) (hr_cwV 2 hts kw_378 kw_380 kw_7 kw_29 kw_381 (by decide +kernel) (by rw [← hRe]; exact ⟨Nat.le_of_ble_eq_true rfl, Nat.le_of_ble_eq_true rfl⟩)) (hr_preW hKX hP hD [0, 1, 2, 3] (by decide) rfl (ci := 5) (q0 := 0) (q := (RSP, TSP, 5)) rfl rfl) rfl rfl hl.1 rfl (lv_room (Nat.le_of_ble_eq_true rfl)) dSP_take_53 ⟨by omega, by omega⟩) hP hD hS hA [0, 1, 2, 3] [4, 5, 6, 7, 8] rfl rfl (by decide) (by decide) [5, 6, 7, 8, 0, 1, 2, 3, 4] (fun u => [(h, .inr (5, [.int (nI k), .int (nI 0), .ref a, .ref b, .ref d])), (a, .inl (cI, 4, .inl (fun j9 => nI ((va_up (smA gT sh i) (sh i) ((smA gT sh i) (sh i) + (gT i))) j9)))), (b, .inl (cI, 4, .inl (fun j9 => nI ((fun _ => 0) j9)))), (d, .inl (cI, 24, .inl (fun j9 => oI (sf j9)))), (hG, .inr (1, [.int (nI gc), .int (nI gn), .ref aG, .ref bG, .ref dG, .ref gG])), (aG, .inl (cI, 24, .inl (fun j9 => nI (gF j9)))), (bG, .inl (cI, 24, .inl (fun j9 => nI (gT j9)))), (dG, .inl (cI, 24, .inl (fun j9 => oI (gS j9)))), (gG, .inl (cI, 24, .inl (fun j9 => nI (gO j9))))]) (by decide) (fun u => rfl) (fun u H locs hrv hP hD hS => ?_)
        have hP : va_P (dC, dI) vwCl [(h, .inr (5, [.int (nI k), .int (nI 0), .ref a, .ref b, .ref d])), (a, .inl (cI, 4, .inl (fun j9 => nI ((va_up (smA gT sh i) (sh i) ((smA gT sh i) (sh i) + (gT i))) j9)))), (b, .inl (cI, 4, .inl (fun j9 => nI ((fun _ => 0) j9)))), (d, .inl (cI, 24, .inl (fun j9 => oI (sf j9)))), (hG, .inr (1, [.int (nI gc), .int (nI gn), .ref aG, .ref bG, .ref dG, .ref gG])), (aG, .inl (cI, 24, .inl (fun j9 => nI (gF j9)))), (bG, .inl (cI, 24, .inl (fun j9 => nI (gT j9)))), (dG, .inl (cI, 24, .inl (fun j9 => oI (gS j9)))), (gG, .inl (cI, 24, .inl (fun j9 => nI (gO j9))))] H := hP
        have hD : va_D A [(h, .inr (5, [.int (nI k), .int (nI 0), .ref a, .ref b, .ref d])), (a, .inl (cI, 4, .inl (fun j9 => nI ((va_up (smA gT sh i) (sh i) ((smA gT sh i) (sh i) + (gT i))) j9)))), (b, .inl (cI, 4, .inl (fun j9 => nI ((fun _ => 0) j9)))), (d, .inl (cI, 24, .inl (fun j9 => oI (sf j9)))), (hG, .inr (1, [.int (nI gc), .int (nI gn), .ref aG, .ref bG, .ref dG, .ref gG])), (aG, .inl (cI, 24, .inl (fun j9 => nI (gF j9)))), (bG, .inl (cI, 24, .inl (fun j9 => nI (gT j9)))), (dG, .inl (cI, 24, .inl (fun j9 => oI (gS j9)))), (gG, .inl (cI, 24, .inl (fun j9 => nI (gO j9))))] := hD
        refine lv_iinc (v := nI (i + 1)) (lv' := [(3, .int (nI (i + 1))), (0, .ref h), (1, .ref hG), (2, .int (nI k))]) hx hb dSP_take_56 hl (k := 0) rfl (hr_inc _) (by decide) rfl (fun ls hl => ?_)
        refine lv_goto (tgt := 32) hx hb dSP_take_59 (by decide) ?_
        exact ih_32 (i + 1) (by omega) (by omega) _ _ hP hD hS ls (lv_sub hl [0, 1, 2, 3] rfl)
  exact loop_32 (gc + 1) 0 (by omega) (by omega) _ _ hP hD hS ls (lv_sub hl [0, 1, 2, 3] rfl)

set_option maxHeartbeats 4000000 in
set_option maxRecDepth 100000 in
/-- the TESTS of a SHARD -/
theorem c_DR_gather (l : Launch) (dC : Nat → ClassId) (dI : Nat → Nat → Nat) (cI cZ cG : ClassId) (kD : Nat) (aD : Nat) (dn : Nat) (wr : Nat → Nat) (h : Nat) (a : Nat) (b : Nat) (d : Nat) (sc : Nat) (mv : Nat) (sm : Nat → Nat) (zs : Nat → Nat) (sf : Nat → Option Nat) (q : Nat) (sz : Nat) (hq : q < 4) (hsf : ∀ j, j < 24 → ∀ q, sf j = some q → q < 4) : Met l yDR_gather wsDR_gather ({ frames := 2, cells := 0, slots := 0, locals := 41 }) (va_Pc [.ref kD, .ref h, .int (nI q)] (fun U => U.heap.size = sz ∧ va_P (dC, dI) vwCl [(kD, .inr (2, [.int (nI dn), .ref aD])), (aD, .inl (cI, 24, .inl (fun j9 => nI (wr j9)))), (h, .inr (5, [.int (nI sc), .int (nI mv), .ref a, .ref b, .ref d])), (a, .inl (cI, 4, .inl (fun j9 => nI (sm j9)))), (b, .inl (cI, 4, .inl (fun j9 => nI (zs j9)))), (d, .inl (cI, 24, .inl (fun j9 => oI (sf j9))))] U.heap ∧ KX dC dI cI cZ cG U ∧ va_D (fun _ => True) [(kD, .inr (2, [.int (nI dn), .ref aD])), (aD, .inl (cI, 24, .inl (fun j9 => nI (wr j9)))), (h, .inr (5, [.int (nI sc), .int (nI mv), .ref a, .ref b, .ref d])), (a, .inl (cI, 4, .inl (fun j9 => nI (sm j9)))), (b, .inl (cI, 4, .inl (fun j9 => nI (zs j9)))), (d, .inl (cI, 24, .inl (fun j9 => oI (sf j9))))])) (va_Qv (fun (u : Unit) => True) (fun u t => va_P (dC, dI) vwCl [(kD, .inr (2, [.int (nI (dgN sf q 24)), .ref aD])), (aD, .inl (cI, 24, .inl (fun j9 => nI ((dgR sf q wr 24) j9)))), (h, .inr (5, [.int (nI sc), .int (nI mv), .ref a, .ref b, .ref d])), (a, .inl (cI, 4, .inl (fun j9 => nI (sm j9)))), (b, .inl (cI, 4, .inl (fun j9 => nI (zs j9)))), (d, .inl (cI, 24, .inl (fun j9 => oI (sf j9))))] t.heap ∧ va_D (va_A [(kD, .inr (2, [.int (nI dn), .ref aD])), (aD, .inl (cI, 24, .inl (fun j9 => nI (wr j9)))), (h, .inr (5, [.int (nI sc), .int (nI mv), .ref a, .ref b, .ref d])), (a, .inl (cI, 4, .inl (fun j9 => nI (sm j9)))), (b, .inl (cI, 4, .inl (fun j9 => nI (zs j9)))), (d, .inl (cI, 24, .inl (fun j9 => oI (sf j9))))] sz) [(kD, .inr (2, [.int (nI (dgN sf q 24)), .ref aD])), (aD, .inl (cI, 24, .inl (fun j9 => nI ((dgR sf q wr 24) j9)))), (h, .inr (5, [.int (nI sc), .int (nI mv), .ref a, .ref b, .ref d])), (a, .inl (cI, 4, .inl (fun j9 => nI (sm j9)))), (b, .inl (cI, 4, .inl (fun j9 => nI (zs j9)))), (d, .inl (cI, 24, .inl (fun j9 => oI (sf j9))))]) (va_A [(kD, .inr (2, [.int (nI dn), .ref aD])), (aD, .inl (cI, 24, .inl (fun j9 => nI (wr j9)))), (h, .inr (5, [.int (nI sc), .int (nI mv), .ref a, .ref b, .ref d])), (a, .inl (cI, 4, .inl (fun j9 => nI (sm j9)))), (b, .inl (cI, 4, .inl (fun j9 => nI (zs j9)))), (d, .inl (cI, 24, .inl (fun j9 => oI (sf j9))))] sz)) 0 0 (va_A [(kD, .inr (2, [.int (nI dn), .ref aD])), (aD, .inl (cI, 24, .inl (fun j9 => nI (wr j9)))), (h, .inr (5, [.int (nI sc), .int (nI mv), .ref a, .ref b, .ref d])), (a, .inl (cI, 4, .inl (fun j9 => nI (sm j9)))), (b, .inl (cI, 4, .inl (fun j9 => nI (zs j9)))), (d, .inl (cI, 24, .inl (fun j9 => oI (sf j9))))] sz) := by
  refine Met.ofW (cc := cDR_gather) (maxL := 4) (ret := none) (by decide) rfl ?_
  intro p e s m args below meth c s₁ B hml hv
  obtain ⟨rfl, hsz, hP, hKX, hD0⟩ := hv
  have hK := hKX.1
  have hx := B.exec
  have hb := B.bytes
  have hr := B.returns
  have hts := atoms_spec (ws := wsDR_gather) B.pre
  have hown : s.vm.findClass RDR = some m.cls := findClass_of_methodNamed B.named
  have hlocks := B.notSynchronized
  subst hsz
  have hD := hD0.self (sz := s.heap.size)
  generalize hAe : va_A [(kD, .inr (2, [.int (nI dn), .ref aD])), (aD, .inl (cI, 24, .inl (fun j9 => nI (wr j9)))), (h, .inr (5, [.int (nI sc), .int (nI mv), .ref a, .ref b, .ref d])), (a, .inl (cI, 4, .inl (fun j9 => nI (sm j9)))), (b, .inl (cI, 4, .inl (fun j9 => nI (zs j9)))), (d, .inl (cI, 24, .inl (fun j9 => oI (sf j9))))] s.heap.size = A at hD ⊢
  have hA : ∀ q : Nat, s.heap.size ≤ q → A q := fun q h => by rw [← hAe]; exact Or.inr h
  have hS : va_S A s.heap s.heap [] := va_S.rf
  have hl := lv_entry ([.ref kD, .ref h, .int (nI q)]) (n := 4) (Nat.le_of_ble_eq_true rfl)
  rw [lg_entry_eq]
  generalize (lg_sl ([.ref kD, .ref h, .int (nI q)]) ++ List.replicate (4 - (lg_sl ([.ref kD, .ref h, .int (nI q)])).length) Slot.unset).toArray = ls at hl ⊢
  have hl : lv_has ls 4 [(0, .ref kD), (1, .ref h), (2, .int (nI q))] := hl
  generalize hRe : (headSpec wsDR_gather ({ frames := 2, cells := 0, slots := 0, locals := 41 })).room = R
  have hRf : 2 ≤ R.frames := by rw [← hRe]; exact Nat.le_refl _
  have hRl : 41 ≤ R.locals := by rw [← hRe]; exact Nat.le_refl _
  have hRc : 0 ≤ R.cells := by rw [← hRe]; exact Nat.le_refl _
  have hRs : 0 ≤ R.slots := by rw [← hRe]; exact Nat.le_refl _
  generalize hargs : (List.toArray [.ref kD, .ref h, .int (nI q)] : Array Value) = args at hts ⊢
  generalize hQe : MQ below _ args s _ _ _ = Q
  refine lv_aload_n hx hb dDR_gather_0 rfl (lv_at hl 0 rfl) ?_
  refine lv_iconst (v := nI 0) hx hb dDR_gather_1 (by decide +kernel) ?_
  refine va_put (D := (dC, dI)) (ci := 2) (v := .int (nI 0)) (ty := .int) (C := RDR) (T := TDR) (N := 2) hx hb hts (fun w h => List.mem_cons_of_mem _ (inDR w h)) tyDR tyDR_ok nmDR hown hK hP hD hS 0 rfl rfl 0 (by decide) (hts _ (List.mem_cons_of_mem _ kw_216)) (fun _ h9 => h9) rfl (by decide +kernel) rfl rfl (Nat.le_of_ble_eq_true rfl) dDR_gather_2 (fun H locs hP hD hS => ?_)
  have hP : va_P (dC, dI) vwCl [(kD, .inr (2, [.int (nI 0), .ref aD])), (aD, .inl (cI, 24, .inl (fun j9 => nI (wr j9)))), (h, .inr (5, [.int (nI sc), .int (nI mv), .ref a, .ref b, .ref d])), (a, .inl (cI, 4, .inl (fun j9 => nI (sm j9)))), (b, .inl (cI, 4, .inl (fun j9 => nI (zs j9)))), (d, .inl (cI, 24, .inl (fun j9 => oI (sf j9))))] H := hP
  have hD : va_D A [(kD, .inr (2, [.int (nI 0), .ref aD])), (aD, .inl (cI, 24, .inl (fun j9 => nI (wr j9)))), (h, .inr (5, [.int (nI sc), .int (nI mv), .ref a, .ref b, .ref d])), (a, .inl (cI, 4, .inl (fun j9 => nI (sm j9)))), (b, .inl (cI, 4, .inl (fun j9 => nI (zs j9)))), (d, .inl (cI, 24, .inl (fun j9 => oI (sf j9))))] := hD
  refine lv_iconst (v := nI 0) hx hb dDR_gather_5 (by decide +kernel) ?_
  refine lv_istore_n (lv' := [(3, .int (nI 0)), (0, .ref kD), (1, .ref h), (2, .int (nI q))]) hx hb dDR_gather_6 rfl hl (by decide) rfl (fun ls hl => ?_)
  have loop_7 : ∀ (n9 : Nat) (i : Nat), i ≤ 24 → 24 + 1 ≤ i + n9 → ∀ (H : Heap) (locs : List Loc), va_P (dC, dI) vwCl [(kD, .inr (2, [.int (nI (dgN sf q i)), .ref aD])), (aD, .inl (cI, 24, .inl (fun j9 => nI ((dgR sf q wr i) j9)))), (h, .inr (5, [.int (nI sc), .int (nI mv), .ref a, .ref b, .ref d])), (a, .inl (cI, 4, .inl (fun j9 => nI (sm j9)))), (b, .inl (cI, 4, .inl (fun j9 => nI (zs j9)))), (d, .inl (cI, 24, .inl (fun j9 => oI (sf j9))))] H → va_D A [(kD, .inr (2, [.int (nI (dgN sf q i)), .ref aD])), (aD, .inl (cI, 24, .inl (fun j9 => nI ((dgR sf q wr i) j9)))), (h, .inr (5, [.int (nI sc), .int (nI mv), .ref a, .ref b, .ref d])), (a, .inl (cI, 4, .inl (fun j9 => nI (sm j9)))), (b, .inl (cI, 4, .inl (fun j9 => nI (zs j9)))), (d, .inl (cI, 24, .inl (fun j9 => oI (sf j9))))] → va_S A s.heap H locs → ∀ (ls : Array Slot), lv_has ls 4 [(3, .int (nI i)), (0, .ref kD), (1, .ref h), (2, .int (nI q))] → W p l e R s m args below meth c H locs 0 0 Q (F0 m 7 ls []) := by
    intro n9
    induction n9 with
    | zero =>
      intro i hi hmeas
      exact absurd hmeas (by omega)
    | succ n9 ih_7 =>
      intro i hi hmeas H locs hP hD hS ls hl
      have hdl := dgN_le sf q i
      refine lv_iload_n hx hb dDR_gather_7 rfl (lv_at hl 0 rfl) ?_
      refine lv_bipush (v := nI 24) hx hb dDR_gather_8 (by decide +kernel) ?_
      refine hr_icmp_ge hx hb (x := i) (y := 24) (by omega) (by omega) (tgt := 48) dDR_gather_10 (by decide) (fun c_1 => ?_) (fun c_1 => ?_)
      · have ei : 24 = i := by omega
        subst ei
        rw [← hQe]
        exact W.vret hx hb hr (fun t ht hW => ⟨⟨(), rfl, trivial, by rw [ht]; exact hP, hD⟩, hS.F ht⟩) hS.2.2 dDR_gather_48
      · refine lv_aload_n hx hb dDR_gather_13 rfl (lv_at hl 2 rfl) ?_
        refine lv_iload_n hx hb dDR_gather_14 rfl (lv_at hl 0 rfl) ?_
        refine vp_callSi (va_runV (C := RSP) (As := [.int (nI i)]) (rest := []) ⟨hx, hb, hml, hown, hts⟩ (c_SP_shardAt l dC dI cI cZ cG h a b d sc mv sm zs sf (nI i)) (hr_cwV 1 hts kw_430 kw_334 kw_335 kw_29 kw_336 (by decide +kernel) (by rw [← hRe]; exact ⟨Nat.le_of_ble_eq_true rfl, Nat.le_of_ble_eq_true rfl⟩)) (hr_preR hKX hP [2, 3, 4, 5] rfl (ci := 5) (q0 := 2) (q := (RSP, TSP, 5)) rfl rfl) rfl rfl hl.1 rfl (lv_room (Nat.le_of_ble_eq_true rfl)) dDR_gather_15 ⟨by omega, by omega⟩).run (fun rv hrv => ?_)
        refine hr_eqi hrv ?_
        refine hr_eqi (show oI (shA sf (nI i)) = oI (sf i) by rw [shA_nI (by omega)]) ?_
        refine lv_iload_n hx hb dDR_gather_18 rfl (lv_at hl 3 rfl) ?_
        refine lv_icmp_ne (tgt := 42) hx hb dDR_gather_19 (by decide) (fun c_2 => ?_) (fun c_2 => ?_)
        · have hsi : ¬ sf i = some q := fun z => c_2 (by rw [z]; rfl)
          refine lv_iinc (v := nI (i + 1)) (lv' := [(3, .int (nI (i + 1))), (0, .ref kD), (1, .ref h), (2, .int (nI q))]) hx hb dDR_gather_42 hl (k := 0) rfl (hr_inc _) (by decide) rfl (fun ls hl => ?_)
          refine lv_goto (tgt := 7) hx hb dDR_gather_45 (by decide) ?_
          rw [← dgN_miss hsi, ← dgR_miss (r := wr) hsi] at hP hD
          exact ih_7 (i + 1) (by omega) (by omega) _ _ hP hD hS ls (lv_sub hl [0, 1, 2, 3] rfl)
        · have hsi : sf i = some q := (oI_nI (fun z hz => by have := hsf i (by omega) z hz; omega) (by omega)).mp c_2
          refine lv_aload_n hx hb dDR_gather_22 rfl (lv_at hl 1 rfl) ?_
          refine va_get (D := (dC, dI)) (ci := 2) (v := .ref aD) (C := RDR) (T := TDR) (N := 2) hx hb hts (fun w h => List.mem_cons_of_mem _ (inDR w h)) hown hK hP 0 rfl rfl 1 (by decide) (hts _ (List.mem_cons_of_mem _ kw_218)) (fun _ h9 => h9) rfl dDR_gather_23 ?_
          refine lv_aload_n hx hb dDR_gather_26 rfl (lv_at hl 1 rfl) ?_
          refine va_get (D := (dC, dI)) (ci := 2) (v := .int (nI (dgN sf q i))) (C := RDR) (T := TDR) (N := 2) hx hb hts (fun w h => List.mem_cons_of_mem _ (inDR w h)) hown hK hP 0 rfl rfl 0 (by decide) (hts _ (List.mem_cons_of_mem _ kw_216)) (fun _ h9 => h9) rfl dDR_gather_27 ?_
          refine lv_iload_n hx hb dDR_gather_30 rfl (lv_at hl 0 rfl) ?_
          refine hr_iastN hx hb hK hP hD hS 1 0 rfl rfl (i := (dgN sf q i)) (by omega) (by omega) dDR_gather_31 (fun H locs hP hD hS => ?_)
          have hP : va_P (dC, dI) vwCl [(kD, .inr (2, [.int (nI (dgN sf q i)), .ref aD])), (aD, .inl (cI, 24, .inl (fun j9 => nI ((va_up (dgR sf q wr i) (dgN sf q i) i) j9)))), (h, .inr (5, [.int (nI sc), .int (nI mv), .ref a, .ref b, .ref d])), (a, .inl (cI, 4, .inl (fun j9 => nI (sm j9)))), (b, .inl (cI, 4, .inl (fun j9 => nI (zs j9)))), (d, .inl (cI, 24, .inl (fun j9 => oI (sf j9))))] H := hP
          have hD : va_D A [(kD, .inr (2, [.int (nI (dgN sf q i)), .ref aD])), (aD, .inl (cI, 24, .inl (fun j9 => nI ((va_up (dgR sf q wr i) (dgN sf q i) i) j9)))), (h, .inr (5, [.int (nI sc), .int (nI mv), .ref a, .ref b, .ref d])), (a, .inl (cI, 4, .inl (fun j9 => nI (sm j9)))), (b, .inl (cI, 4, .inl (fun j9 => nI (zs j9)))), (d, .inl (cI, 24, .inl (fun j9 => oI (sf j9))))] := hD
          refine lv_aload_n hx hb dDR_gather_32 rfl (lv_at hl 1 rfl) ?_
          refine lv_dup hx hb dDR_gather_33 rfl ?_
          refine va_get (D := (dC, dI)) (ci := 2) (v := .int (nI (dgN sf q i))) (C := RDR) (T := TDR) (N := 2) hx hb hts (fun w h => List.mem_cons_of_mem _ (inDR w h)) hown hK hP 0 rfl rfl 0 (by decide) (hts _ (List.mem_cons_of_mem _ kw_216)) (fun _ h9 => h9) rfl dDR_gather_34 ?_
          refine lv_iconst (v := nI 1) hx hb dDR_gather_37 (by decide +kernel) ?_
          refine lv_iadd hx hb dDR_gather_38 ?_
          refine hr_eqi (nI_add _ _) ?_
          refine va_put (D := (dC, dI)) (ci := 2) (v := .int (nI ((dgN sf q i) + 1))) (ty := .int) (C := RDR) (T := TDR) (N := 2) hx hb hts (fun w h => List.mem_cons_of_mem _ (inDR w h)) tyDR tyDR_ok nmDR hown hK hP hD hS 0 rfl rfl 0 (by decide) (hts _ (List.mem_cons_of_mem _ kw_216)) (fun _ h9 => h9) rfl (by decide +kernel) rfl rfl (Nat.le_of_ble_eq_true rfl) dDR_gather_39 (fun H locs hP hD hS => ?_)
          have hP : va_P (dC, dI) vwCl [(kD, .inr (2, [.int (nI ((dgN sf q i) + 1)), .ref aD])), (aD, .inl (cI, 24, .inl (fun j9 => nI ((va_up (dgR sf q wr i) (dgN sf q i) i) j9)))), (h, .inr (5, [.int (nI sc), .int (nI mv), .ref a, .ref b, .ref d])), (a, .inl (cI, 4, .inl (fun j9 => nI (sm j9)))), (b, .inl (cI, 4, .inl (fun j9 => nI (zs j9)))), (d, .inl (cI, 24, .inl (fun j9 => oI (sf j9))))] H := hP
          have hD : va_D A [(kD, .inr (2, [.int (nI ((dgN sf q i) + 1)), .ref aD])), (aD, .inl (cI, 24, .inl (fun j9 => nI ((va_up (dgR sf q wr i) (dgN sf q i) i) j9)))), (h, .inr (5, [.int (nI sc), .int (nI mv), .ref a, .ref b, .ref d])), (a, .inl (cI, 4, .inl (fun j9 => nI (sm j9)))), (b, .inl (cI, 4, .inl (fun j9 => nI (zs j9)))), (d, .inl (cI, 24, .inl (fun j9 => oI (sf j9))))] := hD
          refine lv_iinc (v := nI (i + 1)) (lv' := [(3, .int (nI (i + 1))), (0, .ref kD), (1, .ref h), (2, .int (nI q))]) hx hb dDR_gather_42 hl (k := 0) rfl (hr_inc _) (by decide) rfl (fun ls hl => ?_)
          refine lv_goto (tgt := 7) hx hb dDR_gather_45 (by decide) ?_
          rw [← dgN_hit hsi, ← dgR_hit hsi] at hP hD
          exact ih_7 (i + 1) (by omega) (by omega) _ _ hP hD hS ls (lv_sub hl [0, 1, 2, 3] rfl)
  exact loop_7 (24 + 1) 0 (by omega) (by omega) _ _ hP hD hS ls (lv_sub hl [0, 1, 2, 3] rfl)

set_option maxHeartbeats 4000000 in
set_option maxRecDepth 100000 in
/-- an order drawn by a seed -/
theorem c_DR_shuffle (l : Launch) (dC : Nat → ClassId) (dI : Nat → Nat → Nat) (cI cZ cG : ClassId) (kD : Nat) (aD : Nat) (dn : Nat) (wr : Nat → Nat) (z : Int64) (sz : Nat) (hdn : dn ≤ 24) : Met l yDR_shuffle wsDR_shuffle ({ frames := 0, cells := 0, slots := 0, locals := 0 }) (va_Pc [.ref kD, .long z] (fun U => U.heap.size = sz ∧ va_P (dC, dI) vwCl [(kD, .inr (2, [.int (nI dn), .ref aD])), (aD, .inl (cI, 24, .inl (fun j9 => nI (wr j9))))] U.heap ∧ KX dC dI cI cZ cG U ∧ va_D (fun _ => True) [(kD, .inr (2, [.int (nI dn), .ref aD])), (aD, .inl (cI, 24, .inl (fun j9 => nI (wr j9))))])) (va_Qv (fun (u : Unit) => True) (fun u t => va_P (dC, dI) vwCl [(kD, .inr (2, [.int (nI dn), .ref aD])), (aD, .inl (cI, 24, .inl (fun j9 => nI ((shf (dn - 1) z wr) j9))))] t.heap ∧ va_D (va_A [(kD, .inr (2, [.int (nI dn), .ref aD])), (aD, .inl (cI, 24, .inl (fun j9 => nI (wr j9))))] sz) [(kD, .inr (2, [.int (nI dn), .ref aD])), (aD, .inl (cI, 24, .inl (fun j9 => nI ((shf (dn - 1) z wr) j9))))]) (va_A [(kD, .inr (2, [.int (nI dn), .ref aD])), (aD, .inl (cI, 24, .inl (fun j9 => nI (wr j9))))] sz)) 0 0 (va_A [(kD, .inr (2, [.int (nI dn), .ref aD])), (aD, .inl (cI, 24, .inl (fun j9 => nI (wr j9))))] sz) := by
  refine Met.ofW (cc := cDR_shuffle) (maxL := 8) (ret := none) (by decide) rfl ?_
  intro p e s m args below meth c s₁ B hml hv
  obtain ⟨rfl, hsz, hP, hKX, hD0⟩ := hv
  have hK := hKX.1
  have hx := B.exec
  have hb := B.bytes
  have hr := B.returns
  have hts := atoms_spec (ws := wsDR_shuffle) B.pre
  have hown : s.vm.findClass RDR = some m.cls := findClass_of_methodNamed B.named
  have hlocks := B.notSynchronized
  subst hsz
  have hD := hD0.self (sz := s.heap.size)
  generalize hAe : va_A [(kD, .inr (2, [.int (nI dn), .ref aD])), (aD, .inl (cI, 24, .inl (fun j9 => nI (wr j9))))] s.heap.size = A at hD ⊢
  have hA : ∀ q : Nat, s.heap.size ≤ q → A q := fun q h => by rw [← hAe]; exact Or.inr h
  have hS : va_S A s.heap s.heap [] := va_S.rf
  have hl := lv_entry ([.ref kD, .long z]) (n := 8) (Nat.le_of_ble_eq_true rfl)
  rw [lg_entry_eq]
  generalize (lg_sl ([.ref kD, .long z]) ++ List.replicate (8 - (lg_sl ([.ref kD, .long z])).length) Slot.unset).toArray = ls at hl ⊢
  have hl : lv_has ls 8 [(0, .ref kD), (1, .long z)] := hl
  generalize hRe : (headSpec wsDR_shuffle ({ frames := 0, cells := 0, slots := 0, locals := 0 })).room = R
  have hRf : 0 ≤ R.frames := by rw [← hRe]; exact Nat.le_refl _
  have hRl : 0 ≤ R.locals := by rw [← hRe]; exact Nat.le_refl _
  have hRc : 0 ≤ R.cells := by rw [← hRe]; exact Nat.le_refl _
  have hRs : 0 ≤ R.slots := by rw [← hRe]; exact Nat.le_refl _
  generalize hargs : (List.toArray [.ref kD, .long z] : Array Value) = args at hts ⊢
  generalize hQe : MQ below _ args s _ _ _ = Q
  cases dn with
  | zero =>
      have hl : lv_has ls 8 [(0, .ref kD), (1, .long z)] := hl
      refine lv_lload_n hx hb dDR_shuffle_0 rfl (lv_at hl 1 rfl) ?_
      refine lv_lstore_n (lv' := [(3, .long z), (0, .ref kD), (1, .long z)]) hx hb dDR_shuffle_1 rfl hl (by decide) rfl (fun ls hl => ?_)
      refine lv_aload_n hx hb dDR_shuffle_2 rfl (lv_at hl 1 rfl) ?_
      refine va_get (D := (dC, dI)) (ci := 2) (v := .int (nI 0)) (C := RDR) (T := TDR) (N := 2) hx hb hts (fun w h => List.mem_cons_of_mem _ (inDR w h)) hown hK hP 0 rfl rfl 0 (by decide) (hts _ (List.mem_cons_of_mem _ kw_216)) (fun _ h9 => h9) rfl dDR_shuffle_3 ?_
      refine lv_iconst (v := nI 1) hx hb dDR_shuffle_6 (by decide +kernel) ?_
      refine lv_isub hx hb dDR_shuffle_7 ?_
      refine hr_eqi (show nI 0 - nI 1 = (-1 : Int32) by decide +kernel) ?_
      refine lv_istore (lv' := [(5, .int (-1)), (3, .long z), (0, .ref kD), (1, .long z)]) hx hb dDR_shuffle_8 hl (by decide) rfl (fun ls hl => ?_)
      refine lv_iload hx hb dDR_shuffle_10 (lv_at hl 0 rfl) ?_
      refine lv_iconst (v := nI 1) hx hb dDR_shuffle_12 (by decide +kernel) ?_
      refine lv_icmp_lt (tgt := 77) hx hb dDR_shuffle_13 (by decide) (fun c_1 => ?_) (fun c_1 => ?_)
      · have hT : wr = shf (0 - 1) z wr := rfl
        rw [← hQe]
        exact W.vret hx hb hr (fun t ht hW => ⟨⟨(), rfl, trivial, by rw [ht, ← hT]; exact hP, by rw [← hT]; exact hD⟩, hS.F ht⟩) hS.2.2 dDR_shuffle_77
      · exact absurd (by decide +kernel) c_1
  | succ dn =>
      refine lv_lload_n hx hb dDR_shuffle_0 rfl (lv_at hl 1 rfl) ?_
      refine lv_lstore_n (lv' := [(3, .long z), (0, .ref kD), (1, .long z)]) hx hb dDR_shuffle_1 rfl hl (by decide) rfl (fun ls hl => ?_)
      refine lv_aload_n hx hb dDR_shuffle_2 rfl (lv_at hl 1 rfl) ?_
      refine va_get (D := (dC, dI)) (ci := 2) (v := .int (nI (dn + 1))) (C := RDR) (T := TDR) (N := 2) hx hb hts (fun w h => List.mem_cons_of_mem _ (inDR w h)) hown hK hP 0 rfl rfl 0 (by decide) (hts _ (List.mem_cons_of_mem _ kw_216)) (fun _ h9 => h9) rfl dDR_shuffle_3 ?_
      refine lv_iconst (v := nI 1) hx hb dDR_shuffle_6 (by decide +kernel) ?_
      refine lv_isub hx hb dDR_shuffle_7 ?_
      refine hr_eqi (pk_sub (by omega)) ?_
      rw [Nat.add_sub_cancel]
      refine lv_istore (lv' := [(5, .int (nI dn)), (3, .long z), (0, .ref kD), (1, .long z)]) hx hb dDR_shuffle_8 hl (by decide) rfl (fun ls hl => ?_)
      have loop_10 : ∀ (n9 : Nat) (i : Nat) (x : Int64) (r : Nat → Nat), i ≤ dn → shf i x r = shf dn z wr → i + 1 ≤ n9 → ∀ (H : Heap) (locs : List Loc), va_P (dC, dI) vwCl [(kD, .inr (2, [.int (nI (dn + 1)), .ref aD])), (aD, .inl (cI, 24, .inl (fun j9 => nI (r j9))))] H → va_D A [(kD, .inr (2, [.int (nI (dn + 1)), .ref aD])), (aD, .inl (cI, 24, .inl (fun j9 => nI (r j9))))] → va_S A s.heap H locs → ∀ (ls : Array Slot), lv_has ls 8 [(3, .long x), (5, .int (nI i)), (0, .ref kD)] → W p l e R s m args below meth c H locs 0 0 Q (F0 m 10 ls []) := by
        intro n9
        induction n9 with
        | zero =>
          intro i x r hi hT hmeas
          exact absurd hmeas (by omega)
        | succ n9 ih_10 =>
          intro i x r hi hT hmeas H locs hP hD hS ls hl
          refine lv_iload hx hb dDR_shuffle_10 (lv_at hl 1 rfl) ?_
          refine lv_iconst (v := nI 1) hx hb dDR_shuffle_12 (by decide +kernel) ?_
          refine hr_icmp_lt hx hb (x := i) (y := 1) (by omega) (by omega) (tgt := 77) dDR_shuffle_13 (by decide) (fun c_2 => ?_) (fun c_2 => ?_)
          · have hT : r = shf (dn + 1 - 1) z wr := by rw [show dn + 1 - 1 = dn by omega, ← hT, show i = 0 by omega]; rfl
            rw [← hQe]
            exact W.vret hx hb hr (fun t ht hW => ⟨⟨(), rfl, trivial, by rw [ht, ← hT]; exact hP, by rw [← hT]; exact hD⟩, hS.F ht⟩) hS.2.2 dDR_shuffle_77
          · obtain ⟨t, rfl⟩ : ∃ t, i = t + 1 := ⟨i - 1, by omega⟩
            have hjl := jx_lt (lcg x) (n := t + 1 + 1) (by omega)
            refine lv_lload_n hx hb dDR_shuffle_16 rfl (lv_at hl 0 rfl) ?_
            refine lv_ldc2 (v := 6364136223846793005) hx hb hown (hts (.constantLong RDR 25 6364136223846793005) (by decide +kernel)) dDR_shuffle_17 ?_
            refine lv_lmul hx hb dDR_shuffle_20 ?_
            refine lv_ldc2 (v := 1442695040888963407) hx hb hown (hts (.constantLong RDR 27 1442695040888963407) (by decide +kernel)) dDR_shuffle_21 ?_
            refine lv_ladd hx hb dDR_shuffle_24 ?_
            refine hr_eql (show x * 6364136223846793005 + 1442695040888963407 = lcg x from rfl) ?_
            refine lv_lstore_n (lv' := [(3, .long (lcg x)), (5, .int (nI (t + 1))), (0, .ref kD)]) hx hb dDR_shuffle_25 rfl hl (by decide) rfl (fun ls hl => ?_)
            refine lv_lload_n hx hb dDR_shuffle_26 rfl (lv_at hl 0 rfl) ?_
            refine lv_bipush (v := nI 33) hx hb dDR_shuffle_27 (by decide +kernel) ?_
            refine lv_lushr hx hb dDR_shuffle_29 (lcg_shr (lcg x)) ?_
            refine lv_iload hx hb dDR_shuffle_30 (lv_at hl 1 rfl) ?_
            refine lv_iconst (v := nI 1) hx hb dDR_shuffle_32 (by decide +kernel) ?_
            refine lv_iadd hx hb dDR_shuffle_33 ?_
            refine hr_eqi (nI_add _ _) ?_
            refine lv_i2l hx hb dDR_shuffle_34 (nI_l (by omega)) ?_
            refine lv_lrem hx hb dDR_shuffle_35 (lN_ne0 (by omega) (by omega)) ?_
            refine hr_eql (lcg_rem (lcg x) (by omega) (by omega)) ?_
            refine lv_l2i hx hb dDR_shuffle_36 (lN_i _) ?_
            refine lv_istore (lv' := [(6, .int (nI (jx (lcg x) (t + 1 + 1)))), (3, .long (lcg x)), (5, .int (nI (t + 1))), (0, .ref kD)]) hx hb dDR_shuffle_37 hl (by decide) rfl (fun ls hl => ?_)
            refine lv_aload_n hx hb dDR_shuffle_39 rfl (lv_at hl 3 rfl) ?_
            refine va_get (D := (dC, dI)) (ci := 2) (v := .ref aD) (C := RDR) (T := TDR) (N := 2) hx hb hts (fun w h => List.mem_cons_of_mem _ (inDR w h)) hown hK hP 0 rfl rfl 1 (by decide) (hts _ (List.mem_cons_of_mem _ kw_218)) (fun _ h9 => h9) rfl dDR_shuffle_40 ?_
            refine lv_iload hx hb dDR_shuffle_43 (lv_at hl 2 rfl) ?_
            refine hr_iald hx hb hK hP 1 0 rfl rfl (i := (t + 1)) (by omega) (by omega) dDR_shuffle_45 ?_
            refine lv_istore (lv' := [(7, .int (nI (r (t + 1)))), (6, .int (nI (jx (lcg x) (t + 1 + 1)))), (3, .long (lcg x)), (5, .int (nI (t + 1))), (0, .ref kD)]) hx hb dDR_shuffle_46 hl (by decide) rfl (fun ls hl => ?_)
            refine lv_aload_n hx hb dDR_shuffle_48 rfl (lv_at hl 4 rfl) ?_
            refine va_get (D := (dC, dI)) (ci := 2) (v := .ref aD) (C := RDR) (T := TDR) (N := 2) hx hb hts (fun w h => List.mem_cons_of_mem _ (inDR w h)) hown hK hP 0 rfl rfl 1 (by decide) (hts _ (List.mem_cons_of_mem _ kw_218)) (fun _ h9 => h9) rfl dDR_shuffle_49 ?_
            refine lv_iload hx hb dDR_shuffle_52 (lv_at hl 3 rfl) ?_
            refine lv_aload_n hx hb dDR_shuffle_54 rfl (lv_at hl 4 rfl) ?_
            refine va_get (D := (dC, dI)) (ci := 2) (v := .ref aD) (C := RDR) (T := TDR) (N := 2) hx hb hts (fun w h => List.mem_cons_of_mem _ (inDR w h)) hown hK hP 0 rfl rfl 1 (by decide) (hts _ (List.mem_cons_of_mem _ kw_218)) (fun _ h9 => h9) rfl dDR_shuffle_55 ?_
            refine lv_iload hx hb dDR_shuffle_58 (lv_at hl 1 rfl) ?_
            refine hr_iald hx hb hK hP 1 0 rfl rfl (i := (jx (lcg x) (t + 1 + 1))) (by omega) (by omega) dDR_shuffle_60 ?_
            refine hr_iastN hx hb hK hP hD hS 1 0 rfl rfl (i := (t + 1)) (by omega) (by omega) dDR_shuffle_61 (fun H locs hP hD hS => ?_)
            have hP : va_P (dC, dI) vwCl [(kD, .inr (2, [.int (nI (dn + 1)), .ref aD])), (aD, .inl (cI, 24, .inl (fun j9 => nI ((va_up r (t + 1) (r (jx (lcg x) (t + 1 + 1)))) j9))))] H := hP
            have hD : va_D A [(kD, .inr (2, [.int (nI (dn + 1)), .ref aD])), (aD, .inl (cI, 24, .inl (fun j9 => nI ((va_up r (t + 1) (r (jx (lcg x) (t + 1 + 1)))) j9))))] := hD
            refine lv_aload_n hx hb dDR_shuffle_62 rfl (lv_at hl 4 rfl) ?_
            refine va_get (D := (dC, dI)) (ci := 2) (v := .ref aD) (C := RDR) (T := TDR) (N := 2) hx hb hts (fun w h => List.mem_cons_of_mem _ (inDR w h)) hown hK hP 0 rfl rfl 1 (by decide) (hts _ (List.mem_cons_of_mem _ kw_218)) (fun _ h9 => h9) rfl dDR_shuffle_63 ?_
            refine lv_iload hx hb dDR_shuffle_66 (lv_at hl 1 rfl) ?_
            refine lv_iload hx hb dDR_shuffle_68 (lv_at hl 0 rfl) ?_
            refine hr_iastN hx hb hK hP hD hS 1 0 rfl rfl (i := (jx (lcg x) (t + 1 + 1))) (by omega) (by omega) dDR_shuffle_70 (fun H locs hP hD hS => ?_)
            have hP : va_P (dC, dI) vwCl [(kD, .inr (2, [.int (nI (dn + 1)), .ref aD])), (aD, .inl (cI, 24, .inl (fun j9 => nI ((va_up (va_up r (t + 1) (r (jx (lcg x) (t + 1 + 1)))) (jx (lcg x) (t + 1 + 1)) (r (t + 1))) j9))))] H := hP
            have hD : va_D A [(kD, .inr (2, [.int (nI (dn + 1)), .ref aD])), (aD, .inl (cI, 24, .inl (fun j9 => nI ((va_up (va_up r (t + 1) (r (jx (lcg x) (t + 1 + 1)))) (jx (lcg x) (t + 1 + 1)) (r (t + 1))) j9))))] := hD
            refine lv_iinc (v := nI t) (lv' := [(5, .int (nI t)), (7, .int (nI (r (t + 1)))), (6, .int (nI (jx (lcg x) (t + 1 + 1)))), (3, .long (lcg x)), (0, .ref kD)]) hx hb dDR_shuffle_71 hl (k := 3) rfl (hr_dec1) (by decide) rfl (fun ls hl => ?_)
            refine lv_goto (tgt := 10) hx hb dDR_shuffle_74 (by decide) ?_
            exact ih_10 t (lcg x) (va_up (va_up r (t + 1) (r (jx (lcg x) (t + 1 + 1)))) (jx (lcg x) (t + 1 + 1)) (r (t + 1))) (by omega) (hT) (by omega) _ _ hP hD hS ls (lv_sub hl [3, 0, 4] rfl)
      exact loop_10 (dn + 1) dn z wr (by omega) (rfl) (by omega) _ _ hP hD hS ls (lv_sub hl [1, 0, 2] rfl)
