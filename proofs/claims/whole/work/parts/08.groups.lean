set_option maxHeartbeats 4000000 in
set_option maxRecDepth 100000 in
/-- the GROUP of a TEST -/
theorem c_GR_groupAt (l : Launch) (dC : Nat → ClassId) (dI : Nat → Nat → Nat) (cI cZ cG : ClassId) (hG : Nat) (aG : Nat) (bG : Nat) (dG : Nat) (gG : Nat) (gc : Nat) (gn : Nat) (gF : Nat → Nat) (gT : Nat → Nat) (gS : Nat → Option Nat) (gO : Nat → Nat) (x : Int32) (hgn : gn ≤ 24) : Met l yGR_groupAt wsGR_groupAt ({ frames := 0, cells := 0, slots := 0, locals := 0 }) (va_Pc [.ref hG, .int x] (fun U => va_P (dC, dI) vwCl [(hG, .inr (1, [.int (nI gc), .int (nI gn), .ref aG, .ref bG, .ref dG, .ref gG])), (aG, .inl (cI, 24, .inl (fun j9 => nI (gF j9)))), (bG, .inl (cI, 24, .inl (fun j9 => nI (gT j9)))), (dG, .inl (cI, 24, .inl (fun j9 => oI (gS j9)))), (gG, .inl (cI, 24, .inl (fun j9 => nI (gO j9))))] U.heap ∧ KX dC dI cI cZ cG U)) (vp_Si (fun r => r = oI (rowA gn gO x))) 0 0 (fun _ => False) := by
  refine Met.ofW (cc := cGR_groupAt) (maxL := 2) (ret := (some .int)) (by decide) rfl ?_
  intro p e s m args below meth c s₁ B hml hv
  obtain ⟨rfl, hP, hKX⟩ := hv
  have hK := hKX.1
  have hx := B.exec
  have hb := B.bytes
  have hr := B.returns
  have hts := atoms_spec (ws := wsGR_groupAt) B.pre
  have hown : s.vm.findClass RGR = some m.cls := findClass_of_methodNamed B.named
  have hlocks := B.notSynchronized
  have hl := lv_entry ([.ref hG, .int x]) (n := 2) (Nat.le_of_ble_eq_true rfl)
  rw [lg_entry_eq]
  generalize (lg_sl ([.ref hG, .int x]) ++ List.replicate (2 - (lg_sl ([.ref hG, .int x])).length) Slot.unset).toArray = ls at hl ⊢
  have hl : lv_has ls 2 [(0, .ref hG), (1, .int x)] := hl
  generalize hRe : (headSpec wsGR_groupAt ({ frames := 0, cells := 0, slots := 0, locals := 0 })).room = R
  have hRf : 0 ≤ R.frames := by rw [← hRe]; exact Nat.le_refl _
  have hRl : 0 ≤ R.locals := by rw [← hRe]; exact Nat.le_refl _
  have hRc : 0 ≤ R.cells := by rw [← hRe]; exact Nat.le_refl _
  have hRs : 0 ≤ R.slots := by rw [← hRe]; exact Nat.le_refl _
  generalize hargs : (List.toArray [.ref hG, .int x] : Array Value) = args at hts ⊢
  generalize hQe : MQ below _ args s _ _ _ = Q
  refine lv_iload_n hx hb dGR_groupAt_0 rfl (lv_at hl 1 rfl) ?_
  refine lv_if_lt (tgt := 21) hx hb dGR_groupAt_1 (by decide) (fun c_1 => ?_) (fun c_1 => ?_)
  · refine lv_iconst (v := (-1)) hx hb dGR_groupAt_21 (by decide +kernel) ?_
    rw [← hQe]
    exact W.iret (v := (-1)) hx hb hr (fun t ht hW => ⟨_, rfl, by rw [rowA, if_pos (inB_neg c_1)]; rfl, by rw [ht]⟩) (fun q h => by cases h) dGR_groupAt_22
  · refine lv_iload_n hx hb dGR_groupAt_4 rfl (lv_at hl 1 rfl) ?_
    refine lv_aload_n hx hb dGR_groupAt_5 rfl (lv_at hl 0 rfl) ?_
    refine va_get (D := (dC, dI)) (ci := 1) (v := .int (nI gn)) (C := RGR) (T := TGR) (N := 6) hx hb hts (fun w h => List.mem_cons_of_mem _ (inGR w h)) hown hK hP 0 rfl rfl 1 (by decide) (hts _ (List.mem_cons_of_mem _ kw_80)) (fun _ h9 => h9) rfl dGR_groupAt_6 ?_
    refine lv_icmp_ge (tgt := 21) hx hb dGR_groupAt_9 (by decide) (fun c_2 => ?_) (fun c_2 => ?_)
    · refine lv_iconst (v := (-1)) hx hb dGR_groupAt_21 (by decide +kernel) ?_
      rw [← hQe]
      exact W.iret (v := (-1)) hx hb hr (fun t ht hW => ⟨_, rfl, by rw [rowA, if_pos (inB_big c_1 c_2)]; rfl, by rw [ht]⟩) (fun q h => by cases h) dGR_groupAt_22
    · obtain ⟨j, hj, rfl⟩ := inB_pos (n := gn) (by omega) (by rw [inB_in c_1 c_2]; decide)
      refine lv_aload_n hx hb dGR_groupAt_12 rfl (lv_at hl 0 rfl) ?_
      refine va_get (D := (dC, dI)) (ci := 1) (v := .ref gG) (C := RGR) (T := TGR) (N := 6) hx hb hts (fun w h => List.mem_cons_of_mem _ (inGR w h)) hown hK hP 0 rfl rfl 5 (by decide) (hts _ (List.mem_cons_of_mem _ kw_94)) (fun _ h9 => h9) rfl dGR_groupAt_13 ?_
      refine lv_iload_n hx hb dGR_groupAt_16 rfl (lv_at hl 1 rfl) ?_
      refine hr_iald hx hb hK hP 4 0 rfl rfl (i := j) (by omega) (by omega) dGR_groupAt_17 ?_
      refine lv_goto (tgt := 22) hx hb dGR_groupAt_18 (by decide) ?_
      rw [← hQe]
      exact W.iret (v := nI (gO j)) hx hb hr (fun t ht hW => ⟨_, rfl, by rw [rowA_nI hj (by omega)]; rfl, by rw [ht]⟩) (fun q h => by cases h) dGR_groupAt_22

set_option maxHeartbeats 4000000 in
set_option maxRecDepth 100000 in
/-- the SHARD that a TEST is given -/
theorem c_GR_shardFor (l : Launch) (dC : Nat → ClassId) (dI : Nat → Nat → Nat) (cI cZ cG : ClassId) (hG : Nat) (aG : Nat) (bG : Nat) (dG : Nat) (gG : Nat) (gc : Nat) (gn : Nat) (gF : Nat → Nat) (gT : Nat → Nat) (gS : Nat → Option Nat) (gO : Nat → Nat) (j : Nat) (hgn : gn ≤ 24) (hgc : gc ≤ 24) (hj : j < gn) (hg : gO j < gc) : Met l yGR_shardFor wsGR_shardFor ({ frames := 1, cells := 0, slots := 0, locals := 21 }) (va_Pc [.ref hG, .int (nI j)] (fun U => va_P (dC, dI) vwCl [(hG, .inr (1, [.int (nI gc), .int (nI gn), .ref aG, .ref bG, .ref dG, .ref gG])), (aG, .inl (cI, 24, .inl (fun j9 => nI (gF j9)))), (bG, .inl (cI, 24, .inl (fun j9 => nI (gT j9)))), (dG, .inl (cI, 24, .inl (fun j9 => oI (gS j9)))), (gG, .inl (cI, 24, .inl (fun j9 => nI (gO j9))))] U.heap ∧ KX dC dI cI cZ cG U)) (vp_Si (fun r => r = oI (gS (gO j)))) 0 0 (fun _ => False) := by
  refine Met.ofW (cc := cGR_shardFor) (maxL := 3) (ret := (some .int)) (by decide) rfl ?_
  intro p e s m args below meth c s₁ B hml hv
  obtain ⟨rfl, hP, hKX⟩ := hv
  have hK := hKX.1
  have hx := B.exec
  have hb := B.bytes
  have hr := B.returns
  have hts := atoms_spec (ws := wsGR_shardFor) B.pre
  have hown : s.vm.findClass RGR = some m.cls := findClass_of_methodNamed B.named
  have hlocks := B.notSynchronized
  have hl := lv_entry ([.ref hG, .int (nI j)]) (n := 3) (Nat.le_of_ble_eq_true rfl)
  rw [lg_entry_eq]
  generalize (lg_sl ([.ref hG, .int (nI j)]) ++ List.replicate (3 - (lg_sl ([.ref hG, .int (nI j)])).length) Slot.unset).toArray = ls at hl ⊢
  have hl : lv_has ls 3 [(0, .ref hG), (1, .int (nI j))] := hl
  generalize hRe : (headSpec wsGR_shardFor ({ frames := 1, cells := 0, slots := 0, locals := 21 })).room = R
  have hRf : 1 ≤ R.frames := by rw [← hRe]; exact Nat.le_refl _
  have hRl : 21 ≤ R.locals := by rw [← hRe]; exact Nat.le_refl _
  have hRc : 0 ≤ R.cells := by rw [← hRe]; exact Nat.le_refl _
  have hRs : 0 ≤ R.slots := by rw [← hRe]; exact Nat.le_refl _
  generalize hargs : (List.toArray [.ref hG, .int (nI j)] : Array Value) = args at hts ⊢
  generalize hQe : MQ below _ args s _ _ _ = Q
  refine lv_aload_n hx hb dGR_shardFor_0 rfl (lv_at hl 0 rfl) ?_
  refine lv_iload_n hx hb dGR_shardFor_1 rfl (lv_at hl 1 rfl) ?_
  refine vp_callSi (va_runV (C := RGR) (As := [.int (nI j)]) (rest := []) ⟨hx, hb, hml, hown, hts⟩ (c_GR_groupAt l dC dI cI cZ cG hG aG bG dG gG gc gn gF gT gS gO (nI j) (hgn)) (hr_cwV 1 hts kw_316 kw_317 kw_318 kw_26 kw_319 (by decide +kernel) (by rw [← hRe]; exact ⟨Nat.le_of_ble_eq_true rfl, Nat.le_of_ble_eq_true rfl⟩)) (hr_preR hKX hP [0, 1, 2, 3, 4] rfl (ci := 1) (q0 := 0) (q := (RGR, TGR, 6)) rfl rfl) rfl rfl hl.1 rfl (lv_room (Nat.le_of_ble_eq_true rfl)) dGR_shardFor_2 ⟨by omega, by omega⟩).run (fun rv hrv => ?_)
  refine hr_eqi hrv ?_
  refine hr_eqi (show oI (rowA gn gO (nI j)) = nI (gO j) by rw [rowA_nI hj (by omega)]; rfl) ?_
  refine lv_istore_n (lv' := [(2, .int (nI (gO j))), (0, .ref hG), (1, .int (nI j))]) hx hb dGR_shardFor_5 rfl hl (by decide) rfl (fun ls hl => ?_)
  refine lv_iload_n hx hb dGR_shardFor_6 rfl (lv_at hl 0 rfl) ?_
  refine hr_if_lt hx hb (x := (gO j)) (by omega) (tgt := 27) dGR_shardFor_7 (by decide) (fun c_1 => ?_) (fun c_1 => ?_)
  · exact absurd c_1 (by omega)
  · refine lv_iload_n hx hb dGR_shardFor_10 rfl (lv_at hl 0 rfl) ?_
    refine lv_aload_n hx hb dGR_shardFor_11 rfl (lv_at hl 1 rfl) ?_
    refine va_get (D := (dC, dI)) (ci := 1) (v := .int (nI gc)) (C := RGR) (T := TGR) (N := 6) hx hb hts (fun w h => List.mem_cons_of_mem _ (inGR w h)) hown hK hP 0 rfl rfl 0 (by decide) (hts _ (List.mem_cons_of_mem _ kw_75)) (fun _ h9 => h9) rfl dGR_shardFor_12 ?_
    refine hr_icmp_ge hx hb (x := (gO j)) (y := gc) (by omega) (by omega) (tgt := 27) dGR_shardFor_15 (by decide) (fun c_2 => ?_) (fun c_2 => ?_)
    · exact absurd c_2 (by omega)
    · refine lv_aload_n hx hb dGR_shardFor_18 rfl (lv_at hl 1 rfl) ?_
      refine va_get (D := (dC, dI)) (ci := 1) (v := .ref dG) (C := RGR) (T := TGR) (N := 6) hx hb hts (fun w h => List.mem_cons_of_mem _ (inGR w h)) hown hK hP 0 rfl rfl 4 (by decide) (hts _ (List.mem_cons_of_mem _ kw_90)) (fun _ h9 => h9) rfl dGR_shardFor_19 ?_
      refine lv_iload_n hx hb dGR_shardFor_22 rfl (lv_at hl 0 rfl) ?_
      refine hr_iald hx hb hK hP 3 0 rfl rfl (i := (gO j)) (by omega) (by omega) dGR_shardFor_23 ?_
      refine lv_goto (tgt := 28) hx hb dGR_shardFor_24 (by decide) ?_
      rw [← hQe]
      exact W.iret (v := oI (gS (gO j))) hx hb hr (fun t ht hW => ⟨_, rfl, rfl, by rw [ht]⟩) (fun q h => by cases h) dGR_shardFor_28

set_option maxHeartbeats 4000000 in
set_option maxRecDepth 100000 in
/-- a new GROUP -/
theorem c_GR_open (l : Launch) (dC : Nat → ClassId) (dI : Nat → Nat → Nat) (cI cZ cG : ClassId) (hG : Nat) (aG : Nat) (bG : Nat) (dG : Nat) (gG : Nat) (gc : Nat) (gn : Nat) (gF : Nat → Nat) (gT : Nat → Nat) (gS : Nat → Option Nat) (gO : Nat → Nat) (tt : Nat) (sz : Nat) (hgc : gc < 24) : Met l yGR_open wsGR_open ({ frames := 0, cells := 0, slots := 0, locals := 0 }) (va_Pc [.ref hG, .int (nI tt)] (fun U => U.heap.size = sz ∧ va_P (dC, dI) vwCl [(hG, .inr (1, [.int (nI gc), .int (nI gn), .ref aG, .ref bG, .ref dG, .ref gG])), (aG, .inl (cI, 24, .inl (fun j9 => nI (gF j9)))), (bG, .inl (cI, 24, .inl (fun j9 => nI (gT j9)))), (dG, .inl (cI, 24, .inl (fun j9 => oI (gS j9)))), (gG, .inl (cI, 24, .inl (fun j9 => nI (gO j9))))] U.heap ∧ KX dC dI cI cZ cG U ∧ va_D (fun _ => True) [(hG, .inr (1, [.int (nI gc), .int (nI gn), .ref aG, .ref bG, .ref dG, .ref gG])), (aG, .inl (cI, 24, .inl (fun j9 => nI (gF j9)))), (bG, .inl (cI, 24, .inl (fun j9 => nI (gT j9)))), (dG, .inl (cI, 24, .inl (fun j9 => oI (gS j9)))), (gG, .inl (cI, 24, .inl (fun j9 => nI (gO j9))))])) (va_Qi (fun (r : Int32) (u : Unit) => r = nI gc) (fun u t => va_P (dC, dI) vwCl [(hG, .inr (1, [.int (nI (gc + 1)), .int (nI gn), .ref aG, .ref bG, .ref dG, .ref gG])), (aG, .inl (cI, 24, .inl (fun j9 => nI ((va_up gF gc tt) j9)))), (bG, .inl (cI, 24, .inl (fun j9 => nI ((va_up gT gc 0) j9)))), (dG, .inl (cI, 24, .inl (fun j9 => oI ((va_up gS gc none) j9)))), (gG, .inl (cI, 24, .inl (fun j9 => nI (gO j9))))] t.heap ∧ va_D (va_A [(hG, .inr (1, [.int (nI gc), .int (nI gn), .ref aG, .ref bG, .ref dG, .ref gG])), (aG, .inl (cI, 24, .inl (fun j9 => nI (gF j9)))), (bG, .inl (cI, 24, .inl (fun j9 => nI (gT j9)))), (dG, .inl (cI, 24, .inl (fun j9 => oI (gS j9)))), (gG, .inl (cI, 24, .inl (fun j9 => nI (gO j9))))] sz) [(hG, .inr (1, [.int (nI (gc + 1)), .int (nI gn), .ref aG, .ref bG, .ref dG, .ref gG])), (aG, .inl (cI, 24, .inl (fun j9 => nI ((va_up gF gc tt) j9)))), (bG, .inl (cI, 24, .inl (fun j9 => nI ((va_up gT gc 0) j9)))), (dG, .inl (cI, 24, .inl (fun j9 => oI ((va_up gS gc none) j9)))), (gG, .inl (cI, 24, .inl (fun j9 => nI (gO j9))))]) (va_A [(hG, .inr (1, [.int (nI gc), .int (nI gn), .ref aG, .ref bG, .ref dG, .ref gG])), (aG, .inl (cI, 24, .inl (fun j9 => nI (gF j9)))), (bG, .inl (cI, 24, .inl (fun j9 => nI (gT j9)))), (dG, .inl (cI, 24, .inl (fun j9 => oI (gS j9)))), (gG, .inl (cI, 24, .inl (fun j9 => nI (gO j9))))] sz)) 0 0 (va_A [(hG, .inr (1, [.int (nI gc), .int (nI gn), .ref aG, .ref bG, .ref dG, .ref gG])), (aG, .inl (cI, 24, .inl (fun j9 => nI (gF j9)))), (bG, .inl (cI, 24, .inl (fun j9 => nI (gT j9)))), (dG, .inl (cI, 24, .inl (fun j9 => oI (gS j9)))), (gG, .inl (cI, 24, .inl (fun j9 => nI (gO j9))))] sz) := by
  refine Met.ofW (cc := cGR_open) (maxL := 3) (ret := (some .int)) (by decide) rfl ?_
  intro p e s m args below meth c s₁ B hml hv
  obtain ⟨rfl, hsz, hP, hKX, hD0⟩ := hv
  have hK := hKX.1
  have hx := B.exec
  have hb := B.bytes
  have hr := B.returns
  have hts := atoms_spec (ws := wsGR_open) B.pre
  have hown : s.vm.findClass RGR = some m.cls := findClass_of_methodNamed B.named
  have hlocks := B.notSynchronized
  subst hsz
  have hD := hD0.self (sz := s.heap.size)
  generalize hAe : va_A [(hG, .inr (1, [.int (nI gc), .int (nI gn), .ref aG, .ref bG, .ref dG, .ref gG])), (aG, .inl (cI, 24, .inl (fun j9 => nI (gF j9)))), (bG, .inl (cI, 24, .inl (fun j9 => nI (gT j9)))), (dG, .inl (cI, 24, .inl (fun j9 => oI (gS j9)))), (gG, .inl (cI, 24, .inl (fun j9 => nI (gO j9))))] s.heap.size = A at hD ⊢
  have hA : ∀ q : Nat, s.heap.size ≤ q → A q := fun q h => by rw [← hAe]; exact Or.inr h
  have hS : va_S A s.heap s.heap [] := va_S.rf
  have hl := lv_entry ([.ref hG, .int (nI tt)]) (n := 3) (Nat.le_of_ble_eq_true rfl)
  rw [lg_entry_eq]
  generalize (lg_sl ([.ref hG, .int (nI tt)]) ++ List.replicate (3 - (lg_sl ([.ref hG, .int (nI tt)])).length) Slot.unset).toArray = ls at hl ⊢
  have hl : lv_has ls 3 [(0, .ref hG), (1, .int (nI tt))] := hl
  generalize hRe : (headSpec wsGR_open ({ frames := 0, cells := 0, slots := 0, locals := 0 })).room = R
  have hRf : 0 ≤ R.frames := by rw [← hRe]; exact Nat.le_refl _
  have hRl : 0 ≤ R.locals := by rw [← hRe]; exact Nat.le_refl _
  have hRc : 0 ≤ R.cells := by rw [← hRe]; exact Nat.le_refl _
  have hRs : 0 ≤ R.slots := by rw [← hRe]; exact Nat.le_refl _
  generalize hargs : (List.toArray [.ref hG, .int (nI tt)] : Array Value) = args at hts ⊢
  generalize hQe : MQ below _ args s _ _ _ = Q
  refine lv_aload_n hx hb dGR_open_0 rfl (lv_at hl 0 rfl) ?_
  refine va_get (D := (dC, dI)) (ci := 1) (v := .int (nI gc)) (C := RGR) (T := TGR) (N := 6) hx hb hts (fun w h => List.mem_cons_of_mem _ (inGR w h)) hown hK hP 0 rfl rfl 0 (by decide) (hts _ (List.mem_cons_of_mem _ kw_75)) (fun _ h9 => h9) rfl dGR_open_1 ?_
  refine lv_istore_n (lv' := [(2, .int (nI gc)), (0, .ref hG), (1, .int (nI tt))]) hx hb dGR_open_4 rfl hl (by decide) rfl (fun ls hl => ?_)
  refine lv_aload_n hx hb dGR_open_5 rfl (lv_at hl 1 rfl) ?_
  refine va_get (D := (dC, dI)) (ci := 1) (v := .ref aG) (C := RGR) (T := TGR) (N := 6) hx hb hts (fun w h => List.mem_cons_of_mem _ (inGR w h)) hown hK hP 0 rfl rfl 2 (by decide) (hts _ (List.mem_cons_of_mem _ kw_83)) (fun _ h9 => h9) rfl dGR_open_6 ?_
  refine lv_iload_n hx hb dGR_open_9 rfl (lv_at hl 0 rfl) ?_
  refine lv_iload_n hx hb dGR_open_10 rfl (lv_at hl 2 rfl) ?_
  refine hr_iastN hx hb hK hP hD hS 1 0 rfl rfl (i := gc) (by omega) (by omega) dGR_open_11 (fun H locs hP hD hS => ?_)
  have hP : va_P (dC, dI) vwCl [(hG, .inr (1, [.int (nI gc), .int (nI gn), .ref aG, .ref bG, .ref dG, .ref gG])), (aG, .inl (cI, 24, .inl (fun j9 => nI ((va_up gF gc tt) j9)))), (bG, .inl (cI, 24, .inl (fun j9 => nI (gT j9)))), (dG, .inl (cI, 24, .inl (fun j9 => oI (gS j9)))), (gG, .inl (cI, 24, .inl (fun j9 => nI (gO j9))))] H := hP
  have hD : va_D A [(hG, .inr (1, [.int (nI gc), .int (nI gn), .ref aG, .ref bG, .ref dG, .ref gG])), (aG, .inl (cI, 24, .inl (fun j9 => nI ((va_up gF gc tt) j9)))), (bG, .inl (cI, 24, .inl (fun j9 => nI (gT j9)))), (dG, .inl (cI, 24, .inl (fun j9 => oI (gS j9)))), (gG, .inl (cI, 24, .inl (fun j9 => nI (gO j9))))] := hD
  refine lv_aload_n hx hb dGR_open_12 rfl (lv_at hl 1 rfl) ?_
  refine va_get (D := (dC, dI)) (ci := 1) (v := .ref bG) (C := RGR) (T := TGR) (N := 6) hx hb hts (fun w h => List.mem_cons_of_mem _ (inGR w h)) hown hK hP 0 rfl rfl 3 (by decide) (hts _ (List.mem_cons_of_mem _ kw_86)) (fun _ h9 => h9) rfl dGR_open_13 ?_
  refine lv_iload_n hx hb dGR_open_16 rfl (lv_at hl 0 rfl) ?_
  refine lv_iconst (v := nI 0) hx hb dGR_open_17 (by decide +kernel) ?_
  refine hr_iastN hx hb hK hP hD hS 2 0 rfl rfl (i := gc) (by omega) (by omega) dGR_open_18 (fun H locs hP hD hS => ?_)
  have hP : va_P (dC, dI) vwCl [(hG, .inr (1, [.int (nI gc), .int (nI gn), .ref aG, .ref bG, .ref dG, .ref gG])), (aG, .inl (cI, 24, .inl (fun j9 => nI ((va_up gF gc tt) j9)))), (bG, .inl (cI, 24, .inl (fun j9 => nI ((va_up gT gc 0) j9)))), (dG, .inl (cI, 24, .inl (fun j9 => oI (gS j9)))), (gG, .inl (cI, 24, .inl (fun j9 => nI (gO j9))))] H := hP
  have hD : va_D A [(hG, .inr (1, [.int (nI gc), .int (nI gn), .ref aG, .ref bG, .ref dG, .ref gG])), (aG, .inl (cI, 24, .inl (fun j9 => nI ((va_up gF gc tt) j9)))), (bG, .inl (cI, 24, .inl (fun j9 => nI ((va_up gT gc 0) j9)))), (dG, .inl (cI, 24, .inl (fun j9 => oI (gS j9)))), (gG, .inl (cI, 24, .inl (fun j9 => nI (gO j9))))] := hD
  refine lv_aload_n hx hb dGR_open_19 rfl (lv_at hl 1 rfl) ?_
  refine va_get (D := (dC, dI)) (ci := 1) (v := .ref dG) (C := RGR) (T := TGR) (N := 6) hx hb hts (fun w h => List.mem_cons_of_mem _ (inGR w h)) hown hK hP 0 rfl rfl 4 (by decide) (hts _ (List.mem_cons_of_mem _ kw_90)) (fun _ h9 => h9) rfl dGR_open_20 ?_
  refine lv_iload_n hx hb dGR_open_23 rfl (lv_at hl 0 rfl) ?_
  refine lv_iconst (v := (-1)) hx hb dGR_open_24 (by decide +kernel) ?_
  refine hr_iastO (x := none) hx hb hK hP hD hS 3 0 rfl rfl (i := gc) (by omega) (by omega) dGR_open_25 (fun H locs hP hD hS => ?_)
  have hP : va_P (dC, dI) vwCl [(hG, .inr (1, [.int (nI gc), .int (nI gn), .ref aG, .ref bG, .ref dG, .ref gG])), (aG, .inl (cI, 24, .inl (fun j9 => nI ((va_up gF gc tt) j9)))), (bG, .inl (cI, 24, .inl (fun j9 => nI ((va_up gT gc 0) j9)))), (dG, .inl (cI, 24, .inl (fun j9 => oI ((va_up gS gc none) j9)))), (gG, .inl (cI, 24, .inl (fun j9 => nI (gO j9))))] H := hP
  have hD : va_D A [(hG, .inr (1, [.int (nI gc), .int (nI gn), .ref aG, .ref bG, .ref dG, .ref gG])), (aG, .inl (cI, 24, .inl (fun j9 => nI ((va_up gF gc tt) j9)))), (bG, .inl (cI, 24, .inl (fun j9 => nI ((va_up gT gc 0) j9)))), (dG, .inl (cI, 24, .inl (fun j9 => oI ((va_up gS gc none) j9)))), (gG, .inl (cI, 24, .inl (fun j9 => nI (gO j9))))] := hD
  refine lv_aload_n hx hb dGR_open_26 rfl (lv_at hl 1 rfl) ?_
  refine lv_dup hx hb dGR_open_27 rfl ?_
  refine va_get (D := (dC, dI)) (ci := 1) (v := .int (nI gc)) (C := RGR) (T := TGR) (N := 6) hx hb hts (fun w h => List.mem_cons_of_mem _ (inGR w h)) hown hK hP 0 rfl rfl 0 (by decide) (hts _ (List.mem_cons_of_mem _ kw_75)) (fun _ h9 => h9) rfl dGR_open_28 ?_
  refine lv_iconst (v := nI 1) hx hb dGR_open_31 (by decide +kernel) ?_
  refine lv_iadd hx hb dGR_open_32 ?_
  refine hr_eqi (nI_add _ _) ?_
  refine va_put (D := (dC, dI)) (ci := 1) (v := .int (nI (gc + 1))) (ty := .int) (C := RGR) (T := TGR) (N := 6) hx hb hts (fun w h => List.mem_cons_of_mem _ (inGR w h)) tyGR tyGR_ok nmGR hown hK hP hD hS 0 rfl rfl 0 (by decide) (hts _ (List.mem_cons_of_mem _ kw_75)) (fun _ h9 => h9) rfl (by decide +kernel) rfl rfl (Nat.le_of_ble_eq_true rfl) dGR_open_33 (fun H locs hP hD hS => ?_)
  have hP : va_P (dC, dI) vwCl [(hG, .inr (1, [.int (nI (gc + 1)), .int (nI gn), .ref aG, .ref bG, .ref dG, .ref gG])), (aG, .inl (cI, 24, .inl (fun j9 => nI ((va_up gF gc tt) j9)))), (bG, .inl (cI, 24, .inl (fun j9 => nI ((va_up gT gc 0) j9)))), (dG, .inl (cI, 24, .inl (fun j9 => oI ((va_up gS gc none) j9)))), (gG, .inl (cI, 24, .inl (fun j9 => nI (gO j9))))] H := hP
  have hD : va_D A [(hG, .inr (1, [.int (nI (gc + 1)), .int (nI gn), .ref aG, .ref bG, .ref dG, .ref gG])), (aG, .inl (cI, 24, .inl (fun j9 => nI ((va_up gF gc tt) j9)))), (bG, .inl (cI, 24, .inl (fun j9 => nI ((va_up gT gc 0) j9)))), (dG, .inl (cI, 24, .inl (fun j9 => oI ((va_up gS gc none) j9)))), (gG, .inl (cI, 24, .inl (fun j9 => nI (gO j9))))] := hD
  refine lv_iload_n hx hb dGR_open_36 rfl (lv_at hl 0 rfl) ?_
  rw [← hQe]
  exact W.iret (v := nI gc) hx hb hr (fun t ht hW => ⟨⟨_, (), rfl, rfl, by rw [ht]; exact hP, hD⟩, hS.F ht⟩) hS.2.2 dGR_open_37

set_option maxHeartbeats 4000000 in
set_option maxRecDepth 100000 in
/-- the GROUPS are gathered -/
theorem c_GR_gather (l : Launch) (dC : Nat → ClassId) (dI : Nat → Nat → Nat) (cI cZ cG : ClassId) (hG : Nat) (aG : Nat) (bG : Nat) (dG : Nat) (gG : Nat) (gc : Nat) (gn : Nat) (gF : Nat → Nat) (gT : Nat → Nat) (gS : Nat → Option Nat) (gO : Nat → Nat) (h : Nat) (a : Nat) (b : Nat) (n : Nat) (tf : Nat → Nat) (ff : Nat → Nat) (sz : Nat) (hn : n ≤ 24) (ht : ∀ j, j < n → tf j ≤ 100000) (hf : ∀ j, j < n → ff j ≤ j) (hff : ∀ j, j < n → ff (ff j) = ff j) : Met l yGR_gather wsGR_gather ({ frames := 1, cells := 0, slots := 0, locals := 24 }) (va_Pc [.ref hG, .ref h] (fun U => U.heap.size = sz ∧ va_P (dC, dI) vwCl [(hG, .inr (1, [.int (nI gc), .int (nI gn), .ref aG, .ref bG, .ref dG, .ref gG])), (aG, .inl (cI, 24, .inl (fun j9 => nI (gF j9)))), (bG, .inl (cI, 24, .inl (fun j9 => nI (gT j9)))), (dG, .inl (cI, 24, .inl (fun j9 => oI (gS j9)))), (gG, .inl (cI, 24, .inl (fun j9 => nI (gO j9)))), (h, .inr (0, [.int (nI n), .ref a, .ref b])), (a, .inl (cI, 24, .inl (fun j9 => nI (tf j9)))), (b, .inl (cI, 24, .inl (fun j9 => nI (ff j9))))] U.heap ∧ KX dC dI cI cZ cG U ∧ va_D (fun _ => True) [(hG, .inr (1, [.int (nI gc), .int (nI gn), .ref aG, .ref bG, .ref dG, .ref gG])), (aG, .inl (cI, 24, .inl (fun j9 => nI (gF j9)))), (bG, .inl (cI, 24, .inl (fun j9 => nI (gT j9)))), (dG, .inl (cI, 24, .inl (fun j9 => oI (gS j9)))), (gG, .inl (cI, 24, .inl (fun j9 => nI (gO j9)))), (h, .inr (0, [.int (nI n), .ref a, .ref b])), (a, .inl (cI, 24, .inl (fun j9 => nI (tf j9)))), (b, .inl (cI, 24, .inl (fun j9 => nI (ff j9))))])) (va_Qv (fun (u : (Nat → Nat) × (Nat → Nat) × (Nat → Option Nat) × (Nat → Nat)) => gInv ff tf (meanN tf n) n u.1 u.2.1 u.2.2.2 u.2.2.1) (fun u t => va_P (dC, dI) vwCl [(hG, .inr (1, [.int (nI (grpN ff n)), .int (nI n), .ref aG, .ref bG, .ref dG, .ref gG])), (aG, .inl (cI, 24, .inl (fun j9 => nI (u.1 j9)))), (bG, .inl (cI, 24, .inl (fun j9 => nI (u.2.1 j9)))), (dG, .inl (cI, 24, .inl (fun j9 => oI (u.2.2.1 j9)))), (gG, .inl (cI, 24, .inl (fun j9 => nI (u.2.2.2 j9)))), (h, .inr (0, [.int (nI n), .ref a, .ref b])), (a, .inl (cI, 24, .inl (fun j9 => nI (tf j9)))), (b, .inl (cI, 24, .inl (fun j9 => nI (ff j9))))] t.heap ∧ va_D (va_A [(hG, .inr (1, [.int (nI gc), .int (nI gn), .ref aG, .ref bG, .ref dG, .ref gG])), (aG, .inl (cI, 24, .inl (fun j9 => nI (gF j9)))), (bG, .inl (cI, 24, .inl (fun j9 => nI (gT j9)))), (dG, .inl (cI, 24, .inl (fun j9 => oI (gS j9)))), (gG, .inl (cI, 24, .inl (fun j9 => nI (gO j9)))), (h, .inr (0, [.int (nI n), .ref a, .ref b])), (a, .inl (cI, 24, .inl (fun j9 => nI (tf j9)))), (b, .inl (cI, 24, .inl (fun j9 => nI (ff j9))))] sz) [(hG, .inr (1, [.int (nI (grpN ff n)), .int (nI n), .ref aG, .ref bG, .ref dG, .ref gG])), (aG, .inl (cI, 24, .inl (fun j9 => nI (u.1 j9)))), (bG, .inl (cI, 24, .inl (fun j9 => nI (u.2.1 j9)))), (dG, .inl (cI, 24, .inl (fun j9 => oI (u.2.2.1 j9)))), (gG, .inl (cI, 24, .inl (fun j9 => nI (u.2.2.2 j9)))), (h, .inr (0, [.int (nI n), .ref a, .ref b])), (a, .inl (cI, 24, .inl (fun j9 => nI (tf j9)))), (b, .inl (cI, 24, .inl (fun j9 => nI (ff j9))))]) (va_A [(hG, .inr (1, [.int (nI gc), .int (nI gn), .ref aG, .ref bG, .ref dG, .ref gG])), (aG, .inl (cI, 24, .inl (fun j9 => nI (gF j9)))), (bG, .inl (cI, 24, .inl (fun j9 => nI (gT j9)))), (dG, .inl (cI, 24, .inl (fun j9 => oI (gS j9)))), (gG, .inl (cI, 24, .inl (fun j9 => nI (gO j9)))), (h, .inr (0, [.int (nI n), .ref a, .ref b])), (a, .inl (cI, 24, .inl (fun j9 => nI (tf j9)))), (b, .inl (cI, 24, .inl (fun j9 => nI (ff j9))))] sz)) 0 0 (va_A [(hG, .inr (1, [.int (nI gc), .int (nI gn), .ref aG, .ref bG, .ref dG, .ref gG])), (aG, .inl (cI, 24, .inl (fun j9 => nI (gF j9)))), (bG, .inl (cI, 24, .inl (fun j9 => nI (gT j9)))), (dG, .inl (cI, 24, .inl (fun j9 => oI (gS j9)))), (gG, .inl (cI, 24, .inl (fun j9 => nI (gO j9)))), (h, .inr (0, [.int (nI n), .ref a, .ref b])), (a, .inl (cI, 24, .inl (fun j9 => nI (tf j9)))), (b, .inl (cI, 24, .inl (fun j9 => nI (ff j9))))] sz) := by
  refine Met.ofW (cc := cGR_gather) (maxL := 6) (ret := none) (by decide) rfl ?_
  intro p e s m args below meth c s₁ B hml hv
  obtain ⟨rfl, hsz, hP, hKX, hD0⟩ := hv
  have hK := hKX.1
  have hx := B.exec
  have hb := B.bytes
  have hr := B.returns
  have hts := atoms_spec (ws := wsGR_gather) B.pre
  have hown : s.vm.findClass RGR = some m.cls := findClass_of_methodNamed B.named
  have hlocks := B.notSynchronized
  subst hsz
  have hD := hD0.self (sz := s.heap.size)
  generalize hAe : va_A [(hG, .inr (1, [.int (nI gc), .int (nI gn), .ref aG, .ref bG, .ref dG, .ref gG])), (aG, .inl (cI, 24, .inl (fun j9 => nI (gF j9)))), (bG, .inl (cI, 24, .inl (fun j9 => nI (gT j9)))), (dG, .inl (cI, 24, .inl (fun j9 => oI (gS j9)))), (gG, .inl (cI, 24, .inl (fun j9 => nI (gO j9)))), (h, .inr (0, [.int (nI n), .ref a, .ref b])), (a, .inl (cI, 24, .inl (fun j9 => nI (tf j9)))), (b, .inl (cI, 24, .inl (fun j9 => nI (ff j9))))] s.heap.size = A at hD ⊢
  have hA : ∀ q : Nat, s.heap.size ≤ q → A q := fun q h => by rw [← hAe]; exact Or.inr h
  have hS : va_S A s.heap s.heap [] := va_S.rf
  have hl := lv_entry ([.ref hG, .ref h]) (n := 6) (Nat.le_of_ble_eq_true rfl)
  rw [lg_entry_eq]
  generalize (lg_sl ([.ref hG, .ref h]) ++ List.replicate (6 - (lg_sl ([.ref hG, .ref h])).length) Slot.unset).toArray = ls at hl ⊢
  have hl : lv_has ls 6 [(0, .ref hG), (1, .ref h)] := hl
  generalize hRe : (headSpec wsGR_gather ({ frames := 1, cells := 0, slots := 0, locals := 24 })).room = R
  have hRf : 1 ≤ R.frames := by rw [← hRe]; exact Nat.le_refl _
  have hRl : 24 ≤ R.locals := by rw [← hRe]; exact Nat.le_refl _
  have hRc : 0 ≤ R.cells := by rw [← hRe]; exact Nat.le_refl _
  have hRs : 0 ≤ R.slots := by rw [← hRe]; exact Nat.le_refl _
  generalize hargs : (List.toArray [.ref hG, .ref h] : Array Value) = args at hts ⊢
  generalize hQe : MQ below _ args s _ _ _ = Q
  refine lv_aload_n hx hb dGR_gather_0 rfl (lv_at hl 1 rfl) ?_
  refine vp_callSi (va_runV (C := RTR) (As := []) (rest := []) ⟨hx, hb, hml, hown, hts⟩ (c_TR_mean l dC dI cI cZ cG h a b n tf ff (hn) (ht)) (hr_cwV 0 hts kw_311 kw_292 kw_293 kw_25 kw_294 (by decide +kernel) (by rw [← hRe]; exact ⟨Nat.le_of_ble_eq_true rfl, Nat.le_of_ble_eq_true rfl⟩)) (hr_preR hKX hP [5, 6, 7] rfl (ci := 0) (q0 := 5) (q := (RTR, TTR, 3)) rfl rfl) rfl rfl hl.1 rfl (lv_room (Nat.le_of_ble_eq_true rfl)) dGR_gather_1 ⟨by omega, by omega⟩).run (fun rv hrv => ?_)
  refine hr_eqi hrv ?_
  refine lv_istore_n (lv' := [(2, .int (nI (meanN tf n))), (0, .ref hG), (1, .ref h)]) hx hb dGR_gather_4 rfl hl (by decide) rfl (fun ls hl => ?_)
  refine lv_aload_n hx hb dGR_gather_5 rfl (lv_at hl 1 rfl) ?_
  refine lv_iconst (v := nI 0) hx hb dGR_gather_6 (by decide +kernel) ?_
  refine va_put (D := (dC, dI)) (ci := 1) (v := .int (nI 0)) (ty := .int) (C := RGR) (T := TGR) (N := 6) hx hb hts (fun w h => List.mem_cons_of_mem _ (inGR w h)) tyGR tyGR_ok nmGR hown hK hP hD hS 0 rfl rfl 0 (by decide) (hts _ (List.mem_cons_of_mem _ kw_75)) (fun _ h9 => h9) rfl (by decide +kernel) rfl rfl (Nat.le_of_ble_eq_true rfl) dGR_gather_7 (fun H locs hP hD hS => ?_)
  have hP : va_P (dC, dI) vwCl [(hG, .inr (1, [.int (nI 0), .int (nI gn), .ref aG, .ref bG, .ref dG, .ref gG])), (aG, .inl (cI, 24, .inl (fun j9 => nI (gF j9)))), (bG, .inl (cI, 24, .inl (fun j9 => nI (gT j9)))), (dG, .inl (cI, 24, .inl (fun j9 => oI (gS j9)))), (gG, .inl (cI, 24, .inl (fun j9 => nI (gO j9)))), (h, .inr (0, [.int (nI n), .ref a, .ref b])), (a, .inl (cI, 24, .inl (fun j9 => nI (tf j9)))), (b, .inl (cI, 24, .inl (fun j9 => nI (ff j9))))] H := hP
  have hD : va_D A [(hG, .inr (1, [.int (nI 0), .int (nI gn), .ref aG, .ref bG, .ref dG, .ref gG])), (aG, .inl (cI, 24, .inl (fun j9 => nI (gF j9)))), (bG, .inl (cI, 24, .inl (fun j9 => nI (gT j9)))), (dG, .inl (cI, 24, .inl (fun j9 => oI (gS j9)))), (gG, .inl (cI, 24, .inl (fun j9 => nI (gO j9)))), (h, .inr (0, [.int (nI n), .ref a, .ref b])), (a, .inl (cI, 24, .inl (fun j9 => nI (tf j9)))), (b, .inl (cI, 24, .inl (fun j9 => nI (ff j9))))] := hD
  refine lv_aload_n hx hb dGR_gather_10 rfl (lv_at hl 1 rfl) ?_
  refine lv_aload_n hx hb dGR_gather_11 rfl (lv_at hl 2 rfl) ?_
  refine va_get (D := (dC, dI)) (ci := 0) (v := .int (nI n)) (C := RTR) (T := TTR) (N := 3) hx hb hts (fun w h => List.mem_cons_of_mem _ (inTR w h)) hown hK hP 5 rfl rfl 0 (by decide) (hts _ (List.mem_cons_of_mem _ kw_56)) (fun _ h9 => h9) rfl dGR_gather_12 ?_
  refine va_put (D := (dC, dI)) (ci := 1) (v := .int (nI n)) (ty := .int) (C := RGR) (T := TGR) (N := 6) hx hb hts (fun w h => List.mem_cons_of_mem _ (inGR w h)) tyGR tyGR_ok nmGR hown hK hP hD hS 0 rfl rfl 1 (by decide) (hts _ (List.mem_cons_of_mem _ kw_80)) (fun _ h9 => h9) rfl (by decide +kernel) rfl rfl (Nat.le_of_ble_eq_true rfl) dGR_gather_15 (fun H locs hP hD hS => ?_)
  have hP : va_P (dC, dI) vwCl [(hG, .inr (1, [.int (nI 0), .int (nI n), .ref aG, .ref bG, .ref dG, .ref gG])), (aG, .inl (cI, 24, .inl (fun j9 => nI (gF j9)))), (bG, .inl (cI, 24, .inl (fun j9 => nI (gT j9)))), (dG, .inl (cI, 24, .inl (fun j9 => oI (gS j9)))), (gG, .inl (cI, 24, .inl (fun j9 => nI (gO j9)))), (h, .inr (0, [.int (nI n), .ref a, .ref b])), (a, .inl (cI, 24, .inl (fun j9 => nI (tf j9)))), (b, .inl (cI, 24, .inl (fun j9 => nI (ff j9))))] H := hP
  have hD : va_D A [(hG, .inr (1, [.int (nI 0), .int (nI n), .ref aG, .ref bG, .ref dG, .ref gG])), (aG, .inl (cI, 24, .inl (fun j9 => nI (gF j9)))), (bG, .inl (cI, 24, .inl (fun j9 => nI (gT j9)))), (dG, .inl (cI, 24, .inl (fun j9 => oI (gS j9)))), (gG, .inl (cI, 24, .inl (fun j9 => nI (gO j9)))), (h, .inr (0, [.int (nI n), .ref a, .ref b])), (a, .inl (cI, 24, .inl (fun j9 => nI (tf j9)))), (b, .inl (cI, 24, .inl (fun j9 => nI (ff j9))))] := hD
  refine lv_iconst (v := nI 0) hx hb dGR_gather_18 (by decide +kernel) ?_
  refine lv_istore_n (lv' := [(3, .int (nI 0)), (2, .int (nI (meanN tf n))), (0, .ref hG), (1, .ref h)]) hx hb dGR_gather_19 rfl hl (by decide) rfl (fun ls hl => ?_)
  have loop_20 : ∀ (n9 : Nat) (i : Nat) (uF : Nat → Nat) (uT : Nat → Nat) (uS : Nat → Option Nat) (uO : Nat → Nat), i ≤ n → gInv ff tf (meanN tf n) i uF uT uO uS → n + 1 ≤ i + n9 → ∀ (H : Heap) (locs : List Loc), va_P (dC, dI) vwCl [(hG, .inr (1, [.int (nI (grpN ff i)), .int (nI n), .ref aG, .ref bG, .ref dG, .ref gG])), (aG, .inl (cI, 24, .inl (fun j9 => nI (uF j9)))), (bG, .inl (cI, 24, .inl (fun j9 => nI (uT j9)))), (dG, .inl (cI, 24, .inl (fun j9 => oI (uS j9)))), (gG, .inl (cI, 24, .inl (fun j9 => nI (uO j9)))), (h, .inr (0, [.int (nI n), .ref a, .ref b])), (a, .inl (cI, 24, .inl (fun j9 => nI (tf j9)))), (b, .inl (cI, 24, .inl (fun j9 => nI (ff j9))))] H → va_D A [(hG, .inr (1, [.int (nI (grpN ff i)), .int (nI n), .ref aG, .ref bG, .ref dG, .ref gG])), (aG, .inl (cI, 24, .inl (fun j9 => nI (uF j9)))), (bG, .inl (cI, 24, .inl (fun j9 => nI (uT j9)))), (dG, .inl (cI, 24, .inl (fun j9 => oI (uS j9)))), (gG, .inl (cI, 24, .inl (fun j9 => nI (uO j9)))), (h, .inr (0, [.int (nI n), .ref a, .ref b])), (a, .inl (cI, 24, .inl (fun j9 => nI (tf j9)))), (b, .inl (cI, 24, .inl (fun j9 => nI (ff j9))))] → va_S A s.heap H locs → ∀ (ls : Array Slot), lv_has ls 6 [(3, .int (nI i)), (2, .int (nI (meanN tf n))), (0, .ref hG), (1, .ref h)] → W p l e R s m args below meth c H locs 0 0 Q (F0 m 20 ls []) := by
    intro n9
    induction n9 with
    | zero =>
      intro i uF uT uS uO hi hg hmeas
      exact absurd hmeas (by omega)
    | succ n9 ih_20 =>
      intro i uF uT uS uO hi hg hmeas H locs hP hD hS ls hl
      have hgl := grpN_le ff i
      refine lv_iload_n hx hb dGR_gather_20 rfl (lv_at hl 0 rfl) ?_
      refine lv_aload_n hx hb dGR_gather_21 rfl (lv_at hl 2 rfl) ?_
      refine va_get (D := (dC, dI)) (ci := 1) (v := .int (nI n)) (C := RGR) (T := TGR) (N := 6) hx hb hts (fun w h => List.mem_cons_of_mem _ (inGR w h)) hown hK hP 0 rfl rfl 1 (by decide) (hts _ (List.mem_cons_of_mem _ kw_80)) (fun _ h9 => h9) rfl dGR_gather_22 ?_
      refine hr_icmp_ge hx hb (x := i) (y := n) (by omega) (by omega) (tgt := 115) dGR_gather_25 (by decide) (fun c_1 => ?_) (fun c_1 => ?_)
      · have ei : i = n := by omega
        subst ei
        rw [← hQe]
        exact W.vret hx hb hr (fun t ht hW => ⟨⟨(uF, uT, uS, uO), rfl, hg, by rw [ht]; exact hP, hD⟩, hS.F ht⟩) hS.2.2 dGR_gather_115
      · have ht1 := ht i (by omega)
        have hf1 := hf i (by omega)
        refine lv_aload_n hx hb dGR_gather_28 rfl (lv_at hl 3 rfl) ?_
        refine va_get (D := (dC, dI)) (ci := 0) (v := .ref b) (C := RTR) (T := TTR) (N := 3) hx hb hts (fun w h => List.mem_cons_of_mem _ (inTR w h)) hown hK hP 5 rfl rfl 2 (by decide) (hts _ (List.mem_cons_of_mem _ kw_60)) (fun _ h9 => h9) rfl dGR_gather_29 ?_
        refine lv_iload_n hx hb dGR_gather_32 rfl (lv_at hl 0 rfl) ?_
        refine hr_iald hx hb hK hP 7 0 rfl rfl (i := i) (by omega) (by omega) dGR_gather_33 ?_
        refine lv_istore (lv' := [(4, .int (nI (ff i))), (3, .int (nI i)), (2, .int (nI (meanN tf n))), (0, .ref hG), (1, .ref h)]) hx hb dGR_gather_34 hl (by decide) rfl (fun ls hl => ?_)
        refine lv_iload hx hb dGR_gather_36 (lv_at hl 0 rfl) ?_
        refine lv_iload_n hx hb dGR_gather_38 rfl (lv_at hl 1 rfl) ?_
        refine hr_icmp_ne hx hb (x := (ff i)) (y := i) (by omega) (by omega) (tgt := 50) dGR_gather_39 (by decide) (fun c_2 => ?_) (fun c_2 => ?_)
        · have hlt : ff i < i := by omega
          have hidm := hff i (by omega)
          have hgi := grpN_lt (f := ff) hidm hlt
          have ho1 := hg.1 (ff i) hlt
          rw [hidm] at ho1
          refine lv_aload_n hx hb dGR_gather_50 rfl (lv_at hl 3 rfl) ?_
          refine lv_iload hx hb dGR_gather_51 (lv_at hl 0 rfl) ?_
          refine vp_callSi (va_runV (C := RGR) (As := [.int (nI (ff i))]) (rest := []) ⟨hx, hb, hml, hown, hts⟩ (c_GR_groupAt l dC dI cI cZ cG hG aG bG dG gG (grpN ff i) n uF uT uS uO (nI (ff i)) (hn)) (hr_cwV 1 hts kw_316 kw_317 kw_318 kw_26 kw_319 (by decide +kernel) (by rw [← hRe]; exact ⟨Nat.le_of_ble_eq_true rfl, Nat.le_of_ble_eq_true rfl⟩)) (hr_preR hKX hP [0, 1, 2, 3, 4] rfl (ci := 1) (q0 := 0) (q := (RGR, TGR, 6)) rfl rfl) rfl rfl hl.1 rfl (lv_room (Nat.le_of_ble_eq_true rfl)) dGR_gather_53 ⟨by omega, by omega⟩).run (fun rv hrv => ?_)
          refine hr_eqi hrv ?_
          refine hr_eqi (show oI (rowA n uO (nI (ff i))) = nI (grpN ff (ff i)) by rw [rowA_nI (by omega) (by omega), ho1]; rfl) ?_
          refine lv_istore (lv' := [(5, .int (nI (grpN ff (ff i)))), (4, .int (nI (ff i))), (3, .int (nI i)), (2, .int (nI (meanN tf n))), (0, .ref hG), (1, .ref h)]) hx hb dGR_gather_56 hl (by decide) rfl (fun ls hl => ?_)
          refine lv_aload_n hx hb dGR_gather_58 rfl (lv_at hl 4 rfl) ?_
          refine va_get (D := (dC, dI)) (ci := 1) (v := .ref gG) (C := RGR) (T := TGR) (N := 6) hx hb hts (fun w h => List.mem_cons_of_mem _ (inGR w h)) hown hK hP 0 rfl rfl 5 (by decide) (hts _ (List.mem_cons_of_mem _ kw_94)) (fun _ h9 => h9) rfl dGR_gather_59 ?_
          refine lv_iload_n hx hb dGR_gather_62 rfl (lv_at hl 2 rfl) ?_
          refine lv_iload hx hb dGR_gather_63 (lv_at hl 0 rfl) ?_
          refine hr_iastN hx hb hK hP hD hS 4 0 rfl rfl (i := i) (by omega) (by omega) dGR_gather_65 (fun H locs hP hD hS => ?_)
          have hP : va_P (dC, dI) vwCl [(hG, .inr (1, [.int (nI (grpN ff i)), .int (nI n), .ref aG, .ref bG, .ref dG, .ref gG])), (aG, .inl (cI, 24, .inl (fun j9 => nI (uF j9)))), (bG, .inl (cI, 24, .inl (fun j9 => nI (uT j9)))), (dG, .inl (cI, 24, .inl (fun j9 => oI (uS j9)))), (gG, .inl (cI, 24, .inl (fun j9 => nI ((va_up uO i (grpN ff (ff i))) j9)))), (h, .inr (0, [.int (nI n), .ref a, .ref b])), (a, .inl (cI, 24, .inl (fun j9 => nI (tf j9)))), (b, .inl (cI, 24, .inl (fun j9 => nI (ff j9))))] H := hP
          have hD : va_D A [(hG, .inr (1, [.int (nI (grpN ff i)), .int (nI n), .ref aG, .ref bG, .ref dG, .ref gG])), (aG, .inl (cI, 24, .inl (fun j9 => nI (uF j9)))), (bG, .inl (cI, 24, .inl (fun j9 => nI (uT j9)))), (dG, .inl (cI, 24, .inl (fun j9 => oI (uS j9)))), (gG, .inl (cI, 24, .inl (fun j9 => nI ((va_up uO i (grpN ff (ff i))) j9)))), (h, .inr (0, [.int (nI n), .ref a, .ref b])), (a, .inl (cI, 24, .inl (fun j9 => nI (tf j9)))), (b, .inl (cI, 24, .inl (fun j9 => nI (ff j9))))] := hD
          refine lv_iload hx hb dGR_gather_66 (lv_at hl 0 rfl) ?_
          refine hr_if_lt hx hb (x := (grpN ff (ff i))) (by omega) (tgt := 109) dGR_gather_68 (by decide) (fun c_3 => ?_) (fun c_3 => ?_)
          · exact absurd c_3 (by omega)
          · refine lv_iload hx hb dGR_gather_71 (lv_at hl 0 rfl) ?_
            refine lv_aload_n hx hb dGR_gather_73 rfl (lv_at hl 4 rfl) ?_
            refine va_get (D := (dC, dI)) (ci := 1) (v := .int (nI (grpN ff i))) (C := RGR) (T := TGR) (N := 6) hx hb hts (fun w h => List.mem_cons_of_mem _ (inGR w h)) hown hK hP 0 rfl rfl 0 (by decide) (hts _ (List.mem_cons_of_mem _ kw_75)) (fun _ h9 => h9) rfl dGR_gather_74 ?_
            refine hr_icmp_ge hx hb (x := (grpN ff (ff i))) (y := (grpN ff i)) (by omega) (by omega) (tgt := 109) dGR_gather_77 (by decide) (fun c_4 => ?_) (fun c_4 => ?_)
            · exact absurd c_4 (by omega)
            · refine lv_aload_n hx hb dGR_gather_80 rfl (lv_at hl 4 rfl) ?_
              refine va_get (D := (dC, dI)) (ci := 1) (v := .ref bG) (C := RGR) (T := TGR) (N := 6) hx hb hts (fun w h => List.mem_cons_of_mem _ (inGR w h)) hown hK hP 0 rfl rfl 3 (by decide) (hts _ (List.mem_cons_of_mem _ kw_86)) (fun _ h9 => h9) rfl dGR_gather_81 ?_
              refine lv_iload hx hb dGR_gather_84 (lv_at hl 0 rfl) ?_
              refine lv_dup2_11 hx hb dGR_gather_86 rfl rfl ?_
              refine hr_iald hx hb hK hP 2 0 rfl rfl (i := (grpN ff (ff i))) (by omega) (by omega) dGR_gather_87 ?_
              refine lv_aload_n hx hb dGR_gather_88 rfl (lv_at hl 5 rfl) ?_
              refine va_get (D := (dC, dI)) (ci := 0) (v := .ref a) (C := RTR) (T := TTR) (N := 3) hx hb hts (fun w h => List.mem_cons_of_mem _ (inTR w h)) hown hK hP 5 rfl rfl 1 (by decide) (hts _ (List.mem_cons_of_mem _ kw_58)) (fun _ h9 => h9) rfl dGR_gather_89 ?_
              refine lv_iload_n hx hb dGR_gather_92 rfl (lv_at hl 2 rfl) ?_
              refine hr_iald hx hb hK hP 6 0 rfl rfl (i := i) (by omega) (by omega) dGR_gather_93 ?_
              refine hr_if_ne hx hb (x := (tf i)) (by omega) (tgt := 101) dGR_gather_94 (by decide) (fun c_5 => ?_) (fun c_5 => ?_)
              · refine lv_aload_n hx hb dGR_gather_101 rfl (lv_at hl 5 rfl) ?_
                refine va_get (D := (dC, dI)) (ci := 0) (v := .ref a) (C := RTR) (T := TTR) (N := 3) hx hb hts (fun w h => List.mem_cons_of_mem _ (inTR w h)) hown hK hP 5 rfl rfl 1 (by decide) (hts _ (List.mem_cons_of_mem _ kw_58)) (fun _ h9 => h9) rfl dGR_gather_102 ?_
                refine lv_iload_n hx hb dGR_gather_105 rfl (lv_at hl 2 rfl) ?_
                refine hr_iald hx hb hK hP 6 0 rfl rfl (i := i) (by omega) (by omega) dGR_gather_106 ?_
                refine lv_iadd hx hb dGR_gather_107 ?_
                refine hr_eqi (nI_add _ _) ?_
                refine hr_iastN hx hb hK hP hD hS 2 0 rfl rfl (i := (grpN ff (ff i))) (by omega) (by omega) dGR_gather_108 (fun H locs hP hD hS => ?_)
                have hP : va_P (dC, dI) vwCl [(hG, .inr (1, [.int (nI (grpN ff i)), .int (nI n), .ref aG, .ref bG, .ref dG, .ref gG])), (aG, .inl (cI, 24, .inl (fun j9 => nI (uF j9)))), (bG, .inl (cI, 24, .inl (fun j9 => nI ((va_up uT (grpN ff (ff i)) ((uT (grpN ff (ff i))) + (tf i))) j9)))), (dG, .inl (cI, 24, .inl (fun j9 => oI (uS j9)))), (gG, .inl (cI, 24, .inl (fun j9 => nI ((va_up uO i (grpN ff (ff i))) j9)))), (h, .inr (0, [.int (nI n), .ref a, .ref b])), (a, .inl (cI, 24, .inl (fun j9 => nI (tf j9)))), (b, .inl (cI, 24, .inl (fun j9 => nI (ff j9))))] H := hP
                have hD : va_D A [(hG, .inr (1, [.int (nI (grpN ff i)), .int (nI n), .ref aG, .ref bG, .ref dG, .ref gG])), (aG, .inl (cI, 24, .inl (fun j9 => nI (uF j9)))), (bG, .inl (cI, 24, .inl (fun j9 => nI ((va_up uT (grpN ff (ff i)) ((uT (grpN ff (ff i))) + (tf i))) j9)))), (dG, .inl (cI, 24, .inl (fun j9 => oI (uS j9)))), (gG, .inl (cI, 24, .inl (fun j9 => nI ((va_up uO i (grpN ff (ff i))) j9)))), (h, .inr (0, [.int (nI n), .ref a, .ref b])), (a, .inl (cI, 24, .inl (fun j9 => nI (tf j9)))), (b, .inl (cI, 24, .inl (fun j9 => nI (ff j9))))] := hD
                refine lv_iinc (v := nI (i + 1)) (lv' := [(3, .int (nI (i + 1))), (5, .int (nI (grpN ff (ff i)))), (4, .int (nI (ff i))), (2, .int (nI (meanN tf n))), (0, .ref hG), (1, .ref h)]) hx hb dGR_gather_109 hl (k := 2) rfl (hr_inc _) (by decide) rfl (fun ls hl => ?_)
                refine lv_goto (tgt := 20) hx hb dGR_gather_112 (by decide) ?_
                rw [← grpN_k (f := ff) c_2] at hP hD
                exact ih_20 (i + 1) uF (va_up uT (grpN ff (ff i)) ((uT (grpN ff (ff i))) + (tf i))) uS (va_up uO i (grpN ff (ff i))) (by omega) (gInv_old hg hlt hidm (by unfold efT; rw [if_neg c_5])) (by omega) _ _ hP hD hS ls (lv_sub hl [0, 3, 4, 5] rfl)
              · refine lv_iload_n hx hb dGR_gather_97 rfl (lv_at hl 3 rfl) ?_
                refine lv_goto (tgt := 107) hx hb dGR_gather_98 (by decide) ?_
                refine lv_iadd hx hb dGR_gather_107 ?_
                refine hr_eqi (nI_add _ _) ?_
                refine hr_iastN hx hb hK hP hD hS 2 0 rfl rfl (i := (grpN ff (ff i))) (by omega) (by omega) dGR_gather_108 (fun H locs hP hD hS => ?_)
                have hP : va_P (dC, dI) vwCl [(hG, .inr (1, [.int (nI (grpN ff i)), .int (nI n), .ref aG, .ref bG, .ref dG, .ref gG])), (aG, .inl (cI, 24, .inl (fun j9 => nI (uF j9)))), (bG, .inl (cI, 24, .inl (fun j9 => nI ((va_up uT (grpN ff (ff i)) ((uT (grpN ff (ff i))) + meanN tf n)) j9)))), (dG, .inl (cI, 24, .inl (fun j9 => oI (uS j9)))), (gG, .inl (cI, 24, .inl (fun j9 => nI ((va_up uO i (grpN ff (ff i))) j9)))), (h, .inr (0, [.int (nI n), .ref a, .ref b])), (a, .inl (cI, 24, .inl (fun j9 => nI (tf j9)))), (b, .inl (cI, 24, .inl (fun j9 => nI (ff j9))))] H := hP
                have hD : va_D A [(hG, .inr (1, [.int (nI (grpN ff i)), .int (nI n), .ref aG, .ref bG, .ref dG, .ref gG])), (aG, .inl (cI, 24, .inl (fun j9 => nI (uF j9)))), (bG, .inl (cI, 24, .inl (fun j9 => nI ((va_up uT (grpN ff (ff i)) ((uT (grpN ff (ff i))) + meanN tf n)) j9)))), (dG, .inl (cI, 24, .inl (fun j9 => oI (uS j9)))), (gG, .inl (cI, 24, .inl (fun j9 => nI ((va_up uO i (grpN ff (ff i))) j9)))), (h, .inr (0, [.int (nI n), .ref a, .ref b])), (a, .inl (cI, 24, .inl (fun j9 => nI (tf j9)))), (b, .inl (cI, 24, .inl (fun j9 => nI (ff j9))))] := hD
                refine lv_iinc (v := nI (i + 1)) (lv' := [(3, .int (nI (i + 1))), (5, .int (nI (grpN ff (ff i)))), (4, .int (nI (ff i))), (2, .int (nI (meanN tf n))), (0, .ref hG), (1, .ref h)]) hx hb dGR_gather_109 hl (k := 2) rfl (hr_inc _) (by decide) rfl (fun ls hl => ?_)
                refine lv_goto (tgt := 20) hx hb dGR_gather_112 (by decide) ?_
                rw [← grpN_k (f := ff) c_2] at hP hD
                exact ih_20 (i + 1) uF (va_up uT (grpN ff (ff i)) ((uT (grpN ff (ff i))) + meanN tf n)) uS (va_up uO i (grpN ff (ff i))) (by omega) (gInv_old hg hlt hidm (by unfold efT; rw [if_pos c_5])) (by omega) _ _ hP hD hS ls (lv_sub hl [0, 3, 4, 5] rfl)
        · refine lv_aload_n hx hb dGR_gather_42 rfl (lv_at hl 3 rfl) ?_
          refine lv_iload_n hx hb dGR_gather_43 rfl (lv_at hl 1 rfl) ?_
          refine hr_calli (wr := [(h, .inr (0, [.int (nI n), .ref a, .ref b])), (a, .inl (cI, 24, .inl (fun j9 => nI (tf j9)))), (b, .inl (cI, 24, .inl (fun j9 => nI (ff j9))))]) (va_runV (C := RGR) (As := [.int (nI i)]) (rest := []) ⟨hx, hb, hml, hown, hts⟩ (c_GR_open l dC dI cI cZ cG hG aG bG dG gG (grpN ff i) n uF uT uS uO i H.size (by omega)) (hr_cwV 1 hts kw_312 kw_314 kw_0 kw_26 kw_315 (by decide +kernel) (by rw [← hRe]; exact ⟨Nat.le_of_ble_eq_true rfl, Nat.le_of_ble_eq_true rfl⟩)) (hr_preW hKX hP hD [0, 1, 2, 3, 4] (by decide) rfl (ci := 1) (q0 := 0) (q := (RGR, TGR, 6)) rfl rfl) rfl rfl hl.1 rfl (lv_room (Nat.le_of_ble_eq_true rfl)) dGR_gather_44 ⟨by omega, by omega⟩) hP hD hS hA [0, 1, 2, 3, 4] [5, 6, 7] rfl rfl (by decide) (by decide) [3, 4, 5, 6, 7, 0, 1, 2] (fun u => [(hG, .inr (1, [.int (nI ((grpN ff i) + 1)), .int (nI n), .ref aG, .ref bG, .ref dG, .ref gG])), (aG, .inl (cI, 24, .inl (fun j9 => nI ((va_up uF (grpN ff i) i) j9)))), (bG, .inl (cI, 24, .inl (fun j9 => nI ((va_up uT (grpN ff i) 0) j9)))), (dG, .inl (cI, 24, .inl (fun j9 => oI ((va_up uS (grpN ff i) none) j9)))), (gG, .inl (cI, 24, .inl (fun j9 => nI (uO j9)))), (h, .inr (0, [.int (nI n), .ref a, .ref b])), (a, .inl (cI, 24, .inl (fun j9 => nI (tf j9)))), (b, .inl (cI, 24, .inl (fun j9 => nI (ff j9))))]) (by decide) (fun u => rfl) (fun rv u H locs hrv hP hD hS => ?_)
          have hP : va_P (dC, dI) vwCl [(hG, .inr (1, [.int (nI ((grpN ff i) + 1)), .int (nI n), .ref aG, .ref bG, .ref dG, .ref gG])), (aG, .inl (cI, 24, .inl (fun j9 => nI ((va_up uF (grpN ff i) i) j9)))), (bG, .inl (cI, 24, .inl (fun j9 => nI ((va_up uT (grpN ff i) 0) j9)))), (dG, .inl (cI, 24, .inl (fun j9 => oI ((va_up uS (grpN ff i) none) j9)))), (gG, .inl (cI, 24, .inl (fun j9 => nI (uO j9)))), (h, .inr (0, [.int (nI n), .ref a, .ref b])), (a, .inl (cI, 24, .inl (fun j9 => nI (tf j9)))), (b, .inl (cI, 24, .inl (fun j9 => nI (ff j9))))] H := hP
          have hD : va_D A [(hG, .inr (1, [.int (nI ((grpN ff i) + 1)), .int (nI n), .ref aG, .ref bG, .ref dG, .ref gG])), (aG, .inl (cI, 24, .inl (fun j9 => nI ((va_up uF (grpN ff i) i) j9)))), (bG, .inl (cI, 24, .inl (fun j9 => nI ((va_up uT (grpN ff i) 0) j9)))), (dG, .inl (cI, 24, .inl (fun j9 => oI ((va_up uS (grpN ff i) none) j9)))), (gG, .inl (cI, 24, .inl (fun j9 => nI (uO j9)))), (h, .inr (0, [.int (nI n), .ref a, .ref b])), (a, .inl (cI, 24, .inl (fun j9 => nI (tf j9)))), (b, .inl (cI, 24, .inl (fun j9 => nI (ff j9))))] := hD
          refine hr_eqi hrv ?_
          refine lv_goto (tgt := 56) hx hb dGR_gather_47 (by decide) ?_
          refine lv_istore (lv' := [(5, .int (nI (grpN ff i))), (4, .int (nI (ff i))), (3, .int (nI i)), (2, .int (nI (meanN tf n))), (0, .ref hG), (1, .ref h)]) hx hb dGR_gather_56 hl (by decide) rfl (fun ls hl => ?_)
          refine lv_aload_n hx hb dGR_gather_58 rfl (lv_at hl 4 rfl) ?_
          refine va_get (D := (dC, dI)) (ci := 1) (v := .ref gG) (C := RGR) (T := TGR) (N := 6) hx hb hts (fun w h => List.mem_cons_of_mem _ (inGR w h)) hown hK hP 0 rfl rfl 5 (by decide) (hts _ (List.mem_cons_of_mem _ kw_94)) (fun _ h9 => h9) rfl dGR_gather_59 ?_
          refine lv_iload_n hx hb dGR_gather_62 rfl (lv_at hl 2 rfl) ?_
          refine lv_iload hx hb dGR_gather_63 (lv_at hl 0 rfl) ?_
          refine hr_iastN hx hb hK hP hD hS 4 0 rfl rfl (i := i) (by omega) (by omega) dGR_gather_65 (fun H locs hP hD hS => ?_)
          have hP : va_P (dC, dI) vwCl [(hG, .inr (1, [.int (nI ((grpN ff i) + 1)), .int (nI n), .ref aG, .ref bG, .ref dG, .ref gG])), (aG, .inl (cI, 24, .inl (fun j9 => nI ((va_up uF (grpN ff i) i) j9)))), (bG, .inl (cI, 24, .inl (fun j9 => nI ((va_up uT (grpN ff i) 0) j9)))), (dG, .inl (cI, 24, .inl (fun j9 => oI ((va_up uS (grpN ff i) none) j9)))), (gG, .inl (cI, 24, .inl (fun j9 => nI ((va_up uO i (grpN ff i)) j9)))), (h, .inr (0, [.int (nI n), .ref a, .ref b])), (a, .inl (cI, 24, .inl (fun j9 => nI (tf j9)))), (b, .inl (cI, 24, .inl (fun j9 => nI (ff j9))))] H := hP
          have hD : va_D A [(hG, .inr (1, [.int (nI ((grpN ff i) + 1)), .int (nI n), .ref aG, .ref bG, .ref dG, .ref gG])), (aG, .inl (cI, 24, .inl (fun j9 => nI ((va_up uF (grpN ff i) i) j9)))), (bG, .inl (cI, 24, .inl (fun j9 => nI ((va_up uT (grpN ff i) 0) j9)))), (dG, .inl (cI, 24, .inl (fun j9 => oI ((va_up uS (grpN ff i) none) j9)))), (gG, .inl (cI, 24, .inl (fun j9 => nI ((va_up uO i (grpN ff i)) j9)))), (h, .inr (0, [.int (nI n), .ref a, .ref b])), (a, .inl (cI, 24, .inl (fun j9 => nI (tf j9)))), (b, .inl (cI, 24, .inl (fun j9 => nI (ff j9))))] := hD
          refine lv_iload hx hb dGR_gather_66 (lv_at hl 0 rfl) ?_
          refine hr_if_lt hx hb (x := (grpN ff i)) (by omega) (tgt := 109) dGR_gather_68 (by decide) (fun c_6 => ?_) (fun c_6 => ?_)
          · exact absurd c_6 (by omega)
          · refine lv_iload hx hb dGR_gather_71 (lv_at hl 0 rfl) ?_
            refine lv_aload_n hx hb dGR_gather_73 rfl (lv_at hl 4 rfl) ?_
            refine va_get (D := (dC, dI)) (ci := 1) (v := .int (nI ((grpN ff i) + 1))) (C := RGR) (T := TGR) (N := 6) hx hb hts (fun w h => List.mem_cons_of_mem _ (inGR w h)) hown hK hP 0 rfl rfl 0 (by decide) (hts _ (List.mem_cons_of_mem _ kw_75)) (fun _ h9 => h9) rfl dGR_gather_74 ?_
            refine hr_icmp_ge hx hb (x := (grpN ff i)) (y := ((grpN ff i) + 1)) (by omega) (by omega) (tgt := 109) dGR_gather_77 (by decide) (fun c_7 => ?_) (fun c_7 => ?_)
            · exact absurd c_7 (by omega)
            · refine lv_aload_n hx hb dGR_gather_80 rfl (lv_at hl 4 rfl) ?_
              refine va_get (D := (dC, dI)) (ci := 1) (v := .ref bG) (C := RGR) (T := TGR) (N := 6) hx hb hts (fun w h => List.mem_cons_of_mem _ (inGR w h)) hown hK hP 0 rfl rfl 3 (by decide) (hts _ (List.mem_cons_of_mem _ kw_86)) (fun _ h9 => h9) rfl dGR_gather_81 ?_
              refine lv_iload hx hb dGR_gather_84 (lv_at hl 0 rfl) ?_
              refine lv_dup2_11 hx hb dGR_gather_86 rfl rfl ?_
              refine hr_iald hx hb hK hP 2 0 rfl rfl (i := (grpN ff i)) (by omega) (by omega) dGR_gather_87 ?_
              refine lv_aload_n hx hb dGR_gather_88 rfl (lv_at hl 5 rfl) ?_
              refine va_get (D := (dC, dI)) (ci := 0) (v := .ref a) (C := RTR) (T := TTR) (N := 3) hx hb hts (fun w h => List.mem_cons_of_mem _ (inTR w h)) hown hK hP 5 rfl rfl 1 (by decide) (hts _ (List.mem_cons_of_mem _ kw_58)) (fun _ h9 => h9) rfl dGR_gather_89 ?_
              refine lv_iload_n hx hb dGR_gather_92 rfl (lv_at hl 2 rfl) ?_
              refine hr_iald hx hb hK hP 6 0 rfl rfl (i := i) (by omega) (by omega) dGR_gather_93 ?_
              refine hr_if_ne hx hb (x := (tf i)) (by omega) (tgt := 101) dGR_gather_94 (by decide) (fun c_8 => ?_) (fun c_8 => ?_)
              · refine lv_aload_n hx hb dGR_gather_101 rfl (lv_at hl 5 rfl) ?_
                refine va_get (D := (dC, dI)) (ci := 0) (v := .ref a) (C := RTR) (T := TTR) (N := 3) hx hb hts (fun w h => List.mem_cons_of_mem _ (inTR w h)) hown hK hP 5 rfl rfl 1 (by decide) (hts _ (List.mem_cons_of_mem _ kw_58)) (fun _ h9 => h9) rfl dGR_gather_102 ?_
                refine lv_iload_n hx hb dGR_gather_105 rfl (lv_at hl 2 rfl) ?_
                refine hr_iald hx hb hK hP 6 0 rfl rfl (i := i) (by omega) (by omega) dGR_gather_106 ?_
                refine lv_iadd hx hb dGR_gather_107 ?_
                refine hr_eqi (nI_add _ _) ?_
                refine hr_iastN hx hb hK hP hD hS 2 0 rfl rfl (i := (grpN ff i)) (by omega) (by omega) dGR_gather_108 (fun H locs hP hD hS => ?_)
                have hP : va_P (dC, dI) vwCl [(hG, .inr (1, [.int (nI ((grpN ff i) + 1)), .int (nI n), .ref aG, .ref bG, .ref dG, .ref gG])), (aG, .inl (cI, 24, .inl (fun j9 => nI ((va_up uF (grpN ff i) i) j9)))), (bG, .inl (cI, 24, .inl (fun j9 => nI ((va_up (va_up uT (grpN ff i) 0) (grpN ff i) (((va_up uT (grpN ff i) 0) (grpN ff i)) + (tf i))) j9)))), (dG, .inl (cI, 24, .inl (fun j9 => oI ((va_up uS (grpN ff i) none) j9)))), (gG, .inl (cI, 24, .inl (fun j9 => nI ((va_up uO i (grpN ff i)) j9)))), (h, .inr (0, [.int (nI n), .ref a, .ref b])), (a, .inl (cI, 24, .inl (fun j9 => nI (tf j9)))), (b, .inl (cI, 24, .inl (fun j9 => nI (ff j9))))] H := hP
                have hD : va_D A [(hG, .inr (1, [.int (nI ((grpN ff i) + 1)), .int (nI n), .ref aG, .ref bG, .ref dG, .ref gG])), (aG, .inl (cI, 24, .inl (fun j9 => nI ((va_up uF (grpN ff i) i) j9)))), (bG, .inl (cI, 24, .inl (fun j9 => nI ((va_up (va_up uT (grpN ff i) 0) (grpN ff i) (((va_up uT (grpN ff i) 0) (grpN ff i)) + (tf i))) j9)))), (dG, .inl (cI, 24, .inl (fun j9 => oI ((va_up uS (grpN ff i) none) j9)))), (gG, .inl (cI, 24, .inl (fun j9 => nI ((va_up uO i (grpN ff i)) j9)))), (h, .inr (0, [.int (nI n), .ref a, .ref b])), (a, .inl (cI, 24, .inl (fun j9 => nI (tf j9)))), (b, .inl (cI, 24, .inl (fun j9 => nI (ff j9))))] := hD
                refine lv_iinc (v := nI (i + 1)) (lv' := [(3, .int (nI (i + 1))), (5, .int (nI (grpN ff i))), (4, .int (nI (ff i))), (2, .int (nI (meanN tf n))), (0, .ref hG), (1, .ref h)]) hx hb dGR_gather_109 hl (k := 2) rfl (hr_inc _) (by decide) rfl (fun ls hl => ?_)
                refine lv_goto (tgt := 20) hx hb dGR_gather_112 (by decide) ?_
                rw [← grpN_s c_2] at hP hD
                exact ih_20 (i + 1) (va_up uF (grpN ff i) i) (va_up (va_up uT (grpN ff i) 0) (grpN ff i) (((va_up uT (grpN ff i) 0) (grpN ff i)) + (tf i))) (va_up uS (grpN ff i) none) (va_up uO i (grpN ff i)) (by omega) (gInv_new hg c_2 (fun j hj => hf j (by omega)) (by unfold efT; rw [if_neg c_8])) (by omega) _ _ hP hD hS ls (lv_sub hl [0, 3, 4, 5] rfl)
              · refine lv_iload_n hx hb dGR_gather_97 rfl (lv_at hl 3 rfl) ?_
                refine lv_goto (tgt := 107) hx hb dGR_gather_98 (by decide) ?_
                refine lv_iadd hx hb dGR_gather_107 ?_
                refine hr_eqi (nI_add _ _) ?_
                refine hr_iastN hx hb hK hP hD hS 2 0 rfl rfl (i := (grpN ff i)) (by omega) (by omega) dGR_gather_108 (fun H locs hP hD hS => ?_)
                have hP : va_P (dC, dI) vwCl [(hG, .inr (1, [.int (nI ((grpN ff i) + 1)), .int (nI n), .ref aG, .ref bG, .ref dG, .ref gG])), (aG, .inl (cI, 24, .inl (fun j9 => nI ((va_up uF (grpN ff i) i) j9)))), (bG, .inl (cI, 24, .inl (fun j9 => nI ((va_up (va_up uT (grpN ff i) 0) (grpN ff i) (((va_up uT (grpN ff i) 0) (grpN ff i)) + meanN tf n)) j9)))), (dG, .inl (cI, 24, .inl (fun j9 => oI ((va_up uS (grpN ff i) none) j9)))), (gG, .inl (cI, 24, .inl (fun j9 => nI ((va_up uO i (grpN ff i)) j9)))), (h, .inr (0, [.int (nI n), .ref a, .ref b])), (a, .inl (cI, 24, .inl (fun j9 => nI (tf j9)))), (b, .inl (cI, 24, .inl (fun j9 => nI (ff j9))))] H := hP
                have hD : va_D A [(hG, .inr (1, [.int (nI ((grpN ff i) + 1)), .int (nI n), .ref aG, .ref bG, .ref dG, .ref gG])), (aG, .inl (cI, 24, .inl (fun j9 => nI ((va_up uF (grpN ff i) i) j9)))), (bG, .inl (cI, 24, .inl (fun j9 => nI ((va_up (va_up uT (grpN ff i) 0) (grpN ff i) (((va_up uT (grpN ff i) 0) (grpN ff i)) + meanN tf n)) j9)))), (dG, .inl (cI, 24, .inl (fun j9 => oI ((va_up uS (grpN ff i) none) j9)))), (gG, .inl (cI, 24, .inl (fun j9 => nI ((va_up uO i (grpN ff i)) j9)))), (h, .inr (0, [.int (nI n), .ref a, .ref b])), (a, .inl (cI, 24, .inl (fun j9 => nI (tf j9)))), (b, .inl (cI, 24, .inl (fun j9 => nI (ff j9))))] := hD
                refine lv_iinc (v := nI (i + 1)) (lv' := [(3, .int (nI (i + 1))), (5, .int (nI (grpN ff i))), (4, .int (nI (ff i))), (2, .int (nI (meanN tf n))), (0, .ref hG), (1, .ref h)]) hx hb dGR_gather_109 hl (k := 2) rfl (hr_inc _) (by decide) rfl (fun ls hl => ?_)
                refine lv_goto (tgt := 20) hx hb dGR_gather_112 (by decide) ?_
                rw [← grpN_s c_2] at hP hD
                exact ih_20 (i + 1) (va_up uF (grpN ff i) i) (va_up (va_up uT (grpN ff i) 0) (grpN ff i) (((va_up uT (grpN ff i) 0) (grpN ff i)) + meanN tf n)) (va_up uS (grpN ff i) none) (va_up uO i (grpN ff i)) (by omega) (gInv_new hg c_2 (fun j hj => hf j (by omega)) (by unfold efT; rw [if_pos c_8])) (by omega) _ _ hP hD hS ls (lv_sub hl [0, 3, 4, 5] rfl)
  exact loop_20 (n + 1) 0 gF gT gS gO (by omega) (gInv_0) (by omega) _ _ hP hD hS ls (lv_sub hl [0, 1, 2, 3] rfl)

set_option maxHeartbeats 4000000 in
set_option maxRecDepth 100000 in
/-- the longest GROUP that has no SHARD yet -/
theorem c_GY_longest (l : Launch) (dC : Nat → ClassId) (dI : Nat → Nat → Nat) (cI cZ cG : ClassId) (hG : Nat) (aG : Nat) (bG : Nat) (dG : Nat) (gG : Nat) (gc : Nat) (gn : Nat) (gF : Nat → Nat) (gT : Nat → Nat) (gS : Nat → Option Nat) (gO : Nat → Nat) (hgc : gc ≤ 24) (hgT : ∀ g, g < gc → 1 ≤ gT g ∧ gT g ≤ 2400000) (hgS : ∀ g, g < gc → ∀ k, gS g = some k → k < 2 ^ 31) : Met l yGY_longestUnplaced wsGY_longestUnplaced ({ frames := 0, cells := 0, slots := 0, locals := 0 }) (va_Pc [.ref hG] (fun U => va_P (dC, dI) vwCl [(hG, .inr (1, [.int (nI gc), .int (nI gn), .ref aG, .ref bG, .ref dG, .ref gG])), (aG, .inl (cI, 24, .inl (fun j9 => nI (gF j9)))), (bG, .inl (cI, 24, .inl (fun j9 => nI (gT j9)))), (dG, .inl (cI, 24, .inl (fun j9 => oI (gS j9)))), (gG, .inl (cI, 24, .inl (fun j9 => nI (gO j9))))] U.heap ∧ KX dC dI cI cZ cG U)) (vp_Si (fun r => r = nI ((sel gT gS gc).getD 0))) 0 0 (fun _ => False) := by
  refine Met.ofW (cc := cGY_longestUnplaced) (maxL := 4) (ret := (some .int)) (by decide) rfl ?_
  intro p e s m args below meth c s₁ B hml hv
  obtain ⟨rfl, hP, hKX⟩ := hv
  have hK := hKX.1
  have hx := B.exec
  have hb := B.bytes
  have hr := B.returns
  have hts := atoms_spec (ws := wsGY_longestUnplaced) B.pre
  have hown : s.vm.findClass RGY = some m.cls := findClass_of_methodNamed B.named
  have hlocks := B.notSynchronized
  have hl := lv_entry ([.ref hG]) (n := 4) (Nat.le_of_ble_eq_true rfl)
  rw [lg_entry_eq]
  generalize (lg_sl ([.ref hG]) ++ List.replicate (4 - (lg_sl ([.ref hG])).length) Slot.unset).toArray = ls at hl ⊢
  have hl : lv_has ls 4 [(0, .ref hG)] := hl
  generalize hRe : (headSpec wsGY_longestUnplaced ({ frames := 0, cells := 0, slots := 0, locals := 0 })).room = R
  have hRf : 0 ≤ R.frames := by rw [← hRe]; exact Nat.le_refl _
  have hRl : 0 ≤ R.locals := by rw [← hRe]; exact Nat.le_refl _
  have hRc : 0 ≤ R.cells := by rw [← hRe]; exact Nat.le_refl _
  have hRs : 0 ≤ R.slots := by rw [← hRe]; exact Nat.le_refl _
  generalize hargs : (List.toArray [.ref hG] : Array Value) = args at hts ⊢
  generalize hQe : MQ below _ args s _ _ _ = Q
  refine lv_iconst (v := nI 0) hx hb dGY_longestUnplaced_0 (by decide +kernel) ?_
  refine lv_istore_n (lv' := [(1, .int (nI 0)), (0, .ref hG)]) hx hb dGY_longestUnplaced_1 rfl hl (by decide) rfl (fun ls hl => ?_)
  refine lv_iconst (v := nI 0) hx hb dGY_longestUnplaced_2 (by decide +kernel) ?_
  refine lv_istore_n (lv' := [(2, .int (nI 0)), (1, .int (nI 0)), (0, .ref hG)]) hx hb dGY_longestUnplaced_3 rfl hl (by decide) rfl (fun ls hl => ?_)
  refine lv_iconst (v := nI 0) hx hb dGY_longestUnplaced_4 (by decide +kernel) ?_
  refine lv_istore_n (lv' := [(3, .int (nI 0)), (2, .int (nI 0)), (1, .int (nI 0)), (0, .ref hG)]) hx hb dGY_longestUnplaced_5 rfl hl (by decide) rfl (fun ls hl => ?_)
  have loop_6 : ∀ (n9 : Nat) (i : Nat) (s1 : Nat) (s2 : Nat), i ≤ gc → s1 = (sel gT gS i).getD 0 → s2 = (sel gT gS i).elim 0 gT → s2 ≤ 2400000 → gc + 1 ≤ i + n9 → ∀ (ls : Array Slot), lv_has ls 4 [(3, .int (nI i)), (2, .int (nI s2)), (1, .int (nI s1)), (0, .ref hG)] → W p l e R s m args below meth c s.heap [] 0 0 Q (F0 m 6 ls []) := by
    intro n9
    induction n9 with
    | zero =>
      intro i s1 s2 hi h1 h2 h3 hmeas
      exact absurd hmeas (by omega)
    | succ n9 ih_6 =>
      intro i s1 s2 hi h1 h2 h3 hmeas ls hl
      refine lv_iload_n hx hb dGY_longestUnplaced_6 rfl (lv_at hl 0 rfl) ?_
      refine lv_aload_n hx hb dGY_longestUnplaced_7 rfl (lv_at hl 3 rfl) ?_
      refine va_get (D := (dC, dI)) (ci := 1) (v := .int (nI gc)) (C := RGR) (T := TGR) (N := 6) hx hb hts (fun w h => List.mem_cons_of_mem _ (inGR w h)) hown hK hP 0 rfl rfl 0 (by decide) (hts _ (List.mem_cons_of_mem _ kw_77)) (fun _ h9 => h9) rfl dGY_longestUnplaced_8 ?_
      refine hr_icmp_ge hx hb (x := i) (y := gc) (by omega) (by omega) (tgt := 49) dGY_longestUnplaced_11 (by decide) (fun c_1 => ?_) (fun c_1 => ?_)
      · have ei : i = gc := by omega
        subst ei
        refine lv_iload_n hx hb dGY_longestUnplaced_49 rfl (lv_at hl 2 rfl) ?_
        rw [← hQe]
        exact W.iret (v := nI s1) hx hb hr (fun t ht hW => ⟨_, rfl, by rw [h1], by rw [ht]⟩) (fun q h => by cases h) dGY_longestUnplaced_50
      · have hT1 := hgT i (by omega)
        refine lv_aload_n hx hb dGY_longestUnplaced_14 rfl (lv_at hl 3 rfl) ?_
        refine va_get (D := (dC, dI)) (ci := 1) (v := .ref dG) (C := RGR) (T := TGR) (N := 6) hx hb hts (fun w h => List.mem_cons_of_mem _ (inGR w h)) hown hK hP 0 rfl rfl 4 (by decide) (hts _ (List.mem_cons_of_mem _ kw_91)) (fun _ h9 => h9) rfl dGY_longestUnplaced_15 ?_
        refine lv_iload_n hx hb dGY_longestUnplaced_18 rfl (lv_at hl 0 rfl) ?_
        refine hr_iald hx hb hK hP 3 0 rfl rfl (i := i) (by omega) (by omega) dGY_longestUnplaced_19 ?_
        refine lv_iconst (v := (-1)) hx hb dGY_longestUnplaced_20 (by decide +kernel) ?_
        refine lv_icmp_ne (tgt := 43) hx hb dGY_longestUnplaced_21 (by decide) (fun c_2 => ?_) (fun c_2 => ?_)
        · refine lv_iinc (v := nI (i + 1)) (lv' := [(3, .int (nI (i + 1))), (2, .int (nI s2)), (1, .int (nI s1)), (0, .ref hG)]) hx hb dGY_longestUnplaced_43 hl (k := 0) rfl (hr_inc _) (by decide) rfl (fun ls hl => ?_)
          refine lv_goto (tgt := 6) hx hb dGY_longestUnplaced_46 (by decide) ?_
          exact ih_6 (i + 1) s1 s2 (by omega) (by rw [sel_skip (fun z => c_2 (by rw [z]; rfl))]; exact h1) (by rw [sel_skip (fun z => c_2 (by rw [z]; rfl))]; exact h2) (by omega) (by omega) ls (lv_sub hl [0, 1, 2, 3] rfl)
        · refine lv_aload_n hx hb dGY_longestUnplaced_24 rfl (lv_at hl 3 rfl) ?_
          refine va_get (D := (dC, dI)) (ci := 1) (v := .ref bG) (C := RGR) (T := TGR) (N := 6) hx hb hts (fun w h => List.mem_cons_of_mem _ (inGR w h)) hown hK hP 0 rfl rfl 3 (by decide) (hts _ (List.mem_cons_of_mem _ kw_88)) (fun _ h9 => h9) rfl dGY_longestUnplaced_25 ?_
          refine lv_iload_n hx hb dGY_longestUnplaced_28 rfl (lv_at hl 0 rfl) ?_
          refine hr_iald hx hb hK hP 2 0 rfl rfl (i := i) (by omega) (by omega) dGY_longestUnplaced_29 ?_
          refine lv_iload_n hx hb dGY_longestUnplaced_30 rfl (lv_at hl 1 rfl) ?_
          refine hr_icmp_le hx hb (x := (gT i)) (y := s2) (by omega) (by omega) (tgt := 43) dGY_longestUnplaced_31 (by decide) (fun c_3 => ?_) (fun c_3 => ?_)
          · refine lv_iinc (v := nI (i + 1)) (lv' := [(3, .int (nI (i + 1))), (2, .int (nI s2)), (1, .int (nI s1)), (0, .ref hG)]) hx hb dGY_longestUnplaced_43 hl (k := 0) rfl (hr_inc _) (by decide) rfl (fun ls hl => ?_)
            refine lv_goto (tgt := 6) hx hb dGY_longestUnplaced_46 (by decide) ?_
            exact ih_6 (i + 1) s1 s2 (by omega) (by rw [sel_keep ((oI_m1 (hgS i (by omega))).mp c_2) (by omega) (by omega)]; exact h1) (by rw [sel_keep ((oI_m1 (hgS i (by omega))).mp c_2) (by omega) (by omega)]; exact h2) (by omega) (by omega) ls (lv_sub hl [0, 1, 2, 3] rfl)
          · refine lv_iload_n hx hb dGY_longestUnplaced_34 rfl (lv_at hl 0 rfl) ?_
            refine lv_istore_n (lv' := [(1, .int (nI i)), (3, .int (nI i)), (2, .int (nI s2)), (0, .ref hG)]) hx hb dGY_longestUnplaced_35 rfl hl (by decide) rfl (fun ls hl => ?_)
            refine lv_aload_n hx hb dGY_longestUnplaced_36 rfl (lv_at hl 3 rfl) ?_
            refine va_get (D := (dC, dI)) (ci := 1) (v := .ref bG) (C := RGR) (T := TGR) (N := 6) hx hb hts (fun w h => List.mem_cons_of_mem _ (inGR w h)) hown hK hP 0 rfl rfl 3 (by decide) (hts _ (List.mem_cons_of_mem _ kw_88)) (fun _ h9 => h9) rfl dGY_longestUnplaced_37 ?_
            refine lv_iload_n hx hb dGY_longestUnplaced_40 rfl (lv_at hl 1 rfl) ?_
            refine hr_iald hx hb hK hP 2 0 rfl rfl (i := i) (by omega) (by omega) dGY_longestUnplaced_41 ?_
            refine lv_istore_n (lv' := [(2, .int (nI (gT i))), (1, .int (nI i)), (3, .int (nI i)), (0, .ref hG)]) hx hb dGY_longestUnplaced_42 rfl hl (by decide) rfl (fun ls hl => ?_)
            refine lv_iinc (v := nI (i + 1)) (lv' := [(3, .int (nI (i + 1))), (2, .int (nI (gT i))), (1, .int (nI i)), (0, .ref hG)]) hx hb dGY_longestUnplaced_43 hl (k := 2) rfl (hr_inc _) (by decide) rfl (fun ls hl => ?_)
            refine lv_goto (tgt := 6) hx hb dGY_longestUnplaced_46 (by decide) ?_
            exact ih_6 (i + 1) i (gT i) (by omega) (by rw [sel_take ((oI_m1 (hgS i (by omega))).mp c_2) (by omega)]; rfl) (by rw [sel_take ((oI_m1 (hgS i (by omega))).mp c_2) (by omega)]; rfl) (by omega) (by omega) ls (lv_sub hl [0, 1, 2, 3] rfl)
  exact loop_6 (gc + 1) 0 0 0 (by omega) (rfl) (rfl) (by omega) (by omega) ls (lv_sub hl [0, 1, 2, 3] rfl)

set_option maxHeartbeats 4000000 in
set_option maxRecDepth 100000 in
/-- the SHARD with the least sum -/
theorem c_GY_least (l : Launch) (dC : Nat → ClassId) (dI : Nat → Nat → Nat) (cI cZ cG : ClassId) (hY : Nat) (aY : Nat) (yc : Nat) (ym : Nat → Nat) (o : Option Nat) (hyc : 1 ≤ yc ∧ yc ≤ 4) (hym : ∀ q, q < 4 → ym q < 2 ^ 30) (ho : ∀ k, o = some k → k < 2 ^ 30) : Met l yGY_leastShard wsGY_leastShard ({ frames := 0, cells := 0, slots := 0, locals := 0 }) (va_Pc [.ref hY, .int (oI o)] (fun U => va_P (dC, dI) vwCl [(hY, .inr (4, [.int (nI yc), .ref aY])), (aY, .inl (cI, 4, .inl (fun j9 => nI (ym j9))))] U.heap ∧ KX dC dI cI cZ cG U)) (vp_Si (fun r => r = nI (lsh ym yc o))) 0 0 (fun _ => False) := by
  refine Met.ofW (cc := cGY_leastShard) (maxL := 4) (ret := (some .int)) (by decide) rfl ?_
  intro p e s m args below meth c s₁ B hml hv
  obtain ⟨rfl, hP, hKX⟩ := hv
  have hK := hKX.1
  have hx := B.exec
  have hb := B.bytes
  have hr := B.returns
  have hts := atoms_spec (ws := wsGY_leastShard) B.pre
  have hown : s.vm.findClass RGY = some m.cls := findClass_of_methodNamed B.named
  have hlocks := B.notSynchronized
  have hl := lv_entry ([.ref hY, .int (oI o)]) (n := 4) (Nat.le_of_ble_eq_true rfl)
  rw [lg_entry_eq]
  generalize (lg_sl ([.ref hY, .int (oI o)]) ++ List.replicate (4 - (lg_sl ([.ref hY, .int (oI o)])).length) Slot.unset).toArray = ls at hl ⊢
  have hl : lv_has ls 4 [(0, .ref hY), (1, .int (oI o))] := hl
  generalize hRe : (headSpec wsGY_leastShard ({ frames := 0, cells := 0, slots := 0, locals := 0 })).room = R
  have hRf : 0 ≤ R.frames := by rw [← hRe]; exact Nat.le_refl _
  have hRl : 0 ≤ R.locals := by rw [← hRe]; exact Nat.le_refl _
  have hRc : 0 ≤ R.cells := by rw [← hRe]; exact Nat.le_refl _
  have hRs : 0 ≤ R.slots := by rw [← hRe]; exact Nat.le_refl _
  generalize hargs : (List.toArray [.ref hY, .int (oI o)] : Array Value) = args at hts ⊢
  generalize hQe : MQ below _ args s _ _ _ = Q
  refine lv_iconst (v := nI 0) hx hb dGY_leastShard_0 (by decide +kernel) ?_
  refine lv_istore_n (lv' := [(2, .int (nI 0)), (0, .ref hY), (1, .int (oI o))]) hx hb dGY_leastShard_1 rfl hl (by decide) rfl (fun ls hl => ?_)
  refine lv_iconst (v := nI 1) hx hb dGY_leastShard_2 (by decide +kernel) ?_
  refine lv_istore_n (lv' := [(3, .int (nI 1)), (2, .int (nI 0)), (0, .ref hY), (1, .int (oI o))]) hx hb dGY_leastShard_3 rfl hl (by decide) rfl (fun ls hl => ?_)
  have loop_4 : ∀ (n9 : Nat) (i : Nat) (s2 : Nat), 1 ≤ i → i ≤ yc → s2 = lst ym (i - 1) → s2 < i → yc + 1 ≤ i + n9 → ∀ (ls : Array Slot), lv_has ls 4 [(3, .int (nI i)), (2, .int (nI s2)), (0, .ref hY), (1, .int (oI o))] → W p l e R s m args below meth c s.heap [] 0 0 Q (F0 m 4 ls []) := by
    intro n9
    induction n9 with
    | zero =>
      intro i s2 hi1 hi h2 h3 hmeas
      exact absurd hmeas (by omega)
    | succ n9 ih_4 =>
      intro i s2 hi1 hi h2 h3 hmeas ls hl
      refine lv_iload_n hx hb dGY_leastShard_4 rfl (lv_at hl 0 rfl) ?_
      refine lv_aload_n hx hb dGY_leastShard_5 rfl (lv_at hl 2 rfl) ?_
      refine va_get (D := (dC, dI)) (ci := 4) (v := .int (nI yc)) (C := RGY) (T := TGY) (N := 2) hx hb hts (fun w h => List.mem_cons_of_mem _ (inGY w h)) hown hK hP 0 rfl rfl 0 (by decide) (hts _ (List.mem_cons_of_mem _ kw_153)) (fun _ h9 => h9) rfl dGY_leastShard_6 ?_
      refine hr_icmp_ge hx hb (x := i) (y := yc) (by omega) (by omega) (tgt := 35) dGY_leastShard_9 (by decide) (fun c_1 => ?_) (fun c_1 => ?_)
      · have ei : yc = i := by omega
        subst ei
        have hm2 := hym s2 (by omega)
        cases o with
        | none =>
            have hl : lv_has ls 4 [(3, .int (nI yc)), (2, .int (nI s2)), (0, .ref hY), (1, .int (-1))] := hl
            refine lv_iload_n hx hb dGY_leastShard_35 rfl (lv_at hl 3 rfl) ?_
            refine lv_if_lt (tgt := 66) hx hb dGY_leastShard_36 (by decide) (fun c_2 => ?_) (fun c_2 => ?_)
            · refine lv_iconst (v := nI 0) hx hb dGY_leastShard_66 (by decide +kernel) ?_
              refine lv_istore_n (lv' := [(3, .int (nI 0)), (2, .int (nI s2)), (0, .ref hY), (1, .int (-1))]) hx hb dGY_leastShard_67 rfl hl (by decide) rfl (fun ls hl => ?_)
              refine lv_iload_n hx hb dGY_leastShard_68 rfl (lv_at hl 0 rfl) ?_
              refine hr_if_eq hx hb (x := 0) (by omega) (tgt := 76) dGY_leastShard_69 (by decide) (fun c_3 => ?_) (fun c_3 => ?_)
              · refine lv_iload_n hx hb dGY_leastShard_76 rfl (lv_at hl 1 rfl) ?_
                rw [← hQe]
                exact W.iret (v := nI s2) hx hb hr (fun t ht hW => ⟨_, rfl, by rw [h2]; rfl, by rw [ht]⟩) (fun q h => by cases h) dGY_leastShard_77
              · exact absurd rfl c_3
            · exact absurd (by decide +kernel) c_2
        | some q =>
            have hl : lv_has ls 4 [(3, .int (nI yc)), (2, .int (nI s2)), (0, .ref hY), (1, .int (nI q))] := hl
            have hq := ho q rfl
            refine lv_iload_n hx hb dGY_leastShard_35 rfl (lv_at hl 3 rfl) ?_
            refine hr_if_lt hx hb (x := q) (by omega) (tgt := 66) dGY_leastShard_36 (by decide) (fun c_4 => ?_) (fun c_4 => ?_)
            · exact absurd c_4 (by omega)
            · refine lv_iload_n hx hb dGY_leastShard_39 rfl (lv_at hl 3 rfl) ?_
              refine lv_aload_n hx hb dGY_leastShard_40 rfl (lv_at hl 2 rfl) ?_
              refine va_get (D := (dC, dI)) (ci := 4) (v := .int (nI yc)) (C := RGY) (T := TGY) (N := 2) hx hb hts (fun w h => List.mem_cons_of_mem _ (inGY w h)) hown hK hP 0 rfl rfl 0 (by decide) (hts _ (List.mem_cons_of_mem _ kw_153)) (fun _ h9 => h9) rfl dGY_leastShard_41 ?_
              refine hr_icmp_ge hx hb (x := q) (y := yc) (by omega) (by omega) (tgt := 66) dGY_leastShard_44 (by decide) (fun c_5 => ?_) (fun c_5 => ?_)
              · refine lv_iconst (v := nI 0) hx hb dGY_leastShard_66 (by decide +kernel) ?_
                refine lv_istore_n (lv' := [(3, .int (nI 0)), (2, .int (nI s2)), (0, .ref hY), (1, .int (nI q))]) hx hb dGY_leastShard_67 rfl hl (by decide) rfl (fun ls hl => ?_)
                refine lv_iload_n hx hb dGY_leastShard_68 rfl (lv_at hl 0 rfl) ?_
                refine hr_if_eq hx hb (x := 0) (by omega) (tgt := 76) dGY_leastShard_69 (by decide) (fun c_6 => ?_) (fun c_6 => ?_)
                · refine lv_iload_n hx hb dGY_leastShard_76 rfl (lv_at hl 1 rfl) ?_
                  rw [← hQe]
                  exact W.iret (v := nI s2) hx hb hr (fun t ht hW => ⟨_, rfl, by rw [h2] at *; show _ = nI (if q < yc ∧ ym q = ym (lst ym (yc - 1)) then q else lst ym (yc - 1)); rw [if_neg (by omega)], by rw [ht]⟩) (fun q h => by cases h) dGY_leastShard_77
                · exact absurd rfl c_6
              · have hm3 := hym q (by omega)
                refine lv_aload_n hx hb dGY_leastShard_47 rfl (lv_at hl 2 rfl) ?_
                refine va_get (D := (dC, dI)) (ci := 4) (v := .ref aY) (C := RGY) (T := TGY) (N := 2) hx hb hts (fun w h => List.mem_cons_of_mem _ (inGY w h)) hown hK hP 0 rfl rfl 1 (by decide) (hts _ (List.mem_cons_of_mem _ kw_154)) (fun _ h9 => h9) rfl dGY_leastShard_48 ?_
                refine lv_iload_n hx hb dGY_leastShard_51 rfl (lv_at hl 3 rfl) ?_
                refine hr_iald hx hb hK hP 1 0 rfl rfl (i := q) (by omega) (by omega) dGY_leastShard_52 ?_
                refine lv_aload_n hx hb dGY_leastShard_53 rfl (lv_at hl 2 rfl) ?_
                refine va_get (D := (dC, dI)) (ci := 4) (v := .ref aY) (C := RGY) (T := TGY) (N := 2) hx hb hts (fun w h => List.mem_cons_of_mem _ (inGY w h)) hown hK hP 0 rfl rfl 1 (by decide) (hts _ (List.mem_cons_of_mem _ kw_154)) (fun _ h9 => h9) rfl dGY_leastShard_54 ?_
                refine lv_iload_n hx hb dGY_leastShard_57 rfl (lv_at hl 1 rfl) ?_
                refine hr_iald hx hb hK hP 1 0 rfl rfl (i := s2) (by omega) (by omega) dGY_leastShard_58 ?_
                refine hr_icmp_ne hx hb (x := (ym q)) (y := (ym s2)) (by omega) (by omega) (tgt := 66) dGY_leastShard_59 (by decide) (fun c_7 => ?_) (fun c_7 => ?_)
                · refine lv_iconst (v := nI 0) hx hb dGY_leastShard_66 (by decide +kernel) ?_
                  refine lv_istore_n (lv' := [(3, .int (nI 0)), (2, .int (nI s2)), (0, .ref hY), (1, .int (nI q))]) hx hb dGY_leastShard_67 rfl hl (by decide) rfl (fun ls hl => ?_)
                  refine lv_iload_n hx hb dGY_leastShard_68 rfl (lv_at hl 0 rfl) ?_
                  refine hr_if_eq hx hb (x := 0) (by omega) (tgt := 76) dGY_leastShard_69 (by decide) (fun c_8 => ?_) (fun c_8 => ?_)
                  · refine lv_iload_n hx hb dGY_leastShard_76 rfl (lv_at hl 1 rfl) ?_
                    rw [← hQe]
                    exact W.iret (v := nI s2) hx hb hr (fun t ht hW => ⟨_, rfl, by rw [h2] at *; show _ = nI (if q < yc ∧ ym q = ym (lst ym (yc - 1)) then q else lst ym (yc - 1)); rw [if_neg (by omega)], by rw [ht]⟩) (fun q h => by cases h) dGY_leastShard_77
                  · exact absurd rfl c_8
                · refine lv_iconst (v := nI 1) hx hb dGY_leastShard_62 (by decide +kernel) ?_
                  refine lv_goto (tgt := 67) hx hb dGY_leastShard_63 (by decide) ?_
                  refine lv_istore_n (lv' := [(3, .int (nI 1)), (2, .int (nI s2)), (0, .ref hY), (1, .int (nI q))]) hx hb dGY_leastShard_67 rfl hl (by decide) rfl (fun ls hl => ?_)
                  refine lv_iload_n hx hb dGY_leastShard_68 rfl (lv_at hl 0 rfl) ?_
                  refine hr_if_eq hx hb (x := 1) (by omega) (tgt := 76) dGY_leastShard_69 (by decide) (fun c_9 => ?_) (fun c_9 => ?_)
                  · exact absurd c_9 (by decide)
                  · refine lv_iload_n hx hb dGY_leastShard_72 rfl (lv_at hl 3 rfl) ?_
                    refine lv_goto (tgt := 77) hx hb dGY_leastShard_73 (by decide) ?_
                    rw [← hQe]
                    exact W.iret (v := nI q) hx hb hr (fun t ht hW => ⟨_, rfl, by rw [h2] at *; show _ = nI (if q < yc ∧ ym q = ym (lst ym (yc - 1)) then q else lst ym (yc - 1)); rw [if_pos ⟨by omega, by omega⟩], by rw [ht]⟩) (fun q h => by cases h) dGY_leastShard_77
      · have hm1 := hym i (by omega)
        have hm2 := hym s2 (by omega)
        refine lv_aload_n hx hb dGY_leastShard_12 rfl (lv_at hl 2 rfl) ?_
        refine va_get (D := (dC, dI)) (ci := 4) (v := .ref aY) (C := RGY) (T := TGY) (N := 2) hx hb hts (fun w h => List.mem_cons_of_mem _ (inGY w h)) hown hK hP 0 rfl rfl 1 (by decide) (hts _ (List.mem_cons_of_mem _ kw_154)) (fun _ h9 => h9) rfl dGY_leastShard_13 ?_
        refine lv_iload_n hx hb dGY_leastShard_16 rfl (lv_at hl 0 rfl) ?_
        refine hr_iald hx hb hK hP 1 0 rfl rfl (i := i) (by omega) (by omega) dGY_leastShard_17 ?_
        refine lv_aload_n hx hb dGY_leastShard_18 rfl (lv_at hl 2 rfl) ?_
        refine va_get (D := (dC, dI)) (ci := 4) (v := .ref aY) (C := RGY) (T := TGY) (N := 2) hx hb hts (fun w h => List.mem_cons_of_mem _ (inGY w h)) hown hK hP 0 rfl rfl 1 (by decide) (hts _ (List.mem_cons_of_mem _ kw_154)) (fun _ h9 => h9) rfl dGY_leastShard_19 ?_
        refine lv_iload_n hx hb dGY_leastShard_22 rfl (lv_at hl 1 rfl) ?_
        refine hr_iald hx hb hK hP 1 0 rfl rfl (i := s2) (by omega) (by omega) dGY_leastShard_23 ?_
        refine hr_icmp_ge hx hb (x := (ym i)) (y := (ym s2)) (by omega) (by omega) (tgt := 29) dGY_leastShard_24 (by decide) (fun c_10 => ?_) (fun c_10 => ?_)
        · refine lv_iinc (v := nI (i + 1)) (lv' := [(3, .int (nI (i + 1))), (2, .int (nI s2)), (0, .ref hY), (1, .int (oI o))]) hx hb dGY_leastShard_29 hl (k := 0) rfl (hr_inc _) (by decide) rfl (fun ls hl => ?_)
          refine lv_goto (tgt := 4) hx hb dGY_leastShard_32 (by decide) ?_
          exact ih_4 (i + 1) s2 (by omega) (by omega) (by rw [lst_keep hi1 (by rw [← h2]; omega)]; exact h2) (by omega) (by omega) ls (lv_sub hl [0, 1, 2, 3] rfl)
        · refine lv_iload_n hx hb dGY_leastShard_27 rfl (lv_at hl 0 rfl) ?_
          refine lv_istore_n (lv' := [(2, .int (nI i)), (3, .int (nI i)), (0, .ref hY), (1, .int (oI o))]) hx hb dGY_leastShard_28 rfl hl (by decide) rfl (fun ls hl => ?_)
          refine lv_iinc (v := nI (i + 1)) (lv' := [(3, .int (nI (i + 1))), (2, .int (nI i)), (0, .ref hY), (1, .int (oI o))]) hx hb dGY_leastShard_29 hl (k := 1) rfl (hr_inc _) (by decide) rfl (fun ls hl => ?_)
          refine lv_goto (tgt := 4) hx hb dGY_leastShard_32 (by decide) ?_
          exact ih_4 (i + 1) i (by omega) (by omega) (by rw [lst_take hi1 (by rw [← h2]; omega)]) (by omega) (by omega) ls (lv_sub hl [0, 1, 2, 3] rfl)
  exact loop_4 (yc + 1) 1 0 (by omega) (by omega) (rfl) (by omega) (by omega) ls (lv_sub hl [0, 1, 2, 3] rfl)
