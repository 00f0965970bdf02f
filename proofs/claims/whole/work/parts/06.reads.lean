set_option maxHeartbeats 4000000 in
set_option maxRecDepth 100000 in
/-- a TEST number -/
theorem c_SR_isTestNumber (l : Launch) (dC : Nat → ClassId) (dI : Nat → Nat → Nat) (cI cZ cG : ClassId) (x : Int32) : Met l ySR_isTestNumber wsSR_isTestNumber ({ frames := 0, cells := 0, slots := 0, locals := 0 }) (va_Pc [.int x] (fun U => va_P (dC, dI) vwCl [] U.heap ∧ KX dC dI cI cZ cG U)) (vp_Si (fun r => r = nI (inB x 24))) 0 0 (fun _ => False) := by
  refine Met.ofW (cc := cSR_isTestNumber) (maxL := 1) (ret := (some .boolean)) (by decide) rfl ?_
  intro p e s m args below meth c s₁ B hml hv
  obtain ⟨rfl, hP, hKX⟩ := hv
  have hK := hKX.1
  have hx := B.exec
  have hb := B.bytes
  have hr := B.returns
  have hts := atoms_spec (ws := wsSR_isTestNumber) B.pre
  have hown : s.vm.findClass RSR = some m.cls := findClass_of_methodNamed B.named
  have hlocks := B.notSynchronized
  have hl := lv_entry ([.int x]) (n := 1) (Nat.le_of_ble_eq_true rfl)
  rw [lg_entry_eq]
  generalize (lg_sl ([.int x]) ++ List.replicate (1 - (lg_sl ([.int x])).length) Slot.unset).toArray = ls at hl ⊢
  have hl : lv_has ls 1 [(0, .int x)] := hl
  generalize hRe : (headSpec wsSR_isTestNumber ({ frames := 0, cells := 0, slots := 0, locals := 0 })).room = R
  have hRf : 0 ≤ R.frames := by rw [← hRe]; exact Nat.le_refl _
  have hRl : 0 ≤ R.locals := by rw [← hRe]; exact Nat.le_refl _
  have hRc : 0 ≤ R.cells := by rw [← hRe]; exact Nat.le_refl _
  have hRs : 0 ≤ R.slots := by rw [← hRe]; exact Nat.le_refl _
  generalize hargs : (List.toArray [.int x] : Array Value) = args at hts ⊢
  generalize hQe : MQ below _ args s _ _ _ = Q
  refine lv_iload_n hx hb dSR_isTestNumber_0 rfl (lv_at hl 0 rfl) ?_
  refine lv_if_lt (tgt := 14) hx hb dSR_isTestNumber_1 (by decide) (fun c_1 => ?_) (fun c_1 => ?_)
  · refine lv_iconst (v := nI 0) hx hb dSR_isTestNumber_14 (by decide +kernel) ?_
    rw [← hQe]
    exact W.zret (ty := .boolean) (v := nI 0) hx hb hr (by decide +kernel) (fun t ht hW => ⟨_, rfl, by rw [inB_neg c_1], by rw [ht]⟩) (fun q h => by cases h) dSR_isTestNumber_15
  · refine lv_iload_n hx hb dSR_isTestNumber_4 rfl (lv_at hl 0 rfl) ?_
    refine lv_bipush (v := nI 24) hx hb dSR_isTestNumber_5 (by decide +kernel) ?_
    refine lv_icmp_ge (tgt := 14) hx hb dSR_isTestNumber_7 (by decide) (fun c_2 => ?_) (fun c_2 => ?_)
    · refine lv_iconst (v := nI 0) hx hb dSR_isTestNumber_14 (by decide +kernel) ?_
      rw [← hQe]
      exact W.zret (ty := .boolean) (v := nI 0) hx hb hr (by decide +kernel) (fun t ht hW => ⟨_, rfl, by rw [inB_big c_1 c_2], by rw [ht]⟩) (fun q h => by cases h) dSR_isTestNumber_15
    · refine lv_iconst (v := nI 1) hx hb dSR_isTestNumber_10 (by decide +kernel) ?_
      refine lv_goto (tgt := 15) hx hb dSR_isTestNumber_11 (by decide) ?_
      rw [← hQe]
      exact W.zret (ty := .boolean) (v := nI 1) hx hb hr (by decide +kernel) (fun t ht hW => ⟨_, rfl, by rw [inB_in c_1 c_2], by rw [ht]⟩) (fun q h => by cases h) dSR_isTestNumber_15

set_option maxHeartbeats 4000000 in
set_option maxRecDepth 100000 in
/-- is there such a SHARD -/
theorem c_SP_hasShard (l : Launch) (dC : Nat → ClassId) (dI : Nat → Nat → Nat) (cI cZ cG : ClassId) (h : Nat) (a : Nat) (b : Nat) (d : Nat) (sc : Nat) (mv : Nat) (sm : Nat → Nat) (zs : Nat → Nat) (sf : Nat → Option Nat) (x : Int32) (hsc : sc ≤ 4) : Met l ySP_hasShard wsSP_hasShard ({ frames := 0, cells := 0, slots := 0, locals := 0 }) (va_Pc [.ref h, .int x] (fun U => va_P (dC, dI) vwCl [(h, .inr (5, [.int (nI sc), .int (nI mv), .ref a, .ref b, .ref d])), (a, .inl (cI, 4, .inl (fun j9 => nI (sm j9)))), (b, .inl (cI, 4, .inl (fun j9 => nI (zs j9)))), (d, .inl (cI, 24, .inl (fun j9 => oI (sf j9))))] U.heap ∧ KX dC dI cI cZ cG U)) (vp_Si (fun r => r = nI (inB x sc))) 0 0 (fun _ => False) := by
  refine Met.ofW (cc := cSP_hasShard) (maxL := 2) (ret := (some .boolean)) (by decide) rfl ?_
  intro p e s m args below meth c s₁ B hml hv
  obtain ⟨rfl, hP, hKX⟩ := hv
  have hK := hKX.1
  have hx := B.exec
  have hb := B.bytes
  have hr := B.returns
  have hts := atoms_spec (ws := wsSP_hasShard) B.pre
  have hown : s.vm.findClass RSP = some m.cls := findClass_of_methodNamed B.named
  have hlocks := B.notSynchronized
  have hl := lv_entry ([.ref h, .int x]) (n := 2) (Nat.le_of_ble_eq_true rfl)
  rw [lg_entry_eq]
  generalize (lg_sl ([.ref h, .int x]) ++ List.replicate (2 - (lg_sl ([.ref h, .int x])).length) Slot.unset).toArray = ls at hl ⊢
  have hl : lv_has ls 2 [(0, .ref h), (1, .int x)] := hl
  generalize hRe : (headSpec wsSP_hasShard ({ frames := 0, cells := 0, slots := 0, locals := 0 })).room = R
  have hRf : 0 ≤ R.frames := by rw [← hRe]; exact Nat.le_refl _
  have hRl : 0 ≤ R.locals := by rw [← hRe]; exact Nat.le_refl _
  have hRc : 0 ≤ R.cells := by rw [← hRe]; exact Nat.le_refl _
  have hRs : 0 ≤ R.slots := by rw [← hRe]; exact Nat.le_refl _
  generalize hargs : (List.toArray [.ref h, .int x] : Array Value) = args at hts ⊢
  generalize hQe : MQ below _ args s _ _ _ = Q
  refine lv_iload_n hx hb dSP_hasShard_0 rfl (lv_at hl 1 rfl) ?_
  refine lv_if_lt (tgt := 16) hx hb dSP_hasShard_1 (by decide) (fun c_1 => ?_) (fun c_1 => ?_)
  · refine lv_iconst (v := nI 0) hx hb dSP_hasShard_16 (by decide +kernel) ?_
    rw [← hQe]
    exact W.zret (ty := .boolean) (v := nI 0) hx hb hr (by decide +kernel) (fun t ht hW => ⟨_, rfl, by rw [inB_neg c_1], by rw [ht]⟩) (fun q h => by cases h) dSP_hasShard_17
  · refine lv_iload_n hx hb dSP_hasShard_4 rfl (lv_at hl 1 rfl) ?_
    refine lv_aload_n hx hb dSP_hasShard_5 rfl (lv_at hl 0 rfl) ?_
    refine va_get (D := (dC, dI)) (ci := 5) (v := .int (nI sc)) (C := RSP) (T := TSP) (N := 5) hx hb hts (fun w h => List.mem_cons_of_mem _ (inSP w h)) hown hK hP 0 rfl rfl 0 (by decide) (hts _ (List.mem_cons_of_mem _ kw_169)) (fun _ h9 => h9) rfl dSP_hasShard_6 ?_
    refine lv_icmp_ge (tgt := 16) hx hb dSP_hasShard_9 (by decide) (fun c_2 => ?_) (fun c_2 => ?_)
    · refine lv_iconst (v := nI 0) hx hb dSP_hasShard_16 (by decide +kernel) ?_
      rw [← hQe]
      exact W.zret (ty := .boolean) (v := nI 0) hx hb hr (by decide +kernel) (fun t ht hW => ⟨_, rfl, by rw [inB_big c_1 c_2], by rw [ht]⟩) (fun q h => by cases h) dSP_hasShard_17
    · refine lv_iconst (v := nI 1) hx hb dSP_hasShard_12 (by decide +kernel) ?_
      refine lv_goto (tgt := 17) hx hb dSP_hasShard_13 (by decide) ?_
      rw [← hQe]
      exact W.zret (ty := .boolean) (v := nI 1) hx hb hr (by decide +kernel) (fun t ht hW => ⟨_, rfl, by rw [inB_in c_1 c_2], by rw [ht]⟩) (fun q h => by cases h) dSP_hasShard_17

set_option maxHeartbeats 4000000 in
set_option maxRecDepth 100000 in
/-- the SHARD of a TEST -/
theorem c_SP_shardAt (l : Launch) (dC : Nat → ClassId) (dI : Nat → Nat → Nat) (cI cZ cG : ClassId) (h : Nat) (a : Nat) (b : Nat) (d : Nat) (sc : Nat) (mv : Nat) (sm : Nat → Nat) (zs : Nat → Nat) (sf : Nat → Option Nat) (x : Int32) : Met l ySP_shardAt wsSP_shardAt ({ frames := 1, cells := 0, slots := 0, locals := 20 }) (va_Pc [.ref h, .int x] (fun U => va_P (dC, dI) vwCl [(h, .inr (5, [.int (nI sc), .int (nI mv), .ref a, .ref b, .ref d])), (a, .inl (cI, 4, .inl (fun j9 => nI (sm j9)))), (b, .inl (cI, 4, .inl (fun j9 => nI (zs j9)))), (d, .inl (cI, 24, .inl (fun j9 => oI (sf j9))))] U.heap ∧ KX dC dI cI cZ cG U)) (vp_Si (fun r => r = oI (shA sf x))) 0 0 (fun _ => False) := by
  refine Met.ofW (cc := cSP_shardAt) (maxL := 2) (ret := (some .int)) (by decide) rfl ?_
  intro p e s m args below meth c s₁ B hml hv
  obtain ⟨rfl, hP, hKX⟩ := hv
  have hK := hKX.1
  have hx := B.exec
  have hb := B.bytes
  have hr := B.returns
  have hts := atoms_spec (ws := wsSP_shardAt) B.pre
  have hown : s.vm.findClass RSP = some m.cls := findClass_of_methodNamed B.named
  have hlocks := B.notSynchronized
  have hl := lv_entry ([.ref h, .int x]) (n := 2) (Nat.le_of_ble_eq_true rfl)
  rw [lg_entry_eq]
  generalize (lg_sl ([.ref h, .int x]) ++ List.replicate (2 - (lg_sl ([.ref h, .int x])).length) Slot.unset).toArray = ls at hl ⊢
  have hl : lv_has ls 2 [(0, .ref h), (1, .int x)] := hl
  generalize hRe : (headSpec wsSP_shardAt ({ frames := 1, cells := 0, slots := 0, locals := 20 })).room = R
  have hRf : 1 ≤ R.frames := by rw [← hRe]; exact Nat.le_refl _
  have hRl : 20 ≤ R.locals := by rw [← hRe]; exact Nat.le_refl _
  have hRc : 0 ≤ R.cells := by rw [← hRe]; exact Nat.le_refl _
  have hRs : 0 ≤ R.slots := by rw [← hRe]; exact Nat.le_refl _
  generalize hargs : (List.toArray [.ref h, .int x] : Array Value) = args at hts ⊢
  generalize hQe : MQ below _ args s _ _ _ = Q
  refine lv_iload_n hx hb dSP_shardAt_0 rfl (lv_at hl 1 rfl) ?_
  refine vp_callSi (va_runSN (As := [.int x]) (rest := []) ⟨hx, hb, hml, hown, hts⟩ (c_SR_isTestNumber l dC dI cI cZ cG x) (hr_cnS 1 hts hKX.2.1 kw_338 kw_23 kw_339 (by decide +kernel) (by rw [← hRe]; exact ⟨Nat.le_of_ble_eq_true rfl, Nat.le_of_ble_eq_true rfl⟩)) (hr_preRS hKX hP [] rfl) rfl rfl hl.1 rfl (lv_room (Nat.le_of_ble_eq_true rfl)) dSP_shardAt_1 ⟨by omega, by omega⟩).run (fun rv hrv => ?_)
  refine hr_eqi hrv ?_
  have hb0 := inB_lt x 24
  refine hr_if_eq hx hb (x := inB x 24) (by omega) (tgt := 16) dSP_shardAt_4 (by decide) (fun c_1 => ?_) (fun c_1 => ?_)
  · refine lv_iconst (v := (-1)) hx hb dSP_shardAt_16 (by decide +kernel) ?_
    rw [← hQe]
    exact W.iret (v := (-1)) hx hb hr (fun t ht hW => ⟨_, rfl, by rw [shA_out c_1]; rfl, by rw [ht]⟩) (fun q h => by cases h) dSP_shardAt_17
  · obtain ⟨j, hj, rfl⟩ := inB_pos (by decide) c_1
    refine lv_aload_n hx hb dSP_shardAt_7 rfl (lv_at hl 0 rfl) ?_
    refine va_get (D := (dC, dI)) (ci := 5) (v := .ref d) (C := RSP) (T := TSP) (N := 5) hx hb hts (fun w h => List.mem_cons_of_mem _ (inSP w h)) hown hK hP 0 rfl rfl 4 (by decide) (hts _ (List.mem_cons_of_mem _ kw_177)) (fun _ h9 => h9) rfl dSP_shardAt_8 ?_
    refine lv_iload_n hx hb dSP_shardAt_11 rfl (lv_at hl 1 rfl) ?_
    refine hr_iald hx hb hK hP 3 0 rfl rfl (i := j) (by omega) (by omega) dSP_shardAt_12 ?_
    refine lv_goto (tgt := 17) hx hb dSP_shardAt_13 (by decide) ?_
    rw [← hQe]
    exact W.iret (v := oI (sf j)) hx hb hr (fun t ht hW => ⟨_, rfl, by rw [shA_nI hj], by rw [ht]⟩) (fun q h => by cases h) dSP_shardAt_17

set_option maxHeartbeats 4000000 in
set_option maxRecDepth 100000 in
/-- the LENGTH -/
theorem c_SP_longest (l : Launch) (dC : Nat → ClassId) (dI : Nat → Nat → Nat) (cI cZ cG : ClassId) (h : Nat) (a : Nat) (b : Nat) (d : Nat) (sc : Nat) (mv : Nat) (sm : Nat → Nat) (zs : Nat → Nat) (sf : Nat → Option Nat) (hsc : sc ≤ 4) (hsm : ∀ j, j < 4 → sm j ≤ 2400000) : Met l ySP_longest wsSP_longest ({ frames := 1, cells := 0, slots := 0, locals := 15 }) (va_Pc [.ref h] (fun U => va_P (dC, dI) vwCl [(h, .inr (5, [.int (nI sc), .int (nI mv), .ref a, .ref b, .ref d])), (a, .inl (cI, 4, .inl (fun j9 => nI (sm j9)))), (b, .inl (cI, 4, .inl (fun j9 => nI (zs j9)))), (d, .inl (cI, 24, .inl (fun j9 => oI (sf j9))))] U.heap ∧ KX dC dI cI cZ cG U)) (vp_Si (fun r => r = nI (maxS sm sc))) 0 0 (fun _ => False) := by
  refine Met.ofW (cc := cSP_longest) (maxL := 3) (ret := (some .int)) (by decide) rfl ?_
  intro p e s m args below meth c s₁ B hml hv
  obtain ⟨rfl, hP, hKX⟩ := hv
  have hK := hKX.1
  have hx := B.exec
  have hb := B.bytes
  have hr := B.returns
  have hts := atoms_spec (ws := wsSP_longest) B.pre
  have hown : s.vm.findClass RSP = some m.cls := findClass_of_methodNamed B.named
  have hlocks := B.notSynchronized
  have hl := lv_entry ([.ref h]) (n := 3) (Nat.le_of_ble_eq_true rfl)
  rw [lg_entry_eq]
  generalize (lg_sl ([.ref h]) ++ List.replicate (3 - (lg_sl ([.ref h])).length) Slot.unset).toArray = ls at hl ⊢
  have hl : lv_has ls 3 [(0, .ref h)] := hl
  generalize hRe : (headSpec wsSP_longest ({ frames := 1, cells := 0, slots := 0, locals := 15 })).room = R
  have hRf : 1 ≤ R.frames := by rw [← hRe]; exact Nat.le_refl _
  have hRl : 15 ≤ R.locals := by rw [← hRe]; exact Nat.le_refl _
  have hRc : 0 ≤ R.cells := by rw [← hRe]; exact Nat.le_refl _
  have hRs : 0 ≤ R.slots := by rw [← hRe]; exact Nat.le_refl _
  generalize hargs : (List.toArray [.ref h] : Array Value) = args at hts ⊢
  generalize hQe : MQ below _ args s _ _ _ = Q
  refine lv_iconst (v := nI 0) hx hb dSP_longest_0 (by decide +kernel) ?_
  refine lv_istore_n (lv' := [(1, .int (nI 0)), (0, .ref h)]) hx hb dSP_longest_1 rfl hl (by decide) rfl (fun ls hl => ?_)
  refine lv_iconst (v := nI 0) hx hb dSP_longest_2 (by decide +kernel) ?_
  refine lv_istore_n (lv' := [(2, .int (nI 0)), (1, .int (nI 0)), (0, .ref h)]) hx hb dSP_longest_3 rfl hl (by decide) rfl (fun ls hl => ?_)
  have loop_4 : ∀ (n9 : Nat) (i : Nat) (s1 : Nat), i ≤ sc → s1 = maxS sm i → sc + 1 ≤ i + n9 → ∀ (ls : Array Slot), lv_has ls 3 [(2, .int (nI i)), (1, .int (nI s1)), (0, .ref h)] → W p l e R s m args below meth c s.heap [] 0 0 Q (F0 m 4 ls []) := by
    intro n9
    induction n9 with
    | zero =>
      intro i s1 hi h1 hmeas
      exact absurd hmeas (by omega)
    | succ n9 ih_4 =>
      intro i s1 hi h1 hmeas ls hl
      have hm := maxS_le (f := sm) (B := 2400000) (i := i) (fun j hj => hsm j (by omega))
      refine lv_iload_n hx hb dSP_longest_4 rfl (lv_at hl 0 rfl) ?_
      refine lv_aload_n hx hb dSP_longest_5 rfl (lv_at hl 2 rfl) ?_
      refine va_get (D := (dC, dI)) (ci := 5) (v := .int (nI sc)) (C := RSP) (T := TSP) (N := 5) hx hb hts (fun w h => List.mem_cons_of_mem _ (inSP w h)) hown hK hP 0 rfl rfl 0 (by decide) (hts _ (List.mem_cons_of_mem _ kw_169)) (fun _ h9 => h9) rfl dSP_longest_6 ?_
      refine hr_icmp_ge hx hb (x := i) (y := sc) (by omega) (by omega) (tgt := 29) dSP_longest_9 (by decide) (fun c_1 => ?_) (fun c_1 => ?_)
      · have ei : i = sc := by omega
        subst ei
        refine lv_iload_n hx hb dSP_longest_29 rfl (lv_at hl 1 rfl) ?_
        rw [← hQe]
        exact W.iret (v := nI s1) hx hb hr (fun t ht hW => ⟨_, rfl, by rw [h1], by rw [ht]⟩) (fun q h => by cases h) dSP_longest_30
      · have hm1 := hsm i (by omega)
        refine lv_iload_n hx hb dSP_longest_12 rfl (lv_at hl 1 rfl) ?_
        refine lv_aload_n hx hb dSP_longest_13 rfl (lv_at hl 2 rfl) ?_
        refine va_get (D := (dC, dI)) (ci := 5) (v := .ref a) (C := RSP) (T := TSP) (N := 5) hx hb hts (fun w h => List.mem_cons_of_mem _ (inSP w h)) hown hK hP 0 rfl rfl 2 (by decide) (hts _ (List.mem_cons_of_mem _ kw_173)) (fun _ h9 => h9) rfl dSP_longest_14 ?_
        refine lv_iload_n hx hb dSP_longest_17 rfl (lv_at hl 0 rfl) ?_
        refine hr_iald hx hb hK hP 1 0 rfl rfl (i := i) (by omega) (by omega) dSP_longest_18 ?_
        refine va_mmax (rest := []) hx hb (by rw [hml]; exact hl.1.symm) hown (hts (.methodLink RSP 35 Lib.Math.max.name) (by decide +kernel)) (hts (.static Lib.Math.max.name) (by decide +kernel)) (hts (.initialized "java/lang/Math") (by decide +kernel)) (hts (.code Lib.Math.max.name Lib.Math.max.code 2 (some .int)) (by decide +kernel)) (Nat.le_trans (Nat.le_of_ble_eq_true rfl) hRf) (Nat.le_trans (Nat.le_of_ble_eq_true rfl) hRl) (Nat.zero_le _) (Nat.zero_le _) dSP_longest_19 ?_
        refine hr_eqi (hr_max (by omega) (by omega)) ?_
        refine lv_istore_n (lv' := [(1, .int (nI (max s1 (sm i)))), (2, .int (nI i)), (0, .ref h)]) hx hb dSP_longest_22 rfl hl (by decide) rfl (fun ls hl => ?_)
        refine lv_iinc (v := nI (i + 1)) (lv' := [(2, .int (nI (i + 1))), (1, .int (nI (max s1 (sm i)))), (0, .ref h)]) hx hb dSP_longest_23 hl (k := 1) rfl (hr_inc _) (by decide) rfl (fun ls hl => ?_)
        refine lv_goto (tgt := 4) hx hb dSP_longest_26 (by decide) ?_
        exact ih_4 (i + 1) (max s1 (sm i)) (by omega) (by rw [h1]; rfl) (by omega) ls (lv_sub hl [0, 1, 2] rfl)
  exact loop_4 (sc + 1) 0 0 (by omega) (rfl) (by omega) ls (lv_sub hl [0, 1, 2] rfl)

set_option maxHeartbeats 4000000 in
set_option maxRecDepth 100000 in
/-- has a TEST a RESULT -/
theorem c_RR_has (l : Launch) (dC : Nat → ClassId) (dI : Nat → Nat → Nat) (cI cZ cG : ClassId) (h : Nat) (a : Nat) (b : Nat) (d : Nat) (sg : Nat) (pr : Nat → Nat) (vs : Nat → Int32) (tc : Nat → Nat) (x : Int32) (hpr : ∀ j, j < 24 → pr j < 2) : Met l yRR_has wsRR_has ({ frames := 1, cells := 0, slots := 0, locals := 20 }) (va_Pc [.ref h, .int x] (fun U => va_P (dC, dI) vwCl [(h, .inr (3, [.int (nI sg), .ref a, .ref b, .ref d])), (a, .inl (cZ, 24, .inl (fun j9 => nI (pr j9)))), (b, .inl (cI, 24, .inl vs)), (d, .inl (cI, 24, .inl (fun j9 => nI (tc j9))))] U.heap ∧ KX dC dI cI cZ cG U)) (vp_Si (fun r => r = nI (hasB pr x))) 0 0 (fun _ => False) := by
  refine Met.ofW (cc := cRR_has) (maxL := 2) (ret := (some .boolean)) (by decide) rfl ?_
  intro p e s m args below meth c s₁ B hml hv
  obtain ⟨rfl, hP, hKX⟩ := hv
  have hK := hKX.1
  have hx := B.exec
  have hb := B.bytes
  have hr := B.returns
  have hts := atoms_spec (ws := wsRR_has) B.pre
  have hown : s.vm.findClass RRR = some m.cls := findClass_of_methodNamed B.named
  have hlocks := B.notSynchronized
  have hl := lv_entry ([.ref h, .int x]) (n := 2) (Nat.le_of_ble_eq_true rfl)
  rw [lg_entry_eq]
  generalize (lg_sl ([.ref h, .int x]) ++ List.replicate (2 - (lg_sl ([.ref h, .int x])).length) Slot.unset).toArray = ls at hl ⊢
  have hl : lv_has ls 2 [(0, .ref h), (1, .int x)] := hl
  generalize hRe : (headSpec wsRR_has ({ frames := 1, cells := 0, slots := 0, locals := 20 })).room = R
  have hRf : 1 ≤ R.frames := by rw [← hRe]; exact Nat.le_refl _
  have hRl : 20 ≤ R.locals := by rw [← hRe]; exact Nat.le_refl _
  have hRc : 0 ≤ R.cells := by rw [← hRe]; exact Nat.le_refl _
  have hRs : 0 ≤ R.slots := by rw [← hRe]; exact Nat.le_refl _
  generalize hargs : (List.toArray [.ref h, .int x] : Array Value) = args at hts ⊢
  generalize hQe : MQ below _ args s _ _ _ = Q
  refine lv_iload_n hx hb dRR_has_0 rfl (lv_at hl 1 rfl) ?_
  refine vp_callSi (va_runSN (As := [.int x]) (rest := []) ⟨hx, hb, hml, hown, hts⟩ (c_SR_isTestNumber l dC dI cI cZ cG x) (hr_cnS 1 hts hKX.2.2 kw_338 kw_23 kw_339 (by decide +kernel) (by rw [← hRe]; exact ⟨Nat.le_of_ble_eq_true rfl, Nat.le_of_ble_eq_true rfl⟩)) (hr_preRS hKX hP [] rfl) rfl rfl hl.1 rfl (lv_room (Nat.le_of_ble_eq_true rfl)) dRR_has_1 ⟨by omega, by omega⟩).run (fun rv hrv => ?_)
  refine hr_eqi hrv ?_
  have hb0 := inB_lt x 24
  refine hr_if_eq hx hb (x := inB x 24) (by omega) (tgt := 20) dRR_has_4 (by decide) (fun c_1 => ?_) (fun c_1 => ?_)
  · refine lv_iconst (v := nI 0) hx hb dRR_has_20 (by decide +kernel) ?_
    rw [← hQe]
    exact W.zret (ty := .boolean) (v := nI 0) hx hb hr (by decide +kernel) (fun t ht hW => ⟨_, rfl, by rw [hasB_out c_1], by rw [ht]⟩) (fun q h => by cases h) dRR_has_21
  · obtain ⟨j, hj, rfl⟩ := inB_pos (by decide) c_1
    have hpj := hpr j hj
    refine lv_aload_n hx hb dRR_has_7 rfl (lv_at hl 0 rfl) ?_
    refine va_get (D := (dC, dI)) (ci := 3) (v := .ref a) (C := RRR) (T := TRR) (N := 4) hx hb hts (fun w h => List.mem_cons_of_mem _ (inRR w h)) hown hK hP 0 rfl rfl 1 (by decide) (hts _ (List.mem_cons_of_mem _ kw_197)) (fun _ h9 => h9) rfl dRR_has_8 ?_
    refine lv_iload_n hx hb dRR_has_11 rfl (lv_at hl 1 rfl) ?_
    refine hr_zald hx hb hK hP 1 1 rfl rfl (i := j) (by omega) (by omega) dRR_has_12 ?_
    refine hr_if_eq hx hb (x := (pr j)) (by omega) (tgt := 20) dRR_has_13 (by decide) (fun c_2 => ?_) (fun c_2 => ?_)
    · refine lv_iconst (v := nI 0) hx hb dRR_has_20 (by decide +kernel) ?_
      rw [← hQe]
      exact W.zret (ty := .boolean) (v := nI 0) hx hb hr (by decide +kernel) (fun t ht hW => ⟨_, rfl, by rw [hasB_nI hj]; exact congrArg nI (by omega), by rw [ht]⟩) (fun q h => by cases h) dRR_has_21
    · refine lv_iconst (v := nI 1) hx hb dRR_has_16 (by decide +kernel) ?_
      refine lv_goto (tgt := 21) hx hb dRR_has_17 (by decide) ?_
      rw [← hQe]
      exact W.zret (ty := .boolean) (v := nI 1) hx hb hr (by decide +kernel) (fun t ht hW => ⟨_, rfl, by rw [hasB_nI hj]; exact congrArg nI (by omega), by rw [ht]⟩) (fun q h => by cases h) dRR_has_21

set_option maxHeartbeats 4000000 in
set_option maxRecDepth 100000 in
/-- how many TRIES -/
theorem c_RR_triesOf (l : Launch) (dC : Nat → ClassId) (dI : Nat → Nat → Nat) (cI cZ cG : ClassId) (h : Nat) (a : Nat) (b : Nat) (d : Nat) (sg : Nat) (pr : Nat → Nat) (vs : Nat → Int32) (tc : Nat → Nat) (x : Int32) : Met l yRR_triesOf wsRR_triesOf ({ frames := 1, cells := 0, slots := 0, locals := 20 }) (va_Pc [.ref h, .int x] (fun U => va_P (dC, dI) vwCl [(h, .inr (3, [.int (nI sg), .ref a, .ref b, .ref d])), (a, .inl (cZ, 24, .inl (fun j9 => nI (pr j9)))), (b, .inl (cI, 24, .inl vs)), (d, .inl (cI, 24, .inl (fun j9 => nI (tc j9))))] U.heap ∧ KX dC dI cI cZ cG U)) (vp_Si (fun r => r = nI (hasB tc x))) 0 0 (fun _ => False) := by
  refine Met.ofW (cc := cRR_triesOf) (maxL := 2) (ret := (some .int)) (by decide) rfl ?_
  intro p e s m args below meth c s₁ B hml hv
  obtain ⟨rfl, hP, hKX⟩ := hv
  have hK := hKX.1
  have hx := B.exec
  have hb := B.bytes
  have hr := B.returns
  have hts := atoms_spec (ws := wsRR_triesOf) B.pre
  have hown : s.vm.findClass RRR = some m.cls := findClass_of_methodNamed B.named
  have hlocks := B.notSynchronized
  have hl := lv_entry ([.ref h, .int x]) (n := 2) (Nat.le_of_ble_eq_true rfl)
  rw [lg_entry_eq]
  generalize (lg_sl ([.ref h, .int x]) ++ List.replicate (2 - (lg_sl ([.ref h, .int x])).length) Slot.unset).toArray = ls at hl ⊢
  have hl : lv_has ls 2 [(0, .ref h), (1, .int x)] := hl
  generalize hRe : (headSpec wsRR_triesOf ({ frames := 1, cells := 0, slots := 0, locals := 20 })).room = R
  have hRf : 1 ≤ R.frames := by rw [← hRe]; exact Nat.le_refl _
  have hRl : 20 ≤ R.locals := by rw [← hRe]; exact Nat.le_refl _
  have hRc : 0 ≤ R.cells := by rw [← hRe]; exact Nat.le_refl _
  have hRs : 0 ≤ R.slots := by rw [← hRe]; exact Nat.le_refl _
  generalize hargs : (List.toArray [.ref h, .int x] : Array Value) = args at hts ⊢
  generalize hQe : MQ below _ args s _ _ _ = Q
  refine lv_iload_n hx hb dRR_triesOf_0 rfl (lv_at hl 1 rfl) ?_
  refine vp_callSi (va_runSN (As := [.int x]) (rest := []) ⟨hx, hb, hml, hown, hts⟩ (c_SR_isTestNumber l dC dI cI cZ cG x) (hr_cnS 1 hts hKX.2.2 kw_338 kw_23 kw_339 (by decide +kernel) (by rw [← hRe]; exact ⟨Nat.le_of_ble_eq_true rfl, Nat.le_of_ble_eq_true rfl⟩)) (hr_preRS hKX hP [] rfl) rfl rfl hl.1 rfl (lv_room (Nat.le_of_ble_eq_true rfl)) dRR_triesOf_1 ⟨by omega, by omega⟩).run (fun rv hrv => ?_)
  refine hr_eqi hrv ?_
  have hb0 := inB_lt x 24
  refine hr_if_eq hx hb (x := inB x 24) (by omega) (tgt := 16) dRR_triesOf_4 (by decide) (fun c_1 => ?_) (fun c_1 => ?_)
  · refine lv_iconst (v := nI 0) hx hb dRR_triesOf_16 (by decide +kernel) ?_
    rw [← hQe]
    exact W.iret (v := nI 0) hx hb hr (fun t ht hW => ⟨_, rfl, by rw [hasB_out c_1], by rw [ht]⟩) (fun q h => by cases h) dRR_triesOf_17
  · obtain ⟨j, hj, rfl⟩ := inB_pos (by decide) c_1
    refine lv_aload_n hx hb dRR_triesOf_7 rfl (lv_at hl 0 rfl) ?_
    refine va_get (D := (dC, dI)) (ci := 3) (v := .ref d) (C := RRR) (T := TRR) (N := 4) hx hb hts (fun w h => List.mem_cons_of_mem _ (inRR w h)) hown hK hP 0 rfl rfl 3 (by decide) (hts _ (List.mem_cons_of_mem _ kw_199)) (fun _ h9 => h9) rfl dRR_triesOf_8 ?_
    refine lv_iload_n hx hb dRR_triesOf_11 rfl (lv_at hl 1 rfl) ?_
    refine hr_iald hx hb hK hP 3 0 rfl rfl (i := j) (by omega) (by omega) dRR_triesOf_12 ?_
    refine lv_goto (tgt := 17) hx hb dRR_triesOf_13 (by decide) ?_
    rw [← hQe]
    exact W.iret (v := nI (tc j)) hx hb hr (fun t ht hW => ⟨_, rfl, by rw [hasB_nI hj], by rw [ht]⟩) (fun q h => by cases h) dRR_triesOf_17

set_option maxHeartbeats 4000000 in
set_option maxRecDepth 100000 in
/-- a RESULT that is not good -/
theorem c_RR_isBad (l : Launch) (dC : Nat → ClassId) (dI : Nat → Nat → Nat) (cI cZ cG : ClassId) (h : Nat) (a : Nat) (b : Nat) (d : Nat) (sg : Nat) (pr : Nat → Nat) (vs : Nat → Int32) (tc : Nat → Nat) (x : Int32) (hpr : ∀ j, j < 24 → pr j < 2) : Met l yRR_isBad wsRR_isBad ({ frames := 2, cells := 0, slots := 0, locals := 41 }) (va_Pc [.ref h, .int x] (fun U => va_P (dC, dI) vwCl [(h, .inr (3, [.int (nI sg), .ref a, .ref b, .ref d])), (a, .inl (cZ, 24, .inl (fun j9 => nI (pr j9)))), (b, .inl (cI, 24, .inl vs)), (d, .inl (cI, 24, .inl (fun j9 => nI (tc j9))))] U.heap ∧ KX dC dI cI cZ cG U)) (vp_Si (fun r => r = nI (badB pr vs x))) 0 0 (fun _ => False) := by
  refine Met.ofW (cc := cRR_isBad) (maxL := 2) (ret := (some .boolean)) (by decide) rfl ?_
  intro p e s m args below meth c s₁ B hml hv
  obtain ⟨rfl, hP, hKX⟩ := hv
  have hK := hKX.1
  have hx := B.exec
  have hb := B.bytes
  have hr := B.returns
  have hts := atoms_spec (ws := wsRR_isBad) B.pre
  have hown : s.vm.findClass RRR = some m.cls := findClass_of_methodNamed B.named
  have hlocks := B.notSynchronized
  have hl := lv_entry ([.ref h, .int x]) (n := 2) (Nat.le_of_ble_eq_true rfl)
  rw [lg_entry_eq]
  generalize (lg_sl ([.ref h, .int x]) ++ List.replicate (2 - (lg_sl ([.ref h, .int x])).length) Slot.unset).toArray = ls at hl ⊢
  have hl : lv_has ls 2 [(0, .ref h), (1, .int x)] := hl
  generalize hRe : (headSpec wsRR_isBad ({ frames := 2, cells := 0, slots := 0, locals := 41 })).room = R
  have hRf : 2 ≤ R.frames := by rw [← hRe]; exact Nat.le_refl _
  have hRl : 41 ≤ R.locals := by rw [← hRe]; exact Nat.le_refl _
  have hRc : 0 ≤ R.cells := by rw [← hRe]; exact Nat.le_refl _
  have hRs : 0 ≤ R.slots := by rw [← hRe]; exact Nat.le_refl _
  generalize hargs : (List.toArray [.ref h, .int x] : Array Value) = args at hts ⊢
  generalize hQe : MQ below _ args s _ _ _ = Q
  refine lv_aload_n hx hb dRR_isBad_0 rfl (lv_at hl 0 rfl) ?_
  refine lv_iload_n hx hb dRR_isBad_1 rfl (lv_at hl 1 rfl) ?_
  refine vp_callSi (va_runV (C := RRR) (As := [.int x]) (rest := []) ⟨hx, hb, hml, hown, hts⟩ (c_RR_has l dC dI cI cZ cG h a b d sg pr vs tc x (hpr)) (hr_cwV 1 hts kw_466 kw_467 kw_468 kw_31 kw_469 (by decide +kernel) (by rw [← hRe]; exact ⟨Nat.le_of_ble_eq_true rfl, Nat.le_of_ble_eq_true rfl⟩)) (hr_preR hKX hP [0, 1, 2, 3] rfl (ci := 3) (q0 := 0) (q := (RRR, TRR, 4)) rfl rfl) rfl rfl hl.1 rfl (lv_room (Nat.le_of_ble_eq_true rfl)) dRR_isBad_2 ⟨by omega, by omega⟩).run (fun rv hrv => ?_)
  refine hr_eqi hrv ?_
  have hb0 : hasB pr x < 2 := by
    unfold hasB
    split
    · decide
    · exact hpr _ (by obtain ⟨j, hj, rfl⟩ := inB_pos (x := x) (n := 24) (by decide) (by assumption); rw [nI_clamp (by omega)]; exact hj)
  refine hr_if_eq hx hb (x := hasB pr x) (by omega) (tgt := 21) dRR_isBad_5 (by decide) (fun c_1 => ?_) (fun c_1 => ?_)
  · refine lv_iconst (v := nI 0) hx hb dRR_isBad_21 (by decide +kernel) ?_
    rw [← hQe]
    exact W.zret (ty := .boolean) (v := nI 0) hx hb hr (by decide +kernel) (fun t ht hW => ⟨_, rfl, by
        by_cases hin : inB x 24 = 0
        · rw [badB_out hin]
        · obtain ⟨j, hj, rfl⟩ := inB_pos (by decide) hin
          rw [hasB_nI hj] at c_1
          rw [badB_nI hj, if_pos c_1], by rw [ht]⟩) (fun q h => by cases h) dRR_isBad_22
  · have hin : ¬ inB x 24 = 0 := fun q => c_1 (by rw [hasB_out q])
    obtain ⟨j, hj, rfl⟩ := inB_pos (by decide) hin
    rw [hasB_nI hj] at c_1
    refine lv_aload_n hx hb dRR_isBad_8 rfl (lv_at hl 0 rfl) ?_
    refine va_get (D := (dC, dI)) (ci := 3) (v := .ref b) (C := RRR) (T := TRR) (N := 4) hx hb hts (fun w h => List.mem_cons_of_mem _ (inRR w h)) hown hK hP 0 rfl rfl 2 (by decide) (hts _ (List.mem_cons_of_mem _ kw_198)) (fun _ h9 => h9) rfl dRR_isBad_9 ?_
    refine lv_iload_n hx hb dRR_isBad_12 rfl (lv_at hl 1 rfl) ?_
    refine hr_iald hx hb hK hP 2 0 rfl rfl (i := j) (by omega) (by omega) dRR_isBad_13 ?_
    refine lv_if_eq (tgt := 21) hx hb dRR_isBad_14 (by decide) (fun c_2 => ?_) (fun c_2 => ?_)
    · refine lv_iconst (v := nI 0) hx hb dRR_isBad_21 (by decide +kernel) ?_
      rw [← hQe]
      exact W.zret (ty := .boolean) (v := nI 0) hx hb hr (by decide +kernel) (fun t ht hW => ⟨_, rfl, by rw [badB_nI hj, if_neg c_1, if_pos c_2], by rw [ht]⟩) (fun q h => by cases h) dRR_isBad_22
    · refine lv_iconst (v := nI 1) hx hb dRR_isBad_17 (by decide +kernel) ?_
      refine lv_goto (tgt := 22) hx hb dRR_isBad_18 (by decide) ?_
      rw [← hQe]
      exact W.zret (ty := .boolean) (v := nI 1) hx hb hr (by decide +kernel) (fun t ht hW => ⟨_, rfl, by rw [badB_nI hj, if_neg c_1, if_neg c_2], by rw [ht]⟩) (fun q h => by cases h) dRR_isBad_22

set_option maxHeartbeats 4000000 in
set_option maxRecDepth 100000 in
/-- is some RESULT not good -/
theorem c_RR_anyBad (l : Launch) (dC : Nat → ClassId) (dI : Nat → Nat → Nat) (cI cZ cG : ClassId) (h : Nat) (a : Nat) (b : Nat) (d : Nat) (sg : Nat) (pr : Nat → Nat) (vs : Nat → Int32) (tc : Nat → Nat) (hpr : ∀ j, j < 24 → pr j < 2) : Met l yRR_anyBad wsRR_anyBad ({ frames := 3, cells := 0, slots := 0, locals := 62 }) (va_Pc [.ref h] (fun U => va_P (dC, dI) vwCl [(h, .inr (3, [.int (nI sg), .ref a, .ref b, .ref d])), (a, .inl (cZ, 24, .inl (fun j9 => nI (pr j9)))), (b, .inl (cI, 24, .inl vs)), (d, .inl (cI, 24, .inl (fun j9 => nI (tc j9))))] U.heap ∧ KX dC dI cI cZ cG U)) (vp_Si (fun r => r = nI (anyB pr vs 24))) 0 0 (fun _ => False) := by
  refine Met.ofW (cc := cRR_anyBad) (maxL := 2) (ret := (some .boolean)) (by decide) rfl ?_
  intro p e s m args below meth c s₁ B hml hv
  obtain ⟨rfl, hP, hKX⟩ := hv
  have hK := hKX.1
  have hx := B.exec
  have hb := B.bytes
  have hr := B.returns
  have hts := atoms_spec (ws := wsRR_anyBad) B.pre
  have hown : s.vm.findClass RRR = some m.cls := findClass_of_methodNamed B.named
  have hlocks := B.notSynchronized
  have hl := lv_entry ([.ref h]) (n := 2) (Nat.le_of_ble_eq_true rfl)
  rw [lg_entry_eq]
  generalize (lg_sl ([.ref h]) ++ List.replicate (2 - (lg_sl ([.ref h])).length) Slot.unset).toArray = ls at hl ⊢
  have hl : lv_has ls 2 [(0, .ref h)] := hl
  generalize hRe : (headSpec wsRR_anyBad ({ frames := 3, cells := 0, slots := 0, locals := 62 })).room = R
  have hRf : 3 ≤ R.frames := by rw [← hRe]; exact Nat.le_refl _
  have hRl : 62 ≤ R.locals := by rw [← hRe]; exact Nat.le_refl _
  have hRc : 0 ≤ R.cells := by rw [← hRe]; exact Nat.le_refl _
  have hRs : 0 ≤ R.slots := by rw [← hRe]; exact Nat.le_refl _
  generalize hargs : (List.toArray [.ref h] : Array Value) = args at hts ⊢
  generalize hQe : MQ below _ args s _ _ _ = Q
  refine lv_iconst (v := nI 0) hx hb dRR_anyBad_0 (by decide +kernel) ?_
  refine lv_istore_n (lv' := [(1, .int (nI 0)), (0, .ref h)]) hx hb dRR_anyBad_1 rfl hl (by decide) rfl (fun ls hl => ?_)
  have loop_2 : ∀ (n9 : Nat) (i : Nat), i ≤ 24 → anyB pr vs i = 0 → 24 + 1 ≤ i + n9 → ∀ (ls : Array Slot), lv_has ls 2 [(1, .int (nI i)), (0, .ref h)] → W p l e R s m args below meth c s.heap [] 0 0 Q (F0 m 2 ls []) := by
    intro n9
    induction n9 with
    | zero =>
      intro i hi h1 hmeas
      exact absurd hmeas (by omega)
    | succ n9 ih_2 =>
      intro i hi h1 hmeas ls hl
      refine lv_iload_n hx hb dRR_anyBad_2 rfl (lv_at hl 0 rfl) ?_
      refine lv_bipush (v := nI 24) hx hb dRR_anyBad_3 (by decide +kernel) ?_
      refine hr_icmp_ge hx hb (x := i) (y := 24) (by omega) (by omega) (tgt := 24) dRR_anyBad_5 (by decide) (fun c_1 => ?_) (fun c_1 => ?_)
      · have ei : i = 24 := by omega
        subst ei
        refine lv_iconst (v := nI 0) hx hb dRR_anyBad_24 (by decide +kernel) ?_
        rw [← hQe]
        exact W.zret (ty := .boolean) (v := nI 0) hx hb hr (by decide +kernel) (fun t ht hW => ⟨_, rfl, by rw [h1], by rw [ht]⟩) (fun q h => by cases h) dRR_anyBad_25
      · refine lv_aload_n hx hb dRR_anyBad_8 rfl (lv_at hl 1 rfl) ?_
        refine lv_iload_n hx hb dRR_anyBad_9 rfl (lv_at hl 0 rfl) ?_
        refine vp_callSi (va_runV (C := RRR) (As := [.int (nI i)]) (rest := []) ⟨hx, hb, hml, hown, hts⟩ (c_RR_isBad l dC dI cI cZ cG h a b d sg pr vs tc (nI i) (hpr)) (hr_cwV 1 hts kw_462 kw_464 kw_9 kw_31 kw_465 (by decide +kernel) (by rw [← hRe]; exact ⟨Nat.le_of_ble_eq_true rfl, Nat.le_of_ble_eq_true rfl⟩)) (hr_preR hKX hP [0, 1, 2, 3] rfl (ci := 3) (q0 := 0) (q := (RRR, TRR, 4)) rfl rfl) rfl rfl hl.1 rfl (lv_room (Nat.le_of_ble_eq_true rfl)) dRR_anyBad_10 ⟨by omega, by omega⟩).run (fun rv hrv => ?_)
        refine hr_eqi hrv ?_
        have hb0 := badB_lt pr vs (nI i)
        refine hr_if_eq hx hb (x := badB pr vs (nI i)) (by omega) (tgt := 18) dRR_anyBad_13 (by decide) (fun c_2 => ?_) (fun c_2 => ?_)
        · refine lv_iinc (v := nI (i + 1)) (lv' := [(1, .int (nI (i + 1))), (0, .ref h)]) hx hb dRR_anyBad_18 hl (k := 0) rfl (hr_inc _) (by decide) rfl (fun ls hl => ?_)
          refine lv_goto (tgt := 2) hx hb dRR_anyBad_21 (by decide) ?_
          exact ih_2 (i + 1) (by omega) (by rw [anyB, if_pos c_2]; exact h1) (by omega) ls (lv_sub hl [0, 1] rfl)
        · refine lv_iconst (v := nI 1) hx hb dRR_anyBad_16 (by decide +kernel) ?_
          rw [← hQe]
          exact W.zret (ty := .boolean) (v := nI 1) hx hb hr (by decide +kernel) (fun t ht hW => ⟨_, rfl, by rw [anyB_up c_2 (show i < 24 by omega)], by rw [ht]⟩) (fun q h => by cases h) dRR_anyBad_17
  exact loop_2 (24 + 1) 0 (by omega) (rfl) (by omega) ls (lv_sub hl [0, 1] rfl)

set_option maxHeartbeats 4000000 in
set_option maxRecDepth 100000 in
/-- the i-th of the latest draw -/
theorem c_DR_at (l : Launch) (dC : Nat → ClassId) (dI : Nat → Nat → Nat) (cI cZ cG : ClassId) (h : Nat) (a : Nat) (dn : Nat) (wr : Nat → Nat) (x : Int32) (hdn : dn ≤ 24) : Met l yDR_at wsDR_at ({ frames := 0, cells := 0, slots := 0, locals := 0 }) (va_Pc [.ref h, .int x] (fun U => va_P (dC, dI) vwCl [(h, .inr (2, [.int (nI dn), .ref a])), (a, .inl (cI, 24, .inl (fun j9 => nI (wr j9))))] U.heap ∧ KX dC dI cI cZ cG U)) (vp_Si (fun r => r = oI (rowA dn wr x))) 0 0 (fun _ => False) := by
  refine Met.ofW (cc := cDR_at) (maxL := 2) (ret := (some .int)) (by decide) rfl ?_
  intro p e s m args below meth c s₁ B hml hv
  obtain ⟨rfl, hP, hKX⟩ := hv
  have hK := hKX.1
  have hx := B.exec
  have hb := B.bytes
  have hr := B.returns
  have hts := atoms_spec (ws := wsDR_at) B.pre
  have hown : s.vm.findClass RDR = some m.cls := findClass_of_methodNamed B.named
  have hlocks := B.notSynchronized
  have hl := lv_entry ([.ref h, .int x]) (n := 2) (Nat.le_of_ble_eq_true rfl)
  rw [lg_entry_eq]
  generalize (lg_sl ([.ref h, .int x]) ++ List.replicate (2 - (lg_sl ([.ref h, .int x])).length) Slot.unset).toArray = ls at hl ⊢
  have hl : lv_has ls 2 [(0, .ref h), (1, .int x)] := hl
  generalize hRe : (headSpec wsDR_at ({ frames := 0, cells := 0, slots := 0, locals := 0 })).room = R
  have hRf : 0 ≤ R.frames := by rw [← hRe]; exact Nat.le_refl _
  have hRl : 0 ≤ R.locals := by rw [← hRe]; exact Nat.le_refl _
  have hRc : 0 ≤ R.cells := by rw [← hRe]; exact Nat.le_refl _
  have hRs : 0 ≤ R.slots := by rw [← hRe]; exact Nat.le_refl _
  generalize hargs : (List.toArray [.ref h, .int x] : Array Value) = args at hts ⊢
  generalize hQe : MQ below _ args s _ _ _ = Q
  refine lv_iload_n hx hb dDR_at_0 rfl (lv_at hl 1 rfl) ?_
  refine lv_if_lt (tgt := 21) hx hb dDR_at_1 (by decide) (fun c_1 => ?_) (fun c_1 => ?_)
  · refine lv_iconst (v := (-1)) hx hb dDR_at_21 (by decide +kernel) ?_
    rw [← hQe]
    exact W.iret (v := (-1)) hx hb hr (fun t ht hW => ⟨_, rfl, by rw [rowA, if_pos (inB_neg c_1)]; rfl, by rw [ht]⟩) (fun q h => by cases h) dDR_at_22
  · refine lv_iload_n hx hb dDR_at_4 rfl (lv_at hl 1 rfl) ?_
    refine lv_aload_n hx hb dDR_at_5 rfl (lv_at hl 0 rfl) ?_
    refine va_get (D := (dC, dI)) (ci := 2) (v := .int (nI dn)) (C := RDR) (T := TDR) (N := 2) hx hb hts (fun w h => List.mem_cons_of_mem _ (inDR w h)) hown hK hP 0 rfl rfl 0 (by decide) (hts _ (List.mem_cons_of_mem _ kw_216)) (fun _ h9 => h9) rfl dDR_at_6 ?_
    refine lv_icmp_ge (tgt := 21) hx hb dDR_at_9 (by decide) (fun c_2 => ?_) (fun c_2 => ?_)
    · refine lv_iconst (v := (-1)) hx hb dDR_at_21 (by decide +kernel) ?_
      rw [← hQe]
      exact W.iret (v := (-1)) hx hb hr (fun t ht hW => ⟨_, rfl, by rw [rowA, if_pos (inB_big c_1 c_2)]; rfl, by rw [ht]⟩) (fun q h => by cases h) dDR_at_22
    · obtain ⟨j, hj, rfl⟩ := inB_pos (n := dn) (by omega) (by rw [inB_in c_1 c_2]; decide)
      refine lv_aload_n hx hb dDR_at_12 rfl (lv_at hl 0 rfl) ?_
      refine va_get (D := (dC, dI)) (ci := 2) (v := .ref a) (C := RDR) (T := TDR) (N := 2) hx hb hts (fun w h => List.mem_cons_of_mem _ (inDR w h)) hown hK hP 0 rfl rfl 1 (by decide) (hts _ (List.mem_cons_of_mem _ kw_218)) (fun _ h9 => h9) rfl dDR_at_13 ?_
      refine lv_iload_n hx hb dDR_at_16 rfl (lv_at hl 1 rfl) ?_
      refine hr_iald hx hb hK hP 1 0 rfl rfl (i := j) (by omega) (by omega) dDR_at_17 ?_
      refine lv_goto (tgt := 22) hx hb dDR_at_18 (by decide) ?_
      rw [← hQe]
      exact W.iret (v := nI (wr j)) hx hb hr (fun t ht hW => ⟨_, rfl, by rw [rowA, inB_nI hj (by omega), if_neg (by decide), nI_clamp (by omega)]; rfl, by rw [ht]⟩) (fun q h => by cases h) dDR_at_22
