set_option maxHeartbeats 400000 in
set_option maxRecDepth 100000 in
/-- draw -/
theorem c_MO_draw (l : Launch) (dC : Nat → ClassId) (dI : Nat → Nat → Nat) (cI cZ cG : ClassId) (hM : Nat) (z1 : Nat) (z2 : Nat) (z3 : Nat) (z4 : Nat) (z5 : Nat) (z6 : Nat) (z7 : Nat) (z8 : Nat) (z9 : Nat) (z10 : Nat) (z11 : Nat) (z12 : Nat) (z13 : Nat) (z14 : Nat) (th : Nat) (k : Nat) (n : Nat) (iS : Nat) (sc : Nat) (sn : Nat) (mv : Nat) (sg : Nat) (dn : Nat) (gc : Nat) (sf : Nat → Option Nat) (wr : Nat → Nat) (x : Int32) (z : Int64) (sz : Nat) (hiS : iS < 2 ∧ (iS = 0 → sc = 0 ∧ sn = 0)) (hsc : sc ≤ 4) (hsn : sn ≤ 24) (hsf : ∀ j, j < 24 → ∀ q, sf j = some q → q < 4) : Met l yMO_draw wsMO_draw ({ frames := 1, cells := 0, slots := 0, locals := 21 }) (va_Pc [.ref hM, .int x, .long z] (fun U => U.heap.size = sz ∧ va_P (dC, dI) vwCl [(hM, .inr (8, [.int (nI th), .int (nI k), .int (nI n), .ref z1, .ref z2, .int (nI iS), .int (nI sc), .int (nI sn), .int (nI mv), .int (nI sg), .ref z3, .ref z4, .ref z5, .ref z6, .ref z7, .ref z8, .ref z9, .int (nI dn), .ref z10, .ref z11, .ref z12, .ref z13, .ref z14, .int (nI gc)])), (z3, .inl (cI, 24, .inl (fun j9 => oI (sf j9)))), (z9, .inl (cI, 24, .inl (fun j9 => nI (wr j9))))] U.heap ∧ KX dC dI cI cZ cG U ∧ va_D (fun _ => True) [(hM, .inr (8, [.int (nI th), .int (nI k), .int (nI n), .ref z1, .ref z2, .int (nI iS), .int (nI sc), .int (nI sn), .int (nI mv), .int (nI sg), .ref z3, .ref z4, .ref z5, .ref z6, .ref z7, .ref z8, .ref z9, .int (nI dn), .ref z10, .ref z11, .ref z12, .ref z13, .ref z14, .int (nI gc)])), (z3, .inl (cI, 24, .inl (fun j9 => oI (sf j9)))), (z9, .inl (cI, 24, .inl (fun j9 => nI (wr j9))))])) (va_Qi (fun (r : Int32) (u : Unit) => r = ((drwN sc x).elim (-1) (fun q => nI (dgN sf q sn)))) (fun u t => va_P (dC, dI) vwCl [(hM, .inr (8, [.int (nI 0), .int (nI k), .int (nI n), .ref z1, .ref z2, .int (nI iS), .int (nI sc), .int (nI sn), .int (nI mv), .int (nI sg), .ref z3, .ref z4, .ref z5, .ref z6, .ref z7, .ref z8, .ref z9, .int (nI ((drwN sc x).elim dn (fun q => dgN sf q sn))), .ref z10, .ref z11, .ref z12, .ref z13, .ref z14, .int (nI gc)])), (z3, .inl (cI, 24, .inl (fun j9 => oI (sf j9)))), (z9, .inl (cI, 24, .inl (fun j9 => nI (((drwN sc x).elim wr (fun q => shf (dgN sf q sn - 1) z (dgR sf q wr sn))) j9))))] t.heap ∧ va_D (va_A [(hM, .inr (8, [.int (nI th), .int (nI k), .int (nI n), .ref z1, .ref z2, .int (nI iS), .int (nI sc), .int (nI sn), .int (nI mv), .int (nI sg), .ref z3, .ref z4, .ref z5, .ref z6, .ref z7, .ref z8, .ref z9, .int (nI dn), .ref z10, .ref z11, .ref z12, .ref z13, .ref z14, .int (nI gc)])), (z3, .inl (cI, 24, .inl (fun j9 => oI (sf j9)))), (z9, .inl (cI, 24, .inl (fun j9 => nI (wr j9))))] sz) [(hM, .inr (8, [.int (nI 0), .int (nI k), .int (nI n), .ref z1, .ref z2, .int (nI iS), .int (nI sc), .int (nI sn), .int (nI mv), .int (nI sg), .ref z3, .ref z4, .ref z5, .ref z6, .ref z7, .ref z8, .ref z9, .int (nI ((drwN sc x).elim dn (fun q => dgN sf q sn))), .ref z10, .ref z11, .ref z12, .ref z13, .ref z14, .int (nI gc)])), (z3, .inl (cI, 24, .inl (fun j9 => oI (sf j9)))), (z9, .inl (cI, 24, .inl (fun j9 => nI (((drwN sc x).elim wr (fun q => shf (dgN sf q sn - 1) z (dgR sf q wr sn))) j9))))]) (va_A [(hM, .inr (8, [.int (nI th), .int (nI k), .int (nI n), .ref z1, .ref z2, .int (nI iS), .int (nI sc), .int (nI sn), .int (nI mv), .int (nI sg), .ref z3, .ref z4, .ref z5, .ref z6, .ref z7, .ref z8, .ref z9, .int (nI dn), .ref z10, .ref z11, .ref z12, .ref z13, .ref z14, .int (nI gc)])), (z3, .inl (cI, 24, .inl (fun j9 => oI (sf j9)))), (z9, .inl (cI, 24, .inl (fun j9 => nI (wr j9))))] sz)) 0 0 (va_A [(hM, .inr (8, [.int (nI th), .int (nI k), .int (nI n), .ref z1, .ref z2, .int (nI iS), .int (nI sc), .int (nI sn), .int (nI mv), .int (nI sg), .ref z3, .ref z4, .ref z5, .ref z6, .ref z7, .ref z8, .ref z9, .int (nI dn), .ref z10, .ref z11, .ref z12, .ref z13, .ref z14, .int (nI gc)])), (z3, .inl (cI, 24, .inl (fun j9 => oI (sf j9)))), (z9, .inl (cI, 24, .inl (fun j9 => nI (wr j9))))] sz) := by
  refine Met.ofW (cc := cMO_draw) (maxL := 9) (ret := (some .int)) (by decide) rfl ?_
  intro p e s m args below meth c s₁ B hml hv
  obtain ⟨rfl, hsz, hP, hKX, hD0⟩ := hv
  have hK := hKX.1
  have hx := B.exec
  have hb := B.bytes
  have hr := B.returns
  have hts := atoms_spec (ws := wsMO_draw) B.pre
  have hown : s.vm.findClass RMO = some m.cls := findClass_of_methodNamed B.named
  have hlocks := B.notSynchronized
  subst hsz
  have hD := hD0.self (sz := s.heap.size)
  generalize hAe : va_A [(hM, .inr (8, [.int (nI th), .int (nI k), .int (nI n), .ref z1, .ref z2, .int (nI iS), .int (nI sc), .int (nI sn), .int (nI mv), .int (nI sg), .ref z3, .ref z4, .ref z5, .ref z6, .ref z7, .ref z8, .ref z9, .int (nI dn), .ref z10, .ref z11, .ref z12, .ref z13, .ref z14, .int (nI gc)])), (z3, .inl (cI, 24, .inl (fun j9 => oI (sf j9)))), (z9, .inl (cI, 24, .inl (fun j9 => nI (wr j9))))] s.heap.size = A at hD ⊢
  have hA : ∀ q : Nat, s.heap.size ≤ q → A q := fun q h => by rw [← hAe]; exact Or.inr h
  have hS : va_S A s.heap s.heap [] := va_S.rf
  have hl := lv_entry ([.ref hM, .int x, .long z]) (n := 9) (Nat.le_of_ble_eq_true rfl)
  rw [lg_entry_eq]
  generalize (lg_sl ([.ref hM, .int x, .long z]) ++ List.replicate (9 - (lg_sl ([.ref hM, .int x, .long z])).length) Slot.unset).toArray = ls at hl ⊢
  have hl : lv_has ls 9 [(0, .ref hM), (1, .int x), (2, .long z)] := hl
  generalize hRe : (headSpec wsMO_draw ({ frames := 1, cells := 0, slots := 0, locals := 21 })).room = R
  have hRf : 1 ≤ R.frames := by rw [← hRe]; exact Nat.le_refl _
  have hRl : 21 ≤ R.locals := by rw [← hRe]; exact Nat.le_refl _
  have hRc : 0 ≤ R.cells := by rw [← hRe]; exact Nat.le_refl _
  have hRs : 0 ≤ R.slots := by rw [← hRe]; exact Nat.le_refl _
  generalize hargs : (List.toArray [.ref hM, .int x, .long z] : Array Value) = args at hts ⊢
  generalize hQe : MQ below _ args s _ _ _ = Q
  refine lv_aload_n hx hb dMO_draw_0 rfl (lv_at hl 0 rfl) ?_
  refine lv_iconst (v := nI 0) hx hb dMO_draw_1 (by decide +kernel) ?_
  refine va_put (D := (dC, dI)) (ci := 8) (v := .int (nI 0)) (ty := .int) (C := RMO) (T := TMO) (N := 24) hx hb hts (fun w h => List.mem_cons_of_mem _ (inMO w h)) tyMO tyMO_ok nmMO hown hK hP hD hS 0 rfl rfl 0 (by decide) (hts _ (List.mem_cons_of_mem _ kw_509)) (fun _ h9 => h9) rfl (by decide +kernel) rfl rfl (Nat.le_of_ble_eq_true rfl) dMO_draw_2 (fun H locs hP hD hS => ?_)
  have hP : va_P (dC, dI) vwCl [(hM, .inr (8, [.int (nI 0), .int (nI k), .int (nI n), .ref z1, .ref z2, .int (nI iS), .int (nI sc), .int (nI sn), .int (nI mv), .int (nI sg), .ref z3, .ref z4, .ref z5, .ref z6, .ref z7, .ref z8, .ref z9, .int (nI dn), .ref z10, .ref z11, .ref z12, .ref z13, .ref z14, .int (nI gc)])), (z3, .inl (cI, 24, .inl (fun j9 => oI (sf j9)))), (z9, .inl (cI, 24, .inl (fun j9 => nI (wr j9))))] H := hP
  have hD : va_D A [(hM, .inr (8, [.int (nI 0), .int (nI k), .int (nI n), .ref z1, .ref z2, .int (nI iS), .int (nI sc), .int (nI sn), .int (nI mv), .int (nI sg), .ref z3, .ref z4, .ref z5, .ref z6, .ref z7, .ref z8, .ref z9, .int (nI dn), .ref z10, .ref z11, .ref z12, .ref z13, .ref z14, .int (nI gc)])), (z3, .inl (cI, 24, .inl (fun j9 => oI (sf j9)))), (z9, .inl (cI, 24, .inl (fun j9 => nI (wr j9))))] := hD
  refine lv_aload_n hx hb dMO_draw_5 rfl (lv_at hl 0 rfl) ?_
  refine lv_iload_n hx hb dMO_draw_6 rfl (lv_at hl 1 rfl) ?_
  refine vp_callSi (va_runV (C := RMO) (As := [.int x]) (rest := []) ⟨hx, hb, hml, hown, hts⟩ (c_MO_isShard l dC dI cI cZ cG hM z1 z2 z3 z4 z5 z6 z7 z8 z9 z10 z11 z12 z13 z14 0 k n iS sc sn mv sg dn gc x (hiS) (hsc) (hsn)) (hr_cwV 1 hts kw_659 kw_661 kw_20 kw_33 kw_662 (by decide +kernel) (by rw [← hRe]; exact ⟨Nat.le_of_ble_eq_true rfl, Nat.le_of_ble_eq_true rfl⟩)) (hr_preR hKX hP [0] rfl (ci := 8) (q0 := 0) (q := (RMO, TMO, 24)) rfl rfl) rfl rfl hl.1 rfl (lv_room (Nat.le_of_ble_eq_true rfl)) dMO_draw_7 ⟨by omega, by omega⟩).run (fun rv hrv => ?_)
  refine hr_eqi hrv ?_
  have hb1 := inB_lt x sc
  refine hr_if_ne hx hb (x := inB x sc) (by omega) (tgt := 15) dMO_draw_10 (by decide) (fun c_1 => ?_) (fun c_1 => ?_)
  · obtain ⟨q, hq, rfl⟩ := inB_pos (by omega) c_1
    refine lv_aload_n hx hb dMO_draw_15 rfl (lv_at hl 0 rfl) ?_
    refine lv_iconst (v := nI 0) hx hb dMO_draw_16 (by decide +kernel) ?_
    refine va_put (D := (dC, dI)) (ci := 8) (v := .int (nI 0)) (ty := .int) (C := RMO) (T := TMO) (N := 24) hx hb hts (fun w h => List.mem_cons_of_mem _ (inMO w h)) tyMO tyMO_ok nmMO hown hK hP hD hS 0 rfl rfl 17 (by decide) (hts _ (List.mem_cons_of_mem _ kw_526)) (fun _ h9 => h9) rfl (by decide +kernel) rfl rfl (Nat.le_of_ble_eq_true rfl) dMO_draw_17 (fun H locs hP hD hS => ?_)
    have hP : va_P (dC, dI) vwCl [(hM, .inr (8, [.int (nI 0), .int (nI k), .int (nI n), .ref z1, .ref z2, .int (nI iS), .int (nI sc), .int (nI sn), .int (nI mv), .int (nI sg), .ref z3, .ref z4, .ref z5, .ref z6, .ref z7, .ref z8, .ref z9, .int (nI 0), .ref z10, .ref z11, .ref z12, .ref z13, .ref z14, .int (nI gc)])), (z3, .inl (cI, 24, .inl (fun j9 => oI (sf j9)))), (z9, .inl (cI, 24, .inl (fun j9 => nI (wr j9))))] H := hP
    have hD : va_D A [(hM, .inr (8, [.int (nI 0), .int (nI k), .int (nI n), .ref z1, .ref z2, .int (nI iS), .int (nI sc), .int (nI sn), .int (nI mv), .int (nI sg), .ref z3, .ref z4, .ref z5, .ref z6, .ref z7, .ref z8, .ref z9, .int (nI 0), .ref z10, .ref z11, .ref z12, .ref z13, .ref z14, .int (nI gc)])), (z3, .inl (cI, 24, .inl (fun j9 => oI (sf j9)))), (z9, .inl (cI, 24, .inl (fun j9 => nI (wr j9))))] := hD
    refine lv_iconst (v := nI 0) hx hb dMO_draw_20 (by decide +kernel) ?_
    refine lv_istore (lv' := [(4, .int (nI 0)), (0, .ref hM), (1, .int (nI q)), (2, .long z)]) hx hb dMO_draw_21 hl (by decide) rfl (fun ls hl => ?_)
    have loop_23 : ∀ (n9 : Nat) (i : Nat), i ≤ sn → sn + 1 ≤ i + n9 → ∀ (H : Heap) (locs : List Loc), va_P (dC, dI) vwCl [(hM, .inr (8, [.int (nI 0), .int (nI k), .int (nI n), .ref z1, .ref z2, .int (nI iS), .int (nI sc), .int (nI sn), .int (nI mv), .int (nI sg), .ref z3, .ref z4, .ref z5, .ref z6, .ref z7, .ref z8, .ref z9, .int (nI (dgN sf q i)), .ref z10, .ref z11, .ref z12, .ref z13, .ref z14, .int (nI gc)])), (z3, .inl (cI, 24, .inl (fun j9 => oI (sf j9)))), (z9, .inl (cI, 24, .inl (fun j9 => nI ((dgR sf q wr i) j9))))] H → va_D A [(hM, .inr (8, [.int (nI 0), .int (nI k), .int (nI n), .ref z1, .ref z2, .int (nI iS), .int (nI sc), .int (nI sn), .int (nI mv), .int (nI sg), .ref z3, .ref z4, .ref z5, .ref z6, .ref z7, .ref z8, .ref z9, .int (nI (dgN sf q i)), .ref z10, .ref z11, .ref z12, .ref z13, .ref z14, .int (nI gc)])), (z3, .inl (cI, 24, .inl (fun j9 => oI (sf j9)))), (z9, .inl (cI, 24, .inl (fun j9 => nI ((dgR sf q wr i) j9))))] → va_S A s.heap H locs → ∀ (ls : Array Slot), lv_has ls 9 [(4, .int (nI i)), (0, .ref hM), (1, .int (nI q)), (2, .long z)] → W p l e R s m args below meth c H locs 0 0 Q (F0 m 23 ls []) := by
      intro n9
      induction n9 with
      | zero =>
        intro i hi hmeas
        exact absurd hmeas (by omega)
      | succ n9 ih_23 =>
        intro i hi hmeas H locs hP hD hS ls hl
        have hdl := dgN_le sf q i
        refine lv_iload hx hb dMO_draw_23 (lv_at hl 0 rfl) ?_
        refine lv_aload_n hx hb dMO_draw_25 rfl (lv_at hl 1 rfl) ?_
        refine va_get (D := (dC, dI)) (ci := 8) (v := .int (nI sn)) (C := RMO) (T := TMO) (N := 24) hx hb hts (fun w h => List.mem_cons_of_mem _ (inMO w h)) hown hK hP 0 rfl rfl 7 (by decide) (hts _ (List.mem_cons_of_mem _ kw_516)) (fun _ h9 => h9) rfl dMO_draw_26 ?_
        refine hr_icmp_ge hx hb (x := i) (y := sn) (by omega) (by omega) (tgt := 70) dMO_draw_29 (by decide) (fun c_2 => ?_) (fun c_2 => ?_)
        · have ei : sn = i := by omega
          subst ei
          rcases Nat.eq_zero_or_pos (dgN sf q sn) with hz | hz
          · refine lv_lload_n hx hb dMO_draw_70 rfl (lv_at hl 3 rfl) ?_
            refine lv_lstore (lv' := [(4, .long z), (0, .ref hM), (1, .int (nI q)), (2, .long z)]) hx hb dMO_draw_71 hl (by decide) rfl (fun ls hl => ?_)
            refine lv_aload_n hx hb dMO_draw_73 rfl (lv_at hl 1 rfl) ?_
            refine va_get (D := (dC, dI)) (ci := 8) (v := .int (nI (dgN sf q sn))) (C := RMO) (T := TMO) (N := 24) hx hb hts (fun w h => List.mem_cons_of_mem _ (inMO w h)) hown hK hP 0 rfl rfl 17 (by decide) (hts _ (List.mem_cons_of_mem _ kw_526)) (fun _ h9 => h9) rfl dMO_draw_74 ?_
            refine lv_iconst (v := nI 1) hx hb dMO_draw_77 (by decide +kernel) ?_
            refine lv_isub hx hb dMO_draw_78 ?_
            refine hr_eqi (show nI (dgN sf q sn) - nI 1 = (-1 : Int32) by rw [hz]; decide +kernel) ?_
            refine lv_istore (lv' := [(6, .int (-1)), (4, .long z), (0, .ref hM), (1, .int (nI q)), (2, .long z)]) hx hb dMO_draw_79 hl (by decide) rfl (fun ls hl => ?_)
            refine lv_iload hx hb dMO_draw_81 (lv_at hl 0 rfl) ?_
            refine lv_if_le (tgt := 150) hx hb dMO_draw_83 (by decide) (fun c_3 => ?_) (fun c_3 => ?_)
            · refine lv_aload_n hx hb dMO_draw_150 rfl (lv_at hl 2 rfl) ?_
              refine va_get (D := (dC, dI)) (ci := 8) (v := .int (nI (dgN sf q sn))) (C := RMO) (T := TMO) (N := 24) hx hb hts (fun w h => List.mem_cons_of_mem _ (inMO w h)) hown hK hP 0 rfl rfl 17 (by decide) (hts _ (List.mem_cons_of_mem _ kw_526)) (fun _ h9 => h9) rfl dMO_draw_151 ?_
              have ez : drwN sc (nI q) = some q := by simp [drwN, inB_nI hq (show sc < 2 ^ 31 by omega), nI_clamp (show q < 2 ^ 31 by omega)]
              have hT : dgR sf q wr sn = shf (dgN sf q sn - 1) z (dgR sf q wr sn) := by rw [hz]; rfl
              rw [← hQe]
              have hP : va_P (dC, dI) vwCl [(hM, .inr (8, [.int (nI 0), .int (nI k), .int (nI n), .ref z1, .ref z2, .int (nI iS), .int (nI sc), .int (nI sn), .int (nI mv), .int (nI sg), .ref z3, .ref z4, .ref z5, .ref z6, .ref z7, .ref z8, .ref z9, .int (nI (dgN sf q sn)), .ref z10, .ref z11, .ref z12, .ref z13, .ref z14, .int (nI gc)])), (z3, .inl (cI, 24, .inl (fun j9 => oI (sf j9)))), (z9, .inl (cI, 24, .inl (fun j9 => nI ((shf (dgN sf q sn - 1) z (dgR sf q wr sn)) j9))))] H := by rw [← hT]; exact hP
              have hD : va_D A [(hM, .inr (8, [.int (nI 0), .int (nI k), .int (nI n), .ref z1, .ref z2, .int (nI iS), .int (nI sc), .int (nI sn), .int (nI mv), .int (nI sg), .ref z3, .ref z4, .ref z5, .ref z6, .ref z7, .ref z8, .ref z9, .int (nI (dgN sf q sn)), .ref z10, .ref z11, .ref z12, .ref z13, .ref z14, .int (nI gc)])), (z3, .inl (cI, 24, .inl (fun j9 => oI (sf j9)))), (z9, .inl (cI, 24, .inl (fun j9 => nI ((shf (dgN sf q sn - 1) z (dgR sf q wr sn)) j9))))] := by rw [← hT]; exact hD
              exact W.iret (v := nI (dgN sf q sn)) hx hb hr (fun t ht hW => ⟨⟨_, (), rfl, by rw [ez]; rfl, by rw [ht, ez]; exact hP, by rw [ez]; exact hD⟩, hS.F ht⟩) hS.2.2 dMO_draw_154
            · exact absurd (by decide +kernel) c_3
          · refine lv_lload_n hx hb dMO_draw_70 rfl (lv_at hl 3 rfl) ?_
            refine lv_lstore (lv' := [(4, .long z), (0, .ref hM), (1, .int (nI q)), (2, .long z)]) hx hb dMO_draw_71 hl (by decide) rfl (fun ls hl => ?_)
            refine lv_aload_n hx hb dMO_draw_73 rfl (lv_at hl 1 rfl) ?_
            refine va_get (D := (dC, dI)) (ci := 8) (v := .int (nI (dgN sf q sn))) (C := RMO) (T := TMO) (N := 24) hx hb hts (fun w h => List.mem_cons_of_mem _ (inMO w h)) hown hK hP 0 rfl rfl 17 (by decide) (hts _ (List.mem_cons_of_mem _ kw_526)) (fun _ h9 => h9) rfl dMO_draw_74 ?_
            refine lv_iconst (v := nI 1) hx hb dMO_draw_77 (by decide +kernel) ?_
            refine lv_isub hx hb dMO_draw_78 ?_
            refine hr_eqi (pk_sub (by omega)) ?_
            refine lv_istore (lv' := [(6, .int (nI (dgN sf q sn - 1))), (4, .long z), (0, .ref hM), (1, .int (nI q)), (2, .long z)]) hx hb dMO_draw_79 hl (by decide) rfl (fun ls hl => ?_)
            have loop_81 : ∀ (n9 : Nat) (i : Nat) (x : Int64) (r : Nat → Nat), i ≤ dgN sf q sn - 1 → shf i x r = shf (dgN sf q sn - 1) z (dgR sf q wr sn) → i + 1 ≤ n9 → ∀ (H : Heap) (locs : List Loc), va_P (dC, dI) vwCl [(hM, .inr (8, [.int (nI 0), .int (nI k), .int (nI n), .ref z1, .ref z2, .int (nI iS), .int (nI sc), .int (nI sn), .int (nI mv), .int (nI sg), .ref z3, .ref z4, .ref z5, .ref z6, .ref z7, .ref z8, .ref z9, .int (nI (dgN sf q sn)), .ref z10, .ref z11, .ref z12, .ref z13, .ref z14, .int (nI gc)])), (z3, .inl (cI, 24, .inl (fun j9 => oI (sf j9)))), (z9, .inl (cI, 24, .inl (fun j9 => nI (r j9))))] H → va_D A [(hM, .inr (8, [.int (nI 0), .int (nI k), .int (nI n), .ref z1, .ref z2, .int (nI iS), .int (nI sc), .int (nI sn), .int (nI mv), .int (nI sg), .ref z3, .ref z4, .ref z5, .ref z6, .ref z7, .ref z8, .ref z9, .int (nI (dgN sf q sn)), .ref z10, .ref z11, .ref z12, .ref z13, .ref z14, .int (nI gc)])), (z3, .inl (cI, 24, .inl (fun j9 => oI (sf j9)))), (z9, .inl (cI, 24, .inl (fun j9 => nI (r j9))))] → va_S A s.heap H locs → ∀ (ls : Array Slot), lv_has ls 9 [(4, .long x), (6, .int (nI i)), (0, .ref hM)] → W p l e R s m args below meth c H locs 0 0 Q (F0 m 81 ls []) := by
              intro n9
              induction n9 with
              | zero =>
                intro i x r hi hT hmeas
                exact absurd hmeas (by omega)
              | succ n9 ih_81 =>
                intro i x r hi hT hmeas H locs hP hD hS ls hl
                have hdl := dgN_le sf q sn
                refine lv_iload hx hb dMO_draw_81 (lv_at hl 1 rfl) ?_
                refine hr_if_le hx hb (x := i) (by omega) (tgt := 150) dMO_draw_83 (by decide) (fun c_4 => ?_) (fun c_4 => ?_)
                · refine lv_aload_n hx hb dMO_draw_150 rfl (lv_at hl 2 rfl) ?_
                  refine va_get (D := (dC, dI)) (ci := 8) (v := .int (nI (dgN sf q sn))) (C := RMO) (T := TMO) (N := 24) hx hb hts (fun w h => List.mem_cons_of_mem _ (inMO w h)) hown hK hP 0 rfl rfl 17 (by decide) (hts _ (List.mem_cons_of_mem _ kw_526)) (fun _ h9 => h9) rfl dMO_draw_151 ?_
                  have ez : drwN sc (nI q) = some q := by simp [drwN, inB_nI hq (show sc < 2 ^ 31 by omega), nI_clamp (show q < 2 ^ 31 by omega)]
                  have hT : r = shf (dgN sf q sn - 1) z (dgR sf q wr sn) := by rw [← hT, show i = 0 by omega]; rfl
                  rw [← hQe]
                  have hP : va_P (dC, dI) vwCl [(hM, .inr (8, [.int (nI 0), .int (nI k), .int (nI n), .ref z1, .ref z2, .int (nI iS), .int (nI sc), .int (nI sn), .int (nI mv), .int (nI sg), .ref z3, .ref z4, .ref z5, .ref z6, .ref z7, .ref z8, .ref z9, .int (nI (dgN sf q sn)), .ref z10, .ref z11, .ref z12, .ref z13, .ref z14, .int (nI gc)])), (z3, .inl (cI, 24, .inl (fun j9 => oI (sf j9)))), (z9, .inl (cI, 24, .inl (fun j9 => nI ((shf (dgN sf q sn - 1) z (dgR sf q wr sn)) j9))))] H := by rw [← hT]; exact hP
                  have hD : va_D A [(hM, .inr (8, [.int (nI 0), .int (nI k), .int (nI n), .ref z1, .ref z2, .int (nI iS), .int (nI sc), .int (nI sn), .int (nI mv), .int (nI sg), .ref z3, .ref z4, .ref z5, .ref z6, .ref z7, .ref z8, .ref z9, .int (nI (dgN sf q sn)), .ref z10, .ref z11, .ref z12, .ref z13, .ref z14, .int (nI gc)])), (z3, .inl (cI, 24, .inl (fun j9 => oI (sf j9)))), (z9, .inl (cI, 24, .inl (fun j9 => nI ((shf (dgN sf q sn - 1) z (dgR sf q wr sn)) j9))))] := by rw [← hT]; exact hD
                  exact W.iret (v := nI (dgN sf q sn)) hx hb hr (fun t ht hW => ⟨⟨_, (), rfl, by rw [ez]; rfl, by rw [ht, ez]; exact hP, by rw [ez]; exact hD⟩, hS.F ht⟩) hS.2.2 dMO_draw_154
                · obtain ⟨t, rfl⟩ : ∃ t, i = t + 1 := ⟨i - 1, by omega⟩
                  have hjl := jx_lt (lcg x) (n := t + 1 + 1) (by omega)
                  refine lv_lload hx hb dMO_draw_86 (lv_at hl 0 rfl) ?_
                  refine lv_ldc2 (v := 6364136223846793005) hx hb hown (hts (.constantLong RMO 130 6364136223846793005) (by decide +kernel)) dMO_draw_88 ?_
                  refine lv_lmul hx hb dMO_draw_91 ?_
                  refine lv_ldc2 (v := 1442695040888963407) hx hb hown (hts (.constantLong RMO 132 1442695040888963407) (by decide +kernel)) dMO_draw_92 ?_
                  refine lv_ladd hx hb dMO_draw_95 ?_
                  refine hr_eql (show x * 6364136223846793005 + 1442695040888963407 = lcg x from rfl) ?_
                  refine lv_lstore (lv' := [(4, .long (lcg x)), (6, .int (nI (t + 1))), (0, .ref hM)]) hx hb dMO_draw_96 hl (by decide) rfl (fun ls hl => ?_)
                  refine lv_lload hx hb dMO_draw_98 (lv_at hl 0 rfl) ?_
                  refine lv_bipush (v := nI 33) hx hb dMO_draw_100 (by decide +kernel) ?_
                  refine lv_lushr hx hb dMO_draw_102 (lcg_shr (lcg x)) ?_
                  refine lv_iload hx hb dMO_draw_103 (lv_at hl 1 rfl) ?_
                  refine lv_iconst (v := nI 1) hx hb dMO_draw_105 (by decide +kernel) ?_
                  refine lv_iadd hx hb dMO_draw_106 ?_
                  refine hr_eqi (nI_add _ _) ?_
                  refine lv_i2l hx hb dMO_draw_107 (nI_l (by omega)) ?_
                  refine lv_lrem hx hb dMO_draw_108 (lN_ne0 (by omega) (by omega)) ?_
                  refine hr_eql (lcg_rem (lcg x) (by omega) (by omega)) ?_
                  refine lv_l2i hx hb dMO_draw_109 (lN_i _) ?_
                  refine lv_istore (lv' := [(7, .int (nI (jx (lcg x) (t + 1 + 1)))), (4, .long (lcg x)), (6, .int (nI (t + 1))), (0, .ref hM)]) hx hb dMO_draw_110 hl (by decide) rfl (fun ls hl => ?_)
                  refine lv_aload_n hx hb dMO_draw_112 rfl (lv_at hl 3 rfl) ?_
                  refine va_get (D := (dC, dI)) (ci := 8) (v := .ref z9) (C := RMO) (T := TMO) (N := 24) hx hb hts (fun w h => List.mem_cons_of_mem _ (inMO w h)) hown hK hP 0 rfl rfl 16 (by decide) (hts _ (List.mem_cons_of_mem _ kw_525)) (fun _ h9 => h9) rfl dMO_draw_113 ?_
                  refine lv_iload hx hb dMO_draw_116 (lv_at hl 2 rfl) ?_
                  refine hr_iald hx hb hK hP 2 0 rfl rfl (i := (t + 1)) (by omega) (by omega) dMO_draw_118 ?_
                  refine lv_istore (lv' := [(8, .int (nI (r (t + 1)))), (7, .int (nI (jx (lcg x) (t + 1 + 1)))), (4, .long (lcg x)), (6, .int (nI (t + 1))), (0, .ref hM)]) hx hb dMO_draw_119 hl (by decide) rfl (fun ls hl => ?_)
                  refine lv_aload_n hx hb dMO_draw_121 rfl (lv_at hl 4 rfl) ?_
                  refine va_get (D := (dC, dI)) (ci := 8) (v := .ref z9) (C := RMO) (T := TMO) (N := 24) hx hb hts (fun w h => List.mem_cons_of_mem _ (inMO w h)) hown hK hP 0 rfl rfl 16 (by decide) (hts _ (List.mem_cons_of_mem _ kw_525)) (fun _ h9 => h9) rfl dMO_draw_122 ?_
                  refine lv_iload hx hb dMO_draw_125 (lv_at hl 3 rfl) ?_
                  refine lv_aload_n hx hb dMO_draw_127 rfl (lv_at hl 4 rfl) ?_
                  refine va_get (D := (dC, dI)) (ci := 8) (v := .ref z9) (C := RMO) (T := TMO) (N := 24) hx hb hts (fun w h => List.mem_cons_of_mem _ (inMO w h)) hown hK hP 0 rfl rfl 16 (by decide) (hts _ (List.mem_cons_of_mem _ kw_525)) (fun _ h9 => h9) rfl dMO_draw_128 ?_
                  refine lv_iload hx hb dMO_draw_131 (lv_at hl 1 rfl) ?_
                  refine hr_iald hx hb hK hP 2 0 rfl rfl (i := (jx (lcg x) (t + 1 + 1))) (by omega) (by omega) dMO_draw_133 ?_
                  refine hr_iastN hx hb hK hP hD hS 2 0 rfl rfl (i := (t + 1)) (by omega) (by omega) dMO_draw_134 (fun H locs hP hD hS => ?_)
                  have hP : va_P (dC, dI) vwCl [(hM, .inr (8, [.int (nI 0), .int (nI k), .int (nI n), .ref z1, .ref z2, .int (nI iS), .int (nI sc), .int (nI sn), .int (nI mv), .int (nI sg), .ref z3, .ref z4, .ref z5, .ref z6, .ref z7, .ref z8, .ref z9, .int (nI (dgN sf q sn)), .ref z10, .ref z11, .ref z12, .ref z13, .ref z14, .int (nI gc)])), (z3, .inl (cI, 24, .inl (fun j9 => oI (sf j9)))), (z9, .inl (cI, 24, .inl (fun j9 => nI ((va_up r (t + 1) (r (jx (lcg x) (t + 1 + 1)))) j9))))] H := hP
                  have hD : va_D A [(hM, .inr (8, [.int (nI 0), .int (nI k), .int (nI n), .ref z1, .ref z2, .int (nI iS), .int (nI sc), .int (nI sn), .int (nI mv), .int (nI sg), .ref z3, .ref z4, .ref z5, .ref z6, .ref z7, .ref z8, .ref z9, .int (nI (dgN sf q sn)), .ref z10, .ref z11, .ref z12, .ref z13, .ref z14, .int (nI gc)])), (z3, .inl (cI, 24, .inl (fun j9 => oI (sf j9)))), (z9, .inl (cI, 24, .inl (fun j9 => nI ((va_up r (t + 1) (r (jx (lcg x) (t + 1 + 1)))) j9))))] := hD
                  refine lv_aload_n hx hb dMO_draw_135 rfl (lv_at hl 4 rfl) ?_
                  refine va_get (D := (dC, dI)) (ci := 8) (v := .ref z9) (C := RMO) (T := TMO) (N := 24) hx hb hts (fun w h => List.mem_cons_of_mem _ (inMO w h)) hown hK hP 0 rfl rfl 16 (by decide) (hts _ (List.mem_cons_of_mem _ kw_525)) (fun _ h9 => h9) rfl dMO_draw_136 ?_
                  refine lv_iload hx hb dMO_draw_139 (lv_at hl 1 rfl) ?_
                  refine lv_iload hx hb dMO_draw_141 (lv_at hl 0 rfl) ?_
                  refine hr_iastN hx hb hK hP hD hS 2 0 rfl rfl (i := (jx (lcg x) (t + 1 + 1))) (by omega) (by omega) dMO_draw_143 (fun H locs hP hD hS => ?_)
                  have hP : va_P (dC, dI) vwCl [(hM, .inr (8, [.int (nI 0), .int (nI k), .int (nI n), .ref z1, .ref z2, .int (nI iS), .int (nI sc), .int (nI sn), .int (nI mv), .int (nI sg), .ref z3, .ref z4, .ref z5, .ref z6, .ref z7, .ref z8, .ref z9, .int (nI (dgN sf q sn)), .ref z10, .ref z11, .ref z12, .ref z13, .ref z14, .int (nI gc)])), (z3, .inl (cI, 24, .inl (fun j9 => oI (sf j9)))), (z9, .inl (cI, 24, .inl (fun j9 => nI ((va_up (va_up r (t + 1) (r (jx (lcg x) (t + 1 + 1)))) (jx (lcg x) (t + 1 + 1)) (r (t + 1))) j9))))] H := hP
                  have hD : va_D A [(hM, .inr (8, [.int (nI 0), .int (nI k), .int (nI n), .ref z1, .ref z2, .int (nI iS), .int (nI sc), .int (nI sn), .int (nI mv), .int (nI sg), .ref z3, .ref z4, .ref z5, .ref z6, .ref z7, .ref z8, .ref z9, .int (nI (dgN sf q sn)), .ref z10, .ref z11, .ref z12, .ref z13, .ref z14, .int (nI gc)])), (z3, .inl (cI, 24, .inl (fun j9 => oI (sf j9)))), (z9, .inl (cI, 24, .inl (fun j9 => nI ((va_up (va_up r (t + 1) (r (jx (lcg x) (t + 1 + 1)))) (jx (lcg x) (t + 1 + 1)) (r (t + 1))) j9))))] := hD
                  refine lv_iinc (v := nI t) (lv' := [(6, .int (nI t)), (8, .int (nI (r (t + 1)))), (7, .int (nI (jx (lcg x) (t + 1 + 1)))), (4, .long (lcg x)), (0, .ref hM)]) hx hb dMO_draw_144 hl (k := 3) rfl (hr_dec1) (by decide) rfl (fun ls hl => ?_)
                  refine lv_goto (tgt := 81) hx hb dMO_draw_147 (by decide) ?_
                  exact ih_81 t (lcg x) (va_up (va_up r (t + 1) (r (jx (lcg x) (t + 1 + 1)))) (jx (lcg x) (t + 1 + 1)) (r (t + 1))) (by omega) (hT) (by omega) _ _ hP hD hS ls (lv_sub hl [3, 0, 4] rfl)
            exact loop_81 ((dgN sf q sn - 1) + 1) (dgN sf q sn - 1) z (dgR sf q wr sn) (by omega) (rfl) (by omega) _ _ hP hD hS ls (lv_sub hl [1, 0, 2] rfl)
        · refine lv_aload_n hx hb dMO_draw_32 rfl (lv_at hl 1 rfl) ?_
          refine va_get (D := (dC, dI)) (ci := 8) (v := .ref z3) (C := RMO) (T := TMO) (N := 24) hx hb hts (fun w h => List.mem_cons_of_mem _ (inMO w h)) hown hK hP 0 rfl rfl 10 (by decide) (hts _ (List.mem_cons_of_mem _ kw_519)) (fun _ h9 => h9) rfl dMO_draw_33 ?_
          refine lv_iload hx hb dMO_draw_36 (lv_at hl 0 rfl) ?_
          refine hr_iald hx hb hK hP 1 0 rfl rfl (i := i) (by omega) (by omega) dMO_draw_38 ?_
          refine lv_iload_n hx hb dMO_draw_39 rfl (lv_at hl 2 rfl) ?_
          refine lv_icmp_ne (tgt := 64) hx hb dMO_draw_40 (by decide) (fun c_5 => ?_) (fun c_5 => ?_)
          · have hsi : ¬ sf i = some q := fun z => c_5 (by rw [z]; rfl)
            refine lv_iinc (v := nI (i + 1)) (lv' := [(4, .int (nI (i + 1))), (0, .ref hM), (1, .int (nI q)), (2, .long z)]) hx hb dMO_draw_64 hl (k := 0) rfl (hr_inc _) (by decide) rfl (fun ls hl => ?_)
            refine lv_goto (tgt := 23) hx hb dMO_draw_67 (by decide) ?_
            rw [← dgN_miss hsi, ← dgR_miss (r := wr) hsi] at hP hD
            exact ih_23 (i + 1) (by omega) (by omega) _ _ hP hD hS ls (lv_sub hl [0, 1, 2, 3] rfl)
          · have hsi : sf i = some q := (oI_nI (fun z hz => by have := hsf i (by omega) z hz; omega) (by omega)).mp c_5
            refine lv_aload_n hx hb dMO_draw_43 rfl (lv_at hl 1 rfl) ?_
            refine va_get (D := (dC, dI)) (ci := 8) (v := .ref z9) (C := RMO) (T := TMO) (N := 24) hx hb hts (fun w h => List.mem_cons_of_mem _ (inMO w h)) hown hK hP 0 rfl rfl 16 (by decide) (hts _ (List.mem_cons_of_mem _ kw_525)) (fun _ h9 => h9) rfl dMO_draw_44 ?_
            refine lv_aload_n hx hb dMO_draw_47 rfl (lv_at hl 1 rfl) ?_
            refine va_get (D := (dC, dI)) (ci := 8) (v := .int (nI (dgN sf q i))) (C := RMO) (T := TMO) (N := 24) hx hb hts (fun w h => List.mem_cons_of_mem _ (inMO w h)) hown hK hP 0 rfl rfl 17 (by decide) (hts _ (List.mem_cons_of_mem _ kw_526)) (fun _ h9 => h9) rfl dMO_draw_48 ?_
            refine lv_iload hx hb dMO_draw_51 (lv_at hl 0 rfl) ?_
            refine hr_iastN hx hb hK hP hD hS 2 0 rfl rfl (i := (dgN sf q i)) (by omega) (by omega) dMO_draw_53 (fun H locs hP hD hS => ?_)
            have hP : va_P (dC, dI) vwCl [(hM, .inr (8, [.int (nI 0), .int (nI k), .int (nI n), .ref z1, .ref z2, .int (nI iS), .int (nI sc), .int (nI sn), .int (nI mv), .int (nI sg), .ref z3, .ref z4, .ref z5, .ref z6, .ref z7, .ref z8, .ref z9, .int (nI (dgN sf q i)), .ref z10, .ref z11, .ref z12, .ref z13, .ref z14, .int (nI gc)])), (z3, .inl (cI, 24, .inl (fun j9 => oI (sf j9)))), (z9, .inl (cI, 24, .inl (fun j9 => nI ((va_up (dgR sf q wr i) (dgN sf q i) i) j9))))] H := hP
            have hD : va_D A [(hM, .inr (8, [.int (nI 0), .int (nI k), .int (nI n), .ref z1, .ref z2, .int (nI iS), .int (nI sc), .int (nI sn), .int (nI mv), .int (nI sg), .ref z3, .ref z4, .ref z5, .ref z6, .ref z7, .ref z8, .ref z9, .int (nI (dgN sf q i)), .ref z10, .ref z11, .ref z12, .ref z13, .ref z14, .int (nI gc)])), (z3, .inl (cI, 24, .inl (fun j9 => oI (sf j9)))), (z9, .inl (cI, 24, .inl (fun j9 => nI ((va_up (dgR sf q wr i) (dgN sf q i) i) j9))))] := hD
            refine lv_aload_n hx hb dMO_draw_54 rfl (lv_at hl 1 rfl) ?_
            refine lv_dup hx hb dMO_draw_55 rfl ?_
            refine va_get (D := (dC, dI)) (ci := 8) (v := .int (nI (dgN sf q i))) (C := RMO) (T := TMO) (N := 24) hx hb hts (fun w h => List.mem_cons_of_mem _ (inMO w h)) hown hK hP 0 rfl rfl 17 (by decide) (hts _ (List.mem_cons_of_mem _ kw_526)) (fun _ h9 => h9) rfl dMO_draw_56 ?_
            refine lv_iconst (v := nI 1) hx hb dMO_draw_59 (by decide +kernel) ?_
            refine lv_iadd hx hb dMO_draw_60 ?_
            refine hr_eqi (nI_add _ _) ?_
            refine va_put (D := (dC, dI)) (ci := 8) (v := .int (nI ((dgN sf q i) + 1))) (ty := .int) (C := RMO) (T := TMO) (N := 24) hx hb hts (fun w h => List.mem_cons_of_mem _ (inMO w h)) tyMO tyMO_ok nmMO hown hK hP hD hS 0 rfl rfl 17 (by decide) (hts _ (List.mem_cons_of_mem _ kw_526)) (fun _ h9 => h9) rfl (by decide +kernel) rfl rfl (Nat.le_of_ble_eq_true rfl) dMO_draw_61 (fun H locs hP hD hS => ?_)
            have hP : va_P (dC, dI) vwCl [(hM, .inr (8, [.int (nI 0), .int (nI k), .int (nI n), .ref z1, .ref z2, .int (nI iS), .int (nI sc), .int (nI sn), .int (nI mv), .int (nI sg), .ref z3, .ref z4, .ref z5, .ref z6, .ref z7, .ref z8, .ref z9, .int (nI ((dgN sf q i) + 1)), .ref z10, .ref z11, .ref z12, .ref z13, .ref z14, .int (nI gc)])), (z3, .inl (cI, 24, .inl (fun j9 => oI (sf j9)))), (z9, .inl (cI, 24, .inl (fun j9 => nI ((va_up (dgR sf q wr i) (dgN sf q i) i) j9))))] H := hP
            have hD : va_D A [(hM, .inr (8, [.int (nI 0), .int (nI k), .int (nI n), .ref z1, .ref z2, .int (nI iS), .int (nI sc), .int (nI sn), .int (nI mv), .int (nI sg), .ref z3, .ref z4, .ref z5, .ref z6, .ref z7, .ref z8, .ref z9, .int (nI ((dgN sf q i) + 1)), .ref z10, .ref z11, .ref z12, .ref z13, .ref z14, .int (nI gc)])), (z3, .inl (cI, 24, .inl (fun j9 => oI (sf j9)))), (z9, .inl (cI, 24, .inl (fun j9 => nI ((va_up (dgR sf q wr i) (dgN sf q i) i) j9))))] := hD
            refine lv_iinc (v := nI (i + 1)) (lv' := [(4, .int (nI (i + 1))), (0, .ref hM), (1, .int (nI q)), (2, .long z)]) hx hb dMO_draw_64 hl (k := 0) rfl (hr_inc _) (by decide) rfl (fun ls hl => ?_)
            refine lv_goto (tgt := 23) hx hb dMO_draw_67 (by decide) ?_
            rw [← dgN_hit hsi, ← dgR_hit hsi] at hP hD
            exact ih_23 (i + 1) (by omega) (by omega) _ _ hP hD hS ls (lv_sub hl [0, 1, 2, 3] rfl)
    exact loop_23 (sn + 1) 0 (by omega) (by omega) _ _ hP hD hS ls (lv_sub hl [0, 1, 2, 3] rfl)
  · refine lv_iconst (v := (-1)) hx hb dMO_draw_13 (by decide +kernel) ?_
    have ez : drwN sc x = none := if_pos c_1
    rw [← hQe]
    exact W.iret (v := (-1)) hx hb hr (fun t ht hW => ⟨⟨_, (), rfl, by rw [ez]; first | rfl | simp, by rw [ht, ez]; exact hP, by rw [ez]; exact hD⟩, hS.F ht⟩) hS.2.2 dMO_draw_14

set_option maxHeartbeats 400000 in
set_option maxRecDepth 100000 in
/-- gathers -/
theorem c_MO_gathers (l : Launch) (dC : Nat → ClassId) (dI : Nat → Nat → Nat) (cI cZ cG : ClassId) (hM : Nat) (z1 : Nat) (z2 : Nat) (z3 : Nat) (z4 : Nat) (z5 : Nat) (z6 : Nat) (z7 : Nat) (z8 : Nat) (z9 : Nat) (z10 : Nat) (z11 : Nat) (z12 : Nat) (z13 : Nat) (z14 : Nat) (th : Nat) (k : Nat) (n : Nat) (iS : Nat) (sc : Nat) (sn : Nat) (mv : Nat) (sg : Nat) (dn : Nat) (gc : Nat) (tf : Nat → Nat) (ff : Nat → Nat) (gF : Nat → Nat) (gT : Nat → Nat) (sz : Nat) (hn : n ≤ 24) (ht : ∀ j, j < n → tf j ≤ 100000) (hf : ∀ j, j < n → ff j ≤ j) : Met l yMO_gathers wsMO_gathers ({ frames := 1, cells := 0, slots := 0, locals := 24 }) (va_Pc [.ref hM] (fun U => U.heap.size = sz ∧ va_P (dC, dI) vwCl [(hM, .inr (8, [.int (nI th), .int (nI k), .int (nI n), .ref z1, .ref z2, .int (nI iS), .int (nI sc), .int (nI sn), .int (nI mv), .int (nI sg), .ref z3, .ref z4, .ref z5, .ref z6, .ref z7, .ref z8, .ref z9, .int (nI dn), .ref z10, .ref z11, .ref z12, .ref z13, .ref z14, .int (nI gc)])), (z1, .inl (cI, 24, .inl (fun j9 => nI (tf j9)))), (z2, .inl (cI, 24, .inl (fun j9 => nI (ff j9)))), (z10, .inl (cI, 24, .inl (fun j9 => nI (gF j9)))), (z11, .inl (cI, 24, .inl (fun j9 => nI (gT j9))))] U.heap ∧ KX dC dI cI cZ cG U ∧ va_D (fun _ => True) [(hM, .inr (8, [.int (nI th), .int (nI k), .int (nI n), .ref z1, .ref z2, .int (nI iS), .int (nI sc), .int (nI sn), .int (nI mv), .int (nI sg), .ref z3, .ref z4, .ref z5, .ref z6, .ref z7, .ref z8, .ref z9, .int (nI dn), .ref z10, .ref z11, .ref z12, .ref z13, .ref z14, .int (nI gc)])), (z1, .inl (cI, 24, .inl (fun j9 => nI (tf j9)))), (z2, .inl (cI, 24, .inl (fun j9 => nI (ff j9)))), (z10, .inl (cI, 24, .inl (fun j9 => nI (gF j9)))), (z11, .inl (cI, 24, .inl (fun j9 => nI (gT j9))))])) (va_Qv (fun (u : (Nat → Nat) × (Nat → Nat)) => mInv ff tf (meanN tf n) n n u.1 u.2) (fun u t => va_P (dC, dI) vwCl [(hM, .inr (8, [.int (nI 0), .int (nI k), .int (nI n), .ref z1, .ref z2, .int (nI iS), .int (nI sc), .int (nI sn), .int (nI mv), .int (nI sg), .ref z3, .ref z4, .ref z5, .ref z6, .ref z7, .ref z8, .ref z9, .int (nI dn), .ref z10, .ref z11, .ref z12, .ref z13, .ref z14, .int (nI (grpN ff n))])), (z1, .inl (cI, 24, .inl (fun j9 => nI (tf j9)))), (z2, .inl (cI, 24, .inl (fun j9 => nI (ff j9)))), (z10, .inl (cI, 24, .inl (fun j9 => nI (u.1 j9)))), (z11, .inl (cI, 24, .inl (fun j9 => nI (u.2 j9))))] t.heap ∧ va_D (va_A [(hM, .inr (8, [.int (nI th), .int (nI k), .int (nI n), .ref z1, .ref z2, .int (nI iS), .int (nI sc), .int (nI sn), .int (nI mv), .int (nI sg), .ref z3, .ref z4, .ref z5, .ref z6, .ref z7, .ref z8, .ref z9, .int (nI dn), .ref z10, .ref z11, .ref z12, .ref z13, .ref z14, .int (nI gc)])), (z1, .inl (cI, 24, .inl (fun j9 => nI (tf j9)))), (z2, .inl (cI, 24, .inl (fun j9 => nI (ff j9)))), (z10, .inl (cI, 24, .inl (fun j9 => nI (gF j9)))), (z11, .inl (cI, 24, .inl (fun j9 => nI (gT j9))))] sz) [(hM, .inr (8, [.int (nI 0), .int (nI k), .int (nI n), .ref z1, .ref z2, .int (nI iS), .int (nI sc), .int (nI sn), .int (nI mv), .int (nI sg), .ref z3, .ref z4, .ref z5, .ref z6, .ref z7, .ref z8, .ref z9, .int (nI dn), .ref z10, .ref z11, .ref z12, .ref z13, .ref z14, .int (nI (grpN ff n))])), (z1, .inl (cI, 24, .inl (fun j9 => nI (tf j9)))), (z2, .inl (cI, 24, .inl (fun j9 => nI (ff j9)))), (z10, .inl (cI, 24, .inl (fun j9 => nI (u.1 j9)))), (z11, .inl (cI, 24, .inl (fun j9 => nI (u.2 j9))))]) (va_A [(hM, .inr (8, [.int (nI th), .int (nI k), .int (nI n), .ref z1, .ref z2, .int (nI iS), .int (nI sc), .int (nI sn), .int (nI mv), .int (nI sg), .ref z3, .ref z4, .ref z5, .ref z6, .ref z7, .ref z8, .ref z9, .int (nI dn), .ref z10, .ref z11, .ref z12, .ref z13, .ref z14, .int (nI gc)])), (z1, .inl (cI, 24, .inl (fun j9 => nI (tf j9)))), (z2, .inl (cI, 24, .inl (fun j9 => nI (ff j9)))), (z10, .inl (cI, 24, .inl (fun j9 => nI (gF j9)))), (z11, .inl (cI, 24, .inl (fun j9 => nI (gT j9))))] sz)) 0 0 (va_A [(hM, .inr (8, [.int (nI th), .int (nI k), .int (nI n), .ref z1, .ref z2, .int (nI iS), .int (nI sc), .int (nI sn), .int (nI mv), .int (nI sg), .ref z3, .ref z4, .ref z5, .ref z6, .ref z7, .ref z8, .ref z9, .int (nI dn), .ref z10, .ref z11, .ref z12, .ref z13, .ref z14, .int (nI gc)])), (z1, .inl (cI, 24, .inl (fun j9 => nI (tf j9)))), (z2, .inl (cI, 24, .inl (fun j9 => nI (ff j9)))), (z10, .inl (cI, 24, .inl (fun j9 => nI (gF j9)))), (z11, .inl (cI, 24, .inl (fun j9 => nI (gT j9))))] sz) := by
  refine Met.ofW (cc := cMO_gathers) (maxL := 4) (ret := none) (by decide) rfl ?_
  intro p e s m args below meth c s₁ B hml hv
  obtain ⟨rfl, hsz, hP, hKX, hD0⟩ := hv
  have hK := hKX.1
  have hx := B.exec
  have hb := B.bytes
  have hr := B.returns
  have hts := atoms_spec (ws := wsMO_gathers) B.pre
  have hown : s.vm.findClass RMO = some m.cls := findClass_of_methodNamed B.named
  have hlocks := B.notSynchronized
  subst hsz
  have hD := hD0.self (sz := s.heap.size)
  generalize hAe : va_A [(hM, .inr (8, [.int (nI th), .int (nI k), .int (nI n), .ref z1, .ref z2, .int (nI iS), .int (nI sc), .int (nI sn), .int (nI mv), .int (nI sg), .ref z3, .ref z4, .ref z5, .ref z6, .ref z7, .ref z8, .ref z9, .int (nI dn), .ref z10, .ref z11, .ref z12, .ref z13, .ref z14, .int (nI gc)])), (z1, .inl (cI, 24, .inl (fun j9 => nI (tf j9)))), (z2, .inl (cI, 24, .inl (fun j9 => nI (ff j9)))), (z10, .inl (cI, 24, .inl (fun j9 => nI (gF j9)))), (z11, .inl (cI, 24, .inl (fun j9 => nI (gT j9))))] s.heap.size = A at hD ⊢
  have hA : ∀ q : Nat, s.heap.size ≤ q → A q := fun q h => by rw [← hAe]; exact Or.inr h
  have hS : va_S A s.heap s.heap [] := va_S.rf
  have hl := lv_entry ([.ref hM]) (n := 4) (Nat.le_of_ble_eq_true rfl)
  rw [lg_entry_eq]
  generalize (lg_sl ([.ref hM]) ++ List.replicate (4 - (lg_sl ([.ref hM])).length) Slot.unset).toArray = ls at hl ⊢
  have hl : lv_has ls 4 [(0, .ref hM)] := hl
  generalize hRe : (headSpec wsMO_gathers ({ frames := 1, cells := 0, slots := 0, locals := 24 })).room = R
  have hRf : 1 ≤ R.frames := by rw [← hRe]; exact Nat.le_refl _
  have hRl : 24 ≤ R.locals := by rw [← hRe]; exact Nat.le_refl _
  have hRc : 0 ≤ R.cells := by rw [← hRe]; exact Nat.le_refl _
  have hRs : 0 ≤ R.slots := by rw [← hRe]; exact Nat.le_refl _
  generalize hargs : (List.toArray [.ref hM] : Array Value) = args at hts ⊢
  generalize hQe : MQ below _ args s _ _ _ = Q
  refine lv_aload_n hx hb dMO_gathers_0 rfl (lv_at hl 0 rfl) ?_
  refine hr_calli (wr := [(z2, .inl (cI, 24, .inl (fun j9 => nI (ff j9)))), (z10, .inl (cI, 24, .inl (fun j9 => nI (gF j9)))), (z11, .inl (cI, 24, .inl (fun j9 => nI (gT j9))))]) (va_runV (C := RMO) (As := []) (rest := []) ⟨hx, hb, hml, hown, hts⟩ (c_MO_mean l dC dI cI cZ cG hM z1 z2 z3 z4 z5 z6 z7 z8 z9 z10 z11 z12 z13 z14 th k n iS sc sn mv sg dn gc tf s.heap.size (hn) (ht)) (hr_cwV 0 hts kw_622 kw_607 kw_608 kw_33 kw_609 (by decide +kernel) (by rw [← hRe]; exact ⟨Nat.le_of_ble_eq_true rfl, Nat.le_of_ble_eq_true rfl⟩)) (hr_preW hKX hP hD [0, 1] (by decide) rfl (ci := 8) (q0 := 0) (q := (RMO, TMO, 24)) rfl rfl) rfl rfl hl.1 rfl (lv_room (Nat.le_of_ble_eq_true rfl)) dMO_gathers_1 ⟨by omega, by omega⟩) hP hD hS hA [0, 1] [2, 3, 4] rfl rfl (by decide) (by decide) [3, 4, 0, 1, 2] (fun u => [(hM, .inr (8, [.int (nI 0), .int (nI k), .int (nI n), .ref z1, .ref z2, .int (nI iS), .int (nI sc), .int (nI sn), .int (nI mv), .int (nI sg), .ref z3, .ref z4, .ref z5, .ref z6, .ref z7, .ref z8, .ref z9, .int (nI dn), .ref z10, .ref z11, .ref z12, .ref z13, .ref z14, .int (nI gc)])), (z1, .inl (cI, 24, .inl (fun j9 => nI (tf j9)))), (z2, .inl (cI, 24, .inl (fun j9 => nI (ff j9)))), (z10, .inl (cI, 24, .inl (fun j9 => nI (gF j9)))), (z11, .inl (cI, 24, .inl (fun j9 => nI (gT j9))))]) (by decide) (fun u => rfl) (fun rv u H locs hrv hP hD hS => ?_)
  have hP : va_P (dC, dI) vwCl [(hM, .inr (8, [.int (nI 0), .int (nI k), .int (nI n), .ref z1, .ref z2, .int (nI iS), .int (nI sc), .int (nI sn), .int (nI mv), .int (nI sg), .ref z3, .ref z4, .ref z5, .ref z6, .ref z7, .ref z8, .ref z9, .int (nI dn), .ref z10, .ref z11, .ref z12, .ref z13, .ref z14, .int (nI gc)])), (z1, .inl (cI, 24, .inl (fun j9 => nI (tf j9)))), (z2, .inl (cI, 24, .inl (fun j9 => nI (ff j9)))), (z10, .inl (cI, 24, .inl (fun j9 => nI (gF j9)))), (z11, .inl (cI, 24, .inl (fun j9 => nI (gT j9))))] H := hP
  have hD : va_D A [(hM, .inr (8, [.int (nI 0), .int (nI k), .int (nI n), .ref z1, .ref z2, .int (nI iS), .int (nI sc), .int (nI sn), .int (nI mv), .int (nI sg), .ref z3, .ref z4, .ref z5, .ref z6, .ref z7, .ref z8, .ref z9, .int (nI dn), .ref z10, .ref z11, .ref z12, .ref z13, .ref z14, .int (nI gc)])), (z1, .inl (cI, 24, .inl (fun j9 => nI (tf j9)))), (z2, .inl (cI, 24, .inl (fun j9 => nI (ff j9)))), (z10, .inl (cI, 24, .inl (fun j9 => nI (gF j9)))), (z11, .inl (cI, 24, .inl (fun j9 => nI (gT j9))))] := hD
  refine hr_eqi hrv ?_
  refine lv_istore_n (lv' := [(1, .int (nI (meanN tf n))), (0, .ref hM)]) hx hb dMO_gathers_4 rfl hl (by decide) rfl (fun ls hl => ?_)
  refine lv_aload_n hx hb dMO_gathers_5 rfl (lv_at hl 1 rfl) ?_
  refine lv_iconst (v := nI 0) hx hb dMO_gathers_6 (by decide +kernel) ?_
  refine va_put (D := (dC, dI)) (ci := 8) (v := .int (nI 0)) (ty := .int) (C := RMO) (T := TMO) (N := 24) hx hb hts (fun w h => List.mem_cons_of_mem _ (inMO w h)) tyMO tyMO_ok nmMO hown hK hP hD hS 0 rfl rfl 23 (by decide) (hts _ (List.mem_cons_of_mem _ kw_532)) (fun _ h9 => h9) rfl (by decide +kernel) rfl rfl (Nat.le_of_ble_eq_true rfl) dMO_gathers_7 (fun H locs hP hD hS => ?_)
  have hP : va_P (dC, dI) vwCl [(hM, .inr (8, [.int (nI 0), .int (nI k), .int (nI n), .ref z1, .ref z2, .int (nI iS), .int (nI sc), .int (nI sn), .int (nI mv), .int (nI sg), .ref z3, .ref z4, .ref z5, .ref z6, .ref z7, .ref z8, .ref z9, .int (nI dn), .ref z10, .ref z11, .ref z12, .ref z13, .ref z14, .int (nI 0)])), (z1, .inl (cI, 24, .inl (fun j9 => nI (tf j9)))), (z2, .inl (cI, 24, .inl (fun j9 => nI (ff j9)))), (z10, .inl (cI, 24, .inl (fun j9 => nI (gF j9)))), (z11, .inl (cI, 24, .inl (fun j9 => nI (gT j9))))] H := hP
  have hD : va_D A [(hM, .inr (8, [.int (nI 0), .int (nI k), .int (nI n), .ref z1, .ref z2, .int (nI iS), .int (nI sc), .int (nI sn), .int (nI mv), .int (nI sg), .ref z3, .ref z4, .ref z5, .ref z6, .ref z7, .ref z8, .ref z9, .int (nI dn), .ref z10, .ref z11, .ref z12, .ref z13, .ref z14, .int (nI 0)])), (z1, .inl (cI, 24, .inl (fun j9 => nI (tf j9)))), (z2, .inl (cI, 24, .inl (fun j9 => nI (ff j9)))), (z10, .inl (cI, 24, .inl (fun j9 => nI (gF j9)))), (z11, .inl (cI, 24, .inl (fun j9 => nI (gT j9))))] := hD
  refine lv_iconst (v := nI 0) hx hb dMO_gathers_10 (by decide +kernel) ?_
  refine lv_istore_n (lv' := [(2, .int (nI 0)), (1, .int (nI (meanN tf n))), (0, .ref hM)]) hx hb dMO_gathers_11 rfl hl (by decide) rfl (fun ls hl => ?_)
  have loop_12 : ∀ (n9 : Nat) (t : Nat) (uF : Nat → Nat) (uT : Nat → Nat), t ≤ n → mInv ff tf (meanN tf n) n t uF uT → n + 1 ≤ t + n9 → ∀ (H : Heap) (locs : List Loc), va_P (dC, dI) vwCl [(hM, .inr (8, [.int (nI 0), .int (nI k), .int (nI n), .ref z1, .ref z2, .int (nI iS), .int (nI sc), .int (nI sn), .int (nI mv), .int (nI sg), .ref z3, .ref z4, .ref z5, .ref z6, .ref z7, .ref z8, .ref z9, .int (nI dn), .ref z10, .ref z11, .ref z12, .ref z13, .ref z14, .int (nI (grpN ff t))])), (z1, .inl (cI, 24, .inl (fun j9 => nI (tf j9)))), (z2, .inl (cI, 24, .inl (fun j9 => nI (ff j9)))), (z10, .inl (cI, 24, .inl (fun j9 => nI (uF j9)))), (z11, .inl (cI, 24, .inl (fun j9 => nI (uT j9))))] H → va_D A [(hM, .inr (8, [.int (nI 0), .int (nI k), .int (nI n), .ref z1, .ref z2, .int (nI iS), .int (nI sc), .int (nI sn), .int (nI mv), .int (nI sg), .ref z3, .ref z4, .ref z5, .ref z6, .ref z7, .ref z8, .ref z9, .int (nI dn), .ref z10, .ref z11, .ref z12, .ref z13, .ref z14, .int (nI (grpN ff t))])), (z1, .inl (cI, 24, .inl (fun j9 => nI (tf j9)))), (z2, .inl (cI, 24, .inl (fun j9 => nI (ff j9)))), (z10, .inl (cI, 24, .inl (fun j9 => nI (uF j9)))), (z11, .inl (cI, 24, .inl (fun j9 => nI (uT j9))))] → va_S A s.heap H locs → ∀ (ls : Array Slot), lv_has ls 4 [(2, .int (nI t)), (1, .int (nI (meanN tf n))), (0, .ref hM)] → W p l e R s m args below meth c H locs 0 0 Q (F0 m 12 ls []) := by
    intro n9
    induction n9 with
    | zero =>
      intro t uF uT htn hg hmeas
      exact absurd hmeas (by omega)
    | succ n9 ih_12 =>
      intro t uF uT htn hg hmeas H locs hP hD hS ls hl
      have hgl := grpN_le ff t
      refine lv_iload_n hx hb dMO_gathers_12 rfl (lv_at hl 0 rfl) ?_
      refine lv_aload_n hx hb dMO_gathers_13 rfl (lv_at hl 2 rfl) ?_
      refine va_get (D := (dC, dI)) (ci := 8) (v := .int (nI n)) (C := RMO) (T := TMO) (N := 24) hx hb hts (fun w h => List.mem_cons_of_mem _ (inMO w h)) hown hK hP 0 rfl rfl 2 (by decide) (hts _ (List.mem_cons_of_mem _ kw_511)) (fun _ h9 => h9) rfl dMO_gathers_14 ?_
      refine hr_icmp_ge hx hb (x := t) (y := n) (by omega) (by omega) (tgt := 130) dMO_gathers_17 (by decide) (fun c_1 => ?_) (fun c_1 => ?_)
      · have ei : n = t := by omega
        subst ei
        rw [← hQe]
        exact W.vret hx hb hr (fun t ht hW => ⟨⟨(uF, uT), rfl, hg, by rw [ht]; exact hP, hD⟩, hS.F ht⟩) hS.2.2 dMO_gathers_130
      · have hf1 := hf t (by omega)
        refine lv_aload_n hx hb dMO_gathers_20 rfl (lv_at hl 2 rfl) ?_
        refine va_get (D := (dC, dI)) (ci := 8) (v := .ref z2) (C := RMO) (T := TMO) (N := 24) hx hb hts (fun w h => List.mem_cons_of_mem _ (inMO w h)) hown hK hP 0 rfl rfl 4 (by decide) (hts _ (List.mem_cons_of_mem _ kw_513)) (fun _ h9 => h9) rfl dMO_gathers_21 ?_
        refine lv_iload_n hx hb dMO_gathers_24 rfl (lv_at hl 0 rfl) ?_
        refine hr_iald hx hb hK hP 2 0 rfl rfl (i := t) (by omega) (by omega) dMO_gathers_25 ?_
        refine lv_iload_n hx hb dMO_gathers_26 rfl (lv_at hl 0 rfl) ?_
        refine hr_icmp_eq hx hb (x := (ff t)) (y := t) (by omega) (by omega) (tgt := 33) dMO_gathers_27 (by decide) (fun c_2 => ?_) (fun c_2 => ?_)
        · have hft : ff t = t := c_2
          refine lv_aload_n hx hb dMO_gathers_33 rfl (lv_at hl 2 rfl) ?_
          refine va_get (D := (dC, dI)) (ci := 8) (v := .ref z10) (C := RMO) (T := TMO) (N := 24) hx hb hts (fun w h => List.mem_cons_of_mem _ (inMO w h)) hown hK hP 0 rfl rfl 18 (by decide) (hts _ (List.mem_cons_of_mem _ kw_527)) (fun _ h9 => h9) rfl dMO_gathers_34 ?_
          refine lv_aload_n hx hb dMO_gathers_37 rfl (lv_at hl 2 rfl) ?_
          refine va_get (D := (dC, dI)) (ci := 8) (v := .int (nI (grpN ff t))) (C := RMO) (T := TMO) (N := 24) hx hb hts (fun w h => List.mem_cons_of_mem _ (inMO w h)) hown hK hP 0 rfl rfl 23 (by decide) (hts _ (List.mem_cons_of_mem _ kw_532)) (fun _ h9 => h9) rfl dMO_gathers_38 ?_
          refine lv_iload_n hx hb dMO_gathers_41 rfl (lv_at hl 0 rfl) ?_
          refine hr_iastN hx hb hK hP hD hS 3 0 rfl rfl (i := (grpN ff t)) (by omega) (by omega) dMO_gathers_42 (fun H locs hP hD hS => ?_)
          have hP : va_P (dC, dI) vwCl [(hM, .inr (8, [.int (nI 0), .int (nI k), .int (nI n), .ref z1, .ref z2, .int (nI iS), .int (nI sc), .int (nI sn), .int (nI mv), .int (nI sg), .ref z3, .ref z4, .ref z5, .ref z6, .ref z7, .ref z8, .ref z9, .int (nI dn), .ref z10, .ref z11, .ref z12, .ref z13, .ref z14, .int (nI (grpN ff t))])), (z1, .inl (cI, 24, .inl (fun j9 => nI (tf j9)))), (z2, .inl (cI, 24, .inl (fun j9 => nI (ff j9)))), (z10, .inl (cI, 24, .inl (fun j9 => nI ((va_up uF (grpN ff t) t) j9)))), (z11, .inl (cI, 24, .inl (fun j9 => nI (uT j9))))] H := hP
          have hD : va_D A [(hM, .inr (8, [.int (nI 0), .int (nI k), .int (nI n), .ref z1, .ref z2, .int (nI iS), .int (nI sc), .int (nI sn), .int (nI mv), .int (nI sg), .ref z3, .ref z4, .ref z5, .ref z6, .ref z7, .ref z8, .ref z9, .int (nI dn), .ref z10, .ref z11, .ref z12, .ref z13, .ref z14, .int (nI (grpN ff t))])), (z1, .inl (cI, 24, .inl (fun j9 => nI (tf j9)))), (z2, .inl (cI, 24, .inl (fun j9 => nI (ff j9)))), (z10, .inl (cI, 24, .inl (fun j9 => nI ((va_up uF (grpN ff t) t) j9)))), (z11, .inl (cI, 24, .inl (fun j9 => nI (uT j9))))] := hD
          refine lv_aload_n hx hb dMO_gathers_43 rfl (lv_at hl 2 rfl) ?_
          refine va_get (D := (dC, dI)) (ci := 8) (v := .ref z11) (C := RMO) (T := TMO) (N := 24) hx hb hts (fun w h => List.mem_cons_of_mem _ (inMO w h)) hown hK hP 0 rfl rfl 19 (by decide) (hts _ (List.mem_cons_of_mem _ kw_528)) (fun _ h9 => h9) rfl dMO_gathers_44 ?_
          refine lv_aload_n hx hb dMO_gathers_47 rfl (lv_at hl 2 rfl) ?_
          refine va_get (D := (dC, dI)) (ci := 8) (v := .int (nI (grpN ff t))) (C := RMO) (T := TMO) (N := 24) hx hb hts (fun w h => List.mem_cons_of_mem _ (inMO w h)) hown hK hP 0 rfl rfl 23 (by decide) (hts _ (List.mem_cons_of_mem _ kw_532)) (fun _ h9 => h9) rfl dMO_gathers_48 ?_
          refine lv_iconst (v := nI 0) hx hb dMO_gathers_51 (by decide +kernel) ?_
          refine hr_iastN hx hb hK hP hD hS 4 0 rfl rfl (i := (grpN ff t)) (by omega) (by omega) dMO_gathers_52 (fun H locs hP hD hS => ?_)
          have hP : va_P (dC, dI) vwCl [(hM, .inr (8, [.int (nI 0), .int (nI k), .int (nI n), .ref z1, .ref z2, .int (nI iS), .int (nI sc), .int (nI sn), .int (nI mv), .int (nI sg), .ref z3, .ref z4, .ref z5, .ref z6, .ref z7, .ref z8, .ref z9, .int (nI dn), .ref z10, .ref z11, .ref z12, .ref z13, .ref z14, .int (nI (grpN ff t))])), (z1, .inl (cI, 24, .inl (fun j9 => nI (tf j9)))), (z2, .inl (cI, 24, .inl (fun j9 => nI (ff j9)))), (z10, .inl (cI, 24, .inl (fun j9 => nI ((va_up uF (grpN ff t) t) j9)))), (z11, .inl (cI, 24, .inl (fun j9 => nI ((va_up uT (grpN ff t) 0) j9))))] H := hP
          have hD : va_D A [(hM, .inr (8, [.int (nI 0), .int (nI k), .int (nI n), .ref z1, .ref z2, .int (nI iS), .int (nI sc), .int (nI sn), .int (nI mv), .int (nI sg), .ref z3, .ref z4, .ref z5, .ref z6, .ref z7, .ref z8, .ref z9, .int (nI dn), .ref z10, .ref z11, .ref z12, .ref z13, .ref z14, .int (nI (grpN ff t))])), (z1, .inl (cI, 24, .inl (fun j9 => nI (tf j9)))), (z2, .inl (cI, 24, .inl (fun j9 => nI (ff j9)))), (z10, .inl (cI, 24, .inl (fun j9 => nI ((va_up uF (grpN ff t) t) j9)))), (z11, .inl (cI, 24, .inl (fun j9 => nI ((va_up uT (grpN ff t) 0) j9))))] := hD
          refine lv_iload_n hx hb dMO_gathers_53 rfl (lv_at hl 0 rfl) ?_
          refine lv_istore_n (lv' := [(3, .int (nI t)), (2, .int (nI t)), (1, .int (nI (meanN tf n))), (0, .ref hM)]) hx hb dMO_gathers_54 rfl hl (by decide) rfl (fun ls hl => ?_)
          have loop_55 : ∀ (n9 : Nat) (u : Nat) (vT : Nat → Nat), u ≤ n → t ≤ u → vT (grpN ff t) = wT ff (efT tf (meanN tf n)) t u → (∀ g, g < grpN ff t → vT g = uT g) → n + 1 ≤ u + n9 → ∀ (H : Heap) (locs : List Loc), va_P (dC, dI) vwCl [(hM, .inr (8, [.int (nI 0), .int (nI k), .int (nI n), .ref z1, .ref z2, .int (nI iS), .int (nI sc), .int (nI sn), .int (nI mv), .int (nI sg), .ref z3, .ref z4, .ref z5, .ref z6, .ref z7, .ref z8, .ref z9, .int (nI dn), .ref z10, .ref z11, .ref z12, .ref z13, .ref z14, .int (nI (grpN ff t))])), (z1, .inl (cI, 24, .inl (fun j9 => nI (tf j9)))), (z2, .inl (cI, 24, .inl (fun j9 => nI (ff j9)))), (z10, .inl (cI, 24, .inl (fun j9 => nI ((va_up uF (grpN ff t) t) j9)))), (z11, .inl (cI, 24, .inl (fun j9 => nI (vT j9))))] H → va_D A [(hM, .inr (8, [.int (nI 0), .int (nI k), .int (nI n), .ref z1, .ref z2, .int (nI iS), .int (nI sc), .int (nI sn), .int (nI mv), .int (nI sg), .ref z3, .ref z4, .ref z5, .ref z6, .ref z7, .ref z8, .ref z9, .int (nI dn), .ref z10, .ref z11, .ref z12, .ref z13, .ref z14, .int (nI (grpN ff t))])), (z1, .inl (cI, 24, .inl (fun j9 => nI (tf j9)))), (z2, .inl (cI, 24, .inl (fun j9 => nI (ff j9)))), (z10, .inl (cI, 24, .inl (fun j9 => nI ((va_up uF (grpN ff t) t) j9)))), (z11, .inl (cI, 24, .inl (fun j9 => nI (vT j9))))] → va_S A s.heap H locs → ∀ (ls : Array Slot), lv_has ls 4 [(3, .int (nI u)), (2, .int (nI t)), (1, .int (nI (meanN tf n))), (0, .ref hM)] → W p l e R s m args below meth c H locs 0 0 Q (F0 m 55 ls []) := by
            intro n9
            induction n9 with
            | zero =>
              intro u vT hu hu2 hw1 hw2 hmeas
              exact absurd hmeas (by omega)
            | succ n9 ih_55 =>
              intro u vT hu hu2 hw1 hw2 hmeas H locs hP hD hS ls hl
              refine lv_iload_n hx hb dMO_gathers_55 rfl (lv_at hl 0 rfl) ?_
              refine lv_aload_n hx hb dMO_gathers_56 rfl (lv_at hl 3 rfl) ?_
              refine va_get (D := (dC, dI)) (ci := 8) (v := .int (nI n)) (C := RMO) (T := TMO) (N := 24) hx hb hts (fun w h => List.mem_cons_of_mem _ (inMO w h)) hown hK hP 0 rfl rfl 2 (by decide) (hts _ (List.mem_cons_of_mem _ kw_511)) (fun _ h9 => h9) rfl dMO_gathers_57 ?_
              refine hr_icmp_ge hx hb (x := u) (y := n) (by omega) (by omega) (tgt := 114) dMO_gathers_60 (by decide) (fun c_3 => ?_) (fun c_3 => ?_)
              · refine lv_aload_n hx hb dMO_gathers_114 rfl (lv_at hl 3 rfl) ?_
                refine lv_dup hx hb dMO_gathers_115 rfl ?_
                refine va_get (D := (dC, dI)) (ci := 8) (v := .int (nI (grpN ff t))) (C := RMO) (T := TMO) (N := 24) hx hb hts (fun w h => List.mem_cons_of_mem _ (inMO w h)) hown hK hP 0 rfl rfl 23 (by decide) (hts _ (List.mem_cons_of_mem _ kw_532)) (fun _ h9 => h9) rfl dMO_gathers_116 ?_
                refine lv_iconst (v := nI 1) hx hb dMO_gathers_119 (by decide +kernel) ?_
                refine lv_iadd hx hb dMO_gathers_120 ?_
                refine hr_eqi (nI_add _ _) ?_
                refine va_put (D := (dC, dI)) (ci := 8) (v := .int (nI ((grpN ff t) + 1))) (ty := .int) (C := RMO) (T := TMO) (N := 24) hx hb hts (fun w h => List.mem_cons_of_mem _ (inMO w h)) tyMO tyMO_ok nmMO hown hK hP hD hS 0 rfl rfl 23 (by decide) (hts _ (List.mem_cons_of_mem _ kw_532)) (fun _ h9 => h9) rfl (by decide +kernel) rfl rfl (Nat.le_of_ble_eq_true rfl) dMO_gathers_121 (fun H locs hP hD hS => ?_)
                have hP : va_P (dC, dI) vwCl [(hM, .inr (8, [.int (nI 0), .int (nI k), .int (nI n), .ref z1, .ref z2, .int (nI iS), .int (nI sc), .int (nI sn), .int (nI mv), .int (nI sg), .ref z3, .ref z4, .ref z5, .ref z6, .ref z7, .ref z8, .ref z9, .int (nI dn), .ref z10, .ref z11, .ref z12, .ref z13, .ref z14, .int (nI ((grpN ff t) + 1))])), (z1, .inl (cI, 24, .inl (fun j9 => nI (tf j9)))), (z2, .inl (cI, 24, .inl (fun j9 => nI (ff j9)))), (z10, .inl (cI, 24, .inl (fun j9 => nI ((va_up uF (grpN ff t) t) j9)))), (z11, .inl (cI, 24, .inl (fun j9 => nI (vT j9))))] H := hP
                have hD : va_D A [(hM, .inr (8, [.int (nI 0), .int (nI k), .int (nI n), .ref z1, .ref z2, .int (nI iS), .int (nI sc), .int (nI sn), .int (nI mv), .int (nI sg), .ref z3, .ref z4, .ref z5, .ref z6, .ref z7, .ref z8, .ref z9, .int (nI dn), .ref z10, .ref z11, .ref z12, .ref z13, .ref z14, .int (nI ((grpN ff t) + 1))])), (z1, .inl (cI, 24, .inl (fun j9 => nI (tf j9)))), (z2, .inl (cI, 24, .inl (fun j9 => nI (ff j9)))), (z10, .inl (cI, 24, .inl (fun j9 => nI ((va_up uF (grpN ff t) t) j9)))), (z11, .inl (cI, 24, .inl (fun j9 => nI (vT j9))))] := hD
                refine lv_iinc (v := nI (t + 1)) (lv' := [(2, .int (nI (t + 1))), (3, .int (nI u)), (1, .int (nI (meanN tf n))), (0, .ref hM)]) hx hb dMO_gathers_124 hl (k := 1) rfl (hr_inc _) (by decide) rfl (fun ls hl => ?_)
                refine lv_goto (tgt := 12) hx hb dMO_gathers_127 (by decide) ?_
                rw [← grpN_s hft] at hP hD
                exact ih_12 (t + 1) (va_up uF (grpN ff t) t) vT (by omega) (fun j hj e => by
      rcases (show j = t ∨ j < t by omega) with z | z
      · subst z; exact ⟨va_up_self _ _ _, by rw [hw1, show u = n by omega]⟩
      · rw [va_up_ne _ _ (by have := grpN_lt (f := ff) e z; omega), hw2 _ (grpN_lt (f := ff) e z)]; exact hg j z e) (by omega) _ _ hP hD hS ls (lv_sub hl [0, 2, 3] rfl)
              · have hf2 := hf u (by omega)
                have ht2 := ht u (by omega)
                refine lv_aload_n hx hb dMO_gathers_63 rfl (lv_at hl 3 rfl) ?_
                refine va_get (D := (dC, dI)) (ci := 8) (v := .ref z11) (C := RMO) (T := TMO) (N := 24) hx hb hts (fun w h => List.mem_cons_of_mem _ (inMO w h)) hown hK hP 0 rfl rfl 19 (by decide) (hts _ (List.mem_cons_of_mem _ kw_528)) (fun _ h9 => h9) rfl dMO_gathers_64 ?_
                refine lv_aload_n hx hb dMO_gathers_67 rfl (lv_at hl 3 rfl) ?_
                refine va_get (D := (dC, dI)) (ci := 8) (v := .int (nI (grpN ff t))) (C := RMO) (T := TMO) (N := 24) hx hb hts (fun w h => List.mem_cons_of_mem _ (inMO w h)) hown hK hP 0 rfl rfl 23 (by decide) (hts _ (List.mem_cons_of_mem _ kw_532)) (fun _ h9 => h9) rfl dMO_gathers_68 ?_
                refine lv_dup2_11 hx hb dMO_gathers_71 rfl rfl ?_
                refine hr_iald hx hb hK hP 4 0 rfl rfl (i := (grpN ff t)) (by omega) (by omega) dMO_gathers_72 ?_
                refine lv_aload_n hx hb dMO_gathers_73 rfl (lv_at hl 3 rfl) ?_
                refine va_get (D := (dC, dI)) (ci := 8) (v := .ref z2) (C := RMO) (T := TMO) (N := 24) hx hb hts (fun w h => List.mem_cons_of_mem _ (inMO w h)) hown hK hP 0 rfl rfl 4 (by decide) (hts _ (List.mem_cons_of_mem _ kw_513)) (fun _ h9 => h9) rfl dMO_gathers_74 ?_
                refine lv_iload_n hx hb dMO_gathers_77 rfl (lv_at hl 0 rfl) ?_
                refine hr_iald hx hb hK hP 2 0 rfl rfl (i := u) (by omega) (by omega) dMO_gathers_78 ?_
                refine lv_iload_n hx hb dMO_gathers_79 rfl (lv_at hl 1 rfl) ?_
                refine hr_icmp_eq hx hb (x := (ff u)) (y := t) (by omega) (by omega) (tgt := 87) dMO_gathers_80 (by decide) (fun c_4 => ?_) (fun c_4 => ?_)
                · refine lv_aload_n hx hb dMO_gathers_87 rfl (lv_at hl 3 rfl) ?_
                  refine va_get (D := (dC, dI)) (ci := 8) (v := .ref z1) (C := RMO) (T := TMO) (N := 24) hx hb hts (fun w h => List.mem_cons_of_mem _ (inMO w h)) hown hK hP 0 rfl rfl 3 (by decide) (hts _ (List.mem_cons_of_mem _ kw_512)) (fun _ h9 => h9) rfl dMO_gathers_88 ?_
                  refine lv_iload_n hx hb dMO_gathers_91 rfl (lv_at hl 0 rfl) ?_
                  refine hr_iald hx hb hK hP 1 0 rfl rfl (i := u) (by omega) (by omega) dMO_gathers_92 ?_
                  refine hr_if_le hx hb (x := (tf u)) (by omega) (tgt := 105) dMO_gathers_93 (by decide) (fun c_5 => ?_) (fun c_5 => ?_)
                  · refine lv_iload_n hx hb dMO_gathers_105 rfl (lv_at hl 2 rfl) ?_
                    refine lv_iadd hx hb dMO_gathers_106 ?_
                    refine hr_eqi (nI_add _ _) ?_
                    refine hr_iastN hx hb hK hP hD hS 4 0 rfl rfl (i := (grpN ff t)) (by omega) (by omega) dMO_gathers_107 (fun H locs hP hD hS => ?_)
                    have hP : va_P (dC, dI) vwCl [(hM, .inr (8, [.int (nI 0), .int (nI k), .int (nI n), .ref z1, .ref z2, .int (nI iS), .int (nI sc), .int (nI sn), .int (nI mv), .int (nI sg), .ref z3, .ref z4, .ref z5, .ref z6, .ref z7, .ref z8, .ref z9, .int (nI dn), .ref z10, .ref z11, .ref z12, .ref z13, .ref z14, .int (nI (grpN ff t))])), (z1, .inl (cI, 24, .inl (fun j9 => nI (tf j9)))), (z2, .inl (cI, 24, .inl (fun j9 => nI (ff j9)))), (z10, .inl (cI, 24, .inl (fun j9 => nI ((va_up uF (grpN ff t) t) j9)))), (z11, .inl (cI, 24, .inl (fun j9 => nI ((va_up vT (grpN ff t) ((vT (grpN ff t)) + meanN tf n)) j9))))] H := hP
                    have hD : va_D A [(hM, .inr (8, [.int (nI 0), .int (nI k), .int (nI n), .ref z1, .ref z2, .int (nI iS), .int (nI sc), .int (nI sn), .int (nI mv), .int (nI sg), .ref z3, .ref z4, .ref z5, .ref z6, .ref z7, .ref z8, .ref z9, .int (nI dn), .ref z10, .ref z11, .ref z12, .ref z13, .ref z14, .int (nI (grpN ff t))])), (z1, .inl (cI, 24, .inl (fun j9 => nI (tf j9)))), (z2, .inl (cI, 24, .inl (fun j9 => nI (ff j9)))), (z10, .inl (cI, 24, .inl (fun j9 => nI ((va_up uF (grpN ff t) t) j9)))), (z11, .inl (cI, 24, .inl (fun j9 => nI ((va_up vT (grpN ff t) ((vT (grpN ff t)) + meanN tf n)) j9))))] := hD
                    refine lv_iinc (v := nI (u + 1)) (lv' := [(3, .int (nI (u + 1))), (2, .int (nI t)), (1, .int (nI (meanN tf n))), (0, .ref hM)]) hx hb dMO_gathers_108 hl (k := 0) rfl (hr_inc _) (by decide) rfl (fun ls hl => ?_)
                    refine lv_goto (tgt := 55) hx hb dMO_gathers_111 (by decide) ?_
                    exact ih_55 (u + 1) (va_up vT (grpN ff t) ((vT (grpN ff t)) + meanN tf n)) (by omega) (by omega) (by rw [va_up_self, hw1, wT_hit c_4]; exact congrArg (wT ff (efT tf (meanN tf n)) t u + ·) (by unfold efT; rw [if_pos (show tf u = 0 by omega)])) (fun g hg9 => by rw [va_up_ne _ _ (by omega)]; exact hw2 g hg9) (by omega) _ _ hP hD hS ls (lv_sub hl [0, 1, 2, 3] rfl)
                  · refine lv_aload_n hx hb dMO_gathers_96 rfl (lv_at hl 3 rfl) ?_
                    refine va_get (D := (dC, dI)) (ci := 8) (v := .ref z1) (C := RMO) (T := TMO) (N := 24) hx hb hts (fun w h => List.mem_cons_of_mem _ (inMO w h)) hown hK hP 0 rfl rfl 3 (by decide) (hts _ (List.mem_cons_of_mem _ kw_512)) (fun _ h9 => h9) rfl dMO_gathers_97 ?_
                    refine lv_iload_n hx hb dMO_gathers_100 rfl (lv_at hl 0 rfl) ?_
                    refine hr_iald hx hb hK hP 1 0 rfl rfl (i := u) (by omega) (by omega) dMO_gathers_101 ?_
                    refine lv_goto (tgt := 106) hx hb dMO_gathers_102 (by decide) ?_
                    refine lv_iadd hx hb dMO_gathers_106 ?_
                    refine hr_eqi (nI_add _ _) ?_
                    refine hr_iastN hx hb hK hP hD hS 4 0 rfl rfl (i := (grpN ff t)) (by omega) (by omega) dMO_gathers_107 (fun H locs hP hD hS => ?_)
                    have hP : va_P (dC, dI) vwCl [(hM, .inr (8, [.int (nI 0), .int (nI k), .int (nI n), .ref z1, .ref z2, .int (nI iS), .int (nI sc), .int (nI sn), .int (nI mv), .int (nI sg), .ref z3, .ref z4, .ref z5, .ref z6, .ref z7, .ref z8, .ref z9, .int (nI dn), .ref z10, .ref z11, .ref z12, .ref z13, .ref z14, .int (nI (grpN ff t))])), (z1, .inl (cI, 24, .inl (fun j9 => nI (tf j9)))), (z2, .inl (cI, 24, .inl (fun j9 => nI (ff j9)))), (z10, .inl (cI, 24, .inl (fun j9 => nI ((va_up uF (grpN ff t) t) j9)))), (z11, .inl (cI, 24, .inl (fun j9 => nI ((va_up vT (grpN ff t) ((vT (grpN ff t)) + (tf u))) j9))))] H := hP
                    have hD : va_D A [(hM, .inr (8, [.int (nI 0), .int (nI k), .int (nI n), .ref z1, .ref z2, .int (nI iS), .int (nI sc), .int (nI sn), .int (nI mv), .int (nI sg), .ref z3, .ref z4, .ref z5, .ref z6, .ref z7, .ref z8, .ref z9, .int (nI dn), .ref z10, .ref z11, .ref z12, .ref z13, .ref z14, .int (nI (grpN ff t))])), (z1, .inl (cI, 24, .inl (fun j9 => nI (tf j9)))), (z2, .inl (cI, 24, .inl (fun j9 => nI (ff j9)))), (z10, .inl (cI, 24, .inl (fun j9 => nI ((va_up uF (grpN ff t) t) j9)))), (z11, .inl (cI, 24, .inl (fun j9 => nI ((va_up vT (grpN ff t) ((vT (grpN ff t)) + (tf u))) j9))))] := hD
                    refine lv_iinc (v := nI (u + 1)) (lv' := [(3, .int (nI (u + 1))), (2, .int (nI t)), (1, .int (nI (meanN tf n))), (0, .ref hM)]) hx hb dMO_gathers_108 hl (k := 0) rfl (hr_inc _) (by decide) rfl (fun ls hl => ?_)
                    refine lv_goto (tgt := 55) hx hb dMO_gathers_111 (by decide) ?_
                    exact ih_55 (u + 1) (va_up vT (grpN ff t) ((vT (grpN ff t)) + (tf u))) (by omega) (by omega) (by rw [va_up_self, hw1, wT_hit c_4]; exact congrArg (wT ff (efT tf (meanN tf n)) t u + ·) (by unfold efT; rw [if_neg (show ¬ tf u = 0 by omega)])) (fun g hg9 => by rw [va_up_ne _ _ (by omega)]; exact hw2 g hg9) (by omega) _ _ hP hD hS ls (lv_sub hl [0, 1, 2, 3] rfl)
                · refine lv_iconst (v := nI 0) hx hb dMO_gathers_83 (by decide +kernel) ?_
                  refine lv_goto (tgt := 106) hx hb dMO_gathers_84 (by decide) ?_
                  refine lv_iadd hx hb dMO_gathers_106 ?_
                  refine hr_eqi (nI_add _ _) ?_
                  refine hr_iastN hx hb hK hP hD hS 4 0 rfl rfl (i := (grpN ff t)) (by omega) (by omega) dMO_gathers_107 (fun H locs hP hD hS => ?_)
                  have hP : va_P (dC, dI) vwCl [(hM, .inr (8, [.int (nI 0), .int (nI k), .int (nI n), .ref z1, .ref z2, .int (nI iS), .int (nI sc), .int (nI sn), .int (nI mv), .int (nI sg), .ref z3, .ref z4, .ref z5, .ref z6, .ref z7, .ref z8, .ref z9, .int (nI dn), .ref z10, .ref z11, .ref z12, .ref z13, .ref z14, .int (nI (grpN ff t))])), (z1, .inl (cI, 24, .inl (fun j9 => nI (tf j9)))), (z2, .inl (cI, 24, .inl (fun j9 => nI (ff j9)))), (z10, .inl (cI, 24, .inl (fun j9 => nI ((va_up uF (grpN ff t) t) j9)))), (z11, .inl (cI, 24, .inl (fun j9 => nI ((va_up vT (grpN ff t) ((vT (grpN ff t)) + 0)) j9))))] H := hP
                  have hD : va_D A [(hM, .inr (8, [.int (nI 0), .int (nI k), .int (nI n), .ref z1, .ref z2, .int (nI iS), .int (nI sc), .int (nI sn), .int (nI mv), .int (nI sg), .ref z3, .ref z4, .ref z5, .ref z6, .ref z7, .ref z8, .ref z9, .int (nI dn), .ref z10, .ref z11, .ref z12, .ref z13, .ref z14, .int (nI (grpN ff t))])), (z1, .inl (cI, 24, .inl (fun j9 => nI (tf j9)))), (z2, .inl (cI, 24, .inl (fun j9 => nI (ff j9)))), (z10, .inl (cI, 24, .inl (fun j9 => nI ((va_up uF (grpN ff t) t) j9)))), (z11, .inl (cI, 24, .inl (fun j9 => nI ((va_up vT (grpN ff t) ((vT (grpN ff t)) + 0)) j9))))] := hD
                  refine lv_iinc (v := nI (u + 1)) (lv' := [(3, .int (nI (u + 1))), (2, .int (nI t)), (1, .int (nI (meanN tf n))), (0, .ref hM)]) hx hb dMO_gathers_108 hl (k := 0) rfl (hr_inc _) (by decide) rfl (fun ls hl => ?_)
                  refine lv_goto (tgt := 55) hx hb dMO_gathers_111 (by decide) ?_
                  exact ih_55 (u + 1) (va_up vT (grpN ff t) ((vT (grpN ff t)) + 0)) (by omega) (by omega) (by rw [va_up_self, hw1, wT_miss c_4]; rfl) (fun g hg9 => by rw [va_up_ne _ _ (by omega)]; exact hw2 g hg9) (by omega) _ _ hP hD hS ls (lv_sub hl [0, 1, 2, 3] rfl)
          exact loop_55 (n + 1) t (va_up uT (grpN ff t) 0) (by omega) (by omega) (by rw [va_up_self, wT_none (fun k hk z => by have := hf k (by omega); omega)]) (fun g hg9 => va_up_ne _ _ (by omega)) (by omega) _ _ hP hD hS ls (lv_sub hl [0, 1, 2, 3] rfl)
        · refine lv_goto (tgt := 124) hx hb dMO_gathers_30 (by decide) ?_
          refine lv_iinc (v := nI (t + 1)) (lv' := [(2, .int (nI (t + 1))), (1, .int (nI (meanN tf n))), (0, .ref hM)]) hx hb dMO_gathers_124 hl (k := 0) rfl (hr_inc _) (by decide) rfl (fun ls hl => ?_)
          refine lv_goto (tgt := 12) hx hb dMO_gathers_127 (by decide) ?_
          rw [← grpN_k (f := ff) c_2] at hP hD
          exact ih_12 (t + 1) uF uT (by omega) (fun j hj e => hg j (by
      rcases (show j = t ∨ j < t by omega) with z | z
      · rw [z] at e; exact absurd e c_2
      · exact z) e) (by omega) _ _ hP hD hS ls (lv_sub hl [0, 1, 2] rfl)
  exact loop_12 (n + 1) 0 gF gT (by omega) (fun j hj => absurd hj (Nat.not_lt_zero _)) (by omega) _ _ hP hD hS ls (lv_sub hl [0, 1, 2] rfl)

set_option maxHeartbeats 400000 in
set_option maxRecDepth 100000 in
/-- length -/
theorem c_MO_length (l : Launch) (dC : Nat → ClassId) (dI : Nat → Nat → Nat) (cI cZ cG : ClassId) (hM : Nat) (z1 : Nat) (z2 : Nat) (z3 : Nat) (z4 : Nat) (z5 : Nat) (z6 : Nat) (z7 : Nat) (z8 : Nat) (z9 : Nat) (z10 : Nat) (z11 : Nat) (z12 : Nat) (z13 : Nat) (z14 : Nat) (th : Nat) (k : Nat) (n : Nat) (iS : Nat) (sc : Nat) (sn : Nat) (mv : Nat) (sg : Nat) (dn : Nat) (gc : Nat) (sm : Nat → Nat) (gT : Nat → Nat) (wy : Nat → Nat) (sz : Nat) (hgc : gc ≤ 24) (hgT : ∀ g, g < gc → gT g ≤ 2400000) (hwy : ∀ g, g < gc → wy g < 4) : Met l yMO_length wsMO_length ({ frames := 0, cells := 0, slots := 0, locals := 0 }) (va_Pc [.ref hM] (fun U => U.heap.size = sz ∧ va_P (dC, dI) vwCl [(hM, .inr (8, [.int (nI th), .int (nI k), .int (nI n), .ref z1, .ref z2, .int (nI iS), .int (nI sc), .int (nI sn), .int (nI mv), .int (nI sg), .ref z3, .ref z4, .ref z5, .ref z6, .ref z7, .ref z8, .ref z9, .int (nI dn), .ref z10, .ref z11, .ref z12, .ref z13, .ref z14, .int (nI gc)])), (z4, .inl (cI, 4, .inl (fun j9 => nI (sm j9)))), (z11, .inl (cI, 24, .inl (fun j9 => nI (gT j9)))), (z12, .inl (cI, 24, .inl (fun j9 => nI (wy j9))))] U.heap ∧ KX dC dI cI cZ cG U ∧ va_D (fun _ => True) [(hM, .inr (8, [.int (nI th), .int (nI k), .int (nI n), .ref z1, .ref z2, .int (nI iS), .int (nI sc), .int (nI sn), .int (nI mv), .int (nI sg), .ref z3, .ref z4, .ref z5, .ref z6, .ref z7, .ref z8, .ref z9, .int (nI dn), .ref z10, .ref z11, .ref z12, .ref z13, .ref z14, .int (nI gc)])), (z4, .inl (cI, 4, .inl (fun j9 => nI (sm j9)))), (z11, .inl (cI, 24, .inl (fun j9 => nI (gT j9)))), (z12, .inl (cI, 24, .inl (fun j9 => nI (wy j9))))])) (va_Qi (fun (r : Int32) (u : Unit) => r = nI (maxS (smA gT wy gc) 4)) (fun u t => va_P (dC, dI) vwCl [(hM, .inr (8, [.int (nI th), .int (nI k), .int (nI n), .ref z1, .ref z2, .int (nI iS), .int (nI sc), .int (nI sn), .int (nI mv), .int (nI sg), .ref z3, .ref z4, .ref z5, .ref z6, .ref z7, .ref z8, .ref z9, .int (nI dn), .ref z10, .ref z11, .ref z12, .ref z13, .ref z14, .int (nI gc)])), (z4, .inl (cI, 4, .inl (fun j9 => nI ((smA gT wy gc) j9)))), (z11, .inl (cI, 24, .inl (fun j9 => nI (gT j9)))), (z12, .inl (cI, 24, .inl (fun j9 => nI (wy j9))))] t.heap ∧ va_D (va_A [(hM, .inr (8, [.int (nI th), .int (nI k), .int (nI n), .ref z1, .ref z2, .int (nI iS), .int (nI sc), .int (nI sn), .int (nI mv), .int (nI sg), .ref z3, .ref z4, .ref z5, .ref z6, .ref z7, .ref z8, .ref z9, .int (nI dn), .ref z10, .ref z11, .ref z12, .ref z13, .ref z14, .int (nI gc)])), (z4, .inl (cI, 4, .inl (fun j9 => nI (sm j9)))), (z11, .inl (cI, 24, .inl (fun j9 => nI (gT j9)))), (z12, .inl (cI, 24, .inl (fun j9 => nI (wy j9))))] sz) [(hM, .inr (8, [.int (nI th), .int (nI k), .int (nI n), .ref z1, .ref z2, .int (nI iS), .int (nI sc), .int (nI sn), .int (nI mv), .int (nI sg), .ref z3, .ref z4, .ref z5, .ref z6, .ref z7, .ref z8, .ref z9, .int (nI dn), .ref z10, .ref z11, .ref z12, .ref z13, .ref z14, .int (nI gc)])), (z4, .inl (cI, 4, .inl (fun j9 => nI ((smA gT wy gc) j9)))), (z11, .inl (cI, 24, .inl (fun j9 => nI (gT j9)))), (z12, .inl (cI, 24, .inl (fun j9 => nI (wy j9))))]) (va_A [(hM, .inr (8, [.int (nI th), .int (nI k), .int (nI n), .ref z1, .ref z2, .int (nI iS), .int (nI sc), .int (nI sn), .int (nI mv), .int (nI sg), .ref z3, .ref z4, .ref z5, .ref z6, .ref z7, .ref z8, .ref z9, .int (nI dn), .ref z10, .ref z11, .ref z12, .ref z13, .ref z14, .int (nI gc)])), (z4, .inl (cI, 4, .inl (fun j9 => nI (sm j9)))), (z11, .inl (cI, 24, .inl (fun j9 => nI (gT j9)))), (z12, .inl (cI, 24, .inl (fun j9 => nI (wy j9))))] sz)) 0 0 (va_A [(hM, .inr (8, [.int (nI th), .int (nI k), .int (nI n), .ref z1, .ref z2, .int (nI iS), .int (nI sc), .int (nI sn), .int (nI mv), .int (nI sg), .ref z3, .ref z4, .ref z5, .ref z6, .ref z7, .ref z8, .ref z9, .int (nI dn), .ref z10, .ref z11, .ref z12, .ref z13, .ref z14, .int (nI gc)])), (z4, .inl (cI, 4, .inl (fun j9 => nI (sm j9)))), (z11, .inl (cI, 24, .inl (fun j9 => nI (gT j9)))), (z12, .inl (cI, 24, .inl (fun j9 => nI (wy j9))))] sz) := by
  refine Met.ofW (cc := cMO_length) (maxL := 3) (ret := (some .int)) (by decide) rfl ?_
  intro p e s m args below meth c s₁ B hml hv
  obtain ⟨rfl, hsz, hP, hKX, hD0⟩ := hv
  have hK := hKX.1
  have hx := B.exec
  have hb := B.bytes
  have hr := B.returns
  have hts := atoms_spec (ws := wsMO_length) B.pre
  have hown : s.vm.findClass RMO = some m.cls := findClass_of_methodNamed B.named
  have hlocks := B.notSynchronized
  subst hsz
  have hD := hD0.self (sz := s.heap.size)
  generalize hAe : va_A [(hM, .inr (8, [.int (nI th), .int (nI k), .int (nI n), .ref z1, .ref z2, .int (nI iS), .int (nI sc), .int (nI sn), .int (nI mv), .int (nI sg), .ref z3, .ref z4, .ref z5, .ref z6, .ref z7, .ref z8, .ref z9, .int (nI dn), .ref z10, .ref z11, .ref z12, .ref z13, .ref z14, .int (nI gc)])), (z4, .inl (cI, 4, .inl (fun j9 => nI (sm j9)))), (z11, .inl (cI, 24, .inl (fun j9 => nI (gT j9)))), (z12, .inl (cI, 24, .inl (fun j9 => nI (wy j9))))] s.heap.size = A at hD ⊢
  have hA : ∀ q : Nat, s.heap.size ≤ q → A q := fun q h => by rw [← hAe]; exact Or.inr h
  have hS : va_S A s.heap s.heap [] := va_S.rf
  have hl := lv_entry ([.ref hM]) (n := 3) (Nat.le_of_ble_eq_true rfl)
  rw [lg_entry_eq]
  generalize (lg_sl ([.ref hM]) ++ List.replicate (3 - (lg_sl ([.ref hM])).length) Slot.unset).toArray = ls at hl ⊢
  have hl : lv_has ls 3 [(0, .ref hM)] := hl
  generalize hRe : (headSpec wsMO_length ({ frames := 0, cells := 0, slots := 0, locals := 0 })).room = R
  have hRf : 0 ≤ R.frames := by rw [← hRe]; exact Nat.le_refl _
  have hRl : 0 ≤ R.locals := by rw [← hRe]; exact Nat.le_refl _
  have hRc : 0 ≤ R.cells := by rw [← hRe]; exact Nat.le_refl _
  have hRs : 0 ≤ R.slots := by rw [← hRe]; exact Nat.le_refl _
  generalize hargs : (List.toArray [.ref hM] : Array Value) = args at hts ⊢
  generalize hQe : MQ below _ args s _ _ _ = Q
  refine lv_iconst (v := nI 0) hx hb dMO_length_0 (by decide +kernel) ?_
  refine lv_istore_n (lv' := [(1, .int (nI 0)), (0, .ref hM)]) hx hb dMO_length_1 rfl hl (by decide) rfl (fun ls hl => ?_)
  rw [← fillF_0 sm 0] at hP hD
  have loop_2 : ∀ (n9 : Nat) (i : Nat), i ≤ 4 → 4 + 1 ≤ i + n9 → ∀ (H : Heap) (locs : List Loc), va_P (dC, dI) vwCl [(hM, .inr (8, [.int (nI th), .int (nI k), .int (nI n), .ref z1, .ref z2, .int (nI iS), .int (nI sc), .int (nI sn), .int (nI mv), .int (nI sg), .ref z3, .ref z4, .ref z5, .ref z6, .ref z7, .ref z8, .ref z9, .int (nI dn), .ref z10, .ref z11, .ref z12, .ref z13, .ref z14, .int (nI gc)])), (z4, .inl (cI, 4, .inl (fun j9 => nI ((fillF sm 0 i) j9)))), (z11, .inl (cI, 24, .inl (fun j9 => nI (gT j9)))), (z12, .inl (cI, 24, .inl (fun j9 => nI (wy j9))))] H → va_D A [(hM, .inr (8, [.int (nI th), .int (nI k), .int (nI n), .ref z1, .ref z2, .int (nI iS), .int (nI sc), .int (nI sn), .int (nI mv), .int (nI sg), .ref z3, .ref z4, .ref z5, .ref z6, .ref z7, .ref z8, .ref z9, .int (nI dn), .ref z10, .ref z11, .ref z12, .ref z13, .ref z14, .int (nI gc)])), (z4, .inl (cI, 4, .inl (fun j9 => nI ((fillF sm 0 i) j9)))), (z11, .inl (cI, 24, .inl (fun j9 => nI (gT j9)))), (z12, .inl (cI, 24, .inl (fun j9 => nI (wy j9))))] → va_S A s.heap H locs → ∀ (ls : Array Slot), lv_has ls 3 [(1, .int (nI i)), (0, .ref hM)] → W p l e R s m args below meth c H locs 0 0 Q (F0 m 2 ls []) := by
    intro n9
    induction n9 with
    | zero =>
      intro i hi hmeas
      exact absurd hmeas (by omega)
    | succ n9 ih_2 =>
      intro i hi hmeas H locs hP hD hS ls hl
      refine lv_iload_n hx hb dMO_length_2 rfl (lv_at hl 0 rfl) ?_
      refine lv_iconst (v := nI 4) hx hb dMO_length_3 (by decide +kernel) ?_
      refine hr_icmp_ge hx hb (x := i) (y := 4) (by omega) (by omega) (tgt := 20) dMO_length_4 (by decide) (fun c_1 => ?_) (fun c_1 => ?_)
      · have ei : 4 = i := by omega
        subst ei
        have hP := hr_extP 1 (fun j9 => nI ((fun _ => 0) j9)) rfl (fun j hj => by rw [fillF_in hj]) hP
        have hD := hr_extD 1 (fun j9 => nI ((fun _ => 0) j9)) rfl hD
        have hP : va_P (dC, dI) vwCl [(hM, .inr (8, [.int (nI th), .int (nI k), .int (nI n), .ref z1, .ref z2, .int (nI iS), .int (nI sc), .int (nI sn), .int (nI mv), .int (nI sg), .ref z3, .ref z4, .ref z5, .ref z6, .ref z7, .ref z8, .ref z9, .int (nI dn), .ref z10, .ref z11, .ref z12, .ref z13, .ref z14, .int (nI gc)])), (z4, .inl (cI, 4, .inl (fun j9 => nI ((fun _ => 0) j9)))), (z11, .inl (cI, 24, .inl (fun j9 => nI (gT j9)))), (z12, .inl (cI, 24, .inl (fun j9 => nI (wy j9))))] H := hP
        have hD : va_D A [(hM, .inr (8, [.int (nI th), .int (nI k), .int (nI n), .ref z1, .ref z2, .int (nI iS), .int (nI sc), .int (nI sn), .int (nI mv), .int (nI sg), .ref z3, .ref z4, .ref z5, .ref z6, .ref z7, .ref z8, .ref z9, .int (nI dn), .ref z10, .ref z11, .ref z12, .ref z13, .ref z14, .int (nI gc)])), (z4, .inl (cI, 4, .inl (fun j9 => nI ((fun _ => 0) j9)))), (z11, .inl (cI, 24, .inl (fun j9 => nI (gT j9)))), (z12, .inl (cI, 24, .inl (fun j9 => nI (wy j9))))] := hD
        refine lv_iconst (v := nI 0) hx hb dMO_length_20 (by decide +kernel) ?_
        refine lv_istore_n (lv' := [(1, .int (nI 0)), (0, .ref hM)]) hx hb dMO_length_21 rfl hl (by decide) rfl (fun ls hl => ?_)
        have loop_22 : ∀ (n9 : Nat) (g : Nat), g ≤ gc → gc + 1 ≤ g + n9 → ∀ (H : Heap) (locs : List Loc), va_P (dC, dI) vwCl [(hM, .inr (8, [.int (nI th), .int (nI k), .int (nI n), .ref z1, .ref z2, .int (nI iS), .int (nI sc), .int (nI sn), .int (nI mv), .int (nI sg), .ref z3, .ref z4, .ref z5, .ref z6, .ref z7, .ref z8, .ref z9, .int (nI dn), .ref z10, .ref z11, .ref z12, .ref z13, .ref z14, .int (nI gc)])), (z4, .inl (cI, 4, .inl (fun j9 => nI ((smA gT wy g) j9)))), (z11, .inl (cI, 24, .inl (fun j9 => nI (gT j9)))), (z12, .inl (cI, 24, .inl (fun j9 => nI (wy j9))))] H → va_D A [(hM, .inr (8, [.int (nI th), .int (nI k), .int (nI n), .ref z1, .ref z2, .int (nI iS), .int (nI sc), .int (nI sn), .int (nI mv), .int (nI sg), .ref z3, .ref z4, .ref z5, .ref z6, .ref z7, .ref z8, .ref z9, .int (nI dn), .ref z10, .ref z11, .ref z12, .ref z13, .ref z14, .int (nI gc)])), (z4, .inl (cI, 4, .inl (fun j9 => nI ((smA gT wy g) j9)))), (z11, .inl (cI, 24, .inl (fun j9 => nI (gT j9)))), (z12, .inl (cI, 24, .inl (fun j9 => nI (wy j9))))] → va_S A s.heap H locs → ∀ (ls : Array Slot), lv_has ls 3 [(1, .int (nI g)), (0, .ref hM)] → W p l e R s m args below meth c H locs 0 0 Q (F0 m 22 ls []) := by
          intro n9
          induction n9 with
          | zero =>
            intro g hg hmeas
            exact absurd hmeas (by omega)
          | succ n9 ih_22 =>
            intro g hg hmeas H locs hP hD hS ls hl
            refine lv_iload_n hx hb dMO_length_22 rfl (lv_at hl 0 rfl) ?_
            refine lv_aload_n hx hb dMO_length_23 rfl (lv_at hl 1 rfl) ?_
            refine va_get (D := (dC, dI)) (ci := 8) (v := .int (nI gc)) (C := RMO) (T := TMO) (N := 24) hx hb hts (fun w h => List.mem_cons_of_mem _ (inMO w h)) hown hK hP 0 rfl rfl 23 (by decide) (hts _ (List.mem_cons_of_mem _ kw_532)) (fun _ h9 => h9) rfl dMO_length_24 ?_
            refine hr_icmp_ge hx hb (x := g) (y := gc) (by omega) (by omega) (tgt := 56) dMO_length_27 (by decide) (fun c_2 => ?_) (fun c_2 => ?_)
            · have ei : gc = g := by omega
              subst ei
              have hsl := smA_le (t := gT) (s := wy) (B := 2400000) (i := gc) hgT
              have hgl : 2400000 * gc ≤ 2400000 * 24 := Nat.mul_le_mul_left _ hgc
              refine lv_iconst (v := nI 0) hx hb dMO_length_56 (by decide +kernel) ?_
              refine lv_istore_n (lv' := [(1, .int (nI 0)), (0, .ref hM)]) hx hb dMO_length_57 rfl hl (by decide) rfl (fun ls hl => ?_)
              refine lv_iconst (v := nI 0) hx hb dMO_length_58 (by decide +kernel) ?_
              refine lv_istore_n (lv' := [(2, .int (nI 0)), (1, .int (nI 0)), (0, .ref hM)]) hx hb dMO_length_59 rfl hl (by decide) rfl (fun ls hl => ?_)
              have loop_60 : ∀ (n9 : Nat) (q : Nat) (s1 : Nat), q ≤ 4 → s1 = maxS (smA gT wy gc) q → s1 ≤ 2400000 * 24 → 4 + 1 ≤ q + n9 → ∀ (H : Heap) (locs : List Loc), va_P (dC, dI) vwCl [(hM, .inr (8, [.int (nI th), .int (nI k), .int (nI n), .ref z1, .ref z2, .int (nI iS), .int (nI sc), .int (nI sn), .int (nI mv), .int (nI sg), .ref z3, .ref z4, .ref z5, .ref z6, .ref z7, .ref z8, .ref z9, .int (nI dn), .ref z10, .ref z11, .ref z12, .ref z13, .ref z14, .int (nI gc)])), (z4, .inl (cI, 4, .inl (fun j9 => nI ((smA gT wy gc) j9)))), (z11, .inl (cI, 24, .inl (fun j9 => nI (gT j9)))), (z12, .inl (cI, 24, .inl (fun j9 => nI (wy j9))))] H → va_D A [(hM, .inr (8, [.int (nI th), .int (nI k), .int (nI n), .ref z1, .ref z2, .int (nI iS), .int (nI sc), .int (nI sn), .int (nI mv), .int (nI sg), .ref z3, .ref z4, .ref z5, .ref z6, .ref z7, .ref z8, .ref z9, .int (nI dn), .ref z10, .ref z11, .ref z12, .ref z13, .ref z14, .int (nI gc)])), (z4, .inl (cI, 4, .inl (fun j9 => nI ((smA gT wy gc) j9)))), (z11, .inl (cI, 24, .inl (fun j9 => nI (gT j9)))), (z12, .inl (cI, 24, .inl (fun j9 => nI (wy j9))))] → va_S A s.heap H locs → ∀ (ls : Array Slot), lv_has ls 3 [(2, .int (nI q)), (1, .int (nI s1)), (0, .ref hM)] → W p l e R s m args below meth c H locs 0 0 Q (F0 m 60 ls []) := by
                intro n9
                induction n9 with
                | zero =>
                  intro q s1 hq h1 h2 hmeas
                  exact absurd hmeas (by omega)
                | succ n9 ih_60 =>
                  intro q s1 hq h1 h2 hmeas H locs hP hD hS ls hl
                  refine lv_iload_n hx hb dMO_length_60 rfl (lv_at hl 0 rfl) ?_
                  refine lv_iconst (v := nI 4) hx hb dMO_length_61 (by decide +kernel) ?_
                  refine hr_icmp_ge hx hb (x := q) (y := 4) (by omega) (by omega) (tgt := 92) dMO_length_62 (by decide) (fun c_3 => ?_) (fun c_3 => ?_)
                  · have ei : 4 = q := by omega
                    subst ei
                    refine lv_iload_n hx hb dMO_length_92 rfl (lv_at hl 1 rfl) ?_
                    rw [← hQe]
                    exact W.iret (v := nI s1) hx hb hr (fun t ht hW => ⟨⟨_, (), rfl, by rw [h1], by rw [ht]; exact hP, hD⟩, hS.F ht⟩) hS.2.2 dMO_length_93
                  · have hs1 := hsl q
                    refine lv_aload_n hx hb dMO_length_65 rfl (lv_at hl 2 rfl) ?_
                    refine va_get (D := (dC, dI)) (ci := 8) (v := .ref z4) (C := RMO) (T := TMO) (N := 24) hx hb hts (fun w h => List.mem_cons_of_mem _ (inMO w h)) hown hK hP 0 rfl rfl 11 (by decide) (hts _ (List.mem_cons_of_mem _ kw_520)) (fun _ h9 => h9) rfl dMO_length_66 ?_
                    refine lv_iload_n hx hb dMO_length_69 rfl (lv_at hl 0 rfl) ?_
                    refine hr_iald hx hb hK hP 1 0 rfl rfl (i := q) (by omega) (by omega) dMO_length_70 ?_
                    refine lv_iload_n hx hb dMO_length_71 rfl (lv_at hl 1 rfl) ?_
                    refine hr_icmp_le hx hb (x := ((smA gT wy gc) q)) (y := s1) (by omega) (by omega) (tgt := 84) dMO_length_72 (by decide) (fun c_4 => ?_) (fun c_4 => ?_)
                    · refine lv_iload_n hx hb dMO_length_84 rfl (lv_at hl 1 rfl) ?_
                      refine lv_istore_n (lv' := [(1, .int (nI s1)), (2, .int (nI q)), (0, .ref hM)]) hx hb dMO_length_85 rfl hl (by decide) rfl (fun ls hl => ?_)
                      refine lv_iinc (v := nI (q + 1)) (lv' := [(2, .int (nI (q + 1))), (1, .int (nI s1)), (0, .ref hM)]) hx hb dMO_length_86 hl (k := 1) rfl (hr_inc _) (by decide) rfl (fun ls hl => ?_)
                      refine lv_goto (tgt := 60) hx hb dMO_length_89 (by decide) ?_
                      exact ih_60 (q + 1) s1 (by omega) (by show _ = max (maxS (smA gT wy gc) q) (smA gT wy gc q); omega) (by omega) (by omega) _ _ hP hD hS ls (lv_sub hl [0, 1, 2] rfl)
                    · refine lv_aload_n hx hb dMO_length_75 rfl (lv_at hl 2 rfl) ?_
                      refine va_get (D := (dC, dI)) (ci := 8) (v := .ref z4) (C := RMO) (T := TMO) (N := 24) hx hb hts (fun w h => List.mem_cons_of_mem _ (inMO w h)) hown hK hP 0 rfl rfl 11 (by decide) (hts _ (List.mem_cons_of_mem _ kw_520)) (fun _ h9 => h9) rfl dMO_length_76 ?_
                      refine lv_iload_n hx hb dMO_length_79 rfl (lv_at hl 0 rfl) ?_
                      refine hr_iald hx hb hK hP 1 0 rfl rfl (i := q) (by omega) (by omega) dMO_length_80 ?_
                      refine lv_goto (tgt := 85) hx hb dMO_length_81 (by decide) ?_
                      refine lv_istore_n (lv' := [(1, .int (nI ((smA gT wy gc) q))), (2, .int (nI q)), (0, .ref hM)]) hx hb dMO_length_85 rfl hl (by decide) rfl (fun ls hl => ?_)
                      refine lv_iinc (v := nI (q + 1)) (lv' := [(2, .int (nI (q + 1))), (1, .int (nI ((smA gT wy gc) q))), (0, .ref hM)]) hx hb dMO_length_86 hl (k := 1) rfl (hr_inc _) (by decide) rfl (fun ls hl => ?_)
                      refine lv_goto (tgt := 60) hx hb dMO_length_89 (by decide) ?_
                      exact ih_60 (q + 1) ((smA gT wy gc) q) (by omega) (by show _ = max (maxS (smA gT wy gc) q) (smA gT wy gc q); omega) (by omega) (by omega) _ _ hP hD hS ls (lv_sub hl [0, 1, 2] rfl)
              exact loop_60 (4 + 1) 0 0 (by omega) (rfl) (by omega) (by omega) _ _ hP hD hS ls (lv_sub hl [0, 1, 2] rfl)
            · have hwg := hwy g (by omega)
              refine lv_aload_n hx hb dMO_length_30 rfl (lv_at hl 1 rfl) ?_
              refine va_get (D := (dC, dI)) (ci := 8) (v := .ref z4) (C := RMO) (T := TMO) (N := 24) hx hb hts (fun w h => List.mem_cons_of_mem _ (inMO w h)) hown hK hP 0 rfl rfl 11 (by decide) (hts _ (List.mem_cons_of_mem _ kw_520)) (fun _ h9 => h9) rfl dMO_length_31 ?_
              refine lv_aload_n hx hb dMO_length_34 rfl (lv_at hl 1 rfl) ?_
              refine va_get (D := (dC, dI)) (ci := 8) (v := .ref z12) (C := RMO) (T := TMO) (N := 24) hx hb hts (fun w h => List.mem_cons_of_mem _ (inMO w h)) hown hK hP 0 rfl rfl 20 (by decide) (hts _ (List.mem_cons_of_mem _ kw_529)) (fun _ h9 => h9) rfl dMO_length_35 ?_
              refine lv_iload_n hx hb dMO_length_38 rfl (lv_at hl 0 rfl) ?_
              refine hr_iald hx hb hK hP 3 0 rfl rfl (i := g) (by omega) (by omega) dMO_length_39 ?_
              refine lv_dup2_11 hx hb dMO_length_40 rfl rfl ?_
              refine hr_iald hx hb hK hP 1 0 rfl rfl (i := (wy g)) (by omega) (by omega) dMO_length_41 ?_
              refine lv_aload_n hx hb dMO_length_42 rfl (lv_at hl 1 rfl) ?_
              refine va_get (D := (dC, dI)) (ci := 8) (v := .ref z11) (C := RMO) (T := TMO) (N := 24) hx hb hts (fun w h => List.mem_cons_of_mem _ (inMO w h)) hown hK hP 0 rfl rfl 19 (by decide) (hts _ (List.mem_cons_of_mem _ kw_528)) (fun _ h9 => h9) rfl dMO_length_43 ?_
              refine lv_iload_n hx hb dMO_length_46 rfl (lv_at hl 0 rfl) ?_
              refine hr_iald hx hb hK hP 2 0 rfl rfl (i := g) (by omega) (by omega) dMO_length_47 ?_
              refine lv_iadd hx hb dMO_length_48 ?_
              refine hr_eqi (nI_add _ _) ?_
              refine hr_iastN hx hb hK hP hD hS 1 0 rfl rfl (i := (wy g)) (by omega) (by omega) dMO_length_49 (fun H locs hP hD hS => ?_)
              have hP : va_P (dC, dI) vwCl [(hM, .inr (8, [.int (nI th), .int (nI k), .int (nI n), .ref z1, .ref z2, .int (nI iS), .int (nI sc), .int (nI sn), .int (nI mv), .int (nI sg), .ref z3, .ref z4, .ref z5, .ref z6, .ref z7, .ref z8, .ref z9, .int (nI dn), .ref z10, .ref z11, .ref z12, .ref z13, .ref z14, .int (nI gc)])), (z4, .inl (cI, 4, .inl (fun j9 => nI ((va_up (smA gT wy g) (wy g) (((smA gT wy g) (wy g)) + (gT g))) j9)))), (z11, .inl (cI, 24, .inl (fun j9 => nI (gT j9)))), (z12, .inl (cI, 24, .inl (fun j9 => nI (wy j9))))] H := hP
              have hD : va_D A [(hM, .inr (8, [.int (nI th), .int (nI k), .int (nI n), .ref z1, .ref z2, .int (nI iS), .int (nI sc), .int (nI sn), .int (nI mv), .int (nI sg), .ref z3, .ref z4, .ref z5, .ref z6, .ref z7, .ref z8, .ref z9, .int (nI dn), .ref z10, .ref z11, .ref z12, .ref z13, .ref z14, .int (nI gc)])), (z4, .inl (cI, 4, .inl (fun j9 => nI ((va_up (smA gT wy g) (wy g) (((smA gT wy g) (wy g)) + (gT g))) j9)))), (z11, .inl (cI, 24, .inl (fun j9 => nI (gT j9)))), (z12, .inl (cI, 24, .inl (fun j9 => nI (wy j9))))] := hD
              refine lv_iinc (v := nI (g + 1)) (lv' := [(1, .int (nI (g + 1))), (0, .ref hM)]) hx hb dMO_length_50 hl (k := 0) rfl (hr_inc _) (by decide) rfl (fun ls hl => ?_)
              refine lv_goto (tgt := 22) hx hb dMO_length_53 (by decide) ?_
              exact ih_22 (g + 1) (by omega) (by omega) _ _ hP hD hS ls (lv_sub hl [0, 1] rfl)
        exact loop_22 (gc + 1) 0 (by omega) (by omega) _ _ hP hD hS ls (lv_sub hl [0, 1] rfl)
      · refine lv_aload_n hx hb dMO_length_7 rfl (lv_at hl 1 rfl) ?_
        refine va_get (D := (dC, dI)) (ci := 8) (v := .ref z4) (C := RMO) (T := TMO) (N := 24) hx hb hts (fun w h => List.mem_cons_of_mem _ (inMO w h)) hown hK hP 0 rfl rfl 11 (by decide) (hts _ (List.mem_cons_of_mem _ kw_520)) (fun _ h9 => h9) rfl dMO_length_8 ?_
        refine lv_iload_n hx hb dMO_length_11 rfl (lv_at hl 0 rfl) ?_
        refine lv_iconst (v := nI 0) hx hb dMO_length_12 (by decide +kernel) ?_
        refine hr_iastN hx hb hK hP hD hS 1 0 rfl rfl (i := i) (by omega) (by omega) dMO_length_13 (fun H locs hP hD hS => ?_)
        have hP : va_P (dC, dI) vwCl [(hM, .inr (8, [.int (nI th), .int (nI k), .int (nI n), .ref z1, .ref z2, .int (nI iS), .int (nI sc), .int (nI sn), .int (nI mv), .int (nI sg), .ref z3, .ref z4, .ref z5, .ref z6, .ref z7, .ref z8, .ref z9, .int (nI dn), .ref z10, .ref z11, .ref z12, .ref z13, .ref z14, .int (nI gc)])), (z4, .inl (cI, 4, .inl (fun j9 => nI ((va_up (fillF sm 0 i) i 0) j9)))), (z11, .inl (cI, 24, .inl (fun j9 => nI (gT j9)))), (z12, .inl (cI, 24, .inl (fun j9 => nI (wy j9))))] H := hP
        have hD : va_D A [(hM, .inr (8, [.int (nI th), .int (nI k), .int (nI n), .ref z1, .ref z2, .int (nI iS), .int (nI sc), .int (nI sn), .int (nI mv), .int (nI sg), .ref z3, .ref z4, .ref z5, .ref z6, .ref z7, .ref z8, .ref z9, .int (nI dn), .ref z10, .ref z11, .ref z12, .ref z13, .ref z14, .int (nI gc)])), (z4, .inl (cI, 4, .inl (fun j9 => nI ((va_up (fillF sm 0 i) i 0) j9)))), (z11, .inl (cI, 24, .inl (fun j9 => nI (gT j9)))), (z12, .inl (cI, 24, .inl (fun j9 => nI (wy j9))))] := hD
        refine lv_iinc (v := nI (i + 1)) (lv' := [(1, .int (nI (i + 1))), (0, .ref hM)]) hx hb dMO_length_14 hl (k := 0) rfl (hr_inc _) (by decide) rfl (fun ls hl => ?_)
        refine lv_goto (tgt := 2) hx hb dMO_length_17 (by decide) ?_
        rw [fillF_upN] at hP hD
        exact ih_2 (i + 1) (by omega) (by omega) _ _ hP hD hS ls (lv_sub hl [0, 1] rfl)
  exact loop_2 (4 + 1) 0 (by omega) (by omega) _ _ hP hD hS ls (lv_sub hl [0, 1] rfl)

set_option maxHeartbeats 400000 in
set_option maxRecDepth 100000 in
/-- movesOf -/
theorem c_MO_movesOf (l : Launch) (dC : Nat → ClassId) (dI : Nat → Nat → Nat) (cI cZ cG : ClassId) (hM : Nat) (z1 : Nat) (z2 : Nat) (z3 : Nat) (z4 : Nat) (z5 : Nat) (z6 : Nat) (z7 : Nat) (z8 : Nat) (z9 : Nat) (z10 : Nat) (z11 : Nat) (z12 : Nat) (z13 : Nat) (z14 : Nat) (th : Nat) (k : Nat) (n : Nat) (iS : Nat) (sc : Nat) (sn : Nat) (mv : Nat) (sg : Nat) (dn : Nat) (gc : Nat) (ff : Nat → Nat) (bf : Nat → Option Nat) (gF : Nat → Nat) (g : Nat) (q : Nat) (hn : n ≤ 24) (hf : ∀ j, j < n → ff j ≤ j) (hbf : ∀ j, j < 24 → ∀ q, bf j = some q → q < 4) (hg : g < 24) (hq : q < 4) (hgF : gF g < 24) : Met l yMO_movesOf wsMO_movesOf ({ frames := 0, cells := 0, slots := 0, locals := 0 }) (va_Pc [.ref hM, .int (nI g), .int (nI q)] (fun U => va_P (dC, dI) vwCl [(hM, .inr (8, [.int (nI th), .int (nI k), .int (nI n), .ref z1, .ref z2, .int (nI iS), .int (nI sc), .int (nI sn), .int (nI mv), .int (nI sg), .ref z3, .ref z4, .ref z5, .ref z6, .ref z7, .ref z8, .ref z9, .int (nI dn), .ref z10, .ref z11, .ref z12, .ref z13, .ref z14, .int (nI gc)])), (z2, .inl (cI, 24, .inl (fun j9 => nI (ff j9)))), (z5, .inl (cI, 24, .inl (fun j9 => oI (bf j9)))), (z10, .inl (cI, 24, .inl (fun j9 => nI (gF j9))))] U.heap ∧ KX dC dI cI cZ cG U)) (vp_Si (fun r => r = nI (mvI bf ff (gF g) q n))) 0 0 (fun _ => False) := by
  refine Met.ofW (cc := cMO_movesOf) (maxL := 5) (ret := (some .int)) (by decide) rfl ?_
  intro p e s m args below meth c s₁ B hml hv
  obtain ⟨rfl, hP, hKX⟩ := hv
  have hK := hKX.1
  have hx := B.exec
  have hb := B.bytes
  have hr := B.returns
  have hts := atoms_spec (ws := wsMO_movesOf) B.pre
  have hown : s.vm.findClass RMO = some m.cls := findClass_of_methodNamed B.named
  have hlocks := B.notSynchronized
  have hl := lv_entry ([.ref hM, .int (nI g), .int (nI q)]) (n := 5) (Nat.le_of_ble_eq_true rfl)
  rw [lg_entry_eq]
  generalize (lg_sl ([.ref hM, .int (nI g), .int (nI q)]) ++ List.replicate (5 - (lg_sl ([.ref hM, .int (nI g), .int (nI q)])).length) Slot.unset).toArray = ls at hl ⊢
  have hl : lv_has ls 5 [(0, .ref hM), (1, .int (nI g)), (2, .int (nI q))] := hl
  generalize hRe : (headSpec wsMO_movesOf ({ frames := 0, cells := 0, slots := 0, locals := 0 })).room = R
  have hRf : 0 ≤ R.frames := by rw [← hRe]; exact Nat.le_refl _
  have hRl : 0 ≤ R.locals := by rw [← hRe]; exact Nat.le_refl _
  have hRc : 0 ≤ R.cells := by rw [← hRe]; exact Nat.le_refl _
  have hRs : 0 ≤ R.slots := by rw [← hRe]; exact Nat.le_refl _
  generalize hargs : (List.toArray [.ref hM, .int (nI g), .int (nI q)] : Array Value) = args at hts ⊢
  generalize hQe : MQ below _ args s _ _ _ = Q
  refine lv_iconst (v := nI 0) hx hb dMO_movesOf_0 (by decide +kernel) ?_
  refine lv_istore_n (lv' := [(3, .int (nI 0)), (0, .ref hM), (1, .int (nI g)), (2, .int (nI q))]) hx hb dMO_movesOf_1 rfl hl (by decide) rfl (fun ls hl => ?_)
  refine lv_iconst (v := nI 0) hx hb dMO_movesOf_2 (by decide +kernel) ?_
  refine lv_istore (lv' := [(4, .int (nI 0)), (3, .int (nI 0)), (0, .ref hM), (1, .int (nI g)), (2, .int (nI q))]) hx hb dMO_movesOf_3 hl (by decide) rfl (fun ls hl => ?_)
  have loop_5 : ∀ (n9 : Nat) (j : Nat) (s1 : Nat), j ≤ n → s1 = mvI bf ff (gF g) q j → n + 1 ≤ j + n9 → ∀ (ls : Array Slot), lv_has ls 5 [(4, .int (nI j)), (3, .int (nI s1)), (0, .ref hM), (1, .int (nI g)), (2, .int (nI q))] → W p l e R s m args below meth c s.heap [] 0 0 Q (F0 m 5 ls []) := by
    intro n9
    induction n9 with
    | zero =>
      intro j s1 hj h1 hmeas
      exact absurd hmeas (by omega)
    | succ n9 ih_5 =>
      intro j s1 hj h1 hmeas ls hl
      have hml9 := mvI_le (sf := bf) (gO := ff) (g := gF g) (s := q) j
      refine lv_iload hx hb dMO_movesOf_5 (lv_at hl 0 rfl) ?_
      refine lv_aload_n hx hb dMO_movesOf_7 rfl (lv_at hl 2 rfl) ?_
      refine va_get (D := (dC, dI)) (ci := 8) (v := .int (nI n)) (C := RMO) (T := TMO) (N := 24) hx hb hts (fun w h => List.mem_cons_of_mem _ (inMO w h)) hown hK hP 0 rfl rfl 2 (by decide) (hts _ (List.mem_cons_of_mem _ kw_511)) (fun _ h9 => h9) rfl dMO_movesOf_8 ?_
      refine hr_icmp_ge hx hb (x := j) (y := n) (by omega) (by omega) (tgt := 66) dMO_movesOf_11 (by decide) (fun c_1 => ?_) (fun c_1 => ?_)
      · have ei : n = j := by omega
        subst ei
        refine lv_iload_n hx hb dMO_movesOf_66 rfl (lv_at hl 1 rfl) ?_
        rw [← hQe]
        exact W.iret (v := nI s1) hx hb hr (fun t ht hW => ⟨_, rfl, by rw [h1], by rw [ht]⟩) (fun q h => by cases h) dMO_movesOf_67
      · have hfj := hf j (by omega)
        have hbj : ∀ z, bf j = some z → z < 2 ^ 31 := fun z hz => by have := hbf j (by omega) z hz; omega
        refine lv_iload_n hx hb dMO_movesOf_14 rfl (lv_at hl 1 rfl) ?_
        refine lv_aload_n hx hb dMO_movesOf_15 rfl (lv_at hl 2 rfl) ?_
        refine va_get (D := (dC, dI)) (ci := 8) (v := .ref z2) (C := RMO) (T := TMO) (N := 24) hx hb hts (fun w h => List.mem_cons_of_mem _ (inMO w h)) hown hK hP 0 rfl rfl 4 (by decide) (hts _ (List.mem_cons_of_mem _ kw_513)) (fun _ h9 => h9) rfl dMO_movesOf_16 ?_
        refine lv_iload hx hb dMO_movesOf_19 (lv_at hl 0 rfl) ?_
        refine hr_iald hx hb hK hP 1 0 rfl rfl (i := j) (by omega) (by omega) dMO_movesOf_21 ?_
        refine lv_aload_n hx hb dMO_movesOf_22 rfl (lv_at hl 2 rfl) ?_
        refine va_get (D := (dC, dI)) (ci := 8) (v := .ref z10) (C := RMO) (T := TMO) (N := 24) hx hb hts (fun w h => List.mem_cons_of_mem _ (inMO w h)) hown hK hP 0 rfl rfl 18 (by decide) (hts _ (List.mem_cons_of_mem _ kw_527)) (fun _ h9 => h9) rfl dMO_movesOf_23 ?_
        refine lv_iload_n hx hb dMO_movesOf_26 rfl (lv_at hl 3 rfl) ?_
        refine hr_iald hx hb hK hP 3 0 rfl rfl (i := g) (by omega) (by omega) dMO_movesOf_27 ?_
        refine hr_icmp_ne hx hb (x := (ff j)) (y := (gF g)) (by omega) (by omega) (tgt := 57) dMO_movesOf_28 (by decide) (fun c_2 => ?_) (fun c_2 => ?_)
        · refine lv_iconst (v := nI 0) hx hb dMO_movesOf_57 (by decide +kernel) ?_
          refine lv_iadd hx hb dMO_movesOf_58 ?_
          refine hr_eqi (nI_add _ _) ?_
          refine lv_istore_n (lv' := [(3, .int (nI (s1 + 0))), (4, .int (nI j)), (0, .ref hM), (1, .int (nI g)), (2, .int (nI q))]) hx hb dMO_movesOf_59 rfl hl (by decide) rfl (fun ls hl => ?_)
          refine lv_iinc (v := nI (j + 1)) (lv' := [(4, .int (nI (j + 1))), (3, .int (nI (s1 + 0))), (0, .ref hM), (1, .int (nI g)), (2, .int (nI q))]) hx hb dMO_movesOf_60 hl (k := 1) rfl (hr_inc _) (by decide) rfl (fun ls hl => ?_)
          refine lv_goto (tgt := 5) hx hb dMO_movesOf_63 (by decide) ?_
          exact ih_5 (j + 1) (s1 + 0) (by omega) (by rw [h1]; exact (mvI_if (v := 0) ((if_neg c_2).symm)).symm) (by omega) ls (lv_sub hl [0, 1, 2, 3, 4] rfl)
        · refine lv_aload_n hx hb dMO_movesOf_31 rfl (lv_at hl 2 rfl) ?_
          refine va_get (D := (dC, dI)) (ci := 8) (v := .ref z5) (C := RMO) (T := TMO) (N := 24) hx hb hts (fun w h => List.mem_cons_of_mem _ (inMO w h)) hown hK hP 0 rfl rfl 12 (by decide) (hts _ (List.mem_cons_of_mem _ kw_521)) (fun _ h9 => h9) rfl dMO_movesOf_32 ?_
          refine lv_iload hx hb dMO_movesOf_35 (lv_at hl 0 rfl) ?_
          refine hr_iald hx hb hK hP 2 0 rfl rfl (i := j) (by omega) (by omega) dMO_movesOf_37 ?_
          refine lv_iconst (v := (-1)) hx hb dMO_movesOf_38 (by decide +kernel) ?_
          refine lv_icmp_eq (tgt := 57) hx hb dMO_movesOf_39 (by decide) (fun c_3 => ?_) (fun c_3 => ?_)
          · refine lv_iconst (v := nI 0) hx hb dMO_movesOf_57 (by decide +kernel) ?_
            refine lv_iadd hx hb dMO_movesOf_58 ?_
            refine hr_eqi (nI_add _ _) ?_
            refine lv_istore_n (lv' := [(3, .int (nI (s1 + 0))), (4, .int (nI j)), (0, .ref hM), (1, .int (nI g)), (2, .int (nI q))]) hx hb dMO_movesOf_59 rfl hl (by decide) rfl (fun ls hl => ?_)
            refine lv_iinc (v := nI (j + 1)) (lv' := [(4, .int (nI (j + 1))), (3, .int (nI (s1 + 0))), (0, .ref hM), (1, .int (nI g)), (2, .int (nI q))]) hx hb dMO_movesOf_60 hl (k := 1) rfl (hr_inc _) (by decide) rfl (fun ls hl => ?_)
            refine lv_goto (tgt := 5) hx hb dMO_movesOf_63 (by decide) ?_
            exact ih_5 (j + 1) (s1 + 0) (by omega) (by rw [h1]; exact (mvI_if (v := 0) (by rw [if_pos c_2, (oI_m1 hbj).mp c_3]; rfl)).symm) (by omega) ls (lv_sub hl [0, 1, 2, 3, 4] rfl)
          · refine lv_aload_n hx hb dMO_movesOf_42 rfl (lv_at hl 2 rfl) ?_
            refine va_get (D := (dC, dI)) (ci := 8) (v := .ref z5) (C := RMO) (T := TMO) (N := 24) hx hb hts (fun w h => List.mem_cons_of_mem _ (inMO w h)) hown hK hP 0 rfl rfl 12 (by decide) (hts _ (List.mem_cons_of_mem _ kw_521)) (fun _ h9 => h9) rfl dMO_movesOf_43 ?_
            refine lv_iload hx hb dMO_movesOf_46 (lv_at hl 0 rfl) ?_
            refine hr_iald hx hb hK hP 2 0 rfl rfl (i := j) (by omega) (by omega) dMO_movesOf_48 ?_
            refine lv_iload_n hx hb dMO_movesOf_49 rfl (lv_at hl 4 rfl) ?_
            refine lv_icmp_eq (tgt := 57) hx hb dMO_movesOf_50 (by decide) (fun c_4 => ?_) (fun c_4 => ?_)
            · refine lv_iconst (v := nI 0) hx hb dMO_movesOf_57 (by decide +kernel) ?_
              refine lv_iadd hx hb dMO_movesOf_58 ?_
              refine hr_eqi (nI_add _ _) ?_
              refine lv_istore_n (lv' := [(3, .int (nI (s1 + 0))), (4, .int (nI j)), (0, .ref hM), (1, .int (nI g)), (2, .int (nI q))]) hx hb dMO_movesOf_59 rfl hl (by decide) rfl (fun ls hl => ?_)
              refine lv_iinc (v := nI (j + 1)) (lv' := [(4, .int (nI (j + 1))), (3, .int (nI (s1 + 0))), (0, .ref hM), (1, .int (nI g)), (2, .int (nI q))]) hx hb dMO_movesOf_60 hl (k := 1) rfl (hr_inc _) (by decide) rfl (fun ls hl => ?_)
              refine lv_goto (tgt := 5) hx hb dMO_movesOf_63 (by decide) ?_
              exact ih_5 (j + 1) (s1 + 0) (by omega) (by rw [h1]; exact (mvI_if (v := 0) (by rw [if_pos c_2, (oI_nI hbj (by omega)).mp c_4]; simp [mvdB])).symm) (by omega) ls (lv_sub hl [0, 1, 2, 3, 4] rfl)
            · refine lv_iconst (v := nI 1) hx hb dMO_movesOf_53 (by decide +kernel) ?_
              refine lv_goto (tgt := 58) hx hb dMO_movesOf_54 (by decide) ?_
              refine lv_iadd hx hb dMO_movesOf_58 ?_
              refine hr_eqi (nI_add _ _) ?_
              refine lv_istore_n (lv' := [(3, .int (nI (s1 + 1))), (4, .int (nI j)), (0, .ref hM), (1, .int (nI g)), (2, .int (nI q))]) hx hb dMO_movesOf_59 rfl hl (by decide) rfl (fun ls hl => ?_)
              refine lv_iinc (v := nI (j + 1)) (lv' := [(4, .int (nI (j + 1))), (3, .int (nI (s1 + 1))), (0, .ref hM), (1, .int (nI g)), (2, .int (nI q))]) hx hb dMO_movesOf_60 hl (k := 1) rfl (hr_inc _) (by decide) rfl (fun ls hl => ?_)
              refine lv_goto (tgt := 5) hx hb dMO_movesOf_63 (by decide) ?_
              exact ih_5 (j + 1) (s1 + 1) (by omega) (by rw [h1]; exact (mvI_if (v := 1) (by rw [if_pos c_2, mvdB_1 (fun z => c_3 ((oI_m1 hbj).mpr z)) (fun z => c_4 ((oI_nI hbj (by omega)).mpr z))])).symm) (by omega) ls (lv_sub hl [0, 1, 2, 3, 4] rfl)
  exact loop_5 (n + 1) 0 0 (by omega) (rfl) (by omega) ls (lv_sub hl [0, 1, 2, 3, 4] rfl)

set_option maxHeartbeats 400000 in
set_option maxRecDepth 100000 in
/-- moves -/
theorem c_MO_moves (l : Launch) (dC : Nat → ClassId) (dI : Nat → Nat → Nat) (cI cZ cG : ClassId) (hM : Nat) (z1 : Nat) (z2 : Nat) (z3 : Nat) (z4 : Nat) (z5 : Nat) (z6 : Nat) (z7 : Nat) (z8 : Nat) (z9 : Nat) (z10 : Nat) (z11 : Nat) (z12 : Nat) (z13 : Nat) (z14 : Nat) (th : Nat) (k : Nat) (n : Nat) (iS : Nat) (sc : Nat) (sn : Nat) (mv : Nat) (sg : Nat) (dn : Nat) (gc : Nat) (ff : Nat → Nat) (bf : Nat → Option Nat) (gF : Nat → Nat) (wy : Nat → Nat) (hn : n ≤ 24) (hf : ∀ j, j < n → ff j ≤ j) (hbf : ∀ j, j < 24 → ∀ q, bf j = some q → q < 4) (hgc : gc ≤ 24) (hwy : ∀ g, g < gc → wy g < 4) (hgF : ∀ g, g < gc → gF g < 24) : Met l yMO_moves wsMO_moves ({ frames := 1, cells := 0, slots := 0, locals := 24 }) (va_Pc [.ref hM] (fun U => va_P (dC, dI) vwCl [(hM, .inr (8, [.int (nI th), .int (nI k), .int (nI n), .ref z1, .ref z2, .int (nI iS), .int (nI sc), .int (nI sn), .int (nI mv), .int (nI sg), .ref z3, .ref z4, .ref z5, .ref z6, .ref z7, .ref z8, .ref z9, .int (nI dn), .ref z10, .ref z11, .ref z12, .ref z13, .ref z14, .int (nI gc)])), (z2, .inl (cI, 24, .inl (fun j9 => nI (ff j9)))), (z5, .inl (cI, 24, .inl (fun j9 => oI (bf j9)))), (z10, .inl (cI, 24, .inl (fun j9 => nI (gF j9)))), (z12, .inl (cI, 24, .inl (fun j9 => nI (wy j9))))] U.heap ∧ KX dC dI cI cZ cG U)) (vp_Si (fun r => r = nI (sumT (fun g => mvI bf ff (gF g) (wy g) n) gc))) 0 0 (fun _ => False) := by
  refine Met.ofW (cc := cMO_moves) (maxL := 3) (ret := (some .int)) (by decide) rfl ?_
  intro p e s m args below meth c s₁ B hml hv
  obtain ⟨rfl, hP, hKX⟩ := hv
  have hK := hKX.1
  have hx := B.exec
  have hb := B.bytes
  have hr := B.returns
  have hts := atoms_spec (ws := wsMO_moves) B.pre
  have hown : s.vm.findClass RMO = some m.cls := findClass_of_methodNamed B.named
  have hlocks := B.notSynchronized
  have hl := lv_entry ([.ref hM]) (n := 3) (Nat.le_of_ble_eq_true rfl)
  rw [lg_entry_eq]
  generalize (lg_sl ([.ref hM]) ++ List.replicate (3 - (lg_sl ([.ref hM])).length) Slot.unset).toArray = ls at hl ⊢
  have hl : lv_has ls 3 [(0, .ref hM)] := hl
  generalize hRe : (headSpec wsMO_moves ({ frames := 1, cells := 0, slots := 0, locals := 24 })).room = R
  have hRf : 1 ≤ R.frames := by rw [← hRe]; exact Nat.le_refl _
  have hRl : 24 ≤ R.locals := by rw [← hRe]; exact Nat.le_refl _
  have hRc : 0 ≤ R.cells := by rw [← hRe]; exact Nat.le_refl _
  have hRs : 0 ≤ R.slots := by rw [← hRe]; exact Nat.le_refl _
  generalize hargs : (List.toArray [.ref hM] : Array Value) = args at hts ⊢
  generalize hQe : MQ below _ args s _ _ _ = Q
  refine lv_iconst (v := nI 0) hx hb dMO_moves_0 (by decide +kernel) ?_
  refine lv_istore_n (lv' := [(1, .int (nI 0)), (0, .ref hM)]) hx hb dMO_moves_1 rfl hl (by decide) rfl (fun ls hl => ?_)
  refine lv_iconst (v := nI 0) hx hb dMO_moves_2 (by decide +kernel) ?_
  refine lv_istore_n (lv' := [(2, .int (nI 0)), (1, .int (nI 0)), (0, .ref hM)]) hx hb dMO_moves_3 rfl hl (by decide) rfl (fun ls hl => ?_)
  have loop_4 : ∀ (n9 : Nat) (g : Nat) (s1 : Nat), g ≤ gc → s1 = sumT (fun g => mvI bf ff (gF g) (wy g) n) g → gc + 1 ≤ g + n9 → ∀ (ls : Array Slot), lv_has ls 3 [(2, .int (nI g)), (1, .int (nI s1)), (0, .ref hM)] → W p l e R s m args below meth c s.heap [] 0 0 Q (F0 m 4 ls []) := by
    intro n9
    induction n9 with
    | zero =>
      intro g s1 hg h1 hmeas
      exact absurd hmeas (by omega)
    | succ n9 ih_4 =>
      intro g s1 hg h1 hmeas ls hl
      refine lv_iload_n hx hb dMO_moves_4 rfl (lv_at hl 0 rfl) ?_
      refine lv_aload_n hx hb dMO_moves_5 rfl (lv_at hl 2 rfl) ?_
      refine va_get (D := (dC, dI)) (ci := 8) (v := .int (nI gc)) (C := RMO) (T := TMO) (N := 24) hx hb hts (fun w h => List.mem_cons_of_mem _ (inMO w h)) hown hK hP 0 rfl rfl 23 (by decide) (hts _ (List.mem_cons_of_mem _ kw_532)) (fun _ h9 => h9) rfl dMO_moves_6 ?_
      refine hr_icmp_ge hx hb (x := g) (y := gc) (by omega) (by omega) (tgt := 32) dMO_moves_9 (by decide) (fun c_1 => ?_) (fun c_1 => ?_)
      · have ei : gc = g := by omega
        subst ei
        refine lv_iload_n hx hb dMO_moves_32 rfl (lv_at hl 1 rfl) ?_
        rw [← hQe]
        exact W.iret (v := nI s1) hx hb hr (fun t ht hW => ⟨_, rfl, by rw [h1], by rw [ht]⟩) (fun q h => by cases h) dMO_moves_33
      · refine lv_iload_n hx hb dMO_moves_12 rfl (lv_at hl 1 rfl) ?_
        refine lv_aload_n hx hb dMO_moves_13 rfl (lv_at hl 2 rfl) ?_
        refine lv_iload_n hx hb dMO_moves_14 rfl (lv_at hl 0 rfl) ?_
        refine lv_aload_n hx hb dMO_moves_15 rfl (lv_at hl 2 rfl) ?_
        refine va_get (D := (dC, dI)) (ci := 8) (v := .ref z12) (C := RMO) (T := TMO) (N := 24) hx hb hts (fun w h => List.mem_cons_of_mem _ (inMO w h)) hown hK hP 0 rfl rfl 20 (by decide) (hts _ (List.mem_cons_of_mem _ kw_529)) (fun _ h9 => h9) rfl dMO_moves_16 ?_
        refine lv_iload_n hx hb dMO_moves_19 rfl (lv_at hl 0 rfl) ?_
        refine hr_iald hx hb hK hP 4 0 rfl rfl (i := g) (by omega) (by omega) dMO_moves_20 ?_
        refine vp_callSi (va_runV (C := RMO) (As := [.int (nI g), .int (nI (wy g))]) (rest := [.int (nI s1)]) ⟨hx, hb, hml, hown, hts⟩ (c_MO_movesOf l dC dI cI cZ cG hM z1 z2 z3 z4 z5 z6 z7 z8 z9 z10 z11 z12 z13 z14 th k n iS sc sn mv sg dn gc ff bf gF g (wy g) (hn) (hf) (hbf) (by omega) (hwy g (by omega)) (hgF g (by omega))) (hr_cwV 2 hts kw_635 kw_637 kw_16 kw_33 kw_638 (by decide +kernel) (by rw [← hRe]; exact ⟨Nat.le_of_ble_eq_true rfl, Nat.le_of_ble_eq_true rfl⟩)) (hr_preR hKX hP [0, 1, 2, 3] rfl (ci := 8) (q0 := 0) (q := (RMO, TMO, 24)) rfl rfl) rfl rfl hl.1 rfl (lv_room (Nat.le_of_ble_eq_true rfl)) dMO_moves_21 ⟨by omega, by omega⟩).run (fun rv hrv => ?_)
        refine hr_eqi hrv ?_
        refine lv_iadd hx hb dMO_moves_24 ?_
        refine hr_eqi (nI_add _ _) ?_
        refine lv_istore_n (lv' := [(1, .int (nI (s1 + mvI bf ff (gF g) (wy g) n))), (2, .int (nI g)), (0, .ref hM)]) hx hb dMO_moves_25 rfl hl (by decide) rfl (fun ls hl => ?_)
        refine lv_iinc (v := nI (g + 1)) (lv' := [(2, .int (nI (g + 1))), (1, .int (nI (s1 + mvI bf ff (gF g) (wy g) n))), (0, .ref hM)]) hx hb dMO_moves_26 hl (k := 1) rfl (hr_inc _) (by decide) rfl (fun ls hl => ?_)
        refine lv_goto (tgt := 4) hx hb dMO_moves_29 (by decide) ?_
        exact ih_4 (g + 1) (s1 + mvI bf ff (gF g) (wy g) n) (by omega) (by rw [h1]; rfl) (by omega) ls (lv_sub hl [0, 1, 2] rfl)
  exact loop_4 (gc + 1) 0 0 (by omega) (rfl) (by omega) ls (lv_sub hl [0, 1, 2] rfl)
