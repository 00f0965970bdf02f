set_option maxHeartbeats 4000000 in
set_option maxRecDepth 100000 in
/-- a TEST more would be MOVED -/
theorem c_SE_addMove (l : Launch) (dC : Nat → ClassId) (dI : Nat → Nat → Nat) (cI cZ cG : ClassId) (kS : Nat) (aS : Nat) (bS : Nat) (dS : Nat) (eS : Nat) (gS9 : Nat) (fS : Nat) (K : Nat) (G : Nat) (ll : Nat) (lm : Nat) (ro : Nat → Nat) (mx : Nat → Nat → Nat) (g : Nat) (o : Nat) (sz : Nat) (hK3 : K ≤ 3) (hg : g < 8) (ho : o < 2 ^ 31) : Met l ySE_addMove wsSE_addMove ({ frames := 0, cells := 0, slots := 0, locals := 0 }) (va_Pc [.ref kS, .int (nI g), .int (nI o)] (fun U => U.heap.size = sz ∧ va_P (dC, dI) vwCl ([(kS, .inr (6, [.int (nI (K + 1)), .int (nI G), .int (nI ll), .int (nI lm), .ref aS, .ref bS, .ref dS, .ref eS, .ref gS9, .ref fS])), (gS9, .inl (cG, 8, .inr (.inr (.inr (.inr (grf ro))))))] ++ rws ro cI mx) U.heap ∧ KX dC dI cI cZ cG U ∧ va_D (fun _ => True) ([(kS, .inr (6, [.int (nI (K + 1)), .int (nI G), .int (nI ll), .int (nI lm), .ref aS, .ref bS, .ref dS, .ref eS, .ref gS9, .ref fS])), (gS9, .inl (cG, 8, .inr (.inr (.inr (.inr (grf ro))))))] ++ rws ro cI mx))) (va_Qv (fun (u : Unit) => True) (fun u t => va_P (dC, dI) vwCl ([(kS, .inr (6, [.int (nI (K + 1)), .int (nI G), .int (nI ll), .int (nI lm), .ref aS, .ref bS, .ref dS, .ref eS, .ref gS9, .ref fS])), (gS9, .inl (cG, 8, .inr (.inr (.inr (.inr (grf ro))))))] ++ rws ro cI (amF mx g o (K + 1))) t.heap ∧ va_D (va_A ([(kS, .inr (6, [.int (nI (K + 1)), .int (nI G), .int (nI ll), .int (nI lm), .ref aS, .ref bS, .ref dS, .ref eS, .ref gS9, .ref fS])), (gS9, .inl (cG, 8, .inr (.inr (.inr (.inr (grf ro))))))] ++ rws ro cI mx) sz) ([(kS, .inr (6, [.int (nI (K + 1)), .int (nI G), .int (nI ll), .int (nI lm), .ref aS, .ref bS, .ref dS, .ref eS, .ref gS9, .ref fS])), (gS9, .inl (cG, 8, .inr (.inr (.inr (.inr (grf ro))))))] ++ rws ro cI (amF mx g o (K + 1)))) (va_A ([(kS, .inr (6, [.int (nI (K + 1)), .int (nI G), .int (nI ll), .int (nI lm), .ref aS, .ref bS, .ref dS, .ref eS, .ref gS9, .ref fS])), (gS9, .inl (cG, 8, .inr (.inr (.inr (.inr (grf ro))))))] ++ rws ro cI mx) sz)) 0 0 (va_A ([(kS, .inr (6, [.int (nI (K + 1)), .int (nI G), .int (nI ll), .int (nI lm), .ref aS, .ref bS, .ref dS, .ref eS, .ref gS9, .ref fS])), (gS9, .inl (cG, 8, .inr (.inr (.inr (.inr (grf ro))))))] ++ rws ro cI mx) sz) := by
  refine Met.ofW (cc := cSE_addMove) (maxL := 4) (ret := none) (by decide) rfl ?_
  intro p e s m args below meth c s₁ B hml hv
  obtain ⟨rfl, hsz, hP, hKX, hD0⟩ := hv
  have hK := hKX.1
  have hx := B.exec
  have hb := B.bytes
  have hr := B.returns
  have hts := atoms_spec (ws := wsSE_addMove) B.pre
  have hown : s.vm.findClass RSE = some m.cls := findClass_of_methodNamed B.named
  have hlocks := B.notSynchronized
  subst hsz
  have hD := hD0.self (sz := s.heap.size)
  generalize hAe : va_A ([(kS, .inr (6, [.int (nI (K + 1)), .int (nI G), .int (nI ll), .int (nI lm), .ref aS, .ref bS, .ref dS, .ref eS, .ref gS9, .ref fS])), (gS9, .inl (cG, 8, .inr (.inr (.inr (.inr (grf ro))))))] ++ rws ro cI mx) s.heap.size = A at hD ⊢
  have hA : ∀ q : Nat, s.heap.size ≤ q → A q := fun q h => by rw [← hAe]; exact Or.inr h
  have hS : va_S A s.heap s.heap [] := va_S.rf
  have hl := lv_entry ([.ref kS, .int (nI g), .int (nI o)]) (n := 4) (Nat.le_of_ble_eq_true rfl)
  rw [lg_entry_eq]
  generalize (lg_sl ([.ref kS, .int (nI g), .int (nI o)]) ++ List.replicate (4 - (lg_sl ([.ref kS, .int (nI g), .int (nI o)])).length) Slot.unset).toArray = ls at hl ⊢
  have hl : lv_has ls 4 [(0, .ref kS), (1, .int (nI g)), (2, .int (nI o))] := hl
  generalize hRe : (headSpec wsSE_addMove ({ frames := 0, cells := 0, slots := 0, locals := 0 })).room = R
  have hRf : 0 ≤ R.frames := by rw [← hRe]; exact Nat.le_refl _
  have hRl : 0 ≤ R.locals := by rw [← hRe]; exact Nat.le_refl _
  have hRc : 0 ≤ R.cells := by rw [← hRe]; exact Nat.le_refl _
  have hRs : 0 ≤ R.slots := by rw [← hRe]; exact Nat.le_refl _
  generalize hargs : (List.toArray [.ref kS, .int (nI g), .int (nI o)] : Array Value) = args at hts ⊢
  generalize hQe : MQ below _ args s _ _ _ = Q
  refine lv_iconst (v := nI 0) hx hb dSE_addMove_0 (by decide +kernel) ?_
  refine lv_istore_n (lv' := [(3, .int (nI 0)), (0, .ref kS), (1, .int (nI g)), (2, .int (nI o))]) hx hb dSE_addMove_1 rfl hl (by decide) rfl (fun ls hl => ?_)
  rw [← amF_0 mx g o] at hP hD
  have loop_2 : ∀ (n9 : Nat) (i : Nat), i ≤ K + 1 → (K + 1) + 1 ≤ i + n9 → ∀ (H : Heap) (locs : List Loc), va_P (dC, dI) vwCl ([(kS, .inr (6, [.int (nI (K + 1)), .int (nI G), .int (nI ll), .int (nI lm), .ref aS, .ref bS, .ref dS, .ref eS, .ref gS9, .ref fS])), (gS9, .inl (cG, 8, .inr (.inr (.inr (.inr (grf ro))))))] ++ rws ro cI (amF mx g o i)) H → va_D A ([(kS, .inr (6, [.int (nI (K + 1)), .int (nI G), .int (nI ll), .int (nI lm), .ref aS, .ref bS, .ref dS, .ref eS, .ref gS9, .ref fS])), (gS9, .inl (cG, 8, .inr (.inr (.inr (.inr (grf ro))))))] ++ rws ro cI (amF mx g o i)) → va_S A s.heap H locs → ∀ (ls : Array Slot), lv_has ls 4 [(3, .int (nI i)), (0, .ref kS), (1, .int (nI g)), (2, .int (nI o))] → W p l e R s m args below meth c H locs 0 0 Q (F0 m 2 ls []) := by
    intro n9
    induction n9 with
    | zero =>
      intro i hi hmeas
      exact absurd hmeas (by omega)
    | succ n9 ih_2 =>
      intro i hi hmeas H locs hP hD hS ls hl
      refine lv_iload_n hx hb dSE_addMove_2 rfl (lv_at hl 0 rfl) ?_
      refine lv_aload_n hx hb dSE_addMove_3 rfl (lv_at hl 1 rfl) ?_
      refine va_get (D := (dC, dI)) (ci := 6) (v := .int (nI (K + 1))) (C := RSE) (T := TSE) (N := 10) hx hb hts (fun w h => List.mem_cons_of_mem _ (inSE w h)) hown hK hP 0 rfl rfl 0 (by decide) (hts _ (List.mem_cons_of_mem _ kw_116)) (fun _ h9 => h9) rfl dSE_addMove_4 ?_
      refine hr_icmp_ge hx hb (x := i) (y := (K + 1)) (by omega) (by omega) (tgt := 37) dSE_addMove_7 (by decide) (fun c_1 => ?_) (fun c_1 => ?_)
      · have ei : i = K + 1 := by omega
        rw [ei] at hP hD
        rw [← hQe]
        exact W.vret hx hb hr (fun t ht hW => ⟨⟨(), rfl, trivial, by rw [ht]; exact hP, hD⟩, hS.F ht⟩) hS.2.2 dSE_addMove_37
      · refine lv_aload_n hx hb dSE_addMove_10 rfl (lv_at hl 1 rfl) ?_
        refine va_get (D := (dC, dI)) (ci := 6) (v := .ref gS9) (C := RSE) (T := TSE) (N := 10) hx hb hts (fun w h => List.mem_cons_of_mem _ (inSE w h)) hown hK hP 0 rfl rfl 8 (by decide) (hts _ (List.mem_cons_of_mem _ kw_124)) (fun _ h9 => h9) rfl dSE_addMove_11 ?_
        refine lv_iload_n hx hb dSE_addMove_14 rfl (lv_at hl 2 rfl) ?_
        refine hr_aaldG hx hb hK hP 1 2 rfl rfl (i := g) (by omega) dSE_addMove_15 ?_
        refine lv_iload_n hx hb dSE_addMove_16 rfl (lv_at hl 0 rfl) ?_
        refine lv_dup2_11 hx hb dSE_addMove_17 rfl rfl ?_
        refine hr_iald hx hb hK hP (2 + g) 0 (rws_at (K := 2) rfl (by omega)) rfl (i := i) (by omega) (by omega) dSE_addMove_18 ?_
        refine lv_iload_n hx hb dSE_addMove_19 rfl (lv_at hl 0 rfl) ?_
        refine lv_iload_n hx hb dSE_addMove_20 rfl (lv_at hl 3 rfl) ?_
        refine hr_icmp_ne hx hb (x := i) (y := o) (by omega) (by omega) (tgt := 28) dSE_addMove_21 (by decide) (fun c_2 => ?_) (fun c_2 => ?_)
        · refine lv_iconst (v := nI 1) hx hb dSE_addMove_28 (by decide +kernel) ?_
          refine lv_iadd hx hb dSE_addMove_29 ?_
          refine hr_eqi (nI_add _ _) ?_
          refine hr_iastN hx hb hK hP hD hS (2 + g) 0 (rws_at (K := 2) rfl (by omega)) rfl (i := i) (by omega) (by omega) dSE_addMove_30 (fun H locs hP hD hS => ?_)
          rw [rws_set (K := 2) rfl] at hP hD
          have hP : va_P (dC, dI) vwCl ([(kS, .inr (6, [.int (nI (K + 1)), .int (nI G), .int (nI ll), .int (nI lm), .ref aS, .ref bS, .ref dS, .ref eS, .ref gS9, .ref fS])), (gS9, .inl (cG, 8, .inr (.inr (.inr (.inr (grf ro))))))] ++ rws ro cI (va_up (amF mx g o i) g (va_up ((amF mx g o i) g) i ((((amF mx g o i) g) i) + 1)))) H := hP
          have hD : va_D A ([(kS, .inr (6, [.int (nI (K + 1)), .int (nI G), .int (nI ll), .int (nI lm), .ref aS, .ref bS, .ref dS, .ref eS, .ref gS9, .ref fS])), (gS9, .inl (cG, 8, .inr (.inr (.inr (.inr (grf ro))))))] ++ rws ro cI (va_up (amF mx g o i) g (va_up ((amF mx g o i) g) i ((((amF mx g o i) g) i) + 1)))) := hD
          refine lv_iinc (v := nI (i + 1)) (lv' := [(3, .int (nI (i + 1))), (0, .ref kS), (1, .int (nI g)), (2, .int (nI o))]) hx hb dSE_addMove_31 hl (k := 0) rfl (hr_inc _) (by decide) rfl (fun ls hl => ?_)
          refine lv_goto (tgt := 2) hx hb dSE_addMove_34 (by decide) ?_
          rw [amF_up mx g o i (by rw [if_neg c_2])] at hP hD
          exact ih_2 (i + 1) (by omega) (by omega) _ _ hP hD hS ls (lv_sub hl [0, 1, 2, 3] rfl)
        · refine lv_iconst (v := nI 0) hx hb dSE_addMove_24 (by decide +kernel) ?_
          refine lv_goto (tgt := 29) hx hb dSE_addMove_25 (by decide) ?_
          refine lv_iadd hx hb dSE_addMove_29 ?_
          refine hr_eqi (nI_add _ _) ?_
          refine hr_iastN hx hb hK hP hD hS (2 + g) 0 (rws_at (K := 2) rfl (by omega)) rfl (i := i) (by omega) (by omega) dSE_addMove_30 (fun H locs hP hD hS => ?_)
          rw [rws_set (K := 2) rfl] at hP hD
          have hP : va_P (dC, dI) vwCl ([(kS, .inr (6, [.int (nI (K + 1)), .int (nI G), .int (nI ll), .int (nI lm), .ref aS, .ref bS, .ref dS, .ref eS, .ref gS9, .ref fS])), (gS9, .inl (cG, 8, .inr (.inr (.inr (.inr (grf ro))))))] ++ rws ro cI (va_up (amF mx g o i) g (va_up ((amF mx g o i) g) i ((((amF mx g o i) g) i) + 0)))) H := hP
          have hD : va_D A ([(kS, .inr (6, [.int (nI (K + 1)), .int (nI G), .int (nI ll), .int (nI lm), .ref aS, .ref bS, .ref dS, .ref eS, .ref gS9, .ref fS])), (gS9, .inl (cG, 8, .inr (.inr (.inr (.inr (grf ro))))))] ++ rws ro cI (va_up (amF mx g o i) g (va_up ((amF mx g o i) g) i ((((amF mx g o i) g) i) + 0)))) := hD
          refine lv_iinc (v := nI (i + 1)) (lv' := [(3, .int (nI (i + 1))), (0, .ref kS), (1, .int (nI g)), (2, .int (nI o))]) hx hb dSE_addMove_31 hl (k := 0) rfl (hr_inc _) (by decide) rfl (fun ls hl => ?_)
          refine lv_goto (tgt := 2) hx hb dSE_addMove_34 (by decide) ?_
          rw [amF_up mx g o i (by rw [if_pos c_2])] at hP hD
          exact ih_2 (i + 1) (by omega) (by omega) _ _ hP hD hS ls (lv_sub hl [0, 1, 2, 3] rfl)
  exact loop_2 ((K + 1) + 1) 0 (by omega) (by omega) _ _ hP hD hS ls (lv_sub hl [0, 1, 2, 3] rfl)

set_option maxHeartbeats 4000000 in
set_option maxRecDepth 100000 in
/-- how many would be MOVED -/
theorem c_SE_countMoves (l : Launch) (dC : Nat → ClassId) (dI : Nat → Nat → Nat) (cI cZ cG : ClassId) (kS : Nat) (aS : Nat) (bS : Nat) (dS : Nat) (eS : Nat) (gS9 : Nat) (fS : Nat) (K : Nat) (G : Nat) (ll : Nat) (lm : Nat) (ro : Nat → Nat) (mx : Nat → Nat → Nat) (hG : Nat) (aG : Nat) (bG : Nat) (dG : Nat) (gG : Nat) (gc : Nat) (gn : Nat) (gF : Nat → Nat) (gT : Nat → Nat) (gS : Nat → Option Nat) (gO : Nat → Nat) (h : Nat) (a : Nat) (b : Nat) (d : Nat) (sc : Nat) (mv : Nat) (sm : Nat → Nat) (zs : Nat → Nat) (sf : Nat → Option Nat) (sz : Nat) (hK3 : K ≤ 3) (hG8 : G ≤ 8) (hgn : gn ≤ 24) (hgF : ∀ g, g < G → gF g ≤ gn ∧ ∀ j, j < gF g → ¬ gO j = g) (hgO : ∀ j, j < gn → gO j < 24) (hsf : ∀ j, j < 24 → ∀ q, sf j = some q → q < 4) : Met l ySE_countMoves wsSE_countMoves ({ frames := 2, cells := 0, slots := 0, locals := 43 }) (va_Pc [.ref kS, .ref hG, .ref h] (fun U => U.heap.size = sz ∧ va_P (dC, dI) vwCl ([(kS, .inr (6, [.int (nI (K + 1)), .int (nI G), .int (nI ll), .int (nI lm), .ref aS, .ref bS, .ref dS, .ref eS, .ref gS9, .ref fS])), (gS9, .inl (cG, 8, .inr (.inr (.inr (.inr (grf ro)))))), (hG, .inr (1, [.int (nI gc), .int (nI gn), .ref aG, .ref bG, .ref dG, .ref gG])), (aG, .inl (cI, 24, .inl (fun j9 => nI (gF j9)))), (bG, .inl (cI, 24, .inl (fun j9 => nI (gT j9)))), (dG, .inl (cI, 24, .inl (fun j9 => oI (gS j9)))), (gG, .inl (cI, 24, .inl (fun j9 => nI (gO j9)))), (h, .inr (5, [.int (nI sc), .int (nI mv), .ref a, .ref b, .ref d])), (a, .inl (cI, 4, .inl (fun j9 => nI (sm j9)))), (b, .inl (cI, 4, .inl (fun j9 => nI (zs j9)))), (d, .inl (cI, 24, .inl (fun j9 => oI (sf j9))))] ++ rws ro cI mx) U.heap ∧ KX dC dI cI cZ cG U ∧ va_D (fun _ => True) ([(kS, .inr (6, [.int (nI (K + 1)), .int (nI G), .int (nI ll), .int (nI lm), .ref aS, .ref bS, .ref dS, .ref eS, .ref gS9, .ref fS])), (gS9, .inl (cG, 8, .inr (.inr (.inr (.inr (grf ro)))))), (hG, .inr (1, [.int (nI gc), .int (nI gn), .ref aG, .ref bG, .ref dG, .ref gG])), (aG, .inl (cI, 24, .inl (fun j9 => nI (gF j9)))), (bG, .inl (cI, 24, .inl (fun j9 => nI (gT j9)))), (dG, .inl (cI, 24, .inl (fun j9 => oI (gS j9)))), (gG, .inl (cI, 24, .inl (fun j9 => nI (gO j9)))), (h, .inr (5, [.int (nI sc), .int (nI mv), .ref a, .ref b, .ref d])), (a, .inl (cI, 4, .inl (fun j9 => nI (sm j9)))), (b, .inl (cI, 4, .inl (fun j9 => nI (zs j9)))), (d, .inl (cI, 24, .inl (fun j9 => oI (sf j9))))] ++ rws ro cI mx))) (va_Qv (fun (u : (Nat → Nat → Nat)) => ∀ x, x < G → ∀ s, s < K + 1 → u x s = mvI sf gO x s gn) (fun u t => va_P (dC, dI) vwCl ([(kS, .inr (6, [.int (nI (K + 1)), .int (nI G), .int (nI ll), .int (nI lm), .ref aS, .ref bS, .ref dS, .ref eS, .ref gS9, .ref fS])), (gS9, .inl (cG, 8, .inr (.inr (.inr (.inr (grf ro)))))), (hG, .inr (1, [.int (nI gc), .int (nI gn), .ref aG, .ref bG, .ref dG, .ref gG])), (aG, .inl (cI, 24, .inl (fun j9 => nI (gF j9)))), (bG, .inl (cI, 24, .inl (fun j9 => nI (gT j9)))), (dG, .inl (cI, 24, .inl (fun j9 => oI (gS j9)))), (gG, .inl (cI, 24, .inl (fun j9 => nI (gO j9)))), (h, .inr (5, [.int (nI sc), .int (nI mv), .ref a, .ref b, .ref d])), (a, .inl (cI, 4, .inl (fun j9 => nI (sm j9)))), (b, .inl (cI, 4, .inl (fun j9 => nI (zs j9)))), (d, .inl (cI, 24, .inl (fun j9 => oI (sf j9))))] ++ rws ro cI u) t.heap ∧ va_D (va_A ([(kS, .inr (6, [.int (nI (K + 1)), .int (nI G), .int (nI ll), .int (nI lm), .ref aS, .ref bS, .ref dS, .ref eS, .ref gS9, .ref fS])), (gS9, .inl (cG, 8, .inr (.inr (.inr (.inr (grf ro)))))), (hG, .inr (1, [.int (nI gc), .int (nI gn), .ref aG, .ref bG, .ref dG, .ref gG])), (aG, .inl (cI, 24, .inl (fun j9 => nI (gF j9)))), (bG, .inl (cI, 24, .inl (fun j9 => nI (gT j9)))), (dG, .inl (cI, 24, .inl (fun j9 => oI (gS j9)))), (gG, .inl (cI, 24, .inl (fun j9 => nI (gO j9)))), (h, .inr (5, [.int (nI sc), .int (nI mv), .ref a, .ref b, .ref d])), (a, .inl (cI, 4, .inl (fun j9 => nI (sm j9)))), (b, .inl (cI, 4, .inl (fun j9 => nI (zs j9)))), (d, .inl (cI, 24, .inl (fun j9 => oI (sf j9))))] ++ rws ro cI mx) sz) ([(kS, .inr (6, [.int (nI (K + 1)), .int (nI G), .int (nI ll), .int (nI lm), .ref aS, .ref bS, .ref dS, .ref eS, .ref gS9, .ref fS])), (gS9, .inl (cG, 8, .inr (.inr (.inr (.inr (grf ro)))))), (hG, .inr (1, [.int (nI gc), .int (nI gn), .ref aG, .ref bG, .ref dG, .ref gG])), (aG, .inl (cI, 24, .inl (fun j9 => nI (gF j9)))), (bG, .inl (cI, 24, .inl (fun j9 => nI (gT j9)))), (dG, .inl (cI, 24, .inl (fun j9 => oI (gS j9)))), (gG, .inl (cI, 24, .inl (fun j9 => nI (gO j9)))), (h, .inr (5, [.int (nI sc), .int (nI mv), .ref a, .ref b, .ref d])), (a, .inl (cI, 4, .inl (fun j9 => nI (sm j9)))), (b, .inl (cI, 4, .inl (fun j9 => nI (zs j9)))), (d, .inl (cI, 24, .inl (fun j9 => oI (sf j9))))] ++ rws ro cI u)) (va_A ([(kS, .inr (6, [.int (nI (K + 1)), .int (nI G), .int (nI ll), .int (nI lm), .ref aS, .ref bS, .ref dS, .ref eS, .ref gS9, .ref fS])), (gS9, .inl (cG, 8, .inr (.inr (.inr (.inr (grf ro)))))), (hG, .inr (1, [.int (nI gc), .int (nI gn), .ref aG, .ref bG, .ref dG, .ref gG])), (aG, .inl (cI, 24, .inl (fun j9 => nI (gF j9)))), (bG, .inl (cI, 24, .inl (fun j9 => nI (gT j9)))), (dG, .inl (cI, 24, .inl (fun j9 => oI (gS j9)))), (gG, .inl (cI, 24, .inl (fun j9 => nI (gO j9)))), (h, .inr (5, [.int (nI sc), .int (nI mv), .ref a, .ref b, .ref d])), (a, .inl (cI, 4, .inl (fun j9 => nI (sm j9)))), (b, .inl (cI, 4, .inl (fun j9 => nI (zs j9)))), (d, .inl (cI, 24, .inl (fun j9 => oI (sf j9))))] ++ rws ro cI mx) sz)) 0 0 (va_A ([(kS, .inr (6, [.int (nI (K + 1)), .int (nI G), .int (nI ll), .int (nI lm), .ref aS, .ref bS, .ref dS, .ref eS, .ref gS9, .ref fS])), (gS9, .inl (cG, 8, .inr (.inr (.inr (.inr (grf ro)))))), (hG, .inr (1, [.int (nI gc), .int (nI gn), .ref aG, .ref bG, .ref dG, .ref gG])), (aG, .inl (cI, 24, .inl (fun j9 => nI (gF j9)))), (bG, .inl (cI, 24, .inl (fun j9 => nI (gT j9)))), (dG, .inl (cI, 24, .inl (fun j9 => oI (gS j9)))), (gG, .inl (cI, 24, .inl (fun j9 => nI (gO j9)))), (h, .inr (5, [.int (nI sc), .int (nI mv), .ref a, .ref b, .ref d])), (a, .inl (cI, 4, .inl (fun j9 => nI (sm j9)))), (b, .inl (cI, 4, .inl (fun j9 => nI (zs j9)))), (d, .inl (cI, 24, .inl (fun j9 => oI (sf j9))))] ++ rws ro cI mx) sz) := by
  refine Met.ofW (cc := cSE_countMoves) (maxL := 6) (ret := none) (by decide) rfl ?_
  intro p e s m args below meth c s₁ B hml hv
  obtain ⟨rfl, hsz, hP, hKX, hD0⟩ := hv
  have hK := hKX.1
  have hx := B.exec
  have hb := B.bytes
  have hr := B.returns
  have hts := atoms_spec (ws := wsSE_countMoves) B.pre
  have hown : s.vm.findClass RSE = some m.cls := findClass_of_methodNamed B.named
  have hlocks := B.notSynchronized
  subst hsz
  have hD := hD0.self (sz := s.heap.size)
  generalize hAe : va_A ([(kS, .inr (6, [.int (nI (K + 1)), .int (nI G), .int (nI ll), .int (nI lm), .ref aS, .ref bS, .ref dS, .ref eS, .ref gS9, .ref fS])), (gS9, .inl (cG, 8, .inr (.inr (.inr (.inr (grf ro)))))), (hG, .inr (1, [.int (nI gc), .int (nI gn), .ref aG, .ref bG, .ref dG, .ref gG])), (aG, .inl (cI, 24, .inl (fun j9 => nI (gF j9)))), (bG, .inl (cI, 24, .inl (fun j9 => nI (gT j9)))), (dG, .inl (cI, 24, .inl (fun j9 => oI (gS j9)))), (gG, .inl (cI, 24, .inl (fun j9 => nI (gO j9)))), (h, .inr (5, [.int (nI sc), .int (nI mv), .ref a, .ref b, .ref d])), (a, .inl (cI, 4, .inl (fun j9 => nI (sm j9)))), (b, .inl (cI, 4, .inl (fun j9 => nI (zs j9)))), (d, .inl (cI, 24, .inl (fun j9 => oI (sf j9))))] ++ rws ro cI mx) s.heap.size = A at hD ⊢
  have hA : ∀ q : Nat, s.heap.size ≤ q → A q := fun q h => by rw [← hAe]; exact Or.inr h
  have hS : va_S A s.heap s.heap [] := va_S.rf
  have hl := lv_entry ([.ref kS, .ref hG, .ref h]) (n := 6) (Nat.le_of_ble_eq_true rfl)
  rw [lg_entry_eq]
  generalize (lg_sl ([.ref kS, .ref hG, .ref h]) ++ List.replicate (6 - (lg_sl ([.ref kS, .ref hG, .ref h])).length) Slot.unset).toArray = ls at hl ⊢
  have hl : lv_has ls 6 [(0, .ref kS), (1, .ref hG), (2, .ref h)] := hl
  generalize hRe : (headSpec wsSE_countMoves ({ frames := 2, cells := 0, slots := 0, locals := 43 })).room = R
  have hRf : 2 ≤ R.frames := by rw [← hRe]; exact Nat.le_refl _
  have hRl : 43 ≤ R.locals := by rw [← hRe]; exact Nat.le_refl _
  have hRc : 0 ≤ R.cells := by rw [← hRe]; exact Nat.le_refl _
  have hRs : 0 ≤ R.slots := by rw [← hRe]; exact Nat.le_refl _
  generalize hargs : (List.toArray [.ref kS, .ref hG, .ref h] : Array Value) = args at hts ⊢
  generalize hQe : MQ below _ args s _ _ _ = Q
  refine lv_iconst (v := nI 0) hx hb dSE_countMoves_0 (by decide +kernel) ?_
  refine lv_istore_n (lv' := [(3, .int (nI 0)), (0, .ref kS), (1, .ref hG), (2, .ref h)]) hx hb dSE_countMoves_1 rfl hl (by decide) rfl (fun ls hl => ?_)
  have loop_2 : ∀ (n9 : Nat) (g : Nat) (mm : Nat → Nat → Nat), g ≤ G → (∀ x, x < g → ∀ q, q < K + 1 → mm x q = mvI sf gO x q gn) → G + 1 ≤ g + n9 → ∀ (H : Heap) (locs : List Loc), va_P (dC, dI) vwCl ([(kS, .inr (6, [.int (nI (K + 1)), .int (nI G), .int (nI ll), .int (nI lm), .ref aS, .ref bS, .ref dS, .ref eS, .ref gS9, .ref fS])), (gS9, .inl (cG, 8, .inr (.inr (.inr (.inr (grf ro)))))), (hG, .inr (1, [.int (nI gc), .int (nI gn), .ref aG, .ref bG, .ref dG, .ref gG])), (aG, .inl (cI, 24, .inl (fun j9 => nI (gF j9)))), (bG, .inl (cI, 24, .inl (fun j9 => nI (gT j9)))), (dG, .inl (cI, 24, .inl (fun j9 => oI (gS j9)))), (gG, .inl (cI, 24, .inl (fun j9 => nI (gO j9)))), (h, .inr (5, [.int (nI sc), .int (nI mv), .ref a, .ref b, .ref d])), (a, .inl (cI, 4, .inl (fun j9 => nI (sm j9)))), (b, .inl (cI, 4, .inl (fun j9 => nI (zs j9)))), (d, .inl (cI, 24, .inl (fun j9 => oI (sf j9))))] ++ rws ro cI mm) H → va_D A ([(kS, .inr (6, [.int (nI (K + 1)), .int (nI G), .int (nI ll), .int (nI lm), .ref aS, .ref bS, .ref dS, .ref eS, .ref gS9, .ref fS])), (gS9, .inl (cG, 8, .inr (.inr (.inr (.inr (grf ro)))))), (hG, .inr (1, [.int (nI gc), .int (nI gn), .ref aG, .ref bG, .ref dG, .ref gG])), (aG, .inl (cI, 24, .inl (fun j9 => nI (gF j9)))), (bG, .inl (cI, 24, .inl (fun j9 => nI (gT j9)))), (dG, .inl (cI, 24, .inl (fun j9 => oI (gS j9)))), (gG, .inl (cI, 24, .inl (fun j9 => nI (gO j9)))), (h, .inr (5, [.int (nI sc), .int (nI mv), .ref a, .ref b, .ref d])), (a, .inl (cI, 4, .inl (fun j9 => nI (sm j9)))), (b, .inl (cI, 4, .inl (fun j9 => nI (zs j9)))), (d, .inl (cI, 24, .inl (fun j9 => oI (sf j9))))] ++ rws ro cI mm) → va_S A s.heap H locs → ∀ (ls : Array Slot), lv_has ls 6 [(3, .int (nI g)), (0, .ref kS), (1, .ref hG), (2, .ref h)] → W p l e R s m args below meth c H locs 0 0 Q (F0 m 2 ls []) := by
    intro n9
    induction n9 with
    | zero =>
      intro g mm hg hm hmeas
      exact absurd hmeas (by omega)
    | succ n9 ih_2 =>
      intro g mm hg hm hmeas H locs hP hD hS ls hl
      refine lv_iload_n hx hb dSE_countMoves_2 rfl (lv_at hl 0 rfl) ?_
      refine lv_aload_n hx hb dSE_countMoves_3 rfl (lv_at hl 1 rfl) ?_
      refine va_get (D := (dC, dI)) (ci := 6) (v := .int (nI G)) (C := RSE) (T := TSE) (N := 10) hx hb hts (fun w h => List.mem_cons_of_mem _ (inSE w h)) hown hK hP 0 rfl rfl 1 (by decide) (hts _ (List.mem_cons_of_mem _ kw_117)) (fun _ h9 => h9) rfl dSE_countMoves_4 ?_
      refine hr_icmp_ge hx hb (x := g) (y := G) (by omega) (by omega) (tgt := 80) dSE_countMoves_7 (by decide) (fun c_1 => ?_) (fun c_1 => ?_)
      · rw [← hQe]
        exact W.vret hx hb hr (fun t ht hW => ⟨⟨mm, rfl, fun x hx s hs => hm x (by omega) s hs, by rw [ht]; exact hP, hD⟩, hS.F ht⟩) hS.2.2 dSE_countMoves_80
      · have hF1 := hgF g (by omega)
        refine lv_aload_n hx hb dSE_countMoves_10 rfl (lv_at hl 1 rfl) ?_
        refine va_get (D := (dC, dI)) (ci := 6) (v := .ref gS9) (C := RSE) (T := TSE) (N := 10) hx hb hts (fun w h => List.mem_cons_of_mem _ (inSE w h)) hown hK hP 0 rfl rfl 8 (by decide) (hts _ (List.mem_cons_of_mem _ kw_124)) (fun _ h9 => h9) rfl dSE_countMoves_11 ?_
        refine lv_iload_n hx hb dSE_countMoves_14 rfl (lv_at hl 0 rfl) ?_
        refine hr_aaldG hx hb hK hP 1 2 rfl rfl (i := g) (by omega) dSE_countMoves_15 ?_
        refine lv_iconst (v := nI 0) hx hb dSE_countMoves_16 (by decide +kernel) ?_
        have hat : ([(kS, .inr (6, [.int (nI (K + 1)), .int (nI G), .int (nI ll), .int (nI lm), .ref aS, .ref bS, .ref dS, .ref eS, .ref gS9, .ref fS])), (gS9, .inl (cG, 8, .inr (.inr (.inr (.inr (grf ro)))))), (hG, .inr (1, [.int (nI gc), .int (nI gn), .ref aG, .ref bG, .ref dG, .ref gG])), (aG, .inl (cI, 24, .inl (fun j9 => nI (gF j9)))), (bG, .inl (cI, 24, .inl (fun j9 => nI (gT j9)))), (dG, .inl (cI, 24, .inl (fun j9 => oI (gS j9)))), (gG, .inl (cI, 24, .inl (fun j9 => nI (gO j9)))), (h, .inr (5, [.int (nI sc), .int (nI mv), .ref a, .ref b, .ref d])), (a, .inl (cI, 4, .inl (fun j9 => nI (sm j9)))), (b, .inl (cI, 4, .inl (fun j9 => nI (zs j9)))), (d, .inl (cI, 24, .inl (fun j9 => oI (sf j9))))] ++ rws ro cI mm)[11 + g]? = some (ro g, .inl (cI, 4, .inl (fun j9 => nI (mm g j9)))) := rws_at (K := 11) rfl (by omega)
        refine hr_call1v (va_runS (As := [.ref (ro g), .int (nI 0)]) (rest := []) ⟨hx, hb, hml, hown, hts⟩ (c_AR_fill l dC dI cI cZ cG (ro g) 4 (fun j9 => nI (mm g j9)) (nI 0) H.size (by decide)) (hr_cwS 2 hts kw_332 kw_167 kw_30 kw_168 (by decide +kernel) (by rw [← hRe]; exact ⟨Nat.le_of_ble_eq_true rfl, Nat.le_of_ble_eq_true rfl⟩)) (hr_pre1S hKX hP hD (11 + g) hat) rfl rfl hl.1 rfl (lv_room (Nat.le_of_ble_eq_true rfl)) dSE_countMoves_17 ⟨by omega, by omega⟩) hP hD hS hA (11 + g) hat (fun H locs hP hD hS => ?_)
        rw [show (fun _ => nI 0 : Nat → Int32) = (fun j9 => nI ((fun _ => 0 : Nat → Nat) j9)) from rfl, rws_set (K := 11) rfl] at hP hD
        have hP : va_P (dC, dI) vwCl ([(kS, .inr (6, [.int (nI (K + 1)), .int (nI G), .int (nI ll), .int (nI lm), .ref aS, .ref bS, .ref dS, .ref eS, .ref gS9, .ref fS])), (gS9, .inl (cG, 8, .inr (.inr (.inr (.inr (grf ro)))))), (hG, .inr (1, [.int (nI gc), .int (nI gn), .ref aG, .ref bG, .ref dG, .ref gG])), (aG, .inl (cI, 24, .inl (fun j9 => nI (gF j9)))), (bG, .inl (cI, 24, .inl (fun j9 => nI (gT j9)))), (dG, .inl (cI, 24, .inl (fun j9 => oI (gS j9)))), (gG, .inl (cI, 24, .inl (fun j9 => nI (gO j9)))), (h, .inr (5, [.int (nI sc), .int (nI mv), .ref a, .ref b, .ref d])), (a, .inl (cI, 4, .inl (fun j9 => nI (sm j9)))), (b, .inl (cI, 4, .inl (fun j9 => nI (zs j9)))), (d, .inl (cI, 24, .inl (fun j9 => oI (sf j9))))] ++ rws ro cI (va_up mm g (fun _ => 0))) H := hP
        have hD : va_D A ([(kS, .inr (6, [.int (nI (K + 1)), .int (nI G), .int (nI ll), .int (nI lm), .ref aS, .ref bS, .ref dS, .ref eS, .ref gS9, .ref fS])), (gS9, .inl (cG, 8, .inr (.inr (.inr (.inr (grf ro)))))), (hG, .inr (1, [.int (nI gc), .int (nI gn), .ref aG, .ref bG, .ref dG, .ref gG])), (aG, .inl (cI, 24, .inl (fun j9 => nI (gF j9)))), (bG, .inl (cI, 24, .inl (fun j9 => nI (gT j9)))), (dG, .inl (cI, 24, .inl (fun j9 => oI (gS j9)))), (gG, .inl (cI, 24, .inl (fun j9 => nI (gO j9)))), (h, .inr (5, [.int (nI sc), .int (nI mv), .ref a, .ref b, .ref d])), (a, .inl (cI, 4, .inl (fun j9 => nI (sm j9)))), (b, .inl (cI, 4, .inl (fun j9 => nI (zs j9)))), (d, .inl (cI, 24, .inl (fun j9 => oI (sf j9))))] ++ rws ro cI (va_up mm g (fun _ => 0))) := hD
        refine lv_aload_n hx hb dSE_countMoves_20 rfl (lv_at hl 2 rfl) ?_
        refine va_get (D := (dC, dI)) (ci := 1) (v := .ref aG) (C := RGR) (T := TGR) (N := 6) hx hb hts (fun w h => List.mem_cons_of_mem _ (inGR w h)) hown hK hP 2 rfl rfl 2 (by decide) (hts _ (List.mem_cons_of_mem _ kw_85)) (fun _ h9 => h9) rfl dSE_countMoves_21 ?_
        refine lv_iload_n hx hb dSE_countMoves_24 rfl (lv_at hl 0 rfl) ?_
        refine hr_iald hx hb hK hP 3 0 rfl rfl (i := g) (by omega) (by omega) dSE_countMoves_25 ?_
        refine lv_istore (lv' := [(4, .int (nI (gF g))), (3, .int (nI g)), (0, .ref kS), (1, .ref hG), (2, .ref h)]) hx hb dSE_countMoves_26 hl (by decide) rfl (fun ls hl => ?_)
        have loop_28 : ∀ (n9 : Nat) (t : Nat) (m2 : Nat → Nat → Nat), t ≤ gn → (∀ x, x < g → ∀ q, q < K + 1 → m2 x q = mvI sf gO x q gn) → (∀ q, q < K + 1 → m2 g q = mvI sf gO g q t) → gn + 1 ≤ t + n9 → ∀ (H : Heap) (locs : List Loc), va_P (dC, dI) vwCl ([(kS, .inr (6, [.int (nI (K + 1)), .int (nI G), .int (nI ll), .int (nI lm), .ref aS, .ref bS, .ref dS, .ref eS, .ref gS9, .ref fS])), (gS9, .inl (cG, 8, .inr (.inr (.inr (.inr (grf ro)))))), (hG, .inr (1, [.int (nI gc), .int (nI gn), .ref aG, .ref bG, .ref dG, .ref gG])), (aG, .inl (cI, 24, .inl (fun j9 => nI (gF j9)))), (bG, .inl (cI, 24, .inl (fun j9 => nI (gT j9)))), (dG, .inl (cI, 24, .inl (fun j9 => oI (gS j9)))), (gG, .inl (cI, 24, .inl (fun j9 => nI (gO j9)))), (h, .inr (5, [.int (nI sc), .int (nI mv), .ref a, .ref b, .ref d])), (a, .inl (cI, 4, .inl (fun j9 => nI (sm j9)))), (b, .inl (cI, 4, .inl (fun j9 => nI (zs j9)))), (d, .inl (cI, 24, .inl (fun j9 => oI (sf j9))))] ++ rws ro cI m2) H → va_D A ([(kS, .inr (6, [.int (nI (K + 1)), .int (nI G), .int (nI ll), .int (nI lm), .ref aS, .ref bS, .ref dS, .ref eS, .ref gS9, .ref fS])), (gS9, .inl (cG, 8, .inr (.inr (.inr (.inr (grf ro)))))), (hG, .inr (1, [.int (nI gc), .int (nI gn), .ref aG, .ref bG, .ref dG, .ref gG])), (aG, .inl (cI, 24, .inl (fun j9 => nI (gF j9)))), (bG, .inl (cI, 24, .inl (fun j9 => nI (gT j9)))), (dG, .inl (cI, 24, .inl (fun j9 => oI (gS j9)))), (gG, .inl (cI, 24, .inl (fun j9 => nI (gO j9)))), (h, .inr (5, [.int (nI sc), .int (nI mv), .ref a, .ref b, .ref d])), (a, .inl (cI, 4, .inl (fun j9 => nI (sm j9)))), (b, .inl (cI, 4, .inl (fun j9 => nI (zs j9)))), (d, .inl (cI, 24, .inl (fun j9 => oI (sf j9))))] ++ rws ro cI m2) → va_S A s.heap H locs → ∀ (ls : Array Slot), lv_has ls 6 [(4, .int (nI t)), (3, .int (nI g)), (0, .ref kS), (1, .ref hG), (2, .ref h)] → W p l e R s m args below meth c H locs 0 0 Q (F0 m 28 ls []) := by
          intro n9
          induction n9 with
          | zero =>
            intro t m2 ht hm2 hm3 hmeas
            exact absurd hmeas (by omega)
          | succ n9 ih_28 =>
            intro t m2 ht hm2 hm3 hmeas H locs hP hD hS ls hl
            refine lv_iload hx hb dSE_countMoves_28 (lv_at hl 0 rfl) ?_
            refine lv_aload_n hx hb dSE_countMoves_30 rfl (lv_at hl 3 rfl) ?_
            refine va_get (D := (dC, dI)) (ci := 1) (v := .int (nI gn)) (C := RGR) (T := TGR) (N := 6) hx hb hts (fun w h => List.mem_cons_of_mem _ (inGR w h)) hown hK hP 2 rfl rfl 1 (by decide) (hts _ (List.mem_cons_of_mem _ kw_81)) (fun _ h9 => h9) rfl dSE_countMoves_31 ?_
            refine hr_icmp_ge hx hb (x := t) (y := gn) (by omega) (by omega) (tgt := 74) dSE_countMoves_34 (by decide) (fun c_2 => ?_) (fun c_2 => ?_)
            · refine lv_iinc (v := nI (g + 1)) (lv' := [(3, .int (nI (g + 1))), (4, .int (nI t)), (0, .ref kS), (1, .ref hG), (2, .ref h)]) hx hb dSE_countMoves_74 hl (k := 1) rfl (hr_inc _) (by decide) rfl (fun ls hl => ?_)
              refine lv_goto (tgt := 2) hx hb dSE_countMoves_77 (by decide) ?_
              exact ih_2 (g + 1) m2 (by omega) (fun x hx s hs => by
      rcases (show x = g ∨ x < g by omega) with z | z
      · rw [z, hm3 s hs, show t = gn by omega]
      · exact hm2 x z s hs) (by omega) _ _ hP hD hS ls (lv_sub hl [0, 2, 3, 4] rfl)
            · refine lv_aload_n hx hb dSE_countMoves_37 rfl (lv_at hl 4 rfl) ?_
              refine lv_iload hx hb dSE_countMoves_38 (lv_at hl 0 rfl) ?_
              refine vp_callSi (va_runV (C := RSP) (As := [.int (nI t)]) (rest := []) ⟨hx, hb, hml, hown, hts⟩ (c_SP_shardAt l dC dI cI cZ cG h a b d sc mv sm zs sf (nI t)) (hr_cwV 1 hts kw_333 kw_334 kw_335 kw_29 kw_336 (by decide +kernel) (by rw [← hRe]; exact ⟨Nat.le_of_ble_eq_true rfl, Nat.le_of_ble_eq_true rfl⟩)) (hr_preR hKX hP [7, 8, 9, 10] rfl (ci := 5) (q0 := 7) (q := (RSP, TSP, 5)) rfl rfl) rfl rfl hl.1 rfl (lv_room (Nat.le_of_ble_eq_true rfl)) dSE_countMoves_40 ⟨by omega, by omega⟩).run (fun rv hrv => ?_)
              refine hr_eqi hrv ?_
              refine hr_eqi (show oI (shA sf (nI t)) = oI (sf t) by rw [shA_nI (by omega)]) ?_
              refine lv_istore (lv' := [(5, .int (oI (sf t))), (4, .int (nI t)), (3, .int (nI g)), (0, .ref kS), (1, .ref hG), (2, .ref h)]) hx hb dSE_countMoves_43 hl (by decide) rfl (fun ls hl => ?_)
              refine lv_iload hx hb dSE_countMoves_45 (lv_at hl 0 rfl) ?_
              refine lv_iconst (v := (-1)) hx hb dSE_countMoves_47 (by decide +kernel) ?_
              refine lv_icmp_eq (tgt := 68) hx hb dSE_countMoves_48 (by decide) (fun c_3 => ?_) (fun c_3 => ?_)
              · have hsf1 := (oI_m1 (fun z hz => by have := hsf t (by omega) z hz; omega)).mp c_3
                refine lv_iinc (v := nI (t + 1)) (lv' := [(4, .int (nI (t + 1))), (5, .int (oI (sf t))), (3, .int (nI g)), (0, .ref kS), (1, .ref hG), (2, .ref h)]) hx hb dSE_countMoves_68 hl (k := 1) rfl (hr_inc _) (by decide) rfl (fun ls hl => ?_)
                refine lv_goto (tgt := 28) hx hb dSE_countMoves_71 (by decide) ?_
                exact ih_28 (t + 1) m2 (by omega) (hm2) (fun s hs => by rw [mvI_no hsf1]; exact hm3 s hs) (by omega) _ _ hP hD hS ls (lv_sub hl [0, 2, 3, 4, 5] rfl)
              · obtain ⟨q, hsf1⟩ : ∃ q, sf t = some q := by
                  cases e9 : sf t with
                  | none => exact absurd (by rw [e9]; rfl) c_3
                  | some q => exact ⟨q, rfl⟩
                have hq4 := hsf t (by omega) q hsf1
                rw [hsf1] at hl
                have hl : lv_has ls 6 [(5, .int (nI q)), (4, .int (nI t)), (3, .int (nI g)), (0, .ref kS), (1, .ref hG), (2, .ref h)] := hl
                refine lv_aload_n hx hb dSE_countMoves_51 rfl (lv_at hl 4 rfl) ?_
                refine lv_iload hx hb dSE_countMoves_52 (lv_at hl 1 rfl) ?_
                refine vp_callSi (va_runV (C := RGR) (As := [.int (nI t)]) (rest := []) ⟨hx, hb, hml, hown, hts⟩ (c_GR_groupAt l dC dI cI cZ cG hG aG bG dG gG gc gn gF gT gS gO (nI t) (hgn)) (hr_cwV 1 hts kw_340 kw_317 kw_318 kw_26 kw_319 (by decide +kernel) (by rw [← hRe]; exact ⟨Nat.le_of_ble_eq_true rfl, Nat.le_of_ble_eq_true rfl⟩)) (hr_preR hKX hP [2, 3, 4, 5, 6] rfl (ci := 1) (q0 := 2) (q := (RGR, TGR, 6)) rfl rfl) rfl rfl hl.1 rfl (lv_room (Nat.le_of_ble_eq_true rfl)) dSE_countMoves_54 ⟨by omega, by omega⟩).run (fun rv hrv => ?_)
                refine hr_eqi hrv ?_
                refine hr_eqi (show oI (rowA gn gO (nI t)) = nI (gO t) by rw [rowA_nI (by omega) (by omega)]; rfl) ?_
                have hO1 := hgO t (by omega)
                refine lv_iload_n hx hb dSE_countMoves_57 rfl (lv_at hl 2 rfl) ?_
                refine hr_icmp_ne hx hb (x := (gO t)) (y := g) (by omega) (by omega) (tgt := 68) dSE_countMoves_58 (by decide) (fun c_4 => ?_) (fun c_4 => ?_)
                · refine lv_iinc (v := nI (t + 1)) (lv' := [(4, .int (nI (t + 1))), (5, .int (nI q)), (3, .int (nI g)), (0, .ref kS), (1, .ref hG), (2, .ref h)]) hx hb dSE_countMoves_68 hl (k := 1) rfl (hr_inc _) (by decide) rfl (fun ls hl => ?_)
                  refine lv_goto (tgt := 28) hx hb dSE_countMoves_71 (by decide) ?_
                  exact ih_28 (t + 1) m2 (by omega) (hm2) (fun s hs => by rw [mvI_skip c_4]; exact hm3 s hs) (by omega) _ _ hP hD hS ls (lv_sub hl [0, 2, 3, 4, 5] rfl)
                · refine lv_aload_n hx hb dSE_countMoves_61 rfl (lv_at hl 3 rfl) ?_
                  refine lv_iload_n hx hb dSE_countMoves_62 rfl (lv_at hl 2 rfl) ?_
                  refine lv_iload hx hb dSE_countMoves_63 (lv_at hl 0 rfl) ?_
                  refine hr_callv (wr := [(hG, .inr (1, [.int (nI gc), .int (nI gn), .ref aG, .ref bG, .ref dG, .ref gG])), (aG, .inl (cI, 24, .inl (fun j9 => nI (gF j9)))), (bG, .inl (cI, 24, .inl (fun j9 => nI (gT j9)))), (dG, .inl (cI, 24, .inl (fun j9 => oI (gS j9)))), (gG, .inl (cI, 24, .inl (fun j9 => nI (gO j9)))), (h, .inr (5, [.int (nI sc), .int (nI mv), .ref a, .ref b, .ref d])), (a, .inl (cI, 4, .inl (fun j9 => nI (sm j9)))), (b, .inl (cI, 4, .inl (fun j9 => nI (zs j9)))), (d, .inl (cI, 24, .inl (fun j9 => oI (sf j9))))]) (va_runV (C := RSE) (As := [.int (nI g), .int (nI q)]) (rest := []) ⟨hx, hb, hml, hown, hts⟩ (c_SE_addMove l dC dI cI cZ cG kS aS bS dS eS gS9 fS K G ll lm ro m2 g q H.size (hK3) (by omega) (by omega)) (hr_cwV 2 hts kw_341 kw_343 kw_2 kw_27 kw_344 (by decide +kernel) (by rw [← hRe]; exact ⟨Nat.le_of_ble_eq_true rfl, Nat.le_of_ble_eq_true rfl⟩)) (hr_preW hKX hP hD [0, 1, 11, 12, 13, 14, 15, 16, 17, 18] (by decide) rfl (ci := 6) (q0 := 0) (q := (RSE, TSE, 10)) rfl rfl) rfl rfl hl.1 rfl (lv_room (Nat.le_of_ble_eq_true rfl)) dSE_countMoves_65 ⟨by omega, by omega⟩) hP hD hS hA [0, 1, 11, 12, 13, 14, 15, 16, 17, 18] [2, 3, 4, 5, 6, 7, 8, 9, 10] rfl rfl (by decide) (by decide) [9, 10, 0, 1, 2, 3, 4, 5, 6, 7, 8, 11, 12, 13, 14, 15, 16, 17, 18] (fun u => [(kS, .inr (6, [.int (nI (K + 1)), .int (nI G), .int (nI ll), .int (nI lm), .ref aS, .ref bS, .ref dS, .ref eS, .ref gS9, .ref fS])), (gS9, .inl (cG, 8, .inr (.inr (.inr (.inr (grf ro)))))), (hG, .inr (1, [.int (nI gc), .int (nI gn), .ref aG, .ref bG, .ref dG, .ref gG])), (aG, .inl (cI, 24, .inl (fun j9 => nI (gF j9)))), (bG, .inl (cI, 24, .inl (fun j9 => nI (gT j9)))), (dG, .inl (cI, 24, .inl (fun j9 => oI (gS j9)))), (gG, .inl (cI, 24, .inl (fun j9 => nI (gO j9)))), (h, .inr (5, [.int (nI sc), .int (nI mv), .ref a, .ref b, .ref d])), (a, .inl (cI, 4, .inl (fun j9 => nI (sm j9)))), (b, .inl (cI, 4, .inl (fun j9 => nI (zs j9)))), (d, .inl (cI, 24, .inl (fun j9 => oI (sf j9))))] ++ rws ro cI (amF m2 g q (K + 1))) (by decide) (fun u => rfl) (fun u H locs hrv hP hD hS => ?_)
                  have hP : va_P (dC, dI) vwCl ([(kS, .inr (6, [.int (nI (K + 1)), .int (nI G), .int (nI ll), .int (nI lm), .ref aS, .ref bS, .ref dS, .ref eS, .ref gS9, .ref fS])), (gS9, .inl (cG, 8, .inr (.inr (.inr (.inr (grf ro)))))), (hG, .inr (1, [.int (nI gc), .int (nI gn), .ref aG, .ref bG, .ref dG, .ref gG])), (aG, .inl (cI, 24, .inl (fun j9 => nI (gF j9)))), (bG, .inl (cI, 24, .inl (fun j9 => nI (gT j9)))), (dG, .inl (cI, 24, .inl (fun j9 => oI (gS j9)))), (gG, .inl (cI, 24, .inl (fun j9 => nI (gO j9)))), (h, .inr (5, [.int (nI sc), .int (nI mv), .ref a, .ref b, .ref d])), (a, .inl (cI, 4, .inl (fun j9 => nI (sm j9)))), (b, .inl (cI, 4, .inl (fun j9 => nI (zs j9)))), (d, .inl (cI, 24, .inl (fun j9 => oI (sf j9))))] ++ rws ro cI (amF m2 g q (K + 1))) H := hP
                  have hD : va_D A ([(kS, .inr (6, [.int (nI (K + 1)), .int (nI G), .int (nI ll), .int (nI lm), .ref aS, .ref bS, .ref dS, .ref eS, .ref gS9, .ref fS])), (gS9, .inl (cG, 8, .inr (.inr (.inr (.inr (grf ro)))))), (hG, .inr (1, [.int (nI gc), .int (nI gn), .ref aG, .ref bG, .ref dG, .ref gG])), (aG, .inl (cI, 24, .inl (fun j9 => nI (gF j9)))), (bG, .inl (cI, 24, .inl (fun j9 => nI (gT j9)))), (dG, .inl (cI, 24, .inl (fun j9 => oI (gS j9)))), (gG, .inl (cI, 24, .inl (fun j9 => nI (gO j9)))), (h, .inr (5, [.int (nI sc), .int (nI mv), .ref a, .ref b, .ref d])), (a, .inl (cI, 4, .inl (fun j9 => nI (sm j9)))), (b, .inl (cI, 4, .inl (fun j9 => nI (zs j9)))), (d, .inl (cI, 24, .inl (fun j9 => oI (sf j9))))] ++ rws ro cI (amF m2 g q (K + 1))) := hD
                  refine lv_iinc (v := nI (t + 1)) (lv' := [(4, .int (nI (t + 1))), (5, .int (nI q)), (3, .int (nI g)), (0, .ref kS), (1, .ref hG), (2, .ref h)]) hx hb dSE_countMoves_68 hl (k := 1) rfl (hr_inc _) (by decide) rfl (fun ls hl => ?_)
                  refine lv_goto (tgt := 28) hx hb dSE_countMoves_71 (by decide) ?_
                  exact ih_28 (t + 1) (amF m2 g q (K + 1)) (by omega) (fun x hx s hs => by rw [amF_other (by omega)]; exact hm2 x hx s hs) (fun s hs => by rw [amF_row hs, hm3 s hs, mvI_hit c_4 hsf1]) (by omega) _ _ hP hD hS ls (lv_sub hl [0, 2, 3, 4, 5] rfl)
        exact loop_28 (gn + 1) (gF g) (va_up mm g (fun _ => 0)) (by omega) (fun x hx s hs => by rw [va_up_ne _ _ (by omega)]; exact hm x hx s hs) (fun s hs => by rw [va_up_self, mvI_0 hF1.2]) (by omega) _ _ hP hD hS ls (lv_sub hl [0, 1, 2, 3, 4] rfl)
  exact loop_2 (G + 1) 0 mx (by omega) (fun x hx => absurd hx (Nat.not_lt_zero _)) (by omega) _ _ hP hD hS ls (lv_sub hl [0, 1, 2, 3] rfl)

set_option maxHeartbeats 4000000 in
set_option maxRecDepth 100000 in
/-- how many are MOVED at the least from a GROUP on -/
theorem c_SE_sumLeast (l : Launch) (dC : Nat → ClassId) (dI : Nat → Nat → Nat) (cI cZ cG : ClassId) (kS : Nat) (aS : Nat) (bS : Nat) (dS : Nat) (eS : Nat) (gS9 : Nat) (fS : Nat) (K : Nat) (G : Nat) (ll : Nat) (lm : Nat) (ro : Nat → Nat) (mx : Nat → Nat → Nat) (mf : Nat → Nat) (sz : Nat) (hK3 : K ≤ 3) (hG8 : G ≤ 8) (hmx : ∀ g, g < G → ∀ s, s < K + 1 → mx g s ≤ 24) : Met l ySE_sumLeastMoves wsSE_sumLeastMoves ({ frames := 1, cells := 0, slots := 0, locals := 24 }) (va_Pc [.ref kS] (fun U => U.heap.size = sz ∧ va_P (dC, dI) vwCl ([(kS, .inr (6, [.int (nI (K + 1)), .int (nI G), .int (nI ll), .int (nI lm), .ref aS, .ref bS, .ref dS, .ref eS, .ref gS9, .ref fS])), (gS9, .inl (cG, 8, .inr (.inr (.inr (.inr (grf ro)))))), (fS, .inl (cI, 9, .inl (fun j9 => nI (mf j9))))] ++ rws ro cI mx) U.heap ∧ KX dC dI cI cZ cG U ∧ va_D (fun _ => True) ([(kS, .inr (6, [.int (nI (K + 1)), .int (nI G), .int (nI ll), .int (nI lm), .ref aS, .ref bS, .ref dS, .ref eS, .ref gS9, .ref fS])), (gS9, .inl (cG, 8, .inr (.inr (.inr (.inr (grf ro)))))), (fS, .inl (cI, 9, .inl (fun j9 => nI (mf j9))))] ++ rws ro cI mx))) (va_Qv (fun (u : (Nat → Nat)) => u G = 0 ∧ (∀ g, g < G → ∀ s, s < K + 1 → u g ≤ mx g s + u (g + 1)) ∧ ∀ g, g ≤ G → u g ≤ 192) (fun u t => va_P (dC, dI) vwCl ([(kS, .inr (6, [.int (nI (K + 1)), .int (nI G), .int (nI ll), .int (nI lm), .ref aS, .ref bS, .ref dS, .ref eS, .ref gS9, .ref fS])), (gS9, .inl (cG, 8, .inr (.inr (.inr (.inr (grf ro)))))), (fS, .inl (cI, 9, .inl (fun j9 => nI (u j9))))] ++ rws ro cI mx) t.heap ∧ va_D (va_A ([(kS, .inr (6, [.int (nI (K + 1)), .int (nI G), .int (nI ll), .int (nI lm), .ref aS, .ref bS, .ref dS, .ref eS, .ref gS9, .ref fS])), (gS9, .inl (cG, 8, .inr (.inr (.inr (.inr (grf ro)))))), (fS, .inl (cI, 9, .inl (fun j9 => nI (mf j9))))] ++ rws ro cI mx) sz) ([(kS, .inr (6, [.int (nI (K + 1)), .int (nI G), .int (nI ll), .int (nI lm), .ref aS, .ref bS, .ref dS, .ref eS, .ref gS9, .ref fS])), (gS9, .inl (cG, 8, .inr (.inr (.inr (.inr (grf ro)))))), (fS, .inl (cI, 9, .inl (fun j9 => nI (u j9))))] ++ rws ro cI mx)) (va_A ([(kS, .inr (6, [.int (nI (K + 1)), .int (nI G), .int (nI ll), .int (nI lm), .ref aS, .ref bS, .ref dS, .ref eS, .ref gS9, .ref fS])), (gS9, .inl (cG, 8, .inr (.inr (.inr (.inr (grf ro)))))), (fS, .inl (cI, 9, .inl (fun j9 => nI (mf j9))))] ++ rws ro cI mx) sz)) 0 0 (va_A ([(kS, .inr (6, [.int (nI (K + 1)), .int (nI G), .int (nI ll), .int (nI lm), .ref aS, .ref bS, .ref dS, .ref eS, .ref gS9, .ref fS])), (gS9, .inl (cG, 8, .inr (.inr (.inr (.inr (grf ro)))))), (fS, .inl (cI, 9, .inl (fun j9 => nI (mf j9))))] ++ rws ro cI mx) sz) := by
  refine Met.ofW (cc := cSE_sumLeastMoves) (maxL := 4) (ret := none) (by decide) rfl ?_
  intro p e s m args below meth c s₁ B hml hv
  obtain ⟨rfl, hsz, hP, hKX, hD0⟩ := hv
  have hK := hKX.1
  have hx := B.exec
  have hb := B.bytes
  have hr := B.returns
  have hts := atoms_spec (ws := wsSE_sumLeastMoves) B.pre
  have hown : s.vm.findClass RSE = some m.cls := findClass_of_methodNamed B.named
  have hlocks := B.notSynchronized
  subst hsz
  have hD := hD0.self (sz := s.heap.size)
  generalize hAe : va_A ([(kS, .inr (6, [.int (nI (K + 1)), .int (nI G), .int (nI ll), .int (nI lm), .ref aS, .ref bS, .ref dS, .ref eS, .ref gS9, .ref fS])), (gS9, .inl (cG, 8, .inr (.inr (.inr (.inr (grf ro)))))), (fS, .inl (cI, 9, .inl (fun j9 => nI (mf j9))))] ++ rws ro cI mx) s.heap.size = A at hD ⊢
  have hA : ∀ q : Nat, s.heap.size ≤ q → A q := fun q h => by rw [← hAe]; exact Or.inr h
  have hS : va_S A s.heap s.heap [] := va_S.rf
  have hl := lv_entry ([.ref kS]) (n := 4) (Nat.le_of_ble_eq_true rfl)
  rw [lg_entry_eq]
  generalize (lg_sl ([.ref kS]) ++ List.replicate (4 - (lg_sl ([.ref kS])).length) Slot.unset).toArray = ls at hl ⊢
  have hl : lv_has ls 4 [(0, .ref kS)] := hl
  generalize hRe : (headSpec wsSE_sumLeastMoves ({ frames := 1, cells := 0, slots := 0, locals := 24 })).room = R
  have hRf : 1 ≤ R.frames := by rw [← hRe]; exact Nat.le_refl _
  have hRl : 24 ≤ R.locals := by rw [← hRe]; exact Nat.le_refl _
  have hRc : 0 ≤ R.cells := by rw [← hRe]; exact Nat.le_refl _
  have hRs : 0 ≤ R.slots := by rw [← hRe]; exact Nat.le_refl _
  generalize hargs : (List.toArray [.ref kS] : Array Value) = args at hts ⊢
  generalize hQe : MQ below _ args s _ _ _ = Q
  cases G with
  | zero =>
    refine lv_aload_n hx hb dSE_sumLeastMoves_0 rfl (lv_at hl 0 rfl) ?_
    refine va_get (D := (dC, dI)) (ci := 6) (v := .ref fS) (C := RSE) (T := TSE) (N := 10) hx hb hts (fun w h => List.mem_cons_of_mem _ (inSE w h)) hown hK hP 0 rfl rfl 9 (by decide) (hts _ (List.mem_cons_of_mem _ kw_125)) (fun _ h9 => h9) rfl dSE_sumLeastMoves_1 ?_
    refine lv_aload_n hx hb dSE_sumLeastMoves_4 rfl (lv_at hl 0 rfl) ?_
    refine va_get (D := (dC, dI)) (ci := 6) (v := .int (nI 0)) (C := RSE) (T := TSE) (N := 10) hx hb hts (fun w h => List.mem_cons_of_mem _ (inSE w h)) hown hK hP 0 rfl rfl 1 (by decide) (hts _ (List.mem_cons_of_mem _ kw_117)) (fun _ h9 => h9) rfl dSE_sumLeastMoves_5 ?_
    refine lv_iconst (v := nI 0) hx hb dSE_sumLeastMoves_8 (by decide +kernel) ?_
    refine hr_iastN hx hb hK hP hD hS 2 0 rfl rfl (i := 0) (by omega) (by omega) dSE_sumLeastMoves_9 (fun H locs hP hD hS => ?_)
    have hP : va_P (dC, dI) vwCl ([(kS, .inr (6, [.int (nI (K + 1)), .int (nI 0), .int (nI ll), .int (nI lm), .ref aS, .ref bS, .ref dS, .ref eS, .ref gS9, .ref fS])), (gS9, .inl (cG, 8, .inr (.inr (.inr (.inr (grf ro)))))), (fS, .inl (cI, 9, .inl (fun j9 => nI ((va_up mf 0 0) j9))))] ++ rws ro cI mx) H := hP
    have hD : va_D A ([(kS, .inr (6, [.int (nI (K + 1)), .int (nI 0), .int (nI ll), .int (nI lm), .ref aS, .ref bS, .ref dS, .ref eS, .ref gS9, .ref fS])), (gS9, .inl (cG, 8, .inr (.inr (.inr (.inr (grf ro)))))), (fS, .inl (cI, 9, .inl (fun j9 => nI ((va_up mf 0 0) j9))))] ++ rws ro cI mx) := hD
    refine lv_aload_n hx hb dSE_sumLeastMoves_10 rfl (lv_at hl 0 rfl) ?_
    refine va_get (D := (dC, dI)) (ci := 6) (v := .int (nI 0)) (C := RSE) (T := TSE) (N := 10) hx hb hts (fun w h => List.mem_cons_of_mem _ (inSE w h)) hown hK hP 0 rfl rfl 1 (by decide) (hts _ (List.mem_cons_of_mem _ kw_117)) (fun _ h9 => h9) rfl dSE_sumLeastMoves_11 ?_
    refine lv_iconst (v := nI 1) hx hb dSE_sumLeastMoves_14 (by decide +kernel) ?_
    refine lv_isub hx hb dSE_sumLeastMoves_15 ?_
    refine hr_eqi (show nI 0 - nI 1 = (-1 : Int32) by decide +kernel) ?_
    refine lv_istore_n (lv' := [(1, .int (-1)), (0, .ref kS)]) hx hb dSE_sumLeastMoves_16 rfl hl (by decide) rfl (fun ls hl => ?_)
    refine lv_iload_n hx hb dSE_sumLeastMoves_17 rfl (lv_at hl 0 rfl) ?_
    refine lv_if_lt (tgt := 81) hx hb dSE_sumLeastMoves_18 (by decide) (fun c_1 => ?_) (fun c_1 => ?_)
    · rw [← hQe]
      exact W.vret hx hb hr (fun t ht hW => ⟨⟨(va_up mf 0 0), rfl, ⟨va_up_self _ _ _, fun g hg => absurd hg (Nat.not_lt_zero _), fun g hg => by rw [show g = 0 by omega, va_up_self]; omega⟩, by rw [ht]; exact hP, hD⟩, hS.F ht⟩) hS.2.2 dSE_sumLeastMoves_81
    · exact absurd c_1 (by decide +kernel)
  | succ G =>
    refine lv_aload_n hx hb dSE_sumLeastMoves_0 rfl (lv_at hl 0 rfl) ?_
    refine va_get (D := (dC, dI)) (ci := 6) (v := .ref fS) (C := RSE) (T := TSE) (N := 10) hx hb hts (fun w h => List.mem_cons_of_mem _ (inSE w h)) hown hK hP 0 rfl rfl 9 (by decide) (hts _ (List.mem_cons_of_mem _ kw_125)) (fun _ h9 => h9) rfl dSE_sumLeastMoves_1 ?_
    refine lv_aload_n hx hb dSE_sumLeastMoves_4 rfl (lv_at hl 0 rfl) ?_
    refine va_get (D := (dC, dI)) (ci := 6) (v := .int (nI (G + 1))) (C := RSE) (T := TSE) (N := 10) hx hb hts (fun w h => List.mem_cons_of_mem _ (inSE w h)) hown hK hP 0 rfl rfl 1 (by decide) (hts _ (List.mem_cons_of_mem _ kw_117)) (fun _ h9 => h9) rfl dSE_sumLeastMoves_5 ?_
    refine lv_iconst (v := nI 0) hx hb dSE_sumLeastMoves_8 (by decide +kernel) ?_
    refine hr_iastN hx hb hK hP hD hS 2 0 rfl rfl (i := (G + 1)) (by omega) (by omega) dSE_sumLeastMoves_9 (fun H locs hP hD hS => ?_)
    have hP : va_P (dC, dI) vwCl ([(kS, .inr (6, [.int (nI (K + 1)), .int (nI (G + 1)), .int (nI ll), .int (nI lm), .ref aS, .ref bS, .ref dS, .ref eS, .ref gS9, .ref fS])), (gS9, .inl (cG, 8, .inr (.inr (.inr (.inr (grf ro)))))), (fS, .inl (cI, 9, .inl (fun j9 => nI ((va_up mf (G + 1) 0) j9))))] ++ rws ro cI mx) H := hP
    have hD : va_D A ([(kS, .inr (6, [.int (nI (K + 1)), .int (nI (G + 1)), .int (nI ll), .int (nI lm), .ref aS, .ref bS, .ref dS, .ref eS, .ref gS9, .ref fS])), (gS9, .inl (cG, 8, .inr (.inr (.inr (.inr (grf ro)))))), (fS, .inl (cI, 9, .inl (fun j9 => nI ((va_up mf (G + 1) 0) j9))))] ++ rws ro cI mx) := hD
    refine lv_aload_n hx hb dSE_sumLeastMoves_10 rfl (lv_at hl 0 rfl) ?_
    refine va_get (D := (dC, dI)) (ci := 6) (v := .int (nI (G + 1))) (C := RSE) (T := TSE) (N := 10) hx hb hts (fun w h => List.mem_cons_of_mem _ (inSE w h)) hown hK hP 0 rfl rfl 1 (by decide) (hts _ (List.mem_cons_of_mem _ kw_117)) (fun _ h9 => h9) rfl dSE_sumLeastMoves_11 ?_
    refine lv_iconst (v := nI 1) hx hb dSE_sumLeastMoves_14 (by decide +kernel) ?_
    refine lv_isub hx hb dSE_sumLeastMoves_15 ?_
    refine hr_eqi (pk_sub (by omega)) ?_
    rw [Nat.add_sub_cancel]
    refine lv_istore_n (lv' := [(1, .int (nI G)), (0, .ref kS)]) hx hb dSE_sumLeastMoves_16 rfl hl (by decide) rfl (fun ls hl => ?_)
    have loop_17 : ∀ (n9 : Nat) (i : Nat) (f : Nat → Nat), i ≤ G → f (G + 1) = 0 → (∀ g, i < g → g < G + 1 → ∀ q, q < K + 1 → f g ≤ mx g q + f (g + 1)) → (∀ g, i < g → g ≤ G + 1 → f g ≤ 24 * (G + 1 - g)) → i + 1 ≤ n9 → ∀ (H : Heap) (locs : List Loc), va_P (dC, dI) vwCl ([(kS, .inr (6, [.int (nI (K + 1)), .int (nI (G + 1)), .int (nI ll), .int (nI lm), .ref aS, .ref bS, .ref dS, .ref eS, .ref gS9, .ref fS])), (gS9, .inl (cG, 8, .inr (.inr (.inr (.inr (grf ro)))))), (fS, .inl (cI, 9, .inl (fun j9 => nI (f j9))))] ++ rws ro cI mx) H → va_D A ([(kS, .inr (6, [.int (nI (K + 1)), .int (nI (G + 1)), .int (nI ll), .int (nI lm), .ref aS, .ref bS, .ref dS, .ref eS, .ref gS9, .ref fS])), (gS9, .inl (cG, 8, .inr (.inr (.inr (.inr (grf ro)))))), (fS, .inl (cI, 9, .inl (fun j9 => nI (f j9))))] ++ rws ro cI mx) → va_S A s.heap H locs → ∀ (ls : Array Slot), lv_has ls 4 [(1, .int (nI i)), (0, .ref kS)] → W p l e R s m args below meth c H locs 0 0 Q (F0 m 17 ls []) := by
      intro n9
      induction n9 with
      | zero =>
        intro i f hi h0 h1 h2 hmeas
        exact absurd hmeas (by omega)
      | succ n9 ih_17 =>
        intro i f hi h0 h1 h2 hmeas H locs hP hD hS ls hl
        refine lv_iload_n hx hb dSE_sumLeastMoves_17 rfl (lv_at hl 0 rfl) ?_
        refine hr_if_lt hx hb (x := i) (by omega) (tgt := 81) dSE_sumLeastMoves_18 (by decide) (fun c_2 => ?_) (fun c_2 => ?_)
        · exact absurd c_2 (by omega)
        · have hm0 := hmx i (by omega) 0 (by omega)
          refine lv_aload_n hx hb dSE_sumLeastMoves_21 rfl (lv_at hl 1 rfl) ?_
          refine va_get (D := (dC, dI)) (ci := 6) (v := .ref gS9) (C := RSE) (T := TSE) (N := 10) hx hb hts (fun w h => List.mem_cons_of_mem _ (inSE w h)) hown hK hP 0 rfl rfl 8 (by decide) (hts _ (List.mem_cons_of_mem _ kw_124)) (fun _ h9 => h9) rfl dSE_sumLeastMoves_22 ?_
          refine lv_iload_n hx hb dSE_sumLeastMoves_25 rfl (lv_at hl 0 rfl) ?_
          refine hr_aaldG hx hb hK hP 1 2 rfl rfl (i := i) (by omega) dSE_sumLeastMoves_26 ?_
          refine lv_iconst (v := nI 0) hx hb dSE_sumLeastMoves_27 (by decide +kernel) ?_
          refine hr_iald hx hb hK hP (3 + i) 0 (rws_at (K := 3) rfl (by omega)) rfl (i := 0) (by omega) (by omega) dSE_sumLeastMoves_28 ?_
          refine lv_istore_n (lv' := [(2, .int (nI ((mx i) 0))), (1, .int (nI i)), (0, .ref kS)]) hx hb dSE_sumLeastMoves_29 rfl hl (by decide) rfl (fun ls hl => ?_)
          refine lv_iconst (v := nI 1) hx hb dSE_sumLeastMoves_30 (by decide +kernel) ?_
          refine lv_istore_n (lv' := [(3, .int (nI 1)), (2, .int (nI ((mx i) 0))), (1, .int (nI i)), (0, .ref kS)]) hx hb dSE_sumLeastMoves_31 rfl hl (by decide) rfl (fun ls hl => ?_)
          have loop_32 : ∀ (n9 : Nat) (j : Nat) (le : Nat), 1 ≤ j ∧ j ≤ K + 1 → (∀ q, q < j → le ≤ mx i q) → le ≤ 24 → (K + 1) + 1 ≤ j + n9 → ∀ (H : Heap) (locs : List Loc), va_P (dC, dI) vwCl ([(kS, .inr (6, [.int (nI (K + 1)), .int (nI (G + 1)), .int (nI ll), .int (nI lm), .ref aS, .ref bS, .ref dS, .ref eS, .ref gS9, .ref fS])), (gS9, .inl (cG, 8, .inr (.inr (.inr (.inr (grf ro)))))), (fS, .inl (cI, 9, .inl (fun j9 => nI (f j9))))] ++ rws ro cI mx) H → va_D A ([(kS, .inr (6, [.int (nI (K + 1)), .int (nI (G + 1)), .int (nI ll), .int (nI lm), .ref aS, .ref bS, .ref dS, .ref eS, .ref gS9, .ref fS])), (gS9, .inl (cG, 8, .inr (.inr (.inr (.inr (grf ro)))))), (fS, .inl (cI, 9, .inl (fun j9 => nI (f j9))))] ++ rws ro cI mx) → va_S A s.heap H locs → ∀ (ls : Array Slot), lv_has ls 4 [(3, .int (nI j)), (2, .int (nI le)), (1, .int (nI i)), (0, .ref kS)] → W p l e R s m args below meth c H locs 0 0 Q (F0 m 32 ls []) := by
            intro n9
            induction n9 with
            | zero =>
              intro j le hj hle hlb hmeas
              exact absurd hmeas (by omega)
            | succ n9 ih_32 =>
              intro j le hj hle hlb hmeas H locs hP hD hS ls hl
              refine lv_iload_n hx hb dSE_sumLeastMoves_32 rfl (lv_at hl 0 rfl) ?_
              refine lv_aload_n hx hb dSE_sumLeastMoves_33 rfl (lv_at hl 3 rfl) ?_
              refine va_get (D := (dC, dI)) (ci := 6) (v := .int (nI (K + 1))) (C := RSE) (T := TSE) (N := 10) hx hb hts (fun w h => List.mem_cons_of_mem _ (inSE w h)) hown hK hP 0 rfl rfl 0 (by decide) (hts _ (List.mem_cons_of_mem _ kw_116)) (fun _ h9 => h9) rfl dSE_sumLeastMoves_34 ?_
              refine hr_icmp_ge hx hb (x := j) (y := (K + 1)) (by omega) (by omega) (tgt := 59) dSE_sumLeastMoves_37 (by decide) (fun c_3 => ?_) (fun c_3 => ?_)
              · have hf1 := h2 (i + 1) (by omega) (by omega)
                refine lv_aload_n hx hb dSE_sumLeastMoves_59 rfl (lv_at hl 3 rfl) ?_
                refine va_get (D := (dC, dI)) (ci := 6) (v := .ref fS) (C := RSE) (T := TSE) (N := 10) hx hb hts (fun w h => List.mem_cons_of_mem _ (inSE w h)) hown hK hP 0 rfl rfl 9 (by decide) (hts _ (List.mem_cons_of_mem _ kw_125)) (fun _ h9 => h9) rfl dSE_sumLeastMoves_60 ?_
                refine lv_iload_n hx hb dSE_sumLeastMoves_63 rfl (lv_at hl 2 rfl) ?_
                refine lv_aload_n hx hb dSE_sumLeastMoves_64 rfl (lv_at hl 3 rfl) ?_
                refine va_get (D := (dC, dI)) (ci := 6) (v := .ref fS) (C := RSE) (T := TSE) (N := 10) hx hb hts (fun w h => List.mem_cons_of_mem _ (inSE w h)) hown hK hP 0 rfl rfl 9 (by decide) (hts _ (List.mem_cons_of_mem _ kw_125)) (fun _ h9 => h9) rfl dSE_sumLeastMoves_65 ?_
                refine lv_iload_n hx hb dSE_sumLeastMoves_68 rfl (lv_at hl 2 rfl) ?_
                refine lv_iconst (v := nI 1) hx hb dSE_sumLeastMoves_69 (by decide +kernel) ?_
                refine lv_iadd hx hb dSE_sumLeastMoves_70 ?_
                refine hr_eqi (nI_add _ _) ?_
                refine hr_iald hx hb hK hP 2 0 rfl rfl (i := (i + 1)) (by omega) (by omega) dSE_sumLeastMoves_71 ?_
                refine lv_iload_n hx hb dSE_sumLeastMoves_72 rfl (lv_at hl 1 rfl) ?_
                refine lv_iadd hx hb dSE_sumLeastMoves_73 ?_
                refine hr_eqi (nI_add _ _) ?_
                refine hr_iastN hx hb hK hP hD hS 2 0 rfl rfl (i := i) (by omega) (by omega) dSE_sumLeastMoves_74 (fun H locs hP hD hS => ?_)
                have hP : va_P (dC, dI) vwCl ([(kS, .inr (6, [.int (nI (K + 1)), .int (nI (G + 1)), .int (nI ll), .int (nI lm), .ref aS, .ref bS, .ref dS, .ref eS, .ref gS9, .ref fS])), (gS9, .inl (cG, 8, .inr (.inr (.inr (.inr (grf ro)))))), (fS, .inl (cI, 9, .inl (fun j9 => nI ((va_up f i ((f (i + 1)) + le)) j9))))] ++ rws ro cI mx) H := hP
                have hD : va_D A ([(kS, .inr (6, [.int (nI (K + 1)), .int (nI (G + 1)), .int (nI ll), .int (nI lm), .ref aS, .ref bS, .ref dS, .ref eS, .ref gS9, .ref fS])), (gS9, .inl (cG, 8, .inr (.inr (.inr (.inr (grf ro)))))), (fS, .inl (cI, 9, .inl (fun j9 => nI ((va_up f i ((f (i + 1)) + le)) j9))))] ++ rws ro cI mx) := hD
                have g0 : (va_up f i ((f (i + 1)) + le)) (G + 1) = 0 := by rw [va_up_ne _ _ (by omega)]; exact h0
                have g1 : ∀ g, i ≤ g → g < G + 1 → ∀ s, s < K + 1 → (va_up f i ((f (i + 1)) + le)) g ≤ mx g s + (va_up f i ((f (i + 1)) + le)) (g + 1) := fun g h3 h4 s hs => by
                  rcases (show g = i ∨ i < g by omega) with z | z
                  · rw [z, va_up_self, va_up_ne _ _ (by omega)]; have := hle s (by omega); omega
                  · rw [va_up_ne _ _ (by omega), va_up_ne _ _ (by omega)]; exact h1 g z h4 s hs
                have g2 : ∀ g, i ≤ g → g ≤ G + 1 → (va_up f i ((f (i + 1)) + le)) g ≤ 24 * (G + 1 - g) := fun g h3 h4 => by
                  rcases (show g = i ∨ i < g by omega) with z | z
                  · rw [z, va_up_self]; omega
                  · rw [va_up_ne _ _ (by omega)]; exact h2 g z h4
                cases i with
                | zero =>
                  refine lv_iinc (v := (-1)) (lv' := [(1, .int (-1)), (3, .int (nI j)), (2, .int (nI le)), (0, .ref kS)]) hx hb dSE_sumLeastMoves_75 hl (k := 2) rfl (show nI 0 + Int32.ofInt (-1) = -1 by decide +kernel) (by decide) rfl (fun ls hl => ?_)
                  refine lv_goto (tgt := 17) hx hb dSE_sumLeastMoves_78 (by decide) ?_
                  refine lv_iload_n hx hb dSE_sumLeastMoves_17 rfl (lv_at hl 0 rfl) ?_
                  refine lv_if_lt (tgt := 81) hx hb dSE_sumLeastMoves_18 (by decide) (fun c_4 => ?_) (fun c_4 => ?_)
                  · rw [← hQe]
                    exact W.vret hx hb hr (fun t ht hW => ⟨⟨(va_up f 0 ((f (0 + 1)) + le)), rfl, ⟨g0, fun g hg s hs => g1 g (by omega) hg s hs, fun g hg => by have := g2 g (by omega) hg; omega⟩, by rw [ht]; exact hP, hD⟩, hS.F ht⟩) hS.2.2 dSE_sumLeastMoves_81
                  · exact absurd c_4 (by decide +kernel)
                | succ i =>
                  refine lv_iinc (v := nI i) (lv' := [(1, .int (nI i)), (3, .int (nI j)), (2, .int (nI le)), (0, .ref kS)]) hx hb dSE_sumLeastMoves_75 hl (k := 2) rfl (hr_dec1) (by decide) rfl (fun ls hl => ?_)
                  refine lv_goto (tgt := 17) hx hb dSE_sumLeastMoves_78 (by decide) ?_
                  exact ih_17 i (va_up f (i + 1) ((f ((i + 1) + 1)) + le)) (by omega) (g0) (fun g h3 h4 => g1 g (by omega) h4) (fun g h3 h4 => g2 g (by omega) h4) (by omega) _ _ hP hD hS ls (lv_sub hl [0, 3] rfl)
              · have hm1 := hmx i (by omega) j (by omega)
                refine lv_iload_n hx hb dSE_sumLeastMoves_40 rfl (lv_at hl 1 rfl) ?_
                refine lv_aload_n hx hb dSE_sumLeastMoves_41 rfl (lv_at hl 3 rfl) ?_
                refine va_get (D := (dC, dI)) (ci := 6) (v := .ref gS9) (C := RSE) (T := TSE) (N := 10) hx hb hts (fun w h => List.mem_cons_of_mem _ (inSE w h)) hown hK hP 0 rfl rfl 8 (by decide) (hts _ (List.mem_cons_of_mem _ kw_124)) (fun _ h9 => h9) rfl dSE_sumLeastMoves_42 ?_
                refine lv_iload_n hx hb dSE_sumLeastMoves_45 rfl (lv_at hl 2 rfl) ?_
                refine hr_aaldG hx hb hK hP 1 2 rfl rfl (i := i) (by omega) dSE_sumLeastMoves_46 ?_
                refine lv_iload_n hx hb dSE_sumLeastMoves_47 rfl (lv_at hl 0 rfl) ?_
                refine hr_iald hx hb hK hP (3 + i) 0 (rws_at (K := 3) rfl (by omega)) rfl (i := j) (by omega) (by omega) dSE_sumLeastMoves_48 ?_
                refine va_mmin (rest := []) hx hb (by rw [hml]; exact hl.1.symm) hown (hts (.methodLink RSE 32 Lib.Math.min.name) (by decide +kernel)) (hts (.static Lib.Math.min.name) (by decide +kernel)) (hts (.initialized "java/lang/Math") (by decide +kernel)) (hts (.code Lib.Math.min.name Lib.Math.min.code 2 (some .int)) (by decide +kernel)) (Nat.le_trans (Nat.le_of_ble_eq_true rfl) hRf) (Nat.le_trans (Nat.le_of_ble_eq_true rfl) hRl) (Nat.zero_le _) (Nat.zero_le _) dSE_sumLeastMoves_49 ?_
                refine hr_eqi (hr_min (by omega) (by omega)) ?_
                refine lv_istore_n (lv' := [(2, .int (nI (min le ((mx i) j)))), (3, .int (nI j)), (1, .int (nI i)), (0, .ref kS)]) hx hb dSE_sumLeastMoves_52 rfl hl (by decide) rfl (fun ls hl => ?_)
                refine lv_iinc (v := nI (j + 1)) (lv' := [(3, .int (nI (j + 1))), (2, .int (nI (min le ((mx i) j)))), (1, .int (nI i)), (0, .ref kS)]) hx hb dSE_sumLeastMoves_53 hl (k := 1) rfl (hr_inc _) (by decide) rfl (fun ls hl => ?_)
                refine lv_goto (tgt := 32) hx hb dSE_sumLeastMoves_56 (by decide) ?_
                exact ih_32 (j + 1) (min le ((mx i) j)) (⟨by omega, by omega⟩) (fun s hs => by
      rcases (show s = j ∨ s < j by omega) with z | z
      · rw [z]; omega
      · have := hle s z; omega) (by omega) (by omega) _ _ hP hD hS ls (lv_sub hl [0, 1, 2, 3] rfl)
          exact loop_32 ((K + 1) + 1) 1 ((mx i) 0) (⟨by omega, by omega⟩) (fun s hs => by rw [show s = 0 by omega]; exact Nat.le_refl _) (by have := hmx i (by omega) 0 (by omega); omega) (by omega) _ _ hP hD hS ls (lv_sub hl [0, 1, 2, 3] rfl)
    exact loop_17 (G + 1) G (va_up mf (G + 1) 0) (by omega) (by rw [va_up_self]) (fun g h1 h2 => absurd h2 (by omega)) (fun g h1 h2 => by rw [show g = G + 1 by omega, va_up_self]; omega) (by omega) _ _ hP hD hS ls (lv_sub hl [0, 1] rfl)
