set_option maxHeartbeats 400000 in
set_option maxRecDepth 100000 in
/-- the least LENGTH -/
theorem c_SE_seekLength (l : Launch) (dC : Nat → ClassId) (dI : Nat → Nat → Nat) (cI cZ cG : ClassId) : ∀ (r : Nat) (kS : Nat) (aS : Nat) (bS : Nat) (dS : Nat) (eS : Nat) (gS9 : Nat) (fS : Nat) (K : Nat) (G : Nat) (ll : Nat) (lm : Nat) (tw : Nat → Nat) (sm : Nat → Nat) (g : Nat) (op : Nat) (len : Nat) (sz : Nat) (hK3 : K ≤ 3) (hG8 : G ≤ 8) (hg : g + r = G) (hop : op ≤ K + 1) (hz : ∀ q, op ≤ q → q ≤ K → sm q = 0) (ht : ∀ j, j < 8 → tw j ≤ 2400000) (hsm : ∀ q, q < 4 → sm q ≤ 2400000 * g) (hlen : len ≤ 2400000 * g) (hll : ll < 2 ^ 31), Met l ySE_seekLength wsSE_seekLength ({ frames := r + 1, cells := 0, slots := 0, locals := 32 * (r + 1) }) (va_Pc [.ref kS, .int (nI g), .int (nI op), .int (nI len)] (fun U => U.heap.size = sz ∧ va_P (dC, dI) vwCl [(kS, .inr (6, [.int (nI (K + 1)), .int (nI G), .int (nI ll), .int (nI lm), .ref aS, .ref bS, .ref dS, .ref eS, .ref gS9, .ref fS])), (aS, .inl (cI, 8, .inl (fun j9 => nI (tw j9)))), (bS, .inl (cI, 4, .inl (fun j9 => nI (sm j9))))] U.heap ∧ KX dC dI cI cZ cG U ∧ va_D (fun _ => True) [(kS, .inr (6, [.int (nI (K + 1)), .int (nI G), .int (nI ll), .int (nI lm), .ref aS, .ref bS, .ref dS, .ref eS, .ref gS9, .ref fS])), (aS, .inl (cI, 8, .inl (fun j9 => nI (tw j9)))), (bS, .inl (cI, 4, .inl (fun j9 => nI (sm j9))))])) (va_Qv (fun (u : Unit) => True) (fun u t => va_P (dC, dI) vwCl [(kS, .inr (6, [.int (nI (K + 1)), .int (nI G), .int (nI (min ll (lo tw K r g sm len))), .int (nI lm), .ref aS, .ref bS, .ref dS, .ref eS, .ref gS9, .ref fS])), (aS, .inl (cI, 8, .inl (fun j9 => nI (tw j9)))), (bS, .inl (cI, 4, .inl (fun j9 => nI (sm j9))))] t.heap ∧ va_D (va_A [(kS, .inr (6, [.int (nI (K + 1)), .int (nI G), .int (nI ll), .int (nI lm), .ref aS, .ref bS, .ref dS, .ref eS, .ref gS9, .ref fS])), (aS, .inl (cI, 8, .inl (fun j9 => nI (tw j9)))), (bS, .inl (cI, 4, .inl (fun j9 => nI (sm j9))))] sz) [(kS, .inr (6, [.int (nI (K + 1)), .int (nI G), .int (nI (min ll (lo tw K r g sm len))), .int (nI lm), .ref aS, .ref bS, .ref dS, .ref eS, .ref gS9, .ref fS])), (aS, .inl (cI, 8, .inl (fun j9 => nI (tw j9)))), (bS, .inl (cI, 4, .inl (fun j9 => nI (sm j9))))]) (va_A [(kS, .inr (6, [.int (nI (K + 1)), .int (nI G), .int (nI ll), .int (nI lm), .ref aS, .ref bS, .ref dS, .ref eS, .ref gS9, .ref fS])), (aS, .inl (cI, 8, .inl (fun j9 => nI (tw j9)))), (bS, .inl (cI, 4, .inl (fun j9 => nI (sm j9))))] sz)) 0 0 (va_A [(kS, .inr (6, [.int (nI (K + 1)), .int (nI G), .int (nI ll), .int (nI lm), .ref aS, .ref bS, .ref dS, .ref eS, .ref gS9, .ref fS])), (aS, .inl (cI, 8, .inl (fun j9 => nI (tw j9)))), (bS, .inl (cI, 4, .inl (fun j9 => nI (sm j9))))] sz) := by
  intro r
  induction r with
  | zero =>
    intro kS aS bS dS eS gS9 fS K G ll lm tw sm g op len sz hK3 hG8 hg hop hz ht hsm hlen hll
    refine Met.ofW (cc := cSE_seekLength) (maxL := 6) (ret := none) (by decide) rfl ?_
    intro p e s m args below meth c s₁ B hml hv
    obtain ⟨rfl, hsz, hP, hKX, hD0⟩ := hv
    have hK := hKX.1
    have hx := B.exec
    have hb := B.bytes
    have hr := B.returns
    have hts := atoms_spec (ws := wsSE_seekLength) B.pre
    have hown : s.vm.findClass RSE = some m.cls := findClass_of_methodNamed B.named
    have hlocks := B.notSynchronized
    subst hsz
    have hD := hD0.self (sz := s.heap.size)
    generalize hAe : va_A [(kS, .inr (6, [.int (nI (K + 1)), .int (nI G), .int (nI ll), .int (nI lm), .ref aS, .ref bS, .ref dS, .ref eS, .ref gS9, .ref fS])), (aS, .inl (cI, 8, .inl (fun j9 => nI (tw j9)))), (bS, .inl (cI, 4, .inl (fun j9 => nI (sm j9))))] s.heap.size = A at hD ⊢
    have hA : ∀ q : Nat, s.heap.size ≤ q → A q := fun q h => by rw [← hAe]; exact Or.inr h
    have hS : va_S A s.heap s.heap [] := va_S.rf
    have hl := lv_entry ([.ref kS, .int (nI g), .int (nI op), .int (nI len)]) (n := 6) (Nat.le_of_ble_eq_true rfl)
    rw [lg_entry_eq]
    generalize (lg_sl ([.ref kS, .int (nI g), .int (nI op), .int (nI len)]) ++ List.replicate (6 - (lg_sl ([.ref kS, .int (nI g), .int (nI op), .int (nI len)])).length) Slot.unset).toArray = ls at hl ⊢
    have hl : lv_has ls 6 [(0, .ref kS), (1, .int (nI g)), (2, .int (nI op)), (3, .int (nI len))] := hl
    generalize hRe : (headSpec wsSE_seekLength ({ frames := 0 + 1, cells := 0, slots := 0, locals := 32 * (0 + 1) })).room = R
    have hRf : 1 ≤ R.frames := by rw [← hRe]; show 1 ≤ 0 + 1; omega
    have hRl : 32 ≤ R.locals := by rw [← hRe]; show 32 ≤ 32 * (0 + 1); omega
    have hRc : 0 ≤ R.cells := by rw [← hRe]; exact Nat.le_refl _
    have hRs : 0 ≤ R.slots := by rw [← hRe]; exact Nat.le_refl _
    generalize hargs : (List.toArray [.ref kS, .int (nI g), .int (nI op), .int (nI len)] : Array Value) = args at hts ⊢
    generalize hQe : MQ below _ args s _ _ _ = Q
    have hge := lo_ge tw K 0 g sm len
    refine lv_iload_n hx hb dSE_seekLength_0 rfl (lv_at hl 3 rfl) ?_
    refine lv_aload_n hx hb dSE_seekLength_1 rfl (lv_at hl 0 rfl) ?_
    refine va_get (D := (dC, dI)) (ci := 6) (v := .int (nI ll)) (C := RSE) (T := TSE) (N := 10) hx hb hts (fun w h => List.mem_cons_of_mem _ (inSE w h)) hown hK hP 0 rfl rfl 2 (by decide) (hts _ (List.mem_cons_of_mem _ kw_118)) (fun _ h9 => h9) rfl dSE_seekLength_2 ?_
    refine hr_icmp_lt hx hb (x := len) (y := ll) (by omega) (by omega) (tgt := 9) dSE_seekLength_5 (by decide) (fun c_1 => ?_) (fun c_1 => ?_)
    · refine lv_iload_n hx hb dSE_seekLength_9 rfl (lv_at hl 1 rfl) ?_
      refine lv_aload_n hx hb dSE_seekLength_10 rfl (lv_at hl 0 rfl) ?_
      refine va_get (D := (dC, dI)) (ci := 6) (v := .int (nI G)) (C := RSE) (T := TSE) (N := 10) hx hb hts (fun w h => List.mem_cons_of_mem _ (inSE w h)) hown hK hP 0 rfl rfl 1 (by decide) (hts _ (List.mem_cons_of_mem _ kw_117)) (fun _ h9 => h9) rfl dSE_seekLength_11 ?_
      refine hr_icmp_lt hx hb (x := g) (y := G) (by omega) (by omega) (tgt := 23) dSE_seekLength_14 (by decide) (fun c_2 => ?_) (fun c_2 => ?_)
      · exact absurd c_2 (by omega)
      · refine lv_aload_n hx hb dSE_seekLength_17 rfl (lv_at hl 0 rfl) ?_
        refine lv_iload_n hx hb dSE_seekLength_18 rfl (lv_at hl 3 rfl) ?_
        refine va_put (D := (dC, dI)) (ci := 6) (v := .int (nI len)) (ty := .int) (C := RSE) (T := TSE) (N := 10) hx hb hts (fun w h => List.mem_cons_of_mem _ (inSE w h)) tySE tySE_ok nmSE hown hK hP hD hS 0 rfl rfl 2 (by decide) (hts _ (List.mem_cons_of_mem _ kw_118)) (fun _ h9 => h9) rfl (by decide +kernel) rfl rfl (Nat.le_of_ble_eq_true rfl) dSE_seekLength_19 (fun H locs hP hD hS => ?_)
        have hP : va_P (dC, dI) vwCl [(kS, .inr (6, [.int (nI (K + 1)), .int (nI G), .int (nI len), .int (nI lm), .ref aS, .ref bS, .ref dS, .ref eS, .ref gS9, .ref fS])), (aS, .inl (cI, 8, .inl (fun j9 => nI (tw j9)))), (bS, .inl (cI, 4, .inl (fun j9 => nI (sm j9))))] H := hP
        have hD : va_D A [(kS, .inr (6, [.int (nI (K + 1)), .int (nI G), .int (nI len), .int (nI lm), .ref aS, .ref bS, .ref dS, .ref eS, .ref gS9, .ref fS])), (aS, .inl (cI, 8, .inl (fun j9 => nI (tw j9)))), (bS, .inl (cI, 4, .inl (fun j9 => nI (sm j9))))] := hD
        have e9 : min ll (lo tw K 0 g sm len) = len := by show min ll len = len; omega
        rw [← hQe]
        exact W.vret hx hb hr (fun t ht hW => ⟨⟨(), rfl, trivial, by rw [ht, e9]; exact hP, by rw [e9]; exact hD⟩, hS.F ht⟩) hS.2.2 dSE_seekLength_22
    · have e9 : min ll (lo tw K 0 g sm len) = ll := by omega
      rw [← hQe]
      exact W.vret hx hb hr (fun t ht hW => ⟨⟨(), rfl, trivial, by rw [ht, e9]; exact hP, by rw [e9]; exact hD⟩, hS.F ht⟩) hS.2.2 dSE_seekLength_8
  | succ r ih =>
    intro kS aS bS dS eS gS9 fS K G ll lm tw sm g op len sz hK3 hG8 hg hop hz ht hsm hlen hll
    refine Met.ofW (cc := cSE_seekLength) (maxL := 6) (ret := none) (by decide) rfl ?_
    intro p e s m args below meth c s₁ B hml hv
    obtain ⟨rfl, hsz, hP, hKX, hD0⟩ := hv
    have hK := hKX.1
    have hx := B.exec
    have hb := B.bytes
    have hr := B.returns
    have hts := atoms_spec (ws := wsSE_seekLength) B.pre
    have hown : s.vm.findClass RSE = some m.cls := findClass_of_methodNamed B.named
    have hlocks := B.notSynchronized
    subst hsz
    have hD := hD0.self (sz := s.heap.size)
    generalize hAe : va_A [(kS, .inr (6, [.int (nI (K + 1)), .int (nI G), .int (nI ll), .int (nI lm), .ref aS, .ref bS, .ref dS, .ref eS, .ref gS9, .ref fS])), (aS, .inl (cI, 8, .inl (fun j9 => nI (tw j9)))), (bS, .inl (cI, 4, .inl (fun j9 => nI (sm j9))))] s.heap.size = A at hD ⊢
    have hA : ∀ q : Nat, s.heap.size ≤ q → A q := fun q h => by rw [← hAe]; exact Or.inr h
    have hS : va_S A s.heap s.heap [] := va_S.rf
    have hl := lv_entry ([.ref kS, .int (nI g), .int (nI op), .int (nI len)]) (n := 6) (Nat.le_of_ble_eq_true rfl)
    rw [lg_entry_eq]
    generalize (lg_sl ([.ref kS, .int (nI g), .int (nI op), .int (nI len)]) ++ List.replicate (6 - (lg_sl ([.ref kS, .int (nI g), .int (nI op), .int (nI len)])).length) Slot.unset).toArray = ls at hl ⊢
    have hl : lv_has ls 6 [(0, .ref kS), (1, .int (nI g)), (2, .int (nI op)), (3, .int (nI len))] := hl
    generalize hRe : (headSpec wsSE_seekLength ({ frames := (r + 1) + 1, cells := 0, slots := 0, locals := 32 * ((r + 1) + 1) })).room = R
    have hRf : 1 ≤ R.frames := by rw [← hRe]; show 1 ≤ (r + 1) + 1; omega
    have hRl : 32 ≤ R.locals := by rw [← hRe]; show 32 ≤ 32 * ((r + 1) + 1); omega
    have hRc : 0 ≤ R.cells := by rw [← hRe]; exact Nat.le_refl _
    have hRs : 0 ≤ R.slots := by rw [← hRe]; exact Nat.le_refl _
    generalize hargs : (List.toArray [.ref kS, .int (nI g), .int (nI op), .int (nI len)] : Array Value) = args at hts ⊢
    generalize hQe : MQ below _ args s _ _ _ = Q
    have hge := lo_ge tw K (r + 1) g sm len
    refine lv_iload_n hx hb dSE_seekLength_0 rfl (lv_at hl 3 rfl) ?_
    refine lv_aload_n hx hb dSE_seekLength_1 rfl (lv_at hl 0 rfl) ?_
    refine va_get (D := (dC, dI)) (ci := 6) (v := .int (nI ll)) (C := RSE) (T := TSE) (N := 10) hx hb hts (fun w h => List.mem_cons_of_mem _ (inSE w h)) hown hK hP 0 rfl rfl 2 (by decide) (hts _ (List.mem_cons_of_mem _ kw_118)) (fun _ h9 => h9) rfl dSE_seekLength_2 ?_
    refine hr_icmp_lt hx hb (x := len) (y := ll) (by omega) (by omega) (tgt := 9) dSE_seekLength_5 (by decide) (fun c_1 => ?_) (fun c_1 => ?_)
    · refine lv_iload_n hx hb dSE_seekLength_9 rfl (lv_at hl 1 rfl) ?_
      refine lv_aload_n hx hb dSE_seekLength_10 rfl (lv_at hl 0 rfl) ?_
      refine va_get (D := (dC, dI)) (ci := 6) (v := .int (nI G)) (C := RSE) (T := TSE) (N := 10) hx hb hts (fun w h => List.mem_cons_of_mem _ (inSE w h)) hown hK hP 0 rfl rfl 1 (by decide) (hts _ (List.mem_cons_of_mem _ kw_117)) (fun _ h9 => h9) rfl dSE_seekLength_11 ?_
      refine hr_icmp_lt hx hb (x := g) (y := G) (by omega) (by omega) (tgt := 23) dSE_seekLength_14 (by decide) (fun c_2 => ?_) (fun c_2 => ?_)
      · refine lv_iload_n hx hb dSE_seekLength_23 rfl (lv_at hl 2 rfl) ?_
        refine lv_iconst (v := nI 1) hx hb dSE_seekLength_24 (by decide +kernel) ?_
        refine lv_iadd hx hb dSE_seekLength_25 ?_
        refine hr_eqi (nI_add _ _) ?_
        refine lv_aload_n hx hb dSE_seekLength_26 rfl (lv_at hl 0 rfl) ?_
        refine va_get (D := (dC, dI)) (ci := 6) (v := .int (nI (K + 1))) (C := RSE) (T := TSE) (N := 10) hx hb hts (fun w h => List.mem_cons_of_mem _ (inSE w h)) hown hK hP 0 rfl rfl 0 (by decide) (hts _ (List.mem_cons_of_mem _ kw_116)) (fun _ h9 => h9) rfl dSE_seekLength_27 ?_
        refine va_mmin (rest := []) hx hb (by rw [hml]; exact hl.1.symm) hown (hts (.methodLink RSE 32 Lib.Math.min.name) (by decide +kernel)) (hts (.static Lib.Math.min.name) (by decide +kernel)) (hts (.initialized "java/lang/Math") (by decide +kernel)) (hts (.code Lib.Math.min.name Lib.Math.min.code 2 (some .int)) (by decide +kernel)) (Nat.le_trans (Nat.le_of_ble_eq_true rfl) hRf) (Nat.le_trans (Nat.le_of_ble_eq_true rfl) hRl) (Nat.zero_le _) (Nat.zero_le _) dSE_seekLength_30 ?_
        refine hr_eqi (hr_min (by omega) (by omega)) ?_
        refine lv_istore (lv' := [(4, .int (nI (min (op + 1) (K + 1)))), (0, .ref kS), (1, .int (nI g)), (2, .int (nI op)), (3, .int (nI len))]) hx hb dSE_seekLength_33 hl (by decide) rfl (fun ls hl => ?_)
        refine lv_iconst (v := nI 0) hx hb dSE_seekLength_35 (by decide +kernel) ?_
        refine lv_istore (lv' := [(5, .int (nI 0)), (4, .int (nI (min (op + 1) (K + 1)))), (0, .ref kS), (1, .int (nI g)), (2, .int (nI op)), (3, .int (nI len))]) hx hb dSE_seekLength_36 hl (by decide) rfl (fun ls hl => ?_)
        have loop_38 : ∀ (n9 : Nat) (q : Nat) (b : Nat), q ≤ (min (op + 1) (K + 1)) → b = mnp (fun q => lo tw K r (g + 1) (va_up sm q (sm q + tw g)) (max len (sm q + tw g))) ll q → (min (op + 1) (K + 1)) + 1 ≤ q + n9 → ∀ (H : Heap) (locs : List Loc), va_P (dC, dI) vwCl [(kS, .inr (6, [.int (nI (K + 1)), .int (nI G), .int (nI b), .int (nI lm), .ref aS, .ref bS, .ref dS, .ref eS, .ref gS9, .ref fS])), (aS, .inl (cI, 8, .inl (fun j9 => nI (tw j9)))), (bS, .inl (cI, 4, .inl (fun j9 => nI (sm j9))))] H → va_D A [(kS, .inr (6, [.int (nI (K + 1)), .int (nI G), .int (nI b), .int (nI lm), .ref aS, .ref bS, .ref dS, .ref eS, .ref gS9, .ref fS])), (aS, .inl (cI, 8, .inl (fun j9 => nI (tw j9)))), (bS, .inl (cI, 4, .inl (fun j9 => nI (sm j9))))] → va_S A s.heap H locs → ∀ (ls : Array Slot), lv_has ls 6 [(5, .int (nI q)), (4, .int (nI (min (op + 1) (K + 1)))), (0, .ref kS), (1, .int (nI g)), (2, .int (nI op)), (3, .int (nI len))] → W p l e R s m args below meth c H locs 0 0 Q (F0 m 38 ls []) := by
          intro n9
          induction n9 with
          | zero =>
            intro q b hq hbb hmeas
            exact absurd hmeas (by omega)
          | succ n9 ih_38 =>
            intro q b hq hbb hmeas H locs hP hD hS ls hl
            have hbl := mnp_b (fun q => lo tw K r (g + 1) (va_up sm q (sm q + tw g)) (max len (sm q + tw g))) ll q
            rw [← hbb] at hbl
            have htg := ht g (by omega)
            refine lv_iload hx hb dSE_seekLength_38 (lv_at hl 0 rfl) ?_
            refine lv_iload hx hb dSE_seekLength_40 (lv_at hl 1 rfl) ?_
            refine hr_icmp_ge hx hb (x := q) (y := (min (op + 1) (K + 1))) (by omega) (by omega) (tgt := 109) dSE_seekLength_42 (by decide) (fun c_3 => ?_) (fun c_3 => ?_)
            · have eq1 : q = (min (op + 1) (K + 1)) := by omega
              have e9 : min ll (lo tw K (r + 1) g sm len) = b := by rw [hbb, eq1]; exact (lo_step tw r g sm len ll hz).symm
              rw [← hQe]
              exact W.vret hx hb hr (fun t ht hW => ⟨⟨(), rfl, trivial, by rw [ht, e9]; exact hP, by rw [e9]; exact hD⟩, hS.F ht⟩) hS.2.2 dSE_seekLength_109
            · have hsq := hsm q (by omega)
              refine lv_aload_n hx hb dSE_seekLength_45 rfl (lv_at hl 2 rfl) ?_
              refine va_get (D := (dC, dI)) (ci := 6) (v := .ref bS) (C := RSE) (T := TSE) (N := 10) hx hb hts (fun w h => List.mem_cons_of_mem _ (inSE w h)) hown hK hP 0 rfl rfl 5 (by decide) (hts _ (List.mem_cons_of_mem _ kw_121)) (fun _ h9 => h9) rfl dSE_seekLength_46 ?_
              refine lv_iload hx hb dSE_seekLength_49 (lv_at hl 0 rfl) ?_
              refine lv_dup2_11 hx hb dSE_seekLength_51 rfl rfl ?_
              refine hr_iald hx hb hK hP 2 0 rfl rfl (i := q) (by omega) (by omega) dSE_seekLength_52 ?_
              refine lv_aload_n hx hb dSE_seekLength_53 rfl (lv_at hl 2 rfl) ?_
              refine va_get (D := (dC, dI)) (ci := 6) (v := .ref aS) (C := RSE) (T := TSE) (N := 10) hx hb hts (fun w h => List.mem_cons_of_mem _ (inSE w h)) hown hK hP 0 rfl rfl 4 (by decide) (hts _ (List.mem_cons_of_mem _ kw_120)) (fun _ h9 => h9) rfl dSE_seekLength_54 ?_
              refine lv_iload_n hx hb dSE_seekLength_57 rfl (lv_at hl 3 rfl) ?_
              refine hr_iald hx hb hK hP 1 0 rfl rfl (i := g) (by omega) (by omega) dSE_seekLength_58 ?_
              refine lv_iadd hx hb dSE_seekLength_59 ?_
              refine hr_eqi (nI_add _ _) ?_
              refine hr_iastN hx hb hK hP hD hS 2 0 rfl rfl (i := q) (by omega) (by omega) dSE_seekLength_60 (fun H locs hP hD hS => ?_)
              have hP : va_P (dC, dI) vwCl [(kS, .inr (6, [.int (nI (K + 1)), .int (nI G), .int (nI b), .int (nI lm), .ref aS, .ref bS, .ref dS, .ref eS, .ref gS9, .ref fS])), (aS, .inl (cI, 8, .inl (fun j9 => nI (tw j9)))), (bS, .inl (cI, 4, .inl (fun j9 => nI ((va_up sm q ((sm q) + (tw g))) j9))))] H := hP
              have hD : va_D A [(kS, .inr (6, [.int (nI (K + 1)), .int (nI G), .int (nI b), .int (nI lm), .ref aS, .ref bS, .ref dS, .ref eS, .ref gS9, .ref fS])), (aS, .inl (cI, 8, .inl (fun j9 => nI (tw j9)))), (bS, .inl (cI, 4, .inl (fun j9 => nI ((va_up sm q ((sm q) + (tw g))) j9))))] := hD
              refine lv_aload_n hx hb dSE_seekLength_61 rfl (lv_at hl 2 rfl) ?_
              refine lv_iload_n hx hb dSE_seekLength_62 rfl (lv_at hl 3 rfl) ?_
              refine lv_iconst (v := nI 1) hx hb dSE_seekLength_63 (by decide +kernel) ?_
              refine lv_iadd hx hb dSE_seekLength_64 ?_
              refine hr_eqi (nI_add _ _) ?_
              refine lv_iload_n hx hb dSE_seekLength_65 rfl (lv_at hl 4 rfl) ?_
              refine lv_iload hx hb dSE_seekLength_66 (lv_at hl 0 rfl) ?_
              refine lv_iconst (v := nI 1) hx hb dSE_seekLength_68 (by decide +kernel) ?_
              refine lv_iadd hx hb dSE_seekLength_69 ?_
              refine hr_eqi (nI_add _ _) ?_
              refine va_mmax (rest := [.int (nI (g + 1)), .ref kS]) hx hb (by rw [hml]; exact hl.1.symm) hown (hts (.methodLink RSE 108 Lib.Math.max.name) (by decide +kernel)) (hts (.static Lib.Math.max.name) (by decide +kernel)) (hts (.initialized "java/lang/Math") (by decide +kernel)) (hts (.code Lib.Math.max.name Lib.Math.max.code 2 (some .int)) (by decide +kernel)) (Nat.le_trans (Nat.le_of_ble_eq_true rfl) hRf) (Nat.le_trans (Nat.le_of_ble_eq_true rfl) hRl) (Nat.zero_le _) (Nat.zero_le _) dSE_seekLength_70 ?_
              refine hr_eqi (hr_max (by omega) (by omega)) ?_
              refine lv_iload_n hx hb dSE_seekLength_73 rfl (lv_at hl 5 rfl) ?_
              refine lv_aload_n hx hb dSE_seekLength_74 rfl (lv_at hl 2 rfl) ?_
              refine va_get (D := (dC, dI)) (ci := 6) (v := .ref bS) (C := RSE) (T := TSE) (N := 10) hx hb hts (fun w h => List.mem_cons_of_mem _ (inSE w h)) hown hK hP 0 rfl rfl 5 (by decide) (hts _ (List.mem_cons_of_mem _ kw_121)) (fun _ h9 => h9) rfl dSE_seekLength_75 ?_
              refine lv_iload hx hb dSE_seekLength_78 (lv_at hl 0 rfl) ?_
              refine hr_iald hx hb hK hP 2 0 rfl rfl (i := q) (by omega) (by omega) dSE_seekLength_80 ?_
              refine hr_eqi (show nI (va_up sm q (sm q + tw g) q) = nI (sm q + tw g) by rw [va_up_self]) ?_
              refine va_mmax (rest := [.int (nI (max op (q + 1))), .int (nI (g + 1)), .ref kS]) hx hb (by rw [hml]; exact hl.1.symm) hown (hts (.methodLink RSE 108 Lib.Math.max.name) (by decide +kernel)) (hts (.static Lib.Math.max.name) (by decide +kernel)) (hts (.initialized "java/lang/Math") (by decide +kernel)) (hts (.code Lib.Math.max.name Lib.Math.max.code 2 (some .int)) (by decide +kernel)) (Nat.le_trans (Nat.le_of_ble_eq_true rfl) hRf) (Nat.le_trans (Nat.le_of_ble_eq_true rfl) hRl) (Nat.zero_le _) (Nat.zero_le _) dSE_seekLength_81 ?_
              refine hr_eqi (hr_max (by omega) (by omega)) ?_
              refine hr_callv (wr := []) (va_runV (C := RSE) (As := [.int (nI (g + 1)), .int (nI (max op (q + 1))), .int (nI (max len (sm q + tw g)))]) (rest := []) ⟨hx, hb, hml, hown, hts⟩ (ih kS aS bS dS eS gS9 fS K G b lm tw (va_up sm q (sm q + tw g)) (g + 1) (max op (q + 1)) (max len (sm q + tw g)) H.size (hK3) (hG8) (by omega) (by omega) (fun q2 h1 h2 => by rw [va_up_ne _ _ (by omega)]; exact hz q2 (by omega) h2) (ht) (fun q2 h1 => by
        by_cases e : q2 = q
        · rw [e, va_up_self]; omega
        · rw [va_up_ne _ _ e]; have := hsm q2 h1; omega) (by omega) (by omega)) (hr_cwV 3 hts kw_350 kw_352 kw_4 kw_27 kw_353 (by decide +kernel) (by rw [← hRe]; exact ⟨by show r + 1 + 1 ≤ r + 1 + 1; omega, by show 8 + (6 + 11) + 32 * (r + 1) ≤ 32 * (r + 1 + 1); omega⟩)) (hr_preW hKX hP hD [0, 1, 2] (by decide) rfl (ci := 6) (q0 := 0) (q := (RSE, TSE, 10)) rfl rfl) rfl rfl hl.1 rfl (lv_room (Nat.le_of_ble_eq_true rfl)) dSE_seekLength_84 ⟨by omega, by omega⟩) hP hD hS hA [0, 1, 2] [] rfl rfl (by decide) (by decide) [0, 1, 2] (fun u => [(kS, .inr (6, [.int (nI (K + 1)), .int (nI G), .int (nI (min b (lo tw K r (g + 1) (va_up sm q (sm q + tw g)) (max len (sm q + tw g))))), .int (nI lm), .ref aS, .ref bS, .ref dS, .ref eS, .ref gS9, .ref fS])), (aS, .inl (cI, 8, .inl (fun j9 => nI (tw j9)))), (bS, .inl (cI, 4, .inl (fun j9 => nI ((va_up sm q (sm q + tw g)) j9))))]) (by decide) (fun u => rfl) (fun u H locs hrv hP hD hS => ?_)
              have hP : va_P (dC, dI) vwCl [(kS, .inr (6, [.int (nI (K + 1)), .int (nI G), .int (nI (min b (lo tw K r (g + 1) (va_up sm q (sm q + tw g)) (max len (sm q + tw g))))), .int (nI lm), .ref aS, .ref bS, .ref dS, .ref eS, .ref gS9, .ref fS])), (aS, .inl (cI, 8, .inl (fun j9 => nI (tw j9)))), (bS, .inl (cI, 4, .inl (fun j9 => nI ((va_up sm q (sm q + tw g)) j9))))] H := hP
              have hD : va_D A [(kS, .inr (6, [.int (nI (K + 1)), .int (nI G), .int (nI (min b (lo tw K r (g + 1) (va_up sm q (sm q + tw g)) (max len (sm q + tw g))))), .int (nI lm), .ref aS, .ref bS, .ref dS, .ref eS, .ref gS9, .ref fS])), (aS, .inl (cI, 8, .inl (fun j9 => nI (tw j9)))), (bS, .inl (cI, 4, .inl (fun j9 => nI ((va_up sm q (sm q + tw g)) j9))))] := hD
              refine lv_aload_n hx hb dSE_seekLength_87 rfl (lv_at hl 2 rfl) ?_
              refine va_get (D := (dC, dI)) (ci := 6) (v := .ref bS) (C := RSE) (T := TSE) (N := 10) hx hb hts (fun w h => List.mem_cons_of_mem _ (inSE w h)) hown hK hP 0 rfl rfl 5 (by decide) (hts _ (List.mem_cons_of_mem _ kw_121)) (fun _ h9 => h9) rfl dSE_seekLength_88 ?_
              refine lv_iload hx hb dSE_seekLength_91 (lv_at hl 0 rfl) ?_
              refine lv_dup2_11 hx hb dSE_seekLength_93 rfl rfl ?_
              refine hr_iald hx hb hK hP 2 0 rfl rfl (i := q) (by omega) (by omega) dSE_seekLength_94 ?_
              refine hr_eqi (show nI (va_up sm q (sm q + tw g) q) = nI (sm q + tw g) by rw [va_up_self]) ?_
              refine lv_aload_n hx hb dSE_seekLength_95 rfl (lv_at hl 2 rfl) ?_
              refine va_get (D := (dC, dI)) (ci := 6) (v := .ref aS) (C := RSE) (T := TSE) (N := 10) hx hb hts (fun w h => List.mem_cons_of_mem _ (inSE w h)) hown hK hP 0 rfl rfl 4 (by decide) (hts _ (List.mem_cons_of_mem _ kw_120)) (fun _ h9 => h9) rfl dSE_seekLength_96 ?_
              refine lv_iload_n hx hb dSE_seekLength_99 rfl (lv_at hl 3 rfl) ?_
              refine hr_iald hx hb hK hP 1 0 rfl rfl (i := g) (by omega) (by omega) dSE_seekLength_100 ?_
              refine lv_isub hx hb dSE_seekLength_101 ?_
              refine hr_eqi (pk_sub (by omega)) ?_
              refine hr_iastN hx hb hK hP hD hS 2 0 rfl rfl (i := q) (by omega) (by omega) dSE_seekLength_102 (fun H locs hP hD hS => ?_)
              have hP : va_P (dC, dI) vwCl [(kS, .inr (6, [.int (nI (K + 1)), .int (nI G), .int (nI (min b (lo tw K r (g + 1) (va_up sm q (sm q + tw g)) (max len (sm q + tw g))))), .int (nI lm), .ref aS, .ref bS, .ref dS, .ref eS, .ref gS9, .ref fS])), (aS, .inl (cI, 8, .inl (fun j9 => nI (tw j9)))), (bS, .inl (cI, 4, .inl (fun j9 => nI ((va_up (va_up sm q (sm q + tw g)) q ((sm q + tw g) - (tw g))) j9))))] H := hP
              have hD : va_D A [(kS, .inr (6, [.int (nI (K + 1)), .int (nI G), .int (nI (min b (lo tw K r (g + 1) (va_up sm q (sm q + tw g)) (max len (sm q + tw g))))), .int (nI lm), .ref aS, .ref bS, .ref dS, .ref eS, .ref gS9, .ref fS])), (aS, .inl (cI, 8, .inl (fun j9 => nI (tw j9)))), (bS, .inl (cI, 4, .inl (fun j9 => nI ((va_up (va_up sm q (sm q + tw g)) q ((sm q + tw g) - (tw g))) j9))))] := hD
              rw [up_back] at hP hD
              have hP : va_P (dC, dI) vwCl [(kS, .inr (6, [.int (nI (K + 1)), .int (nI G), .int (nI (min b (lo tw K r (g + 1) (va_up sm q (sm q + tw g)) (max len (sm q + tw g))))), .int (nI lm), .ref aS, .ref bS, .ref dS, .ref eS, .ref gS9, .ref fS])), (aS, .inl (cI, 8, .inl (fun j9 => nI (tw j9)))), (bS, .inl (cI, 4, .inl (fun j9 => nI (sm j9))))] H := hP
              have hD : va_D A [(kS, .inr (6, [.int (nI (K + 1)), .int (nI G), .int (nI (min b (lo tw K r (g + 1) (va_up sm q (sm q + tw g)) (max len (sm q + tw g))))), .int (nI lm), .ref aS, .ref bS, .ref dS, .ref eS, .ref gS9, .ref fS])), (aS, .inl (cI, 8, .inl (fun j9 => nI (tw j9)))), (bS, .inl (cI, 4, .inl (fun j9 => nI (sm j9))))] := hD
              refine lv_iinc (v := nI (q + 1)) (lv' := [(5, .int (nI (q + 1))), (4, .int (nI (min (op + 1) (K + 1)))), (0, .ref kS), (1, .int (nI g)), (2, .int (nI op)), (3, .int (nI len))]) hx hb dSE_seekLength_103 hl (k := 0) rfl (hr_inc _) (by decide) rfl (fun ls hl => ?_)
              refine lv_goto (tgt := 38) hx hb dSE_seekLength_106 (by decide) ?_
              exact ih_38 (q + 1) (min b (lo tw K r (g + 1) (va_up sm q (sm q + tw g)) (max len (sm q + tw g)))) (by omega) (by rw [hbb]; rfl) (by omega) _ _ hP hD hS ls (lv_sub hl [0, 1, 2, 3, 4, 5] rfl)
        exact loop_38 ((min (op + 1) (K + 1)) + 1) 0 ll (by omega) (rfl) (by omega) _ _ hP hD hS ls (lv_sub hl [0, 1, 2, 3, 4, 5] rfl)
      · exact absurd c_2 (by omega)
    · have e9 : min ll (lo tw K (r + 1) g sm len) = ll := by omega
      rw [← hQe]
      exact W.vret hx hb hr (fun t ht hW => ⟨⟨(), rfl, trivial, by rw [ht, e9]; exact hP, by rw [e9]; exact hD⟩, hS.F ht⟩) hS.2.2 dSE_seekLength_8

set_option maxHeartbeats 400000 in
set_option maxRecDepth 100000 in
/-- the SHARDS under the LENGTH -/
theorem c_SE_seekShards (l : Launch) (dC : Nat → ClassId) (dI : Nat → Nat → Nat) (cI cZ cG : ClassId) : ∀ (r : Nat) (kS : Nat) (aS : Nat) (bS : Nat) (dS : Nat) (eS : Nat) (gS9 : Nat) (fS : Nat) (K : Nat) (G : Nat) (ll : Nat) (lm : Nat) (ro : Nat → Nat) (mx : Nat → Nat → Nat) (tw : Nat → Nat) (sm : Nat → Nat) (tr : Nat → Nat) (be : Nat → Nat) (mf : Nat → Nat) (g : Nat) (md : Nat) (sz : Nat) (hK3 : K ≤ 3) (hG8 : G ≤ 8) (hg : g + r = G) (ht : ∀ j, j < 8 → tw j ≤ 2400000) (hsm : ∀ q, q < 4 → sm q ≤ 2400000 * g) (hll : ll < 2 ^ 31) (hlm : lm < 2 ^ 31) (hmd : md ≤ 24 * g) (hmx : ∀ g, g < G → ∀ s, s < K + 1 → mx g s ≤ 24) (hmf : ∀ g, g ≤ G → mf g ≤ 192) (hm0 : mf G = 0) (hLB : ∀ g, g < G → ∀ s, s < K + 1 → mf g ≤ mx g s + mf (g + 1)), Met l ySE_seekShards wsSE_seekShards ({ frames := r + 1, cells := 0, slots := 0, locals := 32 * (r + 1) }) (va_Pc [.ref kS, .int (nI g), .int (nI md)] (fun U => U.heap.size = sz ∧ va_P (dC, dI) vwCl ([(kS, .inr (6, [.int (nI (K + 1)), .int (nI G), .int (nI ll), .int (nI lm), .ref aS, .ref bS, .ref dS, .ref eS, .ref gS9, .ref fS])), (aS, .inl (cI, 8, .inl (fun j9 => nI (tw j9)))), (bS, .inl (cI, 4, .inl (fun j9 => nI (sm j9)))), (dS, .inl (cI, 8, .inl (fun j9 => nI (tr j9)))), (eS, .inl (cI, 8, .inl (fun j9 => nI (be j9)))), (gS9, .inl (cG, 8, .inr (.inr (.inr (.inr (grf ro)))))), (fS, .inl (cI, 9, .inl (fun j9 => nI (mf j9))))] ++ rws ro cI mx) U.heap ∧ KX dC dI cI cZ cG U ∧ va_D (fun _ => True) ([(kS, .inr (6, [.int (nI (K + 1)), .int (nI G), .int (nI ll), .int (nI lm), .ref aS, .ref bS, .ref dS, .ref eS, .ref gS9, .ref fS])), (aS, .inl (cI, 8, .inl (fun j9 => nI (tw j9)))), (bS, .inl (cI, 4, .inl (fun j9 => nI (sm j9)))), (dS, .inl (cI, 8, .inl (fun j9 => nI (tr j9)))), (eS, .inl (cI, 8, .inl (fun j9 => nI (be j9)))), (gS9, .inl (cG, 8, .inr (.inr (.inr (.inr (grf ro)))))), (fS, .inl (cI, 9, .inl (fun j9 => nI (mf j9))))] ++ rws ro cI mx))) (va_Qv (fun (u : (Nat → Nat)) => ∀ j, j < g → u j = tr j) (fun u t => va_P (dC, dI) vwCl ([(kS, .inr (6, [.int (nI (K + 1)), .int (nI G), .int (nI ll), .int (nI ((fs tw mx K ll G r g md sm tr (lm, be)).1)), .ref aS, .ref bS, .ref dS, .ref eS, .ref gS9, .ref fS])), (aS, .inl (cI, 8, .inl (fun j9 => nI (tw j9)))), (bS, .inl (cI, 4, .inl (fun j9 => nI (sm j9)))), (dS, .inl (cI, 8, .inl (fun j9 => nI (u j9)))), (eS, .inl (cI, 8, .inl (fun j9 => nI (((fs tw mx K ll G r g md sm tr (lm, be)).2) j9)))), (gS9, .inl (cG, 8, .inr (.inr (.inr (.inr (grf ro)))))), (fS, .inl (cI, 9, .inl (fun j9 => nI (mf j9))))] ++ rws ro cI mx) t.heap ∧ va_D (va_A ([(kS, .inr (6, [.int (nI (K + 1)), .int (nI G), .int (nI ll), .int (nI lm), .ref aS, .ref bS, .ref dS, .ref eS, .ref gS9, .ref fS])), (aS, .inl (cI, 8, .inl (fun j9 => nI (tw j9)))), (bS, .inl (cI, 4, .inl (fun j9 => nI (sm j9)))), (dS, .inl (cI, 8, .inl (fun j9 => nI (tr j9)))), (eS, .inl (cI, 8, .inl (fun j9 => nI (be j9)))), (gS9, .inl (cG, 8, .inr (.inr (.inr (.inr (grf ro)))))), (fS, .inl (cI, 9, .inl (fun j9 => nI (mf j9))))] ++ rws ro cI mx) sz) ([(kS, .inr (6, [.int (nI (K + 1)), .int (nI G), .int (nI ll), .int (nI ((fs tw mx K ll G r g md sm tr (lm, be)).1)), .ref aS, .ref bS, .ref dS, .ref eS, .ref gS9, .ref fS])), (aS, .inl (cI, 8, .inl (fun j9 => nI (tw j9)))), (bS, .inl (cI, 4, .inl (fun j9 => nI (sm j9)))), (dS, .inl (cI, 8, .inl (fun j9 => nI (u j9)))), (eS, .inl (cI, 8, .inl (fun j9 => nI (((fs tw mx K ll G r g md sm tr (lm, be)).2) j9)))), (gS9, .inl (cG, 8, .inr (.inr (.inr (.inr (grf ro)))))), (fS, .inl (cI, 9, .inl (fun j9 => nI (mf j9))))] ++ rws ro cI mx)) (va_A ([(kS, .inr (6, [.int (nI (K + 1)), .int (nI G), .int (nI ll), .int (nI lm), .ref aS, .ref bS, .ref dS, .ref eS, .ref gS9, .ref fS])), (aS, .inl (cI, 8, .inl (fun j9 => nI (tw j9)))), (bS, .inl (cI, 4, .inl (fun j9 => nI (sm j9)))), (dS, .inl (cI, 8, .inl (fun j9 => nI (tr j9)))), (eS, .inl (cI, 8, .inl (fun j9 => nI (be j9)))), (gS9, .inl (cG, 8, .inr (.inr (.inr (.inr (grf ro)))))), (fS, .inl (cI, 9, .inl (fun j9 => nI (mf j9))))] ++ rws ro cI mx) sz)) 0 0 (va_A ([(kS, .inr (6, [.int (nI (K + 1)), .int (nI G), .int (nI ll), .int (nI lm), .ref aS, .ref bS, .ref dS, .ref eS, .ref gS9, .ref fS])), (aS, .inl (cI, 8, .inl (fun j9 => nI (tw j9)))), (bS, .inl (cI, 4, .inl (fun j9 => nI (sm j9)))), (dS, .inl (cI, 8, .inl (fun j9 => nI (tr j9)))), (eS, .inl (cI, 8, .inl (fun j9 => nI (be j9)))), (gS9, .inl (cG, 8, .inr (.inr (.inr (.inr (grf ro)))))), (fS, .inl (cI, 9, .inl (fun j9 => nI (mf j9))))] ++ rws ro cI mx) sz) := by
  intro r
  induction r with
  | zero =>
    intro kS aS bS dS eS gS9 fS K G ll lm ro mx tw sm tr be mf g md sz hK3 hG8 hg ht hsm hll hlm hmd hmx hmf hm0 hLB
    refine Met.ofW (cc := cSE_seekShards) (maxL := 4) (ret := none) (by decide) rfl ?_
    intro p e s m args below meth c s₁ B hml hv
    obtain ⟨rfl, hsz, hP, hKX, hD0⟩ := hv
    have hK := hKX.1
    have hx := B.exec
    have hb := B.bytes
    have hr := B.returns
    have hts := atoms_spec (ws := wsSE_seekShards) B.pre
    have hown : s.vm.findClass RSE = some m.cls := findClass_of_methodNamed B.named
    have hlocks := B.notSynchronized
    subst hsz
    have hD := hD0.self (sz := s.heap.size)
    generalize hAe : va_A ([(kS, .inr (6, [.int (nI (K + 1)), .int (nI G), .int (nI ll), .int (nI lm), .ref aS, .ref bS, .ref dS, .ref eS, .ref gS9, .ref fS])), (aS, .inl (cI, 8, .inl (fun j9 => nI (tw j9)))), (bS, .inl (cI, 4, .inl (fun j9 => nI (sm j9)))), (dS, .inl (cI, 8, .inl (fun j9 => nI (tr j9)))), (eS, .inl (cI, 8, .inl (fun j9 => nI (be j9)))), (gS9, .inl (cG, 8, .inr (.inr (.inr (.inr (grf ro)))))), (fS, .inl (cI, 9, .inl (fun j9 => nI (mf j9))))] ++ rws ro cI mx) s.heap.size = A at hD ⊢
    have hA : ∀ q : Nat, s.heap.size ≤ q → A q := fun q h => by rw [← hAe]; exact Or.inr h
    have hS : va_S A s.heap s.heap [] := va_S.rf
    have hl := lv_entry ([.ref kS, .int (nI g), .int (nI md)]) (n := 4) (Nat.le_of_ble_eq_true rfl)
    rw [lg_entry_eq]
    generalize (lg_sl ([.ref kS, .int (nI g), .int (nI md)]) ++ List.replicate (4 - (lg_sl ([.ref kS, .int (nI g), .int (nI md)])).length) Slot.unset).toArray = ls at hl ⊢
    have hl : lv_has ls 4 [(0, .ref kS), (1, .int (nI g)), (2, .int (nI md))] := hl
    generalize hRe : (headSpec wsSE_seekShards ({ frames := 0 + 1, cells := 0, slots := 0, locals := 32 * (0 + 1) })).room = R
    have hRf : 1 ≤ R.frames := by rw [← hRe]; show 1 ≤ 0 + 1; omega
    have hRl : 32 ≤ R.locals := by rw [← hRe]; show 32 ≤ 32 * (0 + 1); omega
    have hRc : 0 ≤ R.cells := by rw [← hRe]; exact Nat.le_refl _
    have hRs : 0 ≤ R.slots := by rw [← hRe]; exact Nat.le_refl _
    generalize hargs : (List.toArray [.ref kS, .int (nI g), .int (nI md)] : Array Value) = args at hts ⊢
    generalize hQe : MQ below _ args s _ _ _ = Q
    have hmg := hmf g (by omega)
    refine lv_iload_n hx hb dSE_seekShards_0 rfl (lv_at hl 2 rfl) ?_
    refine lv_aload_n hx hb dSE_seekShards_1 rfl (lv_at hl 0 rfl) ?_
    refine va_get (D := (dC, dI)) (ci := 6) (v := .ref fS) (C := RSE) (T := TSE) (N := 10) hx hb hts (fun w h => List.mem_cons_of_mem _ (inSE w h)) hown hK hP 0 rfl rfl 9 (by decide) (hts _ (List.mem_cons_of_mem _ kw_125)) (fun _ h9 => h9) rfl dSE_seekShards_2 ?_
    refine lv_iload_n hx hb dSE_seekShards_5 rfl (lv_at hl 1 rfl) ?_
    refine hr_iald hx hb hK hP 6 0 rfl rfl (i := g) (by omega) (by omega) dSE_seekShards_6 ?_
    refine lv_iadd hx hb dSE_seekShards_7 ?_
    refine hr_eqi (nI_add _ _) ?_
    refine lv_aload_n hx hb dSE_seekShards_8 rfl (lv_at hl 0 rfl) ?_
    refine va_get (D := (dC, dI)) (ci := 6) (v := .int (nI lm)) (C := RSE) (T := TSE) (N := 10) hx hb hts (fun w h => List.mem_cons_of_mem _ (inSE w h)) hown hK hP 0 rfl rfl 3 (by decide) (hts _ (List.mem_cons_of_mem _ kw_119)) (fun _ h9 => h9) rfl dSE_seekShards_9 ?_
    refine hr_icmp_lt hx hb (x := (md + (mf g))) (y := lm) (by omega) (by omega) (tgt := 16) dSE_seekShards_12 (by decide) (fun c_1 => ?_) (fun c_1 => ?_)
    · refine lv_iload_n hx hb dSE_seekShards_16 rfl (lv_at hl 1 rfl) ?_
      refine lv_aload_n hx hb dSE_seekShards_17 rfl (lv_at hl 0 rfl) ?_
      refine va_get (D := (dC, dI)) (ci := 6) (v := .int (nI G)) (C := RSE) (T := TSE) (N := 10) hx hb hts (fun w h => List.mem_cons_of_mem _ (inSE w h)) hown hK hP 0 rfl rfl 1 (by decide) (hts _ (List.mem_cons_of_mem _ kw_117)) (fun _ h9 => h9) rfl dSE_seekShards_18 ?_
      refine hr_icmp_lt hx hb (x := g) (y := G) (by omega) (by omega) (tgt := 47) dSE_seekShards_21 (by decide) (fun c_2 => ?_) (fun c_2 => ?_)
      · exact absurd c_2 (by omega)
      · refine lv_aload_n hx hb dSE_seekShards_24 rfl (lv_at hl 0 rfl) ?_
        refine lv_iload_n hx hb dSE_seekShards_25 rfl (lv_at hl 2 rfl) ?_
        refine va_put (D := (dC, dI)) (ci := 6) (v := .int (nI md)) (ty := .int) (C := RSE) (T := TSE) (N := 10) hx hb hts (fun w h => List.mem_cons_of_mem _ (inSE w h)) tySE tySE_ok nmSE hown hK hP hD hS 0 rfl rfl 3 (by decide) (hts _ (List.mem_cons_of_mem _ kw_119)) (fun _ h9 => h9) rfl (by decide +kernel) rfl rfl (Nat.le_of_ble_eq_true rfl) dSE_seekShards_26 (fun H locs hP hD hS => ?_)
        have hP : va_P (dC, dI) vwCl ([(kS, .inr (6, [.int (nI (K + 1)), .int (nI G), .int (nI ll), .int (nI md), .ref aS, .ref bS, .ref dS, .ref eS, .ref gS9, .ref fS])), (aS, .inl (cI, 8, .inl (fun j9 => nI (tw j9)))), (bS, .inl (cI, 4, .inl (fun j9 => nI (sm j9)))), (dS, .inl (cI, 8, .inl (fun j9 => nI (tr j9)))), (eS, .inl (cI, 8, .inl (fun j9 => nI (be j9)))), (gS9, .inl (cG, 8, .inr (.inr (.inr (.inr (grf ro)))))), (fS, .inl (cI, 9, .inl (fun j9 => nI (mf j9))))] ++ rws ro cI mx) H := hP
        have hD : va_D A ([(kS, .inr (6, [.int (nI (K + 1)), .int (nI G), .int (nI ll), .int (nI md), .ref aS, .ref bS, .ref dS, .ref eS, .ref gS9, .ref fS])), (aS, .inl (cI, 8, .inl (fun j9 => nI (tw j9)))), (bS, .inl (cI, 4, .inl (fun j9 => nI (sm j9)))), (dS, .inl (cI, 8, .inl (fun j9 => nI (tr j9)))), (eS, .inl (cI, 8, .inl (fun j9 => nI (be j9)))), (gS9, .inl (cG, 8, .inr (.inr (.inr (.inr (grf ro)))))), (fS, .inl (cI, 9, .inl (fun j9 => nI (mf j9))))] ++ rws ro cI mx) := hD
        refine lv_aload_n hx hb dSE_seekShards_29 rfl (lv_at hl 0 rfl) ?_
        refine va_get (D := (dC, dI)) (ci := 6) (v := .ref dS) (C := RSE) (T := TSE) (N := 10) hx hb hts (fun w h => List.mem_cons_of_mem _ (inSE w h)) hown hK hP 0 rfl rfl 6 (by decide) (hts _ (List.mem_cons_of_mem _ kw_122)) (fun _ h9 => h9) rfl dSE_seekShards_30 ?_
        refine lv_iconst (v := nI 0) hx hb dSE_seekShards_33 (by decide +kernel) ?_
        refine lv_aload_n hx hb dSE_seekShards_34 rfl (lv_at hl 0 rfl) ?_
        refine va_get (D := (dC, dI)) (ci := 6) (v := .ref eS) (C := RSE) (T := TSE) (N := 10) hx hb hts (fun w h => List.mem_cons_of_mem _ (inSE w h)) hown hK hP 0 rfl rfl 7 (by decide) (hts _ (List.mem_cons_of_mem _ kw_123)) (fun _ h9 => h9) rfl dSE_seekShards_35 ?_
        refine lv_iconst (v := nI 0) hx hb dSE_seekShards_38 (by decide +kernel) ?_
        refine lv_aload_n hx hb dSE_seekShards_39 rfl (lv_at hl 0 rfl) ?_
        refine va_get (D := (dC, dI)) (ci := 6) (v := .int (nI G)) (C := RSE) (T := TSE) (N := 10) hx hb hts (fun w h => List.mem_cons_of_mem _ (inSE w h)) hown hK hP 0 rfl rfl 1 (by decide) (hts _ (List.mem_cons_of_mem _ kw_117)) (fun _ h9 => h9) rfl dSE_seekShards_40 ?_
        refine hr_copy (n := G) (rest := []) hx hb (by rw [hml]; exact hl.1.symm) hown (hts _ (List.mem_cons_of_mem _ kw_325)) (hts _ (List.mem_cons_of_mem _ kw_327)) (hts _ (List.mem_cons_of_mem _ kw_326)) (hts _ (List.mem_cons_of_mem _ kw_34)) hK hP hD hS 3 4 0 rfl rfl rfl (by omega) (by omega) (by omega) hRf (Nat.le_trans (by decide) hRl) dSE_seekShards_43 (fun H locs hP hD hS => ?_)
        rw [hr_cpyN] at hP hD
        have hP : va_P (dC, dI) vwCl ([(kS, .inr (6, [.int (nI (K + 1)), .int (nI G), .int (nI ll), .int (nI md), .ref aS, .ref bS, .ref dS, .ref eS, .ref gS9, .ref fS])), (aS, .inl (cI, 8, .inl (fun j9 => nI (tw j9)))), (bS, .inl (cI, 4, .inl (fun j9 => nI (sm j9)))), (dS, .inl (cI, 8, .inl (fun j9 => nI (tr j9)))), (eS, .inl (cI, 8, .inl (fun j9 => nI ((va_cpy tr be 0 0 G) j9)))), (gS9, .inl (cG, 8, .inr (.inr (.inr (.inr (grf ro)))))), (fS, .inl (cI, 9, .inl (fun j9 => nI (mf j9))))] ++ rws ro cI mx) H := hP
        have hD : va_D A ([(kS, .inr (6, [.int (nI (K + 1)), .int (nI G), .int (nI ll), .int (nI md), .ref aS, .ref bS, .ref dS, .ref eS, .ref gS9, .ref fS])), (aS, .inl (cI, 8, .inl (fun j9 => nI (tw j9)))), (bS, .inl (cI, 4, .inl (fun j9 => nI (sm j9)))), (dS, .inl (cI, 8, .inl (fun j9 => nI (tr j9)))), (eS, .inl (cI, 8, .inl (fun j9 => nI ((va_cpy tr be 0 0 G) j9)))), (gS9, .inl (cG, 8, .inr (.inr (.inr (.inr (grf ro)))))), (fS, .inl (cI, 9, .inl (fun j9 => nI (mf j9))))] ++ rws ro cI mx) := hD
        have e9 : (fs tw mx K ll G 0 g md sm tr (lm, be)) = (md, va_cpy tr be 0 0 G) := if_pos (by show md < lm; omega)
        rw [← hQe]
        exact W.vret hx hb hr (fun t ht hW => ⟨⟨tr, rfl, fun j hj => rfl, by rw [ht, e9]; exact hP, by rw [e9]; exact hD⟩, hS.F ht⟩) hS.2.2 dSE_seekShards_46
    · have e9 : (fs tw mx K ll G 0 g md sm tr (lm, be)) = (lm, be) := fs_prune hm0 hLB 0 g md sm tr (lm, be) hg c_1
      rw [← hQe]
      exact W.vret hx hb hr (fun t ht hW => ⟨⟨tr, rfl, fun j hj => rfl, by rw [ht, e9]; exact hP, by rw [e9]; exact hD⟩, hS.F ht⟩) hS.2.2 dSE_seekShards_15
  | succ r ih =>
    intro kS aS bS dS eS gS9 fS K G ll lm ro mx tw sm tr be mf g md sz hK3 hG8 hg ht hsm hll hlm hmd hmx hmf hm0 hLB
    refine Met.ofW (cc := cSE_seekShards) (maxL := 4) (ret := none) (by decide) rfl ?_
    intro p e s m args below meth c s₁ B hml hv
    obtain ⟨rfl, hsz, hP, hKX, hD0⟩ := hv
    have hK := hKX.1
    have hx := B.exec
    have hb := B.bytes
    have hr := B.returns
    have hts := atoms_spec (ws := wsSE_seekShards) B.pre
    have hown : s.vm.findClass RSE = some m.cls := findClass_of_methodNamed B.named
    have hlocks := B.notSynchronized
    subst hsz
    have hD := hD0.self (sz := s.heap.size)
    generalize hAe : va_A ([(kS, .inr (6, [.int (nI (K + 1)), .int (nI G), .int (nI ll), .int (nI lm), .ref aS, .ref bS, .ref dS, .ref eS, .ref gS9, .ref fS])), (aS, .inl (cI, 8, .inl (fun j9 => nI (tw j9)))), (bS, .inl (cI, 4, .inl (fun j9 => nI (sm j9)))), (dS, .inl (cI, 8, .inl (fun j9 => nI (tr j9)))), (eS, .inl (cI, 8, .inl (fun j9 => nI (be j9)))), (gS9, .inl (cG, 8, .inr (.inr (.inr (.inr (grf ro)))))), (fS, .inl (cI, 9, .inl (fun j9 => nI (mf j9))))] ++ rws ro cI mx) s.heap.size = A at hD ⊢
    have hA : ∀ q : Nat, s.heap.size ≤ q → A q := fun q h => by rw [← hAe]; exact Or.inr h
    have hS : va_S A s.heap s.heap [] := va_S.rf
    have hl := lv_entry ([.ref kS, .int (nI g), .int (nI md)]) (n := 4) (Nat.le_of_ble_eq_true rfl)
    rw [lg_entry_eq]
    generalize (lg_sl ([.ref kS, .int (nI g), .int (nI md)]) ++ List.replicate (4 - (lg_sl ([.ref kS, .int (nI g), .int (nI md)])).length) Slot.unset).toArray = ls at hl ⊢
    have hl : lv_has ls 4 [(0, .ref kS), (1, .int (nI g)), (2, .int (nI md))] := hl
    generalize hRe : (headSpec wsSE_seekShards ({ frames := (r + 1) + 1, cells := 0, slots := 0, locals := 32 * ((r + 1) + 1) })).room = R
    have hRf : 1 ≤ R.frames := by rw [← hRe]; show 1 ≤ (r + 1) + 1; omega
    have hRl : 32 ≤ R.locals := by rw [← hRe]; show 32 ≤ 32 * ((r + 1) + 1); omega
    have hRc : 0 ≤ R.cells := by rw [← hRe]; exact Nat.le_refl _
    have hRs : 0 ≤ R.slots := by rw [← hRe]; exact Nat.le_refl _
    generalize hargs : (List.toArray [.ref kS, .int (nI g), .int (nI md)] : Array Value) = args at hts ⊢
    generalize hQe : MQ below _ args s _ _ _ = Q
    have hmg := hmf g (by omega)
    refine lv_iload_n hx hb dSE_seekShards_0 rfl (lv_at hl 2 rfl) ?_
    refine lv_aload_n hx hb dSE_seekShards_1 rfl (lv_at hl 0 rfl) ?_
    refine va_get (D := (dC, dI)) (ci := 6) (v := .ref fS) (C := RSE) (T := TSE) (N := 10) hx hb hts (fun w h => List.mem_cons_of_mem _ (inSE w h)) hown hK hP 0 rfl rfl 9 (by decide) (hts _ (List.mem_cons_of_mem _ kw_125)) (fun _ h9 => h9) rfl dSE_seekShards_2 ?_
    refine lv_iload_n hx hb dSE_seekShards_5 rfl (lv_at hl 1 rfl) ?_
    refine hr_iald hx hb hK hP 6 0 rfl rfl (i := g) (by omega) (by omega) dSE_seekShards_6 ?_
    refine lv_iadd hx hb dSE_seekShards_7 ?_
    refine hr_eqi (nI_add _ _) ?_
    refine lv_aload_n hx hb dSE_seekShards_8 rfl (lv_at hl 0 rfl) ?_
    refine va_get (D := (dC, dI)) (ci := 6) (v := .int (nI lm)) (C := RSE) (T := TSE) (N := 10) hx hb hts (fun w h => List.mem_cons_of_mem _ (inSE w h)) hown hK hP 0 rfl rfl 3 (by decide) (hts _ (List.mem_cons_of_mem _ kw_119)) (fun _ h9 => h9) rfl dSE_seekShards_9 ?_
    refine hr_icmp_lt hx hb (x := (md + (mf g))) (y := lm) (by omega) (by omega) (tgt := 16) dSE_seekShards_12 (by decide) (fun c_1 => ?_) (fun c_1 => ?_)
    · refine lv_iload_n hx hb dSE_seekShards_16 rfl (lv_at hl 1 rfl) ?_
      refine lv_aload_n hx hb dSE_seekShards_17 rfl (lv_at hl 0 rfl) ?_
      refine va_get (D := (dC, dI)) (ci := 6) (v := .int (nI G)) (C := RSE) (T := TSE) (N := 10) hx hb hts (fun w h => List.mem_cons_of_mem _ (inSE w h)) hown hK hP 0 rfl rfl 1 (by decide) (hts _ (List.mem_cons_of_mem _ kw_117)) (fun _ h9 => h9) rfl dSE_seekShards_18 ?_
      refine hr_icmp_lt hx hb (x := g) (y := G) (by omega) (by omega) (tgt := 47) dSE_seekShards_21 (by decide) (fun c_2 => ?_) (fun c_2 => ?_)
      · refine lv_iconst (v := nI 0) hx hb dSE_seekShards_47 (by decide +kernel) ?_
        refine lv_istore_n (lv' := [(3, .int (nI 0)), (0, .ref kS), (1, .int (nI g)), (2, .int (nI md))]) hx hb dSE_seekShards_48 rfl hl (by decide) rfl (fun ls hl => ?_)
        have loop_49 : ∀ (n9 : Nat) (q : Nat) (b1 : Nat) (b2 : Nat → Nat) (tq : Nat → Nat), q ≤ K + 1 → (b1, b2) = fldB (fsF tw mx K ll G r g md sm tr) q (lm, be) → b1 < 2 ^ 31 → (∀ j, j < g → tq j = tr j) → (K + 1) + 1 ≤ q + n9 → ∀ (H : Heap) (locs : List Loc), va_P (dC, dI) vwCl ([(kS, .inr (6, [.int (nI (K + 1)), .int (nI G), .int (nI ll), .int (nI b1), .ref aS, .ref bS, .ref dS, .ref eS, .ref gS9, .ref fS])), (aS, .inl (cI, 8, .inl (fun j9 => nI (tw j9)))), (bS, .inl (cI, 4, .inl (fun j9 => nI (sm j9)))), (dS, .inl (cI, 8, .inl (fun j9 => nI (tq j9)))), (eS, .inl (cI, 8, .inl (fun j9 => nI (b2 j9)))), (gS9, .inl (cG, 8, .inr (.inr (.inr (.inr (grf ro)))))), (fS, .inl (cI, 9, .inl (fun j9 => nI (mf j9))))] ++ rws ro cI mx) H → va_D A ([(kS, .inr (6, [.int (nI (K + 1)), .int (nI G), .int (nI ll), .int (nI b1), .ref aS, .ref bS, .ref dS, .ref eS, .ref gS9, .ref fS])), (aS, .inl (cI, 8, .inl (fun j9 => nI (tw j9)))), (bS, .inl (cI, 4, .inl (fun j9 => nI (sm j9)))), (dS, .inl (cI, 8, .inl (fun j9 => nI (tq j9)))), (eS, .inl (cI, 8, .inl (fun j9 => nI (b2 j9)))), (gS9, .inl (cG, 8, .inr (.inr (.inr (.inr (grf ro)))))), (fS, .inl (cI, 9, .inl (fun j9 => nI (mf j9))))] ++ rws ro cI mx) → va_S A s.heap H locs → ∀ (ls : Array Slot), lv_has ls 4 [(3, .int (nI q)), (0, .ref kS), (1, .int (nI g)), (2, .int (nI md))] → W p l e R s m args below meth c H locs 0 0 Q (F0 m 49 ls []) := by
          intro n9
          induction n9 with
          | zero =>
            intro q b1 b2 tq hq hbb hb1 htq hmeas
            exact absurd hmeas (by omega)
          | succ n9 ih_49 =>
            intro q b1 b2 tq hq hbb hb1 htq hmeas H locs hP hD hS ls hl
            have htg := ht g (by omega)
            refine lv_iload_n hx hb dSE_seekShards_49 rfl (lv_at hl 0 rfl) ?_
            refine lv_aload_n hx hb dSE_seekShards_50 rfl (lv_at hl 1 rfl) ?_
            refine va_get (D := (dC, dI)) (ci := 6) (v := .int (nI (K + 1))) (C := RSE) (T := TSE) (N := 10) hx hb hts (fun w h => List.mem_cons_of_mem _ (inSE w h)) hown hK hP 0 rfl rfl 0 (by decide) (hts _ (List.mem_cons_of_mem _ kw_116)) (fun _ h9 => h9) rfl dSE_seekShards_51 ?_
            refine hr_icmp_ge hx hb (x := q) (y := (K + 1)) (by omega) (by omega) (tgt := 137) dSE_seekShards_54 (by decide) (fun c_3 => ?_) (fun c_3 => ?_)
            · have eq1 : q = K + 1 := by omega
              have e9 : (fs tw mx K ll G (r + 1) g md sm tr (lm, be)) = (b1, b2) := by rw [fs_succ, hbb, eq1]
              rw [← hQe]
              exact W.vret hx hb hr (fun t ht hW => ⟨⟨tq, rfl, htq, by rw [ht, e9]; exact hP, by rw [e9]; exact hD⟩, hS.F ht⟩) hS.2.2 dSE_seekShards_137
            · have hsq := hsm q (by omega)
              have hmq := hmx g (by omega) q (by omega)
              refine lv_aload_n hx hb dSE_seekShards_57 rfl (lv_at hl 1 rfl) ?_
              refine va_get (D := (dC, dI)) (ci := 6) (v := .ref bS) (C := RSE) (T := TSE) (N := 10) hx hb hts (fun w h => List.mem_cons_of_mem _ (inSE w h)) hown hK hP 0 rfl rfl 5 (by decide) (hts _ (List.mem_cons_of_mem _ kw_121)) (fun _ h9 => h9) rfl dSE_seekShards_58 ?_
              refine lv_iload_n hx hb dSE_seekShards_61 rfl (lv_at hl 0 rfl) ?_
              refine hr_iald hx hb hK hP 2 0 rfl rfl (i := q) (by omega) (by omega) dSE_seekShards_62 ?_
              refine lv_aload_n hx hb dSE_seekShards_63 rfl (lv_at hl 1 rfl) ?_
              refine va_get (D := (dC, dI)) (ci := 6) (v := .ref aS) (C := RSE) (T := TSE) (N := 10) hx hb hts (fun w h => List.mem_cons_of_mem _ (inSE w h)) hown hK hP 0 rfl rfl 4 (by decide) (hts _ (List.mem_cons_of_mem _ kw_120)) (fun _ h9 => h9) rfl dSE_seekShards_64 ?_
              refine lv_iload_n hx hb dSE_seekShards_67 rfl (lv_at hl 2 rfl) ?_
              refine hr_iald hx hb hK hP 1 0 rfl rfl (i := g) (by omega) (by omega) dSE_seekShards_68 ?_
              refine lv_iadd hx hb dSE_seekShards_69 ?_
              refine hr_eqi (nI_add _ _) ?_
              refine lv_aload_n hx hb dSE_seekShards_70 rfl (lv_at hl 1 rfl) ?_
              refine va_get (D := (dC, dI)) (ci := 6) (v := .int (nI ll)) (C := RSE) (T := TSE) (N := 10) hx hb hts (fun w h => List.mem_cons_of_mem _ (inSE w h)) hown hK hP 0 rfl rfl 2 (by decide) (hts _ (List.mem_cons_of_mem _ kw_118)) (fun _ h9 => h9) rfl dSE_seekShards_71 ?_
              refine hr_icmp_gt hx hb (x := ((sm q) + (tw g))) (y := ll) (by omega) (by omega) (tgt := 131) dSE_seekShards_74 (by decide) (fun c_4 => ?_) (fun c_4 => ?_)
              · refine lv_iinc (v := nI (q + 1)) (lv' := [(3, .int (nI (q + 1))), (0, .ref kS), (1, .int (nI g)), (2, .int (nI md))]) hx hb dSE_seekShards_131 hl (k := 0) rfl (hr_inc _) (by decide) rfl (fun ls hl => ?_)
                refine lv_goto (tgt := 49) hx hb dSE_seekShards_134 (by decide) ?_
                exact ih_49 (q + 1) b1 b2 tq (by omega) (fs_skip hbb c_4) (by omega) (htq) (by omega) _ _ hP hD hS ls (lv_sub hl [0, 1, 2, 3] rfl)
              · refine lv_aload_n hx hb dSE_seekShards_77 rfl (lv_at hl 1 rfl) ?_
                refine va_get (D := (dC, dI)) (ci := 6) (v := .ref bS) (C := RSE) (T := TSE) (N := 10) hx hb hts (fun w h => List.mem_cons_of_mem _ (inSE w h)) hown hK hP 0 rfl rfl 5 (by decide) (hts _ (List.mem_cons_of_mem _ kw_121)) (fun _ h9 => h9) rfl dSE_seekShards_78 ?_
                refine lv_iload_n hx hb dSE_seekShards_81 rfl (lv_at hl 0 rfl) ?_
                refine lv_dup2_11 hx hb dSE_seekShards_82 rfl rfl ?_
                refine hr_iald hx hb hK hP 2 0 rfl rfl (i := q) (by omega) (by omega) dSE_seekShards_83 ?_
                refine lv_aload_n hx hb dSE_seekShards_84 rfl (lv_at hl 1 rfl) ?_
                refine va_get (D := (dC, dI)) (ci := 6) (v := .ref aS) (C := RSE) (T := TSE) (N := 10) hx hb hts (fun w h => List.mem_cons_of_mem _ (inSE w h)) hown hK hP 0 rfl rfl 4 (by decide) (hts _ (List.mem_cons_of_mem _ kw_120)) (fun _ h9 => h9) rfl dSE_seekShards_85 ?_
                refine lv_iload_n hx hb dSE_seekShards_88 rfl (lv_at hl 2 rfl) ?_
                refine hr_iald hx hb hK hP 1 0 rfl rfl (i := g) (by omega) (by omega) dSE_seekShards_89 ?_
                refine lv_iadd hx hb dSE_seekShards_90 ?_
                refine hr_eqi (nI_add _ _) ?_
                refine hr_iastN hx hb hK hP hD hS 2 0 rfl rfl (i := q) (by omega) (by omega) dSE_seekShards_91 (fun H locs hP hD hS => ?_)
                have hP : va_P (dC, dI) vwCl ([(kS, .inr (6, [.int (nI (K + 1)), .int (nI G), .int (nI ll), .int (nI b1), .ref aS, .ref bS, .ref dS, .ref eS, .ref gS9, .ref fS])), (aS, .inl (cI, 8, .inl (fun j9 => nI (tw j9)))), (bS, .inl (cI, 4, .inl (fun j9 => nI ((va_up sm q ((sm q) + (tw g))) j9)))), (dS, .inl (cI, 8, .inl (fun j9 => nI (tq j9)))), (eS, .inl (cI, 8, .inl (fun j9 => nI (b2 j9)))), (gS9, .inl (cG, 8, .inr (.inr (.inr (.inr (grf ro)))))), (fS, .inl (cI, 9, .inl (fun j9 => nI (mf j9))))] ++ rws ro cI mx) H := hP
                have hD : va_D A ([(kS, .inr (6, [.int (nI (K + 1)), .int (nI G), .int (nI ll), .int (nI b1), .ref aS, .ref bS, .ref dS, .ref eS, .ref gS9, .ref fS])), (aS, .inl (cI, 8, .inl (fun j9 => nI (tw j9)))), (bS, .inl (cI, 4, .inl (fun j9 => nI ((va_up sm q ((sm q) + (tw g))) j9)))), (dS, .inl (cI, 8, .inl (fun j9 => nI (tq j9)))), (eS, .inl (cI, 8, .inl (fun j9 => nI (b2 j9)))), (gS9, .inl (cG, 8, .inr (.inr (.inr (.inr (grf ro)))))), (fS, .inl (cI, 9, .inl (fun j9 => nI (mf j9))))] ++ rws ro cI mx) := hD
                refine lv_aload_n hx hb dSE_seekShards_92 rfl (lv_at hl 1 rfl) ?_
                refine va_get (D := (dC, dI)) (ci := 6) (v := .ref dS) (C := RSE) (T := TSE) (N := 10) hx hb hts (fun w h => List.mem_cons_of_mem _ (inSE w h)) hown hK hP 0 rfl rfl 6 (by decide) (hts _ (List.mem_cons_of_mem _ kw_122)) (fun _ h9 => h9) rfl dSE_seekShards_93 ?_
                refine lv_iload_n hx hb dSE_seekShards_96 rfl (lv_at hl 2 rfl) ?_
                refine lv_iload_n hx hb dSE_seekShards_97 rfl (lv_at hl 0 rfl) ?_
                refine hr_iastN hx hb hK hP hD hS 3 0 rfl rfl (i := g) (by omega) (by omega) dSE_seekShards_98 (fun H locs hP hD hS => ?_)
                have hP : va_P (dC, dI) vwCl ([(kS, .inr (6, [.int (nI (K + 1)), .int (nI G), .int (nI ll), .int (nI b1), .ref aS, .ref bS, .ref dS, .ref eS, .ref gS9, .ref fS])), (aS, .inl (cI, 8, .inl (fun j9 => nI (tw j9)))), (bS, .inl (cI, 4, .inl (fun j9 => nI ((va_up sm q ((sm q) + (tw g))) j9)))), (dS, .inl (cI, 8, .inl (fun j9 => nI ((va_up tq g q) j9)))), (eS, .inl (cI, 8, .inl (fun j9 => nI (b2 j9)))), (gS9, .inl (cG, 8, .inr (.inr (.inr (.inr (grf ro)))))), (fS, .inl (cI, 9, .inl (fun j9 => nI (mf j9))))] ++ rws ro cI mx) H := hP
                have hD : va_D A ([(kS, .inr (6, [.int (nI (K + 1)), .int (nI G), .int (nI ll), .int (nI b1), .ref aS, .ref bS, .ref dS, .ref eS, .ref gS9, .ref fS])), (aS, .inl (cI, 8, .inl (fun j9 => nI (tw j9)))), (bS, .inl (cI, 4, .inl (fun j9 => nI ((va_up sm q ((sm q) + (tw g))) j9)))), (dS, .inl (cI, 8, .inl (fun j9 => nI ((va_up tq g q) j9)))), (eS, .inl (cI, 8, .inl (fun j9 => nI (b2 j9)))), (gS9, .inl (cG, 8, .inr (.inr (.inr (.inr (grf ro)))))), (fS, .inl (cI, 9, .inl (fun j9 => nI (mf j9))))] ++ rws ro cI mx) := hD
                refine lv_aload_n hx hb dSE_seekShards_99 rfl (lv_at hl 1 rfl) ?_
                refine lv_iload_n hx hb dSE_seekShards_100 rfl (lv_at hl 2 rfl) ?_
                refine lv_iconst (v := nI 1) hx hb dSE_seekShards_101 (by decide +kernel) ?_
                refine lv_iadd hx hb dSE_seekShards_102 ?_
                refine hr_eqi (nI_add _ _) ?_
                refine lv_iload_n hx hb dSE_seekShards_103 rfl (lv_at hl 3 rfl) ?_
                refine lv_aload_n hx hb dSE_seekShards_104 rfl (lv_at hl 1 rfl) ?_
                refine va_get (D := (dC, dI)) (ci := 6) (v := .ref gS9) (C := RSE) (T := TSE) (N := 10) hx hb hts (fun w h => List.mem_cons_of_mem _ (inSE w h)) hown hK hP 0 rfl rfl 8 (by decide) (hts _ (List.mem_cons_of_mem _ kw_124)) (fun _ h9 => h9) rfl dSE_seekShards_105 ?_
                refine lv_iload_n hx hb dSE_seekShards_108 rfl (lv_at hl 2 rfl) ?_
                refine hr_aaldG hx hb hK hP 5 2 rfl rfl (i := g) (by omega) dSE_seekShards_109 ?_
                refine lv_iload_n hx hb dSE_seekShards_110 rfl (lv_at hl 0 rfl) ?_
                refine hr_iald hx hb hK hP (7 + g) 0 (rws_at (K := 7) rfl (by omega)) rfl (i := q) (by omega) (by omega) dSE_seekShards_111 ?_
                refine lv_iadd hx hb dSE_seekShards_112 ?_
                refine hr_eqi (nI_add _ _) ?_
                refine hr_callv (wr := []) (va_runV (C := RSE) (As := [.int (nI (g + 1)), .int (nI (md + ((mx g) q)))]) (rest := []) ⟨hx, hb, hml, hown, hts⟩ (ih kS aS bS dS eS gS9 fS K G ll b1 ro mx tw (va_up sm q (sm q + tw g)) (va_up tq g q) b2 mf (g + 1) (md + mx g q) H.size (hK3) (hG8) (by omega) (ht) (fun q2 h1 => by
        by_cases e : q2 = q
        · rw [e, va_up_self]; omega
        · rw [va_up_ne _ _ e]; have := hsm q2 h1; omega) (hll) (hb1) (by omega) (hmx) (hmf) (hm0) (hLB)) (hr_cwV 2 hts kw_355 kw_357 kw_5 kw_27 kw_358 (by decide +kernel) (by rw [← hRe]; exact ⟨by show r + 1 + 1 ≤ r + 1 + 1; omega, by show 8 + (4 + 11) + 32 * (r + 1) ≤ 32 * (r + 1 + 1); omega⟩)) (hr_preW hKX hP hD [0, 1, 2, 3, 4, 5, 6, 7, 8, 9, 10, 11, 12, 13, 14] (by decide) rfl (ci := 6) (q0 := 0) (q := (RSE, TSE, 10)) rfl rfl) rfl rfl hl.1 rfl (lv_room (Nat.le_of_ble_eq_true rfl)) dSE_seekShards_113 ⟨by omega, by omega⟩) hP hD hS hA [0, 1, 2, 3, 4, 5, 6, 7, 8, 9, 10, 11, 12, 13, 14] [] rfl rfl (by decide) (by decide) [0, 1, 2, 3, 4, 5, 6, 7, 8, 9, 10, 11, 12, 13, 14] (fun u => [(kS, .inr (6, [.int (nI (K + 1)), .int (nI G), .int (nI ll), .int (nI ((fs tw mx K ll G r (g + 1) (md + mx g q) (va_up sm q (sm q + tw g)) (va_up tq g q) (b1, b2)).1)), .ref aS, .ref bS, .ref dS, .ref eS, .ref gS9, .ref fS])), (aS, .inl (cI, 8, .inl (fun j9 => nI (tw j9)))), (bS, .inl (cI, 4, .inl (fun j9 => nI ((va_up sm q (sm q + tw g)) j9)))), (dS, .inl (cI, 8, .inl (fun j9 => nI (u j9)))), (eS, .inl (cI, 8, .inl (fun j9 => nI (((fs tw mx K ll G r (g + 1) (md + mx g q) (va_up sm q (sm q + tw g)) (va_up tq g q) (b1, b2)).2) j9)))), (gS9, .inl (cG, 8, .inr (.inr (.inr (.inr (grf ro)))))), (fS, .inl (cI, 9, .inl (fun j9 => nI (mf j9))))] ++ rws ro cI mx) (by decide) (fun u => rfl) (fun u H locs hrv hP hD hS => ?_)
                obtain ⟨ts, rfl⟩ : ∃ z, z = u := ⟨_, rfl⟩
                have hP : va_P (dC, dI) vwCl ([(kS, .inr (6, [.int (nI (K + 1)), .int (nI G), .int (nI ll), .int (nI ((fs tw mx K ll G r (g + 1) (md + mx g q) (va_up sm q (sm q + tw g)) (va_up tq g q) (b1, b2)).1)), .ref aS, .ref bS, .ref dS, .ref eS, .ref gS9, .ref fS])), (aS, .inl (cI, 8, .inl (fun j9 => nI (tw j9)))), (bS, .inl (cI, 4, .inl (fun j9 => nI ((va_up sm q (sm q + tw g)) j9)))), (dS, .inl (cI, 8, .inl (fun j9 => nI (ts j9)))), (eS, .inl (cI, 8, .inl (fun j9 => nI (((fs tw mx K ll G r (g + 1) (md + mx g q) (va_up sm q (sm q + tw g)) (va_up tq g q) (b1, b2)).2) j9)))), (gS9, .inl (cG, 8, .inr (.inr (.inr (.inr (grf ro)))))), (fS, .inl (cI, 9, .inl (fun j9 => nI (mf j9))))] ++ rws ro cI mx) H := hP
                have hD : va_D A ([(kS, .inr (6, [.int (nI (K + 1)), .int (nI G), .int (nI ll), .int (nI ((fs tw mx K ll G r (g + 1) (md + mx g q) (va_up sm q (sm q + tw g)) (va_up tq g q) (b1, b2)).1)), .ref aS, .ref bS, .ref dS, .ref eS, .ref gS9, .ref fS])), (aS, .inl (cI, 8, .inl (fun j9 => nI (tw j9)))), (bS, .inl (cI, 4, .inl (fun j9 => nI ((va_up sm q (sm q + tw g)) j9)))), (dS, .inl (cI, 8, .inl (fun j9 => nI (ts j9)))), (eS, .inl (cI, 8, .inl (fun j9 => nI (((fs tw mx K ll G r (g + 1) (md + mx g q) (va_up sm q (sm q + tw g)) (va_up tq g q) (b1, b2)).2) j9)))), (gS9, .inl (cG, 8, .inr (.inr (.inr (.inr (grf ro)))))), (fS, .inl (cI, 9, .inl (fun j9 => nI (mf j9))))] ++ rws ro cI mx) := hD
                have hpt := hrv
                have hts2 := hpt
                refine lv_aload_n hx hb dSE_seekShards_116 rfl (lv_at hl 1 rfl) ?_
                refine va_get (D := (dC, dI)) (ci := 6) (v := .ref bS) (C := RSE) (T := TSE) (N := 10) hx hb hts (fun w h => List.mem_cons_of_mem _ (inSE w h)) hown hK hP 0 rfl rfl 5 (by decide) (hts _ (List.mem_cons_of_mem _ kw_121)) (fun _ h9 => h9) rfl dSE_seekShards_117 ?_
                refine lv_iload_n hx hb dSE_seekShards_120 rfl (lv_at hl 0 rfl) ?_
                refine lv_dup2_11 hx hb dSE_seekShards_121 rfl rfl ?_
                refine hr_iald hx hb hK hP 2 0 rfl rfl (i := q) (by omega) (by omega) dSE_seekShards_122 ?_
                refine hr_eqi (show nI (va_up sm q (sm q + tw g) q) = nI (sm q + tw g) by rw [va_up_self]) ?_
                refine lv_aload_n hx hb dSE_seekShards_123 rfl (lv_at hl 1 rfl) ?_
                refine va_get (D := (dC, dI)) (ci := 6) (v := .ref aS) (C := RSE) (T := TSE) (N := 10) hx hb hts (fun w h => List.mem_cons_of_mem _ (inSE w h)) hown hK hP 0 rfl rfl 4 (by decide) (hts _ (List.mem_cons_of_mem _ kw_120)) (fun _ h9 => h9) rfl dSE_seekShards_124 ?_
                refine lv_iload_n hx hb dSE_seekShards_127 rfl (lv_at hl 2 rfl) ?_
                refine hr_iald hx hb hK hP 1 0 rfl rfl (i := g) (by omega) (by omega) dSE_seekShards_128 ?_
                refine lv_isub hx hb dSE_seekShards_129 ?_
                refine hr_eqi (pk_sub (by omega)) ?_
                refine hr_iastN hx hb hK hP hD hS 2 0 rfl rfl (i := q) (by omega) (by omega) dSE_seekShards_130 (fun H locs hP hD hS => ?_)
                have hP : va_P (dC, dI) vwCl ([(kS, .inr (6, [.int (nI (K + 1)), .int (nI G), .int (nI ll), .int (nI ((fs tw mx K ll G r (g + 1) (md + mx g q) (va_up sm q (sm q + tw g)) (va_up tq g q) (b1, b2)).1)), .ref aS, .ref bS, .ref dS, .ref eS, .ref gS9, .ref fS])), (aS, .inl (cI, 8, .inl (fun j9 => nI (tw j9)))), (bS, .inl (cI, 4, .inl (fun j9 => nI ((va_up (va_up sm q (sm q + tw g)) q ((sm q + tw g) - (tw g))) j9)))), (dS, .inl (cI, 8, .inl (fun j9 => nI (ts j9)))), (eS, .inl (cI, 8, .inl (fun j9 => nI (((fs tw mx K ll G r (g + 1) (md + mx g q) (va_up sm q (sm q + tw g)) (va_up tq g q) (b1, b2)).2) j9)))), (gS9, .inl (cG, 8, .inr (.inr (.inr (.inr (grf ro)))))), (fS, .inl (cI, 9, .inl (fun j9 => nI (mf j9))))] ++ rws ro cI mx) H := hP
                have hD : va_D A ([(kS, .inr (6, [.int (nI (K + 1)), .int (nI G), .int (nI ll), .int (nI ((fs tw mx K ll G r (g + 1) (md + mx g q) (va_up sm q (sm q + tw g)) (va_up tq g q) (b1, b2)).1)), .ref aS, .ref bS, .ref dS, .ref eS, .ref gS9, .ref fS])), (aS, .inl (cI, 8, .inl (fun j9 => nI (tw j9)))), (bS, .inl (cI, 4, .inl (fun j9 => nI ((va_up (va_up sm q (sm q + tw g)) q ((sm q + tw g) - (tw g))) j9)))), (dS, .inl (cI, 8, .inl (fun j9 => nI (ts j9)))), (eS, .inl (cI, 8, .inl (fun j9 => nI (((fs tw mx K ll G r (g + 1) (md + mx g q) (va_up sm q (sm q + tw g)) (va_up tq g q) (b1, b2)).2) j9)))), (gS9, .inl (cG, 8, .inr (.inr (.inr (.inr (grf ro)))))), (fS, .inl (cI, 9, .inl (fun j9 => nI (mf j9))))] ++ rws ro cI mx) := hD
                rw [up_back] at hP hD
                have hP : va_P (dC, dI) vwCl ([(kS, .inr (6, [.int (nI (K + 1)), .int (nI G), .int (nI ll), .int (nI ((fs tw mx K ll G r (g + 1) (md + mx g q) (va_up sm q (sm q + tw g)) (va_up tq g q) (b1, b2)).1)), .ref aS, .ref bS, .ref dS, .ref eS, .ref gS9, .ref fS])), (aS, .inl (cI, 8, .inl (fun j9 => nI (tw j9)))), (bS, .inl (cI, 4, .inl (fun j9 => nI (sm j9)))), (dS, .inl (cI, 8, .inl (fun j9 => nI (ts j9)))), (eS, .inl (cI, 8, .inl (fun j9 => nI (((fs tw mx K ll G r (g + 1) (md + mx g q) (va_up sm q (sm q + tw g)) (va_up tq g q) (b1, b2)).2) j9)))), (gS9, .inl (cG, 8, .inr (.inr (.inr (.inr (grf ro)))))), (fS, .inl (cI, 9, .inl (fun j9 => nI (mf j9))))] ++ rws ro cI mx) H := hP
                have hD : va_D A ([(kS, .inr (6, [.int (nI (K + 1)), .int (nI G), .int (nI ll), .int (nI ((fs tw mx K ll G r (g + 1) (md + mx g q) (va_up sm q (sm q + tw g)) (va_up tq g q) (b1, b2)).1)), .ref aS, .ref bS, .ref dS, .ref eS, .ref gS9, .ref fS])), (aS, .inl (cI, 8, .inl (fun j9 => nI (tw j9)))), (bS, .inl (cI, 4, .inl (fun j9 => nI (sm j9)))), (dS, .inl (cI, 8, .inl (fun j9 => nI (ts j9)))), (eS, .inl (cI, 8, .inl (fun j9 => nI (((fs tw mx K ll G r (g + 1) (md + mx g q) (va_up sm q (sm q + tw g)) (va_up tq g q) (b1, b2)).2) j9)))), (gS9, .inl (cG, 8, .inr (.inr (.inr (.inr (grf ro)))))), (fS, .inl (cI, 9, .inl (fun j9 => nI (mf j9))))] ++ rws ro cI mx) := hD
                refine lv_iinc (v := nI (q + 1)) (lv' := [(3, .int (nI (q + 1))), (0, .ref kS), (1, .int (nI g)), (2, .int (nI md))]) hx hb dSE_seekShards_131 hl (k := 0) rfl (hr_inc _) (by decide) rfl (fun ls hl => ?_)
                refine lv_goto (tgt := 49) hx hb dSE_seekShards_134 (by decide) ?_
                exact ih_49 (q + 1) ((fs tw mx K ll G r (g + 1) (md + mx g q) (va_up sm q (sm q + tw g)) (va_up tq g q) (b1, b2)).1) ((fs tw mx K ll G r (g + 1) (md + mx g q) (va_up sm q (sm q + tw g)) (va_up tq g q) (b1, b2)).2) ts (by omega) (fs_step hbb c_4 hg htq) (Nat.lt_of_le_of_lt (fs_le _ _ _ _ _ _) hb1) (fun j hj => by rw [hts2 j (by omega), va_up_ne _ _ (by omega)]; exact htq j hj) (by omega) _ _ hP hD hS ls (lv_sub hl [0, 1, 2, 3] rfl)
        exact loop_49 ((K + 1) + 1) 0 lm be tr (by omega) (rfl) (by omega) (fun j hj => rfl) (by omega) _ _ hP hD hS ls (lv_sub hl [0, 1, 2, 3] rfl)
      · exact absurd c_2 (by omega)
    · have e9 : (fs tw mx K ll G (r + 1) g md sm tr (lm, be)) = (lm, be) := fs_prune hm0 hLB (r + 1) g md sm tr (lm, be) hg c_1
      rw [← hQe]
      exact W.vret hx hb hr (fun t ht hW => ⟨⟨tr, rfl, fun j hj => rfl, by rw [ht, e9]; exact hP, by rw [e9]; exact hD⟩, hS.F ht⟩) hS.2.2 dSE_seekShards_15
