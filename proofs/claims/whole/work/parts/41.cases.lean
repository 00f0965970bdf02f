set_option maxHeartbeats 1000000 in
set_option maxRecDepth 100000 in
theorem lw_case0 {p : Program} {e : Env} {s : State} {m : MethodId} {below : List Frame} {meth : Method} {c : Code} {l : Launch} {b L : Nat} {xs : Nat → Int32} {dC : Nat → ClassId} {dI : Nat → Nat → Nat} {cI cZ cG : ClassId} {hC hM i : Nat} {Q : State → Prop} (hLC : LC9 p s m c b L xs dC dI cI cZ cG) (hi : i + 4 ≤ L) (kont : ∀ (w1 w2 : va_W) (H : Heap) (locs : List Loc) (ls : Array Slot), PO9 cI cZ cG hC hM w1 w2 → va_P (dC, dI) vwCl (w1 ++ w2) H → va_D (fun q : Nat => s.heap.size ≤ q) (w1 ++ w2) → va_S (fun q : Nat => s.heap.size ≤ q) s.heap H locs → lv_has ls 4 [(3, .int (nI i)), (2, .ref hM), (1, .ref hC), (0, .ref b)] → W p l e room_1 s m #[Value.ref b] below meth c H locs 51 733 Q (F0 m 589 ls [])) {w1 w2 : va_W} {H : Heap} {locs : List Loc} {ls : Array Slot} (hPO : PO9 cI cZ cG hC hM w1 w2) (hP : va_P (dC, dI) vwCl (w1 ++ w2) H) (hD : va_D (fun q : Nat => s.heap.size ≤ q) (w1 ++ w2)) (hS : va_S (fun q : Nat => s.heap.size ≤ q) s.heap H locs) (hl : lv_has ls 4 [(3, .int (nI i)), (2, .ref hM), (1, .ref hC), (0, .ref b)]) : W p l e room_1 s m #[Value.ref b] below meth c H locs 51 733 Q (F0 m 132 ls []) := by
  obtain ⟨hx, hb, hml, hown, hts, hX, hbl, hL, hKX⟩ := hLC
  have hbA : ¬ (fun q : Nat => s.heap.size ≤ q) b := Nat.not_le.mpr hbl
  have hA : ∀ q : Nat, s.heap.size ≤ q → (fun q : Nat => s.heap.size ≤ q) q := fun _ h => h
  obtain ⟨k, n, tf, ff, sc, mv, s5, zs, sf, sg, pr, vs, tc, dn, wr, iS, sn, gd, hCo, hMo, ra, rs, rr, hdn9⟩ := hPO
  obtain ⟨fs1, hat1⟩ := CObj_at hCo
  obtain ⟨fs2, hat2⟩ := MObj_at hMo
  refine lv_aload_n hx hb dL_132 rfl (lv_at hl 2 rfl) ?_
  refine lv_aload_n hx hb dL_133 rfl (lv_at hl 3 rfl) ?_
  refine lv_iload_n hx hb dL_134 rfl (lv_at hl 0 rfl) ?_
  refine lv_iconst (v := nI 1) hx hb dL_135 (by decide +kernel) ?_
  refine lv_iadd hx hb dL_136 ?_
  refine hr_eqi (nI_add i 1) ?_
  refine lw_sld hx hb hX hbl hbA hS (i := i + 1) (by omega) hL dL_137 ?_
  refine call1 (B := fun w2 => w2) (va_runV (C := RSR) (As := [.int (xs (i + 1))]) (rest := []) ⟨hx, hb, hml, hown, hts⟩ (f_test l dC dI cI cZ cG hC k n tf ff sc mv s5 zs sf sg pr vs tc dn wr w1 hCo (xs (i + 1)) H.size ra.2.1) (hr_cwV 1 hts kw_249 kw_250 kw_251 kw_23 kw_252 (by decide +kernel) (⟨Nat.le_of_ble_eq_true rfl, Nat.le_of_ble_eq_true rfl⟩)) (pre1W hKX hP hD hat1) rfl rfl hl.1 rfl (lv_room (Nat.le_of_ble_eq_true rfl)) dL_138 ⟨Nat.le_of_ble_eq_true rfl, Nat.le_of_ble_eq_true rfl⟩) hP hD hS hA (fun r1 u1 H locs hr1 hP hD hS => ?_)
  obtain ⟨hr1, hCo⟩ := hr1
  refine lv_aload_n hx hb dL_141 rfl (lv_at hl 1 rfl) ?_
  refine lv_aload_n hx hb dL_142 rfl (lv_at hl 3 rfl) ?_
  refine lv_iload_n hx hb dL_143 rfl (lv_at hl 0 rfl) ?_
  refine lv_iconst (v := nI 1) hx hb dL_144 (by decide +kernel) ?_
  refine lv_iadd hx hb dL_145 ?_
  refine hr_eqi (nI_add i 1) ?_
  refine lw_sld hx hb hX hbl hbA hS (i := i + 1) (by omega) hL dL_146 ?_
  refine call2 (B := fun w2 => w2) (va_runV (C := RMO) (As := [.int (xs (i + 1))]) (rest := [.int r1]) ⟨hx, hb, hml, hown, hts⟩ (g_test l dC dI cI cZ cG hM k n tf ff iS sc sn mv sg dn sf s5 pr gd tc wr w2 hMo (xs (i + 1)) H.size ra.2.1) (hr_cwV 1 hts kw_582 kw_583 kw_584 kw_33 kw_585 (by decide +kernel) (⟨Nat.le_of_ble_eq_true rfl, Nat.le_of_ble_eq_true rfl⟩)) (pre2W hKX hP hD hat2) rfl rfl hl.1 rfl (lv_room (Nat.le_of_ble_eq_true rfl)) dL_147 ⟨Nat.le_of_ble_eq_true rfl, Nat.le_of_ble_eq_true rfl⟩) hP hD hS hA (fun r2 u2 H locs hr2 hP hD hS => ?_)
  obtain ⟨hr2, hMo⟩ := hr2
  refine lv_icmp_eq (tgt := 589) hx hb dL_150 (by decide) (fun _ => ?_) (fun c9 => absurd (by rw [hr1, hr2]) c9)
  exact kont _ _ _ _ _ (⟨_, _, _, _, _, _, _, _, _, _, _, _, _, _, _, _, _, _, hCo, hMo, (ra_test ra (xs (i + 1))).1, (rs_n rs (ra_test ra (xs (i + 1))).2), rr, hdn9⟩) hP hD hS hl
