set_option maxHeartbeats 1000000 in
set_option maxRecDepth 100000 in
theorem lw_case0 {p : Program} {e : Env} {s : State} {m : MethodId} {below : List Frame} {meth : Method} {c : Code} {l : Launch} {b L : Nat} {xs : Nat → Int32} {dC : Nat → ClassId} {dI : Nat → Nat → Nat} {cI cZ cG : ClassId} {hC hM i : Nat} {Q : State → Prop} (hLC : LC9 p s m c b L xs dC dI cI cZ cG) (hi : i + 4 ≤ L) (kont : ∀ (w1 w2 : va_W) (H : Heap) (locs : List Loc) (ls : Array Slot), PO9 cI cZ cG hC hM w1 w2 → va_P (dC, dI) vwCl (w1 ++ w2) H → va_D (fun q : Nat => s.heap.size ≤ q) (w1 ++ w2) → va_S (fun q : Nat => s.heap.size ≤ q) s.heap H locs → lv_has ls 4 [(3, .int (nI i)), (2, .ref hM), (1, .ref hC), (0, .ref b)] → W p l e room_1 s m #[Value.ref b] below meth c H locs 51 733 Q (F0 m 589 ls [])) {w1 w2 : va_W} {H : Heap} {locs : List Loc} {ls : Array Slot} (hPO : PO9 cI cZ cG hC hM w1 w2) (hP : va_P (dC, dI) vwCl (w1 ++ w2) H) (hD : va_D (fun q : Nat => s.heap.size ≤ q) (w1 ++ w2)) (hS : va_S (fun q : Nat => s.heap.size ≤ q) s.heap H locs) (hl : lv_has ls 4 [(3, .int (nI i)), (2, .ref hM), (1, .ref hC), (0, .ref b)]) : W p l e room_1 s m #[Value.ref b] below meth c H locs 51 733 Q (F0 m 132 ls []) := by
  obtain ⟨hx, hb, hml, hown, hts, hX, hbl, hL, hKX⟩ := hLC
  have hbA : ¬ (fun q : Nat => s.heap.size ≤ q) b := Nat.not_le.mpr hbl
  have hA : ∀ q : Nat, s.heap.size ≤ q → (fun q : Nat => s.heap.size ≤ q) q := fun _ h => h
  obtain ⟨k, n, tf, ff, sc, mv, s5, zs, sf, sg, pr, vs, tc, dn, wr, iS, sn, gd, hCo, hMo, ra, rs, rr, hdn9⟩ := hPO
  obtain ⟨fs1, hat1⟩ := CObj_at hCo
  obtain ⟨fs2, hat2⟩ := MObj_at hMo
  refine lv_aload_n hx hb dL_132 rfl (lv_at hl 2 rfl) ?_
  refine lv_aload_n hx hb dL_133 rfl (lv_at hl 3 rfl) ?_
  refine lv_iload_n hx hb dL_134 rfl (lv_at hl 0 rfl) ?_
  refine lv_iconst (v := nI 1) hx hb dL_135 (by decide +kernel) ?_
  refine lv_iadd hx hb dL_136 ?_
  refine hr_eqi (nI_add i 1) ?_
  refine lw_sld hx hb hX hbl hbA hS (i := i + 1) (by omega) hL dL_137 ?_
  refine call1 (B := fun w2 => w2) (va_runV (C := RSR) (As := [.int (xs (i + 1))]) (rest := []) ⟨hx, hb, hml, hown, hts⟩ (f_test l dC dI cI cZ cG hC k n tf ff sc mv s5 zs sf sg pr vs tc dn wr w1 hCo (xs (i + 1)) H.size ra.2.1) (hr_cwV 1 hts kw_249 kw_250 kw_251 kw_23 kw_252 (by decide +kernel) (⟨Nat.le_of_ble_eq_true rfl, Nat.le_of_ble_eq_true rfl⟩)) (pre1W hKX hP hD hat1) rfl rfl hl.1 rfl (lv_room (Nat.le_of_ble_eq_true rfl)) dL_138 ⟨Nat.le_of_ble_eq_true rfl, Nat.le_of_ble_eq_true rfl⟩) hP hD hS hA (fun r1 u1 H locs hr1 hP hD hS => ?_)
  obtain ⟨hr1, hCo⟩ := hr1
  refine lv_aload_n hx hb dL_141 rfl (lv_at hl 1 rfl) ?_
  refine lv_aload_n hx hb dL_142 rfl (lv_at hl 3 rfl) ?_
  refine lv_iload_n hx hb dL_143 rfl (lv_at hl 0 rfl) ?_
  refine lv_iconst (v := nI 1) hx hb dL_144 (by decide +kernel) ?_
  refine lv_iadd hx hb dL_145 ?_
  refine hr_eqi (nI_add i 1) ?_
  refine lw_sld hx hb hX hbl hbA hS (i := i + 1) (by omega) hL dL_146 ?_
  refine call2 (B := fun w2 => w2) (va_runV (C := RMO) (As := [.int (xs (i + 1))]) (rest := [.int r1]) ⟨hx, hb, hml, hown, hts⟩ (g_test l dC dI cI cZ cG hM k n tf ff iS sc sn mv sg dn sf s5 pr gd tc wr w2 hMo (xs (i + 1)) H.size ra.2.1) (hr_cwV 1 hts kw_582 kw_583 kw_584 kw_33 kw_585 (by decide +kernel) (⟨Nat.le_of_ble_eq_true rfl, Nat.le_of_ble_eq_true rfl⟩)) (pre2W hKX hP hD hat2) rfl rfl hl.1 rfl (lv_room (Nat.le_of_ble_eq_true rfl)) dL_147 ⟨Nat.le_of_ble_eq_true rfl, Nat.le_of_ble_eq_true rfl⟩) hP hD hS hA (fun r2 u2 H locs hr2 hP hD hS => ?_)
  obtain ⟨hr2, hMo⟩ := hr2
  refine lv_icmp_eq (tgt := 589) hx hb dL_150 (by decide) (fun _ => ?_) (fun c9 => absurd (by rw [hr1, hr2]) c9)
  exact kont _ _ _ _ _ (⟨_, _, _, _, _, _, _, _, _, _, _, _, _, _, _, _, _, _, hCo, hMo, (ra_test ra (xs (i + 1))).1, (rs_n rs (ra_test ra (xs (i + 1))).2), rr, hdn9⟩) hP hD hS hl
set_option maxHeartbeats 1000000 in
set_option maxRecDepth 100000 in
theorem lw_case1 {p : Program} {e : Env} {s : State} {m : MethodId} {below : List Frame} {meth : Method} {c : Code} {l : Launch} {b L : Nat} {xs : Nat → Int32} {dC : Nat → ClassId} {dI : Nat → Nat → Nat} {cI cZ cG : ClassId} {hC hM i : Nat} {Q : State → Prop} (hLC : LC9 p s m c b L xs dC dI cI cZ cG) (hi : i + 4 ≤ L) (kont : ∀ (w1 w2 : va_W) (H : Heap) (locs : List Loc) (ls : Array Slot), PO9 cI cZ cG hC hM w1 w2 → va_P (dC, dI) vwCl (w1 ++ w2) H → va_D (fun q : Nat => s.heap.size ≤ q) (w1 ++ w2) → va_S (fun q : Nat => s.heap.size ≤ q) s.heap H locs → lv_has ls 4 [(3, .int (nI i)), (2, .ref hM), (1, .ref hC), (0, .ref b)] → W p l e room_1 s m #[Value.ref b] below meth c H locs 51 733 Q (F0 m 589 ls [])) {w1 w2 : va_W} {H : Heap} {locs : List Loc} {ls : Array Slot} (hPO : PO9 cI cZ cG hC hM w1 w2) (hP : va_P (dC, dI) vwCl (w1 ++ w2) H) (hD : va_D (fun q : Nat => s.heap.size ≤ q) (w1 ++ w2)) (hS : va_S (fun q : Nat => s.heap.size ≤ q) s.heap H locs) (hl : lv_has ls 4 [(3, .int (nI i)), (2, .ref hM), (1, .ref hC), (0, .ref b)]) : W p l e room_1 s m #[Value.ref b] below meth c H locs 51 733 Q (F0 m 155 ls []) := by
  obtain ⟨hx, hb, hml, hown, hts, hX, hbl, hL, hKX⟩ := hLC
  have hbA : ¬ (fun q : Nat => s.heap.size ≤ q) b := Nat.not_le.mpr hbl
  have hA : ∀ q : Nat, s.heap.size ≤ q → (fun q : Nat => s.heap.size ≤ q) q := fun _ h => h
  obtain ⟨k, n, tf, ff, sc, mv, s5, zs, sf, sg, pr, vs, tc, dn, wr, iS, sn, gd, hCo, hMo, ra, rs, rr, hdn9⟩ := hPO
  obtain ⟨fs1, hat1⟩ := CObj_at hCo
  obtain ⟨fs2, hat2⟩ := MObj_at hMo
  refine lv_aload_n hx hb dL_155 rfl (lv_at hl 2 rfl) ?_
  refine lv_aload_n hx hb dL_156 rfl (lv_at hl 3 rfl) ?_
  refine lv_iload_n hx hb dL_157 rfl (lv_at hl 0 rfl) ?_
  refine lv_iconst (v := nI 1) hx hb dL_158 (by decide +kernel) ?_
  refine lv_iadd hx hb dL_159 ?_
  refine hr_eqi (nI_add i 1) ?_
  refine lw_sld hx hb hX hbl hbA hS (i := i + 1) (by omega) hL dL_160 ?_
  refine lv_aload_n hx hb dL_161 rfl (lv_at hl 3 rfl) ?_
  refine lv_iload_n hx hb dL_162 rfl (lv_at hl 0 rfl) ?_
  refine lv_iconst (v := nI 2) hx hb dL_163 (by decide +kernel) ?_
  refine lv_iadd hx hb dL_164 ?_
  refine hr_eqi (nI_add i 2) ?_
  refine lw_sld hx hb hX hbl hbA hS (i := i + 2) (by omega) hL dL_165 ?_
  refine call1 (B := fun w2 => w2) (va_runV (C := RSR) (As := [.int (xs (i + 1)), .int (xs (i + 2))]) (rest := []) ⟨hx, hb, hml, hown, hts⟩ (f_time l dC dI cI cZ cG hC k n tf ff sc mv s5 zs sf sg pr vs tc dn wr w1 hCo (xs (i + 1)) (xs (i + 2)) H.size ra.2.1) (hr_cwV 2 hts kw_261 kw_262 kw_263 kw_23 kw_264 (by decide +kernel) (⟨Nat.le_of_ble_eq_true rfl, Nat.le_of_ble_eq_true rfl⟩)) (pre1W hKX hP hD hat1) rfl rfl hl.1 rfl (lv_room (Nat.le_of_ble_eq_true rfl)) dL_166 ⟨Nat.le_of_ble_eq_true rfl, Nat.le_of_ble_eq_true rfl⟩) hP hD hS hA (fun r1 u1 H locs hr1 hP hD hS => ?_)
  obtain ⟨hr1, hCo⟩ := hr1
  refine lv_aload_n hx hb dL_169 rfl (lv_at hl 1 rfl) ?_
  refine lv_aload_n hx hb dL_170 rfl (lv_at hl 3 rfl) ?_
  refine lv_iload_n hx hb dL_171 rfl (lv_at hl 0 rfl) ?_
  refine lv_iconst (v := nI 1) hx hb dL_172 (by decide +kernel) ?_
  refine lv_iadd hx hb dL_173 ?_
  refine hr_eqi (nI_add i 1) ?_
  refine lw_sld hx hb hX hbl hbA hS (i := i + 1) (by omega) hL dL_174 ?_
  refine lv_aload_n hx hb dL_175 rfl (lv_at hl 3 rfl) ?_
  refine lv_iload_n hx hb dL_176 rfl (lv_at hl 0 rfl) ?_
  refine lv_iconst (v := nI 2) hx hb dL_177 (by decide +kernel) ?_
  refine lv_iadd hx hb dL_178 ?_
  refine hr_eqi (nI_add i 2) ?_
  refine lw_sld hx hb hX hbl hbA hS (i := i + 2) (by omega) hL dL_179 ?_
  refine call2 (B := fun w2 => w2) (va_runV (C := RMO) (As := [.int (xs (i + 1)), .int (xs (i + 2))]) (rest := [.int r1]) ⟨hx, hb, hml, hown, hts⟩ (g_time l dC dI cI cZ cG hM k n tf ff iS sc sn mv sg dn sf s5 pr gd tc wr w2 hMo (xs (i + 1)) (xs (i + 2)) H.size ra.2.1) (hr_cwV 2 hts kw_590 kw_591 kw_592 kw_33 kw_593 (by decide +kernel) (⟨Nat.le_of_ble_eq_true rfl, Nat.le_of_ble_eq_true rfl⟩)) (pre2W hKX hP hD hat2) rfl rfl hl.1 rfl (lv_room (Nat.le_of_ble_eq_true rfl)) dL_180 ⟨Nat.le_of_ble_eq_true rfl, Nat.le_of_ble_eq_true rfl⟩) hP hD hS hA (fun r2 u2 H locs hr2 hP hD hS => ?_)
  obtain ⟨hr2, hMo⟩ := hr2
  refine lv_icmp_eq (tgt := 589) hx hb dL_183 (by decide) (fun _ => ?_) (fun c9 => absurd (by rw [hr1, hr2]) c9)
  exact kont _ _ _ _ _ (⟨_, _, _, _, _, _, _, _, _, _, _, _, _, _, _, _, _, _, hCo, hMo, (ra_time ra (xs (i + 1)) (xs (i + 2))), rs, rr, hdn9⟩) hP hD hS hl
set_option maxHeartbeats 1000000 in
set_option maxRecDepth 100000 in
theorem lw_case2 {p : Program} {e : Env} {s : State} {m : MethodId} {below : List Frame} {meth : Method} {c : Code} {l : Launch} {b L : Nat} {xs : Nat → Int32} {dC : Nat → ClassId} {dI : Nat → Nat → Nat} {cI cZ cG : ClassId} {hC hM i : Nat} {Q : State → Prop} (hLC : LC9 p s m c b L xs dC dI cI cZ cG) (hi : i + 4 ≤ L) (kont : ∀ (w1 w2 : va_W) (H : Heap) (locs : List Loc) (ls : Array Slot), PO9 cI cZ cG hC hM w1 w2 → va_P (dC, dI) vwCl (w1 ++ w2) H → va_D (fun q : Nat => s.heap.size ≤ q) (w1 ++ w2) → va_S (fun q : Nat => s.heap.size ≤ q) s.heap H locs → lv_has ls 4 [(3, .int (nI i)), (2, .ref hM), (1, .ref hC), (0, .ref b)] → W p l e room_1 s m #[Value.ref b] below meth c H locs 51 733 Q (F0 m 589 ls [])) {w1 w2 : va_W} {H : Heap} {locs : List Loc} {ls : Array Slot} (hPO : PO9 cI cZ cG hC hM w1 w2) (hP : va_P (dC, dI) vwCl (w1 ++ w2) H) (hD : va_D (fun q : Nat => s.heap.size ≤ q) (w1 ++ w2)) (hS : va_S (fun q : Nat => s.heap.size ≤ q) s.heap H locs) (hl : lv_has ls 4 [(3, .int (nI i)), (2, .ref hM), (1, .ref hC), (0, .ref b)]) : W p l e room_1 s m #[Value.ref b] below meth c H locs 51 733 Q (F0 m 188 ls []) := by
  obtain ⟨hx, hb, hml, hown, hts, hX, hbl, hL, hKX⟩ := hLC
  have hbA : ¬ (fun q : Nat => s.heap.size ≤ q) b := Nat.not_le.mpr hbl
  have hA : ∀ q : Nat, s.heap.size ≤ q → (fun q : Nat => s.heap.size ≤ q) q := fun _ h => h
  obtain ⟨k, n, tf, ff, sc, mv, s5, zs, sf, sg, pr, vs, tc, dn, wr, iS, sn, gd, hCo, hMo, ra, rs, rr, hdn9⟩ := hPO
  obtain ⟨fs1, hat1⟩ := CObj_at hCo
  obtain ⟨fs2, hat2⟩ := MObj_at hMo
  refine lv_aload_n hx hb dL_188 rfl (lv_at hl 2 rfl) ?_
  refine lv_aload_n hx hb dL_189 rfl (lv_at hl 3 rfl) ?_
  refine lv_iload_n hx hb dL_190 rfl (lv_at hl 0 rfl) ?_
  refine lv_iconst (v := nI 1) hx hb dL_191 (by decide +kernel) ?_
  refine lv_iadd hx hb dL_192 ?_
  refine hr_eqi (nI_add i 1) ?_
  refine lw_sld hx hb hX hbl hbA hS (i := i + 1) (by omega) hL dL_193 ?_
  refine lv_aload_n hx hb dL_194 rfl (lv_at hl 3 rfl) ?_
  refine lv_iload_n hx hb dL_195 rfl (lv_at hl 0 rfl) ?_
  refine lv_iconst (v := nI 2) hx hb dL_196 (by decide +kernel) ?_
  refine lv_iadd hx hb dL_197 ?_
  refine hr_eqi (nI_add i 2) ?_
  refine lw_sld hx hb hX hbl hbA hS (i := i + 2) (by omega) hL dL_198 ?_
  refine call1 (B := fun w2 => w2) (va_runV (C := RSR) (As := [.int (xs (i + 1)), .int (xs (i + 2))]) (rest := []) ⟨hx, hb, hml, hown, hts⟩ (f_join l dC dI cI cZ cG hC k n tf ff sc mv s5 zs sf sg pr vs tc dn wr w1 hCo (xs (i + 1)) (xs (i + 2)) H.size ra.2.1 ra.2.2.2.1) (hr_cwV 2 hts kw_273 kw_274 kw_275 kw_23 kw_276 (by decide +kernel) (⟨Nat.le_of_ble_eq_true rfl, Nat.le_of_ble_eq_true rfl⟩)) (pre1W hKX hP hD hat1) rfl rfl hl.1 rfl (lv_room (Nat.le_of_ble_eq_true rfl)) dL_199 ⟨Nat.le_of_ble_eq_true rfl, Nat.le_of_ble_eq_true rfl⟩) hP hD hS hA (fun r1 u1 H locs hr1 hP hD hS => ?_)
  obtain ⟨hr1, hCo⟩ := hr1
  refine lv_aload_n hx hb dL_202 rfl (lv_at hl 1 rfl) ?_
  refine lv_aload_n hx hb dL_203 rfl (lv_at hl 3 rfl) ?_
  refine lv_iload_n hx hb dL_204 rfl (lv_at hl 0 rfl) ?_
  refine lv_iconst (v := nI 1) hx hb dL_205 (by decide +kernel) ?_
  refine lv_iadd hx hb dL_206 ?_
  refine hr_eqi (nI_add i 1) ?_
  refine lw_sld hx hb hX hbl hbA hS (i := i + 1) (by omega) hL dL_207 ?_
  refine lv_aload_n hx hb dL_208 rfl (lv_at hl 3 rfl) ?_
  refine lv_iload_n hx hb dL_209 rfl (lv_at hl 0 rfl) ?_
  refine lv_iconst (v := nI 2) hx hb dL_210 (by decide +kernel) ?_
  refine lv_iadd hx hb dL_211 ?_
  refine hr_eqi (nI_add i 2) ?_
  refine lw_sld hx hb hX hbl hbA hS (i := i + 2) (by omega) hL dL_212 ?_
  refine call2 (B := fun w2 => w2) (va_runV (C := RMO) (As := [.int (xs (i + 1)), .int (xs (i + 2))]) (rest := [.int r1]) ⟨hx, hb, hml, hown, hts⟩ (g_join l dC dI cI cZ cG hM k n tf ff iS sc sn mv sg dn sf s5 pr gd tc wr w2 hMo (xs (i + 1)) (xs (i + 2)) H.size ra.2.1 ra.2.2.2.1) (hr_cwV 2 hts kw_598 kw_599 kw_600 kw_33 kw_601 (by decide +kernel) (⟨Nat.le_of_ble_eq_true rfl, Nat.le_of_ble_eq_true rfl⟩)) (pre2W hKX hP hD hat2) rfl rfl hl.1 rfl (lv_room (Nat.le_of_ble_eq_true rfl)) dL_213 ⟨Nat.le_of_ble_eq_true rfl, Nat.le_of_ble_eq_true rfl⟩) hP hD hS hA (fun r2 u2 H locs hr2 hP hD hS => ?_)
  obtain ⟨hr2, hMo⟩ := hr2
  refine lv_icmp_eq (tgt := 589) hx hb dL_216 (by decide) (fun _ => ?_) (fun c9 => absurd (by rw [hr1, hr2]) c9)
  exact kont _ _ _ _ _ (⟨_, _, _, _, _, _, _, _, _, _, _, _, _, _, _, _, _, _, hCo, hMo, (ra_join ra (xs (i + 1)) (xs (i + 2))), rs, rr, hdn9⟩) hP hD hS hl
set_option maxHeartbeats 1000000 in
set_option maxRecDepth 100000 in
theorem lw_case3 {p : Program} {e : Env} {s : State} {m : MethodId} {below : List Frame} {meth : Method} {c : Code} {l : Launch} {b L : Nat} {xs : Nat → Int32} {dC : Nat → ClassId} {dI : Nat → Nat → Nat} {cI cZ cG : ClassId} {hC hM i : Nat} {Q : State → Prop} (hLC : LC9 p s m c b L xs dC dI cI cZ cG) (hi : i + 4 ≤ L) (kont : ∀ (w1 w2 : va_W) (H : Heap) (locs : List Loc) (ls : Array Slot), PO9 cI cZ cG hC hM w1 w2 → va_P (dC, dI) vwCl (w1 ++ w2) H → va_D (fun q : Nat => s.heap.size ≤ q) (w1 ++ w2) → va_S (fun q : Nat => s.heap.size ≤ q) s.heap H locs → lv_has ls 4 [(3, .int (nI i)), (2, .ref hM), (1, .ref hC), (0, .ref b)] → W p l e room_1 s m #[Value.ref b] below meth c H locs 51 733 Q (F0 m 589 ls [])) {w1 w2 : va_W} {H : Heap} {locs : List Loc} {ls : Array Slot} (hPO : PO9 cI cZ cG hC hM w1 w2) (hP : va_P (dC, dI) vwCl (w1 ++ w2) H) (hD : va_D (fun q : Nat => s.heap.size ≤ q) (w1 ++ w2)) (hS : va_S (fun q : Nat => s.heap.size ≤ q) s.heap H locs) (hl : lv_has ls 4 [(3, .int (nI i)), (2, .ref hM), (1, .ref hC), (0, .ref b)]) : W p l e room_1 s m #[Value.ref b] below meth c H locs 51 733 Q (F0 m 221 ls []) := by
  obtain ⟨hx, hb, hml, hown, hts, hX, hbl, hL, hKX⟩ := hLC
  have hbA : ¬ (fun q : Nat => s.heap.size ≤ q) b := Nat.not_le.mpr hbl
  have hA : ∀ q : Nat, s.heap.size ≤ q → (fun q : Nat => s.heap.size ≤ q) q := fun _ h => h
  obtain ⟨k, n, tf, ff, sc, mv, s5, zs, sf, sg, pr, vs, tc, dn, wr, iS, sn, gd, hCo, hMo, ra, rs, rr, hdn9⟩ := hPO
  obtain ⟨fs1, hat1⟩ := CObj_at hCo
  obtain ⟨fs2, hat2⟩ := MObj_at hMo
  refine lv_aload_n hx hb dL_221 rfl (lv_at hl 2 rfl) ?_
  refine lv_aload_n hx hb dL_222 rfl (lv_at hl 3 rfl) ?_
  refine lv_iload_n hx hb dL_223 rfl (lv_at hl 0 rfl) ?_
  refine lv_iconst (v := nI 1) hx hb dL_224 (by decide +kernel) ?_
  refine lv_iadd hx hb dL_225 ?_
  refine hr_eqi (nI_add i 1) ?_
  refine lw_sld hx hb hX hbl hbA hS (i := i + 1) (by omega) hL dL_226 ?_
  refine call1 (B := fun w2 => w2) (va_runV (C := RSR) (As := [.int (xs (i + 1))]) (rest := []) ⟨hx, hb, hml, hown, hts⟩ (f_shards l dC dI cI cZ cG hC k n tf ff sc mv s5 zs sf sg pr vs tc dn wr w1 hCo (xs (i + 1)) H.size) (hr_cwV 1 hts kw_283 kw_284 kw_285 kw_23 kw_286 (by decide +kernel) (⟨Nat.le_of_ble_eq_true rfl, Nat.le_of_ble_eq_true rfl⟩)) (pre1W hKX hP hD hat1) rfl rfl hl.1 rfl (lv_room (Nat.le_of_ble_eq_true rfl)) dL_227 ⟨Nat.le_of_ble_eq_true rfl, Nat.le_of_ble_eq_true rfl⟩) hP hD hS hA (fun r1 u1 H locs hr1 hP hD hS => ?_)
  obtain ⟨hr1, hCo⟩ := hr1
  refine lv_aload_n hx hb dL_230 rfl (lv_at hl 1 rfl) ?_
  refine lv_aload_n hx hb dL_231 rfl (lv_at hl 3 rfl) ?_
  refine lv_iload_n hx hb dL_232 rfl (lv_at hl 0 rfl) ?_
  refine lv_iconst (v := nI 1) hx hb dL_233 (by decide +kernel) ?_
  refine lv_iadd hx hb dL_234 ?_
  refine hr_eqi (nI_add i 1) ?_
  refine lw_sld hx hb hX hbl hbA hS (i := i + 1) (by omega) hL dL_235 ?_
  refine call2 (B := fun w2 => w2) (va_runV (C := RMO) (As := [.int (xs (i + 1))]) (rest := [.int r1]) ⟨hx, hb, hml, hown, hts⟩ (g_shards l dC dI cI cZ cG hM k n tf ff iS sc sn mv sg dn sf s5 pr gd tc wr w2 hMo (xs (i + 1)) H.size) (hr_cwV 1 hts kw_602 kw_603 kw_604 kw_33 kw_605 (by decide +kernel) (⟨Nat.le_of_ble_eq_true rfl, Nat.le_of_ble_eq_true rfl⟩)) (pre2W hKX hP hD hat2) rfl rfl hl.1 rfl (lv_room (Nat.le_of_ble_eq_true rfl)) dL_236 ⟨Nat.le_of_ble_eq_true rfl, Nat.le_of_ble_eq_true rfl⟩) hP hD hS hA (fun r2 u2 H locs hr2 hP hD hS => ?_)
  obtain ⟨hr2, hMo⟩ := hr2
  refine lv_icmp_eq (tgt := 589) hx hb dL_239 (by decide) (fun _ => ?_) (fun c9 => absurd (by rw [hr1, hr2]) c9)
  exact kont _ _ _ _ _ (⟨_, _, _, _, _, _, _, _, _, _, _, _, _, _, _, _, _, _, hCo, hMo, (ra_shards ra (xs (i + 1))), rs, rr, hdn9⟩) hP hD hS hl
set_option maxHeartbeats 1000000 in
set_option maxRecDepth 100000 in
theorem lw_case4 {p : Program} {e : Env} {s : State} {m : MethodId} {below : List Frame} {meth : Method} {c : Code} {l : Launch} {b L : Nat} {xs : Nat → Int32} {dC : Nat → ClassId} {dI : Nat → Nat → Nat} {cI cZ cG : ClassId} {hC hM i : Nat} {Q : State → Prop} (hLC : LC9 p s m c b L xs dC dI cI cZ cG) (hi : i + 4 ≤ L) (kont : ∀ (w1 w2 : va_W) (H : Heap) (locs : List Loc) (ls : Array Slot), PO9 cI cZ cG hC hM w1 w2 → va_P (dC, dI) vwCl (w1 ++ w2) H → va_D (fun q : Nat => s.heap.size ≤ q) (w1 ++ w2) → va_S (fun q : Nat => s.heap.size ≤ q) s.heap H locs → lv_has ls 4 [(3, .int (nI i)), (2, .ref hM), (1, .ref hC), (0, .ref b)] → W p l e room_1 s m #[Value.ref b] below meth c H locs 51 733 Q (F0 m 589 ls [])) {w1 w2 : va_W} {H : Heap} {locs : List Loc} {ls : Array Slot} (hPO : PO9 cI cZ cG hC hM w1 w2) (hP : va_P (dC, dI) vwCl (w1 ++ w2) H) (hD : va_D (fun q : Nat => s.heap.size ≤ q) (w1 ++ w2)) (hS : va_S (fun q : Nat => s.heap.size ≤ q) s.heap H locs) (hl : lv_has ls 4 [(3, .int (nI i)), (2, .ref hM), (1, .ref hC), (0, .ref b)]) : W p l e room_1 s m #[Value.ref b] below meth c H locs 51 733 Q (F0 m 244 ls []) := by
  obtain ⟨hx, hb, hml, hown, hts, hX, hbl, hL, hKX⟩ := hLC
  have hbA : ¬ (fun q : Nat => s.heap.size ≤ q) b := Nat.not_le.mpr hbl
  have hA : ∀ q : Nat, s.heap.size ≤ q → (fun q : Nat => s.heap.size ≤ q) q := fun _ h => h
  obtain ⟨k, n, tf, ff, sc, mv, s5, zs, sf, sg, pr, vs, tc, dn, wr, iS, sn, gd, hCo, hMo, ra, rs, rr, hdn9⟩ := hPO
  obtain ⟨fs1, hat1⟩ := CObj_at hCo
  obtain ⟨fs2, hat2⟩ := MObj_at hMo
  refine lv_aload_n hx hb dL_244 rfl (lv_at hl 2 rfl) ?_
  refine vp_callSi (va_runV (C := RSR) (As := []) (rest := []) ⟨hx, hb, hml, hown, hts⟩ (f_mean l dC dI cI cZ cG hC k n tf ff sc mv s5 zs sf sg pr vs tc dn wr w1 hCo  ra.2.1 ra.2.2.1) (hr_cwV 0 hts kw_287 kw_288 kw_289 kw_23 kw_290 (by decide +kernel) (⟨Nat.le_of_ble_eq_true rfl, Nat.le_of_ble_eq_true rfl⟩)) (pre1R hKX hP hat1) rfl rfl hl.1 rfl (lv_room (Nat.le_of_ble_eq_true rfl)) dL_245 ⟨Nat.le_of_ble_eq_true rfl, Nat.le_of_ble_eq_true rfl⟩).run (fun r1 hr1 => ?_)
  refine lv_aload_n hx hb dL_248 rfl (lv_at hl 1 rfl) ?_
  refine call2 (B := fun w2 => w2) (va_runV (C := RMO) (As := []) (rest := [.int r1]) ⟨hx, hb, hml, hown, hts⟩ (g_mean l dC dI cI cZ cG hM k n tf ff iS sc sn mv sg dn sf s5 pr gd tc wr w2 hMo  H.size ra.2.1 ra.2.2.1) (hr_cwV 0 hts kw_606 kw_607 kw_608 kw_33 kw_609 (by decide +kernel) (⟨Nat.le_of_ble_eq_true rfl, Nat.le_of_ble_eq_true rfl⟩)) (pre2W hKX hP hD hat2) rfl rfl hl.1 rfl (lv_room (Nat.le_of_ble_eq_true rfl)) dL_249 ⟨Nat.le_of_ble_eq_true rfl, Nat.le_of_ble_eq_true rfl⟩) hP hD hS hA (fun r2 u2 H locs hr2 hP hD hS => ?_)
  obtain ⟨hr2, hMo⟩ := hr2
  refine lv_icmp_eq (tgt := 589) hx hb dL_252 (by decide) (fun _ => ?_) (fun c9 => absurd (by rw [hr1, hr2]) c9)
  exact kont _ _ _ _ _ (⟨_, _, _, _, _, _, _, _, _, _, _, _, _, _, _, _, _, _, hCo, hMo, ra, rs, rr, hdn9⟩) hP hD hS hl
set_option maxHeartbeats 1000000 in
set_option maxRecDepth 100000 in
theorem lw_case5 {p : Program} {e : Env} {s : State} {m : MethodId} {below : List Frame} {meth : Method} {c : Code} {l : Launch} {b L : Nat} {xs : Nat → Int32} {dC : Nat → ClassId} {dI : Nat → Nat → Nat} {cI cZ cG : ClassId} {hC hM i : Nat} {Q : State → Prop} (hLC : LC9 p s m c b L xs dC dI cI cZ cG) (hi : i + 4 ≤ L) (kont : ∀ (w1 w2 : va_W) (H : Heap) (locs : List Loc) (ls : Array Slot), PO9 cI cZ cG hC hM w1 w2 → va_P (dC, dI) vwCl (w1 ++ w2) H → va_D (fun q : Nat => s.heap.size ≤ q) (w1 ++ w2) → va_S (fun q : Nat => s.heap.size ≤ q) s.heap H locs → lv_has ls 4 [(3, .int (nI i)), (2, .ref hM), (1, .ref hC), (0, .ref b)] → W p l e room_1 s m #[Value.ref b] below meth c H locs 51 733 Q (F0 m 589 ls [])) {w1 w2 : va_W} {H : Heap} {locs : List Loc} {ls : Array Slot} (hPO : PO9 cI cZ cG hC hM w1 w2) (hP : va_P (dC, dI) vwCl (w1 ++ w2) H) (hD : va_D (fun q : Nat => s.heap.size ≤ q) (w1 ++ w2)) (hS : va_S (fun q : Nat => s.heap.size ≤ q) s.heap H locs) (hl : lv_has ls 4 [(3, .int (nI i)), (2, .ref hM), (1, .ref hC), (0, .ref b)]) : W p l e room_1 s m #[Value.ref b] below meth c H locs 51 733 Q (F0 m 257 ls []) := by
  obtain ⟨hx, hb, hml, hown, hts, hX, hbl, hL, hKX⟩ := hLC
  have hbA : ¬ (fun q : Nat => s.heap.size ≤ q) b := Nat.not_le.mpr hbl
  have hA : ∀ q : Nat, s.heap.size ≤ q → (fun q : Nat => s.heap.size ≤ q) q := fun _ h => h
  obtain ⟨k, n, tf, ff, sc, mv, s5, zs, sf, sg, pr, vs, tc, dn, wr, iS, sn, gd, hCo, hMo, ra, rs, rr, hdn9⟩ := hPO
  obtain ⟨fs1, hat1⟩ := CObj_at hCo
  obtain ⟨fs2, hat2⟩ := MObj_at hMo
  refine lv_aload_n hx hb dL_257 rfl (lv_at hl 2 rfl) ?_
  refine vp_callSi (va_runV (C := RSR) (As := []) (rest := []) ⟨hx, hb, hml, hown, hts⟩ (f_groups l dC dI cI cZ cG hC k n tf ff sc mv s5 zs sf sg pr vs tc dn wr w1 hCo  ra.2.1 ra.2.2.2.1) (hr_cwV 0 hts kw_295 kw_296 kw_297 kw_23 kw_298 (by decide +kernel) (⟨Nat.le_of_ble_eq_true rfl, Nat.le_of_ble_eq_true rfl⟩)) (pre1R hKX hP hat1) rfl rfl hl.1 rfl (lv_room (Nat.le_of_ble_eq_true rfl)) dL_258 ⟨Nat.le_of_ble_eq_true rfl, Nat.le_of_ble_eq_true rfl⟩).run (fun r1 hr1 => ?_)
  refine lv_aload_n hx hb dL_261 rfl (lv_at hl 1 rfl) ?_
  refine call2 (B := fun w2 => w2) (va_runV (C := RMO) (As := []) (rest := [.int r1]) ⟨hx, hb, hml, hown, hts⟩ (g_groups l dC dI cI cZ cG hM k n tf ff iS sc sn mv sg dn sf s5 pr gd tc wr w2 hMo  H.size ra.2.1 ra.2.2.2.1) (hr_cwV 0 hts kw_610 kw_611 kw_612 kw_33 kw_613 (by decide +kernel) (⟨Nat.le_of_ble_eq_true rfl, Nat.le_of_ble_eq_true rfl⟩)) (pre2W hKX hP hD hat2) rfl rfl hl.1 rfl (lv_room (Nat.le_of_ble_eq_true rfl)) dL_262 ⟨Nat.le_of_ble_eq_true rfl, Nat.le_of_ble_eq_true rfl⟩) hP hD hS hA (fun r2 u2 H locs hr2 hP hD hS => ?_)
  obtain ⟨hr2, hMo⟩ := hr2
  refine lv_icmp_eq (tgt := 589) hx hb dL_265 (by decide) (fun _ => ?_) (fun c9 => absurd (by rw [hr1, hr2]) c9)
  exact kont _ _ _ _ _ (⟨_, _, _, _, _, _, _, _, _, _, _, _, _, _, _, _, _, _, hCo, hMo, ra, rs, rr, hdn9⟩) hP hD hS hl
set_option maxHeartbeats 1000000 in
set_option maxRecDepth 100000 in
theorem lw_case6 {p : Program} {e : Env} {s : State} {m : MethodId} {below : List Frame} {meth : Method} {c : Code} {l : Launch} {b L : Nat} {xs : Nat → Int32} {dC : Nat → ClassId} {dI : Nat → Nat → Nat} {cI cZ cG : ClassId} {hC hM i : Nat} {Q : State → Prop} (hLC : LC9 p s m c b L xs dC dI cI cZ cG) (hi : i + 4 ≤ L) (kont : ∀ (w1 w2 : va_W) (H : Heap) (locs : List Loc) (ls : Array Slot), PO9 cI cZ cG hC hM w1 w2 → va_P (dC, dI) vwCl (w1 ++ w2) H → va_D (fun q : Nat => s.heap.size ≤ q) (w1 ++ w2) → va_S (fun q : Nat => s.heap.size ≤ q) s.heap H locs → lv_has ls 4 [(3, .int (nI i)), (2, .ref hM), (1, .ref hC), (0, .ref b)] → W p l e room_1 s m #[Value.ref b] below meth c H locs 51 733 Q (F0 m 589 ls [])) {w1 w2 : va_W} {H : Heap} {locs : List Loc} {ls : Array Slot} (hPO : PO9 cI cZ cG hC hM w1 w2) (hP : va_P (dC, dI) vwCl (w1 ++ w2) H) (hD : va_D (fun q : Nat => s.heap.size ≤ q) (w1 ++ w2)) (hS : va_S (fun q : Nat => s.heap.size ≤ q) s.heap H locs) (hl : lv_has ls 4 [(3, .int (nI i)), (2, .ref hM), (1, .ref hC), (0, .ref b)]) : W p l e room_1 s m #[Value.ref b] below meth c H locs 51 733 Q (F0 m 270 ls []) := by
  obtain ⟨hx, hb, hml, hown, hts, hX, hbl, hL, hKX⟩ := hLC
  have hbA : ¬ (fun q : Nat => s.heap.size ≤ q) b := Nat.not_le.mpr hbl
  have hA : ∀ q : Nat, s.heap.size ≤ q → (fun q : Nat => s.heap.size ≤ q) q := fun _ h => h
  obtain ⟨k, n, tf, ff, sc, mv, s5, zs, sf, sg, pr, vs, tc, dn, wr, iS, sn, gd, hCo, hMo, ra, rs, rr, hdn9⟩ := hPO
  obtain ⟨K, rfl⟩ : ∃ K, k = K + 1 := ⟨k - 1, by have := ra.1; omega⟩
  have hK3 : K ≤ 3 := by have := ra.1; omega
  obtain ⟨fs1, hat1⟩ := CObj_at hCo
  obtain ⟨fs2, hat2⟩ := MObj_at hMo
  refine lv_aload_n hx hb dL_270 rfl (lv_at hl 2 rfl) ?_
  refine call1 (B := fun w2 : (Nat → Nat) × (Nat → Nat) × (Nat → Nat) × (Nat → Nat) × va_W => w2.2.2.2.2) (va_runV (C := RSR) (As := []) (rest := []) ⟨hx, hb, hml, hown, hts⟩ (f_split l dC dI cI cZ cG hC K n tf ff sc mv s5 zs sf sg pr vs tc dn wr w1 hCo  H.size ra.2.1 ra.2.2.1 ra.2.2.2.1 ra.2.2.2.2 hK3 (rs_sf rs)) (hr_cwV 0 hts kw_303 kw_304 kw_305 kw_23 kw_306 (by decide +kernel) (⟨Nat.le_of_ble_eq_true rfl, Nat.le_of_ble_eq_true rfl⟩)) (pre1W hKX hP hD hat1) rfl rfl hl.1 rfl (lv_room (Nat.le_of_ble_eq_true rfl)) dL_271 ⟨Nat.le_of_ble_eq_true rfl, Nat.le_of_ble_eq_true rfl⟩) hP hD hS hA (fun r1 u1 H locs hr1 hP hD hS => ?_)
  obtain ⟨sh, vF, vT, vO, w1⟩ := u1
  obtain ⟨hr1, ⟨v9, hg⟩, hlt, hex, hgr, hCo⟩ := hr1
  have hP : va_P (dC, dI) vwCl (w1 ++ w2) H := hP
  have hD : va_D (fun q : Nat => s.heap.size ≤ q) (w1 ++ w2) := hD
  refine lv_aload_n hx hb dL_274 rfl (lv_at hl 1 rfl) ?_
  refine call2 (B := fun w2 : (Nat → Nat) × (Nat → Nat) × (Nat → Nat) × va_W => w2.2.2.2) (va_runV (C := RMO) (As := []) (rest := [.int r1]) ⟨hx, hb, hml, hown, hts⟩ (g_split l dC dI cI cZ cG hM (K + 1) n tf ff iS sc sn mv sg dn sf s5 pr gd tc wr w2 hMo  H.size ra.2.1 ra.2.2.1 ra.2.2.2.1 ra.2.2.2.2 ra.1 (rs_sf rs)) (hr_cwV 0 hts kw_614 kw_615 kw_616 kw_33 kw_617 (by decide +kernel) (⟨Nat.le_of_ble_eq_true rfl, Nat.le_of_ble_eq_true rfl⟩)) (pre2W hKX hP hD hat2) rfl rfl hl.1 rfl (lv_room (Nat.le_of_ble_eq_true rfl)) dL_275 ⟨Nat.le_of_ble_eq_true rfl, Nat.le_of_ble_eq_true rfl⟩) hP hD hS hA (fun r2 u2 H locs hr2 hP hD hS => ?_)
  obtain ⟨uF, uT, vw, w2⟩ := u2
  obtain ⟨hr2, hm, hexM, hgrM, hMo⟩ := hr2
  dsimp only at hr1 hg hlt hex hgr hCo hr2 hm hexM hgrM hMo hP hD
  obtain ⟨e1, e2, e3, e4, e5⟩ := split_alike ra.2.2.2.1 ra.2.2.2.2 hK3 hg hlt hex hgr hm hexM hgrM
  rw [e1, e3, e4] at hMo
  refine lv_icmp_eq (tgt := 589) hx hb dL_278 (by decide) (fun _ => ?_) (fun c9 => absurd (by rw [hr1, hr2, e2]) c9)
  exact kont _ _ _ _ _ (⟨_, _, _, _, _, _, _, _, _, _, _, _, _, _, _, _, _, _, hCo, hMo, ra, (rs_split rs ra.2.1 hK3 e5), (rr_split rr), hdn9⟩) hP hD hS hl
set_option maxHeartbeats 1000000 in
set_option maxRecDepth 100000 in
theorem lw_case7 {p : Program} {e : Env} {s : State} {m : MethodId} {below : List Frame} {meth : Method} {c : Code} {l : Launch} {b L : Nat} {xs : Nat → Int32} {dC : Nat → ClassId} {dI : Nat → Nat → Nat} {cI cZ cG : ClassId} {hC hM i : Nat} {Q : State → Prop} (hLC : LC9 p s m c b L xs dC dI cI cZ cG) (hi : i + 4 ≤ L) (kont : ∀ (w1 w2 : va_W) (H : Heap) (locs : List Loc) (ls : Array Slot), PO9 cI cZ cG hC hM w1 w2 → va_P (dC, dI) vwCl (w1 ++ w2) H → va_D (fun q : Nat => s.heap.size ≤ q) (w1 ++ w2) → va_S (fun q : Nat => s.heap.size ≤ q) s.heap H locs → lv_has ls 4 [(3, .int (nI i)), (2, .ref hM), (1, .ref hC), (0, .ref b)] → W p l e room_1 s m #[Value.ref b] below meth c H locs 51 733 Q (F0 m 589 ls [])) {w1 w2 : va_W} {H : Heap} {locs : List Loc} {ls : Array Slot} (hPO : PO9 cI cZ cG hC hM w1 w2) (hP : va_P (dC, dI) vwCl (w1 ++ w2) H) (hD : va_D (fun q : Nat => s.heap.size ≤ q) (w1 ++ w2)) (hS : va_S (fun q : Nat => s.heap.size ≤ q) s.heap H locs) (hl : lv_has ls 4 [(3, .int (nI i)), (2, .ref hM), (1, .ref hC), (0, .ref b)]) : W p l e room_1 s m #[Value.ref b] below meth c H locs 51 733 Q (F0 m 283 ls []) := by
  obtain ⟨hx, hb, hml, hown, hts, hX, hbl, hL, hKX⟩ := hLC
  have hbA : ¬ (fun q : Nat => s.heap.size ≤ q) b := Nat.not_le.mpr hbl
  have hA : ∀ q : Nat, s.heap.size ≤ q → (fun q : Nat => s.heap.size ≤ q) q := fun _ h => h
  obtain ⟨k, n, tf, ff, sc, mv, s5, zs, sf, sg, pr, vs, tc, dn, wr, iS, sn, gd, hCo, hMo, ra, rs, rr, hdn9⟩ := hPO
  obtain ⟨fs1, hat1⟩ := CObj_at hCo
  obtain ⟨fs2, hat2⟩ := MObj_at hMo
  refine lv_aload_n hx hb dL_283 rfl (lv_at hl 2 rfl) ?_
  refine lv_aload_n hx hb dL_284 rfl (lv_at hl 3 rfl) ?_
  refine lv_iload_n hx hb dL_285 rfl (lv_at hl 0 rfl) ?_
  refine lv_iconst (v := nI 1) hx hb dL_286 (by decide +kernel) ?_
  refine lv_iadd hx hb dL_287 ?_
  refine hr_eqi (nI_add i 1) ?_
  refine lw_sld hx hb hX hbl hbA hS (i := i + 1) (by omega) hL dL_288 ?_
  refine vp_callSi (va_runV (C := RSR) (As := [.int (xs (i + 1))]) (rest := []) ⟨hx, hb, hml, hown, hts⟩ (f_shard l dC dI cI cZ cG hC k n tf ff sc mv s5 zs sf sg pr vs tc dn wr w1 hCo (xs (i + 1))) (hr_cwV 1 hts kw_404 kw_405 kw_406 kw_23 kw_407 (by decide +kernel) (⟨Nat.le_of_ble_eq_true rfl, Nat.le_of_ble_eq_true rfl⟩)) (pre1R hKX hP hat1) rfl rfl hl.1 rfl (lv_room (Nat.le_of_ble_eq_true rfl)) dL_289 ⟨Nat.le_of_ble_eq_true rfl, Nat.le_of_ble_eq_true rfl⟩).run (fun r1 hr1 => ?_)
  refine lv_aload_n hx hb dL_292 rfl (lv_at hl 1 rfl) ?_
  refine lv_aload_n hx hb dL_293 rfl (lv_at hl 3 rfl) ?_
  refine lv_iload_n hx hb dL_294 rfl (lv_at hl 0 rfl) ?_
  refine lv_iconst (v := nI 1) hx hb dL_295 (by decide +kernel) ?_
  refine lv_iadd hx hb dL_296 ?_
  refine hr_eqi (nI_add i 1) ?_
  refine lw_sld hx hb hX hbl hbA hS (i := i + 1) (by omega) hL dL_297 ?_
  refine call2 (B := fun w2 => w2) (va_runV (C := RMO) (As := [.int (xs (i + 1))]) (rest := [.int r1]) ⟨hx, hb, hml, hown, hts⟩ (g_shard l dC dI cI cZ cG hM k n tf ff iS sc sn mv sg dn sf s5 pr gd tc wr w2 hMo (xs (i + 1)) H.size rs.2.2.1 rs.1 (Nat.le_trans rs.2.1 ra.2.1)) (hr_cwV 1 hts kw_647 kw_648 kw_649 kw_33 kw_650 (by decide +kernel) (⟨Nat.le_of_ble_eq_true rfl, Nat.le_of_ble_eq_true rfl⟩)) (pre2W hKX hP hD hat2) rfl rfl hl.1 rfl (lv_room (Nat.le_of_ble_eq_true rfl)) dL_298 ⟨Nat.le_of_ble_eq_true rfl, Nat.le_of_ble_eq_true rfl⟩) hP hD hS hA (fun r2 u2 H locs hr2 hP hD hS => ?_)
  obtain ⟨hr2, hMo⟩ := hr2
  refine lv_icmp_eq (tgt := 589) hx hb dL_301 (by decide) (fun _ => ?_) (fun c9 => absurd (by rw [hr1, hr2, rs_shard rs ra.2.1]) c9)
  exact kont _ _ _ _ _ (⟨_, _, _, _, _, _, _, _, _, _, _, _, _, _, _, _, _, _, hCo, hMo, ra, rs, rr, hdn9⟩) hP hD hS hl
set_option maxHeartbeats 1000000 in
set_option maxRecDepth 100000 in
theorem lw_case8 {p : Program} {e : Env} {s : State} {m : MethodId} {below : List Frame} {meth : Method} {c : Code} {l : Launch} {b L : Nat} {xs : Nat → Int32} {dC : Nat → ClassId} {dI : Nat → Nat → Nat} {cI cZ cG : ClassId} {hC hM i : Nat} {Q : State → Prop} (hLC : LC9 p s m c b L xs dC dI cI cZ cG) (hi : i + 4 ≤ L) (kont : ∀ (w1 w2 : va_W) (H : Heap) (locs : List Loc) (ls : Array Slot), PO9 cI cZ cG hC hM w1 w2 → va_P (dC, dI) vwCl (w1 ++ w2) H → va_D (fun q : Nat => s.heap.size ≤ q) (w1 ++ w2) → va_S (fun q : Nat => s.heap.size ≤ q) s.heap H locs → lv_has ls 4 [(3, .int (nI i)), (2, .ref hM), (1, .ref hC), (0, .ref b)] → W p l e room_1 s m #[Value.ref b] below meth c H locs 51 733 Q (F0 m 589 ls [])) {w1 w2 : va_W} {H : Heap} {locs : List Loc} {ls : Array Slot} (hPO : PO9 cI cZ cG hC hM w1 w2) (hP : va_P (dC, dI) vwCl (w1 ++ w2) H) (hD : va_D (fun q : Nat => s.heap.size ≤ q) (w1 ++ w2)) (hS : va_S (fun q : Nat => s.heap.size ≤ q) s.heap H locs) (hl : lv_has ls 4 [(3, .int (nI i)), (2, .ref hM), (1, .ref hC), (0, .ref b)]) : W p l e room_1 s m #[Value.ref b] below meth c H locs 51 733 Q (F0 m 306 ls []) := by
  obtain ⟨hx, hb, hml, hown, hts, hX, hbl, hL, hKX⟩ := hLC
  have hbA : ¬ (fun q : Nat => s.heap.size ≤ q) b := Nat.not_le.mpr hbl
  have hA : ∀ q : Nat, s.heap.size ≤ q → (fun q : Nat => s.heap.size ≤ q) q := fun _ h => h
  obtain ⟨k, n, tf, ff, sc, mv, s5, zs, sf, sg, pr, vs, tc, dn, wr, iS, sn, gd, hCo, hMo, ra, rs, rr, hdn9⟩ := hPO
  obtain ⟨fs1, hat1⟩ := CObj_at hCo
  obtain ⟨fs2, hat2⟩ := MObj_at hMo
  refine lv_aload_n hx hb dL_306 rfl (lv_at hl 2 rfl) ?_
  refine lv_aload_n hx hb dL_307 rfl (lv_at hl 3 rfl) ?_
  refine lv_iload_n hx hb dL_308 rfl (lv_at hl 0 rfl) ?_
  refine lv_iconst (v := nI 1) hx hb dL_309 (by decide +kernel) ?_
  refine lv_iadd hx hb dL_310 ?_
  refine hr_eqi (nI_add i 1) ?_
  refine lw_sld hx hb hX hbl hbA hS (i := i + 1) (by omega) hL dL_311 ?_
  refine vp_callSi (va_runV (C := RSR) (As := [.int (xs (i + 1))]) (rest := []) ⟨hx, hb, hml, hown, hts⟩ (f_sum l dC dI cI cZ cG hC k n tf ff sc mv s5 zs sf sg pr vs tc dn wr w1 hCo (xs (i + 1)) rs.1) (hr_cwV 1 hts kw_409 kw_410 kw_411 kw_23 kw_412 (by decide +kernel) (⟨Nat.le_of_ble_eq_true rfl, Nat.le_of_ble_eq_true rfl⟩)) (pre1R hKX hP hat1) rfl rfl hl.1 rfl (lv_room (Nat.le_of_ble_eq_true rfl)) dL_312 ⟨Nat.le_of_ble_eq_true rfl, Nat.le_of_ble_eq_true rfl⟩).run (fun r1 hr1 => ?_)
  refine lv_aload_n hx hb dL_315 rfl (lv_at hl 1 rfl) ?_
  refine lv_aload_n hx hb dL_316 rfl (lv_at hl 3 rfl) ?_
  refine lv_iload_n hx hb dL_317 rfl (lv_at hl 0 rfl) ?_
  refine lv_iconst (v := nI 1) hx hb dL_318 (by decide +kernel) ?_
  refine lv_iadd hx hb dL_319 ?_
  refine hr_eqi (nI_add i 1) ?_
  refine lw_sld hx hb hX hbl hbA hS (i := i + 1) (by omega) hL dL_320 ?_
  refine call2 (B := fun w2 => w2) (va_runV (C := RMO) (As := [.int (xs (i + 1))]) (rest := [.int r1]) ⟨hx, hb, hml, hown, hts⟩ (g_sum l dC dI cI cZ cG hM k n tf ff iS sc sn mv sg dn sf s5 pr gd tc wr w2 hMo (xs (i + 1)) H.size rs.2.2.1 rs.1 (Nat.le_trans rs.2.1 ra.2.1)) (hr_cwV 1 hts kw_655 kw_656 kw_657 kw_33 kw_658 (by decide +kernel) (⟨Nat.le_of_ble_eq_true rfl, Nat.le_of_ble_eq_true rfl⟩)) (pre2W hKX hP hD hat2) rfl rfl hl.1 rfl (lv_room (Nat.le_of_ble_eq_true rfl)) dL_321 ⟨Nat.le_of_ble_eq_true rfl, Nat.le_of_ble_eq_true rfl⟩) hP hD hS hA (fun r2 u2 H locs hr2 hP hD hS => ?_)
  obtain ⟨hr2, hMo⟩ := hr2
  refine lv_icmp_eq (tgt := 589) hx hb dL_324 (by decide) (fun _ => ?_) (fun c9 => absurd (by rw [hr1, hr2]) c9)
  exact kont _ _ _ _ _ (⟨_, _, _, _, _, _, _, _, _, _, _, _, _, _, _, _, _, _, hCo, hMo, ra, rs, rr, hdn9⟩) hP hD hS hl
set_option maxHeartbeats 1000000 in
set_option maxRecDepth 100000 in
theorem lw_case9 {p : Program} {e : Env} {s : State} {m : MethodId} {below : List Frame} {meth : Method} {c : Code} {l : Launch} {b L : Nat} {xs : Nat → Int32} {dC : Nat → ClassId} {dI : Nat → Nat → Nat} {cI cZ cG : ClassId} {hC hM i : Nat} {Q : State → Prop} (hLC : LC9 p s m c b L xs dC dI cI cZ cG) (hi : i + 4 ≤ L) (kont : ∀ (w1 w2 : va_W) (H : Heap) (locs : List Loc) (ls : Array Slot), PO9 cI cZ cG hC hM w1 w2 → va_P (dC, dI) vwCl (w1 ++ w2) H → va_D (fun q : Nat => s.heap.size ≤ q) (w1 ++ w2) → va_S (fun q : Nat => s.heap.size ≤ q) s.heap H locs → lv_has ls 4 [(3, .int (nI i)), (2, .ref hM), (1, .ref hC), (0, .ref b)] → W p l e room_1 s m #[Value.ref b] below meth c H locs 51 733 Q (F0 m 589 ls [])) {w1 w2 : va_W} {H : Heap} {locs : List Loc} {ls : Array Slot} (hPO : PO9 cI cZ cG hC hM w1 w2) (hP : va_P (dC, dI) vwCl (w1 ++ w2) H) (hD : va_D (fun q : Nat => s.heap.size ≤ q) (w1 ++ w2)) (hS : va_S (fun q : Nat => s.heap.size ≤ q) s.heap H locs) (hl : lv_has ls 4 [(3, .int (nI i)), (2, .ref hM), (1, .ref hC), (0, .ref b)]) : W p l e room_1 s m #[Value.ref b] below meth c H locs 51 733 Q (F0 m 329 ls []) := by
  obtain ⟨hx, hb, hml, hown, hts, hX, hbl, hL, hKX⟩ := hLC
  have hbA : ¬ (fun q : Nat => s.heap.size ≤ q) b := Nat.not_le.mpr hbl
  have hA : ∀ q : Nat, s.heap.size ≤ q → (fun q : Nat => s.heap.size ≤ q) q := fun _ h => h
  obtain ⟨k, n, tf, ff, sc, mv, s5, zs, sf, sg, pr, vs, tc, dn, wr, iS, sn, gd, hCo, hMo, ra, rs, rr, hdn9⟩ := hPO
  obtain ⟨fs1, hat1⟩ := CObj_at hCo
  obtain ⟨fs2, hat2⟩ := MObj_at hMo
  refine lv_aload_n hx hb dL_329 rfl (lv_at hl 2 rfl) ?_
  refine vp_callSi (va_runV (C := RSR) (As := []) (rest := []) ⟨hx, hb, hml, hown, hts⟩ (f_moved l dC dI cI cZ cG hC k n tf ff sc mv s5 zs sf sg pr vs tc dn wr w1 hCo ) (hr_cwV 0 hts kw_414 kw_415 kw_416 kw_23 kw_417 (by decide +kernel) (⟨Nat.le_of_ble_eq_true rfl, Nat.le_of_ble_eq_true rfl⟩)) (pre1R hKX hP hat1) rfl rfl hl.1 rfl (lv_room (Nat.le_of_ble_eq_true rfl)) dL_330 ⟨Nat.le_of_ble_eq_true rfl, Nat.le_of_ble_eq_true rfl⟩).run (fun r1 hr1 => ?_)
  refine lv_aload_n hx hb dL_333 rfl (lv_at hl 1 rfl) ?_
  refine call2 (B := fun w2 => w2) (va_runV (C := RMO) (As := []) (rest := [.int r1]) ⟨hx, hb, hml, hown, hts⟩ (g_moved l dC dI cI cZ cG hM k n tf ff iS sc sn mv sg dn sf s5 pr gd tc wr w2 hMo  H.size) (hr_cwV 0 hts kw_663 kw_664 kw_665 kw_33 kw_666 (by decide +kernel) (⟨Nat.le_of_ble_eq_true rfl, Nat.le_of_ble_eq_true rfl⟩)) (pre2W hKX hP hD hat2) rfl rfl hl.1 rfl (lv_room (Nat.le_of_ble_eq_true rfl)) dL_334 ⟨Nat.le_of_ble_eq_true rfl, Nat.le_of_ble_eq_true rfl⟩) hP hD hS hA (fun r2 u2 H locs hr2 hP hD hS => ?_)
  obtain ⟨hr2, hMo⟩ := hr2
  refine lv_icmp_eq (tgt := 589) hx hb dL_337 (by decide) (fun _ => ?_) (fun c9 => absurd (by rw [hr1, hr2]) c9)
  exact kont _ _ _ _ _ (⟨_, _, _, _, _, _, _, _, _, _, _, _, _, _, _, _, _, _, hCo, hMo, ra, rs, rr, hdn9⟩) hP hD hS hl
set_option maxHeartbeats 1000000 in
set_option maxRecDepth 100000 in
theorem lw_case10 {p : Program} {e : Env} {s : State} {m : MethodId} {below : List Frame} {meth : Method} {c : Code} {l : Launch} {b L : Nat} {xs : Nat → Int32} {dC : Nat → ClassId} {dI : Nat → Nat → Nat} {cI cZ cG : ClassId} {hC hM i : Nat} {Q : State → Prop} (hLC : LC9 p s m c b L xs dC dI cI cZ cG) (hi : i + 4 ≤ L) (kont : ∀ (w1 w2 : va_W) (H : Heap) (locs : List Loc) (ls : Array Slot), PO9 cI cZ cG hC hM w1 w2 → va_P (dC, dI) vwCl (w1 ++ w2) H → va_D (fun q : Nat => s.heap.size ≤ q) (w1 ++ w2) → va_S (fun q : Nat => s.heap.size ≤ q) s.heap H locs → lv_has ls 4 [(3, .int (nI i)), (2, .ref hM), (1, .ref hC), (0, .ref b)] → W p l e room_1 s m #[Value.ref b] below meth c H locs 51 733 Q (F0 m 589 ls [])) {w1 w2 : va_W} {H : Heap} {locs : List Loc} {ls : Array Slot} (hPO : PO9 cI cZ cG hC hM w1 w2) (hP : va_P (dC, dI) vwCl (w1 ++ w2) H) (hD : va_D (fun q : Nat => s.heap.size ≤ q) (w1 ++ w2)) (hS : va_S (fun q : Nat => s.heap.size ≤ q) s.heap H locs) (hl : lv_has ls 4 [(3, .int (nI i)), (2, .ref hM), (1, .ref hC), (0, .ref b)]) : W p l e room_1 s m #[Value.ref b] below meth c H locs 51 733 Q (F0 m 342 ls []) := by
  obtain ⟨hx, hb, hml, hown, hts, hX, hbl, hL, hKX⟩ := hLC
  have hbA : ¬ (fun q : Nat => s.heap.size ≤ q) b := Nat.not_le.mpr hbl
  have hA : ∀ q : Nat, s.heap.size ≤ q → (fun q : Nat => s.heap.size ≤ q) q := fun _ h => h
  obtain ⟨k, n, tf, ff, sc, mv, s5, zs, sf, sg, pr, vs, tc, dn, wr, iS, sn, gd, hCo, hMo, ra, rs, rr, hdn9⟩ := hPO
  obtain ⟨fs1, hat1⟩ := CObj_at hCo
  obtain ⟨fs2, hat2⟩ := MObj_at hMo
  refine lv_aload_n hx hb dL_342 rfl (lv_at hl 2 rfl) ?_
  refine lv_aload_n hx hb dL_343 rfl (lv_at hl 3 rfl) ?_
  refine lv_iload_n hx hb dL_344 rfl (lv_at hl 0 rfl) ?_
  refine lv_iconst (v := nI 1) hx hb dL_345 (by decide +kernel) ?_
  refine lv_iadd hx hb dL_346 ?_
  refine hr_eqi (nI_add i 1) ?_
  refine lw_sld hx hb hX hbl hbA hS (i := i + 1) (by omega) hL dL_347 ?_
  refine vp_callSi (va_runV (C := RSR) (As := [.int (xs (i + 1))]) (rest := []) ⟨hx, hb, hml, hown, hts⟩ (f_empty l dC dI cI cZ cG hC k n tf ff sc mv s5 zs sf sg pr vs tc dn wr w1 hCo (xs (i + 1)) rs.1 (fun q _ => Nat.lt_of_le_of_lt (rs.2.2.2.2.2.2.1 q) (by decide))) (hr_cwV 1 hts kw_418 kw_419 kw_420 kw_23 kw_421 (by decide +kernel) (⟨Nat.le_of_ble_eq_true rfl, Nat.le_of_ble_eq_true rfl⟩)) (pre1R hKX hP hat1) rfl rfl hl.1 rfl (lv_room (Nat.le_of_ble_eq_true rfl)) dL_348 ⟨Nat.le_of_ble_eq_true rfl, Nat.le_of_ble_eq_true rfl⟩).run (fun r1 hr1 => ?_)
  refine lv_aload_n hx hb dL_351 rfl (lv_at hl 1 rfl) ?_
  refine lv_aload_n hx hb dL_352 rfl (lv_at hl 3 rfl) ?_
  refine lv_iload_n hx hb dL_353 rfl (lv_at hl 0 rfl) ?_
  refine lv_iconst (v := nI 1) hx hb dL_354 (by decide +kernel) ?_
  refine lv_iadd hx hb dL_355 ?_
  refine hr_eqi (nI_add i 1) ?_
  refine lw_sld hx hb hX hbl hbA hS (i := i + 1) (by omega) hL dL_356 ?_
  refine call2 (B := fun w2 => w2) (va_runV (C := RMO) (As := [.int (xs (i + 1))]) (rest := [.int r1]) ⟨hx, hb, hml, hown, hts⟩ (g_empty l dC dI cI cZ cG hM k n tf ff iS sc sn mv sg dn sf s5 pr gd tc wr w2 hMo (xs (i + 1)) H.size rs.2.2.1 rs.1 (Nat.le_trans rs.2.1 ra.2.1) (rs_sf rs)) (hr_cwV 1 hts kw_667 kw_668 kw_669 kw_33 kw_670 (by decide +kernel) (⟨Nat.le_of_ble_eq_true rfl, Nat.le_of_ble_eq_true rfl⟩)) (pre2W hKX hP hD hat2) rfl rfl hl.1 rfl (lv_room (Nat.le_of_ble_eq_true rfl)) dL_357 ⟨Nat.le_of_ble_eq_true rfl, Nat.le_of_ble_eq_true rfl⟩) hP hD hS hA (fun r2 u2 H locs hr2 hP hD hS => ?_)
  obtain ⟨hr2, hMo⟩ := hr2
  refine lv_icmp_eq (tgt := 589) hx hb dL_360 (by decide) (fun _ => ?_) (fun c9 => absurd (by rw [hr1, hr2, rs_empty rs]) c9)
  exact kont _ _ _ _ _ (⟨_, _, _, _, _, _, _, _, _, _, _, _, _, _, _, _, _, _, hCo, hMo, ra, rs, rr, hdn9⟩) hP hD hS hl
set_option maxHeartbeats 1000000 in
set_option maxRecDepth 100000 in
theorem lw_case11 {p : Program} {e : Env} {s : State} {m : MethodId} {below : List Frame} {meth : Method} {c : Code} {l : Launch} {b L : Nat} {xs : Nat → Int32} {dC : Nat → ClassId} {dI : Nat → Nat → Nat} {cI cZ cG : ClassId} {hC hM i : Nat} {Q : State → Prop} (hLC : LC9 p s m c b L xs dC dI cI cZ cG) (hi : i + 4 ≤ L) (kont : ∀ (w1 w2 : va_W) (H : Heap) (locs : List Loc) (ls : Array Slot), PO9 cI cZ cG hC hM w1 w2 → va_P (dC, dI) vwCl (w1 ++ w2) H → va_D (fun q : Nat => s.heap.size ≤ q) (w1 ++ w2) → va_S (fun q : Nat => s.heap.size ≤ q) s.heap H locs → lv_has ls 4 [(3, .int (nI i)), (2, .ref hM), (1, .ref hC), (0, .ref b)] → W p l e room_1 s m #[Value.ref b] below meth c H locs 51 733 Q (F0 m 589 ls [])) {w1 w2 : va_W} {H : Heap} {locs : List Loc} {ls : Array Slot} (hPO : PO9 cI cZ cG hC hM w1 w2) (hP : va_P (dC, dI) vwCl (w1 ++ w2) H) (hD : va_D (fun q : Nat => s.heap.size ≤ q) (w1 ++ w2)) (hS : va_S (fun q : Nat => s.heap.size ≤ q) s.heap H locs) (hl : lv_has ls 4 [(3, .int (nI i)), (2, .ref hM), (1, .ref hC), (0, .ref b)]) : W p l e room_1 s m #[Value.ref b] below meth c H locs 51 733 Q (F0 m 365 ls []) := by
  obtain ⟨hx, hb, hml, hown, hts, hX, hbl, hL, hKX⟩ := hLC
  have hbA : ¬ (fun q : Nat => s.heap.size ≤ q) b := Nat.not_le.mpr hbl
  have hA : ∀ q : Nat, s.heap.size ≤ q → (fun q : Nat => s.heap.size ≤ q) q := fun _ h => h
  obtain ⟨k, n, tf, ff, sc, mv, s5, zs, sf, sg, pr, vs, tc, dn, wr, iS, sn, gd, hCo, hMo, ra, rs, rr, hdn9⟩ := hPO
  obtain ⟨fs1, hat1⟩ := CObj_at hCo
  obtain ⟨fs2, hat2⟩ := MObj_at hMo
  refine lv_aload_n hx hb dL_365 rfl (lv_at hl 2 rfl) ?_
  refine lv_aload_n hx hb dL_366 rfl (lv_at hl 3 rfl) ?_
  refine lv_iload_n hx hb dL_367 rfl (lv_at hl 0 rfl) ?_
  refine lv_iconst (v := nI 1) hx hb dL_368 (by decide +kernel) ?_
  refine lv_iadd hx hb dL_369 ?_
  refine hr_eqi (nI_add i 1) ?_
  refine lw_sld hx hb hX hbl hbA hS (i := i + 1) (by omega) hL dL_370 ?_
  refine lv_aload_n hx hb dL_371 rfl (lv_at hl 3 rfl) ?_
  refine lv_iload_n hx hb dL_372 rfl (lv_at hl 0 rfl) ?_
  refine lv_iconst (v := nI 2) hx hb dL_373 (by decide +kernel) ?_
  refine lv_iadd hx hb dL_374 ?_
  refine hr_eqi (nI_add i 2) ?_
  refine lw_sld hx hb hX hbl hbA hS (i := i + 2) (by omega) hL dL_375 ?_
  refine lv_i2l hx hb (v := (Int32.toInt64 (xs (i + 2)))) dL_376 rfl ?_
  refine lv_bipush (v := nI 32) hx hb dL_377 (by decide +kernel) ?_
  refine lv_lshl hx hb (v := ((Int32.toInt64 (xs (i + 2))) <<< ((nI 32).toInt64 &&& 63))) dL_379 rfl ?_
  refine lv_aload_n hx hb dL_380 rfl (lv_at hl 3 rfl) ?_
  refine lv_iload_n hx hb dL_381 rfl (lv_at hl 0 rfl) ?_
  refine lv_iconst (v := nI 3) hx hb dL_382 (by decide +kernel) ?_
  refine lv_iadd hx hb dL_383 ?_
  refine hr_eqi (nI_add i 3) ?_
  refine lw_sld hx hb hX hbl hbA hS (i := i + 3) (by omega) hL dL_384 ?_
  refine lv_i2l hx hb (v := (Int32.toInt64 (xs (i + 3)))) dL_385 rfl ?_
  refine lv_ldc2 (v := 4294967295) hx hb hown (hts _ (List.mem_cons_of_mem _ kw_709)) dL_386 ?_
  refine lv_land hx hb dL_389 ?_
  refine lv_lor hx hb dL_390 ?_
  refine call1 (B := fun w2 => w2) (va_runV (C := RSR) (As := [.int (xs (i + 1)), .long (((Int32.toInt64 (xs (i + 2))) <<< ((nI 32).toInt64 &&& 63)) ||| ((Int32.toInt64 (xs (i + 3))) &&& 4294967295))]) (rest := []) ⟨hx, hb, hml, hown, hts⟩ (f_draw l dC dI cI cZ cG hC k n tf ff sc mv s5 zs sf sg pr vs tc dn wr w1 hCo (xs (i + 1)) (((Int32.toInt64 (xs (i + 2))) <<< ((nI 32).toInt64 &&& 63)) ||| ((Int32.toInt64 (xs (i + 3))) &&& 4294967295)) H.size rs.1 (rs_sf rs)) (hr_cwV 2 hts kw_422 kw_423 kw_424 kw_23 kw_425 (by decide +kernel) (⟨Nat.le_of_ble_eq_true rfl, Nat.le_of_ble_eq_true rfl⟩)) (pre1W hKX hP hD hat1) rfl rfl hl.1 rfl (lv_room (Nat.le_of_ble_eq_true rfl)) dL_391 ⟨Nat.le_of_ble_eq_true rfl, Nat.le_of_ble_eq_true rfl⟩) hP hD hS hA (fun r1 u1 H locs hr1 hP hD hS => ?_)
  obtain ⟨hr1, hCo⟩ := hr1
  refine lv_aload_n hx hb dL_394 rfl (lv_at hl 1 rfl) ?_
  refine lv_aload_n hx hb dL_395 rfl (lv_at hl 3 rfl) ?_
  refine lv_iload_n hx hb dL_396 rfl (lv_at hl 0 rfl) ?_
  refine lv_iconst (v := nI 1) hx hb dL_397 (by decide +kernel) ?_
  refine lv_iadd hx hb dL_398 ?_
  refine hr_eqi (nI_add i 1) ?_
  refine lw_sld hx hb hX hbl hbA hS (i := i + 1) (by omega) hL dL_399 ?_
  refine lv_aload_n hx hb dL_400 rfl (lv_at hl 3 rfl) ?_
  refine lv_iload_n hx hb dL_401 rfl (lv_at hl 0 rfl) ?_
  refine lv_iconst (v := nI 2) hx hb dL_402 (by decide +kernel) ?_
  refine lv_iadd hx hb dL_403 ?_
  refine hr_eqi (nI_add i 2) ?_
  refine lw_sld hx hb hX hbl hbA hS (i := i + 2) (by omega) hL dL_404 ?_
  refine lv_i2l hx hb (v := (Int32.toInt64 (xs (i + 2)))) dL_405 rfl ?_
  refine lv_bipush (v := nI 32) hx hb dL_406 (by decide +kernel) ?_
  refine lv_lshl hx hb (v := ((Int32.toInt64 (xs (i + 2))) <<< ((nI 32).toInt64 &&& 63))) dL_408 rfl ?_
  refine lv_aload_n hx hb dL_409 rfl (lv_at hl 3 rfl) ?_
  refine lv_iload_n hx hb dL_410 rfl (lv_at hl 0 rfl) ?_
  refine lv_iconst (v := nI 3) hx hb dL_411 (by decide +kernel) ?_
  refine lv_iadd hx hb dL_412 ?_
  refine hr_eqi (nI_add i 3) ?_
  refine lw_sld hx hb hX hbl hbA hS (i := i + 3) (by omega) hL dL_413 ?_
  refine lv_i2l hx hb (v := (Int32.toInt64 (xs (i + 3)))) dL_414 rfl ?_
  refine lv_ldc2 (v := 4294967295) hx hb hown (hts _ (List.mem_cons_of_mem _ kw_709)) dL_415 ?_
  refine lv_land hx hb dL_418 ?_
  refine lv_lor hx hb dL_419 ?_
  refine call2 (B := fun w2 => w2) (va_runV (C := RMO) (As := [.int (xs (i + 1)), .long (((Int32.toInt64 (xs (i + 2))) <<< ((nI 32).toInt64 &&& 63)) ||| ((Int32.toInt64 (xs (i + 3))) &&& 4294967295))]) (rest := [.int r1]) ⟨hx, hb, hml, hown, hts⟩ (g_draw l dC dI cI cZ cG hM k n tf ff iS sc sn mv sg dn sf s5 pr gd tc wr w2 hMo (xs (i + 1)) (((Int32.toInt64 (xs (i + 2))) <<< ((nI 32).toInt64 &&& 63)) ||| ((Int32.toInt64 (xs (i + 3))) &&& 4294967295)) H.size rs.2.2.1 rs.1 (Nat.le_trans rs.2.1 ra.2.1) (rs_sf rs)) (hr_cwV 2 hts kw_675 kw_676 kw_677 kw_33 kw_678 (by decide +kernel) (⟨Nat.le_of_ble_eq_true rfl, Nat.le_of_ble_eq_true rfl⟩)) (pre2W hKX hP hD hat2) rfl rfl hl.1 rfl (lv_room (Nat.le_of_ble_eq_true rfl)) dL_420 ⟨Nat.le_of_ble_eq_true rfl, Nat.le_of_ble_eq_true rfl⟩) hP hD hS hA (fun r2 u2 H locs hr2 hP hD hS => ?_)
  obtain ⟨hr2, hMo⟩ := hr2
  obtain ⟨e1, e2, e3⟩ := dr_alike (dn := dn) rs ra.2.1 (xs (i + 1)) (((Int32.toInt64 (xs (i + 2))) <<< ((nI 32).toInt64 &&& 63)) ||| ((Int32.toInt64 (xs (i + 3))) &&& 4294967295)) wr
  rw [e1, e2] at hMo
  refine lv_icmp_eq (tgt := 589) hx hb dL_423 (by decide) (fun _ => ?_) (fun c9 => absurd (by rw [hr1, hr2, e3]) c9)
  exact kont _ _ _ _ _ (⟨_, _, _, _, _, _, _, _, _, _, _, _, _, _, _, _, _, _, hCo, hMo, ra, rs, rr, (dn_draw (sn := sn) hdn9 (xs (i + 1)))⟩) hP hD hS hl
set_option maxHeartbeats 1000000 in
set_option maxRecDepth 100000 in
theorem lw_case12 {p : Program} {e : Env} {s : State} {m : MethodId} {below : List Frame} {meth : Method} {c : Code} {l : Launch} {b L : Nat} {xs : Nat → Int32} {dC : Nat → ClassId} {dI : Nat → Nat → Nat} {cI cZ cG : ClassId} {hC hM i : Nat} {Q : State → Prop} (hLC : LC9 p s m c b L xs dC dI cI cZ cG) (hi : i + 4 ≤ L) (kont : ∀ (w1 w2 : va_W) (H : Heap) (locs : List Loc) (ls : Array Slot), PO9 cI cZ cG hC hM w1 w2 → va_P (dC, dI) vwCl (w1 ++ w2) H → va_D (fun q : Nat => s.heap.size ≤ q) (w1 ++ w2) → va_S (fun q : Nat => s.heap.size ≤ q) s.heap H locs → lv_has ls 4 [(3, .int (nI i)), (2, .ref hM), (1, .ref hC), (0, .ref b)] → W p l e room_1 s m #[Value.ref b] below meth c H locs 51 733 Q (F0 m 589 ls [])) {w1 w2 : va_W} {H : Heap} {locs : List Loc} {ls : Array Slot} (hPO : PO9 cI cZ cG hC hM w1 w2) (hP : va_P (dC, dI) vwCl (w1 ++ w2) H) (hD : va_D (fun q : Nat => s.heap.size ≤ q) (w1 ++ w2)) (hS : va_S (fun q : Nat => s.heap.size ≤ q) s.heap H locs) (hl : lv_has ls 4 [(3, .int (nI i)), (2, .ref hM), (1, .ref hC), (0, .ref b)]) : W p l e room_1 s m #[Value.ref b] below meth c H locs 51 733 Q (F0 m 428 ls []) := by
  obtain ⟨hx, hb, hml, hown, hts, hX, hbl, hL, hKX⟩ := hLC
  have hbA : ¬ (fun q : Nat => s.heap.size ≤ q) b := Nat.not_le.mpr hbl
  have hA : ∀ q : Nat, s.heap.size ≤ q → (fun q : Nat => s.heap.size ≤ q) q := fun _ h => h
  obtain ⟨k, n, tf, ff, sc, mv, s5, zs, sf, sg, pr, vs, tc, dn, wr, iS, sn, gd, hCo, hMo, ra, rs, rr, hdn9⟩ := hPO
  obtain ⟨fs1, hat1⟩ := CObj_at hCo
  obtain ⟨fs2, hat2⟩ := MObj_at hMo
  refine lv_aload_n hx hb dL_428 rfl (lv_at hl 2 rfl) ?_
  refine lv_aload_n hx hb dL_429 rfl (lv_at hl 3 rfl) ?_
  refine lv_iload_n hx hb dL_430 rfl (lv_at hl 0 rfl) ?_
  refine lv_iconst (v := nI 1) hx hb dL_431 (by decide +kernel) ?_
  refine lv_iadd hx hb dL_432 ?_
  refine hr_eqi (nI_add i 1) ?_
  refine lw_sld hx hb hX hbl hbA hS (i := i + 1) (by omega) hL dL_433 ?_
  refine vp_callSi (va_runV (C := RSR) (As := [.int (xs (i + 1))]) (rest := []) ⟨hx, hb, hml, hown, hts⟩ (f_drawn l dC dI cI cZ cG hC k n tf ff sc mv s5 zs sf sg pr vs tc dn wr w1 hCo (xs (i + 1)) hdn9) (hr_cwV 1 hts kw_437 kw_438 kw_439 kw_23 kw_440 (by decide +kernel) (⟨Nat.le_of_ble_eq_true rfl, Nat.le_of_ble_eq_true rfl⟩)) (pre1R hKX hP hat1) rfl rfl hl.1 rfl (lv_room (Nat.le_of_ble_eq_true rfl)) dL_434 ⟨Nat.le_of_ble_eq_true rfl, Nat.le_of_ble_eq_true rfl⟩).run (fun r1 hr1 => ?_)
  refine lv_aload_n hx hb dL_437 rfl (lv_at hl 1 rfl) ?_
  refine lv_aload_n hx hb dL_438 rfl (lv_at hl 3 rfl) ?_
  refine lv_iload_n hx hb dL_439 rfl (lv_at hl 0 rfl) ?_
  refine lv_iconst (v := nI 1) hx hb dL_440 (by decide +kernel) ?_
  refine lv_iadd hx hb dL_441 ?_
  refine hr_eqi (nI_add i 1) ?_
  refine lw_sld hx hb hX hbl hbA hS (i := i + 1) (by omega) hL dL_442 ?_
  refine call2 (B := fun w2 => w2) (va_runV (C := RMO) (As := [.int (xs (i + 1))]) (rest := [.int r1]) ⟨hx, hb, hml, hown, hts⟩ (g_drawn l dC dI cI cZ cG hM k n tf ff iS sc sn mv sg dn sf s5 pr gd tc wr w2 hMo (xs (i + 1)) H.size hdn9) (hr_cwV 1 hts kw_681 kw_682 kw_683 kw_33 kw_684 (by decide +kernel) (⟨Nat.le_of_ble_eq_true rfl, Nat.le_of_ble_eq_true rfl⟩)) (pre2W hKX hP hD hat2) rfl rfl hl.1 rfl (lv_room (Nat.le_of_ble_eq_true rfl)) dL_443 ⟨Nat.le_of_ble_eq_true rfl, Nat.le_of_ble_eq_true rfl⟩) hP hD hS hA (fun r2 u2 H locs hr2 hP hD hS => ?_)
  obtain ⟨hr2, hMo⟩ := hr2
  refine lv_icmp_eq (tgt := 589) hx hb dL_446 (by decide) (fun _ => ?_) (fun c9 => absurd (by rw [hr1, hr2]) c9)
  exact kont _ _ _ _ _ (⟨_, _, _, _, _, _, _, _, _, _, _, _, _, _, _, _, _, _, hCo, hMo, ra, rs, rr, hdn9⟩) hP hD hS hl
set_option maxHeartbeats 1000000 in
set_option maxRecDepth 100000 in
theorem lw_case13 {p : Program} {e : Env} {s : State} {m : MethodId} {below : List Frame} {meth : Method} {c : Code} {l : Launch} {b L : Nat} {xs : Nat → Int32} {dC : Nat → ClassId} {dI : Nat → Nat → Nat} {cI cZ cG : ClassId} {hC hM i : Nat} {Q : State → Prop} (hLC : LC9 p s m c b L xs dC dI cI cZ cG) (hi : i + 4 ≤ L) (kont : ∀ (w1 w2 : va_W) (H : Heap) (locs : List Loc) (ls : Array Slot), PO9 cI cZ cG hC hM w1 w2 → va_P (dC, dI) vwCl (w1 ++ w2) H → va_D (fun q : Nat => s.heap.size ≤ q) (w1 ++ w2) → va_S (fun q : Nat => s.heap.size ≤ q) s.heap H locs → lv_has ls 4 [(3, .int (nI i)), (2, .ref hM), (1, .ref hC), (0, .ref b)] → W p l e room_1 s m #[Value.ref b] below meth c H locs 51 733 Q (F0 m 589 ls [])) {w1 w2 : va_W} {H : Heap} {locs : List Loc} {ls : Array Slot} (hPO : PO9 cI cZ cG hC hM w1 w2) (hP : va_P (dC, dI) vwCl (w1 ++ w2) H) (hD : va_D (fun q : Nat => s.heap.size ≤ q) (w1 ++ w2)) (hS : va_S (fun q : Nat => s.heap.size ≤ q) s.heap H locs) (hl : lv_has ls 4 [(3, .int (nI i)), (2, .ref hM), (1, .ref hC), (0, .ref b)]) : W p l e room_1 s m #[Value.ref b] below meth c H locs 51 733 Q (F0 m 451 ls []) := by
  obtain ⟨hx, hb, hml, hown, hts, hX, hbl, hL, hKX⟩ := hLC
  have hbA : ¬ (fun q : Nat => s.heap.size ≤ q) b := Nat.not_le.mpr hbl
  have hA : ∀ q : Nat, s.heap.size ≤ q → (fun q : Nat => s.heap.size ≤ q) q := fun _ h => h
  obtain ⟨k, n, tf, ff, sc, mv, s5, zs, sf, sg, pr, vs, tc, dn, wr, iS, sn, gd, hCo, hMo, ra, rs, rr, hdn9⟩ := hPO
  obtain ⟨fs1, hat1⟩ := CObj_at hCo
  obtain ⟨fs2, hat2⟩ := MObj_at hMo
  refine lv_aload_n hx hb dL_451 rfl (lv_at hl 2 rfl) ?_
  refine lv_aload_n hx hb dL_452 rfl (lv_at hl 3 rfl) ?_
  refine lv_iload_n hx hb dL_453 rfl (lv_at hl 0 rfl) ?_
  refine lv_iconst (v := nI 1) hx hb dL_454 (by decide +kernel) ?_
  refine lv_iadd hx hb dL_455 ?_
  refine hr_eqi (nI_add i 1) ?_
  refine lw_sld hx hb hX hbl hbA hS (i := i + 1) (by omega) hL dL_456 ?_
  refine lv_aload_n hx hb dL_457 rfl (lv_at hl 3 rfl) ?_
  refine lv_iload_n hx hb dL_458 rfl (lv_at hl 0 rfl) ?_
  refine lv_iconst (v := nI 2) hx hb dL_459 (by decide +kernel) ?_
  refine lv_iadd hx hb dL_460 ?_
  refine hr_eqi (nI_add i 2) ?_
  refine lw_sld hx hb hX hbl hbA hS (i := i + 2) (by omega) hL dL_461 ?_
  refine lv_aload_n hx hb dL_462 rfl (lv_at hl 3 rfl) ?_
  refine lv_iload_n hx hb dL_463 rfl (lv_at hl 0 rfl) ?_
  refine lv_iconst (v := nI 3) hx hb dL_464 (by decide +kernel) ?_
  refine lv_iadd hx hb dL_465 ?_
  refine hr_eqi (nI_add i 3) ?_
  refine lw_sld hx hb hX hbl hbA hS (i := i + 3) (by omega) hL dL_466 ?_
  refine call1 (B := fun w2 => w2) (va_runV (C := RSR) (As := [.int (xs (i + 1)), .int (xs (i + 2)), .int (xs (i + 3))]) (rest := []) ⟨hx, hb, hml, hown, hts⟩ (f_result l dC dI cI cZ cG hC k n tf ff sc mv s5 zs sf sg pr vs tc dn wr w1 hCo (xs (i + 1)) (xs (i + 2)) (xs (i + 3)) H.size rs.1 (rs_sf rs) (fun j _ => rr.1 j)) (hr_cwV 3 hts kw_445 kw_446 kw_447 kw_23 kw_448 (by decide +kernel) (⟨Nat.le_of_ble_eq_true rfl, Nat.le_of_ble_eq_true rfl⟩)) (pre1W hKX hP hD hat1) rfl rfl hl.1 rfl (lv_room (Nat.le_of_ble_eq_true rfl)) dL_467 ⟨Nat.le_of_ble_eq_true rfl, Nat.le_of_ble_eq_true rfl⟩) hP hD hS hA (fun r1 u1 H locs hr1 hP hD hS => ?_)
  obtain ⟨hr1, hCo⟩ := hr1
  refine lv_aload_n hx hb dL_470 rfl (lv_at hl 1 rfl) ?_
  refine lv_aload_n hx hb dL_471 rfl (lv_at hl 3 rfl) ?_
  refine lv_iload_n hx hb dL_472 rfl (lv_at hl 0 rfl) ?_
  refine lv_iconst (v := nI 1) hx hb dL_473 (by decide +kernel) ?_
  refine lv_iadd hx hb dL_474 ?_
  refine hr_eqi (nI_add i 1) ?_
  refine lw_sld hx hb hX hbl hbA hS (i := i + 1) (by omega) hL dL_475 ?_
  refine lv_aload_n hx hb dL_476 rfl (lv_at hl 3 rfl) ?_
  refine lv_iload_n hx hb dL_477 rfl (lv_at hl 0 rfl) ?_
  refine lv_iconst (v := nI 2) hx hb dL_478 (by decide +kernel) ?_
  refine lv_iadd hx hb dL_479 ?_
  refine hr_eqi (nI_add i 2) ?_
  refine lw_sld hx hb hX hbl hbA hS (i := i + 2) (by omega) hL dL_480 ?_
  refine lv_aload_n hx hb dL_481 rfl (lv_at hl 3 rfl) ?_
  refine lv_iload_n hx hb dL_482 rfl (lv_at hl 0 rfl) ?_
  refine lv_iconst (v := nI 3) hx hb dL_483 (by decide +kernel) ?_
  refine lv_iadd hx hb dL_484 ?_
  refine hr_eqi (nI_add i 3) ?_
  refine lw_sld hx hb hX hbl hbA hS (i := i + 3) (by omega) hL dL_485 ?_
  refine call2 (B := fun w2 => w2) (va_runV (C := RMO) (As := [.int (xs (i + 1)), .int (xs (i + 2)), .int (xs (i + 3))]) (rest := [.int r1]) ⟨hx, hb, hml, hown, hts⟩ (g_result l dC dI cI cZ cG hM k n tf ff iS sc sn mv sg dn sf s5 pr gd tc wr w2 hMo (xs (i + 1)) (xs (i + 2)) (xs (i + 3)) H.size rs.2.2.1 rs.1 (Nat.le_trans rs.2.1 ra.2.1) (rs_sf rs) (fun j _ => rr.1 j)) (hr_cwV 3 hts kw_685 kw_686 kw_687 kw_33 kw_688 (by decide +kernel) (⟨Nat.le_of_ble_eq_true rfl, Nat.le_of_ble_eq_true rfl⟩)) (pre2W hKX hP hD hat2) rfl rfl hl.1 rfl (lv_room (Nat.le_of_ble_eq_true rfl)) dL_486 ⟨Nat.le_of_ble_eq_true rfl, Nat.le_of_ble_eq_true rfl⟩) hP hD hS hA (fun r2 u2 H locs hr2 hP hD hS => ?_)
  obtain ⟨hr2, hMo⟩ := hr2
  obtain ⟨e1, e2, e3, e4⟩ := rr_result rs ra.2.1 pr (xs (i + 1)) (xs (i + 2))
  rw [← e1, ← e2] at hMo
  rw [← e2] at e4
  refine lv_icmp_eq (tgt := 589) hx hb dL_489 (by decide) (fun _ => ?_) (fun c9 => absurd (by rw [hr1, hr2, e3]) c9)
  exact kont _ _ _ _ _ (⟨_, _, _, _, _, _, _, _, _, _, _, _, _, _, _, _, _, _, hCo, hMo, ra, rs, (rr_result2 rr _ _ e4), hdn9⟩) hP hD hS hl
set_option maxHeartbeats 1000000 in
set_option maxRecDepth 100000 in
theorem lw_case14 {p : Program} {e : Env} {s : State} {m : MethodId} {below : List Frame} {meth : Method} {c : Code} {l : Launch} {b L : Nat} {xs : Nat → Int32} {dC : Nat → ClassId} {dI : Nat → Nat → Nat} {cI cZ cG : ClassId} {hC hM i : Nat} {Q : State → Prop} (hLC : LC9 p s m c b L xs dC dI cI cZ cG) (hi : i + 4 ≤ L) (kont : ∀ (w1 w2 : va_W) (H : Heap) (locs : List Loc) (ls : Array Slot), PO9 cI cZ cG hC hM w1 w2 → va_P (dC, dI) vwCl (w1 ++ w2) H → va_D (fun q : Nat => s.heap.size ≤ q) (w1 ++ w2) → va_S (fun q : Nat => s.heap.size ≤ q) s.heap H locs → lv_has ls 4 [(3, .int (nI i)), (2, .ref hM), (1, .ref hC), (0, .ref b)] → W p l e room_1 s m #[Value.ref b] below meth c H locs 51 733 Q (F0 m 589 ls [])) {w1 w2 : va_W} {H : Heap} {locs : List Loc} {ls : Array Slot} (hPO : PO9 cI cZ cG hC hM w1 w2) (hP : va_P (dC, dI) vwCl (w1 ++ w2) H) (hD : va_D (fun q : Nat => s.heap.size ≤ q) (w1 ++ w2)) (hS : va_S (fun q : Nat => s.heap.size ≤ q) s.heap H locs) (hl : lv_has ls 4 [(3, .int (nI i)), (2, .ref hM), (1, .ref hC), (0, .ref b)]) : W p l e room_1 s m #[Value.ref b] below meth c H locs 51 733 Q (F0 m 494 ls []) := by
  obtain ⟨hx, hb, hml, hown, hts, hX, hbl, hL, hKX⟩ := hLC
  have hbA : ¬ (fun q : Nat => s.heap.size ≤ q) b := Nat.not_le.mpr hbl
  have hA : ∀ q : Nat, s.heap.size ≤ q → (fun q : Nat => s.heap.size ≤ q) q := fun _ h => h
  obtain ⟨k, n, tf, ff, sc, mv, s5, zs, sf, sg, pr, vs, tc, dn, wr, iS, sn, gd, hCo, hMo, ra, rs, rr, hdn9⟩ := hPO
  obtain ⟨fs1, hat1⟩ := CObj_at hCo
  obtain ⟨fs2, hat2⟩ := MObj_at hMo
  refine lv_aload_n hx hb dL_494 rfl (lv_at hl 2 rfl) ?_
  refine lv_aload_n hx hb dL_495 rfl (lv_at hl 3 rfl) ?_
  refine lv_iload_n hx hb dL_496 rfl (lv_at hl 0 rfl) ?_
  refine lv_iconst (v := nI 1) hx hb dL_497 (by decide +kernel) ?_
  refine lv_iadd hx hb dL_498 ?_
  refine hr_eqi (nI_add i 1) ?_
  refine lw_sld hx hb hX hbl hbA hS (i := i + 1) (by omega) hL dL_499 ?_
  refine call1 (B := fun w2 => w2) (va_runV (C := RSR) (As := [.int (xs (i + 1))]) (rest := []) ⟨hx, hb, hml, hown, hts⟩ (f_again l dC dI cI cZ cG hC k n tf ff sc mv s5 zs sf sg pr vs tc dn wr w1 hCo (xs (i + 1)) H.size (fun j _ => rr.1 j)) (hr_cwV 1 hts kw_454 kw_455 kw_456 kw_23 kw_457 (by decide +kernel) (⟨Nat.le_of_ble_eq_true rfl, Nat.le_of_ble_eq_true rfl⟩)) (pre1W hKX hP hD hat1) rfl rfl hl.1 rfl (lv_room (Nat.le_of_ble_eq_true rfl)) dL_500 ⟨Nat.le_of_ble_eq_true rfl, Nat.le_of_ble_eq_true rfl⟩) hP hD hS hA (fun r1 u1 H locs hr1 hP hD hS => ?_)
  obtain ⟨hr1, hCo⟩ := hr1
  refine lv_aload_n hx hb dL_503 rfl (lv_at hl 1 rfl) ?_
  refine lv_aload_n hx hb dL_504 rfl (lv_at hl 3 rfl) ?_
  refine lv_iload_n hx hb dL_505 rfl (lv_at hl 0 rfl) ?_
  refine lv_iconst (v := nI 1) hx hb dL_506 (by decide +kernel) ?_
  refine lv_iadd hx hb dL_507 ?_
  refine hr_eqi (nI_add i 1) ?_
  refine lw_sld hx hb hX hbl hbA hS (i := i + 1) (by omega) hL dL_508 ?_
  refine call2 (B := fun w2 => w2) (va_runV (C := RMO) (As := [.int (xs (i + 1))]) (rest := [.int r1]) ⟨hx, hb, hml, hown, hts⟩ (g_again l dC dI cI cZ cG hM k n tf ff iS sc sn mv sg dn sf s5 pr gd tc wr w2 hMo (xs (i + 1)) H.size rs.2.2.1 rs.1 (Nat.le_trans rs.2.1 ra.2.1) (fun j _ => rr.1 j) (fun j _ => rr.2.1 j)) (hr_cwV 1 hts kw_689 kw_690 kw_691 kw_33 kw_692 (by decide +kernel) (⟨Nat.le_of_ble_eq_true rfl, Nat.le_of_ble_eq_true rfl⟩)) (pre2W hKX hP hD hat2) rfl rfl hl.1 rfl (lv_room (Nat.le_of_ble_eq_true rfl)) dL_509 ⟨Nat.le_of_ble_eq_true rfl, Nat.le_of_ble_eq_true rfl⟩) hP hD hS hA (fun r2 u2 H locs hr2 hP hD hS => ?_)
  obtain ⟨hr2, hMo⟩ := hr2
  rw [← rr_again rr (Nat.le_trans rs.2.1 ra.2.1) (xs (i + 1))] at hMo hr2
  refine lv_icmp_eq (tgt := 589) hx hb dL_512 (by decide) (fun _ => ?_) (fun c9 => absurd (by rw [hr1, hr2]) c9)
  exact kont _ _ _ _ _ (⟨_, _, _, _, _, _, _, _, _, _, _, _, _, _, _, _, _, _, hCo, hMo, ra, rs, (rr_again2 rr _), hdn9⟩) hP hD hS hl
set_option maxHeartbeats 1000000 in
set_option maxRecDepth 100000 in
theorem lw_case15 {p : Program} {e : Env} {s : State} {m : MethodId} {below : List Frame} {meth : Method} {c : Code} {l : Launch} {b L : Nat} {xs : Nat → Int32} {dC : Nat → ClassId} {dI : Nat → Nat → Nat} {cI cZ cG : ClassId} {hC hM i : Nat} {Q : State → Prop} (hLC : LC9 p s m c b L xs dC dI cI cZ cG) (hi : i + 4 ≤ L) (kont : ∀ (w1 w2 : va_W) (H : Heap) (locs : List Loc) (ls : Array Slot), PO9 cI cZ cG hC hM w1 w2 → va_P (dC, dI) vwCl (w1 ++ w2) H → va_D (fun q : Nat => s.heap.size ≤ q) (w1 ++ w2) → va_S (fun q : Nat => s.heap.size ≤ q) s.heap H locs → lv_has ls 4 [(3, .int (nI i)), (2, .ref hM), (1, .ref hC), (0, .ref b)] → W p l e room_1 s m #[Value.ref b] below meth c H locs 51 733 Q (F0 m 589 ls [])) {w1 w2 : va_W} {H : Heap} {locs : List Loc} {ls : Array Slot} (hPO : PO9 cI cZ cG hC hM w1 w2) (hP : va_P (dC, dI) vwCl (w1 ++ w2) H) (hD : va_D (fun q : Nat => s.heap.size ≤ q) (w1 ++ w2)) (hS : va_S (fun q : Nat => s.heap.size ≤ q) s.heap H locs) (hl : lv_has ls 4 [(3, .int (nI i)), (2, .ref hM), (1, .ref hC), (0, .ref b)]) : W p l e room_1 s m #[Value.ref b] below meth c H locs 51 733 Q (F0 m 517 ls []) := by
  obtain ⟨hx, hb, hml, hown, hts, hX, hbl, hL, hKX⟩ := hLC
  have hbA : ¬ (fun q : Nat => s.heap.size ≤ q) b := Nat.not_le.mpr hbl
  have hA : ∀ q : Nat, s.heap.size ≤ q → (fun q : Nat => s.heap.size ≤ q) q := fun _ h => h
  obtain ⟨k, n, tf, ff, sc, mv, s5, zs, sf, sg, pr, vs, tc, dn, wr, iS, sn, gd, hCo, hMo, ra, rs, rr, hdn9⟩ := hPO
  obtain ⟨fs1, hat1⟩ := CObj_at hCo
  obtain ⟨fs2, hat2⟩ := MObj_at hMo
  refine lv_aload_n hx hb dL_517 rfl (lv_at hl 2 rfl) ?_
  refine vp_callSi (va_runV (C := RSR) (As := []) (rest := []) ⟨hx, hb, hml, hown, hts⟩ (f_strange l dC dI cI cZ cG hC k n tf ff sc mv s5 zs sf sg pr vs tc dn wr w1 hCo ) (hr_cwV 0 hts kw_470 kw_471 kw_472 kw_23 kw_473 (by decide +kernel) (⟨Nat.le_of_ble_eq_true rfl, Nat.le_of_ble_eq_true rfl⟩)) (pre1R hKX hP hat1) rfl rfl hl.1 rfl (lv_room (Nat.le_of_ble_eq_true rfl)) dL_518 ⟨Nat.le_of_ble_eq_true rfl, Nat.le_of_ble_eq_true rfl⟩).run (fun r1 hr1 => ?_)
  refine lv_aload_n hx hb dL_521 rfl (lv_at hl 1 rfl) ?_
  refine call2 (B := fun w2 => w2) (va_runV (C := RMO) (As := []) (rest := [.int r1]) ⟨hx, hb, hml, hown, hts⟩ (g_strange l dC dI cI cZ cG hM k n tf ff iS sc sn mv sg dn sf s5 pr gd tc wr w2 hMo  H.size) (hr_cwV 0 hts kw_693 kw_694 kw_695 kw_33 kw_696 (by decide +kernel) (⟨Nat.le_of_ble_eq_true rfl, Nat.le_of_ble_eq_true rfl⟩)) (pre2W hKX hP hD hat2) rfl rfl hl.1 rfl (lv_room (Nat.le_of_ble_eq_true rfl)) dL_522 ⟨Nat.le_of_ble_eq_true rfl, Nat.le_of_ble_eq_true rfl⟩) hP hD hS hA (fun r2 u2 H locs hr2 hP hD hS => ?_)
  obtain ⟨hr2, hMo⟩ := hr2
  refine lv_icmp_eq (tgt := 589) hx hb dL_525 (by decide) (fun _ => ?_) (fun c9 => absurd (by rw [hr1, hr2]) c9)
  exact kont _ _ _ _ _ (⟨_, _, _, _, _, _, _, _, _, _, _, _, _, _, _, _, _, _, hCo, hMo, ra, rs, rr, hdn9⟩) hP hD hS hl
set_option maxHeartbeats 1000000 in
set_option maxRecDepth 100000 in
theorem lw_case16 {p : Program} {e : Env} {s : State} {m : MethodId} {below : List Frame} {meth : Method} {c : Code} {l : Launch} {b L : Nat} {xs : Nat → Int32} {dC : Nat → ClassId} {dI : Nat → Nat → Nat} {cI cZ cG : ClassId} {hC hM i : Nat} {Q : State → Prop} (hLC : LC9 p s m c b L xs dC dI cI cZ cG) (hi : i + 4 ≤ L) (kont : ∀ (w1 w2 : va_W) (H : Heap) (locs : List Loc) (ls : Array Slot), PO9 cI cZ cG hC hM w1 w2 → va_P (dC, dI) vwCl (w1 ++ w2) H → va_D (fun q : Nat => s.heap.size ≤ q) (w1 ++ w2) → va_S (fun q : Nat => s.heap.size ≤ q) s.heap H locs → lv_has ls 4 [(3, .int (nI i)), (2, .ref hM), (1, .ref hC), (0, .ref b)] → W p l e room_1 s m #[Value.ref b] below meth c H locs 51 733 Q (F0 m 589 ls [])) {w1 w2 : va_W} {H : Heap} {locs : List Loc} {ls : Array Slot} (hPO : PO9 cI cZ cG hC hM w1 w2) (hP : va_P (dC, dI) vwCl (w1 ++ w2) H) (hD : va_D (fun q : Nat => s.heap.size ≤ q) (w1 ++ w2)) (hS : va_S (fun q : Nat => s.heap.size ≤ q) s.heap H locs) (hl : lv_has ls 4 [(3, .int (nI i)), (2, .ref hM), (1, .ref hC), (0, .ref b)]) : W p l e room_1 s m #[Value.ref b] below meth c H locs 51 733 Q (F0 m 530 ls []) := by
  obtain ⟨hx, hb, hml, hown, hts, hX, hbl, hL, hKX⟩ := hLC
  have hbA : ¬ (fun q : Nat => s.heap.size ≤ q) b := Nat.not_le.mpr hbl
  have hA : ∀ q : Nat, s.heap.size ≤ q → (fun q : Nat => s.heap.size ≤ q) q := fun _ h => h
  obtain ⟨k, n, tf, ff, sc, mv, s5, zs, sf, sg, pr, vs, tc, dn, wr, iS, sn, gd, hCo, hMo, ra, rs, rr, hdn9⟩ := hPO
  obtain ⟨fs1, hat1⟩ := CObj_at hCo
  obtain ⟨fs2, hat2⟩ := MObj_at hMo
  refine lv_aload_n hx hb dL_530 rfl (lv_at hl 2 rfl) ?_
  refine lv_aload_n hx hb dL_531 rfl (lv_at hl 3 rfl) ?_
  refine lv_iload_n hx hb dL_532 rfl (lv_at hl 0 rfl) ?_
  refine lv_iconst (v := nI 1) hx hb dL_533 (by decide +kernel) ?_
  refine lv_iadd hx hb dL_534 ?_
  refine hr_eqi (nI_add i 1) ?_
  refine lw_sld hx hb hX hbl hbA hS (i := i + 1) (by omega) hL dL_535 ?_
  refine vp_callSi (va_runV (C := RSR) (As := [.int (xs (i + 1))]) (rest := []) ⟨hx, hb, hml, hown, hts⟩ (f_missing l dC dI cI cZ cG hC k n tf ff sc mv s5 zs sf sg pr vs tc dn wr w1 hCo (xs (i + 1)) (rs_sf rs) (fun j _ => rr.1 j)) (hr_cwV 1 hts kw_474 kw_475 kw_476 kw_23 kw_477 (by decide +kernel) (⟨Nat.le_of_ble_eq_true rfl, Nat.le_of_ble_eq_true rfl⟩)) (pre1R hKX hP hat1) rfl rfl hl.1 rfl (lv_room (Nat.le_of_ble_eq_true rfl)) dL_536 ⟨Nat.le_of_ble_eq_true rfl, Nat.le_of_ble_eq_true rfl⟩).run (fun r1 hr1 => ?_)
  refine lv_aload_n hx hb dL_539 rfl (lv_at hl 1 rfl) ?_
  refine lv_aload_n hx hb dL_540 rfl (lv_at hl 3 rfl) ?_
  refine lv_iload_n hx hb dL_541 rfl (lv_at hl 0 rfl) ?_
  refine lv_iconst (v := nI 1) hx hb dL_542 (by decide +kernel) ?_
  refine lv_iadd hx hb dL_543 ?_
  refine hr_eqi (nI_add i 1) ?_
  refine lw_sld hx hb hX hbl hbA hS (i := i + 1) (by omega) hL dL_544 ?_
  refine call2 (B := fun w2 => w2) (va_runV (C := RMO) (As := [.int (xs (i + 1))]) (rest := [.int r1]) ⟨hx, hb, hml, hown, hts⟩ (g_missing l dC dI cI cZ cG hM k n tf ff iS sc sn mv sg dn sf s5 pr gd tc wr w2 hMo (xs (i + 1)) H.size rs.2.2.1 rs.1 (Nat.le_trans rs.2.1 ra.2.1) (fun j _ => rr.1 j)) (hr_cwV 1 hts kw_697 kw_698 kw_699 kw_33 kw_700 (by decide +kernel) (⟨Nat.le_of_ble_eq_true rfl, Nat.le_of_ble_eq_true rfl⟩)) (pre2W hKX hP hD hat2) rfl rfl hl.1 rfl (lv_room (Nat.le_of_ble_eq_true rfl)) dL_545 ⟨Nat.le_of_ble_eq_true rfl, Nat.le_of_ble_eq_true rfl⟩) hP hD hS hA (fun r2 u2 H locs hr2 hP hD hS => ?_)
  obtain ⟨hr2, hMo⟩ := hr2
  refine lv_icmp_eq (tgt := 589) hx hb dL_548 (by decide) (fun _ => ?_) (fun c9 => absurd (by rw [hr1, hr2, rs_missing rs ra.2.1]) c9)
  exact kont _ _ _ _ _ (⟨_, _, _, _, _, _, _, _, _, _, _, _, _, _, _, _, _, _, hCo, hMo, ra, rs, rr, hdn9⟩) hP hD hS hl
set_option maxHeartbeats 1000000 in
set_option maxRecDepth 100000 in
theorem lw_case17 {p : Program} {e : Env} {s : State} {m : MethodId} {below : List Frame} {meth : Method} {c : Code} {l : Launch} {b L : Nat} {xs : Nat → Int32} {dC : Nat → ClassId} {dI : Nat → Nat → Nat} {cI cZ cG : ClassId} {hC hM i : Nat} {Q : State → Prop} (hLC : LC9 p s m c b L xs dC dI cI cZ cG) (hi : i + 4 ≤ L) (kont : ∀ (w1 w2 : va_W) (H : Heap) (locs : List Loc) (ls : Array Slot), PO9 cI cZ cG hC hM w1 w2 → va_P (dC, dI) vwCl (w1 ++ w2) H → va_D (fun q : Nat => s.heap.size ≤ q) (w1 ++ w2) → va_S (fun q : Nat => s.heap.size ≤ q) s.heap H locs → lv_has ls 4 [(3, .int (nI i)), (2, .ref hM), (1, .ref hC), (0, .ref b)] → W p l e room_1 s m #[Value.ref b] below meth c H locs 51 733 Q (F0 m 589 ls [])) {w1 w2 : va_W} {H : Heap} {locs : List Loc} {ls : Array Slot} (hPO : PO9 cI cZ cG hC hM w1 w2) (hP : va_P (dC, dI) vwCl (w1 ++ w2) H) (hD : va_D (fun q : Nat => s.heap.size ≤ q) (w1 ++ w2)) (hS : va_S (fun q : Nat => s.heap.size ≤ q) s.heap H locs) (hl : lv_has ls 4 [(3, .int (nI i)), (2, .ref hM), (1, .ref hC), (0, .ref b)]) : W p l e room_1 s m #[Value.ref b] below meth c H locs 51 733 Q (F0 m 553 ls []) := by
  obtain ⟨hx, hb, hml, hown, hts, hX, hbl, hL, hKX⟩ := hLC
  have hbA : ¬ (fun q : Nat => s.heap.size ≤ q) b := Nat.not_le.mpr hbl
  have hA : ∀ q : Nat, s.heap.size ≤ q → (fun q : Nat => s.heap.size ≤ q) q := fun _ h => h
  obtain ⟨k, n, tf, ff, sc, mv, s5, zs, sf, sg, pr, vs, tc, dn, wr, iS, sn, gd, hCo, hMo, ra, rs, rr, hdn9⟩ := hPO
  obtain ⟨fs1, hat1⟩ := CObj_at hCo
  obtain ⟨fs2, hat2⟩ := MObj_at hMo
  refine lv_aload_n hx hb dL_553 rfl (lv_at hl 2 rfl) ?_
  refine vp_callSi (va_runV (C := RSR) (As := []) (rest := []) ⟨hx, hb, hml, hown, hts⟩ (f_verdict l dC dI cI cZ cG hC k n tf ff sc mv s5 zs sf sg pr vs tc dn wr w1 hCo  rs.1 (rs_sf rs) (fun j _ => rr.1 j)) (hr_cwV 0 hts kw_483 kw_484 kw_485 kw_23 kw_486 (by decide +kernel) (⟨Nat.le_of_ble_eq_true rfl, Nat.le_of_ble_eq_true rfl⟩)) (pre1R hKX hP hat1) rfl rfl hl.1 rfl (lv_room (Nat.le_of_ble_eq_true rfl)) dL_554 ⟨Nat.le_of_ble_eq_true rfl, Nat.le_of_ble_eq_true rfl⟩).run (fun r1 hr1 => ?_)
  refine lv_aload_n hx hb dL_557 rfl (lv_at hl 1 rfl) ?_
  refine call2 (B := fun w2 => w2) (va_runV (C := RMO) (As := []) (rest := [.int r1]) ⟨hx, hb, hml, hown, hts⟩ (g_verdict l dC dI cI cZ cG hM k n tf ff iS sc sn mv sg dn sf s5 pr gd tc wr w2 hMo  H.size rs.2.2.1 rs.1 (Nat.le_trans rs.2.1 ra.2.1) (fun j _ => rr.1 j) (fun j _ => rr.2.1 j)) (hr_cwV 0 hts kw_701 kw_702 kw_703 kw_33 kw_704 (by decide +kernel) (⟨Nat.le_of_ble_eq_true rfl, Nat.le_of_ble_eq_true rfl⟩)) (pre2W hKX hP hD hat2) rfl rfl hl.1 rfl (lv_room (Nat.le_of_ble_eq_true rfl)) dL_558 ⟨Nat.le_of_ble_eq_true rfl, Nat.le_of_ble_eq_true rfl⟩) hP hD hS hA (fun r2 u2 H locs hr2 hP hD hS => ?_)
  obtain ⟨hr2, hMo⟩ := hr2
  refine lv_icmp_eq (tgt := 589) hx hb dL_561 (by decide) (fun _ => ?_) (fun c9 => absurd (by rw [hr1, hr2, rr_verdict rs ra.2.1 rr]) c9)
  exact kont _ _ _ _ _ (⟨_, _, _, _, _, _, _, _, _, _, _, _, _, _, _, _, _, _, hCo, hMo, ra, rs, rr, hdn9⟩) hP hD hS hl
set_option maxHeartbeats 1000000 in
set_option maxRecDepth 100000 in
theorem lw_case18 {p : Program} {e : Env} {s : State} {m : MethodId} {below : List Frame} {meth : Method} {c : Code} {l : Launch} {b L : Nat} {xs : Nat → Int32} {dC : Nat → ClassId} {dI : Nat → Nat → Nat} {cI cZ cG : ClassId} {hC hM i : Nat} {Q : State → Prop} (hLC : LC9 p s m c b L xs dC dI cI cZ cG) (hi : i + 4 ≤ L) (kont : ∀ (w1 w2 : va_W) (H : Heap) (locs : List Loc) (ls : Array Slot), PO9 cI cZ cG hC hM w1 w2 → va_P (dC, dI) vwCl (w1 ++ w2) H → va_D (fun q : Nat => s.heap.size ≤ q) (w1 ++ w2) → va_S (fun q : Nat => s.heap.size ≤ q) s.heap H locs → lv_has ls 4 [(3, .int (nI i)), (2, .ref hM), (1, .ref hC), (0, .ref b)] → W p l e room_1 s m #[Value.ref b] below meth c H locs 51 733 Q (F0 m 589 ls [])) {w1 w2 : va_W} {H : Heap} {locs : List Loc} {ls : Array Slot} (hPO : PO9 cI cZ cG hC hM w1 w2) (hP : va_P (dC, dI) vwCl (w1 ++ w2) H) (hD : va_D (fun q : Nat => s.heap.size ≤ q) (w1 ++ w2)) (hS : va_S (fun q : Nat => s.heap.size ≤ q) s.heap H locs) (hl : lv_has ls 4 [(3, .int (nI i)), (2, .ref hM), (1, .ref hC), (0, .ref b)]) : W p l e room_1 s m #[Value.ref b] below meth c H locs 51 733 Q (F0 m 566 ls []) := by
  obtain ⟨hx, hb, hml, hown, hts, hX, hbl, hL, hKX⟩ := hLC
  have hbA : ¬ (fun q : Nat => s.heap.size ≤ q) b := Nat.not_le.mpr hbl
  have hA : ∀ q : Nat, s.heap.size ≤ q → (fun q : Nat => s.heap.size ≤ q) q := fun _ h => h
  obtain ⟨k, n, tf, ff, sc, mv, s5, zs, sf, sg, pr, vs, tc, dn, wr, iS, sn, gd, hCo, hMo, ra, rs, rr, hdn9⟩ := hPO
  obtain ⟨fs1, hat1⟩ := CObj_at hCo
  obtain ⟨fs2, hat2⟩ := MObj_at hMo
  refine lv_aload_n hx hb dL_566 rfl (lv_at hl 2 rfl) ?_
  refine lv_aload_n hx hb dL_567 rfl (lv_at hl 3 rfl) ?_
  refine lv_iload_n hx hb dL_568 rfl (lv_at hl 0 rfl) ?_
  refine lv_iconst (v := nI 1) hx hb dL_569 (by decide +kernel) ?_
  refine lv_iadd hx hb dL_570 ?_
  refine hr_eqi (nI_add i 1) ?_
  refine lw_sld hx hb hX hbl hbA hS (i := i + 1) (by omega) hL dL_571 ?_
  refine vp_callSi (va_runV (C := RSR) (As := [.int (xs (i + 1))]) (rest := []) ⟨hx, hb, hml, hown, hts⟩ (f_tries l dC dI cI cZ cG hC k n tf ff sc mv s5 zs sf sg pr vs tc dn wr w1 hCo (xs (i + 1))) (hr_cwV 1 hts kw_492 kw_493 kw_494 kw_23 kw_495 (by decide +kernel) (⟨Nat.le_of_ble_eq_true rfl, Nat.le_of_ble_eq_true rfl⟩)) (pre1R hKX hP hat1) rfl rfl hl.1 rfl (lv_room (Nat.le_of_ble_eq_true rfl)) dL_572 ⟨Nat.le_of_ble_eq_true rfl, Nat.le_of_ble_eq_true rfl⟩).run (fun r1 hr1 => ?_)
  refine lv_aload_n hx hb dL_575 rfl (lv_at hl 1 rfl) ?_
  refine lv_aload_n hx hb dL_576 rfl (lv_at hl 3 rfl) ?_
  refine lv_iload_n hx hb dL_577 rfl (lv_at hl 0 rfl) ?_
  refine lv_iconst (v := nI 1) hx hb dL_578 (by decide +kernel) ?_
  refine lv_iadd hx hb dL_579 ?_
  refine hr_eqi (nI_add i 1) ?_
  refine lw_sld hx hb hX hbl hbA hS (i := i + 1) (by omega) hL dL_580 ?_
  refine call2 (B := fun w2 => w2) (va_runV (C := RMO) (As := [.int (xs (i + 1))]) (rest := [.int r1]) ⟨hx, hb, hml, hown, hts⟩ (g_tries l dC dI cI cZ cG hM k n tf ff iS sc sn mv sg dn sf s5 pr gd tc wr w2 hMo (xs (i + 1)) H.size rs.2.2.1 rs.1 (Nat.le_trans rs.2.1 ra.2.1)) (hr_cwV 1 hts kw_705 kw_706 kw_707 kw_33 kw_708 (by decide +kernel) (⟨Nat.le_of_ble_eq_true rfl, Nat.le_of_ble_eq_true rfl⟩)) (pre2W hKX hP hD hat2) rfl rfl hl.1 rfl (lv_room (Nat.le_of_ble_eq_true rfl)) dL_581 ⟨Nat.le_of_ble_eq_true rfl, Nat.le_of_ble_eq_true rfl⟩) hP hD hS hA (fun r2 u2 H locs hr2 hP hD hS => ?_)
  obtain ⟨hr2, hMo⟩ := hr2
  refine lv_icmp_eq (tgt := 589) hx hb dL_584 (by decide) (fun _ => ?_) (fun c9 => absurd (by rw [hr1, hr2, rr_tries rr (Nat.le_trans rs.2.1 ra.2.1)]) c9)
  exact kont _ _ _ _ _ (⟨_, _, _, _, _, _, _, _, _, _, _, _, _, _, _, _, _, _, hCo, hMo, ra, rs, rr, hdn9⟩) hP hD hS hl
