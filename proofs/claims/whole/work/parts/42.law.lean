def R_law : String := "ShardRowsLaw"
def lw_P (b : Addr) (xs : List Int32) (args : Array Value) (s : State) : Prop := args = #[.ref b] ∧ s.IntsAt b xs ∧ xs.length ≤ 2049 ∧ (Jvm.Cond.and given_1 narrow_1).before args s = true
def lw_Q (_ : Array Value) (s : State) (o : Outcome) (t : State) : Prop := o = .returned (some (.int 1)) ∧ Framed s o t [] 600000 7302250
def lw_Z (below : List Frame) (a : Array Value) (s : State) : State → Prop := fun t => ∃ o, t.status = .running ∧ Ended t below o ∧ lw_Q a s o t
/-- the law's own end, with 1 on the stack, nothing written that was there before, its room as the claim has it -/
theorem lw_ret {p : Program} {l : Launch} {e : Env} {s : State} {m : MethodId} {below : List Frame} {meth : Method} {c : Code} {b : Nat} (hx : p.tables.exec = Jvm.exec) (hb : c.code = code) (hr : meth.sig.returnType = ret) (hlocks : meth.locks = false) {pc : Nat} {H : Heap} {ls : Array Slot} (hdg : decode code pc = .ok (.ireturn, 1)) : W p l e room_1 s m #[Value.ref b] below meth c H [] 600000 7302250 (lw_Z below #[Value.ref b] s) (F0 m pc ls [.int 1]) := by
  intro T hT X
  obtain ⟨fs, hret, hrun, hended, hW, hframe⟩ := X.leave (v := some (.int 1)) (hlocks := hlocks) (fun h => by rw [hr] at h; cases h)
  have hmeth' : T.vm.method? m = some meth := X.method'
  refine ⟨T.setFrames fs, ?_, .returned (some (.int 1)), hrun, hended, rfl, ⟨_, rfl⟩, hW, hframe⟩
  jvm_step X.here [X.here.top, hx, hb, hdg, hmeth', hr, ret, narrow_b1]
  (try refine ⟨rfl, ?_⟩); (try refine ⟨rfl, ?_⟩)
  first | (intro acts; rw [hret _ acts rfl rfl rfl]) | rw [hret _ _ rfl rfl rfl]
  exact Steps.refl _
/-- what holds at the law's entry: the machine, the code, the tables' words (any of lw_tbl by 'hts w (by decide +kernel)'), the script of L ints xs at the cell b, what the Statement gives of the start (any of its parts by flat_of_before) -/
def lw_At (p : Program) (s : State) (m : MethodId) (meth : Method) (c : Code) (b L : Nat) (xs : Nat → Int32) : Prop :=
  p.tables.exec = Jvm.exec ∧ c.code = code ∧ meth.sig.returnType = ret ∧ c.maxLocals = 4 ∧ s.vm.findClass R_law = some m.cls ∧ (∀ w ∈ lw_tbl, w.before #[Value.ref b] s = true) ∧ va_X b L xs s s.heap ∧ b < s.heap.size ∧ meth.locks = false ∧ (Jvm.Cond.and given_1 narrow_1).before #[Value.ref b] s = true
theorem and31 (x : Int32) : ∃ k, k < 32 ∧ x &&& nI 31 = nI k := by
  refine ⟨(x &&& nI 31).toBitVec.toNat, ?_, Int32.toBitVec_inj.mp (by show _ = BitVec.ofNat 32 _; simp)⟩
  have h : (x &&& nI 31).toBitVec = x.toBitVec &&& (nI 31).toBitVec := rfl
  rw [h, BitVec.toNat_and, show (nI 31).toBitVec.toNat = 31 by decide +kernel]
  exact Nat.lt_succ_of_le Nat.and_le_right
theorem lw_le {L i : Nat} (hL : L ≤ 2049) (hi : i ≤ 2060) (h : ¬ (Int32.ofNat L - nI 4 < nI i)) : i + 4 ≤ L := by
  rcases Nat.lt_or_ge L 4 with a | a
  · refine absurd ?_ h
    rw [Int32.lt_iff_toInt_lt, nI_toInt (show i < 2 ^ 31 by omega)]
    rcases (show L = 0 ∨ L = 1 ∨ L = 2 ∨ L = 3 by omega) with rfl | rfl | rfl | rfl
    · rw [show (Int32.ofNat 0 - nI 4).toInt = -4 by decide +kernel]
      omega
    · rw [show (Int32.ofNat 1 - nI 4).toInt = -3 by decide +kernel]
      omega
    · rw [show (Int32.ofNat 2 - nI 4).toInt = -2 by decide +kernel]
      omega
    · rw [show (Int32.ofNat 3 - nI 4).toInt = -1 by decide +kernel]
      omega
  · have e : Int32.ofNat L - nI 4 = nI (L - 4) := pk_sub a
    rw [e] at h
    rcases Nat.lt_or_ge (L - 4) i with q | q
    · exact absurd (nI_lt q (by omega)) h
    · omega
set_option maxHeartbeats 1000000 in
set_option maxRecDepth 100000 in
/-- the law's loop -/
theorem law_loop {p : Program} {e : Env} {s : State} {m : MethodId} {below : List Frame} {meth : Method} {c : Code} {l : Launch} {b L : Nat} {xs : Nat → Int32} {dC : Nat → ClassId} {dI : Nat → Nat → Nat} {cI cZ cG : ClassId} {hC hM : Nat} (hLC : LC9 p s m c b L xs dC dI cI cZ cG) (hr : meth.sig.returnType = ret) (hlocks : meth.locks = false) : ∀ (n9 i : Nat), i ≤ L + 1 → L + 2 ≤ i + n9 → ∀ (w1 w2 : va_W) (H : Heap) (locs : List Loc) (ls : Array Slot), PO9 cI cZ cG hC hM w1 w2 → va_P (dC, dI) vwCl (w1 ++ w2) H → va_D (fun q : Nat => s.heap.size ≤ q) (w1 ++ w2) → va_S (fun q : Nat => s.heap.size ≤ q) s.heap H locs → lv_has ls 4 [(3, .int (nI i)), (2, .ref hM), (1, .ref hC), (0, .ref b)] → W p l e room_1 s m #[Value.ref b] below meth c H locs 51 733 (lw_Z below #[Value.ref b] s) (F0 m 28 ls []) := by
  intro n9
  induction n9 with
  | zero =>
    intro i h1 h2
    exact absurd h2 (by omega)
  | succ n9 ih =>
    intro i h1 h2 w1 w2 H locs ls hPO hP hD hS hl
    obtain ⟨hx, hb, hml, hown, hts, hX, hbl, hL, hKX⟩ := id hLC
    have hbA : ¬ (fun q : Nat => s.heap.size ≤ q) b := Nat.not_le.mpr hbl
    refine lv_iload_n hx hb dL_28 rfl (lv_at hl 0 rfl) ?_
    refine lv_aload_n hx hb dL_29 rfl (lv_at hl 3 rfl) ?_
    refine va_slen hx hb hX hbl hbA hS dL_30 ?_
    refine lv_iconst (v := nI 4) hx hb dL_31 (by decide +kernel) ?_
    refine lv_isub hx hb dL_32 ?_
    refine lv_icmp_gt (tgt := 595) hx hb dL_33 (by decide) (fun c9 => ?_) (fun c9 => ?_)
    · refine lv_iconst (v := 1) hx hb dL_595 (by decide) ?_
      refine va_forget (fun q hq => hS.2.2 q hq) ?_
      refine W.widen (k := 600000) (n := 7302250) (by omega) (by omega) ?_
      exact lw_ret hx hb hr hlocks dL_596
    · have hi : i + 4 ≤ L := lw_le hL (by omega) c9
      refine lv_aload_n hx hb dL_36 rfl (lv_at hl 3 rfl) ?_
      refine lv_iload_n hx hb dL_37 rfl (lv_at hl 0 rfl) ?_
      refine lw_sld hx hb hX hbl hbA hS (i := i) (by omega) hL dL_38 ?_
      refine lv_bipush (v := nI 31) hx hb dL_39 (by decide +kernel) ?_
      refine lv_iand hx hb dL_41 ?_
      obtain ⟨k9, hk9, ek9⟩ := and31 (xs i)
      refine hr_eqi ek9 ?_
      have kont : ∀ (w1 w2 : va_W) (H : Heap) (locs : List Loc) (ls : Array Slot), PO9 cI cZ cG hC hM w1 w2 → va_P (dC, dI) vwCl (w1 ++ w2) H → va_D (fun q : Nat => s.heap.size ≤ q) (w1 ++ w2) → va_S (fun q : Nat => s.heap.size ≤ q) s.heap H locs → lv_has ls 4 [(3, .int (nI i)), (2, .ref hM), (1, .ref hC), (0, .ref b)] → W p l e room_1 s m #[Value.ref b] below meth c H locs 51 733 (lw_Z below #[Value.ref b] s) (F0 m 589 ls []) := by
        intro w1 w2 H locs ls hPO hP hD hS hl
        refine lv_iinc (v := nI (i + 4)) (lv' := [(3, .int (nI (i + 4))), (2, .ref hM), (1, .ref hC), (0, .ref b)]) hx hb dL_589 hl (k := 0) rfl (nI_add i 4) (by decide) rfl (fun ls hl => ?_)
        refine lv_goto (tgt := 28) hx hb dL_592 (by decide) ?_
        exact ih (i + 4) (by omega) (by omega) w1 w2 H locs ls hPO hP hD hS hl
      rcases Nat.lt_or_ge k9 19 with h | h
      · rcases (show k9 = 0 ∨ k9 = 1 ∨ k9 = 2 ∨ k9 = 3 ∨ k9 = 4 ∨ k9 = 5 ∨ k9 = 6 ∨ k9 = 7 ∨ k9 = 8 ∨ k9 = 9 ∨ k9 = 10 ∨ k9 = 11 ∨ k9 = 12 ∨ k9 = 13 ∨ k9 = 14 ∨ k9 = 15 ∨ k9 = 16 ∨ k9 = 17 ∨ k9 = 18 by omega) with rfl | rfl | rfl | rfl | rfl | rfl | rfl | rfl | rfl | rfl | rfl | rfl | rfl | rfl | rfl | rfl | rfl | rfl | rfl
        · exact lv_tableIn (tgt := 132) hx hb dL_42 (by decide +kernel) (by decide +kernel) (off := 90) (by decide +kernel) (by decide) (lw_case0 hLC hi kont hPO hP hD hS hl)
        · exact lv_tableIn (tgt := 155) hx hb dL_42 (by decide +kernel) (by decide +kernel) (off := 113) (by decide +kernel) (by decide) (lw_case1 hLC hi kont hPO hP hD hS hl)
        · exact lv_tableIn (tgt := 188) hx hb dL_42 (by decide +kernel) (by decide +kernel) (off := 146) (by decide +kernel) (by decide) (lw_case2 hLC hi kont hPO hP hD hS hl)
        · exact lv_tableIn (tgt := 221) hx hb dL_42 (by decide +kernel) (by decide +kernel) (off := 179) (by decide +kernel) (by decide) (lw_case3 hLC hi kont hPO hP hD hS hl)
        · exact lv_tableIn (tgt := 244) hx hb dL_42 (by decide +kernel) (by decide +kernel) (off := 202) (by decide +kernel) (by decide) (lw_case4 hLC hi kont hPO hP hD hS hl)
        · exact lv_tableIn (tgt := 257) hx hb dL_42 (by decide +kernel) (by decide +kernel) (off := 215) (by decide +kernel) (by decide) (lw_case5 hLC hi kont hPO hP hD hS hl)
        · exact lv_tableIn (tgt := 270) hx hb dL_42 (by decide +kernel) (by decide +kernel) (off := 228) (by decide +kernel) (by decide) (lw_case6 hLC hi kont hPO hP hD hS hl)
        · exact lv_tableIn (tgt := 283) hx hb dL_42 (by decide +kernel) (by decide +kernel) (off := 241) (by decide +kernel) (by decide) (lw_case7 hLC hi kont hPO hP hD hS hl)
        · exact lv_tableIn (tgt := 306) hx hb dL_42 (by decide +kernel) (by decide +kernel) (off := 264) (by decide +kernel) (by decide) (lw_case8 hLC hi kont hPO hP hD hS hl)
        · exact lv_tableIn (tgt := 329) hx hb dL_42 (by decide +kernel) (by decide +kernel) (off := 287) (by decide +kernel) (by decide) (lw_case9 hLC hi kont hPO hP hD hS hl)
        · exact lv_tableIn (tgt := 342) hx hb dL_42 (by decide +kernel) (by decide +kernel) (off := 300) (by decide +kernel) (by decide) (lw_case10 hLC hi kont hPO hP hD hS hl)
        · exact lv_tableIn (tgt := 365) hx hb dL_42 (by decide +kernel) (by decide +kernel) (off := 323) (by decide +kernel) (by decide) (lw_case11 hLC hi kont hPO hP hD hS hl)
        · exact lv_tableIn (tgt := 428) hx hb dL_42 (by decide +kernel) (by decide +kernel) (off := 386) (by decide +kernel) (by decide) (lw_case12 hLC hi kont hPO hP hD hS hl)
        · exact lv_tableIn (tgt := 451) hx hb dL_42 (by decide +kernel) (by decide +kernel) (off := 409) (by decide +kernel) (by decide) (lw_case13 hLC hi kont hPO hP hD hS hl)
        · exact lv_tableIn (tgt := 494) hx hb dL_42 (by decide +kernel) (by decide +kernel) (off := 452) (by decide +kernel) (by decide) (lw_case14 hLC hi kont hPO hP hD hS hl)
        · exact lv_tableIn (tgt := 517) hx hb dL_42 (by decide +kernel) (by decide +kernel) (off := 475) (by decide +kernel) (by decide) (lw_case15 hLC hi kont hPO hP hD hS hl)
        · exact lv_tableIn (tgt := 530) hx hb dL_42 (by decide +kernel) (by decide +kernel) (off := 488) (by decide +kernel) (by decide) (lw_case16 hLC hi kont hPO hP hD hS hl)
        · exact lv_tableIn (tgt := 553) hx hb dL_42 (by decide +kernel) (by decide +kernel) (off := 511) (by decide +kernel) (by decide) (lw_case17 hLC hi kont hPO hP hD hS hl)
        · exact lv_tableIn (tgt := 566) hx hb dL_42 (by decide +kernel) (by decide +kernel) (off := 524) (by decide +kernel) (by decide) (lw_case18 hLC hi kont hPO hP hD hS hl)
      · exact lv_tableOut (tgt := 589) hx hb dL_42 (Or.inr (by rw [nI_toInt (by omega)]; omega)) (by decide) (kont _ _ _ _ _ hPO hP hD hS hl)
set_option maxHeartbeats 4000000 in
set_option maxRecDepth 100000 in
theorem whole_start {p : Program} {e : Env} {s : State} {m : MethodId} {below : List Frame} {meth : Method} {c : Code} (l : Launch) {b L : Nat} {xs : Nat → Int32} (hL : L ≤ 2049) (C0 : lw_At p s m meth c b L xs) : W p l e room_1 s m #[Value.ref b] below meth c s.heap [] 0 0 (lw_Z below #[Value.ref b] s) (entryFrame m ([Value.ref b] : List Value).toArray 4) := by
  obtain ⟨hx, hb, hr, hml, hown0, hts0, hX, hbl, hlocks, hgv⟩ := C0
  have hown : s.vm.findClass RLW = some m.cls := hown0
  have htT : ∀ w ∈ TB, w.before #[Value.ref b] s = true := fun w h => hts0 w (List.mem_filter.mp h).1
  have hts : ∀ w ∈ (Jvm.Cond.initialized "ShardRowsLaw") :: TB, w.before #[Value.ref b] s = true := fun w h => by
    rcases List.mem_cons.mp h with q | q
    · rw [q]; exact htT _ kw_22
    · exact htT w q
  have hA : ∀ q : Nat, s.heap.size ≤ q → (fun q : Nat => s.heap.size ≤ q) q := fun _ h => h
  have hbA : ¬ (fun q : Nat => s.heap.size ≤ q) b := Nat.not_le.mpr hbl
  obtain ⟨c0, i0, hn0⟩ := u_known (C := RTR) (T := TTR) (N := 3) (n := 3) htT inTR (htT _ kw_50)
  obtain ⟨c1, i1, hn1⟩ := u_known (C := RGR) (T := TGR) (N := 6) (n := 6) htT inGR (htT _ kw_70)
  obtain ⟨c2, i2, hn2⟩ := u_known (C := RDR) (T := TDR) (N := 2) (n := 2) htT inDR (htT _ kw_211)
  obtain ⟨c3, i3, hn3⟩ := u_known (C := RRR) (T := TRR) (N := 4) (n := 4) htT inRR (htT _ kw_190)
  obtain ⟨c4, i4, hn4⟩ := u_known (C := RGY) (T := TGY) (N := 2) (n := 2) htT inGY (htT _ kw_148)
  obtain ⟨c5, i5, hn5⟩ := u_known (C := RSP) (T := TSP) (N := 5) (n := 5) htT inSP (htT _ kw_161)
  obtain ⟨c6, i6, hn6⟩ := u_known (C := RSE) (T := TSE) (N := 10) (n := 10) htT inSE (htT _ kw_109)
  obtain ⟨c7, i7, hn7⟩ := u_known (C := RSR) (T := TSR) (N := 8) (n := 8) htT inSR (htT _ kw_36)
  obtain ⟨c8, i8, hn8⟩ := u_known (C := RMO) (T := TMO) (N := 24) (n := 24) htT inMO (htT _ kw_504)
  obtain ⟨dC, dI, hKc⟩ : ∃ (dC : Nat → ClassId) (dI : Nat → Nat → Nat), ∀ (k : Nat) (q : vw_C), vwCl[k]? = some q → u_Kn s q.1 q.2.1 q.2.2 (dC k) (dI k) := by
    refine ⟨fun k => if k = 0 then c0 else if k = 1 then c1 else if k = 2 then c2 else if k = 3 then c3 else if k = 4 then c4 else if k = 5 then c5 else if k = 6 then c6 else if k = 7 then c7 else c8, fun k => if k = 0 then i0 else if k = 1 then i1 else if k = 2 then i2 else if k = 3 then i3 else if k = 4 then i4 else if k = 5 then i5 else if k = 6 then i6 else if k = 7 then i7 else i8, ?_⟩
    intro k q hq
    match k, hq with
    | 0, hq => cases hq; exact hn0
    | 1, hq => cases hq; exact hn1
    | 2, hq => cases hq; exact hn2
    | 3, hq => cases hq; exact hn3
    | 4, hq => cases hq; exact hn4
    | 5, hq => cases hq; exact hn5
    | 6, hq => cases hq; exact hn6
    | 7, hq => cases hq; exact hn7
    | 8, hq => cases hq; exact hn8
    | k + 9, hq => simp [vwCl] at hq
  obtain ⟨cI, kI, pI, a1, a2, a3⟩ := Cond.arrayClass_spec (htT _ kw_68)
  obtain ⟨cZ, kZ, pZ, z1, z2, z3⟩ := Cond.arrayClass_spec (htT _ kw_209)
  have hAO : va_AOA .int s := hts0 (.arrayOver (.array .int)) (List.mem_of_getElem? (i := 115) (by decide +kernel))
  obtain ⟨pG, cG, kG, g1, g2, g3, g4, g5⟩ := arrayOverA_spec hAO
  have hKt : ∀ (k : Nat) (q : ClassId × FieldType), ([(cI, .int), (cZ, .boolean), (cG, .array .int)] : List (ClassId × FieldType))[k]? = some q → ArrOfT s q.1 q.2 ∧ va_RA s q.1 q.2 := by
    intro k q hq
    match k, hq with
    | 0, hq => cases hq; exact ⟨fun n z => ⟨fun k h => (by cases h), kI, a2, pI, a3⟩, a1⟩
    | 1, hq => cases hq; exact ⟨fun n z => ⟨fun k h => (by cases h), kZ, z2, pZ, z3⟩, z1⟩
    | 2, hq => cases hq; exact ⟨fun n z => ⟨fun k h => (by cases h), kG, g3, pG, g4⟩, g5⟩
    | k + 3, hq => simp at hq
  have hnw1 : va_Nw nst1 s := va_tabs (A := #[Value.ref b]) rfl (rfl : s.vm = s.vm) (hts0 nst1 (List.mem_of_getElem? (i := 337) (by decide +kernel)))
  have hnw2 : va_Nw nst2 s := va_tabs (A := #[Value.ref b]) rfl (rfl : s.vm = s.vm) (hts0 nst2 (List.mem_of_getElem? (i := 453) (by decide +kernel)))
  have hnw3 : va_Nw nst3 s := va_tabs (A := #[Value.ref b]) rfl (rfl : s.vm = s.vm) (hts0 nst3 (List.mem_of_getElem? (i := 51) (by decide +kernel)))
  have hnw4 : va_Nw nst4 s := va_tabs (A := #[Value.ref b]) rfl (rfl : s.vm = s.vm) (hts0 nst4 (List.mem_of_getElem? (i := 71) (by decide +kernel)))
  have hnw5 : va_Nw nst5 s := va_tabs (A := #[Value.ref b]) rfl (rfl : s.vm = s.vm) (hts0 nst5 (List.mem_of_getElem? (i := 110) (by decide +kernel)))
  have hnw6 : va_Nw nst6 s := va_tabs (A := #[Value.ref b]) rfl (rfl : s.vm = s.vm) (hts0 nst6 (List.mem_of_getElem? (i := 149) (by decide +kernel)))
  have hnw7 : va_Nw nst7 s := va_tabs (A := #[Value.ref b]) rfl (rfl : s.vm = s.vm) (hts0 nst7 (List.mem_of_getElem? (i := 191) (by decide +kernel)))
  have hnw8 : va_Nw nst8 s := va_tabs (A := #[Value.ref b]) rfl (rfl : s.vm = s.vm) (hts0 nst8 (List.mem_of_getElem? (i := 212) (by decide +kernel)))
  have hKX : KX dC dI cI cZ cG s := ⟨⟨hKc, hKt⟩, hnw1, hnw2⟩
  have hKZ : KZ dC dI cI cZ cG s := ⟨hKX, hAO, hnw3, hnw4, hnw5, hnw6, hnw7, hnw8⟩
  have hK := hKX.1
  have hLC : LC9 p s m c b L xs dC dI cI cZ cG := ⟨hx, hb, hml, hown, hts, hX, hbl, hL, hKX⟩
  have hS : va_S (fun q : Nat => s.heap.size ≤ q) s.heap s.heap [] := va_S.rf
  have hP : va_P (dC, dI) vwCl [] s.heap := fun k q h => by simp at h
  have hD : va_D (fun q : Nat => s.heap.size ≤ q) [] := ⟨fun i j p q h => by simp at h, fun k q h => by simp at h⟩
  have hl := lv_entry ([.ref b]) (n := 4) (Nat.le_of_ble_eq_true rfl)
  rw [lg_entry_eq]
  generalize (lg_sl ([.ref b]) ++ List.replicate (4 - (lg_sl ([.ref b])).length) Slot.unset).toArray = ls at hl ⊢
  have hl : lv_has ls 4 [(0, .ref b)] := hl
  refine va_new (ci := 7) (fs := [.null, .null, .null, .null, .null, .null, .null, .int (nI 0)]) (C := RSR) (T := TSR) (N := 8) hx hb hts (fun w h => List.mem_cons_of_mem _ (inSR w h)) tySR tySR_ok hown (htT _ kw_35) (htT _ kw_36) (htT _ kw_23) hK hP hD hS hA rfl (fun j hj => by rcases (show j = 0 ∨ j = 1 ∨ j = 2 ∨ j = 3 ∨ j = 4 ∨ j = 5 ∨ j = 6 ∨ j = 7 by omega) with rfl | rfl | rfl | rfl | rfl | rfl | rfl | rfl <;> rfl) (Nat.le_of_ble_eq_true rfl) (Nat.le_of_ble_eq_true rfl) dL_0 (fun hC H hP hD hS => ?_)
  refine lv_dup hx hb dL_3 rfl ?_
  refine lv_aload_n hx hb dL_4 rfl (lv_at hl 0 rfl) ?_
  refine lv_iconst (v := nI 0) hx hb dL_5 (by decide +kernel) ?_
  refine vp_callSi (va_runS (As := [.ref b, .int (nI 0)]) (rest := [.ref hC, .ref hC]) ⟨hx, hb, hml, hown, hts⟩ (c_LW_cell l b L xs hL) (hr_cwS 2 hts kw_500 kw_501 kw_22 kw_502 (by decide +kernel) (⟨Nat.le_of_ble_eq_true rfl, Nat.le_of_ble_eq_true rfl⟩)) (preX hX hbl hbA hS) rfl rfl hl.1 rfl (lv_room (Nat.le_of_ble_eq_true rfl)) dL_6 ⟨Nat.le_of_ble_eq_true rfl, Nat.le_of_ble_eq_true rfl⟩).run (fun r1 hr1 => ?_)
  refine call2v (w1 := []) (B := fun w2 => w2) (va_runI (As := [.int r1]) (rest := [.ref hC]) ⟨hx, hb, hml, hown, hts⟩ (f_init l dC dI cI cZ cG hC r1 H.size) (hr_cwI 1 hts kw_37 kw_38 kw_23 kw_39 rfl (by decide +kernel) (⟨Nat.le_of_ble_eq_true rfl, Nat.le_of_ble_eq_true rfl⟩)) (pre2Z (w1 := []) hKZ hP hD) rfl rfl hl.1 rfl (lv_room (Nat.le_of_ble_eq_true rfl)) dL_9 ⟨Nat.le_of_ble_eq_true rfl, Nat.le_of_ble_eq_true rfl⟩) hP hD hS hA (fun w1 H locs hw1 hP hD hS => ?_)
  refine lv_astore_n (lv' := [(1, .ref hC), (0, .ref b)]) hx hb dL_12 rfl hl (by decide) rfl (fun ls hl => ?_)
  have hP : va_P (dC, dI) vwCl w1 H := hP
  have hD : va_D (fun q : Nat => s.heap.size ≤ q) w1 := hD
  refine va_new (ci := 8) (fs := [.int (nI 0), .int (nI 0), .int (nI 0), .null, .null, .int (nI 0), .int (nI 0), .int (nI 0), .int (nI 0), .int (nI 0), .null, .null, .null, .null, .null, .null, .null, .int (nI 0), .null, .null, .null, .null, .null, .int (nI 0)]) (C := RMO) (T := TMO) (N := 24) hx hb hts (fun w h => List.mem_cons_of_mem _ (inMO w h)) tyMO tyMO_ok hown (htT _ kw_503) (htT _ kw_504) (htT _ kw_33) hK hP hD hS hA rfl (fun j hj => by rcases (show j = 0 ∨ j = 1 ∨ j = 2 ∨ j = 3 ∨ j = 4 ∨ j = 5 ∨ j = 6 ∨ j = 7 ∨ j = 8 ∨ j = 9 ∨ j = 10 ∨ j = 11 ∨ j = 12 ∨ j = 13 ∨ j = 14 ∨ j = 15 ∨ j = 16 ∨ j = 17 ∨ j = 18 ∨ j = 19 ∨ j = 20 ∨ j = 21 ∨ j = 22 ∨ j = 23 by omega) with rfl | rfl | rfl | rfl | rfl | rfl | rfl | rfl | rfl | rfl | rfl | rfl | rfl | rfl | rfl | rfl | rfl | rfl | rfl | rfl | rfl | rfl | rfl | rfl <;> rfl) (Nat.le_of_ble_eq_true rfl) (Nat.le_of_ble_eq_true rfl) dL_13 (fun hM H hP hD hS => ?_)
  refine lv_dup hx hb dL_16 rfl ?_
  refine lv_aload_n hx hb dL_17 rfl (lv_at hl 1 rfl) ?_
  refine lv_iconst (v := nI 0) hx hb dL_18 (by decide +kernel) ?_
  refine vp_callSi (va_runS (As := [.ref b, .int (nI 0)]) (rest := [.ref hM, .ref hM]) ⟨hx, hb, hml, hown, hts⟩ (c_LW_cell l b L xs hL) (hr_cwS 2 hts kw_500 kw_501 kw_22 kw_502 (by decide +kernel) (⟨Nat.le_of_ble_eq_true rfl, Nat.le_of_ble_eq_true rfl⟩)) (preX hX hbl hbA hS) rfl rfl hl.1 rfl (lv_room (Nat.le_of_ble_eq_true rfl)) dL_19 ⟨Nat.le_of_ble_eq_true rfl, Nat.le_of_ble_eq_true rfl⟩).run (fun r2 hr2 => ?_)
  refine call2v (w1 := w1) (B := fun w2 => w2) (va_runI (As := [.int r2]) (rest := [.ref hM]) ⟨hx, hb, hml, hown, hts⟩ (g_init l dC dI cI cZ cG hM r2 H.size) (hr_cwI 1 hts kw_505 kw_506 kw_33 kw_507 rfl (by decide +kernel) (⟨Nat.le_of_ble_eq_true rfl, Nat.le_of_ble_eq_true rfl⟩)) (pre2S hKX hP hD) rfl rfl hl.1 rfl (lv_room (Nat.le_of_ble_eq_true rfl)) dL_22 ⟨Nat.le_of_ble_eq_true rfl, Nat.le_of_ble_eq_true rfl⟩) hP hD hS hA (fun w2 H locs hw2 hP hD hS => ?_)
  refine lv_astore_n (lv' := [(2, .ref hM), (1, .ref hC), (0, .ref b)]) hx hb dL_25 rfl hl (by decide) rfl (fun ls hl => ?_)
  refine lv_iconst (v := nI 1) hx hb dL_26 (by decide +kernel) ?_
  refine lv_istore_n (lv' := [(3, .int (nI 1)), (2, .ref hM), (1, .ref hC), (0, .ref b)]) hx hb dL_27 rfl hl (by decide) rfl (fun ls hl => ?_)
  have er : r2 = r1 := by rw [hr1, hr2]
  rw [er] at hw2
  have hPO : PO9 cI cZ cG hC hM w1 w2 := ⟨_, _, _, _, _, _, _, _, _, _, _, _, _, _, _, _, _, _, hw1, hw2, ⟨newK_in r1, by decide, fun j h => absurd h (Nat.not_lt_zero _), fun j h => absurd h (Nat.not_lt_zero _), fun j h => absurd h (Nat.not_lt_zero _)⟩, ⟨by decide, Nat.le_refl _, ⟨by decide, fun _ => ⟨rfl, rfl⟩⟩, fun _ => rfl, fun _ _ => rfl, fun j h => absurd h (Nat.not_lt_zero _), fun _ => Nat.zero_le _, fun q h => absurd h (Nat.not_lt_zero _)⟩, ⟨fun _ => (by decide : 0 < 2), fun _ => (by decide : 0 < 2), fun _ h => absurd rfl h, fun _ _ => rfl, fun _ _ => rfl⟩, by decide⟩
  exact law_loop hLC hr hlocks (L + 2) 1 (by omega) (by omega) w1 w2 H locs ls hPO hP hD hS hl
