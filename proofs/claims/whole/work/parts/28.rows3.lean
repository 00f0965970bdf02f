/-! new rows -/
section HR4
variable {p : Program} {l : Launch} {e : Env} {R : Room} {s : State} {m : MethodId} {args : Array Value} {below : List Frame} {meth : Method} {c : Code} {H : Heap} {locs : List Loc} {cells slots : Nat} {Q : State → Prop}
variable {cc : ByteArray} {pc : Nat} {ls : Array Slot} {rest : List Value} {A : Nat → Prop} {ws : va_W} {H0 : Heap} {dC : Nat → ClassId} {dI : Nat → Nat → Nat} {cI cZ cG : ClassId}
theorem hr_newI (hexec : p.tables.exec = Jvm.exec) (hb : c.code = cc) (harr : (Cond.arrayClass .int).before args s = true) (hKX : KX dC dI cI cZ cG s) (hP : va_P (dC, dI) vwCl ws H) (hD : va_D A ws) (hS : va_S A H0 H locs) (hA : ∀ q, H0.size ≤ q → A q) {N : Nat} (hN : N < 2 ^ 20) (hcells : cells + 1 ≤ R.cells) (hslots : slots + N ≤ R.slots) (hdg : decode cc pc = .ok (.newarray .int, 2))
    (kk : ∀ (q : Nat) (H1 : Heap), va_P (dC, dI) vwCl (ws ++ [(q, .inl (cI, N, .inl (fun _ => nI 0)))]) H1 → va_D A (ws ++ [(q, .inl (cI, N, .inl (fun _ => nI 0)))]) → va_S A H0 H1 locs → W p l e R s m args below meth c H1 locs (cells + 1) (slots + N) Q (F0 m (pc + 2) ls (.ref q :: rest))) : W p l e R s m args below meth c H locs cells slots Q (F0 m pc ls (.int (nI N) :: rest)) := by
  refine va_newa (atype := .int) (ty := .int) (a0 := (N, .inl (fun _ => nI 0))) (N' := N) hexec hb harr rfl hKX.1 hP hD hS hA (fun cA => ?_) (nI_pos (by omega)) (nI_clamp (by omega)) (by show N * 4 ≤ 536870912; omega) hcells hslots hdg (fun q cA H1 hK2 hP1 hD1 hS1 => ?_)
  · show arrV cA N (fun _ => .int (nI 0)) = arrV cA N (fun _ => defaultValue .int)
    rw [nI_0]
    rfl
  · have h1 : s.vm.findClass ("[" ++ FieldType.int.toString) = some cA := (hK2.2 3 (cA, .int) rfl).2
    have h2 : s.vm.findClass ("[" ++ FieldType.int.toString) = some cI := (hKX.1.2 0 (cI, .int) rfl).2
    have e9 : cI = cA := Option.some.inj (h2.symm.trans h1)
    subst e9
    exact kk q H1 hP1 hD1 hS1
theorem hr_newZ (hexec : p.tables.exec = Jvm.exec) (hb : c.code = cc) (harr : (Cond.arrayClass .boolean).before args s = true) (hKX : KX dC dI cI cZ cG s) (hP : va_P (dC, dI) vwCl ws H) (hD : va_D A ws) (hS : va_S A H0 H locs) (hA : ∀ q, H0.size ≤ q → A q) {N : Nat} (hN : N < 2 ^ 20) (hcells : cells + 1 ≤ R.cells) (hslots : slots + N ≤ R.slots) (hdg : decode cc pc = .ok (.newarray .boolean, 2))
    (kk : ∀ (q : Nat) (H1 : Heap), va_P (dC, dI) vwCl (ws ++ [(q, .inl (cZ, N, .inl (fun _ => nI 0)))]) H1 → va_D A (ws ++ [(q, .inl (cZ, N, .inl (fun _ => nI 0)))]) → va_S A H0 H1 locs → W p l e R s m args below meth c H1 locs (cells + 1) (slots + N) Q (F0 m (pc + 2) ls (.ref q :: rest))) : W p l e R s m args below meth c H locs cells slots Q (F0 m pc ls (.int (nI N) :: rest)) := by
  refine va_newa (atype := .boolean) (ty := .boolean) (a0 := (N, .inl (fun _ => nI 0))) (N' := N) hexec hb harr rfl hKX.1 hP hD hS hA (fun cA => ?_) (nI_pos (by omega)) (nI_clamp (by omega)) (by show N * 1 ≤ 536870912; omega) hcells hslots hdg (fun q cA H1 hK2 hP1 hD1 hS1 => ?_)
  · show arrV cA N (fun _ => .int (nI 0)) = arrV cA N (fun _ => defaultValue .boolean)
    rw [nI_0]
    rfl
  · have h1 : s.vm.findClass ("[" ++ FieldType.boolean.toString) = some cA := (hK2.2 3 (cA, .boolean) rfl).2
    have h2 : s.vm.findClass ("[" ++ FieldType.boolean.toString) = some cZ := (hKX.1.2 1 (cZ, .boolean) rfl).2
    have e9 : cZ = cA := Option.some.inj (h2.symm.trans h1)
    subst e9
    exact kk q H1 hP1 hD1 hS1
end HR4
theorem fillF_upO (f : Nat → Option Nat) (x : Option Nat) (i : Nat) : va_up (fillF f x i) i x = fillF f x (i + 1) := by
  funext j
  unfold va_up fillF
  by_cases e : j = i
  · simp [e]
  · by_cases l : j < i
    · simp [e, l, show j < i + 1 by omega]
    · simp [e, l, show ¬ j < i + 1 by omega]
/-- so many SHARDS at first -/
def newK (x : Int32) : Nat := if nI 1 ≤ x then (if x ≤ nI 4 then x.toNatClampNeg else 4) else 1
theorem newK_lt {x : Int32} (h : ¬ nI 1 ≤ x) : newK x = 1 := if_neg h
theorem newK_gt {x : Int32} (h1 : nI 1 ≤ x) (h : ¬ x ≤ nI 4) : newK x = 4 := by
  unfold newK
  rw [if_pos h1, if_neg h]
theorem newK_ok {x : Int32} (h1 : nI 1 ≤ x) (h4 : x ≤ nI 4) : ∃ q, 1 ≤ q ∧ q ≤ 4 ∧ x = nI q := shk_ok (fun z => by
  rw [Int32.lt_iff_toInt_lt] at z
  rw [Int32.le_iff_toInt_le] at h1
  omega) h4
theorem newK_q {q : Nat} (h1 : 1 ≤ q) (h4 : q ≤ 4) : newK (nI q) = q := by
  unfold newK
  rw [if_pos (nI_le h1 (by omega)), if_pos (nI_le h4 (by decide)), nI_clamp (by omega)]
