theorem hr_inc (n : Nat) : nI n + Int32.ofInt 1 = nI (n + 1) := nI_1 n
theorem hr_dec (n : Nat) : nI (n + 1) + Int32.ofInt (-1) = nI n := pk_m1 n
theorem hr_max {a b : Nat} (ha : a < 2 ^ 31) (hb : b < 2 ^ 31) : (if nI a < nI b then nI b else nI a) = nI (max a b) := by
  by_cases h : a < b
  · rw [if_pos ((nI_ltI ha hb).mpr h), Nat.max_eq_right (Nat.le_of_lt h)]
  · rw [if_neg (fun q => h ((nI_ltI ha hb).mp q)), Nat.max_eq_left (by omega)]
theorem hr_min {a b : Nat} (ha : a < 2 ^ 31) (hb : b < 2 ^ 31) : (if nI b < nI a then nI b else nI a) = nI (min a b) := by
  by_cases h : b < a
  · rw [if_pos ((nI_ltI hb ha).mpr h), Nat.min_eq_right (Nat.le_of_lt h)]
  · rw [if_neg (fun q => h ((nI_ltI hb ha).mp q)), Nat.min_eq_left (by omega)]
theorem hr_updN {f : Nat → Nat} {i v : Nat} : upd (fun j => nI (f j)) i (nI v) = fun j => nI (va_up f i v j) := by
  funext j
  by_cases h : j = i
  · simp [upd, va_up, h]
  · simp [upd, va_up, h]
theorem hr_cpyN {f g : Nat → Nat} {sp dp n : Nat} : va_cpy (fun j => nI (f j)) (fun j => nI (g j)) sp dp n = fun j => nI (va_cpy f g sp dp n j) := by
  funext j
  by_cases h : dp ≤ j ∧ j < dp + n
  · simp [va_cpy, h]
  · simp [va_cpy, h]
/-- an answer of no or some place -/
def oI (o : Option Nat) : Int32 := match o with
  | none => -1
  | some k => nI k
theorem oI_none : oI none = -1 := rfl
theorem oI_some (k : Nat) : oI (some k) = nI k := rfl
theorem hr_updO {f : Nat → Option Nat} {i : Nat} {v : Option Nat} : upd (fun j => oI (f j)) i (oI v) = fun j => oI (va_up f i v j) := by
  funext j
  by_cases h : j = i
  · simp [upd, va_up, h]
  · simp [upd, va_up, h]
theorem nI_ne_m1 {n : Nat} (h : n < 2 ^ 31) : ¬ nI n = -1 := by
  intro q
  have a := nI_toInt h
  rw [q] at a
  have b : ((-1 : Int32)).toInt = -1 := by decide +kernel
  omega
theorem oI_m1 {o : Option Nat} (hb : ∀ k, o = some k → k < 2 ^ 31) : oI o = -1 ↔ o = none := by
  cases o with
  | none => exact ⟨fun _ => rfl, fun _ => rfl⟩
  | some k => exact ⟨fun h => absurd h (nI_ne_m1 (hb k rfl)), fun h => by cases h⟩
theorem oI_nI {o : Option Nat} {j : Nat} (hb : ∀ k, o = some k → k < 2 ^ 31) (hj : j < 2 ^ 31) : oI o = nI j ↔ o = some j := by
  cases o with
  | none => exact ⟨fun h => absurd h.symm (nI_ne_m1 hj), fun h => by cases h⟩
  | some k => exact ⟨fun h => by rw [(nI_eq (hb k rfl) hj).mp h], fun h => by cases h; rfl⟩
theorem nI_inj {a b : Nat} (ha : a < 2 ^ 31) (hb : b < 2 ^ 31) (h : nI a = nI b) : a = b := (nI_eq ha hb).mp h
abbrev nst1 : Cond := .methodLinkNest "ShardRows$SplitRows" 31 ⟨"ShardRows", "isTestNumber", "(I)Z"⟩ "ShardRows"
abbrev nst2 : Cond := .methodLinkNest "ShardRows$ResultRows" 32 ⟨"ShardRows", "isTestNumber", "(I)Z"⟩ "ShardRows"
/-- what stays of the tables: classes, array classes, two links among nest mates -/
def KX (dC : Nat → ClassId) (dI : Nat → Nat → Nat) (cI cZ cG : ClassId) (U : State) : Prop := va_K (dC, dI) vwCl [(cI, .int), (cZ, .boolean), (cG, .array .int)] U ∧ va_Nw nst1 U ∧ va_Nw nst2 U
theorem KX.call {dC : Nat → ClassId} {dI : Nat → Nat → Nat} {cI cZ cG : ClassId} {U : State} {g : JFrame} {mk : MethodId} {a : Array Value} (h : KX dC dI cI cZ cG U) : KX dC dI cI cZ cG (U.calling g mk a) := ⟨va_K.moved (u := U) (U := U.calling g mk a) (Vm.Alike.refl U.vm) h.1, va_Nw.same rfl (rfl : U.vm = (U.calling g mk a).vm) h.2.1, va_Nw.same rfl (rfl : U.vm = (U.calling g mk a).vm) h.2.2⟩
theorem KX.warm {dC : Nat → ClassId} {dI : Nat → Nat → Nat} {cI cZ cG : ClassId} {s U : State} (hW : s.WarmedH U.vm) (h : KX dC dI cI cZ cG s) : KX dC dI cI cZ cG U := ⟨va_K.moved hW.alike h.1, va_Nw.warmM hW h.2.1, va_Nw.warmM hW h.2.2⟩
section HR
variable {p : Program} {l : Launch} {e : Env} {R : Room} {s : State} {m : MethodId} {args : Array Value} {below : List Frame} {meth : Method} {c : Code} {H : Heap} {locs : List Loc} {cells slots : Nat} {Q : State → Prop}
variable {cc : ByteArray} {pc : Nat} {ls : Array Slot} {rest : List Value} {D : va_G} {cl : List vw_C} {A : Nat → Prop} {a : Nat} {tys : List (ClassId × FieldType)} {ws : va_W} {H0 : Heap}
variable {dC : Nat → ClassId} {dI : Nat → Nat → Nat} {cI cZ cG : ClassId}
theorem hr_eqi {x y : Int32} (h : x = y) (k : W p l e R s m args below meth c H locs cells slots Q (F0 m pc ls (.int y :: rest))) : W p l e R s m args below meth c H locs cells slots Q (F0 m pc ls (.int x :: rest)) := h ▸ k
theorem hr_eql {x y : Int64} (h : x = y) (k : W p l e R s m args below meth c H locs cells slots Q (F0 m pc ls (.long y :: rest))) : W p l e R s m args below meth c H locs cells slots Q (F0 m pc ls (.long x :: rest)) := h ▸ k
theorem hr_iald (hexec : p.tables.exec = Jvm.exec) (hb : c.code = cc) (hK : va_K D cl tys s) (hP : va_P D cl ws H) (q0 t0 : Nat) {cA : ClassId} {n : Nat} {f : Nat → Int32} (ha : ws[q0]? = some (a, .inl (cA, n, .inl f))) (ht : tys[t0]? = some (cA, .int)) {i : Nat} (hi : i < n) (hn : n < 2 ^ 31) (hdg : decode cc pc = .ok (.iaload, 1)) (kk : W p l e R s m args below meth c H locs cells slots Q (F0 m (pc + 1) ls (.int (f i) :: rest))) : W p l e R s m args below meth c H locs cells slots Q (F0 m pc ls (.int (nI i) :: .ref a :: rest)) := va_iald hexec hb hK hP q0 t0 ha ht (vp_in_nI hi hn) hdg (by rw [nI_clamp (by omega)]; exact kk)
theorem hr_zald (hexec : p.tables.exec = Jvm.exec) (hb : c.code = cc) (hK : va_K D cl tys s) (hP : va_P D cl ws H) (q0 t0 : Nat) {cA : ClassId} {n : Nat} {f : Nat → Int32} (ha : ws[q0]? = some (a, .inl (cA, n, .inl f))) (ht : tys[t0]? = some (cA, .boolean)) {i : Nat} (hi : i < n) (hn : n < 2 ^ 31) (hdg : decode cc pc = .ok (.baload, 1)) (kk : W p l e R s m args below meth c H locs cells slots Q (F0 m (pc + 1) ls (.int (f i) :: rest))) : W p l e R s m args below meth c H locs cells slots Q (F0 m pc ls (.int (nI i) :: .ref a :: rest)) := va_zald hexec hb hK hP q0 t0 ha ht (vp_in_nI hi hn) hdg (by rw [nI_clamp (by omega)]; exact kk)
theorem hr_iast (hexec : p.tables.exec = Jvm.exec) (hb : c.code = cc) (hK : va_K D cl tys s) (hP : va_P D cl ws H) (hD : va_D A ws) (hS : va_S A H0 H locs) (q0 t0 : Nat) {cA : ClassId} {n : Nat} {f : Nat → Int32} (ha : ws[q0]? = some (a, .inl (cA, n, .inl f))) (ht : tys[t0]? = some (cA, .int)) {i : Nat} {x : Int32} (hi : i < n) (hn : n < 2 ^ 31) (hdg : decode cc pc = .ok (.iastore, 1)) (kk : ∀ (H1 : Heap) (locs1 : List Loc), va_P D cl (ws.set q0 (a, .inl (cA, n, .inl (upd f i x)))) H1 → va_D A (ws.set q0 (a, .inl (cA, n, .inl (upd f i x)))) → va_S A H0 H1 locs1 → W p l e R s m args below meth c H1 locs1 cells slots Q (F0 m (pc + 1) ls rest)) : W p l e R s m args below meth c H locs cells slots Q (F0 m pc ls (.int x :: .int (nI i) :: .ref a :: rest)) := va_iast hexec hb hK hP hD hS q0 t0 ha ht (vp_in_nI hi hn) hdg (fun H1 locs1 h1 h2 h3 => kk H1 locs1 (by rw [nI_clamp (by omega)] at h1; exact h1) (by rw [nI_clamp (by omega)] at h2; exact h2) h3)
theorem hr_iastN (hexec : p.tables.exec = Jvm.exec) (hb : c.code = cc) (hK : va_K D cl tys s) (hP : va_P D cl ws H) (hD : va_D A ws) (hS : va_S A H0 H locs) (q0 t0 : Nat) {cA : ClassId} {n : Nat} {f : Nat → Nat} (ha : ws[q0]? = some (a, .inl (cA, n, .inl (fun j => nI (f j))))) (ht : tys[t0]? = some (cA, .int)) {i : Nat} {x : Nat} (hi : i < n) (hn : n < 2 ^ 31) (hdg : decode cc pc = .ok (.iastore, 1)) (kk : ∀ (H1 : Heap) (locs1 : List Loc), va_P D cl (ws.set q0 (a, .inl (cA, n, .inl (fun j => nI (va_up f i x j))))) H1 → va_D A (ws.set q0 (a, .inl (cA, n, .inl (fun j => nI (va_up f i x j))))) → va_S A H0 H1 locs1 → W p l e R s m args below meth c H1 locs1 cells slots Q (F0 m (pc + 1) ls rest)) : W p l e R s m args below meth c H locs cells slots Q (F0 m pc ls (.int (nI x) :: .int (nI i) :: .ref a :: rest)) := va_iast hexec hb hK hP hD hS q0 t0 ha ht (vp_in_nI hi hn) hdg (fun H1 locs1 h1 h2 h3 => kk H1 locs1 (by rw [nI_clamp (by omega), hr_updN] at h1; exact h1) (by rw [nI_clamp (by omega), hr_updN] at h2; exact h2) h3)
theorem hr_iastO (hexec : p.tables.exec = Jvm.exec) (hb : c.code = cc) (hK : va_K D cl tys s) (hP : va_P D cl ws H) (hD : va_D A ws) (hS : va_S A H0 H locs) (q0 t0 : Nat) {cA : ClassId} {n : Nat} {f : Nat → Option Nat} (ha : ws[q0]? = some (a, .inl (cA, n, .inl (fun j => oI (f j))))) (ht : tys[t0]? = some (cA, .int)) {i : Nat} {x : Option Nat} (hi : i < n) (hn : n < 2 ^ 31) (hdg : decode cc pc = .ok (.iastore, 1)) (kk : ∀ (H1 : Heap) (locs1 : List Loc), va_P D cl (ws.set q0 (a, .inl (cA, n, .inl (fun j => oI (va_up f i x j))))) H1 → va_D A (ws.set q0 (a, .inl (cA, n, .inl (fun j => oI (va_up f i x j))))) → va_S A H0 H1 locs1 → W p l e R s m args below meth c H1 locs1 cells slots Q (F0 m (pc + 1) ls rest)) : W p l e R s m args below meth c H locs cells slots Q (F0 m pc ls (.int (oI x) :: .int (nI i) :: .ref a :: rest)) := va_iast hexec hb hK hP hD hS q0 t0 ha ht (vp_in_nI hi hn) hdg (fun H1 locs1 h1 h2 h3 => kk H1 locs1 (by rw [nI_clamp (by omega), hr_updO] at h1; exact h1) (by rw [nI_clamp (by omega), hr_updO] at h2; exact h2) h3)
theorem hr_nar01 {x : Nat} (h : x < 2) : vp_nar .boolean (nI x) = nI x := by
  rcases (show x = 0 ∨ x = 1 by omega) with rfl | rfl <;> decide +kernel
theorem hr_zastN (hexec : p.tables.exec = Jvm.exec) (hb : c.code = cc) (hK : va_K D cl tys s) (hP : va_P D cl ws H) (hD : va_D A ws) (hS : va_S A H0 H locs) (q0 t0 : Nat) {cA : ClassId} {n : Nat} {f : Nat → Nat} (ha : ws[q0]? = some (a, .inl (cA, n, .inl (fun j => nI (f j))))) (ht : tys[t0]? = some (cA, .boolean)) {i : Nat} {x : Nat} (hi : i < n) (hn : n < 2 ^ 31) (hx : x < 2) (hdg : decode cc pc = .ok (.bastore, 1)) (kk : ∀ (H1 : Heap) (locs1 : List Loc), va_P D cl (ws.set q0 (a, .inl (cA, n, .inl (fun j => nI (va_up f i x j))))) H1 → va_D A (ws.set q0 (a, .inl (cA, n, .inl (fun j => nI (va_up f i x j))))) → va_S A H0 H1 locs1 → W p l e R s m args below meth c H1 locs1 cells slots Q (F0 m (pc + 1) ls rest)) : W p l e R s m args below meth c H locs cells slots Q (F0 m pc ls (.int (nI x) :: .int (nI i) :: .ref a :: rest)) := va_zast hexec hb hK hP hD hS q0 t0 ha ht (vp_in_nI hi hn) hdg (fun H1 locs1 h1 h2 h3 => kk H1 locs1 (by rw [nI_clamp (by omega), hr_nar01 hx, hr_updN] at h1; exact h1) (by rw [nI_clamp (by omega), hr_nar01 hx, hr_updN] at h2; exact h2) h3)
theorem hr_icmp_lt (hexec : p.tables.exec = Jvm.exec) (hb : c.code = cc) {x y : Nat} (hx : x < 2 ^ 31) (hy : y < 2 ^ 31) {off : Int} {tgt : Nat} (hdg : decode cc pc = .ok (.if_icmp .lt off, 3)) (ht : (pc : Int) + off = (tgt : Int)) (kt : x < y → W p l e R s m args below meth c H locs cells slots Q (F0 m tgt ls rest)) (kf : y ≤ x → W p l e R s m args below meth c H locs cells slots Q (F0 m (pc + 3) ls rest)) : W p l e R s m args below meth c H locs cells slots Q (F0 m pc ls (.int (nI y) :: .int (nI x) :: rest)) := lv_icmp_lt hexec hb hdg ht (fun h => kt ((nI_ltI hx hy).mp h)) (fun h => kf (by have h2 := mt (nI_ltI hx hy).mpr h; omega))
theorem hr_if_lt (hexec : p.tables.exec = Jvm.exec) (hb : c.code = cc) {x : Nat} (hx : x < 2 ^ 31) {off : Int} {tgt : Nat} (hdg : decode cc pc = .ok (.ifCond .lt off, 3)) (ht : (pc : Int) + off = (tgt : Int)) (kt : x < 0 → W p l e R s m args below meth c H locs cells slots Q (F0 m tgt ls rest)) (kf : 0 ≤ x → W p l e R s m args below meth c H locs cells slots Q (F0 m (pc + 3) ls rest)) : W p l e R s m args below meth c H locs cells slots Q (F0 m pc ls (.int (nI x) :: rest)) := by
  have hy : 0 < 2 ^ 31 := by decide
  have e0 : (0 : Int32) = nI 0 := nI_0.symm
  refine lv_if_lt hexec hb hdg ht ?_ ?_
  · rw [e0]; exact (fun h => kt ((nI_ltI hx hy).mp h))
  · rw [e0]; exact (fun h => kf (by have h2 := mt (nI_ltI hx hy).mpr h; omega))
theorem hr_icmp_ge (hexec : p.tables.exec = Jvm.exec) (hb : c.code = cc) {x y : Nat} (hx : x < 2 ^ 31) (hy : y < 2 ^ 31) {off : Int} {tgt : Nat} (hdg : decode cc pc = .ok (.if_icmp .ge off, 3)) (ht : (pc : Int) + off = (tgt : Int)) (kt : y ≤ x → W p l e R s m args below meth c H locs cells slots Q (F0 m tgt ls rest)) (kf : x < y → W p l e R s m args below meth c H locs cells slots Q (F0 m (pc + 3) ls rest)) : W p l e R s m args below meth c H locs cells slots Q (F0 m pc ls (.int (nI y) :: .int (nI x) :: rest)) := lv_icmp_ge hexec hb hdg ht (fun h => kt ((nI_leI hy hx).mp h)) (fun h => kf (by have h2 := mt (nI_leI hy hx).mpr h; omega))
theorem hr_if_ge (hexec : p.tables.exec = Jvm.exec) (hb : c.code = cc) {x : Nat} (hx : x < 2 ^ 31) {off : Int} {tgt : Nat} (hdg : decode cc pc = .ok (.ifCond .ge off, 3)) (ht : (pc : Int) + off = (tgt : Int)) (kt : 0 ≤ x → W p l e R s m args below meth c H locs cells slots Q (F0 m tgt ls rest)) (kf : x < 0 → W p l e R s m args below meth c H locs cells slots Q (F0 m (pc + 3) ls rest)) : W p l e R s m args below meth c H locs cells slots Q (F0 m pc ls (.int (nI x) :: rest)) := by
  have hy : 0 < 2 ^ 31 := by decide
  have e0 : (0 : Int32) = nI 0 := nI_0.symm
  refine lv_if_ge hexec hb hdg ht ?_ ?_
  · rw [e0]; exact (fun h => kt ((nI_leI hy hx).mp h))
  · rw [e0]; exact (fun h => kf (by have h2 := mt (nI_leI hy hx).mpr h; omega))
theorem hr_icmp_gt (hexec : p.tables.exec = Jvm.exec) (hb : c.code = cc) {x y : Nat} (hx : x < 2 ^ 31) (hy : y < 2 ^ 31) {off : Int} {tgt : Nat} (hdg : decode cc pc = .ok (.if_icmp .gt off, 3)) (ht : (pc : Int) + off = (tgt : Int)) (kt : y < x → W p l e R s m args below meth c H locs cells slots Q (F0 m tgt ls rest)) (kf : x ≤ y → W p l e R s m args below meth c H locs cells slots Q (F0 m (pc + 3) ls rest)) : W p l e R s m args below meth c H locs cells slots Q (F0 m pc ls (.int (nI y) :: .int (nI x) :: rest)) := lv_icmp_gt hexec hb hdg ht (fun h => kt ((nI_ltI hy hx).mp h)) (fun h => kf (by have h2 := mt (nI_ltI hy hx).mpr h; omega))
theorem hr_if_gt (hexec : p.tables.exec = Jvm.exec) (hb : c.code = cc) {x : Nat} (hx : x < 2 ^ 31) {off : Int} {tgt : Nat} (hdg : decode cc pc = .ok (.ifCond .gt off, 3)) (ht : (pc : Int) + off = (tgt : Int)) (kt : 0 < x → W p l e R s m args below meth c H locs cells slots Q (F0 m tgt ls rest)) (kf : x ≤ 0 → W p l e R s m args below meth c H locs cells slots Q (F0 m (pc + 3) ls rest)) : W p l e R s m args below meth c H locs cells slots Q (F0 m pc ls (.int (nI x) :: rest)) := by
  have hy : 0 < 2 ^ 31 := by decide
  have e0 : (0 : Int32) = nI 0 := nI_0.symm
  refine lv_if_gt hexec hb hdg ht ?_ ?_
  · rw [e0]; exact (fun h => kt ((nI_ltI hy hx).mp h))
  · rw [e0]; exact (fun h => kf (by have h2 := mt (nI_ltI hy hx).mpr h; omega))
theorem hr_icmp_le (hexec : p.tables.exec = Jvm.exec) (hb : c.code = cc) {x y : Nat} (hx : x < 2 ^ 31) (hy : y < 2 ^ 31) {off : Int} {tgt : Nat} (hdg : decode cc pc = .ok (.if_icmp .le off, 3)) (ht : (pc : Int) + off = (tgt : Int)) (kt : x ≤ y → W p l e R s m args below meth c H locs cells slots Q (F0 m tgt ls rest)) (kf : y < x → W p l e R s m args below meth c H locs cells slots Q (F0 m (pc + 3) ls rest)) : W p l e R s m args below meth c H locs cells slots Q (F0 m pc ls (.int (nI y) :: .int (nI x) :: rest)) := lv_icmp_le hexec hb hdg ht (fun h => kt ((nI_leI hx hy).mp h)) (fun h => kf (by have h2 := mt (nI_leI hx hy).mpr h; omega))
theorem hr_if_le (hexec : p.tables.exec = Jvm.exec) (hb : c.code = cc) {x : Nat} (hx : x < 2 ^ 31) {off : Int} {tgt : Nat} (hdg : decode cc pc = .ok (.ifCond .le off, 3)) (ht : (pc : Int) + off = (tgt : Int)) (kt : x ≤ 0 → W p l e R s m args below meth c H locs cells slots Q (F0 m tgt ls rest)) (kf : 0 < x → W p l e R s m args below meth c H locs cells slots Q (F0 m (pc + 3) ls rest)) : W p l e R s m args below meth c H locs cells slots Q (F0 m pc ls (.int (nI x) :: rest)) := by
  have hy : 0 < 2 ^ 31 := by decide
  have e0 : (0 : Int32) = nI 0 := nI_0.symm
  refine lv_if_le hexec hb hdg ht ?_ ?_
  · rw [e0]; exact (fun h => kt ((nI_leI hx hy).mp h))
  · rw [e0]; exact (fun h => kf (by have h2 := mt (nI_leI hx hy).mpr h; omega))
theorem hr_icmp_eq (hexec : p.tables.exec = Jvm.exec) (hb : c.code = cc) {x y : Nat} (hx : x < 2 ^ 31) (hy : y < 2 ^ 31) {off : Int} {tgt : Nat} (hdg : decode cc pc = .ok (.if_icmp .eq off, 3)) (ht : (pc : Int) + off = (tgt : Int)) (kt : x = y → W p l e R s m args below meth c H locs cells slots Q (F0 m tgt ls rest)) (kf : ¬ x = y → W p l e R s m args below meth c H locs cells slots Q (F0 m (pc + 3) ls rest)) : W p l e R s m args below meth c H locs cells slots Q (F0 m pc ls (.int (nI y) :: .int (nI x) :: rest)) := lv_icmp_eq hexec hb hdg ht (fun h => kt ((nI_eq hx hy).mp h)) (fun h => kf (fun q => h (by rw [q])))
theorem hr_if_eq (hexec : p.tables.exec = Jvm.exec) (hb : c.code = cc) {x : Nat} (hx : x < 2 ^ 31) {off : Int} {tgt : Nat} (hdg : decode cc pc = .ok (.ifCond .eq off, 3)) (ht : (pc : Int) + off = (tgt : Int)) (kt : x = 0 → W p l e R s m args below meth c H locs cells slots Q (F0 m tgt ls rest)) (kf : ¬ x = 0 → W p l e R s m args below meth c H locs cells slots Q (F0 m (pc + 3) ls rest)) : W p l e R s m args below meth c H locs cells slots Q (F0 m pc ls (.int (nI x) :: rest)) := by
  have hy : 0 < 2 ^ 31 := by decide
  have e0 : (0 : Int32) = nI 0 := nI_0.symm
  refine lv_if_eq hexec hb hdg ht ?_ ?_
  · rw [e0]; exact (fun h => kt ((nI_eq hx hy).mp h))
  · rw [e0]; exact (fun h => kf (fun q => h (by rw [q])))
theorem hr_icmp_ne (hexec : p.tables.exec = Jvm.exec) (hb : c.code = cc) {x y : Nat} (hx : x < 2 ^ 31) (hy : y < 2 ^ 31) {off : Int} {tgt : Nat} (hdg : decode cc pc = .ok (.if_icmp .ne off, 3)) (ht : (pc : Int) + off = (tgt : Int)) (kt : ¬ x = y → W p l e R s m args below meth c H locs cells slots Q (F0 m tgt ls rest)) (kf : x = y → W p l e R s m args below meth c H locs cells slots Q (F0 m (pc + 3) ls rest)) : W p l e R s m args below meth c H locs cells slots Q (F0 m pc ls (.int (nI y) :: .int (nI x) :: rest)) := lv_icmp_ne hexec hb hdg ht (fun h => kt (fun q => h (by rw [q]))) (fun h => kf ((nI_eq hx hy).mp h))
theorem hr_if_ne (hexec : p.tables.exec = Jvm.exec) (hb : c.code = cc) {x : Nat} (hx : x < 2 ^ 31) {off : Int} {tgt : Nat} (hdg : decode cc pc = .ok (.ifCond .ne off, 3)) (ht : (pc : Int) + off = (tgt : Int)) (kt : ¬ x = 0 → W p l e R s m args below meth c H locs cells slots Q (F0 m tgt ls rest)) (kf : x = 0 → W p l e R s m args below meth c H locs cells slots Q (F0 m (pc + 3) ls rest)) : W p l e R s m args below meth c H locs cells slots Q (F0 m pc ls (.int (nI x) :: rest)) := by
  have hy : 0 < 2 ^ 31 := by decide
  have e0 : (0 : Int32) = nI 0 := nI_0.symm
  refine lv_if_ne hexec hb hdg ht ?_ ?_
  · rw [e0]; exact (fun h => kt (fun q => h (by rw [q])))
  · rw [e0]; exact (fun h => kf ((nI_eq hx hy).mp h))
theorem hr_fm {α β : Type} {f : α → Option β} {is : List α} {w : List β} (h : is.map f = w.map some) : is.filterMap f = w := by
  have h2 : is.filterMap f = (is.map f).filterMap id := by rw [List.filterMap_map]; rfl
  rw [h2, h, List.filterMap_map]
  simp
theorem hr_blR {w : va_W} {av : List Value} : FrameBlind (va_Pc av (fun U => va_P (dC, dI) vwCl w U.heap ∧ KX dC dI cI cZ cG U)) := fun a U g mk q => ⟨q.1, q.2.1, q.2.2.call⟩
theorem hr_blW {w : va_W} {av : List Value} {sz : Nat} : FrameBlind (va_Pc av (fun U => U.heap.size = sz ∧ va_P (dC, dI) vwCl w U.heap ∧ KX dC dI cI cZ cG U ∧ va_D (fun _ => True) w)) := fun a U g mk q => ⟨q.1, q.2.1, q.2.2.1, q.2.2.2.1.call, q.2.2.2.2⟩
theorem hr_preR (hK : KX dC dI cI cZ cG s) (hP : va_P (dC, dI) vwCl ws H) (is : List Nat) {w : va_W} (hs : is.map (fun i => ws[i]?) = w.map some) {b ci q0 : Nat} {q : vw_C} {fs : List Value} {As : List Value} (hc : vwCl[ci]? = some q) (he : ws[q0]? = some (b, .inr (ci, fs))) : PreV s H q.1 b (va_Pc (.ref b :: As) (fun U => va_P (dC, dI) vwCl w U.heap ∧ KX dC dI cI cZ cG U)) As := ⟨hr_blR, va_recv hK.1 hP hc he, fun U hU hW => ⟨rfl, by rw [hU]; exact hP.sub is (hr_fm hs), hK.warm hW⟩⟩
theorem hr_preRS (hK : KX dC dI cI cZ cG s) (hP : va_P (dC, dI) vwCl ws H) (is : List Nat) {w : va_W} (hs : is.map (fun i => ws[i]?) = w.map some) {As : List Value} : PreS s H (va_Pc As (fun U => va_P (dC, dI) vwCl w U.heap ∧ KX dC dI cI cZ cG U)) As := ⟨hr_blR, fun U hU hW => ⟨rfl, by rw [hU]; exact hP.sub is (hr_fm hs), hK.warm hW⟩⟩
theorem hr_preW (hK : KX dC dI cI cZ cG s) (hP : va_P (dC, dI) vwCl ws H) (hD : va_D A ws) (is : List Nat) (hn : va_nd is = true) {w : va_W} (hs : is.map (fun i => ws[i]?) = w.map some) {b ci q0 : Nat} {q : vw_C} {fs : List Value} {As : List Value} (hc : vwCl[ci]? = some q) (he : ws[q0]? = some (b, .inr (ci, fs))) : PreV s H q.1 b (va_Pc (.ref b :: As) (fun U => U.heap.size = H.size ∧ va_P (dC, dI) vwCl w U.heap ∧ KX dC dI cI cZ cG U ∧ va_D (fun _ => True) w)) As := ⟨hr_blW, va_recv hK.1 hP hc he, fun U hU hW => ⟨rfl, by rw [hU], by rw [hU]; exact hP.sub is (hr_fm hs), hK.warm hW, (hD.sub is hn hs).weaken (fun _ _ _ _ => trivial)⟩⟩
theorem hr_preWS (hK : KX dC dI cI cZ cG s) (hP : va_P (dC, dI) vwCl ws H) (hD : va_D A ws) (is : List Nat) (hn : va_nd is = true) {w : va_W} (hs : is.map (fun i => ws[i]?) = w.map some) {As : List Value} : PreS s H (va_Pc As (fun U => U.heap.size = H.size ∧ va_P (dC, dI) vwCl w U.heap ∧ KX dC dI cI cZ cG U ∧ va_D (fun _ => True) w)) As := ⟨hr_blW, fun U hU hW => ⟨rfl, by rw [hU], by rw [hU]; exact hP.sub is (hr_fm hs), hK.warm hW, (hD.sub is hn hs).weaken (fun _ _ _ _ => trivial)⟩⟩
theorem hr_calli {S : Type} {post : Int32 → S → Prop} {w1 : S → va_W} {wc wr : va_W} {mc ms : Nat} {st0 : List Value} {av : Array Value} (hr : va_Run p l e R s m args below meth c H locs cells slots mc ms (F0 m pc ls st0) rest (va_Qi post (fun u t => va_P D cl (w1 u) t.heap ∧ va_D (va_A wc H.size) (w1 u)) (va_A wc H.size) av) (va_A wc H.size)) (hP : va_P D cl ws H) (hD : va_D A ws) (hS : va_S A H0 H locs) (hA : ∀ q, H0.size ≤ q → A q) (isC isR : List Nat) (hC : isC.map (fun i => ws[i]?) = wc.map some) (hR : isR.map (fun i => ws[i]?) = wr.map some) (hn : va_nd isR = true) (hdis : ∀ i ∈ isR, i ∉ isC) (isN : List Nat) (ws' : S → va_W) (hN : va_nd isN = true) (hs : ∀ u, isN.map (fun i => (wr ++ w1 u)[i]?) = (ws' u).map some)
    (kk : ∀ (r : Int32) (u : S) (H1 : Heap) (locs1 : List Loc), post r u → va_P D cl (ws' u) H1 → va_D A (ws' u) → va_S A H0 H1 locs1 → W p l e R s m args below meth c H1 locs1 (cells + mc) (slots + ms) Q (F0 m (pc + 3) ls (.int r :: rest))) : W p l e R s m args below meth c H locs cells slots Q (F0 m pc ls st0) :=
  va_calli hr hS (fun q _ h => va_free hD hS hA isC hC q h) (va_free hD hS hA isC hC) (fun r u t H1 locs1 ht hvm hp hB hz hk hS1 => by
    obtain ⟨hP1, hD1⟩ := hB
    rw [ht] at hP1
    obtain ⟨hP2, hD2⟩ := va_join hP hD isC isR hC hR hn hdis hk (va_free hD hS hA isC hC) hP1 hD1
    exact kk r u H1 locs1 hp (hP2.sub isN (hr_fm (hs u))) (hD2.sub isN hN (hs u)) hS1)
theorem hr_callv {S : Type} {post : S → Prop} {w1 : S → va_W} {wc wr : va_W} {mc ms : Nat} {st0 : List Value} {av : Array Value} (hr : va_Run p l e R s m args below meth c H locs cells slots mc ms (F0 m pc ls st0) rest (va_Qv post (fun u t => va_P D cl (w1 u) t.heap ∧ va_D (va_A wc H.size) (w1 u)) (va_A wc H.size) av) (va_A wc H.size)) (hP : va_P D cl ws H) (hD : va_D A ws) (hS : va_S A H0 H locs) (hA : ∀ q, H0.size ≤ q → A q) (isC isR : List Nat) (hC : isC.map (fun i => ws[i]?) = wc.map some) (hR : isR.map (fun i => ws[i]?) = wr.map some) (hn : va_nd isR = true) (hdis : ∀ i ∈ isR, i ∉ isC) (isN : List Nat) (ws' : S → va_W) (hN : va_nd isN = true) (hs : ∀ u, isN.map (fun i => (wr ++ w1 u)[i]?) = (ws' u).map some)
    (kk : ∀ (u : S) (H1 : Heap) (locs1 : List Loc), post u → va_P D cl (ws' u) H1 → va_D A (ws' u) → va_S A H0 H1 locs1 → W p l e R s m args below meth c H1 locs1 (cells + mc) (slots + ms) Q (F0 m (pc + 3) ls (rest))) : W p l e R s m args below meth c H locs cells slots Q (F0 m pc ls st0) :=
  va_callv hr hS (fun q _ h => va_free hD hS hA isC hC q h) (va_free hD hS hA isC hC) (fun u t H1 locs1 ht hvm hp hB hz hk hS1 => by
    obtain ⟨hP1, hD1⟩ := hB
    rw [ht] at hP1
    obtain ⟨hP2, hD2⟩ := va_join hP hD isC isR hC hR hn hdis hk (va_free hD hS hA isC hC) hP1 hD1
    exact kk u H1 locs1 hp (hP2.sub isN (hr_fm (hs u))) (hD2.sub isN hN (hs u)) hS1)
theorem hr_arrX {cA : ClassId} {n : Nat} {f g : Nat → Int32} (h : ∀ j, j < n → f j = g j) : vp_cell cA (n, .inl f) = vp_cell cA (n, .inl g) := by
  show arrV cA n (fun j => .int (f j)) = arrV cA n (fun j => .int (g j))
  have e9 : (fun j : Fin n => Value.int (f j.val)) = fun j : Fin n => Value.int (g j.val) := by
    funext j
    rw [h j.val j.isLt]
  show ({ cls := cA, slots := Array.ofFn (n := n) fun j : Fin n => Value.int (f j.val), vm := .none } : Cell) = { cls := cA, slots := Array.ofFn (n := n) fun j : Fin n => Value.int (g j.val), vm := .none }
  rw [e9]
/-- a row may be told by any numbers that are its own below its length -/
theorem hr_extP (q0 : Nat) {cA : ClassId} {n : Nat} {f : Nat → Int32} (g : Nat → Int32) (ha : ws[q0]? = some (a, .inl (cA, n, .inl f))) (h : ∀ j, j < n → f j = g j) (hP : va_P D cl ws H) : va_P D cl (ws.set q0 (a, .inl (cA, n, .inl g))) H := by
  intro k q hk
  by_cases e : q0 = k
  · subst e
    have hl : q0 < ws.length := (List.getElem?_eq_some_iff.mp ha).1
    rw [List.getElem?_set_self hl] at hk
    cases hk
    have h1 := hP q0 _ ha
    show H[a]? = some (vp_cell cA (n, .inl g))
    rw [← hr_arrX h]
    exact h1
  · rw [List.getElem?_set_ne e] at hk
    exact hP k q hk
theorem hr_extD (q0 : Nat) {cA : ClassId} {n : Nat} {f : Nat → Int32} (g : Nat → Int32) (ha : ws[q0]? = some (a, .inl (cA, n, .inl f))) (hD : va_D A ws) : va_D A (ws.set q0 (a, .inl (cA, n, .inl g))) := hD.set ha
end HR
section HC
variable {R : Room} {s : State} {args : Array Value} {own C host : String} {index maxL : Nat} {y : MethodName} {bytes : ByteArray} {ret : Option FieldType} {rm : Room} {c0 : Cond}
theorem hr_mem {w : Cond} (h : w ∈ Cond.code y bytes maxL ret :: TB) (hk : Cond.code y bytes maxL ret ∈ TB) : w ∈ TB := (List.mem_cons.mp h).elim (fun q => by rw [q]; exact hk) id
theorem hr_good (hk : Cond.code y bytes maxL ret ∈ TB) : GoodIn (c0 :: TB) (Cond.code y bytes maxL ret :: TB) := fun w h => ⟨List.mem_cons_of_mem _ (hr_mem h hk), TB_good w (hr_mem h hk)⟩
theorem hr_cwV (n : Nat) (ht : ∀ w ∈ c0 :: TB, w.before args s = true) (hm : Cond.methodLink own index y ∈ TB) (hi : Cond.instanceMethod y ∈ TB) (hs : Cond.selects C y y ∈ TB) (hc : Cond.initialized C ∈ TB) (hk : Cond.code y bytes maxL ret ∈ TB) (hd : y.cls = C ∧ y.cls ≠ "java/lang/invoke/MethodHandle" ∧ y.cls ≠ "java/lang/invoke/VarHandle" ∧ (parseMethodDescriptor y.desc).map (fun d => d.parameters.length) = some n) (hR : rm.frames + 1 ≤ R.frames ∧ 8 + (maxL + 11) + rm.locals ≤ R.locals) : CallW R s args own C index y bytes maxL ret (Cond.code y bytes maxL ret :: TB) rm rm.cells rm.slots n :=
  cwV n ht (fun w h => by
    unfold wsV at h
    rcases List.mem_append.mp h with h | h
    · have hw : w ∈ TB := by
        simp only [List.mem_cons, List.not_mem_nil, or_false] at h
        rcases h with rfl | rfl | rfl | rfl <;> assumption
      exact ⟨List.mem_cons_of_mem _ hw, TB_good w hw⟩
    · exact hr_good hk w h) rfl rfl rfl hd hR
theorem hr_cwS (n : Nat) (ht : ∀ w ∈ c0 :: TB, w.before args s = true) (hm : Cond.methodLink own index y ∈ TB) (hi : Cond.static y ∈ TB) (hc : Cond.initialized y.cls ∈ TB) (hk : Cond.code y bytes maxL ret ∈ TB) (hd : y.cls ≠ "java/lang/invoke/MethodHandle" ∧ y.cls ≠ "java/lang/invoke/VarHandle" ∧ (parseMethodDescriptor y.desc).map (fun d => d.parameters.length) = some n) (hR : rm.frames + 1 ≤ R.frames ∧ 8 + (maxL + 11) + rm.locals ≤ R.locals) : CallB R s args own index y bytes maxL ret (Cond.code y bytes maxL ret :: TB) rm rm.cells rm.slots n ∧ (Cond.static y).before args s = true :=
  va_cwS n ht (fun w h => by
    unfold va_wsS at h
    rcases List.mem_append.mp h with h | h
    · have hw : w ∈ TB := by
        simp only [List.mem_cons, List.not_mem_nil, or_false] at h
        rcases h with rfl | rfl | rfl <;> assumption
      exact ⟨List.mem_cons_of_mem _ hw, TB_good w hw⟩
    · exact hr_good hk w h) rfl rfl rfl hd hR
theorem hr_cnS (n : Nat) (ht : ∀ w ∈ c0 :: TB, w.before args s = true) (hm : va_Nw (.methodLinkNest own index y host) s) (hi : Cond.static y ∈ TB) (hc : Cond.initialized y.cls ∈ TB) (hk : Cond.code y bytes maxL ret ∈ TB) (hd : y.cls ≠ "java/lang/invoke/MethodHandle" ∧ y.cls ≠ "java/lang/invoke/VarHandle" ∧ (parseMethodDescriptor y.desc).map (fun d => d.parameters.length) = some n) (hR : rm.frames + 1 ≤ R.frames ∧ 8 + (maxL + 11) + rm.locals ≤ R.locals) : va_CN R s args own index y host bytes maxL ret (Cond.code y bytes maxL ret :: TB) rm rm.cells rm.slots n ∧ (Cond.static y).before args s = true ∧ True :=
  ⟨va_cnB n ht (hr_good hk) rfl rfl rfl hm (ht _ (List.mem_cons_of_mem _ hc)) hd hR, ht _ (List.mem_cons_of_mem _ hi), trivial⟩
theorem hr_cwI (n : Nat) (ht : ∀ w ∈ c0 :: TB, w.before args s = true) (hm : Cond.methodLink own index y ∈ TB) (hi : Cond.instanceMethod y ∈ TB) (hc : Cond.initialized y.cls ∈ TB) (hk : Cond.code y bytes maxL none ∈ TB) (hy : y.name = "<init>") (hd : y.cls ≠ "java/lang/invoke/MethodHandle" ∧ y.cls ≠ "java/lang/invoke/VarHandle" ∧ (parseMethodDescriptor y.desc).map (fun d => d.parameters.length) = some n) (hR : rm.frames + 1 ≤ R.frames ∧ 8 + (maxL + 11) + rm.locals ≤ R.locals) : CallB R s args own index y bytes maxL none (Cond.code y bytes maxL none :: TB) rm rm.cells rm.slots n ∧ y.name = "<init>" ∧ (Cond.instanceMethod y).before args s = true :=
  cwI n ht (hr_good hk) rfl rfl rfl (ht _ (List.mem_cons_of_mem _ hc)) (ht _ (List.mem_cons_of_mem _ hm)) (ht _ (List.mem_cons_of_mem _ hi)) hy hd hR
theorem hr_cnI (n : Nat) (ht : ∀ w ∈ c0 :: TB, w.before args s = true) (hm : va_Nw (.methodLinkNest own index y host) s) (hi : Cond.instanceMethod y ∈ TB) (hc : Cond.initialized y.cls ∈ TB) (hk : Cond.code y bytes maxL none ∈ TB) (hy : y.name = "<init>") (hd : y.cls ≠ "java/lang/invoke/MethodHandle" ∧ y.cls ≠ "java/lang/invoke/VarHandle" ∧ (parseMethodDescriptor y.desc).map (fun d => d.parameters.length) = some n) (hR : rm.frames + 1 ≤ R.frames ∧ 8 + (maxL + 11) + rm.locals ≤ R.locals) : va_CN R s args own index y host bytes maxL none (Cond.code y bytes maxL none :: TB) rm rm.cells rm.slots n ∧ y.name = "<init>" ∧ (Cond.instanceMethod y).before args s = true :=
  ⟨va_cnB n ht (hr_good hk) rfl rfl rfl hm (ht _ (List.mem_cons_of_mem _ hc)) hd hR, hy, ht _ (List.mem_cons_of_mem _ hi)⟩
end HC
theorem hr_nz {x : Nat} (h : x < 2) : narrow .boolean (.int (nI x)) = .int (nI x) := by
  rcases (show x = 0 ∨ x = 1 by omega) with rfl | rfl <;> decide +kernel
