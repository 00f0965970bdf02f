abbrev nst3 : Cond := .methodLinkNest "ShardRows" 24 ⟨"ShardRows$TestRows", "<init>", "()V"⟩ "ShardRows"
abbrev nst4 : Cond := .methodLinkNest "ShardRows" 31 ⟨"ShardRows$GroupRows", "<init>", "()V"⟩ "ShardRows"
abbrev nst5 : Cond := .methodLinkNest "ShardRows" 38 ⟨"ShardRows$Search", "<init>", "()V"⟩ "ShardRows"
abbrev nst6 : Cond := .methodLinkNest "ShardRows" 45 ⟨"ShardRows$Greedy", "<init>", "()V"⟩ "ShardRows"
abbrev nst7 : Cond := .methodLinkNest "ShardRows" 59 ⟨"ShardRows$ResultRows", "<init>", "()V"⟩ "ShardRows"
abbrev nst8 : Cond := .methodLinkNest "ShardRows" 66 ⟨"ShardRows$DrawRow", "<init>", "()V"⟩ "ShardRows"
/-- what the constructors need besides -/
def KZ (dC : Nat → ClassId) (dI : Nat → Nat → Nat) (cI cZ cG : ClassId) (U : State) : Prop := KX dC dI cI cZ cG U ∧ va_AOA .int U ∧ va_Nw nst3 U ∧ va_Nw nst4 U ∧ va_Nw nst5 U ∧ va_Nw nst6 U ∧ va_Nw nst7 U ∧ va_Nw nst8 U
section KZ9
variable {dC : Nat → ClassId} {dI : Nat → Nat → Nat} {cI cZ cG : ClassId} {s U : State} {g : JFrame} {mk : MethodId} {a : Array Value}
theorem KZ.call (h : KZ dC dI cI cZ cG U) : KZ dC dI cI cZ cG (U.calling g mk a) := by
  obtain ⟨h1, h2, h3, h4, h5, h6, h7, h8⟩ := h
  have e : U.vm = (U.calling g mk a).vm := rfl
  exact ⟨h1.call, AOA_moved (Vm.Alike.refl U.vm) h2, va_Nw.same rfl e h3, va_Nw.same rfl e h4, va_Nw.same rfl e h5, va_Nw.same rfl e h6, va_Nw.same rfl e h7, va_Nw.same rfl e h8⟩
theorem KZ.warm (hW : s.WarmedH U.vm) (h : KZ dC dI cI cZ cG s) : KZ dC dI cI cZ cG U := by
  obtain ⟨h1, h2, h3, h4, h5, h6, h7, h8⟩ := h
  exact ⟨h1.warm hW, AOA_moved hW.alike h2, va_Nw.warmM hW h3, va_Nw.warmM hW h4, va_Nw.warmM hW h5, va_Nw.warmM hW h6, va_Nw.warmM hW h7, va_Nw.warmM hW h8⟩
theorem hr_preWSZ {A : Nat → Prop} {ws : va_W} {H : Heap} (hK : KZ dC dI cI cZ cG s) (hP : va_P (dC, dI) vwCl ws H) (hD : va_D A ws) (is : List Nat) (hn : va_nd is = true) {w : va_W} (hs : is.map (fun i => ws[i]?) = w.map some) {As : List Value} : PreS s H (va_Pc As (fun U => U.heap.size = H.size ∧ va_P (dC, dI) vwCl w U.heap ∧ KZ dC dI cI cZ cG U ∧ va_D (fun _ => True) w)) As := ⟨fun a U g mk q => ⟨q.1, q.2.1, q.2.2.1, q.2.2.2.1.call, q.2.2.2.2⟩, fun U hU hW => ⟨rfl, by rw [hU], by rw [hU]; exact hP.sub is (hr_fm hs), hK.warm hW, (hD.sub is hn hs).weaken (fun _ _ _ _ => trivial)⟩⟩
end KZ9
theorem newK_mm (x : Int32) : (if nI 1 < (if x < nI 4 then x else nI 4) then (if x < nI 4 then x else nI 4) else nI 1) = nI (newK x) := by
  have t1 : (nI 1).toInt = 1 := nI_toInt (by decide)
  have t4 : (nI 4).toInt = 4 := nI_toInt (by decide)
  by_cases h1 : nI 1 ≤ x
  · by_cases h4 : x ≤ nI 4
    · obtain ⟨q, hq1, hq4, rfl⟩ := newK_ok h1 h4
      rw [newK_q hq1 hq4]
      have tq : (nI q).toInt = q := nI_toInt (by omega)
      rcases (show q = 1 ∨ q = 2 ∨ q = 3 ∨ q = 4 by omega) with z | z | z | z <;> subst z <;> decide +kernel
    · rw [newK_gt h1 h4]
      have h5 : ¬ x < nI 4 := fun z => h4 (by
        rw [Int32.lt_iff_toInt_lt] at z
        rw [Int32.le_iff_toInt_le]
        omega)
      rw [if_neg h5]
      decide +kernel
  · rw [newK_lt h1]
    have h5 : x < nI 4 := by
      rw [Int32.le_iff_toInt_le] at h1
      rw [Int32.lt_iff_toInt_lt]
      omega
    rw [if_pos h5, if_neg (fun z => h1 (by
      rw [Int32.lt_iff_toInt_lt] at z
      rw [Int32.le_iff_toInt_le]
      omega))]
