theorem AOA_moved {t : FieldType} {u U : State} (hvm : u.vm.Alike U.vm) (h : va_AOA t u) : va_AOA t U := by
  obtain ⟨comp, c, k, h1, h2, h3, h4, h5⟩ := arrayOverA_spec h
  obtain ⟨k2, hk2, he⟩ := hvm.2.2 _ _ h3
  have g1 : U.vm.findClass (FieldType.array t).toString = some comp := by rw [hvm.findClass]; exact h1
  have g5 : U.vm.findClass ("[" ++ (FieldType.array t).toString) = some c := by rw [hvm.findClass]; exact h5
  have g2 : (U.vm.classes.findIdx? fun x => match x.kind with | .array component _ => component == comp | _ => false) = some c := by
    rw [hvm.findIdx?_eq _ (fun _ => rfl)]
    exact h2
  have g4 : k2.kind = .array comp (.array t) := by rw [he]; exact h4
  show (Cond.arrayOver (.array t)).holds #[] U none U [] = true
  simp only [Cond.holds, Cond.value]
  rw [g1]
  simp only [Option.bind_some]
  have key : ∀ fi : Option Nat, fi = some c → ((fi.bind fun c => (U.vm.classes[c]?).map fun k => match k.kind with | .array _ ty => decide (ty = FieldType.array t) && decide (U.vm.findClass ("[" ++ (FieldType.array t).toString) = some c) | _ => false) == some true) = true := by
    intro fi hfi
    rw [hfi]
    simp [hk2, g4, g5]
  exact key _ g2
section HR5
variable {p : Program} {l : Launch} {e : Env} {R : Room} {s : State} {m : MethodId} {args : Array Value} {below : List Frame} {meth : Method} {c : Code} {H : Heap} {locs : List Loc} {cells slots : Nat} {Q : State → Prop}
variable {cc : ByteArray} {pc : Nat} {ls : Array Slot} {rest : List Value} {A : Nat → Prop} {ws : va_W} {H0 : Heap} {dC : Nat → ClassId} {dI : Nat → Nat → Nat} {cI cZ cG : ClassId}
theorem hr_newG {own : String} {index : Nat} (hexec : p.tables.exec = Jvm.exec) (hb : c.code = cc) (hown : s.vm.findClass own = some m.cls) (hclink : (Cond.classLink own index ("[" ++ (FieldType.array .int).toString)).before args s = true) (hover : va_AOA .int s) (harr : (Cond.arrayClass .int).before args s = true) (hKX : KX dC dI cI cZ cG s) (hP : va_P (dC, dI) vwCl ws H) (hD : va_D A ws) (hS : va_S A H0 H locs) (hA : ∀ q, H0.size ≤ q → A q) (hcells : cells + 9 ≤ R.cells) (hslots : slots + 40 ≤ R.slots) (hdg : decode cc pc = .ok (.multianewarray index 2, 4))
    (kk : ∀ (q : Nat) (r : Nat → Nat) (H1 : Heap), va_P (dC, dI) vwCl ((ws ++ [(q, .inl (cG, 8, .inr (.inr (.inr (.inr (grf r))))))]) ++ rws r cI (fun _ _ => 0)) H1 → va_D A ((ws ++ [(q, .inl (cG, 8, .inr (.inr (.inr (.inr (grf r))))))]) ++ rws r cI (fun _ _ => 0)) → va_S A H0 H1 locs → W p l e R s m args below meth c H1 locs (cells + 9) (slots + 40) Q (F0 m (pc + 4) ls (.ref q :: rest))) : W p l e R s m args below meth c H locs cells slots Q (F0 m pc ls (.int (nI 4) :: .int (nI 8) :: rest)) := by
  have hcy : s.vm.findClass (FieldType.array .int).toString = some cI := (hKX.1.2 0 (cI, .int) rfl).2
  have e0 : va_pl [] (fun _ => (.inr (0, []) : va_E)) = [] := rfl
  refine va_mna (X := ws) (L := []) (f := fun _ => .inr (0, [])) (ty := .int) (cy := cI) (N' := 8) (K' := 4) (z := (4, .inl (fun _ => nI 0))) hexec hb hown hclink hover harr hcy hKX.1 (by rw [e0, List.append_nil]; exact hP) (by rw [e0, List.append_nil]; exact hD) hS hA (nI_pos (by decide)) (nI_pos (by decide)) (nI_clamp (by decide)) (nI_clamp (by decide)) (by decide) (by decide) (by decide) rfl rfl hcells hslots (fun c9 => ?_) hdg (fun q r cA H1 hinj hnot hK2 hP1 hD1 hS1 => ?_)
  · show ({ cls := c9, slots := Array.replicate 4 (.int 0), vm := .none } : Cell) = arrV c9 4 (fun _ => .int (nI 0))
    rw [arrV_new, nI_0]
  · have h1 : s.vm.findClass ("[" ++ (FieldType.array .int).toString) = some cA := (hK2.2 3 (cA, .array .int) rfl).2
    have h2 : s.vm.findClass ("[" ++ (FieldType.array .int).toString) = some cG := (hKX.1.2 2 (cG, .array .int) rfl).2
    have e9 : cG = cA := Option.some.inj (h2.symm.trans h1)
    subst e9
    have e1 : va_pl ([] ++ (List.range 8).map r) (vr_up (fun _ => .inr (0, [])) ((List.range 8).map r) (.inl (cI, (4, .inl (fun _ => nI 0))))) = rws r cI (fun _ _ => 0) := by
      unfold va_pl rws
      rw [List.nil_append, List.map_map]
      apply List.map_congr_left
      intro i hi
      show (r i, vr_up _ _ _ (r i)) = _
      rw [vr_up_in (List.mem_map.mpr ⟨i, hi, rfl⟩)]
    rw [e1] at hP1 hD1
    exact kk q r H1 hP1 hD1 hS1
end HR5
