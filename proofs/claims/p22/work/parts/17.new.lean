/-! what is made: it comes last in the world, and is put ahead of what the method doesn't know -/
theorem kV_in {G : kG} {a wr b : va_W} {H : Heap} (h : kV G ((a ++ wr) ++ b) H) : kV G ((a ++ b) ++ wr) H := ⟨h.1.swap, h.2.swap⟩
def S0 : kS := (fun _ _ => 0, fun _ => 0, fun _ => 0)
def kad (l : List Nat) : Nat → Nat := fun k => l.getD k 0
theorem kT_I {G : kG} {s : State} {cA : ClassId} (hK : va_K (kD G) vwCl (kT G ++ [(cA, .int)]) s) : cA = kcI G := by
  have h1 : s.vm.findClass ("[" ++ FieldType.int.toString) = some cA := (hK.2 3 (cA, .int) rfl).2
  have h2 : s.vm.findClass ("[" ++ FieldType.int.toString) = some (kcI G) := (hK.2 0 (kcI G, .int) rfl).2
  exact Option.some.inj (h1.symm.trans h2)
theorem kT_Z {G : kG} {s : State} {cA : ClassId} (hK : va_K (kD G) vwCl (kT G ++ [(cA, .boolean)]) s) : cA = kcZ G := by
  have h1 : s.vm.findClass ("[" ++ FieldType.boolean.toString) = some cA := (hK.2 3 (cA, .boolean) rfl).2
  have h2 : s.vm.findClass ("[" ++ FieldType.boolean.toString) = some (kcZ G) := (hK.2 1 (kcZ G, .boolean) rfl).2
  exact Option.some.inj (h1.symm.trans h2)
section KNEW
variable {p : Program} {l : Launch} {e : Env} {R : Room} {s : State} {m : MethodId} {args : Array Value} {below : List Frame} {meth : Method} {c : Code} {H : Heap} {locs : List Loc} {cells slots : Nat} {Q : State → Prop}
variable {cc : ByteArray} {pc : Nat} {ls : Array Slot} {rest : List Value} {G : kG} {H0 : Heap} {a wr : va_W}
theorem kn_newI (hexec : p.tables.exec = Jvm.exec) (hb : c.code = cc) (harr : (Cond.arrayClass .int).before args s = true) (hK : va_K (kD G) vwCl (kT G) s) (hV : kV G (a ++ wr) H) (hS : va_S (kA G) H0 H locs) (hA : kB G ≤ H0.size)
    {n : Nat} (hn : n ≤ 100000) (hcells : cells + 1 ≤ R.cells) (hslots : slots + n ≤ R.slots) (hdg : decode cc pc = .ok (.newarray .int, 2))
    (kk : ∀ (q : Nat) (H1 : Heap), kV G ((a ++ [(q, aN (kcI G) n (fun _ => 0))]) ++ wr) H1 → va_S (kA G) H0 H1 locs → W p l e R s m args below meth c H1 locs (cells + 1) (slots + n) Q (F0 m (pc + 2) ls (.ref q :: rest))) : W p l e R s m args below meth c H locs cells slots Q (F0 m pc ls (.int (nI n) :: rest)) := by
  refine va_newa (atype := .int) (ty := .int) (a0 := (n, .inl (fun _ => nI 0))) hexec hb harr rfl hK hV.1 hV.2 hS (fun q h => Nat.le_trans hA h) (fun cA => rfl) (nI_pos (by omega)) (nI_clamp (by omega)) (by rw [show componentBytes .int = 4 from rfl]; omega) hcells hslots hdg (fun q cA H1 hK1 hP hD hS1 => ?_)
  have e := kT_I hK1
  subst e
  exact kk q H1 (kV_in ⟨hP, hD⟩) hS1
theorem kn_newZ (hexec : p.tables.exec = Jvm.exec) (hb : c.code = cc) (harr : (Cond.arrayClass .boolean).before args s = true) (hK : va_K (kD G) vwCl (kT G) s) (hV : kV G (a ++ wr) H) (hS : va_S (kA G) H0 H locs) (hA : kB G ≤ H0.size)
    {n : Nat} (hn : n ≤ 100000) (hcells : cells + 1 ≤ R.cells) (hslots : slots + n ≤ R.slots) (hdg : decode cc pc = .ok (.newarray .boolean, 2))
    (kk : ∀ (q : Nat) (H1 : Heap), kV G ((a ++ [(q, aN (kcZ G) n (fun _ => 0))]) ++ wr) H1 → va_S (kA G) H0 H1 locs → W p l e R s m args below meth c H1 locs (cells + 1) (slots + n) Q (F0 m (pc + 2) ls (.ref q :: rest))) : W p l e R s m args below meth c H locs cells slots Q (F0 m pc ls (.int (nI n) :: rest)) := by
  refine va_newa (atype := .boolean) (ty := .boolean) (a0 := (n, .inl (fun _ => nI 0))) hexec hb harr rfl hK hV.1 hV.2 hS (fun q h => Nat.le_trans hA h) (fun cA => rfl) (nI_pos (by omega)) (nI_clamp (by omega)) (by rw [show componentBytes .boolean = 1 from rfl]; omega) hcells hslots hdg (fun q cA H1 hK1 hP hD hS1 => ?_)
  have e := kT_Z hK1
  subst e
  exact kk q H1 (kV_in ⟨hP, hD⟩) hS1
end KNEW
