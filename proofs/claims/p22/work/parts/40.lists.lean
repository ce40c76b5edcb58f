/-! lists: rows of references, the static empty row, copies -/
def lf (n : Nat) (e : Nat → Nat) : Nat → Option Nat := fun i => if i < n then some (e i) else none
theorem lf_at {n : Nat} {e : Nat → Nat} {i : Nat} (h : i < n) : lf n e i = some (e i) := if_pos h
theorem lf_up (n : Nat) (e : Nat → Nat) (x : Nat) : va_up (lf n e) n (some x) = lf (n + 1) (va_up e n x) := by
  funext i
  unfold va_up lf
  by_cases c : i = n
  · subst c; rw [if_pos rfl, if_pos (by omega)]; exact congrArg some (if_pos rfl).symm
  · rw [if_neg c]
    by_cases d : i < n
    · rw [if_pos d, if_pos (by omega)]; exact congrArg some (if_neg c).symm
    · rw [if_neg d, if_neg (by omega)]
theorem lf_0 (e : Nat → Nat) : lf 0 e = fun _ => none := by
  funext i; exact if_neg (Nat.not_lt_zero _)
theorem lf_cpy (n : Nat) (e : Nat → Nat) : va_cpy (lf n e) (fun _ => none) 0 0 n = lf n e := by
  funext i
  unfold va_cpy lf
  by_cases c : i < n
  · rw [if_pos (by omega), show 0 + (i - 0) = i from by omega, if_pos c]
  · rw [if_neg (by omega), if_neg c]
theorem mx_nat {a b : Nat} (ha : a < 2 ^ 31) (hb : b < 2 ^ 31) : (if nI a < nI b then nI b else nI a) = nI (max a b) := by
  by_cases c : a < b
  · rw [if_pos ((nI_ltI ha hb).mpr c), Nat.max_eq_right (by omega)]
  · rw [if_neg (fun q => c ((nI_ltI ha hb).mp q)), Nat.max_eq_left (by omega)]
theorem mn_nat {a b : Nat} (ha : a < 2 ^ 31) (hb : b < 2 ^ 31) : (if nI b < nI a then nI b else nI a) = nI (min a b) := by
  by_cases c : b < a
  · rw [if_pos ((nI_ltI hb ha).mpr c), Nat.min_eq_right (by omega)]
  · rw [if_neg (fun q => c ((nI_ltI hb ha).mp q)), Nat.min_eq_left (by omega)]
theorem kT_O {G : kG} {s : State} {cA : ClassId} (hK : va_K (kD G) vwCl (kT G ++ [(cA, .object "java/lang/Object")]) s) : cA = kcO G := by
  obtain ⟨-, -, -, -, -, h1⟩ := (hK.2 3 (cA, .object "java/lang/Object") rfl).2
  obtain ⟨-, -, -, -, -, h2⟩ := (hK.2 2 (kcO G, .object "java/lang/Object") rfl).2
  exact Option.some.inj (h1.symm.trans h2)
theorem cast_asg {s : State} {C E : String} (h : va_Nw (.castable C E) s) : ∀ comp c0 : ClassId, s.vm.findClass E = some comp → s.vm.findClass C = some c0 → s.vm.assignable c0 comp = true := by
  intro comp c0 h1 h2
  obtain ⟨c1, t1, f1, f2, f3⟩ := Cond.castable_spec (va_Nw.use (A := #[]) rfl h)
  cases h2.symm.trans f1
  cases h1.symm.trans f2
  exact f3
section KLIST
variable {p : Program} {l : Launch} {e : Env} {R : Room} {s : State} {m : MethodId} {args : Array Value} {below : List Frame} {meth : Method} {c : Code} {H : Heap} {locs : List Loc} {cells slots : Nat} {Q : State → Prop}
variable {cc : ByteArray} {pc : Nat} {ls : Array Slot} {rest : List Value} {G : kG} {H0 : Heap} {ws wr a : va_W} {b : Nat}
theorem kq_len (hexec : p.tables.exec = Jvm.exec) (hb : c.code = cc) (hK : va_K (kD G) vwCl (kT G) s) (hV : kV G ws H) (q0 : Nat) {n : Nat} {f : Nat → Option Nat} (ha : ws[q0]? = some (b, .inl (kcO G, n, .inr (.inr (.inr (.inr f)))))) (hdg : decode cc pc = .ok (.arraylength, 1))
    (kk : W p l e R s m args below meth c H locs cells slots Q (F0 m (pc + 1) ls (.int (nI n) :: rest))) : W p l e R s m args below meth c H locs cells slots Q (F0 m pc ls (.ref b :: rest)) :=
  va_alen hexec hb hK hV.1 q0 2 ha rfl rfl hdg kk
theorem kq_len0 (hexec : p.tables.exec = Jvm.exec) (hb : c.code = cc) (hE : kE G s s.heap) (hS : va_S (kA G) s.heap H locs) (hdg : decode cc pc = .ok (.arraylength, 1))
    (kk : W p l e R s m args below meth c H locs cells slots Q (F0 m (pc + 1) ls (.int (nI 0) :: rest))) : W p l e R s m args below meth c H locs cells slots Q (F0 m pc ls (.ref (kE0 G) :: rest)) :=
  va_tlen hexec hb hE.2.2.2.2.2.2.2.2.1 hS rfl hdg kk
theorem kq_ald (hexec : p.tables.exec = Jvm.exec) (hb : c.code = cc) (hK : va_K (kD G) vwCl (kT G) s) (hV : kV G ws H) (q0 : Nat) {n : Nat} {f : Nat → Option Nat} (ha : ws[q0]? = some (b, .inl (kcO G, n, .inr (.inr (.inr (.inr f)))))) {i y : Nat} (hi : i < n) (hn : n < 2 ^ 31) (hy : f i = some y) (hdg : decode cc pc = .ok (.aaload, 1))
    (kk : W p l e R s m args below meth c H locs cells slots Q (F0 m (pc + 1) ls (.ref y :: rest))) : W p l e R s m args below meth c H locs cells slots Q (F0 m pc ls (.int (nI i) :: .ref b :: rest)) :=
  va_aldq hexec hb hK hV.1 q0 2 ha rfl (vp_in_nI hi hn) hdg (by rw [nI_clamp (by omega), hy]; exact kk)
theorem kq_ast (hexec : p.tables.exec = Jvm.exec) (hb : c.code = cc) (hE : kE G s s.heap) (hV : kV G ws H) (hS : va_S (kA G) H0 H locs) (q0 qk : Nat) {ci : Nat} {r : vw_C} {vs : List Value} {n v : Nat} {f : Nat → Option Nat} (ha : ws[q0]? = some (b, .inl (kcO G, n, .inr (.inr (.inr (.inr f)))))) (hca : Cond.castable r.1 "java/lang/Object" ∈ kNw) (hv : ws[qk]? = some (v, .inr (ci, vs))) (hc : vwCl[ci]? = some r) {i : Nat} (hi : i < n) (hn : n < 2 ^ 31) (hdg : decode cc pc = .ok (.aastore, 1))
    (kk : ∀ (H1 : Heap) (locs1 : List Loc), kV G (ws.set q0 (b, .inl (kcO G, n, .inr (.inr (.inr (.inr (va_up f i (some v)))))))) H1 → va_S (kA G) H0 H1 locs1 → W p l e R s m args below meth c H1 locs1 cells slots Q (F0 m (pc + 1) ls rest)) : W p l e R s m args below meth c H locs cells slots Q (F0 m pc ls (.ref v :: .int (nI i) :: .ref b :: rest)) :=
  va_astqO hexec hb hE.1 hV.1 hV.2 hS q0 2 qk ci ha rfl (hE.2.2.1 _ hca) hv hc (vp_in_nI hi hn) hdg (by rw [nI_clamp (by omega)]; exact fun H1 locs1 h1 h2 h3 => kk H1 locs1 ⟨h1, h2⟩ h3)
theorem kn_newO {own : String} {index : Nat} (hexec : p.tables.exec = Jvm.exec) (hb : c.code = cc) (hown : s.vm.findClass own = some m.cls) (hcl : (Cond.classLink own index "java/lang/Object").before args s = true) (hE : kE G s s.heap) (hV : kV G (a ++ wr) H) (hS : va_S (kA G) H0 H locs) (hA : kB G ≤ H0.size)
    {n : Nat} (hn : n ≤ 100000) (hcells : cells + 1 ≤ R.cells) (hslots : slots + n ≤ R.slots) (hdg : decode cc pc = .ok (.anewarray index, 3))
    (kk : ∀ (q : Nat) (H1 : Heap), kV G ((a ++ [(q, .inl (kcO G, n, .inr (.inr (.inr (.inr (fun _ => none))))))]) ++ wr) H1 → va_S (kA G) H0 H1 locs → W p l e R s m args below meth c H1 locs (cells + 1) (slots + n) Q (F0 m (pc + 3) ls (.ref q :: rest))) : W p l e R s m args below meth c H locs cells slots Q (F0 m pc ls (.int (nI n) :: rest)) := by
  refine va_newq hexec hb hown hcl hE.2.2.2.2.2.2.2.2.2.2.2 hE.1 hV.1 hV.2 hS (fun q h => Nat.le_trans hA h) (nI_pos (by omega)) (nI_clamp (by omega)) (by omega) hcells hslots hdg (fun q cA H1 hK1 hP hD hS1 => ?_)
  have e := kT_O hK1
  subst e
  exact kk q H1 (kV_in ⟨hP, hD⟩) hS1
theorem kq_copy {own : String} {index : Nat} (hexec : p.tables.exec = Jvm.exec) (hb : c.code = cc) (hml : c.maxLocals = ls.size) (hown : s.vm.findClass own = some m.cls) (hlink : (Cond.methodLink own index arraycopyName).before args s = true) (hnat : (Cond.native arraycopyName).before args s = true) (hstat : (Cond.static arraycopyName).before args s = true) (hini : (Cond.initialized "java/lang/System").before args s = true)
    (hE : kE G s s.heap) (hV : kV G ws H) (hS : va_S (kA G) H0 H locs) (q0 q1 : Nat) {b0 : Nat} {n0 n1 : Nat} {f g : Nat → Option Nat} {ci : Nat} {r : vw_C} (ha0 : ws[q0]? = some (b0, .inl (kcO G, n0, .inr (.inr (.inr (.inr f)))))) (ha1 : ws[q1]? = some (b, .inl (kcO G, n1, .inr (.inr (.inr (.inr g))))))
    {n : Nat} (hn : n < 2 ^ 31) (h4 : n ≤ n0) (h5 : n ≤ n1) (hc : vwCl[ci]? = some r) (hca : Cond.castable r.1 "java/lang/Object" ∈ kNw) (hel : ∀ i : Nat, i < n → ∀ y : Nat, f i = some y → ∃ (k : Nat) (vs : List Value), ws[k]? = some (y, .inr (ci, vs)))
    (hframes : 1 ≤ R.frames) (hlocals : (rest.map fun v => v.category).sum + (nativeFrameWords "java/lang/System" "arraycopy" 5 + 11) ≤ R.locals) (hdg : decode cc pc = .ok (.invokestatic index, 3))
    (kk : ∀ (H1 : Heap) (locs1 : List Loc), kV G (ws.set q1 (b, .inl (kcO G, n1, .inr (.inr (.inr (.inr (va_cpy f g 0 0 n))))))) H1 → va_S (kA G) H0 H1 locs1 → W p l e R s m args below meth c H1 locs1 cells slots Q (F0 m (pc + 3) ls rest)) : W p l e R s m args below meth c H locs cells slots Q (F0 m pc ls (.int (nI n) :: .int (nI 0) :: .ref b :: .int (nI 0) :: .ref b0 :: rest)) := by
  have e0 : (nI 0).toNatClampNeg = 0 := nI_clamp (by decide)
  have en : (nI n).toNatClampNeg = n := nI_clamp hn
  refine va_copyq (C := r.1) hexec hb hml hown hlink hnat hstat hini hE.1 hV.1 hV.2 hS q0 q1 2 2 ha0 ha1 rfl rfl (nI_pos (by decide)) (nI_pos (by decide)) (nI_pos hn) (by rw [e0, en]; omega) (by rw [e0, en]; omega) (fun i hi y hy => ?_) (cast_asg (hE.2.2.1 _ hca)) hframes hlocals hdg (fun H1 locs1 h1 h2 h3 => ?_)
  · rw [en] at hi
    rw [e0, Nat.zero_add] at hy
    obtain ⟨k, vs, hk⟩ := hel i hi y hy
    exact va_recv hE.1 hV.1 hc hk
  · rw [e0, en] at h1 h2
    exact kk H1 locs1 ⟨h1, h2⟩ h3
end KLIST
