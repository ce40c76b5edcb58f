/-! what every method finds, out of what the Statement gives of the start -/
theorem kn_none {s : State} : ∃ D : va_G, ∀ (c : Nat) (r : vw_C), ([] : List vw_C)[c]? = some r → u_Kn s r.1 r.2.1 r.2.2 (D.1 c) (D.2 c) := ⟨(fun _ => 0, fun _ _ => 0), fun c r h => by simp at h⟩
theorem kn_cons {s : State} {C : String} {T : u_T} {N : Nat} {cl : List vw_C} (h0 : ∃ (cC : ClassId) (iS : Nat → Nat), u_Kn s C T N cC iS) (h : ∃ D : va_G, ∀ (c : Nat) (r : vw_C), cl[c]? = some r → u_Kn s r.1 r.2.1 r.2.2 (D.1 c) (D.2 c)) :
    ∃ D : va_G, ∀ (c : Nat) (r : vw_C), (((C, T, N) : vw_C) :: cl)[c]? = some r → u_Kn s r.1 r.2.1 r.2.2 (D.1 c) (D.2 c) := by
  obtain ⟨cC, iS, h0⟩ := h0
  obtain ⟨D, h⟩ := h
  refine ⟨(fun k => match k with | 0 => cC | k + 1 => D.1 k, fun k => match k with | 0 => iS | k + 1 => D.2 k), ?_⟩
  intro c r hc
  match c, hc with
  | 0, hc =>
    rw [List.getElem?_cons_zero] at hc
    cases hc
    exact h0
  | k + 1, hc =>
    rw [List.getElem?_cons_succ] at hc
    exact h k r hc
theorem ks_cls {s : State} {args : Array Value} (hts : ∀ w ∈ lw_tbl, w.before args s = true) : ∃ D : va_G, ∀ (c : Nat) (r : vw_C), vwCl[c]? = some r → u_Kn s r.1 r.2.1 r.2.2 (D.1 c) (D.2 c) :=
  kn_cons (u_known (C := RJx4a65c) (T := TJx4a65c) (N := 3) (n := 3) hts inJx4a65c (hts (.instantiable RJx4a65c 3) (by decide +kernel)))
  (kn_cons (u_known (C := RX0) (T := TX0) (N := 4) (n := 4) hts inX0 (hts (.instantiable RX0 4) (by decide +kernel)))
  (kn_cons (u_known (C := RX1) (T := TX1) (N := 4) (n := 4) hts inX1 (hts (.instantiable RX1 4) (by decide +kernel)))
  (kn_cons (u_known (C := RX2) (T := TX2) (N := 9) (n := 9) hts inX2 (hts (.instantiable RX2 9) (by decide +kernel)))
  (kn_cons (u_known (C := RX3) (T := TX3) (N := 6) (n := 6) hts inX3 (hts (.instantiable RX3 6) (by decide +kernel)))
  (kn_cons (u_known (C := RX4) (T := TX4) (N := 4) (n := 4) hts inX4 (hts (.instantiable RX4 4) (by decide +kernel)))
  (kn_cons (u_known (C := RX5) (T := TX5) (N := 5) (n := 5) hts inX5 (hts (.instantiable RX5 5) (by decide +kernel)))
  kn_none))))))
theorem ks_arr {s : State} {args : Array Value} {ty : FieldType} (hty : ∀ C, ty ≠ .object C) (h : (Cond.arrayClass ty).before args s = true) : ∃ cA : ClassId, ArrOfT s cA ty ∧ va_RA s cA ty := by
  obtain ⟨c, k, comp, h1, h2, h3⟩ := Cond.arrayClass_spec h
  refine ⟨c, fun n z => ⟨fun k h => (by cases h), k, h2, comp, h3⟩, ?_⟩
  cases ty with
  | object C => exact absurd rfl (hty C)
  | _ => exact h1
theorem ks_obj {s : State} {args : Array Value} {C : String} (h : (Cond.arrayOver (.object C)).before args s = true) : ∃ cA : ClassId, ArrOfT s cA (.object C) ∧ va_RA s cA (.object C) := by
  obtain ⟨comp, c, k, h1, -, h2, h3, h4⟩ := Cond.arrayOver_spec h
  exact ⟨c, fun n z => ⟨fun k h => (by cases h), k, h2, comp, h3⟩, k, comp, h2, h3, h1, h4⟩
theorem kNw_in : ∀ w ∈ kNw, w ∈ lw_tbl := by decide +kernel
theorem kNw_on : ∀ w ∈ kNw, w.onTables = true := by decide +kernel
theorem kNc_in : ∀ q ∈ kNc, Cond.not (.castable q.1 q.2) ∈ flatC (Jvm.Cond.and given_1 narrow_1) := by decide +kernel
theorem kTx_in : ∀ q ∈ kTx, Cond.stringRef RX5 q.1 q.2 ∈ lw_tbl := by decide +kernel
theorem kTx_ex : ∀ q ∈ kTx, Cond.exactly (.string RX5 q.1) "java/lang/String" ∈ flatC (Jvm.Cond.and given_1 narrow_1) := by decide +kernel
theorem ks_str {s : State} {args : Array Value} (hs : ∀ w ∈ flatC (Jvm.Cond.and given_1 narrow_1), w.before args s = true) : ∃ f : Nat → Nat, ∀ q ∈ kTx, (Term.string RX5 q.1).eval args s none [] s = some (.ref (f q.1)) := by
  have h0 : ∀ k : Nat, ∃ a : Nat, (∃ q ∈ kTx, q.1 = k) → (Term.string RX5 k).eval args s none [] s = some (.ref a) := by
    intro k
    by_cases hk : ∃ q ∈ kTx, q.1 = k
    · obtain ⟨q, hq, rfl⟩ := hk
      obtain ⟨a, -, -, -, h1, -⟩ := Cond.exactly_spec (hs _ (kTx_ex q hq))
      exact ⟨a, fun _ => h1⟩
    · exact ⟨0, fun z => absurd z hk⟩
  obtain ⟨f, hf⟩ := Classical.axiomOfChoice h0
  exact ⟨f, fun q hq => hf q.1 ⟨q, hq, rfl⟩⟩
theorem kE_start {s : State} {args : Array Value} (hts : ∀ w ∈ lw_tbl, w.before args s = true) (hgv : (Jvm.Cond.and given_1 narrow_1).before args s = true) : ∃ G : kG, kB G = s.heap.size ∧ kE G s s.heap := by
  have hs := flat_of_before _ hgv
  obtain ⟨D, hD⟩ := ks_cls hts
  obtain ⟨cI, hI1, hI2⟩ := ks_arr (ty := .int) (fun _ h => by cases h) (hts (.arrayClass .int) (by decide +kernel))
  obtain ⟨cZ, hZ1, hZ2⟩ := ks_arr (ty := .boolean) (fun _ h => by cases h) (hts (.arrayClass .boolean) (by decide +kernel))
  obtain ⟨cO, hO1, hO2⟩ := ks_obj (C := "java/lang/Object") (hts (.arrayOver (.object "java/lang/Object")) (by decide +kernel))
  obtain ⟨f, hf⟩ := ks_str hs
  have hA : ∀ a : Nat, a < s.heap.size → ¬ s.heap.size ≤ a := fun a h => Nat.not_le.mpr h
  obtain ⟨t, ht, hT⟩ := va_Tof (A := fun q => s.heap.size ≤ q) (tm := .static kArr kDef kObs) (ty := .object "java/lang/Object") (N := 0) (f := fun _ => .null) (by decide) (hs _ (by decide +kernel)) (va_eqt (hs _ (by decide +kernel))) (fun j h => absurd h (Nat.not_lt_zero _)) hA
  obtain ⟨mi, hMi⟩ := va_Mi.of (C := kObs) (hs _ (by decide +kernel))
  refine ⟨(D, (cI, cZ, cO, cI), (s.heap.size, t, mi), f), rfl, ⟨hD, ?_⟩, Nat.le_refl _, fun w hw => va_Nw.of (kNw_on w hw) (hts w (kNw_in w hw)), fun q hq => va_Nc.of (hs _ (kNc_in q hq)), fun q hq => vk_R.of (hts _ (kTx_in q hq)) (hf q hq), ?_, ?_, ?_, hT, hMi, va_Dc.of (hts _ (by decide +kernel)), va_AO.of (hts _ (by decide +kernel))⟩
  · intro k q hq
    match k, hq with
    | 0, hq => cases hq; exact ⟨hI1, hI2⟩
    | 1, hq => cases hq; exact ⟨hZ1, hZ2⟩
    | 2, hq => cases hq; exact ⟨hO1, hO2⟩
    | k + 3, hq => simp at hq
  · exact vx_Zqof (hts _ (by decide +kernel)) (hts _ (by decide +kernel)) (hs _ (by decide +kernel)) hA
  · exact vx_Zqof (hts _ (by decide +kernel)) (hts _ (by decide +kernel)) (hs _ (by decide +kernel)) hA
  · exact va_Zof (hts _ (by decide +kernel)) (hts _ (by decide +kernel)) ht hA
