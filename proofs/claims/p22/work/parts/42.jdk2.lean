set_option maxHeartbeats 4000000 in
set_option maxRecDepth 100000 in
theorem c_Jx4a65c_grow_92f84_A (l : Launch) (G : kG) (lq : Nat) (md : Int32) (wr : va_W) : Met l yJx4a65c_grow_92f84 wsJx4a65c_grow_92f84 ({ frames := 1, cells := 1, slots := 40, locals := 21 } : Room) (kPc G [.ref (lq), .int (nI (1))] ([(lq, .inr (0, [.int (md), .ref (kE0 G), .int (nI (0))]))] ++ wr)) (kQq G (S := Nat × Nat) (fun z uu => z = some uu.1 ∧ 0 + 1 ≤ uu.2 ∧ uu.2 ≤ 40) (fun uu => [(lq, .inr (0, [.int (md), .ref (uu.1), .int (nI (0))])), (uu.1, .inl (kcO G, uu.2, .inr (.inr (.inr (.inr ((fun _ => none)))))))] ++ wr)) 1 40 (kA G) := by
  refine Met.ofW (cc := cJx4a65c_grow_92f84) (maxL := 4) (ret := (some (.array (.object "java/lang/Object")))) (by decide) rfl ?_
  intro pp ee s m args below meth cc0 s₁ Bd0 hml hv
  obtain ⟨rfl, hE, hV⟩ := hv
  have hK := hE.1
  have hx := Bd0.exec
  have hb := Bd0.bytes
  have hrt := Bd0.returns
  have hts := atoms_spec (ws := wsJx4a65c_grow_92f84) Bd0.pre
  have hown : s.vm.findClass RJx4a65c = some m.cls := findClass_of_methodNamed Bd0.named
  have hlocks := Bd0.notSynchronized
  have hF : CallFix pp m cc0 cJx4a65c_grow_92f84 4 s _ wsJx4a65c_grow_92f84 RJx4a65c := ⟨hx, hb, hml, hown, hts⟩
  have hinJx4a65c : ∀ w ∈ wsJx4a65c0, w ∈ wsJx4a65c_grow_92f84 := tb_of [37, 38, 39] rfl
  have hS : va_S (kA G) s.heap s.heap [] := va_S.rf
  have hB0 := hE.2.1
  have hl := lv_entry ([.ref (lq), .int (nI (1))]) (n := 4) (Nat.le_of_ble_eq_true rfl)
  rw [lg_entry_eq]
  generalize (lg_sl ([.ref (lq), .int (nI (1))]) ++ List.replicate (4 - (lg_sl ([.ref (lq), .int (nI (1))])).length) Slot.unset).toArray = ls at hl ⊢
  have hl : lv_has ls 4 [(0, .ref (lq)), (1, .int (nI (1)))] := hl
  refine lv_aload_n hx hb dJx4a65c_grow_92f84_0 rfl (lv_at hl 0 rfl) ?_
  refine va_get (D := kD G) (ci := 0) (v := .ref (kE0 G)) (C := RJx4a65c) (T := TJx4a65c) (N := 3) hx hb hts hinJx4a65c hown hK hV.1 0 rfl rfl 1 (by decide) (hts (Cond.fieldLink RJx4a65c 9 "java/util/ArrayList" "elementData" "[Ljava/lang/Object;") (List.mem_of_getElem? (i := 1) rfl)) (fun _ h9 => h9) rfl dJx4a65c_grow_92f84_1 ?_
  refine kq_len0 (G := G) hx hb hE hS dJx4a65c_grow_92f84_4 ?_
  refine lv_istore_n (lv' := [(2, .int (nI (0))), (0, .ref (lq)), (1, .int (nI (1)))]) hx hb dJx4a65c_grow_92f84_5 rfl hl (by decide) rfl (fun ls hl => ?_)
  refine lv_iload_n hx hb dJx4a65c_grow_92f84_6 rfl (lv_at hl 0 rfl) ?_
  refine kn_if_gt (tgt := 20) hx hb (by decide) dJx4a65c_grow_92f84_7 (by decide) (fun z => absurd z (by omega)) (fun c7 => ?_)
  refine lv_aload_n hx hb dJx4a65c_grow_92f84_10 rfl (lv_at hl 1 rfl) ?_
  refine va_get (D := kD G) (ci := 0) (v := .ref (kE0 G)) (C := RJx4a65c) (T := TJx4a65c) (N := 3) hx hb hts hinJx4a65c hown hK hV.1 0 rfl rfl 1 (by decide) (hts (Cond.fieldLink RJx4a65c 9 "java/util/ArrayList" "elementData" "[Ljava/lang/Object;") (List.mem_of_getElem? (i := 1) rfl)) (fun _ h9 => h9) rfl dJx4a65c_grow_92f84_11 ?_
  refine va_gets hx hb hE.2.2.2.2.2.2.2.1 hS hown (hts (Cond.fieldLink RJx4a65c 39 "java/util/ArrayList" "DEFAULTCAPACITY_EMPTY_ELEMENTDATA" "[Ljava/lang/Object;") (List.mem_of_getElem? (i := 2) rfl)) (fun _ h => h) dJx4a65c_grow_92f84_14 ?_
  refine lv_acmp_eq (rx := some (kE0 G)) (ry := some (kE0 G)) (tgt := 45) hx hb dJx4a65c_grow_92f84_17 (by decide) (fun _ => ?_) (fun z => absurd rfl z)
  refine lv_aload_n hx hb dJx4a65c_grow_92f84_45 rfl (lv_at hl 1 rfl) ?_
  refine lv_bipush (v := nI 10) hx hb dJx4a65c_grow_92f84_46 (by decide) ?_
  refine lv_iload_n hx hb dJx4a65c_grow_92f84_48 rfl (lv_at hl 2 rfl) ?_
  refine va_mmax hx hb (hml.trans hl.1.symm) hown (hts (Cond.methodLink RJx4a65c 79 Lib.Math.max.name) (List.mem_of_getElem? (i := 3) rfl)) (hts (Cond.static Lib.Math.max.name) (List.mem_of_getElem? (i := 4) rfl)) (hts (Cond.initialized "java/lang/Math") (List.mem_of_getElem? (i := 5) rfl)) (hts (Cond.code Lib.Math.max.name Lib.Math.max.code 2 (some .int)) (List.mem_of_getElem? (i := 6) rfl)) (Nat.le_of_ble_eq_true rfl) (Nat.le_of_ble_eq_true rfl) (Nat.le_of_ble_eq_true rfl) (Nat.le_of_ble_eq_true rfl) dJx4a65c_grow_92f84_49 ?_
  refine W.eq (g2 := F0 m 52 ls [.int (nI (10)), .ref (lq)]) rfl ?_
  refine kn_newO (G := G) (a := [(lq, .inr (0, [.int (md), .ref (kE0 G), .int (nI (0))]))]) (wr := wr) (n := 10) hx hb hown (hts (Cond.classLink RJx4a65c 7 "java/lang/Object") (List.mem_of_getElem? (i := 7) rfl)) hE hV hS hB0 (by omega) (Nat.le_of_ble_eq_true rfl) (Nat.le_trans (show 0 + 10 ≤ 40 by omega) (Nat.le_of_ble_eq_true rfl)) dJx4a65c_grow_92f84_52 (fun q_1 H hV hS => ?_)
  refine W.widen (k := 1) (n := 40) (by omega) (by omega) ?_
  have hV : kV G ([(lq, .inr (0, [.int (md), .ref (kE0 G), .int (nI (0))])), (q_1, .inl (kcO G, 10, .inr (.inr (.inr (.inr ((fun _ => none)))))))] ++ wr) _ := hV
  refine lv_dup_x1 hx hb dJx4a65c_grow_92f84_55 rfl rfl ?_
  refine va_put (D := kD G) (ci := 0) (v := .ref (q_1)) (ty := (.array (.object "java/lang/Object"))) (C := RJx4a65c) (T := TJx4a65c) (N := 3) hx hb hts hinJx4a65c tyJx4a65c tyJx4a65c_ok nmJx4a65c hown hK hV.1 hV.2 hS 0 rfl rfl 1 (by decide) (hts (Cond.fieldLink RJx4a65c 9 "java/util/ArrayList" "elementData" "[Ljava/lang/Object;") (List.mem_of_getElem? (i := 1) rfl)) (fun _ h9 => h9) rfl (by decide +kernel) rfl rfl (Nat.le_of_ble_eq_true rfl) dJx4a65c_grow_92f84_56 (fun H locs hP hD hS => ?_)
  have hV : kV G ([(lq, .inr (0, [.int (md), .ref (q_1), .int (nI (0))])), (q_1, .inl (kcO G, 10, .inr (.inr (.inr (.inr ((fun _ => none)))))))] ++ wr) _ := ⟨hP, hD⟩
  exact W.aret (v := .ref (q_1)) hx hb hrt (by first | exact Or.inl ⟨_, rfl⟩ | exact Or.inr ⟨_, rfl⟩) (Or.inr ⟨_, rfl⟩) (fun t ht hW => ⟨⟨some (q_1), (q_1, 10), rfl, ⟨rfl, by omega, by omega⟩, kV_eq ht hV⟩, hS.F ht⟩) hS.2.2 dJx4a65c_grow_92f84_59
set_option maxHeartbeats 4000000 in
set_option maxRecDepth 100000 in
theorem c_Jx4a65c_grow_92f84_C (l : Launch) (G : kG) (lq : Nat) (md : Int32) (b : Nat) (n : Nat) (e : Nat → Nat) (ci : Nat) (rr : vw_C) (wr : va_W) (hn1 : 1 ≤ n) (hn2 : n ≤ 22) (hcr : vwCl[ci]? = some rr) (hca : Cond.castable rr.1 "java/lang/Object" ∈ kNw) (hel : ∀ i, i < n → ∃ (k : Nat) (vs : List Value), wr[k]? = some (e i, .inr (ci, vs))) : Met l yJx4a65c_grow_92f84 wsJx4a65c_grow_92f84 ({ frames := 3, cells := 1, slots := 40, locals := 104 } : Room) (kPc G [.ref (lq), .int (nI (n + 1))] ([(lq, .inr (0, [.int (md), .ref (b), .int (nI (n))])), (b, .inl (kcO G, n, .inr (.inr (.inr (.inr (lf n e))))))] ++ wr)) (kQq G (S := Nat × Nat) (fun z uu => z = some uu.1 ∧ n + 1 ≤ uu.2 ∧ uu.2 ≤ 40) (fun uu => [(lq, .inr (0, [.int (md), .ref (uu.1), .int (nI (n))])), (uu.1, .inl (kcO G, uu.2, .inr (.inr (.inr (.inr (lf n e))))))] ++ wr)) 1 40 (kA G) := by
  refine Met.ofW (cc := cJx4a65c_grow_92f84) (maxL := 4) (ret := (some (.array (.object "java/lang/Object")))) (by decide) rfl ?_
  intro pp ee s m args below meth cc0 s₁ Bd0 hml hv
  obtain ⟨rfl, hE, hV⟩ := hv
  have hK := hE.1
  have hx := Bd0.exec
  have hb := Bd0.bytes
  have hrt := Bd0.returns
  have hts := atoms_spec (ws := wsJx4a65c_grow_92f84) Bd0.pre
  have hown : s.vm.findClass RJx4a65c = some m.cls := findClass_of_methodNamed Bd0.named
  have hlocks := Bd0.notSynchronized
  have hF : CallFix pp m cc0 cJx4a65c_grow_92f84 4 s _ wsJx4a65c_grow_92f84 RJx4a65c := ⟨hx, hb, hml, hown, hts⟩
  have hinJx4a65c : ∀ w ∈ wsJx4a65c0, w ∈ wsJx4a65c_grow_92f84 := tb_of [37, 38, 39] rfl
  have hS : va_S (kA G) s.heap s.heap [] := va_S.rf
  have hB0 := hE.2.1
  have hl := lv_entry ([.ref (lq), .int (nI (n + 1))]) (n := 4) (Nat.le_of_ble_eq_true rfl)
  rw [lg_entry_eq]
  generalize (lg_sl ([.ref (lq), .int (nI (n + 1))]) ++ List.replicate (4 - (lg_sl ([.ref (lq), .int (nI (n + 1))])).length) Slot.unset).toArray = ls at hl ⊢
  have hl : lv_has ls 4 [(0, .ref (lq)), (1, .int (nI (n + 1)))] := hl
  refine lv_aload_n hx hb dJx4a65c_grow_92f84_0 rfl (lv_at hl 0 rfl) ?_
  refine va_get (D := kD G) (ci := 0) (v := .ref (b)) (C := RJx4a65c) (T := TJx4a65c) (N := 3) hx hb hts hinJx4a65c hown hK hV.1 0 rfl rfl 1 (by decide) (hts (Cond.fieldLink RJx4a65c 9 "java/util/ArrayList" "elementData" "[Ljava/lang/Object;") (List.mem_of_getElem? (i := 1) rfl)) (fun _ h9 => h9) rfl dJx4a65c_grow_92f84_1 ?_
  refine kq_len (G := G) (n := n) (f := lf n e) hx hb hK hV 1 rfl dJx4a65c_grow_92f84_4 ?_
  refine lv_istore_n (lv' := [(2, .int (nI (n))), (0, .ref (lq)), (1, .int (nI (n + 1)))]) hx hb dJx4a65c_grow_92f84_5 rfl hl (by decide) rfl (fun ls hl => ?_)
  refine lv_iload_n hx hb dJx4a65c_grow_92f84_6 rfl (lv_at hl 0 rfl) ?_
  refine kn_if_gt (tgt := 20) hx hb (by omega) dJx4a65c_grow_92f84_7 (by decide) (fun c7 => ?_) (fun z => absurd z (by omega))
  refine lv_iload_n hx hb dJx4a65c_grow_92f84_20 rfl (lv_at hl 0 rfl) ?_
  refine lv_iload_n hx hb dJx4a65c_grow_92f84_21 rfl (lv_at hl 2 rfl) ?_
  refine lv_iload_n hx hb dJx4a65c_grow_92f84_22 rfl (lv_at hl 0 rfl) ?_
  refine kn_sub hx hb (by omega) dJx4a65c_grow_92f84_23 ?_
  refine lv_iload_n hx hb dJx4a65c_grow_92f84_24 rfl (lv_at hl 0 rfl) ?_
  refine lv_iconst (v := nI 1) hx hb dJx4a65c_grow_92f84_25 (by decide) ?_
  refine kn_ishr hx hb (by omega) (by omega) dJx4a65c_grow_92f84_26 ?_
  refine kc_i (va_runS (As := [.int (nI (n)), .int (nI ((n + 1) - n)), .int (nI (n / 2 ^ 1))]) (rest := []) hF (c_J8_newLength_cabcc l G n ((n + 1) - n) (n / 2 ^ 1) ([(lq, .inr (0, [.int (md), .ref (b), .int (nI (n))])), (b, .inl (kcO G, n, .inr (.inr (.inr (.inr (lf n e))))))] ++ wr) (by omega) (by omega) (by omega) (by omega)) (va_cwS 3 hts gJx4a65c_grow_92f84_J8_newLength_cabcc rfl rfl rfl (by decide +kernel) ⟨Nat.le_of_ble_eq_true rfl, Nat.le_of_ble_eq_true rfl⟩) (kPreS hE hS hV) rfl rfl hl.1 rfl (lv_room (Nat.le_of_ble_eq_true rfl)) dJx4a65c_grow_92f84_27 ⟨Nat.le_of_ble_eq_true rfl, Nat.le_of_ble_eq_true rfl⟩) hS (fun r_3 u_2 H locs hp_1 hV hS => ?_)
  subst hp_1
  have hV : kV G ([(lq, .inr (0, [.int (md), .ref (b), .int (nI (n))])), (b, .inl (kcO G, n, .inr (.inr (.inr (.inr (lf n e))))))] ++ wr) _ := hV
  refine lv_istore_n (lv' := [(3, .int (nI (n + max ((n + 1) - n) (n / 2 ^ 1)))), (2, .int (nI (n))), (0, .ref (lq)), (1, .int (nI (n + 1)))]) hx hb dJx4a65c_grow_92f84_30 rfl hl (by decide) rfl (fun ls hl => ?_)
  refine lv_aload_n hx hb dJx4a65c_grow_92f84_31 rfl (lv_at hl 2 rfl) ?_
  refine lv_aload_n hx hb dJx4a65c_grow_92f84_32 rfl (lv_at hl 2 rfl) ?_
  refine va_get (D := kD G) (ci := 0) (v := .ref (b)) (C := RJx4a65c) (T := TJx4a65c) (N := 3) hx hb hts hinJx4a65c hown hK hV.1 0 rfl rfl 1 (by decide) (hts (Cond.fieldLink RJx4a65c 9 "java/util/ArrayList" "elementData" "[Ljava/lang/Object;") (List.mem_of_getElem? (i := 1) rfl)) (fun _ h9 => h9) rfl dJx4a65c_grow_92f84_33 ?_
  refine lv_iload_n hx hb dJx4a65c_grow_92f84_36 rfl (lv_at hl 0 rfl) ?_
  have hV : kV G ([(b, .inl (kcO G, n, .inr (.inr (.inr (.inr (lf n e)))))), (lq, .inr (0, [.int (md), .ref (b), .int (nI (n))]))] ++ wr) _ := kV_part hV [1, 0] rfl rfl
  refine kc_q (va_runS (As := [.ref (b), .int (nI (n + max ((n + 1) - n) (n / 2 ^ 1)))]) (rest := [.ref (lq)]) hF (c_J7_copyOf_1904c l G b n e ci rr ([(lq, .inr (0, [.int (md), .ref (b), .int (nI (n))]))] ++ wr) (n + max ((n + 1) - n) (n / 2 ^ 1)) (by omega) (by omega) hcr hca (fun i hi => by
    obtain ⟨k, vs, hk⟩ := hel i hi
    exact ⟨k + 1, vs, hk⟩)) (va_cwS 2 hts gJx4a65c_grow_92f84_J7_copyOf_1904c rfl rfl rfl (by decide +kernel) ⟨Nat.le_of_ble_eq_true rfl, Nat.le_of_ble_eq_true rfl⟩) (kPreS hE hS hV) rfl rfl hl.1 rfl (lv_room (Nat.le_of_ble_eq_true rfl)) dJx4a65c_grow_92f84_37 ⟨Nat.le_of_ble_eq_true rfl, Nat.le_of_ble_eq_true rfl⟩) hS (fun r_6 u_5 H locs hp_4 hV hS => ?_)
  subst hp_4
  have hV : kV G ([(b, .inl (kcO G, n, .inr (.inr (.inr (.inr (lf n e)))))), (u_5, .inl (kcO G, n + max ((n + 1) - n) (n / 2 ^ 1), .inr (.inr (.inr (.inr (lf n e)))))), (lq, .inr (0, [.int (md), .ref (b), .int (nI (n))]))] ++ wr) _ := hV
  refine lv_dup_x1 hx hb dJx4a65c_grow_92f84_40 rfl rfl ?_
  refine va_put (D := kD G) (ci := 0) (v := .ref (u_5)) (ty := (.array (.object "java/lang/Object"))) (C := RJx4a65c) (T := TJx4a65c) (N := 3) hx hb hts hinJx4a65c tyJx4a65c tyJx4a65c_ok nmJx4a65c hown hK hV.1 hV.2 hS 2 rfl rfl 1 (by decide) (hts (Cond.fieldLink RJx4a65c 9 "java/util/ArrayList" "elementData" "[Ljava/lang/Object;") (List.mem_of_getElem? (i := 1) rfl)) (fun _ h9 => h9) rfl (by decide +kernel) rfl rfl (Nat.le_of_ble_eq_true rfl) dJx4a65c_grow_92f84_41 (fun H locs hP hD hS => ?_)
  have hV : kV G ([(b, .inl (kcO G, n, .inr (.inr (.inr (.inr (lf n e)))))), (u_5, .inl (kcO G, n + max ((n + 1) - n) (n / 2 ^ 1), .inr (.inr (.inr (.inr (lf n e)))))), (lq, .inr (0, [.int (md), .ref (u_5), .int (nI (n))]))] ++ wr) _ := ⟨hP, hD⟩
  have hV : kV G ([(lq, .inr (0, [.int (md), .ref (u_5), .int (nI (n))])), (u_5, .inl (kcO G, n + max ((n + 1) - n) (n / 2 ^ 1), .inr (.inr (.inr (.inr (lf n e))))))] ++ wr) _ := kV_part hV [2, 1] rfl rfl
  exact W.aret (v := .ref (u_5)) hx hb hrt (by first | exact Or.inl ⟨_, rfl⟩ | exact Or.inr ⟨_, rfl⟩) (Or.inr ⟨_, rfl⟩) (fun t ht hW => ⟨⟨some (u_5), (u_5, n + max (n + 1 - n) (n / 2 ^ 1)), rfl, ⟨rfl, by omega, by omega⟩, kV_eq ht hV⟩, hS.F ht⟩) hS.2.2 dJx4a65c_grow_92f84_44
set_option maxHeartbeats 4000000 in
set_option maxRecDepth 100000 in
theorem c_Jx4a65c_grow_d5877_A (l : Launch) (G : kG) (lq : Nat) (md : Int32) (wr : va_W) : Met l yJx4a65c_grow_d5877 wsJx4a65c_grow_d5877 ({ frames := 2, cells := 1, slots := 40, locals := 44 } : Room) (kPc G [.ref (lq)] ([(lq, .inr (0, [.int (md), .ref (kE0 G), .int (nI (0))]))] ++ wr)) (kQq G (S := Nat × Nat) (fun z uu => z = some uu.1 ∧ 0 + 1 ≤ uu.2 ∧ uu.2 ≤ 40) (fun uu => [(lq, .inr (0, [.int (md), .ref (uu.1), .int (nI (0))])), (uu.1, .inl (kcO G, uu.2, .inr (.inr (.inr (.inr ((fun _ => none)))))))] ++ wr)) 1 40 (kA G) := by
  refine Met.ofW (cc := cJx4a65c_grow_d5877) (maxL := 1) (ret := (some (.array (.object "java/lang/Object")))) (by decide) rfl ?_
  intro pp ee s m args below meth cc0 s₁ Bd0 hml hv
  obtain ⟨rfl, hE, hV⟩ := hv
  have hK := hE.1
  have hx := Bd0.exec
  have hb := Bd0.bytes
  have hrt := Bd0.returns
  have hts := atoms_spec (ws := wsJx4a65c_grow_d5877) Bd0.pre
  have hown : s.vm.findClass RJx4a65c = some m.cls := findClass_of_methodNamed Bd0.named
  have hlocks := Bd0.notSynchronized
  have hF : CallFix pp m cc0 cJx4a65c_grow_d5877 1 s _ wsJx4a65c_grow_d5877 RJx4a65c := ⟨hx, hb, hml, hown, hts⟩
  have hinJx4a65c : ∀ w ∈ wsJx4a65c0, w ∈ wsJx4a65c_grow_d5877 := tb_of [43, 44, 45] rfl
  have hS : va_S (kA G) s.heap s.heap [] := va_S.rf
  have hB0 := hE.2.1
  have hl := lv_entry ([.ref (lq)]) (n := 1) (Nat.le_of_ble_eq_true rfl)
  rw [lg_entry_eq]
  generalize (lg_sl ([.ref (lq)]) ++ List.replicate (1 - (lg_sl ([.ref (lq)])).length) Slot.unset).toArray = ls at hl ⊢
  have hl : lv_has ls 1 [(0, .ref (lq))] := hl
  refine lv_aload_n hx hb dJx4a65c_grow_d5877_0 rfl (lv_at hl 0 rfl) ?_
  refine lv_aload_n hx hb dJx4a65c_grow_d5877_1 rfl (lv_at hl 0 rfl) ?_
  refine va_get (D := kD G) (ci := 0) (v := .int (nI (0))) (C := RJx4a65c) (T := TJx4a65c) (N := 3) hx hb hts hinJx4a65c hown hK hV.1 0 rfl rfl 2 (by decide) (hts (Cond.fieldLink RJx4a65c 48 "java/util/ArrayList" "size" "I") (List.mem_of_getElem? (i := 1) rfl)) (fun _ h9 => h9) rfl dJx4a65c_grow_d5877_2 ?_
  refine lv_iconst (v := nI 1) hx hb dJx4a65c_grow_d5877_5 (by decide) ?_
  refine kn_add hx hb dJx4a65c_grow_d5877_6 ?_
  refine kc_q (va_runV (As := [.int (nI (0 + 1))]) (rest := []) hF (c_Jx4a65c_grow_92f84_A l G lq md wr) (cwV 1 hts gJx4a65c_grow_d5877_Jx4a65c_grow_92f84 rfl rfl rfl (by decide +kernel) ⟨Nat.le_of_ble_eq_true rfl, Nat.le_of_ble_eq_true rfl⟩) (kPreV hE hS hV 0 rfl rfl) rfl rfl hl.1 rfl (lv_room (Nat.le_of_ble_eq_true rfl)) dJx4a65c_grow_d5877_7 ⟨Nat.le_of_ble_eq_true rfl, Nat.le_of_ble_eq_true rfl⟩) hS (fun r_3 u_2 H locs hp_1 hV hS => ?_)
  obtain ⟨hp0, hp_1a, hp_1b⟩ := hp_1
  subst hp0
  have hV : kV G ([(lq, .inr (0, [.int (md), .ref (u_2.1), .int (nI (0))])), (u_2.1, .inl (kcO G, u_2.2, .inr (.inr (.inr (.inr ((fun _ => none)))))))] ++ wr) _ := hV
  exact W.aret (v := .ref (u_2.1)) hx hb hrt (by first | exact Or.inl ⟨_, rfl⟩ | exact Or.inr ⟨_, rfl⟩) (Or.inr ⟨_, rfl⟩) (fun t ht hW => ⟨⟨some (u_2.1), (u_2), rfl, ⟨rfl, hp_1a, hp_1b⟩, kV_eq ht hV⟩, hS.F ht⟩) hS.2.2 dJx4a65c_grow_d5877_10
set_option maxHeartbeats 4000000 in
set_option maxRecDepth 100000 in
theorem c_Jx4a65c_grow_d5877_C (l : Launch) (G : kG) (lq : Nat) (md : Int32) (b : Nat) (n : Nat) (e : Nat → Nat) (ci : Nat) (rr : vw_C) (wr : va_W) (hn1 : 1 ≤ n) (hn2 : n ≤ 22) (hcr : vwCl[ci]? = some rr) (hca : Cond.castable rr.1 "java/lang/Object" ∈ kNw) (hel : ∀ i, i < n → ∃ (k : Nat) (vs : List Value), wr[k]? = some (e i, .inr (ci, vs))) : Met l yJx4a65c_grow_d5877 wsJx4a65c_grow_d5877 ({ frames := 4, cells := 1, slots := 40, locals := 127 } : Room) (kPc G [.ref (lq)] ([(lq, .inr (0, [.int (md), .ref (b), .int (nI (n))])), (b, .inl (kcO G, n, .inr (.inr (.inr (.inr (lf n e))))))] ++ wr)) (kQq G (S := Nat × Nat) (fun z uu => z = some uu.1 ∧ n + 1 ≤ uu.2 ∧ uu.2 ≤ 40) (fun uu => [(lq, .inr (0, [.int (md), .ref (uu.1), .int (nI (n))])), (uu.1, .inl (kcO G, uu.2, .inr (.inr (.inr (.inr (lf n e))))))] ++ wr)) 1 40 (kA G) := by
  refine Met.ofW (cc := cJx4a65c_grow_d5877) (maxL := 1) (ret := (some (.array (.object "java/lang/Object")))) (by decide) rfl ?_
  intro pp ee s m args below meth cc0 s₁ Bd0 hml hv
  obtain ⟨rfl, hE, hV⟩ := hv
  have hK := hE.1
  have hx := Bd0.exec
  have hb := Bd0.bytes
  have hrt := Bd0.returns
  have hts := atoms_spec (ws := wsJx4a65c_grow_d5877) Bd0.pre
  have hown : s.vm.findClass RJx4a65c = some m.cls := findClass_of_methodNamed Bd0.named
  have hlocks := Bd0.notSynchronized
  have hF : CallFix pp m cc0 cJx4a65c_grow_d5877 1 s _ wsJx4a65c_grow_d5877 RJx4a65c := ⟨hx, hb, hml, hown, hts⟩
  have hinJx4a65c : ∀ w ∈ wsJx4a65c0, w ∈ wsJx4a65c_grow_d5877 := tb_of [43, 44, 45] rfl
  have hS : va_S (kA G) s.heap s.heap [] := va_S.rf
  have hB0 := hE.2.1
  have hl := lv_entry ([.ref (lq)]) (n := 1) (Nat.le_of_ble_eq_true rfl)
  rw [lg_entry_eq]
  generalize (lg_sl ([.ref (lq)]) ++ List.replicate (1 - (lg_sl ([.ref (lq)])).length) Slot.unset).toArray = ls at hl ⊢
  have hl : lv_has ls 1 [(0, .ref (lq))] := hl
  refine lv_aload_n hx hb dJx4a65c_grow_d5877_0 rfl (lv_at hl 0 rfl) ?_
  refine lv_aload_n hx hb dJx4a65c_grow_d5877_1 rfl (lv_at hl 0 rfl) ?_
  refine va_get (D := kD G) (ci := 0) (v := .int (nI (n))) (C := RJx4a65c) (T := TJx4a65c) (N := 3) hx hb hts hinJx4a65c hown hK hV.1 0 rfl rfl 2 (by decide) (hts (Cond.fieldLink RJx4a65c 48 "java/util/ArrayList" "size" "I") (List.mem_of_getElem? (i := 1) rfl)) (fun _ h9 => h9) rfl dJx4a65c_grow_d5877_2 ?_
  refine lv_iconst (v := nI 1) hx hb dJx4a65c_grow_d5877_5 (by decide) ?_
  refine kn_add hx hb dJx4a65c_grow_d5877_6 ?_
  refine kc_q (va_runV (As := [.int (nI (n + 1))]) (rest := []) hF (c_Jx4a65c_grow_92f84_C l G lq md b n e ci rr wr (by omega) (by omega) hcr hca hel) (cwV 1 hts gJx4a65c_grow_d5877_Jx4a65c_grow_92f84 rfl rfl rfl (by decide +kernel) ⟨Nat.le_of_ble_eq_true rfl, Nat.le_of_ble_eq_true rfl⟩) (kPreV hE hS hV 0 rfl rfl) rfl rfl hl.1 rfl (lv_room (Nat.le_of_ble_eq_true rfl)) dJx4a65c_grow_d5877_7 ⟨Nat.le_of_ble_eq_true rfl, Nat.le_of_ble_eq_true rfl⟩) hS (fun r_3 u_2 H locs hp_1 hV hS => ?_)
  obtain ⟨hp0, hp_1a, hp_1b⟩ := hp_1
  subst hp0
  have hV : kV G ([(lq, .inr (0, [.int (md), .ref (u_2.1), .int (nI (n))])), (u_2.1, .inl (kcO G, u_2.2, .inr (.inr (.inr (.inr (lf n e))))))] ++ wr) _ := hV
  exact W.aret (v := .ref (u_2.1)) hx hb hrt (by first | exact Or.inl ⟨_, rfl⟩ | exact Or.inr ⟨_, rfl⟩) (Or.inr ⟨_, rfl⟩) (fun t ht hW => ⟨⟨some (u_2.1), (u_2), rfl, ⟨rfl, hp_1a, hp_1b⟩, kV_eq ht hV⟩, hS.F ht⟩) hS.2.2 dJx4a65c_grow_d5877_10
set_option maxHeartbeats 4000000 in
set_option maxRecDepth 100000 in
theorem c_Jx4a65c_add_72be8_A (l : Launch) (G : kG) (lq : Nat) (md : Int32) (x : Nat) (vs : List Value) (e : Nat → Nat) (ci : Nat) (rr : vw_C) (wr : va_W) (hcr : vwCl[ci]? = some rr) (hca : Cond.castable rr.1 "java/lang/Object" ∈ kNw) : Met l yJx4a65c_add_72be8 wsJx4a65c_add_72be8 ({ frames := 3, cells := 1, slots := 40, locals := 64 } : Room) (kPc G [.ref (lq), .ref (x), .ref (kE0 G), .int (nI (0))] ([(lq, .inr (0, [.int (md), .ref (kE0 G), .int (nI (0))])), (x, .inr (ci, vs))] ++ wr)) (kQv G (S := Nat × Nat) (fun uu => 0 + 1 ≤ uu.2 ∧ uu.2 ≤ 40) (fun uu => [(lq, .inr (0, [.int (md), .ref (uu.1), .int (nI (0 + 1))])), (x, .inr (ci, vs)), (uu.1, .inl (kcO G, uu.2, .inr (.inr (.inr (.inr ((lf (0 + 1) (va_up e 0 x))))))))] ++ wr)) 1 40 (kA G) := by
  refine Met.ofW (cc := cJx4a65c_add_72be8) (maxL := 4) (ret := none) (by decide) rfl ?_
  intro pp ee s m args below meth cc0 s₁ Bd0 hml hv
  obtain ⟨rfl, hE, hV⟩ := hv
  have hK := hE.1
  have hx := Bd0.exec
  have hb := Bd0.bytes
  have hrt := Bd0.returns
  have hts := atoms_spec (ws := wsJx4a65c_add_72be8) Bd0.pre
  have hown : s.vm.findClass RJx4a65c = some m.cls := findClass_of_methodNamed Bd0.named
  have hlocks := Bd0.notSynchronized
  have hF : CallFix pp m cc0 cJx4a65c_add_72be8 4 s _ wsJx4a65c_add_72be8 RJx4a65c := ⟨hx, hb, hml, hown, hts⟩
  have hinJx4a65c : ∀ w ∈ wsJx4a65c0, w ∈ wsJx4a65c_add_72be8 := tb_of [47, 48, 49] rfl
  have hS : va_S (kA G) s.heap s.heap [] := va_S.rf
  have hB0 := hE.2.1
  have hl := lv_entry ([.ref (lq), .ref (x), .ref (kE0 G), .int (nI (0))]) (n := 4) (Nat.le_of_ble_eq_true rfl)
  rw [lg_entry_eq]
  generalize (lg_sl ([.ref (lq), .ref (x), .ref (kE0 G), .int (nI (0))]) ++ List.replicate (4 - (lg_sl ([.ref (lq), .ref (x), .ref (kE0 G), .int (nI (0))])).length) Slot.unset).toArray = ls at hl ⊢
  have hl : lv_has ls 4 [(0, .ref (lq)), (1, .ref (x)), (2, .ref (kE0 G)), (3, .int (nI (0)))] := hl
  refine lv_iload_n hx hb dJx4a65c_add_72be8_0 rfl (lv_at hl 3 rfl) ?_
  refine lv_aload_n hx hb dJx4a65c_add_72be8_1 rfl (lv_at hl 2 rfl) ?_
  refine kq_len0 (G := G) hx hb hE hS dJx4a65c_add_72be8_2 ?_
  refine kn_ne (tgt := 11) hx hb (by decide) (by decide) dJx4a65c_add_72be8_3 (by decide) (fun z => absurd rfl z) (fun c3 => ?_)
  refine lv_aload_n hx hb dJx4a65c_add_72be8_6 rfl (lv_at hl 0 rfl) ?_
  refine kc_q (va_runV (As := []) (rest := []) hF (c_Jx4a65c_grow_d5877_A l G lq md ([(x, .inr (ci, vs))] ++ wr)) (cwV 0 hts gJx4a65c_add_72be8_Jx4a65c_grow_d5877 rfl rfl rfl (by decide +kernel) ⟨Nat.le_of_ble_eq_true rfl, Nat.le_of_ble_eq_true rfl⟩) (kPreV hE hS hV 0 rfl rfl) rfl rfl hl.1 rfl (lv_room (Nat.le_of_ble_eq_true rfl)) dJx4a65c_add_72be8_7 ⟨Nat.le_of_ble_eq_true rfl, Nat.le_of_ble_eq_true rfl⟩) hS (fun r_3 u_2 H locs hp_1 hV hS => ?_)
  obtain ⟨hp0, hp_1a, hp_1b⟩ := hp_1
  subst hp0
  have hV : kV G ([(lq, .inr (0, [.int (md), .ref (u_2.1), .int (nI (0))])), (u_2.1, .inl (kcO G, u_2.2, .inr (.inr (.inr (.inr ((fun _ => none))))))), (x, .inr (ci, vs))] ++ wr) _ := hV
  refine lv_astore_n (lv' := [(2, .ref (u_2.1)), (0, .ref (lq)), (1, .ref (x)), (3, .int (nI (0)))]) hx hb dJx4a65c_add_72be8_10 rfl hl (by decide) rfl (fun ls hl => ?_)
  refine lv_aload_n hx hb dJx4a65c_add_72be8_11 rfl (lv_at hl 0 rfl) ?_
  refine lv_iload_n hx hb dJx4a65c_add_72be8_12 rfl (lv_at hl 3 rfl) ?_
  refine lv_aload_n hx hb dJx4a65c_add_72be8_13 rfl (lv_at hl 2 rfl) ?_
  refine kq_ast (G := G) (n := u_2.2) (f := (fun _ => none)) (i := 0) (ci := ci) hx hb hE hV hS 1 2 rfl hca rfl hcr (by omega) (by omega) dJx4a65c_add_72be8_14 (fun H locs hV hS => ?_)
  have hV : kV G ([(lq, .inr (0, [.int (md), .ref (u_2.1), .int (nI (0))])), (u_2.1, .inl (kcO G, u_2.2, .inr (.inr (.inr (.inr (va_up ((fun _ => none)) 0 (some x))))))), (x, .inr (ci, vs))] ++ wr) _ := hV
  refine lv_aload_n hx hb dJx4a65c_add_72be8_15 rfl (lv_at hl 1 rfl) ?_
  refine lv_iload_n hx hb dJx4a65c_add_72be8_16 rfl (lv_at hl 3 rfl) ?_
  refine lv_iconst (v := nI 1) hx hb dJx4a65c_add_72be8_17 (by decide) ?_
  refine kn_add hx hb dJx4a65c_add_72be8_18 ?_
  refine va_put (D := kD G) (ci := 0) (v := .int (nI (0 + 1))) (ty := .int) (C := RJx4a65c) (T := TJx4a65c) (N := 3) hx hb hts hinJx4a65c tyJx4a65c tyJx4a65c_ok nmJx4a65c hown hK hV.1 hV.2 hS 0 rfl rfl 2 (by decide) (hts (Cond.fieldLink RJx4a65c 48 "java/util/ArrayList" "size" "I") (List.mem_of_getElem? (i := 1) rfl)) (fun _ h9 => h9) rfl (by decide +kernel) rfl rfl (Nat.le_of_ble_eq_true rfl) dJx4a65c_add_72be8_19 (fun H locs hP hD hS => ?_)
  have hV : kV G ([(lq, .inr (0, [.int (md), .ref (u_2.1), .int (nI (0 + 1))])), (u_2.1, .inl (kcO G, u_2.2, .inr (.inr (.inr (.inr (va_up ((fun _ => none)) 0 (some x))))))), (x, .inr (ci, vs))] ++ wr) _ := ⟨hP, hD⟩
  have hV : kV G ([(lq, .inr (0, [.int (md), .ref (u_2.1), .int (nI (0 + 1))])), (x, .inr (ci, vs)), (u_2.1, .inl (kcO G, u_2.2, .inr (.inr (.inr (.inr (va_up ((fun _ => none)) 0 (some x)))))))] ++ wr) _ := kV_part hV [0, 2, 1] rfl rfl
  rw [← lf_0 e, lf_up] at hV
  exact W.vret hx hb hrt (fun t ht hW => ⟨⟨(u_2.1, u_2.2), rfl, ⟨by omega, by omega⟩, kV_eq ht hV⟩, hS.F ht⟩) hS.2.2 dJx4a65c_add_72be8_22
set_option maxHeartbeats 4000000 in
set_option maxRecDepth 100000 in
theorem c_Jx4a65c_add_72be8_B (l : Launch) (G : kG) (lq : Nat) (md : Int32) (b : Nat) (n : Nat) (cap : Nat) (x : Nat) (vs : List Value) (e : Nat → Nat) (ci : Nat) (rr : vw_C) (wr : va_W) (hnc : n < cap) (hc40 : cap ≤ 40) (hcr : vwCl[ci]? = some rr) (hca : Cond.castable rr.1 "java/lang/Object" ∈ kNw) : Met l yJx4a65c_add_72be8 wsJx4a65c_add_72be8 ({ frames := 0, cells := 1, slots := 40, locals := 0 } : Room) (kPc G [.ref (lq), .ref (x), .ref (b), .int (nI (n))] ([(lq, .inr (0, [.int (md), .ref (b), .int (nI (n))])), (x, .inr (ci, vs)), (b, .inl (kcO G, cap, .inr (.inr (.inr (.inr (lf n e))))))] ++ wr)) (kQv G (S := Nat × Nat) (fun uu => n + 1 ≤ uu.2 ∧ uu.2 ≤ 40) (fun uu => [(lq, .inr (0, [.int (md), .ref (uu.1), .int (nI (n + 1))])), (x, .inr (ci, vs)), (uu.1, .inl (kcO G, uu.2, .inr (.inr (.inr (.inr ((lf (n + 1) (va_up e n x))))))))] ++ wr)) 1 40 (kA G) := by
  refine Met.ofW (cc := cJx4a65c_add_72be8) (maxL := 4) (ret := none) (by decide) rfl ?_
  intro pp ee s m args below meth cc0 s₁ Bd0 hml hv
  obtain ⟨rfl, hE, hV⟩ := hv
  have hK := hE.1
  have hx := Bd0.exec
  have hb := Bd0.bytes
  have hrt := Bd0.returns
  have hts := atoms_spec (ws := wsJx4a65c_add_72be8) Bd0.pre
  have hown : s.vm.findClass RJx4a65c = some m.cls := findClass_of_methodNamed Bd0.named
  have hlocks := Bd0.notSynchronized
  have hF : CallFix pp m cc0 cJx4a65c_add_72be8 4 s _ wsJx4a65c_add_72be8 RJx4a65c := ⟨hx, hb, hml, hown, hts⟩
  have hinJx4a65c : ∀ w ∈ wsJx4a65c0, w ∈ wsJx4a65c_add_72be8 := tb_of [47, 48, 49] rfl
  have hS : va_S (kA G) s.heap s.heap [] := va_S.rf
  have hB0 := hE.2.1
  have hl := lv_entry ([.ref (lq), .ref (x), .ref (b), .int (nI (n))]) (n := 4) (Nat.le_of_ble_eq_true rfl)
  rw [lg_entry_eq]
  generalize (lg_sl ([.ref (lq), .ref (x), .ref (b), .int (nI (n))]) ++ List.replicate (4 - (lg_sl ([.ref (lq), .ref (x), .ref (b), .int (nI (n))])).length) Slot.unset).toArray = ls at hl ⊢
  have hl : lv_has ls 4 [(0, .ref (lq)), (1, .ref (x)), (2, .ref (b)), (3, .int (nI (n)))] := hl
  refine lv_iload_n hx hb dJx4a65c_add_72be8_0 rfl (lv_at hl 3 rfl) ?_
  refine lv_aload_n hx hb dJx4a65c_add_72be8_1 rfl (lv_at hl 2 rfl) ?_
  refine kq_len (G := G) (n := cap) (f := lf n e) hx hb hK hV 2 rfl dJx4a65c_add_72be8_2 ?_
  refine kn_ne (tgt := 11) hx hb (by omega) (by omega) dJx4a65c_add_72be8_3 (by decide) (fun c3 => ?_) (fun z => absurd z (by omega))
  refine lv_aload_n hx hb dJx4a65c_add_72be8_11 rfl (lv_at hl 2 rfl) ?_
  refine lv_iload_n hx hb dJx4a65c_add_72be8_12 rfl (lv_at hl 3 rfl) ?_
  refine lv_aload_n hx hb dJx4a65c_add_72be8_13 rfl (lv_at hl 1 rfl) ?_
  refine kq_ast (G := G) (n := cap) (f := lf n e) (i := n) (ci := ci) hx hb hE hV hS 2 1 rfl hca rfl hcr (by omega) (by omega) dJx4a65c_add_72be8_14 (fun H locs hV hS => ?_)
  have hV : kV G ([(lq, .inr (0, [.int (md), .ref (b), .int (nI (n))])), (x, .inr (ci, vs)), (b, .inl (kcO G, cap, .inr (.inr (.inr (.inr (va_up (lf n e) n (some x)))))))] ++ wr) _ := hV
  refine lv_aload_n hx hb dJx4a65c_add_72be8_15 rfl (lv_at hl 0 rfl) ?_
  refine lv_iload_n hx hb dJx4a65c_add_72be8_16 rfl (lv_at hl 3 rfl) ?_
  refine lv_iconst (v := nI 1) hx hb dJx4a65c_add_72be8_17 (by decide) ?_
  refine kn_add hx hb dJx4a65c_add_72be8_18 ?_
  refine va_put (D := kD G) (ci := 0) (v := .int (nI (n + 1))) (ty := .int) (C := RJx4a65c) (T := TJx4a65c) (N := 3) hx hb hts hinJx4a65c tyJx4a65c tyJx4a65c_ok nmJx4a65c hown hK hV.1 hV.2 hS 0 rfl rfl 2 (by decide) (hts (Cond.fieldLink RJx4a65c 48 "java/util/ArrayList" "size" "I") (List.mem_of_getElem? (i := 1) rfl)) (fun _ h9 => h9) rfl (by decide +kernel) rfl rfl (Nat.le_of_ble_eq_true rfl) dJx4a65c_add_72be8_19 (fun H locs hP hD hS => ?_)
  have hV : kV G ([(lq, .inr (0, [.int (md), .ref (b), .int (nI (n + 1))])), (x, .inr (ci, vs)), (b, .inl (kcO G, cap, .inr (.inr (.inr (.inr (va_up (lf n e) n (some x)))))))] ++ wr) _ := ⟨hP, hD⟩
  have hV : kV G ([(lq, .inr (0, [.int (md), .ref (b), .int (nI (n + 1))])), (x, .inr (ci, vs)), (b, .inl (kcO G, cap, .inr (.inr (.inr (.inr (va_up (lf n e) n (some x)))))))] ++ wr) _ := kV_part hV [0, 1, 2] rfl rfl
  rw [lf_up] at hV
  refine W.widen (k := 1) (n := 40) (by decide) (by decide) ?_
  exact W.vret hx hb hrt (fun t ht hW => ⟨⟨(b, cap), rfl, ⟨by omega, by omega⟩, kV_eq ht hV⟩, hS.F ht⟩) hS.2.2 dJx4a65c_add_72be8_22
set_option maxHeartbeats 4000000 in
set_option maxRecDepth 100000 in
theorem c_Jx4a65c_add_72be8_C (l : Launch) (G : kG) (lq : Nat) (md : Int32) (b : Nat) (n : Nat) (x : Nat) (vs : List Value) (e : Nat → Nat) (ci : Nat) (rr : vw_C) (wr : va_W) (hn1 : 1 ≤ n) (hn2 : n ≤ 22) (hcr : vwCl[ci]? = some rr) (hca : Cond.castable rr.1 "java/lang/Object" ∈ kNw) (hel : ∀ i, i < n → ∃ (k : Nat) (vs : List Value), wr[k]? = some (e i, .inr (ci, vs))) : Met l yJx4a65c_add_72be8 wsJx4a65c_add_72be8 ({ frames := 5, cells := 1, slots := 40, locals := 147 } : Room) (kPc G [.ref (lq), .ref (x), .ref (b), .int (nI (n))] ([(lq, .inr (0, [.int (md), .ref (b), .int (nI (n))])), (x, .inr (ci, vs)), (b, .inl (kcO G, n, .inr (.inr (.inr (.inr (lf n e))))))] ++ wr)) (kQv G (S := Nat × Nat) (fun uu => n + 1 ≤ uu.2 ∧ uu.2 ≤ 40) (fun uu => [(lq, .inr (0, [.int (md), .ref (uu.1), .int (nI (n + 1))])), (x, .inr (ci, vs)), (uu.1, .inl (kcO G, uu.2, .inr (.inr (.inr (.inr ((lf (n + 1) (va_up e n x))))))))] ++ wr)) 1 40 (kA G) := by
  refine Met.ofW (cc := cJx4a65c_add_72be8) (maxL := 4) (ret := none) (by decide) rfl ?_
  intro pp ee s m args below meth cc0 s₁ Bd0 hml hv
  obtain ⟨rfl, hE, hV⟩ := hv
  have hK := hE.1
  have hx := Bd0.exec
  have hb := Bd0.bytes
  have hrt := Bd0.returns
  have hts := atoms_spec (ws := wsJx4a65c_add_72be8) Bd0.pre
  have hown : s.vm.findClass RJx4a65c = some m.cls := findClass_of_methodNamed Bd0.named
  have hlocks := Bd0.notSynchronized
  have hF : CallFix pp m cc0 cJx4a65c_add_72be8 4 s _ wsJx4a65c_add_72be8 RJx4a65c := ⟨hx, hb, hml, hown, hts⟩
  have hinJx4a65c : ∀ w ∈ wsJx4a65c0, w ∈ wsJx4a65c_add_72be8 := tb_of [47, 48, 49] rfl
  have hS : va_S (kA G) s.heap s.heap [] := va_S.rf
  have hB0 := hE.2.1
  have hl := lv_entry ([.ref (lq), .ref (x), .ref (b), .int (nI (n))]) (n := 4) (Nat.le_of_ble_eq_true rfl)
  rw [lg_entry_eq]
  generalize (lg_sl ([.ref (lq), .ref (x), .ref (b), .int (nI (n))]) ++ List.replicate (4 - (lg_sl ([.ref (lq), .ref (x), .ref (b), .int (nI (n))])).length) Slot.unset).toArray = ls at hl ⊢
  have hl : lv_has ls 4 [(0, .ref (lq)), (1, .ref (x)), (2, .ref (b)), (3, .int (nI (n)))] := hl
  refine lv_iload_n hx hb dJx4a65c_add_72be8_0 rfl (lv_at hl 3 rfl) ?_
  refine lv_aload_n hx hb dJx4a65c_add_72be8_1 rfl (lv_at hl 2 rfl) ?_
  refine kq_len (G := G) (n := n) (f := lf n e) hx hb hK hV 2 rfl dJx4a65c_add_72be8_2 ?_
  refine kn_ne (tgt := 11) hx hb (by omega) (by omega) dJx4a65c_add_72be8_3 (by decide) (fun z => absurd rfl z) (fun c3 => ?_)
  refine lv_aload_n hx hb dJx4a65c_add_72be8_6 rfl (lv_at hl 0 rfl) ?_
  have hV : kV G ([(lq, .inr (0, [.int (md), .ref (b), .int (nI (n))])), (b, .inl (kcO G, n, .inr (.inr (.inr (.inr (lf n e)))))), (x, .inr (ci, vs))] ++ wr) _ := kV_part hV [0, 2, 1] rfl rfl
  refine kc_q (va_runV (As := []) (rest := []) hF (c_Jx4a65c_grow_d5877_C l G lq md b n e ci rr ([(x, .inr (ci, vs))] ++ wr) (by omega) (by omega) hcr hca (fun i hi => by
    obtain ⟨k, vs, hk⟩ := hel i hi
    exact ⟨k + 1, vs, hk⟩)) (cwV 0 hts gJx4a65c_add_72be8_Jx4a65c_grow_d5877 rfl rfl rfl (by decide +kernel) ⟨Nat.le_of_ble_eq_true rfl, Nat.le_of_ble_eq_true rfl⟩) (kPreV hE hS hV 0 rfl rfl) rfl rfl hl.1 rfl (lv_room (Nat.le_of_ble_eq_true rfl)) dJx4a65c_add_72be8_7 ⟨Nat.le_of_ble_eq_true rfl, Nat.le_of_ble_eq_true rfl⟩) hS (fun r_3 u_2 H locs hp_1 hV hS => ?_)
  obtain ⟨hp0, hp_1a, hp_1b⟩ := hp_1
  subst hp0
  have hV : kV G ([(lq, .inr (0, [.int (md), .ref (u_2.1), .int (nI (n))])), (u_2.1, .inl (kcO G, u_2.2, .inr (.inr (.inr (.inr (lf n e)))))), (x, .inr (ci, vs))] ++ wr) _ := hV
  refine lv_astore_n (lv' := [(2, .ref (u_2.1)), (0, .ref (lq)), (1, .ref (x)), (3, .int (nI (n)))]) hx hb dJx4a65c_add_72be8_10 rfl hl (by decide) rfl (fun ls hl => ?_)
  refine lv_aload_n hx hb dJx4a65c_add_72be8_11 rfl (lv_at hl 0 rfl) ?_
  refine lv_iload_n hx hb dJx4a65c_add_72be8_12 rfl (lv_at hl 3 rfl) ?_
  refine lv_aload_n hx hb dJx4a65c_add_72be8_13 rfl (lv_at hl 2 rfl) ?_
  refine kq_ast (G := G) (n := u_2.2) (f := lf n e) (i := n) (ci := ci) hx hb hE hV hS 1 2 rfl hca rfl hcr (by omega) (by omega) dJx4a65c_add_72be8_14 (fun H locs hV hS => ?_)
  have hV : kV G ([(lq, .inr (0, [.int (md), .ref (u_2.1), .int (nI (n))])), (u_2.1, .inl (kcO G, u_2.2, .inr (.inr (.inr (.inr (va_up (lf n e) n (some x))))))), (x, .inr (ci, vs))] ++ wr) _ := hV
  refine lv_aload_n hx hb dJx4a65c_add_72be8_15 rfl (lv_at hl 1 rfl) ?_
  refine lv_iload_n hx hb dJx4a65c_add_72be8_16 rfl (lv_at hl 3 rfl) ?_
  refine lv_iconst (v := nI 1) hx hb dJx4a65c_add_72be8_17 (by decide) ?_
  refine kn_add hx hb dJx4a65c_add_72be8_18 ?_
  refine va_put (D := kD G) (ci := 0) (v := .int (nI (n + 1))) (ty := .int) (C := RJx4a65c) (T := TJx4a65c) (N := 3) hx hb hts hinJx4a65c tyJx4a65c tyJx4a65c_ok nmJx4a65c hown hK hV.1 hV.2 hS 0 rfl rfl 2 (by decide) (hts (Cond.fieldLink RJx4a65c 48 "java/util/ArrayList" "size" "I") (List.mem_of_getElem? (i := 1) rfl)) (fun _ h9 => h9) rfl (by decide +kernel) rfl rfl (Nat.le_of_ble_eq_true rfl) dJx4a65c_add_72be8_19 (fun H locs hP hD hS => ?_)
  have hV : kV G ([(lq, .inr (0, [.int (md), .ref (u_2.1), .int (nI (n + 1))])), (u_2.1, .inl (kcO G, u_2.2, .inr (.inr (.inr (.inr (va_up (lf n e) n (some x))))))), (x, .inr (ci, vs))] ++ wr) _ := ⟨hP, hD⟩
  have hV : kV G ([(lq, .inr (0, [.int (md), .ref (u_2.1), .int (nI (n + 1))])), (x, .inr (ci, vs)), (u_2.1, .inl (kcO G, u_2.2, .inr (.inr (.inr (.inr (va_up (lf n e) n (some x)))))))] ++ wr) _ := kV_part hV [0, 2, 1] rfl rfl
  rw [lf_up] at hV
  exact W.vret hx hb hrt (fun t ht hW => ⟨⟨(u_2.1, u_2.2), rfl, ⟨by omega, by omega⟩, kV_eq ht hV⟩, hS.F ht⟩) hS.2.2 dJx4a65c_add_72be8_22
set_option maxHeartbeats 4000000 in
set_option maxRecDepth 100000 in
theorem c_Jx4a65c_add_9ea2d_A (l : Launch) (G : kG) (lq : Nat) (md : Int32) (x : Nat) (vs : List Value) (e : Nat → Nat) (ci : Nat) (rr : vw_C) (wr : va_W) (hcr : vwCl[ci]? = some rr) (hca : Cond.castable rr.1 "java/lang/Object" ∈ kNw) : Met l yJx4a65c_add_9ea2d wsJx4a65c_add_9ea2d ({ frames := 6, cells := 1, slots := 40, locals := 170 } : Room) (kPc G [.ref (lq), .ref (x)] ([(lq, .inr (0, [.int (md), .ref (kE0 G), .int (nI (0))])), (x, .inr (ci, vs))] ++ wr)) (kQi G (S := Nat × Nat) (fun z uu => z = nI 1 ∧ 0 + 1 ≤ uu.2 ∧ uu.2 ≤ 40) (fun uu => [(lq, .inr (0, [.int (md + nI 1), .ref (uu.1), .int (nI (0 + 1))])), (x, .inr (ci, vs)), (uu.1, .inl (kcO G, uu.2, .inr (.inr (.inr (.inr ((lf (0 + 1) (va_up e 0 x))))))))] ++ wr)) 1 40 (kA G) := by
  refine Met.ofW (cc := cJx4a65c_add_9ea2d) (maxL := 2) (ret := (some .boolean)) (by decide) rfl ?_
  intro pp ee s m args below meth cc0 s₁ Bd0 hml hv
  obtain ⟨rfl, hE, hV⟩ := hv
  have hK := hE.1
  have hx := Bd0.exec
  have hb := Bd0.bytes
  have hrt := Bd0.returns
  have hts := atoms_spec (ws := wsJx4a65c_add_9ea2d) Bd0.pre
  have hown : s.vm.findClass RJx4a65c = some m.cls := findClass_of_methodNamed Bd0.named
  have hlocks := Bd0.notSynchronized
  have hF : CallFix pp m cc0 cJx4a65c_add_9ea2d 2 s _ wsJx4a65c_add_9ea2d RJx4a65c := ⟨hx, hb, hml, hown, hts⟩
  have hinJx4a65c : ∀ w ∈ wsJx4a65c0, w ∈ wsJx4a65c_add_9ea2d := tb_of [53, 54, 55] rfl
  have hS : va_S (kA G) s.heap s.heap [] := va_S.rf
  have hB0 := hE.2.1
  have hl := lv_entry ([.ref (lq), .ref (x)]) (n := 2) (Nat.le_of_ble_eq_true rfl)
  rw [lg_entry_eq]
  generalize (lg_sl ([.ref (lq), .ref (x)]) ++ List.replicate (2 - (lg_sl ([.ref (lq), .ref (x)])).length) Slot.unset).toArray = ls at hl ⊢
  have hl : lv_has ls 2 [(0, .ref (lq)), (1, .ref (x))] := hl
  refine lv_aload_n hx hb dJx4a65c_add_9ea2d_0 rfl (lv_at hl 0 rfl) ?_
  refine lv_dup hx hb dJx4a65c_add_9ea2d_1 rfl ?_
  refine va_get (D := kD G) (ci := 0) (v := .int (md)) (C := RJx4a65c) (T := TJx4a65c) (N := 3) hx hb hts hinJx4a65c hown hK hV.1 0 rfl rfl 0 (by decide) (hts (Cond.fieldLink RJx4a65c 63 "java/util/ArrayList" "modCount" "I") (List.mem_of_getElem? (i := 1) rfl)) (fun x9 h9 => u_same (hts (Cond.sameField "java/util/ArrayList" "java/util/AbstractList" "modCount" "I") (List.mem_of_getElem? (i := 2) rfl)) x9 h9) rfl dJx4a65c_add_9ea2d_2 ?_
  refine lv_iconst (v := nI 1) hx hb dJx4a65c_add_9ea2d_5 (by decide) ?_
  refine lv_iadd hx hb dJx4a65c_add_9ea2d_6 ?_
  refine va_put (D := kD G) (ci := 0) (v := .int (md + nI 1)) (ty := .int) (C := RJx4a65c) (T := TJx4a65c) (N := 3) hx hb hts hinJx4a65c tyJx4a65c tyJx4a65c_ok nmJx4a65c hown hK hV.1 hV.2 hS 0 rfl rfl 0 (by decide) (hts (Cond.fieldLink RJx4a65c 63 "java/util/ArrayList" "modCount" "I") (List.mem_of_getElem? (i := 1) rfl)) (fun x9 h9 => u_same (hts (Cond.sameField "java/util/ArrayList" "java/util/AbstractList" "modCount" "I") (List.mem_of_getElem? (i := 2) rfl)) x9 h9) rfl (by decide +kernel) rfl rfl (Nat.le_of_ble_eq_true rfl) dJx4a65c_add_9ea2d_7 (fun H locs hP hD hS => ?_)
  have hV : kV G ([(lq, .inr (0, [.int (md + nI 1), .ref (kE0 G), .int (nI (0))])), (x, .inr (ci, vs))] ++ wr) _ := ⟨hP, hD⟩
  refine lv_aload_n hx hb dJx4a65c_add_9ea2d_10 rfl (lv_at hl 0 rfl) ?_
  refine lv_aload_n hx hb dJx4a65c_add_9ea2d_11 rfl (lv_at hl 1 rfl) ?_
  refine lv_aload_n hx hb dJx4a65c_add_9ea2d_12 rfl (lv_at hl 0 rfl) ?_
  refine va_get (D := kD G) (ci := 0) (v := .ref (kE0 G)) (C := RJx4a65c) (T := TJx4a65c) (N := 3) hx hb hts hinJx4a65c hown hK hV.1 0 rfl rfl 1 (by decide) (hts (Cond.fieldLink RJx4a65c 9 "java/util/ArrayList" "elementData" "[Ljava/lang/Object;") (List.mem_of_getElem? (i := 3) rfl)) (fun _ h9 => h9) rfl dJx4a65c_add_9ea2d_13 ?_
  refine lv_aload_n hx hb dJx4a65c_add_9ea2d_16 rfl (lv_at hl 0 rfl) ?_
  refine va_get (D := kD G) (ci := 0) (v := .int (nI (0))) (C := RJx4a65c) (T := TJx4a65c) (N := 3) hx hb hts hinJx4a65c hown hK hV.1 0 rfl rfl 2 (by decide) (hts (Cond.fieldLink RJx4a65c 48 "java/util/ArrayList" "size" "I") (List.mem_of_getElem? (i := 4) rfl)) (fun _ h9 => h9) rfl dJx4a65c_add_9ea2d_17 ?_
  refine kc_v (va_runV (As := [.ref (x), .ref (kE0 G), .int (nI (0))]) (rest := []) hF (c_Jx4a65c_add_72be8_A l G lq (md + nI 1) x vs e ci rr wr hcr hca) (cwV 3 hts gJx4a65c_add_9ea2d_Jx4a65c_add_72be8 rfl rfl rfl (by decide +kernel) ⟨Nat.le_of_ble_eq_true rfl, Nat.le_of_ble_eq_true rfl⟩) (kPreV hE hS hV 0 rfl rfl) rfl rfl hl.1 rfl (lv_room (Nat.le_of_ble_eq_true rfl)) dJx4a65c_add_9ea2d_20 ⟨Nat.le_of_ble_eq_true rfl, Nat.le_of_ble_eq_true rfl⟩) hS (fun u_2 H locs hp_1 hV hS => ?_)
  obtain ⟨hp_1a, hp_1b⟩ := hp_1
  have hV : kV G ([(lq, .inr (0, [.int (md + nI 1), .ref (u_2.1), .int (nI (0 + 1))])), (x, .inr (ci, vs)), (u_2.1, .inl (kcO G, u_2.2, .inr (.inr (.inr (.inr (lf (0 + 1) (va_up e 0 x)))))))] ++ wr) _ := hV
  refine lv_iconst (v := nI 1) hx hb dJx4a65c_add_9ea2d_23 (by decide) ?_
  exact W.zret (v := nI 1) hx hb hrt (by decide) (fun t ht hW => ⟨⟨_, (u_2.1, u_2.2), rfl, ⟨rfl, hp_1a, hp_1b⟩, kV_eq ht hV⟩, hS.F ht⟩) hS.2.2 dJx4a65c_add_9ea2d_24
set_option maxHeartbeats 4000000 in
set_option maxRecDepth 100000 in
theorem c_Jx4a65c_add_9ea2d_B (l : Launch) (G : kG) (lq : Nat) (md : Int32) (b : Nat) (n : Nat) (cap : Nat) (x : Nat) (vs : List Value) (e : Nat → Nat) (ci : Nat) (rr : vw_C) (wr : va_W) (hnc : n < cap) (hc40 : cap ≤ 40) (hcr : vwCl[ci]? = some rr) (hca : Cond.castable rr.1 "java/lang/Object" ∈ kNw) : Met l yJx4a65c_add_9ea2d wsJx4a65c_add_9ea2d ({ frames := 6, cells := 1, slots := 40, locals := 170 } : Room) (kPc G [.ref (lq), .ref (x)] ([(lq, .inr (0, [.int (md), .ref (b), .int (nI (n))])), (x, .inr (ci, vs)), (b, .inl (kcO G, cap, .inr (.inr (.inr (.inr (lf n e))))))] ++ wr)) (kQi G (S := Nat × Nat) (fun z uu => z = nI 1 ∧ n + 1 ≤ uu.2 ∧ uu.2 ≤ 40) (fun uu => [(lq, .inr (0, [.int (md + nI 1), .ref (uu.1), .int (nI (n + 1))])), (x, .inr (ci, vs)), (uu.1, .inl (kcO G, uu.2, .inr (.inr (.inr (.inr ((lf (n + 1) (va_up e n x))))))))] ++ wr)) 1 40 (kA G) := by
  refine Met.ofW (cc := cJx4a65c_add_9ea2d) (maxL := 2) (ret := (some .boolean)) (by decide) rfl ?_
  intro pp ee s m args below meth cc0 s₁ Bd0 hml hv
  obtain ⟨rfl, hE, hV⟩ := hv
  have hK := hE.1
  have hx := Bd0.exec
  have hb := Bd0.bytes
  have hrt := Bd0.returns
  have hts := atoms_spec (ws := wsJx4a65c_add_9ea2d) Bd0.pre
  have hown : s.vm.findClass RJx4a65c = some m.cls := findClass_of_methodNamed Bd0.named
  have hlocks := Bd0.notSynchronized
  have hF : CallFix pp m cc0 cJx4a65c_add_9ea2d 2 s _ wsJx4a65c_add_9ea2d RJx4a65c := ⟨hx, hb, hml, hown, hts⟩
  have hinJx4a65c : ∀ w ∈ wsJx4a65c0, w ∈ wsJx4a65c_add_9ea2d := tb_of [53, 54, 55] rfl
  have hS : va_S (kA G) s.heap s.heap [] := va_S.rf
  have hB0 := hE.2.1
  have hl := lv_entry ([.ref (lq), .ref (x)]) (n := 2) (Nat.le_of_ble_eq_true rfl)
  rw [lg_entry_eq]
  generalize (lg_sl ([.ref (lq), .ref (x)]) ++ List.replicate (2 - (lg_sl ([.ref (lq), .ref (x)])).length) Slot.unset).toArray = ls at hl ⊢
  have hl : lv_has ls 2 [(0, .ref (lq)), (1, .ref (x))] := hl
  refine lv_aload_n hx hb dJx4a65c_add_9ea2d_0 rfl (lv_at hl 0 rfl) ?_
  refine lv_dup hx hb dJx4a65c_add_9ea2d_1 rfl ?_
  refine va_get (D := kD G) (ci := 0) (v := .int (md)) (C := RJx4a65c) (T := TJx4a65c) (N := 3) hx hb hts hinJx4a65c hown hK hV.1 0 rfl rfl 0 (by decide) (hts (Cond.fieldLink RJx4a65c 63 "java/util/ArrayList" "modCount" "I") (List.mem_of_getElem? (i := 1) rfl)) (fun x9 h9 => u_same (hts (Cond.sameField "java/util/ArrayList" "java/util/AbstractList" "modCount" "I") (List.mem_of_getElem? (i := 2) rfl)) x9 h9) rfl dJx4a65c_add_9ea2d_2 ?_
  refine lv_iconst (v := nI 1) hx hb dJx4a65c_add_9ea2d_5 (by decide) ?_
  refine lv_iadd hx hb dJx4a65c_add_9ea2d_6 ?_
  refine va_put (D := kD G) (ci := 0) (v := .int (md + nI 1)) (ty := .int) (C := RJx4a65c) (T := TJx4a65c) (N := 3) hx hb hts hinJx4a65c tyJx4a65c tyJx4a65c_ok nmJx4a65c hown hK hV.1 hV.2 hS 0 rfl rfl 0 (by decide) (hts (Cond.fieldLink RJx4a65c 63 "java/util/ArrayList" "modCount" "I") (List.mem_of_getElem? (i := 1) rfl)) (fun x9 h9 => u_same (hts (Cond.sameField "java/util/ArrayList" "java/util/AbstractList" "modCount" "I") (List.mem_of_getElem? (i := 2) rfl)) x9 h9) rfl (by decide +kernel) rfl rfl (Nat.le_of_ble_eq_true rfl) dJx4a65c_add_9ea2d_7 (fun H locs hP hD hS => ?_)
  have hV : kV G ([(lq, .inr (0, [.int (md + nI 1), .ref (b), .int (nI (n))])), (x, .inr (ci, vs)), (b, .inl (kcO G, cap, .inr (.inr (.inr (.inr (lf n e))))))] ++ wr) _ := ⟨hP, hD⟩
  refine lv_aload_n hx hb dJx4a65c_add_9ea2d_10 rfl (lv_at hl 0 rfl) ?_
  refine lv_aload_n hx hb dJx4a65c_add_9ea2d_11 rfl (lv_at hl 1 rfl) ?_
  refine lv_aload_n hx hb dJx4a65c_add_9ea2d_12 rfl (lv_at hl 0 rfl) ?_
  refine va_get (D := kD G) (ci := 0) (v := .ref (b)) (C := RJx4a65c) (T := TJx4a65c) (N := 3) hx hb hts hinJx4a65c hown hK hV.1 0 rfl rfl 1 (by decide) (hts (Cond.fieldLink RJx4a65c 9 "java/util/ArrayList" "elementData" "[Ljava/lang/Object;") (List.mem_of_getElem? (i := 3) rfl)) (fun _ h9 => h9) rfl dJx4a65c_add_9ea2d_13 ?_
  refine lv_aload_n hx hb dJx4a65c_add_9ea2d_16 rfl (lv_at hl 0 rfl) ?_
  refine va_get (D := kD G) (ci := 0) (v := .int (nI (n))) (C := RJx4a65c) (T := TJx4a65c) (N := 3) hx hb hts hinJx4a65c hown hK hV.1 0 rfl rfl 2 (by decide) (hts (Cond.fieldLink RJx4a65c 48 "java/util/ArrayList" "size" "I") (List.mem_of_getElem? (i := 4) rfl)) (fun _ h9 => h9) rfl dJx4a65c_add_9ea2d_17 ?_
  refine kc_v (va_runV (As := [.ref (x), .ref (b), .int (nI (n))]) (rest := []) hF (c_Jx4a65c_add_72be8_B l G lq (md + nI 1) b n cap x vs e ci rr wr (by omega) (by omega) hcr hca) (cwV 3 hts gJx4a65c_add_9ea2d_Jx4a65c_add_72be8 rfl rfl rfl (by decide +kernel) ⟨Nat.le_of_ble_eq_true rfl, Nat.le_of_ble_eq_true rfl⟩) (kPreV hE hS hV 0 rfl rfl) rfl rfl hl.1 rfl (lv_room (Nat.le_of_ble_eq_true rfl)) dJx4a65c_add_9ea2d_20 ⟨Nat.le_of_ble_eq_true rfl, Nat.le_of_ble_eq_true rfl⟩) hS (fun u_2 H locs hp_1 hV hS => ?_)
  obtain ⟨hp_1a, hp_1b⟩ := hp_1
  have hV : kV G ([(lq, .inr (0, [.int (md + nI 1), .ref (u_2.1), .int (nI (n + 1))])), (x, .inr (ci, vs)), (u_2.1, .inl (kcO G, u_2.2, .inr (.inr (.inr (.inr (lf (n + 1) (va_up e n x)))))))] ++ wr) _ := hV
  refine lv_iconst (v := nI 1) hx hb dJx4a65c_add_9ea2d_23 (by decide) ?_
  exact W.zret (v := nI 1) hx hb hrt (by decide) (fun t ht hW => ⟨⟨_, (u_2.1, u_2.2), rfl, ⟨rfl, hp_1a, hp_1b⟩, kV_eq ht hV⟩, hS.F ht⟩) hS.2.2 dJx4a65c_add_9ea2d_24
set_option maxHeartbeats 4000000 in
set_option maxRecDepth 100000 in
theorem c_Jx4a65c_add_9ea2d_C (l : Launch) (G : kG) (lq : Nat) (md : Int32) (b : Nat) (n : Nat) (x : Nat) (vs : List Value) (e : Nat → Nat) (ci : Nat) (rr : vw_C) (wr : va_W) (hn1 : 1 ≤ n) (hn2 : n ≤ 22) (hcr : vwCl[ci]? = some rr) (hca : Cond.castable rr.1 "java/lang/Object" ∈ kNw) (hel : ∀ i, i < n → ∃ (k : Nat) (vs : List Value), wr[k]? = some (e i, .inr (ci, vs))) : Met l yJx4a65c_add_9ea2d wsJx4a65c_add_9ea2d ({ frames := 6, cells := 1, slots := 40, locals := 170 } : Room) (kPc G [.ref (lq), .ref (x)] ([(lq, .inr (0, [.int (md), .ref (b), .int (nI (n))])), (x, .inr (ci, vs)), (b, .inl (kcO G, n, .inr (.inr (.inr (.inr (lf n e))))))] ++ wr)) (kQi G (S := Nat × Nat) (fun z uu => z = nI 1 ∧ n + 1 ≤ uu.2 ∧ uu.2 ≤ 40) (fun uu => [(lq, .inr (0, [.int (md + nI 1), .ref (uu.1), .int (nI (n + 1))])), (x, .inr (ci, vs)), (uu.1, .inl (kcO G, uu.2, .inr (.inr (.inr (.inr ((lf (n + 1) (va_up e n x))))))))] ++ wr)) 1 40 (kA G) := by
  refine Met.ofW (cc := cJx4a65c_add_9ea2d) (maxL := 2) (ret := (some .boolean)) (by decide) rfl ?_
  intro pp ee s m args below meth cc0 s₁ Bd0 hml hv
  obtain ⟨rfl, hE, hV⟩ := hv
  have hK := hE.1
  have hx := Bd0.exec
  have hb := Bd0.bytes
  have hrt := Bd0.returns
  have hts := atoms_spec (ws := wsJx4a65c_add_9ea2d) Bd0.pre
  have hown : s.vm.findClass RJx4a65c = some m.cls := findClass_of_methodNamed Bd0.named
  have hlocks := Bd0.notSynchronized
  have hF : CallFix pp m cc0 cJx4a65c_add_9ea2d 2 s _ wsJx4a65c_add_9ea2d RJx4a65c := ⟨hx, hb, hml, hown, hts⟩
  have hinJx4a65c : ∀ w ∈ wsJx4a65c0, w ∈ wsJx4a65c_add_9ea2d := tb_of [53, 54, 55] rfl
  have hS : va_S (kA G) s.heap s.heap [] := va_S.rf
  have hB0 := hE.2.1
  have hl := lv_entry ([.ref (lq), .ref (x)]) (n := 2) (Nat.le_of_ble_eq_true rfl)
  rw [lg_entry_eq]
  generalize (lg_sl ([.ref (lq), .ref (x)]) ++ List.replicate (2 - (lg_sl ([.ref (lq), .ref (x)])).length) Slot.unset).toArray = ls at hl ⊢
  have hl : lv_has ls 2 [(0, .ref (lq)), (1, .ref (x))] := hl
  refine lv_aload_n hx hb dJx4a65c_add_9ea2d_0 rfl (lv_at hl 0 rfl) ?_
  refine lv_dup hx hb dJx4a65c_add_9ea2d_1 rfl ?_
  refine va_get (D := kD G) (ci := 0) (v := .int (md)) (C := RJx4a65c) (T := TJx4a65c) (N := 3) hx hb hts hinJx4a65c hown hK hV.1 0 rfl rfl 0 (by decide) (hts (Cond.fieldLink RJx4a65c 63 "java/util/ArrayList" "modCount" "I") (List.mem_of_getElem? (i := 1) rfl)) (fun x9 h9 => u_same (hts (Cond.sameField "java/util/ArrayList" "java/util/AbstractList" "modCount" "I") (List.mem_of_getElem? (i := 2) rfl)) x9 h9) rfl dJx4a65c_add_9ea2d_2 ?_
  refine lv_iconst (v := nI 1) hx hb dJx4a65c_add_9ea2d_5 (by decide) ?_
  refine lv_iadd hx hb dJx4a65c_add_9ea2d_6 ?_
  refine va_put (D := kD G) (ci := 0) (v := .int (md + nI 1)) (ty := .int) (C := RJx4a65c) (T := TJx4a65c) (N := 3) hx hb hts hinJx4a65c tyJx4a65c tyJx4a65c_ok nmJx4a65c hown hK hV.1 hV.2 hS 0 rfl rfl 0 (by decide) (hts (Cond.fieldLink RJx4a65c 63 "java/util/ArrayList" "modCount" "I") (List.mem_of_getElem? (i := 1) rfl)) (fun x9 h9 => u_same (hts (Cond.sameField "java/util/ArrayList" "java/util/AbstractList" "modCount" "I") (List.mem_of_getElem? (i := 2) rfl)) x9 h9) rfl (by decide +kernel) rfl rfl (Nat.le_of_ble_eq_true rfl) dJx4a65c_add_9ea2d_7 (fun H locs hP hD hS => ?_)
  have hV : kV G ([(lq, .inr (0, [.int (md + nI 1), .ref (b), .int (nI (n))])), (x, .inr (ci, vs)), (b, .inl (kcO G, n, .inr (.inr (.inr (.inr (lf n e))))))] ++ wr) _ := ⟨hP, hD⟩
  refine lv_aload_n hx hb dJx4a65c_add_9ea2d_10 rfl (lv_at hl 0 rfl) ?_
  refine lv_aload_n hx hb dJx4a65c_add_9ea2d_11 rfl (lv_at hl 1 rfl) ?_
  refine lv_aload_n hx hb dJx4a65c_add_9ea2d_12 rfl (lv_at hl 0 rfl) ?_
  refine va_get (D := kD G) (ci := 0) (v := .ref (b)) (C := RJx4a65c) (T := TJx4a65c) (N := 3) hx hb hts hinJx4a65c hown hK hV.1 0 rfl rfl 1 (by decide) (hts (Cond.fieldLink RJx4a65c 9 "java/util/ArrayList" "elementData" "[Ljava/lang/Object;") (List.mem_of_getElem? (i := 3) rfl)) (fun _ h9 => h9) rfl dJx4a65c_add_9ea2d_13 ?_
  refine lv_aload_n hx hb dJx4a65c_add_9ea2d_16 rfl (lv_at hl 0 rfl) ?_
  refine va_get (D := kD G) (ci := 0) (v := .int (nI (n))) (C := RJx4a65c) (T := TJx4a65c) (N := 3) hx hb hts hinJx4a65c hown hK hV.1 0 rfl rfl 2 (by decide) (hts (Cond.fieldLink RJx4a65c 48 "java/util/ArrayList" "size" "I") (List.mem_of_getElem? (i := 4) rfl)) (fun _ h9 => h9) rfl dJx4a65c_add_9ea2d_17 ?_
  refine kc_v (va_runV (As := [.ref (x), .ref (b), .int (nI (n))]) (rest := []) hF (c_Jx4a65c_add_72be8_C l G lq (md + nI 1) b n x vs e ci rr wr (by omega) (by omega) hcr hca hel) (cwV 3 hts gJx4a65c_add_9ea2d_Jx4a65c_add_72be8 rfl rfl rfl (by decide +kernel) ⟨Nat.le_of_ble_eq_true rfl, Nat.le_of_ble_eq_true rfl⟩) (kPreV hE hS hV 0 rfl rfl) rfl rfl hl.1 rfl (lv_room (Nat.le_of_ble_eq_true rfl)) dJx4a65c_add_9ea2d_20 ⟨Nat.le_of_ble_eq_true rfl, Nat.le_of_ble_eq_true rfl⟩) hS (fun u_2 H locs hp_1 hV hS => ?_)
  obtain ⟨hp_1a, hp_1b⟩ := hp_1
  have hV : kV G ([(lq, .inr (0, [.int (md + nI 1), .ref (u_2.1), .int (nI (n + 1))])), (x, .inr (ci, vs)), (u_2.1, .inl (kcO G, u_2.2, .inr (.inr (.inr (.inr (lf (n + 1) (va_up e n x)))))))] ++ wr) _ := hV
  refine lv_iconst (v := nI 1) hx hb dJx4a65c_add_9ea2d_23 (by decide) ?_
  exact W.zret (v := nI 1) hx hb hrt (by decide) (fun t ht hW => ⟨⟨_, (u_2.1, u_2.2), rfl, ⟨rfl, hp_1a, hp_1b⟩, kV_eq ht hV⟩, hS.F ht⟩) hS.2.2 dJx4a65c_add_9ea2d_24
