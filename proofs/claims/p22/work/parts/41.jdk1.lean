theorem arr_recv {G : kG} {s : State} {H : Heap} {ws : va_W} (hK : va_K (kD G) vwCl (kT G) s) (hV : kV G ws H) (q0 : Nat) {b n : Nat} {f : Nat → Option Nat} (ha : ws[q0]? = some (b, .inl (kcO G, n, .inr (.inr (.inr (.inr f)))))) : ∃ cell : Cell, H[b]? = some cell ∧ cell.vm.isStatics = false ∧ s.vm.findClass kObs = some cell.cls := by
  obtain ⟨-, -, -, -, -, h2⟩ := (hK.2 2 (kcO G, .object "java/lang/Object") rfl).2
  exact ⟨_, hV.1 q0 _ ha, rfl, h2⟩
set_option maxHeartbeats 4000000 in
set_option maxRecDepth 100000 in
theorem c_J3_checkIndex_8e157 (l : Launch) (G : kG) (i : Nat) (n : Nat) (ws : va_W) (hi : i < n) (hn : n < 2 ^ 31) : Met l yJ3_checkIndex_8e157 wsJ3_checkIndex_8e157 ({ frames := 0, cells := 0, slots := 0, locals := 0 } : Room) (kPc G [.int (nI (i)), .int (nI (n)), .null] (ws)) (kQi G (S := Unit) (fun z _ => z = nI i) (fun _ => ws)) 0 0 (kA G) := by
  refine Met.ofW (cc := cJ3_checkIndex_8e157) (maxL := 3) (ret := (some .int)) (by decide) rfl ?_
  intro pp ee s m args below meth cc0 s₁ Bd0 hml hv
  obtain ⟨rfl, hE, hV⟩ := hv
  have hK := hE.1
  have hx := Bd0.exec
  have hb := Bd0.bytes
  have hrt := Bd0.returns
  have hts := atoms_spec (ws := wsJ3_checkIndex_8e157) Bd0.pre
  have hown : s.vm.findClass RJ3 = some m.cls := findClass_of_methodNamed Bd0.named
  have hlocks := Bd0.notSynchronized
  have hF : CallFix pp m cc0 cJ3_checkIndex_8e157 3 s _ wsJ3_checkIndex_8e157 RJ3 := ⟨hx, hb, hml, hown, hts⟩
  have hS : va_S (kA G) s.heap s.heap [] := va_S.rf
  have hB0 := hE.2.1
  have hl := lv_entry ([.int (nI (i)), .int (nI (n)), .null]) (n := 3) (Nat.le_of_ble_eq_true rfl)
  rw [lg_entry_eq]
  generalize (lg_sl ([.int (nI (i)), .int (nI (n)), .null]) ++ List.replicate (3 - (lg_sl ([.int (nI (i)), .int (nI (n)), .null])).length) Slot.unset).toArray = ls at hl ⊢
  have hl : lv_has ls 3 [(0, .int (nI (i))), (1, .int (nI (n))), (2, .null)] := hl
  refine lv_iload_n hx hb dJ3_checkIndex_8e157_0 rfl (lv_at hl 0 rfl) ?_
  refine lv_if_lt (tgt := 9) hx hb dJ3_checkIndex_8e157_1 (by decide) (fun z => absurd z (nI_pos (by omega))) (fun _ => ?_)
  refine lv_iload_n hx hb dJ3_checkIndex_8e157_4 rfl (lv_at hl 0 rfl) ?_
  refine lv_iload_n hx hb dJ3_checkIndex_8e157_5 rfl (lv_at hl 1 rfl) ?_
  refine kn_lt (tgt := 16) hx hb (by omega) (by omega) dJ3_checkIndex_8e157_6 (by decide) (fun c6 => ?_) (fun z => absurd z (by omega))
  refine lv_iload_n hx hb dJ3_checkIndex_8e157_16 rfl (lv_at hl 0 rfl) ?_
  exact W.iret (v := nI i) hx hb hrt (fun t ht hW => ⟨⟨_, (), rfl, rfl, kV_eq ht hV⟩, hS.F ht⟩) hS.2.2 dJ3_checkIndex_8e157_17
set_option maxHeartbeats 4000000 in
set_option maxRecDepth 100000 in
theorem c_J15_checkIndex_7cf53 (l : Launch) (G : kG) (i : Nat) (n : Nat) (ws : va_W) (hi : i < n) (hn : n < 2 ^ 31) : Met l yJ15_checkIndex_7cf53 wsJ15_checkIndex_7cf53 ({ frames := 1, cells := 0, slots := 0, locals := 22 } : Room) (kPc G [.int (nI (i)), .int (nI (n))] (ws)) (kQi G (S := Unit) (fun z _ => z = nI i) (fun _ => ws)) 0 0 (kA G) := by
  refine Met.ofW (cc := cJ15_checkIndex_7cf53) (maxL := 2) (ret := (some .int)) (by decide) rfl ?_
  intro pp ee s m args below meth cc0 s₁ Bd0 hml hv
  obtain ⟨rfl, hE, hV⟩ := hv
  have hK := hE.1
  have hx := Bd0.exec
  have hb := Bd0.bytes
  have hrt := Bd0.returns
  have hts := atoms_spec (ws := wsJ15_checkIndex_7cf53) Bd0.pre
  have hown : s.vm.findClass RJ15 = some m.cls := findClass_of_methodNamed Bd0.named
  have hlocks := Bd0.notSynchronized
  have hF : CallFix pp m cc0 cJ15_checkIndex_7cf53 2 s _ wsJ15_checkIndex_7cf53 RJ15 := ⟨hx, hb, hml, hown, hts⟩
  have hS : va_S (kA G) s.heap s.heap [] := va_S.rf
  have hB0 := hE.2.1
  have hl := lv_entry ([.int (nI (i)), .int (nI (n))]) (n := 2) (Nat.le_of_ble_eq_true rfl)
  rw [lg_entry_eq]
  generalize (lg_sl ([.int (nI (i)), .int (nI (n))]) ++ List.replicate (2 - (lg_sl ([.int (nI (i)), .int (nI (n))])).length) Slot.unset).toArray = ls at hl ⊢
  have hl : lv_has ls 2 [(0, .int (nI (i))), (1, .int (nI (n)))] := hl
  refine lv_iload_n hx hb dJ15_checkIndex_7cf53_0 rfl (lv_at hl 0 rfl) ?_
  refine lv_iload_n hx hb dJ15_checkIndex_7cf53_1 rfl (lv_at hl 1 rfl) ?_
  refine lv_null hx hb dJ15_checkIndex_7cf53_2 ?_
  refine kc_i (va_runS (As := [.int (nI (i)), .int (nI (n)), .null]) (rest := []) hF (c_J3_checkIndex_8e157 l G i n ws (by omega) (by omega)) (va_cwS 3 hts gJ15_checkIndex_7cf53_J3_checkIndex_8e157 rfl rfl rfl (by decide +kernel) ⟨Nat.le_of_ble_eq_true rfl, Nat.le_of_ble_eq_true rfl⟩) (kPreS hE hS hV) rfl rfl hl.1 rfl (lv_room (Nat.le_of_ble_eq_true rfl)) dJ15_checkIndex_7cf53_3 ⟨Nat.le_of_ble_eq_true rfl, Nat.le_of_ble_eq_true rfl⟩) hS (fun r_3 u_2 H locs hp_1 hV hS => ?_)
  subst hp_1
  have hV : kV G (ws) _ := hV
  exact W.iret (v := nI i) hx hb hrt (fun t ht hW => ⟨⟨_, (), rfl, rfl, kV_eq ht hV⟩, hS.F ht⟩) hS.2.2 dJ15_checkIndex_7cf53_6
set_option maxHeartbeats 4000000 in
set_option maxRecDepth 100000 in
theorem c_Jx4a65c_size_8abf5 (l : Launch) (G : kG) (lq : Nat) (md : Int32) (b : Nat) (n : Nat) (wr : va_W) : Met l yJx4a65c_size_8abf5 wsJx4a65c_size_8abf5 ({ frames := 0, cells := 0, slots := 0, locals := 0 } : Room) (kPc G [.ref (lq)] ([(lq, .inr (0, [.int (md), .ref (b), .int (nI (n))]))] ++ wr)) (kQi G (S := Unit) (fun z _ => z = nI n) (fun _ => [(lq, .inr (0, [.int (md), .ref (b), .int (nI (n))]))] ++ wr)) 0 0 (kA G) := by
  refine Met.ofW (cc := cJx4a65c_size_8abf5) (maxL := 1) (ret := (some .int)) (by decide) rfl ?_
  intro pp ee s m args below meth cc0 s₁ Bd0 hml hv
  obtain ⟨rfl, hE, hV⟩ := hv
  have hK := hE.1
  have hx := Bd0.exec
  have hb := Bd0.bytes
  have hrt := Bd0.returns
  have hts := atoms_spec (ws := wsJx4a65c_size_8abf5) Bd0.pre
  have hown : s.vm.findClass RJx4a65c = some m.cls := findClass_of_methodNamed Bd0.named
  have hlocks := Bd0.notSynchronized
  have hF : CallFix pp m cc0 cJx4a65c_size_8abf5 1 s _ wsJx4a65c_size_8abf5 RJx4a65c := ⟨hx, hb, hml, hown, hts⟩
  have hinJx4a65c : ∀ w ∈ wsJx4a65c0, w ∈ wsJx4a65c_size_8abf5 := tb_of [2, 3, 4] rfl
  have hS : va_S (kA G) s.heap s.heap [] := va_S.rf
  have hB0 := hE.2.1
  have hl := lv_entry ([.ref (lq)]) (n := 1) (Nat.le_of_ble_eq_true rfl)
  rw [lg_entry_eq]
  generalize (lg_sl ([.ref (lq)]) ++ List.replicate (1 - (lg_sl ([.ref (lq)])).length) Slot.unset).toArray = ls at hl ⊢
  have hl : lv_has ls 1 [(0, .ref (lq))] := hl
  refine lv_aload_n hx hb dJx4a65c_size_8abf5_0 rfl (lv_at hl 0 rfl) ?_
  refine va_get (D := kD G) (ci := 0) (v := .int (nI (n))) (C := RJx4a65c) (T := TJx4a65c) (N := 3) hx hb hts hinJx4a65c hown hK hV.1 0 rfl rfl 2 (by decide) (hts (Cond.fieldLink RJx4a65c 48 "java/util/ArrayList" "size" "I") (List.mem_of_getElem? (i := 1) rfl)) (fun _ h9 => h9) rfl dJx4a65c_size_8abf5_1 ?_
  exact W.iret (v := nI n) hx hb hrt (fun t ht hW => ⟨⟨_, (), rfl, rfl, kV_eq ht hV⟩, hS.F ht⟩) hS.2.2 dJx4a65c_size_8abf5_4
set_option maxHeartbeats 4000000 in
set_option maxRecDepth 100000 in
theorem c_Jx4a65c_elementData_915e3 (l : Launch) (G : kG) (lq : Nat) (md : Int32) (b : Nat) (n : Nat) (cap : Nat) (f : Nat → Option Nat) (wr : va_W) (i : Nat) (y : Nat) (hi : i < cap) (hc : cap < 2 ^ 31) (hy : f i = some y) : Met l yJx4a65c_elementData_915e3 wsJx4a65c_elementData_915e3 ({ frames := 0, cells := 0, slots := 0, locals := 0 } : Room) (kPc G [.ref (lq), .int (nI (i))] ([(lq, .inr (0, [.int (md), .ref (b), .int (nI (n))])), (b, .inl (kcO G, cap, .inr (.inr (.inr (.inr f)))))] ++ wr)) (kQq G (S := Unit) (fun z _ => z = some y) (fun _ => [(lq, .inr (0, [.int (md), .ref (b), .int (nI (n))])), (b, .inl (kcO G, cap, .inr (.inr (.inr (.inr f)))))] ++ wr)) 0 0 (kA G) := by
  refine Met.ofW (cc := cJx4a65c_elementData_915e3) (maxL := 2) (ret := (some (.object "java/lang/Object"))) (by decide) rfl ?_
  intro pp ee s m args below meth cc0 s₁ Bd0 hml hv
  obtain ⟨rfl, hE, hV⟩ := hv
  have hK := hE.1
  have hx := Bd0.exec
  have hb := Bd0.bytes
  have hrt := Bd0.returns
  have hts := atoms_spec (ws := wsJx4a65c_elementData_915e3) Bd0.pre
  have hown : s.vm.findClass RJx4a65c = some m.cls := findClass_of_methodNamed Bd0.named
  have hlocks := Bd0.notSynchronized
  have hF : CallFix pp m cc0 cJx4a65c_elementData_915e3 2 s _ wsJx4a65c_elementData_915e3 RJx4a65c := ⟨hx, hb, hml, hown, hts⟩
  have hinJx4a65c : ∀ w ∈ wsJx4a65c0, w ∈ wsJx4a65c_elementData_915e3 := tb_of [2, 3, 4] rfl
  have hS : va_S (kA G) s.heap s.heap [] := va_S.rf
  have hB0 := hE.2.1
  have hl := lv_entry ([.ref (lq), .int (nI (i))]) (n := 2) (Nat.le_of_ble_eq_true rfl)
  rw [lg_entry_eq]
  generalize (lg_sl ([.ref (lq), .int (nI (i))]) ++ List.replicate (2 - (lg_sl ([.ref (lq), .int (nI (i))])).length) Slot.unset).toArray = ls at hl ⊢
  have hl : lv_has ls 2 [(0, .ref (lq)), (1, .int (nI (i)))] := hl
  refine lv_aload_n hx hb dJx4a65c_elementData_915e3_0 rfl (lv_at hl 0 rfl) ?_
  refine va_get (D := kD G) (ci := 0) (v := .ref (b)) (C := RJx4a65c) (T := TJx4a65c) (N := 3) hx hb hts hinJx4a65c hown hK hV.1 0 rfl rfl 1 (by decide) (hts (Cond.fieldLink RJx4a65c 9 "java/util/ArrayList" "elementData" "[Ljava/lang/Object;") (List.mem_of_getElem? (i := 1) rfl)) (fun _ h9 => h9) rfl dJx4a65c_elementData_915e3_1 ?_
  refine lv_iload_n hx hb dJx4a65c_elementData_915e3_4 rfl (lv_at hl 1 rfl) ?_
  refine kq_ald (G := G) (n := cap) (f := f) (i := i) (y := y) hx hb hK hV 1 rfl hi (by omega) hy dJx4a65c_elementData_915e3_5 ?_
  exact W.aret (v := .ref (y)) hx hb hrt (by first | exact Or.inl ⟨_, rfl⟩ | exact Or.inr ⟨_, rfl⟩) (Or.inr ⟨_, rfl⟩) (fun t ht hW => ⟨⟨some (y), (), rfl, rfl, kV_eq ht hV⟩, hS.F ht⟩) hS.2.2 dJx4a65c_elementData_915e3_6
set_option maxHeartbeats 4000000 in
set_option maxRecDepth 100000 in
theorem c_Jx4a65c_get_915e3 (l : Launch) (G : kG) (lq : Nat) (md : Int32) (b : Nat) (n : Nat) (cap : Nat) (f : Nat → Option Nat) (wr : va_W) (i : Nat) (y : Nat) (hi : i < n) (hnc : n ≤ cap) (hc : cap < 2 ^ 31) (hy : f i = some y) : Met l yJx4a65c_get_915e3 wsJx4a65c_get_915e3 ({ frames := 2, cells := 0, slots := 0, locals := 43 } : Room) (kPc G [.ref (lq), .int (nI (i))] ([(lq, .inr (0, [.int (md), .ref (b), .int (nI (n))])), (b, .inl (kcO G, cap, .inr (.inr (.inr (.inr f)))))] ++ wr)) (kQq G (S := Unit) (fun z _ => z = some y) (fun _ => [(lq, .inr (0, [.int (md), .ref (b), .int (nI (n))])), (b, .inl (kcO G, cap, .inr (.inr (.inr (.inr f)))))] ++ wr)) 0 0 (kA G) := by
  refine Met.ofW (cc := cJx4a65c_get_915e3) (maxL := 2) (ret := (some (.object "java/lang/Object"))) (by decide) rfl ?_
  intro pp ee s m args below meth cc0 s₁ Bd0 hml hv
  obtain ⟨rfl, hE, hV⟩ := hv
  have hK := hE.1
  have hx := Bd0.exec
  have hb := Bd0.bytes
  have hrt := Bd0.returns
  have hts := atoms_spec (ws := wsJx4a65c_get_915e3) Bd0.pre
  have hown : s.vm.findClass RJx4a65c = some m.cls := findClass_of_methodNamed Bd0.named
  have hlocks := Bd0.notSynchronized
  have hF : CallFix pp m cc0 cJx4a65c_get_915e3 2 s _ wsJx4a65c_get_915e3 RJx4a65c := ⟨hx, hb, hml, hown, hts⟩
  have hinJx4a65c : ∀ w ∈ wsJx4a65c0, w ∈ wsJx4a65c_get_915e3 := tb_of [16, 17, 18] rfl
  have hS : va_S (kA G) s.heap s.heap [] := va_S.rf
  have hB0 := hE.2.1
  have hl := lv_entry ([.ref (lq), .int (nI (i))]) (n := 2) (Nat.le_of_ble_eq_true rfl)
  rw [lg_entry_eq]
  generalize (lg_sl ([.ref (lq), .int (nI (i))]) ++ List.replicate (2 - (lg_sl ([.ref (lq), .int (nI (i))])).length) Slot.unset).toArray = ls at hl ⊢
  have hl : lv_has ls 2 [(0, .ref (lq)), (1, .int (nI (i)))] := hl
  refine lv_iload_n hx hb dJx4a65c_get_915e3_0 rfl (lv_at hl 1 rfl) ?_
  refine lv_aload_n hx hb dJx4a65c_get_915e3_1 rfl (lv_at hl 0 rfl) ?_
  refine va_get (D := kD G) (ci := 0) (v := .int (nI (n))) (C := RJx4a65c) (T := TJx4a65c) (N := 3) hx hb hts hinJx4a65c hown hK hV.1 0 rfl rfl 2 (by decide) (hts (Cond.fieldLink RJx4a65c 48 "java/util/ArrayList" "size" "I") (List.mem_of_getElem? (i := 1) rfl)) (fun _ h9 => h9) rfl dJx4a65c_get_915e3_2 ?_
  refine kc_i (va_runS (As := [.int (nI (i)), .int (nI (n))]) (rest := []) hF (c_J15_checkIndex_7cf53 l G i n ([(lq, .inr (0, [.int (md), .ref (b), .int (nI (n))])), (b, .inl (kcO G, cap, .inr (.inr (.inr (.inr f)))))] ++ wr) (by omega) (by omega)) (va_cwS 2 hts gJx4a65c_get_915e3_J15_checkIndex_7cf53 rfl rfl rfl (by decide +kernel) ⟨Nat.le_of_ble_eq_true rfl, Nat.le_of_ble_eq_true rfl⟩) (kPreS hE hS hV) rfl rfl hl.1 rfl (lv_room (Nat.le_of_ble_eq_true rfl)) dJx4a65c_get_915e3_5 ⟨Nat.le_of_ble_eq_true rfl, Nat.le_of_ble_eq_true rfl⟩) hS (fun r_3 u_2 H locs hp_1 hV hS => ?_)
  subst hp_1
  have hV : kV G ([(lq, .inr (0, [.int (md), .ref (b), .int (nI (n))])), (b, .inl (kcO G, cap, .inr (.inr (.inr (.inr f)))))] ++ wr) _ := hV
  refine lv_pop hx hb dJx4a65c_get_915e3_8 rfl ?_
  refine lv_aload_n hx hb dJx4a65c_get_915e3_9 rfl (lv_at hl 0 rfl) ?_
  refine lv_iload_n hx hb dJx4a65c_get_915e3_10 rfl (lv_at hl 1 rfl) ?_
  refine kc_q (va_runV (As := [.int (nI (i))]) (rest := []) hF (c_Jx4a65c_elementData_915e3 l G lq md b n cap f wr i y (by omega) (by omega) hy) (cwV 1 hts gJx4a65c_get_915e3_Jx4a65c_elementData_915e3 rfl rfl rfl (by decide +kernel) ⟨Nat.le_of_ble_eq_true rfl, Nat.le_of_ble_eq_true rfl⟩) (kPreV hE hS hV 0 rfl rfl) rfl rfl hl.1 rfl (lv_room (Nat.le_of_ble_eq_true rfl)) dJx4a65c_get_915e3_11 ⟨Nat.le_of_ble_eq_true rfl, Nat.le_of_ble_eq_true rfl⟩) hS (fun r_6 u_5 H locs hp_4 hV hS => ?_)
  subst hp_4
  have hV : kV G ([(lq, .inr (0, [.int (md), .ref (b), .int (nI (n))])), (b, .inl (kcO G, cap, .inr (.inr (.inr (.inr f)))))] ++ wr) _ := hV
  exact W.aret (v := .ref (y)) hx hb hrt (by first | exact Or.inl ⟨_, rfl⟩ | exact Or.inr ⟨_, rfl⟩) (Or.inr ⟨_, rfl⟩) (fun t ht hW => ⟨⟨some (y), (), rfl, rfl, kV_eq ht hV⟩, hS.F ht⟩) hS.2.2 dJx4a65c_get_915e3_14
set_option maxHeartbeats 4000000 in
set_option maxRecDepth 100000 in
theorem c_J8_newLength_cabcc (l : Launch) (G : kG) (o : Nat) (g : Nat) (h : Nat) (ws : va_W) (h1 : 1 ≤ g) (h2 : o ≤ 1000) (h3 : g ≤ 1000) (h4 : h ≤ 1000) : Met l yJ8_newLength_cabcc wsJ8_newLength_cabcc ({ frames := 1, cells := 0, slots := 0, locals := 21 } : Room) (kPc G [.int (nI (o)), .int (nI (g)), .int (nI (h))] (ws)) (kQi G (S := Unit) (fun z _ => z = nI (o + max g h)) (fun _ => ws)) 0 0 (kA G) := by
  refine Met.ofW (cc := cJ8_newLength_cabcc) (maxL := 4) (ret := (some .int)) (by decide) rfl ?_
  intro pp ee s m args below meth cc0 s₁ Bd0 hml hv
  obtain ⟨rfl, hE, hV⟩ := hv
  have hK := hE.1
  have hx := Bd0.exec
  have hb := Bd0.bytes
  have hrt := Bd0.returns
  have hts := atoms_spec (ws := wsJ8_newLength_cabcc) Bd0.pre
  have hown : s.vm.findClass RJ8 = some m.cls := findClass_of_methodNamed Bd0.named
  have hlocks := Bd0.notSynchronized
  have hF : CallFix pp m cc0 cJ8_newLength_cabcc 4 s _ wsJ8_newLength_cabcc RJ8 := ⟨hx, hb, hml, hown, hts⟩
  have hS : va_S (kA G) s.heap s.heap [] := va_S.rf
  have hB0 := hE.2.1
  have hl := lv_entry ([.int (nI (o)), .int (nI (g)), .int (nI (h))]) (n := 4) (Nat.le_of_ble_eq_true rfl)
  rw [lg_entry_eq]
  generalize (lg_sl ([.int (nI (o)), .int (nI (g)), .int (nI (h))]) ++ List.replicate (4 - (lg_sl ([.int (nI (o)), .int (nI (g)), .int (nI (h))])).length) Slot.unset).toArray = ls at hl ⊢
  have hl : lv_has ls 4 [(0, .int (nI (o))), (1, .int (nI (g))), (2, .int (nI (h)))] := hl
  have hmx : max g h ≤ 1000 ∧ 1 ≤ max g h := ⟨by omega, by omega⟩
  refine lv_iload_n hx hb dJ8_newLength_cabcc_0 rfl (lv_at hl 0 rfl) ?_
  refine lv_iload_n hx hb dJ8_newLength_cabcc_1 rfl (lv_at hl 1 rfl) ?_
  refine lv_iload_n hx hb dJ8_newLength_cabcc_2 rfl (lv_at hl 2 rfl) ?_
  refine va_mmax hx hb (hml.trans hl.1.symm) hown (hts (Cond.methodLink RJ8 194 Lib.Math.max.name) (List.mem_of_getElem? (i := 1) rfl)) (hts (Cond.static Lib.Math.max.name) (List.mem_of_getElem? (i := 2) rfl)) (hts (Cond.initialized "java/lang/Math") (List.mem_of_getElem? (i := 3) rfl)) (hts (Cond.code Lib.Math.max.name Lib.Math.max.code 2 (some .int)) (List.mem_of_getElem? (i := 4) rfl)) (Nat.le_of_ble_eq_true rfl) (Nat.le_of_ble_eq_true rfl) (Nat.le_of_ble_eq_true rfl) (Nat.le_of_ble_eq_true rfl) dJ8_newLength_cabcc_3 ?_
  refine W.eq (g2 := F0 m 6 ls [.int (nI (max g h)), .int (nI o)]) (by rw [mx_nat (by omega) (by omega)]) ?_
  refine kn_add hx hb dJ8_newLength_cabcc_6 ?_
  refine lv_istore_n (lv' := [(3, .int (nI (o + (max g h)))), (0, .int (nI (o))), (1, .int (nI (g))), (2, .int (nI (h)))]) hx hb dJ8_newLength_cabcc_7 rfl hl (by decide) rfl (fun ls hl => ?_)
  refine lv_iconst (v := nI 0) hx hb dJ8_newLength_cabcc_8 (by decide) ?_
  refine lv_iload_n hx hb dJ8_newLength_cabcc_9 rfl (lv_at hl 0 rfl) ?_
  refine kn_ge (tgt := 21) hx hb (by decide) (by omega) dJ8_newLength_cabcc_10 (by decide) (fun z => absurd z (by omega)) (fun c10 => ?_)
  refine lv_iload_n hx hb dJ8_newLength_cabcc_13 rfl (lv_at hl 0 rfl) ?_
  refine lv_ldc (v := nI 2147483639) hx hb hown (hts (Cond.constant RJ8 200 (2147483639)) (List.mem_of_getElem? (i := 5) rfl)) dJ8_newLength_cabcc_14 ?_
  refine kn_gt (tgt := 21) hx hb (by omega) (by decide) dJ8_newLength_cabcc_16 (by decide) (fun z => absurd z (by omega)) (fun c16 => ?_)
  refine lv_iload_n hx hb dJ8_newLength_cabcc_19 rfl (lv_at hl 0 rfl) ?_
  exact W.iret (v := nI (o + (max g h))) hx hb hrt (fun t ht hW => ⟨⟨_, (), rfl, rfl, kV_eq ht hV⟩, hS.F ht⟩) hS.2.2 dJ8_newLength_cabcc_20
set_option maxHeartbeats 4000000 in
set_option maxRecDepth 100000 in
theorem c_J7_copyOf_6403c (l : Launch) (G : kG) (b : Nat) (n : Nat) (e : Nat → Nat) (ci : Nat) (rr : vw_C) (wr : va_W) (k9 : Nat) (hn : n ≤ k9) (hk : k9 ≤ 40) (hcr : vwCl[ci]? = some rr) (hca : Cond.castable rr.1 "java/lang/Object" ∈ kNw) (hel : ∀ i, i < n → ∃ (k : Nat) (vs : List Value), wr[k]? = some (e i, .inr (ci, vs))) : Met l yJ7_copyOf_6403c wsJ7_copyOf_6403c ({ frames := 1, cells := 1, slots := 40, locals := 60 } : Room) (kPc G [.ref (b), .int (nI (k9)), .ref (kMi G)] ([(b, .inl (kcO G, n, .inr (.inr (.inr (.inr (lf n e))))))] ++ wr)) (kQq G (S := Nat) (fun z u => z = some u) (fun uu => [(b, .inl (kcO G, n, .inr (.inr (.inr (.inr (lf n e)))))), (uu, .inl (kcO G, k9, .inr (.inr (.inr (.inr (lf n e))))))] ++ wr)) 1 40 (kA G) := by
  refine Met.ofW (cc := cJ7_copyOf_6403c) (maxL := 4) (ret := (some (.array (.object "java/lang/Object")))) (by decide) rfl ?_
  intro pp ee s m args below meth cc0 s₁ Bd0 hml hv
  obtain ⟨rfl, hE, hV⟩ := hv
  have hK := hE.1
  have hx := Bd0.exec
  have hb := Bd0.bytes
  have hrt := Bd0.returns
  have hts := atoms_spec (ws := wsJ7_copyOf_6403c) Bd0.pre
  have hown : s.vm.findClass RJ7 = some m.cls := findClass_of_methodNamed Bd0.named
  have hlocks := Bd0.notSynchronized
  have hF : CallFix pp m cc0 cJ7_copyOf_6403c 4 s _ wsJ7_copyOf_6403c RJ7 := ⟨hx, hb, hml, hown, hts⟩
  have hS : va_S (kA G) s.heap s.heap [] := va_S.rf
  have hB0 := hE.2.1
  have hl := lv_entry ([.ref (b), .int (nI (k9)), .ref (kMi G)]) (n := 4) (Nat.le_of_ble_eq_true rfl)
  rw [lg_entry_eq]
  generalize (lg_sl ([.ref (b), .int (nI (k9)), .ref (kMi G)]) ++ List.replicate (4 - (lg_sl ([.ref (b), .int (nI (k9)), .ref (kMi G)])).length) Slot.unset).toArray = ls at hl ⊢
  have hl : lv_has ls 4 [(0, .ref (b)), (1, .int (nI (k9))), (2, .ref (kMi G))] := hl
  refine lv_aload_n hx hb dJ7_copyOf_6403c_0 rfl (lv_at hl 2 rfl) ?_
  refine va_ldcM hx hb hown (hts (Cond.classLink RJ7 110 "[Ljava/lang/Object;") (List.mem_of_getElem? (i := 1) rfl)) hE.2.2.2.2.2.2.2.2.2.1 dJ7_copyOf_6403c_1 ?_
  refine lv_acmp_ne (rx := some (kMi G)) (ry := some (kMi G)) (tgt := 13) hx hb dJ7_copyOf_6403c_3 (by decide) (fun z => absurd rfl z) (fun _ => ?_)
  refine lv_iload_n hx hb dJ7_copyOf_6403c_6 rfl (lv_at hl 1 rfl) ?_
  refine kn_newO (G := G) (a := [(b, .inl (kcO G, n, .inr (.inr (.inr (.inr (lf n e))))))]) (wr := wr) (n := k9) hx hb hown (hts (Cond.classLink RJ7 2 "java/lang/Object") (List.mem_of_getElem? (i := 2) rfl)) hE hV hS hB0 (by omega) (Nat.le_of_ble_eq_true rfl) (Nat.le_trans (show 0 + k9 ≤ 40 by omega) (Nat.le_of_ble_eq_true rfl)) dJ7_copyOf_6403c_7 (fun q_1 H hV hS => ?_)
  refine W.widen (k := 1) (n := 40) (by omega) (by omega) ?_
  have hV : kV G ([(b, .inl (kcO G, n, .inr (.inr (.inr (.inr (lf n e)))))), (q_1, .inl (kcO G, k9, .inr (.inr (.inr (.inr ((fun _ => none)))))))] ++ wr) _ := hV
  refine lv_goto (tgt := 24) hx hb dJ7_copyOf_6403c_10 (by decide) ?_
  refine lv_astore_n (lv' := [(3, .ref (q_1)), (0, .ref (b)), (1, .int (nI (k9))), (2, .ref (kMi G))]) hx hb dJ7_copyOf_6403c_24 rfl hl (by decide) rfl (fun ls hl => ?_)
  refine lv_aload_n hx hb dJ7_copyOf_6403c_25 rfl (lv_at hl 1 rfl) ?_
  refine lv_iconst (v := nI 0) hx hb dJ7_copyOf_6403c_26 (by decide) ?_
  refine lv_aload_n hx hb dJ7_copyOf_6403c_27 rfl (lv_at hl 0 rfl) ?_
  refine lv_iconst (v := nI 0) hx hb dJ7_copyOf_6403c_28 (by decide) ?_
  refine lv_aload_n hx hb dJ7_copyOf_6403c_29 rfl (lv_at hl 1 rfl) ?_
  refine kq_len (G := G) (n := n) (f := lf n e) hx hb hK hV 0 rfl dJ7_copyOf_6403c_30 ?_
  refine lv_iload_n hx hb dJ7_copyOf_6403c_31 rfl (lv_at hl 2 rfl) ?_
  refine va_mmin hx hb (hml.trans hl.1.symm) hown (hts (Cond.methodLink RJ7 304 Lib.Math.min.name) (List.mem_of_getElem? (i := 3) rfl)) (hts (Cond.static Lib.Math.min.name) (List.mem_of_getElem? (i := 4) rfl)) (hts (Cond.initialized "java/lang/Math") (List.mem_of_getElem? (i := 5) rfl)) (hts (Cond.code Lib.Math.min.name Lib.Math.min.code 2 (some .int)) (List.mem_of_getElem? (i := 6) rfl)) (Nat.le_of_ble_eq_true rfl) (Nat.le_of_ble_eq_true rfl) (Nat.le_of_ble_eq_true rfl) (Nat.le_of_ble_eq_true rfl) dJ7_copyOf_6403c_32 ?_
  refine W.eq (g2 := F0 m 35 ls [.int (nI n), .int (nI (0)), .ref (q_1), .int (nI (0)), .ref (b)]) (by rw [mn_nat (by omega) (by omega), Nat.min_eq_left hn]) ?_
  refine kq_copy (G := G) (ci := ci) (n0 := n) (n1 := k9) (f := lf n e) (g := fun _ => none) hx hb (hml.trans hl.1.symm) hown (hts (Cond.methodLink RJ7 150 arraycopyName) (List.mem_of_getElem? (i := 7) rfl)) (hts (Cond.native arraycopyName) (List.mem_of_getElem? (i := 8) rfl)) (hts (Cond.static arraycopyName) (List.mem_of_getElem? (i := 9) rfl)) (hts (Cond.initialized "java/lang/System") (List.mem_of_getElem? (i := 10) rfl)) hE hV hS 0 1 rfl rfl (by omega) (Nat.le_refl _) hn hcr hca (fun i hi y hy => by
    rw [lf_at hi] at hy
    obtain ⟨k, vs, hk⟩ := hel i hi
    exact ⟨k + 2, vs, by rw [← Option.some.inj hy]; exact hk⟩) (Nat.le_of_ble_eq_true rfl) (Nat.le_of_ble_eq_true rfl) dJ7_copyOf_6403c_35 (fun H locs hV hS => ?_)
  rw [lf_cpy] at hV
  have hV : kV G ([(b, .inl (kcO G, n, .inr (.inr (.inr (.inr (lf n e)))))), (q_1, .inl (kcO G, k9, .inr (.inr (.inr (.inr (lf n e))))))] ++ wr) _ := hV
  refine lv_aload_n hx hb dJ7_copyOf_6403c_38 rfl (lv_at hl 0 rfl) ?_
  exact W.aret (v := .ref (q_1)) hx hb hrt (by first | exact Or.inl ⟨_, rfl⟩ | exact Or.inr ⟨_, rfl⟩) (Or.inr ⟨_, rfl⟩) (fun t ht hW => ⟨⟨some (q_1), q_1, rfl, rfl, kV_eq ht hV⟩, hS.F ht⟩) hS.2.2 dJ7_copyOf_6403c_39
set_option maxHeartbeats 4000000 in
set_option maxRecDepth 100000 in
theorem c_J7_copyOf_1904c (l : Launch) (G : kG) (b : Nat) (n : Nat) (e : Nat → Nat) (ci : Nat) (rr : vw_C) (wr : va_W) (k9 : Nat) (hn : n ≤ k9) (hk : k9 ≤ 40) (hcr : vwCl[ci]? = some rr) (hca : Cond.castable rr.1 "java/lang/Object" ∈ kNw) (hel : ∀ i, i < n → ∃ (k : Nat) (vs : List Value), wr[k]? = some (e i, .inr (ci, vs))) : Met l yJ7_copyOf_1904c wsJ7_copyOf_1904c ({ frames := 2, cells := 1, slots := 40, locals := 83 } : Room) (kPc G [.ref (b), .int (nI (k9))] ([(b, .inl (kcO G, n, .inr (.inr (.inr (.inr (lf n e))))))] ++ wr)) (kQq G (S := Nat) (fun z u => z = some u) (fun uu => [(b, .inl (kcO G, n, .inr (.inr (.inr (.inr (lf n e)))))), (uu, .inl (kcO G, k9, .inr (.inr (.inr (.inr (lf n e))))))] ++ wr)) 1 40 (kA G) := by
  refine Met.ofW (cc := cJ7_copyOf_1904c) (maxL := 2) (ret := (some (.array (.object "java/lang/Object")))) (by decide) rfl ?_
  intro pp ee s m args below meth cc0 s₁ Bd0 hml hv
  obtain ⟨rfl, hE, hV⟩ := hv
  have hK := hE.1
  have hx := Bd0.exec
  have hb := Bd0.bytes
  have hrt := Bd0.returns
  have hts := atoms_spec (ws := wsJ7_copyOf_1904c) Bd0.pre
  have hown : s.vm.findClass RJ7 = some m.cls := findClass_of_methodNamed Bd0.named
  have hlocks := Bd0.notSynchronized
  have hF : CallFix pp m cc0 cJ7_copyOf_1904c 2 s _ wsJ7_copyOf_1904c RJ7 := ⟨hx, hb, hml, hown, hts⟩
  have hS : va_S (kA G) s.heap s.heap [] := va_S.rf
  have hB0 := hE.2.1
  have hl := lv_entry ([.ref (b), .int (nI (k9))]) (n := 2) (Nat.le_of_ble_eq_true rfl)
  rw [lg_entry_eq]
  generalize (lg_sl ([.ref (b), .int (nI (k9))]) ++ List.replicate (2 - (lg_sl ([.ref (b), .int (nI (k9))])).length) Slot.unset).toArray = ls at hl ⊢
  have hl : lv_has ls 2 [(0, .ref (b)), (1, .int (nI (k9)))] := hl
  refine lv_aload_n hx hb dJ7_copyOf_1904c_0 rfl (lv_at hl 0 rfl) ?_
  refine lv_iload_n hx hb dJ7_copyOf_1904c_1 rfl (lv_at hl 1 rfl) ?_
  refine lv_aload_n hx hb dJ7_copyOf_1904c_2 rfl (lv_at hl 0 rfl) ?_
  refine va_getC (C := kObs) hx hb (hml.trans hl.1.symm) hown (hts (Cond.methodLink RJ7 86 ⟨"java/lang/Object", "getClass", "()Ljava/lang/Class;"⟩) (List.mem_of_getElem? (i := 1) rfl)) (hE.2.2.2.2.2.2.2.2.2.2.1.use) (hts (Cond.selects "[Ljava/lang/Object;" ⟨"java/lang/Object", "getClass", "()Ljava/lang/Class;"⟩ ⟨"java/lang/Object", "getClass", "()Ljava/lang/Class;"⟩) (List.mem_of_getElem? (i := 2) rfl)) (hts (Cond.instanceMethod ⟨"java/lang/Object", "getClass", "()Ljava/lang/Class;"⟩) (List.mem_of_getElem? (i := 3) rfl)) (hts (Cond.native ⟨"java/lang/Object", "getClass", "()Ljava/lang/Class;"⟩) (List.mem_of_getElem? (i := 4) rfl)) hE.2.2.2.2.2.2.2.2.2.1 (arr_recv hK hV 0 rfl) (Nat.le_of_ble_eq_true rfl) (Nat.le_of_ble_eq_true rfl) dJ7_copyOf_1904c_3 ?_
  refine kc_q (va_runS (As := [.ref (b), .int (nI (k9)), .ref (kMi G)]) (rest := []) hF (c_J7_copyOf_6403c l G b n e ci rr wr k9 (by omega) (by omega) hcr hca hel) (va_cwS 3 hts gJ7_copyOf_1904c_J7_copyOf_6403c rfl rfl rfl (by decide +kernel) ⟨Nat.le_of_ble_eq_true rfl, Nat.le_of_ble_eq_true rfl⟩) (kPreS hE hS hV) rfl rfl hl.1 rfl (lv_room (Nat.le_of_ble_eq_true rfl)) dJ7_copyOf_1904c_6 ⟨Nat.le_of_ble_eq_true rfl, Nat.le_of_ble_eq_true rfl⟩) hS (fun r_3 u_2 H locs hp_1 hV hS => ?_)
  subst hp_1
  have hV : kV G ([(b, .inl (kcO G, n, .inr (.inr (.inr (.inr (lf n e)))))), (u_2, .inl (kcO G, k9, .inr (.inr (.inr (.inr (lf n e))))))] ++ wr) _ := hV
  exact W.aret (v := .ref (u_2)) hx hb hrt (by first | exact Or.inl ⟨_, rfl⟩ | exact Or.inr ⟨_, rfl⟩) (Or.inr ⟨_, rfl⟩) (fun t ht hW => ⟨⟨some (u_2), u_2, rfl, rfl, kV_eq ht hV⟩, hS.F ht⟩) hS.2.2 dJ7_copyOf_1904c_9
