set_option maxHeartbeats 4000000 in
set_option maxRecDepth 100000 in
theorem c_X6_in (l : Launch) (G : kG) (v : Int32) (lo : Int32) (hi : Int32) (ws : va_W) : Met l yX6_in wsX6_in ({ frames := 0, cells := 0, slots := 0, locals := 0 } : Room) (kPc G [.int (v), .int (lo), .int (hi)] (ws)) (kQi G (S := Unit) (fun r _ => r = nI (kb (lo ≤ v ∧ v ≤ hi))) (fun _ => ws)) 0 0 (kA G) := by
  refine Met.ofW (cc := cX6_in) (maxL := 3) (ret := (some .boolean)) (by decide) rfl ?_
  intro pp ee s m args below meth cc0 s₁ B hml hv
  obtain ⟨rfl, hE, hV⟩ := hv
  have hK := hE.1
  have hx := B.exec
  have hb := B.bytes
  have hrt := B.returns
  have hts := atoms_spec (ws := wsX6_in) B.pre
  have hown : s.vm.findClass RX6 = some m.cls := findClass_of_methodNamed B.named
  have hlocks := B.notSynchronized
  have hF : CallFix pp m cc0 cX6_in 3 s _ wsX6_in RX6 := ⟨hx, hb, hml, hown, hts⟩
  have hS : va_S (kA G) s.heap s.heap [] := va_S.rf
  have hB0 := hE.2.1
  have hl := lv_entry ([.int (v), .int (lo), .int (hi)]) (n := 3) (Nat.le_of_ble_eq_true rfl)
  rw [lg_entry_eq]
  generalize (lg_sl ([.int (v), .int (lo), .int (hi)]) ++ List.replicate (3 - (lg_sl ([.int (v), .int (lo), .int (hi)])).length) Slot.unset).toArray = ls at hl ⊢
  have hl : lv_has ls 3 [(0, .int (v)), (1, .int (lo)), (2, .int (hi))] := hl
  refine lv_iload_n hx hb dX6_in_0 rfl (lv_at hl 0 rfl) ?_
  refine lv_iload_n hx hb dX6_in_1 rfl (lv_at hl 1 rfl) ?_
  refine lv_icmp_lt (tgt := 14) hx hb dX6_in_2 (by decide) (fun c2 => ?_) (fun c2 => ?_)
  · refine lv_iconst (v := nI 0) hx hb dX6_in_14 (by decide) ?_
    exact W.zret (v := nI 0) hx hb hrt (by decide) (fun t ht hW => ⟨⟨_, (), rfl, by rw [kb_f (fun z => i_lt_nle c2 z.1)], kV_eq ht hV⟩, hS.F ht⟩) hS.2.2 dX6_in_15
  · refine lv_iload_n hx hb dX6_in_5 rfl (lv_at hl 0 rfl) ?_
    refine lv_iload_n hx hb dX6_in_6 rfl (lv_at hl 2 rfl) ?_
    refine lv_icmp_gt (tgt := 14) hx hb dX6_in_7 (by decide) (fun c7 => ?_) (fun c7 => ?_)
    · refine lv_iconst (v := nI 0) hx hb dX6_in_14 (by decide) ?_
      exact W.zret (v := nI 0) hx hb hrt (by decide) (fun t ht hW => ⟨⟨_, (), rfl, by rw [kb_f (fun z => i_lt_nle c7 z.2)], kV_eq ht hV⟩, hS.F ht⟩) hS.2.2 dX6_in_15
    · refine lv_iconst (v := nI 1) hx hb dX6_in_10 (by decide) ?_
      refine lv_goto (tgt := 15) hx hb dX6_in_11 (by decide) ?_
      exact W.zret (v := nI 1) hx hb hrt (by decide) (fun t ht hW => ⟨⟨_, (), rfl, by rw [kb_t ⟨i_nlt c2, i_nlt c7⟩], kV_eq ht hV⟩, hS.F ht⟩) hS.2.2 dX6_in_15
set_option maxHeartbeats 4000000 in
set_option maxRecDepth 100000 in
theorem c_X6_isPerson (l : Launch) (G : kG) (v : Int32) (ws : va_W) : Met l yX6_isPerson wsX6_isPerson ({ frames := 1, cells := 0, slots := 0, locals := 22 } : Room) (kPc G [.int (v)] (ws)) (kQi G (S := Unit) (fun r _ => r = nI (kb (isIn v 5))) (fun _ => ws)) 0 0 (kA G) := by
  refine Met.ofW (cc := cX6_isPerson) (maxL := 1) (ret := (some .boolean)) (by decide) rfl ?_
  intro pp ee s m args below meth cc0 s₁ B hml hv
  obtain ⟨rfl, hE, hV⟩ := hv
  have hK := hE.1
  have hx := B.exec
  have hb := B.bytes
  have hrt := B.returns
  have hts := atoms_spec (ws := wsX6_isPerson) B.pre
  have hown : s.vm.findClass RX6 = some m.cls := findClass_of_methodNamed B.named
  have hlocks := B.notSynchronized
  have hF : CallFix pp m cc0 cX6_isPerson 1 s _ wsX6_isPerson RX6 := ⟨hx, hb, hml, hown, hts⟩
  have hS : va_S (kA G) s.heap s.heap [] := va_S.rf
  have hB0 := hE.2.1
  have hl := lv_entry ([.int (v)]) (n := 1) (Nat.le_of_ble_eq_true rfl)
  rw [lg_entry_eq]
  generalize (lg_sl ([.int (v)]) ++ List.replicate (1 - (lg_sl ([.int (v)])).length) Slot.unset).toArray = ls at hl ⊢
  have hl : lv_has ls 1 [(0, .int (v))] := hl
  refine lv_iload_n hx hb dX6_isPerson_0 rfl (lv_at hl 0 rfl) ?_
  refine lv_iconst (v := nI 0) hx hb dX6_isPerson_1 (by decide) ?_
  refine lv_iconst (v := nI 4) hx hb dX6_isPerson_2 (by decide) ?_
  refine kc_i (va_runS (As := [.int (v), .int (nI (0)), .int (nI (4))]) (rest := []) hF (c_X6_in l G v (nI 0) (nI 4) ws) (va_cwS 3 hts gX6_isPerson_X6_in rfl rfl rfl (by decide +kernel) ⟨Nat.le_of_ble_eq_true rfl, Nat.le_of_ble_eq_true rfl⟩) (kPreS hE hS hV) rfl rfl hl.1 rfl (lv_room (Nat.le_of_ble_eq_true rfl)) dX6_isPerson_3 ⟨Nat.le_of_ble_eq_true rfl, Nat.le_of_ble_eq_true rfl⟩) hS (fun r_3 u_2 H locs hp_1 hV hS => ?_)
  subst hp_1
  have hV : kV G (ws) H := hV
  exact W.zret (v := nI (kb (nI 0 ≤ v ∧ v ≤ nI 4))) hx hb hrt (kb_nar _) (fun t ht hW => ⟨⟨_, (), rfl, by rw [propext isIn_5], kV_eq ht hV⟩, hS.F ht⟩) hS.2.2 dX6_isPerson_6
set_option maxHeartbeats 4000000 in
set_option maxRecDepth 100000 in
theorem c_X6_isPattern (l : Launch) (G : kG) (h : Nat) (ad : Nat → Nat) (rf : Nat) (rl : Nat) (rw : Nat) (S : kS) (wr : va_W) (v : Int32) (hn : S.1 1 0 < 2 ^ 31) : Met l yX6_isPattern wsX6_isPattern ({ frames := 1, cells := 0, slots := 0, locals := 22 } : Room) (kPc G [.ref (h), .int (v)] (kM G h ad rf rl rw S ++ wr)) (kQi G (S := Unit) (fun r _ => r = nI (kb (isIn v (S.1 1 0)))) (fun _ => kM G h ad rf rl rw S ++ wr)) 0 0 (kA G) := by
  refine Met.ofW (cc := cX6_isPattern) (maxL := 2) (ret := (some .boolean)) (by decide) rfl ?_
  intro pp ee s m args below meth cc0 s₁ B hml hv
  obtain ⟨rfl, hE, hV⟩ := hv
  have hK := hE.1
  have hx := B.exec
  have hb := B.bytes
  have hrt := B.returns
  have hts := atoms_spec (ws := wsX6_isPattern) B.pre
  have hown : s.vm.findClass RX6 = some m.cls := findClass_of_methodNamed B.named
  have hlocks := B.notSynchronized
  have hF : CallFix pp m cc0 cX6_isPattern 2 s _ wsX6_isPattern RX6 := ⟨hx, hb, hml, hown, hts⟩
  have hinX6 : ∀ w ∈ wsX60, w ∈ wsX6_isPattern := tb_of [6, 7, 8, 9, 10, 11, 12, 13, 14, 15, 16, 17, 18, 19, 20, 21, 22, 23, 24, 25, 26, 27, 28, 29, 30, 31] rfl
  have hS : va_S (kA G) s.heap s.heap [] := va_S.rf
  have hB0 := hE.2.1
  have hl := lv_entry ([.ref (h), .int (v)]) (n := 2) (Nat.le_of_ble_eq_true rfl)
  rw [lg_entry_eq]
  generalize (lg_sl ([.ref (h), .int (v)]) ++ List.replicate (2 - (lg_sl ([.ref (h), .int (v)])).length) Slot.unset).toArray = ls at hl ⊢
  have hl : lv_has ls 2 [(0, .ref (h)), (1, .int (v))] := hl
  refine lv_iload_n hx hb dX6_isPattern_0 rfl (lv_at hl 1 rfl) ?_
  refine lv_iconst (v := nI 0) hx hb dX6_isPattern_1 (by decide) ?_
  refine lv_aload_n hx hb dX6_isPattern_2 rfl (lv_at hl 0 rfl) ?_
  refine va_get (D := kD G) (ci := 7) (v := .int (nI (S.1 1 0))) (C := RX6) (T := TX6) (N := 26) hx hb hts hinX6 hown hK hV.1 0 rfl rfl 1 (by decide) (hts (Cond.fieldLink RX6 76 "YarncourtModel" "patterns" "I") (List.mem_of_getElem? (i := 1) rfl)) (fun _ h9 => h9) rfl dX6_isPattern_3 ?_
  refine lv_iconst (v := nI 1) hx hb dX6_isPattern_6 (by decide) ?_
  refine lv_isub hx hb dX6_isPattern_7 ?_
  refine kc_i (va_runS (As := [.int (v), .int (nI (0)), .int ((nI (S.1 1 0)) - (nI 1))]) (rest := []) hF (c_X6_in l G v (nI 0) ((nI (S.1 1 0)) - (nI 1)) (kM G h ad rf rl rw S ++ wr)) (va_cwS 3 hts gX6_isPattern_X6_in rfl rfl rfl (by decide +kernel) ⟨Nat.le_of_ble_eq_true rfl, Nat.le_of_ble_eq_true rfl⟩) (kPreS hE hS hV) rfl rfl hl.1 rfl (lv_room (Nat.le_of_ble_eq_true rfl)) dX6_isPattern_8 ⟨Nat.le_of_ble_eq_true rfl, Nat.le_of_ble_eq_true rfl⟩) hS (fun r_3 u_2 H locs hp_1 hV hS => ?_)
  subst hp_1
  have hV : kV G (kM G h ad rf rl rw S ++ wr) H := hV
  exact W.zret (v := nI (kb (nI 0 ≤ v ∧ v ≤ (nI (S.1 1 0)) - (nI 1)))) hx hb hrt (kb_nar _) (fun t ht hW => ⟨⟨_, (), rfl, by rw [propext (isIn_iff hn)], kV_eq ht hV⟩, hS.F ht⟩) hS.2.2 dX6_isPattern_11
set_option maxHeartbeats 4000000 in
set_option maxRecDepth 100000 in
theorem c_X6_isLot (l : Launch) (G : kG) (h : Nat) (ad : Nat → Nat) (rf : Nat) (rl : Nat) (rw : Nat) (S : kS) (wr : va_W) (v : Int32) (hn : S.1 15 0 < 2 ^ 31) : Met l yX6_isLot wsX6_isLot ({ frames := 1, cells := 0, slots := 0, locals := 22 } : Room) (kPc G [.ref (h), .int (v)] (kM G h ad rf rl rw S ++ wr)) (kQi G (S := Unit) (fun r _ => r = nI (kb (isIn v (S.1 15 0)))) (fun _ => kM G h ad rf rl rw S ++ wr)) 0 0 (kA G) := by
  refine Met.ofW (cc := cX6_isLot) (maxL := 2) (ret := (some .boolean)) (by decide) rfl ?_
  intro pp ee s m args below meth cc0 s₁ B hml hv
  obtain ⟨rfl, hE, hV⟩ := hv
  have hK := hE.1
  have hx := B.exec
  have hb := B.bytes
  have hrt := B.returns
  have hts := atoms_spec (ws := wsX6_isLot) B.pre
  have hown : s.vm.findClass RX6 = some m.cls := findClass_of_methodNamed B.named
  have hlocks := B.notSynchronized
  have hF : CallFix pp m cc0 cX6_isLot 2 s _ wsX6_isLot RX6 := ⟨hx, hb, hml, hown, hts⟩
  have hinX6 : ∀ w ∈ wsX60, w ∈ wsX6_isLot := tb_of [6, 7, 8, 9, 10, 11, 12, 13, 14, 15, 16, 17, 18, 19, 20, 21, 22, 23, 24, 25, 26, 27, 28, 29, 30, 31] rfl
  have hS : va_S (kA G) s.heap s.heap [] := va_S.rf
  have hB0 := hE.2.1
  have hl := lv_entry ([.ref (h), .int (v)]) (n := 2) (Nat.le_of_ble_eq_true rfl)
  rw [lg_entry_eq]
  generalize (lg_sl ([.ref (h), .int (v)]) ++ List.replicate (2 - (lg_sl ([.ref (h), .int (v)])).length) Slot.unset).toArray = ls at hl ⊢
  have hl : lv_has ls 2 [(0, .ref (h)), (1, .int (v))] := hl
  refine lv_iload_n hx hb dX6_isLot_0 rfl (lv_at hl 1 rfl) ?_
  refine lv_iconst (v := nI 0) hx hb dX6_isLot_1 (by decide) ?_
  refine lv_aload_n hx hb dX6_isLot_2 rfl (lv_at hl 0 rfl) ?_
  refine va_get (D := kD G) (ci := 7) (v := .int (nI (S.1 15 0))) (C := RX6) (T := TX6) (N := 26) hx hb hts hinX6 hown hK hV.1 0 rfl rfl 15 (by decide) (hts (Cond.fieldLink RX6 79 "YarncourtModel" "lots" "I") (List.mem_of_getElem? (i := 1) rfl)) (fun _ h9 => h9) rfl dX6_isLot_3 ?_
  refine lv_iconst (v := nI 1) hx hb dX6_isLot_6 (by decide) ?_
  refine lv_isub hx hb dX6_isLot_7 ?_
  refine kc_i (va_runS (As := [.int (v), .int (nI (0)), .int ((nI (S.1 15 0)) - (nI 1))]) (rest := []) hF (c_X6_in l G v (nI 0) ((nI (S.1 15 0)) - (nI 1)) (kM G h ad rf rl rw S ++ wr)) (va_cwS 3 hts gX6_isLot_X6_in rfl rfl rfl (by decide +kernel) ⟨Nat.le_of_ble_eq_true rfl, Nat.le_of_ble_eq_true rfl⟩) (kPreS hE hS hV) rfl rfl hl.1 rfl (lv_room (Nat.le_of_ble_eq_true rfl)) dX6_isLot_8 ⟨Nat.le_of_ble_eq_true rfl, Nat.le_of_ble_eq_true rfl⟩) hS (fun r_3 u_2 H locs hp_1 hV hS => ?_)
  subst hp_1
  have hV : kV G (kM G h ad rf rl rw S ++ wr) H := hV
  exact W.zret (v := nI (kb (nI 0 ≤ v ∧ v ≤ (nI (S.1 15 0)) - (nI 1)))) hx hb hrt (kb_nar _) (fun t ht hW => ⟨⟨_, (), rfl, by rw [propext (isIn_iff hn)], kV_eq ht hV⟩, hS.F ht⟩) hS.2.2 dX6_isLot_11
set_option maxHeartbeats 4000000 in
set_option maxRecDepth 100000 in
theorem c_X6_isProject (l : Launch) (G : kG) (h : Nat) (ad : Nat → Nat) (rf : Nat) (rl : Nat) (rw : Nat) (S : kS) (wr : va_W) (v : Int32) (hn : S.1 19 0 < 2 ^ 31) : Met l yX6_isProject wsX6_isProject ({ frames := 1, cells := 0, slots := 0, locals := 22 } : Room) (kPc G [.ref (h), .int (v)] (kM G h ad rf rl rw S ++ wr)) (kQi G (S := Unit) (fun r _ => r = nI (kb (isIn v (S.1 19 0)))) (fun _ => kM G h ad rf rl rw S ++ wr)) 0 0 (kA G) := by
  refine Met.ofW (cc := cX6_isProject) (maxL := 2) (ret := (some .boolean)) (by decide) rfl ?_
  intro pp ee s m args below meth cc0 s₁ B hml hv
  obtain ⟨rfl, hE, hV⟩ := hv
  have hK := hE.1
  have hx := B.exec
  have hb := B.bytes
  have hrt := B.returns
  have hts := atoms_spec (ws := wsX6_isProject) B.pre
  have hown : s.vm.findClass RX6 = some m.cls := findClass_of_methodNamed B.named
  have hlocks := B.notSynchronized
  have hF : CallFix pp m cc0 cX6_isProject 2 s _ wsX6_isProject RX6 := ⟨hx, hb, hml, hown, hts⟩
  have hinX6 : ∀ w ∈ wsX60, w ∈ wsX6_isProject := tb_of [6, 7, 8, 9, 10, 11, 12, 13, 14, 15, 16, 17, 18, 19, 20, 21, 22, 23, 24, 25, 26, 27, 28, 29, 30, 31] rfl
  have hS : va_S (kA G) s.heap s.heap [] := va_S.rf
  have hB0 := hE.2.1
  have hl := lv_entry ([.ref (h), .int (v)]) (n := 2) (Nat.le_of_ble_eq_true rfl)
  rw [lg_entry_eq]
  generalize (lg_sl ([.ref (h), .int (v)]) ++ List.replicate (2 - (lg_sl ([.ref (h), .int (v)])).length) Slot.unset).toArray = ls at hl ⊢
  have hl : lv_has ls 2 [(0, .ref (h)), (1, .int (v))] := hl
  refine lv_iload_n hx hb dX6_isProject_0 rfl (lv_at hl 1 rfl) ?_
  refine lv_iconst (v := nI 0) hx hb dX6_isProject_1 (by decide) ?_
  refine lv_aload_n hx hb dX6_isProject_2 rfl (lv_at hl 0 rfl) ?_
  refine va_get (D := kD G) (ci := 7) (v := .int (nI (S.1 19 0))) (C := RX6) (T := TX6) (N := 26) hx hb hts hinX6 hown hK hV.1 0 rfl rfl 19 (by decide) (hts (Cond.fieldLink RX6 82 "YarncourtModel" "projects" "I") (List.mem_of_getElem? (i := 1) rfl)) (fun _ h9 => h9) rfl dX6_isProject_3 ?_
  refine lv_iconst (v := nI 1) hx hb dX6_isProject_6 (by decide) ?_
  refine lv_isub hx hb dX6_isProject_7 ?_
  refine kc_i (va_runS (As := [.int (v), .int (nI (0)), .int ((nI (S.1 19 0)) - (nI 1))]) (rest := []) hF (c_X6_in l G v (nI 0) ((nI (S.1 19 0)) - (nI 1)) (kM G h ad rf rl rw S ++ wr)) (va_cwS 3 hts gX6_isProject_X6_in rfl rfl rfl (by decide +kernel) ⟨Nat.le_of_ble_eq_true rfl, Nat.le_of_ble_eq_true rfl⟩) (kPreS hE hS hV) rfl rfl hl.1 rfl (lv_room (Nat.le_of_ble_eq_true rfl)) dX6_isProject_8 ⟨Nat.le_of_ble_eq_true rfl, Nat.le_of_ble_eq_true rfl⟩) hS (fun r_3 u_2 H locs hp_1 hV hS => ?_)
  subst hp_1
  have hV : kV G (kM G h ad rf rl rw S ++ wr) H := hV
  exact W.zret (v := nI (kb (nI 0 ≤ v ∧ v ≤ (nI (S.1 19 0)) - (nI 1)))) hx hb hrt (kb_nar _) (fun t ht hW => ⟨⟨_, (), rfl, by rw [propext (isIn_iff hn)], kV_eq ht hV⟩, hS.F ht⟩) hS.2.2 dX6_isProject_11
set_option maxHeartbeats 4000000 in
set_option maxRecDepth 100000 in
theorem c_X6_thrown (l : Launch) (G : kG) (h : Nat) (ad : Nat → Nat) (rf : Nat) (rl : Nat) (rw : Nat) (S : kS) (wr : va_W) : Met l yX6_thrown wsX6_thrown ({ frames := 0, cells := 0, slots := 0, locals := 0 } : Room) (kPc G [.ref (h)] (kM G h ad rf rl rw S ++ wr)) (kQi G (S := Unit) (fun r _ => r = nI rf) (fun _ => kM G h ad rf rl rw S ++ wr)) 0 0 (kA G) := by
  refine Met.ofW (cc := cX6_thrown) (maxL := 1) (ret := (some .int)) (by decide) rfl ?_
  intro pp ee s m args below meth cc0 s₁ B hml hv
  obtain ⟨rfl, hE, hV⟩ := hv
  have hK := hE.1
  have hx := B.exec
  have hb := B.bytes
  have hrt := B.returns
  have hts := atoms_spec (ws := wsX6_thrown) B.pre
  have hown : s.vm.findClass RX6 = some m.cls := findClass_of_methodNamed B.named
  have hlocks := B.notSynchronized
  have hF : CallFix pp m cc0 cX6_thrown 1 s _ wsX6_thrown RX6 := ⟨hx, hb, hml, hown, hts⟩
  have hinX6 : ∀ w ∈ wsX60, w ∈ wsX6_thrown := tb_of [2, 3, 4, 5, 6, 7, 8, 9, 10, 11, 12, 13, 14, 15, 16, 17, 18, 19, 20, 21, 22, 23, 24, 25, 26, 27] rfl
  have hS : va_S (kA G) s.heap s.heap [] := va_S.rf
  have hB0 := hE.2.1
  have hl := lv_entry ([.ref (h)]) (n := 1) (Nat.le_of_ble_eq_true rfl)
  rw [lg_entry_eq]
  generalize (lg_sl ([.ref (h)]) ++ List.replicate (1 - (lg_sl ([.ref (h)])).length) Slot.unset).toArray = ls at hl ⊢
  have hl : lv_has ls 1 [(0, .ref (h))] := hl
  refine lv_aload_n hx hb dX6_thrown_0 rfl (lv_at hl 0 rfl) ?_
  refine va_get (D := kD G) (ci := 7) (v := .int (nI (rf))) (C := RX6) (T := TX6) (N := 26) hx hb hts hinX6 hown hK hV.1 0 rfl rfl 0 (by decide) (hts (Cond.fieldLink RX6 68 "YarncourtModel" "refusal" "I") (List.mem_of_getElem? (i := 1) rfl)) (fun _ h9 => h9) rfl dX6_thrown_1 ?_
  exact W.iret (v := nI rf) hx hb hrt (fun t ht hW => ⟨⟨_, (), rfl, rfl, kV_eq ht hV⟩, hS.F ht⟩) hS.2.2 dX6_thrown_4
set_option maxHeartbeats 4000000 in
set_option maxRecDepth 100000 in
theorem c_X6_refused (l : Launch) (G : kG) (h : Nat) (ad : Nat → Nat) (rf : Nat) (rl : Nat) (rw : Nat) (S : kS) (wr : va_W) (k : Nat) (hk : k < 2 ^ 31) : Met l yX6_refused wsX6_refused ({ frames := 0, cells := 0, slots := 0, locals := 0 } : Room) (kPc G [.ref (h), .int (nI (k))] (kM G h ad rf rl rw S ++ wr)) (kQi G (S := Unit) (fun r _ => r = nI (kb (k ≠ 0))) (fun _ => kM G h ad k rl rw S ++ wr)) 0 0 (kA G) := by
  refine Met.ofW (cc := cX6_refused) (maxL := 2) (ret := (some .boolean)) (by decide) rfl ?_
  intro pp ee s m args below meth cc0 s₁ B hml hv
  obtain ⟨rfl, hE, hV⟩ := hv
  have hK := hE.1
  have hx := B.exec
  have hb := B.bytes
  have hrt := B.returns
  have hts := atoms_spec (ws := wsX6_refused) B.pre
  have hown : s.vm.findClass RX6 = some m.cls := findClass_of_methodNamed B.named
  have hlocks := B.notSynchronized
  have hF : CallFix pp m cc0 cX6_refused 2 s _ wsX6_refused RX6 := ⟨hx, hb, hml, hown, hts⟩
  have hinX6 : ∀ w ∈ wsX60, w ∈ wsX6_refused := tb_of [2, 3, 4, 5, 6, 7, 8, 9, 10, 11, 12, 13, 14, 15, 16, 17, 18, 19, 20, 21, 22, 23, 24, 25, 26, 27] rfl
  have hS : va_S (kA G) s.heap s.heap [] := va_S.rf
  have hB0 := hE.2.1
  have hl := lv_entry ([.ref (h), .int (nI (k))]) (n := 2) (Nat.le_of_ble_eq_true rfl)
  rw [lg_entry_eq]
  generalize (lg_sl ([.ref (h), .int (nI (k))]) ++ List.replicate (2 - (lg_sl ([.ref (h), .int (nI (k))])).length) Slot.unset).toArray = ls at hl ⊢
  have hl : lv_has ls 2 [(0, .ref (h)), (1, .int (nI (k)))] := hl
  refine lv_aload_n hx hb dX6_refused_0 rfl (lv_at hl 0 rfl) ?_
  refine lv_iload_n hx hb dX6_refused_1 rfl (lv_at hl 1 rfl) ?_
  refine va_put (D := kD G) (ci := 7) (v := .int (nI (k))) (ty := .int) (C := RX6) (T := TX6) (N := 26) hx hb hts hinX6 tyX6 tyX6_ok nmX6 hown hK hV.1 hV.2 hS 0 rfl rfl 0 (by decide) (hts (Cond.fieldLink RX6 68 "YarncourtModel" "refusal" "I") (List.mem_of_getElem? (i := 1) rfl)) (fun _ h9 => h9) rfl (by decide +kernel) rfl rfl (Nat.le_of_ble_eq_true rfl) dX6_refused_2 (fun H locs hP hD hS => ?_)
  have hV : kV G (kM G h ad k rl rw S ++ wr) H := ⟨hP, hD⟩
  refine lv_iload_n hx hb dX6_refused_5 rfl (lv_at hl 1 rfl) ?_
  refine kn_if_eq (tgt := 13) hx hb (by omega) dX6_refused_6 (by decide) (fun c6 => ?_) (fun c6 => ?_)
  · refine lv_iconst (v := nI 0) hx hb dX6_refused_13 (by decide) ?_
    exact W.zret (v := nI 0) hx hb hrt (by decide) (fun t ht hW => ⟨⟨_, (), rfl, by rw [kb_f (fun z => z c6)], kV_eq ht hV⟩, hS.F ht⟩) hS.2.2 dX6_refused_14
  · refine lv_iconst (v := nI 1) hx hb dX6_refused_9 (by decide) ?_
    refine lv_goto (tgt := 14) hx hb dX6_refused_10 (by decide) ?_
    exact W.zret (v := nI 1) hx hb hrt (by decide) (fun t ht hW => ⟨⟨_, (), rfl, by rw [kb_t c6], kV_eq ht hV⟩, hS.F ht⟩) hS.2.2 dX6_refused_14
set_option maxHeartbeats 4000000 in
set_option maxRecDepth 100000 in
theorem c_X6_added (l : Launch) (G : kG) (h : Nat) (ad : Nat → Nat) (rf : Nat) (rl : Nat) (rw : Nat) (S : kS) (wr : va_W) (o : Nat) (w : Nat) (c : Nat) (hn : S.1 1 0 < 16) : Met l yX6_added wsX6_added ({ frames := 0, cells := 0, slots := 0, locals := 0 } : Room) (kPc G [.ref (h), .int (nI (o)), .int (nI (w)), .int (nI (c))] (kM G h ad rf rl rw S ++ wr)) (kQi G (S := Unit) (fun r _ => r = nI (S.1 1 0)) (fun _ => kM G h ad rf rl rw (addS S o w c) ++ wr)) 0 0 (kA G) := by
  refine Met.ofW (cc := cX6_added) (maxL := 4) (ret := (some .int)) (by decide) rfl ?_
  intro pp ee s m args below meth cc0 s₁ B hml hv
  obtain ⟨rfl, hE, hV⟩ := hv
  have hK := hE.1
  have hx := B.exec
  have hb := B.bytes
  have hrt := B.returns
  have hts := atoms_spec (ws := wsX6_added) B.pre
  have hown : s.vm.findClass RX6 = some m.cls := findClass_of_methodNamed B.named
  have hlocks := B.notSynchronized
  have hF : CallFix pp m cc0 cX6_added 4 s _ wsX6_added RX6 := ⟨hx, hb, hml, hown, hts⟩
  have hinX6 : ∀ w ∈ wsX60, w ∈ wsX6_added := tb_of [6, 7, 8, 9, 10, 11, 12, 13, 14, 15, 16, 17, 18, 19, 20, 21, 22, 23, 24, 25, 26, 27, 28, 29, 30, 31] rfl
  have hS : va_S (kA G) s.heap s.heap [] := va_S.rf
  have hB0 := hE.2.1
  have hl := lv_entry ([.ref (h), .int (nI (o)), .int (nI (w)), .int (nI (c))]) (n := 4) (Nat.le_of_ble_eq_true rfl)
  rw [lg_entry_eq]
  generalize (lg_sl ([.ref (h), .int (nI (o)), .int (nI (w)), .int (nI (c))]) ++ List.replicate (4 - (lg_sl ([.ref (h), .int (nI (o)), .int (nI (w)), .int (nI (c))])).length) Slot.unset).toArray = ls at hl ⊢
  have hl : lv_has ls 4 [(0, .ref (h)), (1, .int (nI (o))), (2, .int (nI (w))), (3, .int (nI (c)))] := hl
  refine lv_aload_n hx hb dX6_added_0 rfl (lv_at hl 0 rfl) ?_
  refine va_get (D := kD G) (ci := 7) (v := .ref (ad 2)) (C := RX6) (T := TX6) (N := 26) hx hb hts hinX6 hown hK hV.1 0 rfl rfl 2 (by decide) (hts (Cond.fieldLink RX6 7 "YarncourtModel" "owners" "[I") (List.mem_of_getElem? (i := 1) rfl)) (fun _ h9 => h9) rfl dX6_added_1 ?_
  refine lv_aload_n hx hb dX6_added_4 rfl (lv_at hl 0 rfl) ?_
  refine va_get (D := kD G) (ci := 7) (v := .int (nI (S.1 1 0))) (C := RX6) (T := TX6) (N := 26) hx hb hts hinX6 hown hK hV.1 0 rfl rfl 1 (by decide) (hts (Cond.fieldLink RX6 76 "YarncourtModel" "patterns" "I") (List.mem_of_getElem? (i := 2) rfl)) (fun _ h9 => h9) rfl dX6_added_5 ?_
  refine lv_iload_n hx hb dX6_added_8 rfl (lv_at hl 1 rfl) ?_
  refine kn_iast (G := G) (n := 16) (g := S.1 2) (j := S.1 1 0) (v := o) hx hb hK hV hS 1 rfl (by omega) (by decide) dX6_added_9 (fun H locs hV hS => ?_)
  have hV : kV G (kM G h ad rf rl rw (st S 2 (S.1 1 0) o) ++ wr) H := hV
  refine lv_aload_n hx hb dX6_added_10 rfl (lv_at hl 0 rfl) ?_
  refine va_get (D := kD G) (ci := 7) (v := .ref (ad 3)) (C := RX6) (T := TX6) (N := 26) hx hb hts hinX6 hown hK hV.1 0 rfl rfl 3 (by decide) (hts (Cond.fieldLink RX6 13 "YarncourtModel" "widths" "[I") (List.mem_of_getElem? (i := 3) rfl)) (fun _ h9 => h9) rfl dX6_added_11 ?_
  refine lv_aload_n hx hb dX6_added_14 rfl (lv_at hl 0 rfl) ?_
  refine va_get (D := kD G) (ci := 7) (v := .int (nI (S.1 1 0))) (C := RX6) (T := TX6) (N := 26) hx hb hts hinX6 hown hK hV.1 0 rfl rfl 1 (by decide) (hts (Cond.fieldLink RX6 76 "YarncourtModel" "patterns" "I") (List.mem_of_getElem? (i := 2) rfl)) (fun _ h9 => h9) rfl dX6_added_15 ?_
  refine lv_iload_n hx hb dX6_added_18 rfl (lv_at hl 2 rfl) ?_
  refine kn_iast (G := G) (n := 16) (g := (st S 2 (S.1 1 0) o).1 3) (j := S.1 1 0) (v := w) hx hb hK hV hS 2 rfl (by omega) (by decide) dX6_added_19 (fun H locs hV hS => ?_)
  have hV : kV G (kM G h ad rf rl rw (st (st S 2 (S.1 1 0) o) 3 (S.1 1 0) w) ++ wr) H := hV
  refine lv_aload_n hx hb dX6_added_20 rfl (lv_at hl 0 rfl) ?_
  refine va_get (D := kD G) (ci := 7) (v := .ref (ad 4)) (C := RX6) (T := TX6) (N := 26) hx hb hts hinX6 hown hK hV.1 0 rfl rfl 4 (by decide) (hts (Cond.fieldLink RX6 16 "YarncourtModel" "prices" "[I") (List.mem_of_getElem? (i := 4) rfl)) (fun _ h9 => h9) rfl dX6_added_21 ?_
  refine lv_aload_n hx hb dX6_added_24 rfl (lv_at hl 0 rfl) ?_
  refine va_get (D := kD G) (ci := 7) (v := .int (nI (S.1 1 0))) (C := RX6) (T := TX6) (N := 26) hx hb hts hinX6 hown hK hV.1 0 rfl rfl 1 (by decide) (hts (Cond.fieldLink RX6 76 "YarncourtModel" "patterns" "I") (List.mem_of_getElem? (i := 2) rfl)) (fun _ h9 => h9) rfl dX6_added_25 ?_
  refine lv_iload_n hx hb dX6_added_28 rfl (lv_at hl 3 rfl) ?_
  refine kn_iast (G := G) (n := 16) (g := (st (st S 2 (S.1 1 0) o) 3 (S.1 1 0) w).1 4) (j := S.1 1 0) (v := c) hx hb hK hV hS 3 rfl (by omega) (by decide) dX6_added_29 (fun H locs hV hS => ?_)
  have hV : kV G (kM G h ad rf rl rw (st (st (st S 2 (S.1 1 0) o) 3 (S.1 1 0) w) 4 (S.1 1 0) c) ++ wr) H := hV
  refine lv_aload_n hx hb dX6_added_30 rfl (lv_at hl 0 rfl) ?_
  refine va_get (D := kD G) (ci := 7) (v := .ref (ad 10)) (C := RX6) (T := TX6) (N := 26) hx hb hts hinX6 hown hK hV.1 0 rfl rfl 10 (by decide) (hts (Cond.fieldLink RX6 34 "YarncourtModel" "orders" "[I") (List.mem_of_getElem? (i := 5) rfl)) (fun _ h9 => h9) rfl dX6_added_31 ?_
  refine lv_aload_n hx hb dX6_added_34 rfl (lv_at hl 0 rfl) ?_
  refine va_get (D := kD G) (ci := 7) (v := .int (nI (S.1 1 0))) (C := RX6) (T := TX6) (N := 26) hx hb hts hinX6 hown hK hV.1 0 rfl rfl 1 (by decide) (hts (Cond.fieldLink RX6 76 "YarncourtModel" "patterns" "I") (List.mem_of_getElem? (i := 2) rfl)) (fun _ h9 => h9) rfl dX6_added_35 ?_
  refine lv_bipush (v := nI 99) hx hb dX6_added_38 (by decide) ?_
  refine kn_iast (G := G) (n := 16) (g := (st (st (st S 2 (S.1 1 0) o) 3 (S.1 1 0) w) 4 (S.1 1 0) c).1 10) (j := S.1 1 0) (v := 99) hx hb hK hV hS 9 rfl (by omega) (by decide) dX6_added_40 (fun H locs hV hS => ?_)
  have hV : kV G (kM G h ad rf rl rw (st (st (st (st S 2 (S.1 1 0) o) 3 (S.1 1 0) w) 4 (S.1 1 0) c) 10 (S.1 1 0) 99) ++ wr) H := hV
  refine lv_aload_n hx hb dX6_added_41 rfl (lv_at hl 0 rfl) ?_
  refine lv_dup hx hb dX6_added_42 rfl ?_
  refine va_get (D := kD G) (ci := 7) (v := .int (nI (S.1 1 0))) (C := RX6) (T := TX6) (N := 26) hx hb hts hinX6 hown hK hV.1 0 rfl rfl 1 (by decide) (hts (Cond.fieldLink RX6 76 "YarncourtModel" "patterns" "I") (List.mem_of_getElem? (i := 2) rfl)) (fun _ h9 => h9) rfl dX6_added_43 ?_
  refine lv_iconst (v := nI 1) hx hb dX6_added_46 (by decide) ?_
  refine kn_add hx hb dX6_added_47 ?_
  refine va_put (D := kD G) (ci := 7) (v := .int (nI ((S.1 1 0) + 1))) (ty := .int) (C := RX6) (T := TX6) (N := 26) hx hb hts hinX6 tyX6 tyX6_ok nmX6 hown hK hV.1 hV.2 hS 0 rfl rfl 1 (by decide) (hts (Cond.fieldLink RX6 76 "YarncourtModel" "patterns" "I") (List.mem_of_getElem? (i := 2) rfl)) (fun _ h9 => h9) rfl (by decide +kernel) rfl rfl (Nat.le_of_ble_eq_true rfl) dX6_added_48 (fun H locs hP hD hS => ?_)
  have hV : kV G (kM G h ad rf rl rw (st (st (st (st (st S 2 (S.1 1 0) o) 3 (S.1 1 0) w) 4 (S.1 1 0) c) 10 (S.1 1 0) 99) 1 0 ((S.1 1 0) + 1)) ++ wr) H := ⟨hP, hD⟩
  refine lv_aload_n hx hb dX6_added_51 rfl (lv_at hl 0 rfl) ?_
  refine va_get (D := kD G) (ci := 7) (v := .int (nI ((S.1 1 0) + 1))) (C := RX6) (T := TX6) (N := 26) hx hb hts hinX6 hown hK hV.1 0 rfl rfl 1 (by decide) (hts (Cond.fieldLink RX6 76 "YarncourtModel" "patterns" "I") (List.mem_of_getElem? (i := 2) rfl)) (fun _ h9 => h9) rfl dX6_added_52 ?_
  refine lv_iconst (v := nI 1) hx hb dX6_added_55 (by decide) ?_
  refine kn_sub hx hb (by omega) dX6_added_56 ?_
  exact W.iret (v := nI (((S.1 1 0) + 1) - 1)) hx hb hrt (fun t ht hW => ⟨⟨_, (), rfl, by rw [Nat.add_sub_cancel], kV_eq ht hV⟩, hS.F ht⟩) hS.2.2 dX6_added_57
set_option maxHeartbeats 4000000 in
set_option maxRecDepth 100000 in
theorem c_X6_put (l : Launch) (G : kG) (h : Nat) (ad : Nat → Nat) (rf : Nat) (rl : Nat) (rw : Nat) (S : kS) (wr : va_W) (p : Nat) (k : Nat) (t : Nat) (z : Int) (n : Nat) (hp : p < 16) (h5 : S.1 5 p < 6) : Met l yX6_put wsX6_put ({ frames := 0, cells := 0, slots := 0, locals := 0 } : Room) (kPc G [.ref (h), .int (nI (p)), .int (nI (k)), .int (nI (t)), .int (zI (z)), .int (nI (n))] (kM G h ad rf rl rw S ++ wr)) (kQv G (S := Unit) (fun _ => True) (fun _ => kM G h ad rf rl rw (putS S p k t z n) ++ wr)) 0 0 (kA G) := by
  refine Met.ofW (cc := cX6_put) (maxL := 7) (ret := none) (by decide) rfl ?_
  intro pp ee s m args below meth cc0 s₁ B hml hv
  obtain ⟨rfl, hE, hV⟩ := hv
  have hK := hE.1
  have hx := B.exec
  have hb := B.bytes
  have hrt := B.returns
  have hts := atoms_spec (ws := wsX6_put) B.pre
  have hown : s.vm.findClass RX6 = some m.cls := findClass_of_methodNamed B.named
  have hlocks := B.notSynchronized
  have hF : CallFix pp m cc0 cX6_put 7 s _ wsX6_put RX6 := ⟨hx, hb, hml, hown, hts⟩
  have hinX6 : ∀ w ∈ wsX60, w ∈ wsX6_put := tb_of [6, 7, 8, 9, 10, 11, 12, 13, 14, 15, 16, 17, 18, 19, 20, 21, 22, 23, 24, 25, 26, 27, 28, 29, 30, 31] rfl
  have hS : va_S (kA G) s.heap s.heap [] := va_S.rf
  have hB0 := hE.2.1
  have hl := lv_entry ([.ref (h), .int (nI (p)), .int (nI (k)), .int (nI (t)), .int (zI (z)), .int (nI (n))]) (n := 7) (Nat.le_of_ble_eq_true rfl)
  rw [lg_entry_eq]
  generalize (lg_sl ([.ref (h), .int (nI (p)), .int (nI (k)), .int (nI (t)), .int (zI (z)), .int (nI (n))]) ++ List.replicate (7 - (lg_sl ([.ref (h), .int (nI (p)), .int (nI (k)), .int (nI (t)), .int (zI (z)), .int (nI (n))])).length) Slot.unset).toArray = ls at hl ⊢
  have hl : lv_has ls 7 [(0, .ref (h)), (1, .int (nI (p))), (2, .int (nI (k))), (3, .int (nI (t))), (4, .int (zI (z))), (5, .int (nI (n)))] := hl
  refine lv_bipush (v := nI 6) hx hb dX6_put_0 (by decide) ?_
  refine lv_iload_n hx hb dX6_put_2 rfl (lv_at hl 1 rfl) ?_
  refine kn_mul hx hb dX6_put_3 ?_
  refine lv_aload_n hx hb dX6_put_4 rfl (lv_at hl 0 rfl) ?_
  refine va_get (D := kD G) (ci := 7) (v := .ref (ad 5)) (C := RX6) (T := TX6) (N := 26) hx hb hts hinX6 hown hK hV.1 0 rfl rfl 5 (by decide) (hts (Cond.fieldLink RX6 19 "YarncourtModel" "lines" "[I") (List.mem_of_getElem? (i := 1) rfl)) (fun _ h9 => h9) rfl dX6_put_5 ?_
  refine lv_iload_n hx hb dX6_put_8 rfl (lv_at hl 1 rfl) ?_
  refine kn_iald (G := G) (n := 16) (g := S.1 5) (j := p) hx hb hK hV 4 rfl (by omega) (by decide) dX6_put_9 ?_
  refine kn_add hx hb dX6_put_10 ?_
  refine lv_istore (lv' := [(6, .int (nI ((6 * p) + (S.1 5 p)))), (0, .ref (h)), (1, .int (nI (p))), (2, .int (nI (k))), (3, .int (nI (t))), (4, .int (zI (z))), (5, .int (nI (n)))]) hx hb dX6_put_11 hl (by decide) rfl (fun ls hl => ?_)
  refine lv_aload_n hx hb dX6_put_13 rfl (lv_at hl 1 rfl) ?_
  refine va_get (D := kD G) (ci := 7) (v := .ref (ad 6)) (C := RX6) (T := TX6) (N := 26) hx hb hts hinX6 hown hK hV.1 0 rfl rfl 6 (by decide) (hts (Cond.fieldLink RX6 22 "YarncourtModel" "knits" "[I") (List.mem_of_getElem? (i := 2) rfl)) (fun _ h9 => h9) rfl dX6_put_14 ?_
  refine lv_iload hx hb dX6_put_17 (lv_at hl 0 rfl) ?_
  refine lv_iload_n hx hb dX6_put_19 rfl (lv_at hl 3 rfl) ?_
  refine kn_iast (G := G) (n := 96) (g := S.1 6) (j := (6 * p) + (S.1 5 p)) (v := k) hx hb hK hV hS 5 rfl (by omega) (by decide) dX6_put_20 (fun H locs hV hS => ?_)
  have hV : kV G (kM G h ad rf rl rw (st S 6 ((6 * p) + (S.1 5 p)) k) ++ wr) H := hV
  refine lv_aload_n hx hb dX6_put_21 rfl (lv_at hl 1 rfl) ?_
  refine va_get (D := kD G) (ci := 7) (v := .ref (ad 7)) (C := RX6) (T := TX6) (N := 26) hx hb hts hinX6 hown hK hV.1 0 rfl rfl 7 (by decide) (hts (Cond.fieldLink RX6 25 "YarncourtModel" "purls" "[I") (List.mem_of_getElem? (i := 3) rfl)) (fun _ h9 => h9) rfl dX6_put_22 ?_
  refine lv_iload hx hb dX6_put_25 (lv_at hl 0 rfl) ?_
  refine lv_iload_n hx hb dX6_put_27 rfl (lv_at hl 4 rfl) ?_
  refine kn_iast (G := G) (n := 96) (g := (st S 6 ((6 * p) + (S.1 5 p)) k).1 7) (j := (6 * p) + (S.1 5 p)) (v := t) hx hb hK hV hS 6 rfl (by omega) (by decide) dX6_put_28 (fun H locs hV hS => ?_)
  have hV : kV G (kM G h ad rf rl rw (st (st S 6 ((6 * p) + (S.1 5 p)) k) 7 ((6 * p) + (S.1 5 p)) t) ++ wr) H := hV
  refine lv_aload_n hx hb dX6_put_29 rfl (lv_at hl 1 rfl) ?_
  refine va_get (D := kD G) (ci := 7) (v := .ref (ad 8)) (C := RX6) (T := TX6) (N := 26) hx hb hts hinX6 hown hK hV.1 0 rfl rfl 8 (by decide) (hts (Cond.fieldLink RX6 28 "YarncourtModel" "shapings" "[I") (List.mem_of_getElem? (i := 4) rfl)) (fun _ h9 => h9) rfl dX6_put_30 ?_
  refine lv_iload hx hb dX6_put_33 (lv_at hl 0 rfl) ?_
  refine lv_iload hx hb dX6_put_35 (lv_at hl 5 rfl) ?_
  refine kz_iast (G := G) (n := 96) (g := (st (st S 6 ((6 * p) + (S.1 5 p)) k) 7 ((6 * p) + (S.1 5 p)) t).2.1) (j := (6 * p) + (S.1 5 p)) (v := z) hx hb hK hV hS 7 rfl (by omega) (by decide) dX6_put_37 (fun H locs hV hS => ?_)
  have hV : kV G (kM G h ad rf rl rw (stz (st (st S 6 ((6 * p) + (S.1 5 p)) k) 7 ((6 * p) + (S.1 5 p)) t) ((6 * p) + (S.1 5 p)) z) ++ wr) H := hV
  refine lv_aload_n hx hb dX6_put_38 rfl (lv_at hl 1 rfl) ?_
  refine va_get (D := kD G) (ci := 7) (v := .ref (ad 9)) (C := RX6) (T := TX6) (N := 26) hx hb hts hinX6 hown hK hV.1 0 rfl rfl 9 (by decide) (hts (Cond.fieldLink RX6 31 "YarncourtModel" "times" "[I") (List.mem_of_getElem? (i := 5) rfl)) (fun _ h9 => h9) rfl dX6_put_39 ?_
  refine lv_iload hx hb dX6_put_42 (lv_at hl 0 rfl) ?_
  refine lv_iload hx hb dX6_put_44 (lv_at hl 6 rfl) ?_
  refine kn_iast (G := G) (n := 96) (g := (stz (st (st S 6 ((6 * p) + (S.1 5 p)) k) 7 ((6 * p) + (S.1 5 p)) t) ((6 * p) + (S.1 5 p)) z).1 9) (j := (6 * p) + (S.1 5 p)) (v := n) hx hb hK hV hS 8 rfl (by omega) (by decide) dX6_put_46 (fun H locs hV hS => ?_)
  have hV : kV G (kM G h ad rf rl rw (st (stz (st (st S 6 ((6 * p) + (S.1 5 p)) k) 7 ((6 * p) + (S.1 5 p)) t) ((6 * p) + (S.1 5 p)) z) 9 ((6 * p) + (S.1 5 p)) n) ++ wr) H := hV
  refine lv_aload_n hx hb dX6_put_47 rfl (lv_at hl 1 rfl) ?_
  refine va_get (D := kD G) (ci := 7) (v := .ref (ad 5)) (C := RX6) (T := TX6) (N := 26) hx hb hts hinX6 hown hK hV.1 0 rfl rfl 5 (by decide) (hts (Cond.fieldLink RX6 19 "YarncourtModel" "lines" "[I") (List.mem_of_getElem? (i := 1) rfl)) (fun _ h9 => h9) rfl dX6_put_48 ?_
  refine lv_iload_n hx hb dX6_put_51 rfl (lv_at hl 2 rfl) ?_
  refine lv_dup2_11 hx hb dX6_put_52 rfl rfl ?_
  refine kn_iald (G := G) (n := 16) (g := (st (stz (st (st S 6 ((6 * p) + (S.1 5 p)) k) 7 ((6 * p) + (S.1 5 p)) t) ((6 * p) + (S.1 5 p)) z) 9 ((6 * p) + (S.1 5 p)) n).1 5) (j := p) hx hb hK hV 4 rfl (by omega) (by decide) dX6_put_53 ?_
  refine W.eq (g2 := F0 m 54 ls [.int (nI (S.1 5 p)), .int (nI (p)), .ref (ad 5)]) rfl ?_
  refine lv_iconst (v := nI 1) hx hb dX6_put_54 (by decide) ?_
  refine kn_add hx hb dX6_put_55 ?_
  refine kn_iast (G := G) (n := 16) (g := (st (stz (st (st S 6 ((6 * p) + (S.1 5 p)) k) 7 ((6 * p) + (S.1 5 p)) t) ((6 * p) + (S.1 5 p)) z) 9 ((6 * p) + (S.1 5 p)) n).1 5) (j := p) (v := (S.1 5 p) + 1) hx hb hK hV hS 4 rfl (by omega) (by decide) dX6_put_56 (fun H locs hV hS => ?_)
  have hV : kV G (kM G h ad rf rl rw (st (st (stz (st (st S 6 ((6 * p) + (S.1 5 p)) k) 7 ((6 * p) + (S.1 5 p)) t) ((6 * p) + (S.1 5 p)) z) 9 ((6 * p) + (S.1 5 p)) n) 5 p ((S.1 5 p) + 1)) ++ wr) H := hV
  exact W.vret hx hb hrt (fun t ht hW => ⟨⟨(), rfl, trivial, kV_eq ht hV⟩, hS.F ht⟩) hS.2.2 dX6_put_57
set_option maxHeartbeats 4000000 in
set_option maxRecDepth 100000 in
theorem c_X6_isPublished (l : Launch) (G : kG) (h : Nat) (ad : Nat → Nat) (rf : Nat) (rl : Nat) (rw : Nat) (S : kS) (wr : va_W) (p : Nat) (hp : p < 16) (ho : S.1 10 p < 2 ^ 31) : Met l yX6_isPublished wsX6_isPublished ({ frames := 0, cells := 0, slots := 0, locals := 0 } : Room) (kPc G [.ref (h), .int (nI (p))] (kM G h ad rf rl rw S ++ wr)) (kQi G (S := Unit) (fun r _ => r = nI (kb (S.1 10 p ≠ 99))) (fun _ => kM G h ad rf rl rw S ++ wr)) 0 0 (kA G) := by
  refine Met.ofW (cc := cX6_isPublished) (maxL := 2) (ret := (some .boolean)) (by decide) rfl ?_
  intro pp ee s m args below meth cc0 s₁ B hml hv
  obtain ⟨rfl, hE, hV⟩ := hv
  have hK := hE.1
  have hx := B.exec
  have hb := B.bytes
  have hrt := B.returns
  have hts := atoms_spec (ws := wsX6_isPublished) B.pre
  have hown : s.vm.findClass RX6 = some m.cls := findClass_of_methodNamed B.named
  have hlocks := B.notSynchronized
  have hF : CallFix pp m cc0 cX6_isPublished 2 s _ wsX6_isPublished RX6 := ⟨hx, hb, hml, hown, hts⟩
  have hinX6 : ∀ w ∈ wsX60, w ∈ wsX6_isPublished := tb_of [2, 3, 4, 5, 6, 7, 8, 9, 10, 11, 12, 13, 14, 15, 16, 17, 18, 19, 20, 21, 22, 23, 24, 25, 26, 27] rfl
  have hS : va_S (kA G) s.heap s.heap [] := va_S.rf
  have hB0 := hE.2.1
  have hl := lv_entry ([.ref (h), .int (nI (p))]) (n := 2) (Nat.le_of_ble_eq_true rfl)
  rw [lg_entry_eq]
  generalize (lg_sl ([.ref (h), .int (nI (p))]) ++ List.replicate (2 - (lg_sl ([.ref (h), .int (nI (p))])).length) Slot.unset).toArray = ls at hl ⊢
  have hl : lv_has ls 2 [(0, .ref (h)), (1, .int (nI (p)))] := hl
  refine lv_aload_n hx hb dX6_isPublished_0 rfl (lv_at hl 0 rfl) ?_
  refine va_get (D := kD G) (ci := 7) (v := .ref (ad 10)) (C := RX6) (T := TX6) (N := 26) hx hb hts hinX6 hown hK hV.1 0 rfl rfl 10 (by decide) (hts (Cond.fieldLink RX6 34 "YarncourtModel" "orders" "[I") (List.mem_of_getElem? (i := 1) rfl)) (fun _ h9 => h9) rfl dX6_isPublished_1 ?_
  refine lv_iload_n hx hb dX6_isPublished_4 rfl (lv_at hl 1 rfl) ?_
  refine kn_iald (G := G) (n := 16) (g := S.1 10) (j := p) hx hb hK hV 9 rfl (by omega) (by decide) dX6_isPublished_5 ?_
  refine lv_bipush (v := nI 99) hx hb dX6_isPublished_6 (by decide) ?_
  refine kn_eq (tgt := 15) hx hb (by omega) (by decide) dX6_isPublished_8 (by decide) (fun c8 => ?_) (fun c8 => ?_)
  · refine lv_iconst (v := nI 0) hx hb dX6_isPublished_15 (by decide) ?_
    exact W.zret (v := nI 0) hx hb hrt (by decide) (fun t ht hW => ⟨⟨_, (), rfl, by rw [kb_f (fun z => z c8)], kV_eq ht hV⟩, hS.F ht⟩) hS.2.2 dX6_isPublished_16
  · refine lv_iconst (v := nI 1) hx hb dX6_isPublished_11 (by decide) ?_
    refine lv_goto (tgt := 16) hx hb dX6_isPublished_12 (by decide) ?_
    exact W.zret (v := nI 1) hx hb hrt (by decide) (fun t ht hW => ⟨⟨_, (), rfl, by rw [kb_t c8], kV_eq ht hV⟩, hS.F ht⟩) hS.2.2 dX6_isPublished_16
set_option maxHeartbeats 4000000 in
set_option maxRecDepth 100000 in
theorem c_X6_oftenAnew (l : Launch) (G : kG) (h : Nat) (ad : Nat → Nat) (rf : Nat) (rl : Nat) (rw : Nat) (S : kS) (wr : va_W) (a : Nat) (g : Nat) (ha : a < 96) (h9 : S.1 9 a ≤ 40) (hg : g ≤ 20) : Met l yX6_oftenAnew wsX6_oftenAnew ({ frames := 0, cells := 0, slots := 0, locals := 0 } : Room) (kPc G [.ref (h), .int (nI (a)), .int (nI (g))] (kM G h ad rf rl rw S ++ wr)) (kQi G (S := Unit) (fun r _ => r = nI (oftN (S.1 9 a) g)) (fun _ => kM G h ad rf rl rw S ++ wr)) 0 0 (kA G) := by
  refine Met.ofW (cc := cX6_oftenAnew) (maxL := 4) (ret := (some .int)) (by decide) rfl ?_
  intro pp ee s m args below meth cc0 s₁ B hml hv
  obtain ⟨rfl, hE, hV⟩ := hv
  have hK := hE.1
  have hx := B.exec
  have hb := B.bytes
  have hrt := B.returns
  have hts := atoms_spec (ws := wsX6_oftenAnew) B.pre
  have hown : s.vm.findClass RX6 = some m.cls := findClass_of_methodNamed B.named
  have hlocks := B.notSynchronized
  have hF : CallFix pp m cc0 cX6_oftenAnew 4 s _ wsX6_oftenAnew RX6 := ⟨hx, hb, hml, hown, hts⟩
  have hinX6 : ∀ w ∈ wsX60, w ∈ wsX6_oftenAnew := tb_of [2, 3, 4, 5, 6, 7, 8, 9, 10, 11, 12, 13, 14, 15, 16, 17, 18, 19, 20, 21, 22, 23, 24, 25, 26, 27] rfl
  have hS : va_S (kA G) s.heap s.heap [] := va_S.rf
  have hB0 := hE.2.1
  have hl := lv_entry ([.ref (h), .int (nI (a)), .int (nI (g))]) (n := 4) (Nat.le_of_ble_eq_true rfl)
  rw [lg_entry_eq]
  generalize (lg_sl ([.ref (h), .int (nI (a)), .int (nI (g))]) ++ List.replicate (4 - (lg_sl ([.ref (h), .int (nI (a)), .int (nI (g))])).length) Slot.unset).toArray = ls at hl ⊢
  have hl : lv_has ls 4 [(0, .ref (h)), (1, .int (nI (a))), (2, .int (nI (g)))] := hl
  refine lv_aload_n hx hb dX6_oftenAnew_0 rfl (lv_at hl 0 rfl) ?_
  refine va_get (D := kD G) (ci := 7) (v := .ref (ad 9)) (C := RX6) (T := TX6) (N := 26) hx hb hts hinX6 hown hK hV.1 0 rfl rfl 9 (by decide) (hts (Cond.fieldLink RX6 31 "YarncourtModel" "times" "[I") (List.mem_of_getElem? (i := 1) rfl)) (fun _ h9 => h9) rfl dX6_oftenAnew_1 ?_
  refine lv_iload_n hx hb dX6_oftenAnew_4 rfl (lv_at hl 1 rfl) ?_
  refine kn_iald (G := G) (n := 96) (g := S.1 9) (j := a) hx hb hK hV 8 rfl (by omega) (by decide) dX6_oftenAnew_5 ?_
  refine lv_iload_n hx hb dX6_oftenAnew_6 rfl (lv_at hl 2 rfl) ?_
  refine kn_mul hx hb dX6_oftenAnew_7 ?_
  refine lv_bipush (v := nI 10) hx hb dX6_oftenAnew_8 (by decide) ?_
  have hm : S.1 9 a * g ≤ 40 * 20 := Nat.mul_le_mul h9 hg
  refine kn_div hx hb (by omega) (by omega) (by omega) dX6_oftenAnew_10 ?_
  refine lv_istore_n (lv' := [(3, .int (nI (((S.1 9 a) * g) / 10))), (0, .ref (h)), (1, .int (nI (a))), (2, .int (nI (g)))]) hx hb dX6_oftenAnew_11 rfl hl (by decide) rfl (fun ls hl => ?_)
  refine lv_iload_n hx hb dX6_oftenAnew_12 rfl (lv_at hl 0 rfl) ?_
  refine lv_iconst (v := nI 1) hx hb dX6_oftenAnew_13 (by decide) ?_
  refine kn_ge (tgt := 21) hx hb (by omega) (by decide) dX6_oftenAnew_14 (by decide) (fun c14 => ?_) (fun c14 => ?_)
  · refine lv_iload_n hx hb dX6_oftenAnew_21 rfl (lv_at hl 0 rfl) ?_
    exact W.iret (v := nI (((S.1 9 a) * g) / 10)) hx hb hrt (fun t ht hW => ⟨⟨_, (), rfl, by unfold oftN; rw [if_neg (by omega)], kV_eq ht hV⟩, hS.F ht⟩) hS.2.2 dX6_oftenAnew_22
  · refine lv_iconst (v := nI 1) hx hb dX6_oftenAnew_17 (by decide) ?_
    refine lv_goto (tgt := 22) hx hb dX6_oftenAnew_18 (by decide) ?_
    exact W.iret (v := nI 1) hx hb hrt (fun t ht hW => ⟨⟨_, (), rfl, by unfold oftN; rw [if_pos c14], kV_eq ht hV⟩, hS.F ht⟩) hS.2.2 dX6_oftenAnew_22
set_option maxHeartbeats 4000000 in
set_option maxRecDepth 100000 in
theorem c_X6_rowsOf (l : Launch) (G : kG) (h : Nat) (ad : Nat → Nat) (rf : Nat) (rl : Nat) (rw : Nat) (S : kS) (wr : va_W) (p : Nat) (hp : p < 16) (h5 : S.1 5 p ≤ 6) : Met l yX6_rowsOf wsX6_rowsOf ({ frames := 0, cells := 0, slots := 0, locals := 0 } : Room) (kPc G [.ref (h), .int (nI (p))] (kM G h ad rf rl rw S ++ wr)) (kQi G (S := Unit) (fun r _ => r = nI (pRows S p)) (fun _ => kM G h ad rf rl rw S ++ wr)) 0 0 (kA G) := by
  refine Met.ofW (cc := cX6_rowsOf) (maxL := 4) (ret := (some .int)) (by decide) rfl ?_
  intro pp ee s m args below meth cc0 s₁ B hml hv
  obtain ⟨rfl, hE, hV⟩ := hv
  have hK := hE.1
  have hx := B.exec
  have hb := B.bytes
  have hrt := B.returns
  have hts := atoms_spec (ws := wsX6_rowsOf) B.pre
  have hown : s.vm.findClass RX6 = some m.cls := findClass_of_methodNamed B.named
  have hlocks := B.notSynchronized
  have hF : CallFix pp m cc0 cX6_rowsOf 4 s _ wsX6_rowsOf RX6 := ⟨hx, hb, hml, hown, hts⟩
  have hinX6 : ∀ w ∈ wsX60, w ∈ wsX6_rowsOf := tb_of [3, 4, 5, 6, 7, 8, 9, 10, 11, 12, 13, 14, 15, 16, 17, 18, 19, 20, 21, 22, 23, 24, 25, 26, 27, 28] rfl
  have hS : va_S (kA G) s.heap s.heap [] := va_S.rf
  have hB0 := hE.2.1
  have hl := lv_entry ([.ref (h), .int (nI (p))]) (n := 4) (Nat.le_of_ble_eq_true rfl)
  rw [lg_entry_eq]
  generalize (lg_sl ([.ref (h), .int (nI (p))]) ++ List.replicate (4 - (lg_sl ([.ref (h), .int (nI (p))])).length) Slot.unset).toArray = ls at hl ⊢
  have hl : lv_has ls 4 [(0, .ref (h)), (1, .int (nI (p)))] := hl
  refine lv_iconst (v := nI 0) hx hb dX6_rowsOf_0 (by decide) ?_
  refine lv_istore_n (lv' := [(2, .int (nI (0))), (0, .ref (h)), (1, .int (nI (p)))]) hx hb dX6_rowsOf_1 rfl hl (by decide) rfl (fun ls hl => ?_)
  refine lv_iconst (v := nI 0) hx hb dX6_rowsOf_2 (by decide) ?_
  refine lv_istore_n (lv' := [(3, .int (nI (0))), (2, .int (nI (0))), (0, .ref (h)), (1, .int (nI (p)))]) hx hb dX6_rowsOf_3 rfl hl (by decide) rfl (fun ls hl => ?_)
  have L4 : ∀ (n : Nat) (i : Nat) (hi : i ≤ S.1 5 p) (hm : S.1 5 p - i < n) (H : Heap) (locs : List Loc), kV G (kM G h ad rf rl rw S ++ wr) H → va_S (kA G) s.heap H locs → ∀ (ls : Array Slot), lv_has ls 4 [(0, .ref (h)), (1, .int (nI (p))), (2, .int (nI (sumN (fun k => S.1 9 (6 * p + k)) i))), (3, .int (nI (i)))] → W pp l ee (headSpec wsX6_rowsOf ({ frames := 0, cells := 0, slots := 0, locals := 0 } : Room)).room s m [.ref (h), .int (nI (p))].toArray below meth cc0 H locs 0 0 (MQ below (kQi G (S := Unit) (fun r _ => r = nI (pRows S p)) (fun _ => kM G h ad rf rl rw S ++ wr)) [.ref (h), .int (nI (p))].toArray s 0 0 (kA G)) (F0 m 4 ls []) := by
    intro n
    induction n with
    | zero => intro i hi hm; exact absurd hm (Nat.not_lt_zero _)
    | succ n ih =>
      intro i hi hm H locs hV hS ls hl
      refine lv_iload_n hx hb dX6_rowsOf_4 rfl (lv_at hl 3 rfl) ?_
      refine lv_aload_n hx hb dX6_rowsOf_5 rfl (lv_at hl 0 rfl) ?_
      refine va_get (D := kD G) (ci := 7) (v := .ref (ad 5)) (C := RX6) (T := TX6) (N := 26) hx hb hts hinX6 hown hK hV.1 0 rfl rfl 5 (by decide) (hts (Cond.fieldLink RX6 19 "YarncourtModel" "lines" "[I") (List.mem_of_getElem? (i := 1) rfl)) (fun _ h9 => h9) rfl dX6_rowsOf_6 ?_
      refine lv_iload_n hx hb dX6_rowsOf_9 rfl (lv_at hl 1 rfl) ?_
      refine kn_iald (G := G) (n := 16) (g := S.1 5) (j := p) hx hb hK hV 4 rfl (by omega) (by decide) dX6_rowsOf_10 ?_
      refine kn_ge (tgt := 34) hx hb (by omega) (by omega) dX6_rowsOf_11 (by decide) (fun c11 => ?_) (fun c11 => ?_)
      · refine lv_iload_n hx hb dX6_rowsOf_34 rfl (lv_at hl 2 rfl) ?_
        exact W.iret (v := nI (sumN (fun k => S.1 9 (6 * p + k)) i)) hx hb hrt (fun t ht hW => ⟨⟨_, (), rfl, by rw [show i = S.1 5 p from by omega]; rfl, kV_eq ht hV⟩, hS.F ht⟩) hS.2.2 dX6_rowsOf_35
      · refine lv_iload_n hx hb dX6_rowsOf_14 rfl (lv_at hl 2 rfl) ?_
        refine lv_aload_n hx hb dX6_rowsOf_15 rfl (lv_at hl 0 rfl) ?_
        refine va_get (D := kD G) (ci := 7) (v := .ref (ad 9)) (C := RX6) (T := TX6) (N := 26) hx hb hts hinX6 hown hK hV.1 0 rfl rfl 9 (by decide) (hts (Cond.fieldLink RX6 31 "YarncourtModel" "times" "[I") (List.mem_of_getElem? (i := 2) rfl)) (fun _ h9 => h9) rfl dX6_rowsOf_16 ?_
        refine lv_bipush (v := nI 6) hx hb dX6_rowsOf_19 (by decide) ?_
        refine lv_iload_n hx hb dX6_rowsOf_21 rfl (lv_at hl 1 rfl) ?_
        refine kn_mul hx hb dX6_rowsOf_22 ?_
        refine lv_iload_n hx hb dX6_rowsOf_23 rfl (lv_at hl 3 rfl) ?_
        refine kn_add hx hb dX6_rowsOf_24 ?_
        refine kn_iald (G := G) (n := 96) (g := S.1 9) (j := (6 * p) + i) hx hb hK hV 8 rfl (by omega) (by decide) dX6_rowsOf_25 ?_
        refine kn_add hx hb dX6_rowsOf_26 ?_
        refine lv_istore_n (lv' := [(2, .int (nI ((sumN (fun k => S.1 9 (6 * p + k)) i) + (S.1 9 ((6 * p) + i))))), (0, .ref (h)), (1, .int (nI (p))), (3, .int (nI (i)))]) hx hb dX6_rowsOf_27 rfl hl (by decide) rfl (fun ls hl => ?_)
        refine lv_iinc (lv' := [(3, .int (nI (i + 1))), (2, .int (nI ((sumN (fun k => S.1 9 (6 * p + k)) i) + (S.1 9 ((6 * p) + i))))), (0, .ref (h)), (1, .int (nI (p)))]) hx hb dX6_rowsOf_28 hl (k := 3) rfl (kn_iinc i 1) (by decide) rfl (fun ls hl => ?_)
        refine lv_goto (tgt := 4) hx hb dX6_rowsOf_31 (by decide) ?_
        exact ih (i + 1) (by omega) (by omega) _ _ hV hS ls (lv_sub hl [2, 3, 1, 0] rfl)
  exact L4 ((S.1 5 p - 0) + 1) 0 (by omega) (Nat.lt_succ_self _) _ _ hV hS ls (lv_sub hl [2, 3, 1, 0] rfl)
set_option maxHeartbeats 4000000 in
set_option maxRecDepth 100000 in
theorem c_X6_goTo (l : Launch) (G : kG) (h : Nat) (ad : Nat → Nat) (rf : Nat) (rl : Nat) (rw : Nat) (S : kS) (wr : va_W) (p : Nat) (r : Nat) (hp : p < 16) (hok : okP S p) (hr : r < pRows S p) : Met l yX6_goTo wsX6_goTo ({ frames := 0, cells := 0, slots := 0, locals := 0 } : Room) (kPc G [.ref (h), .int (nI (p)), .int (nI (r))] (kM G h ad rf rl rw S ++ wr)) (kQv G (S := Unit) (fun _ => True) (fun _ => kM G h ad rf (pL S p r) (pW S p r) S ++ wr)) 0 0 (kA G) := by
  refine Met.ofW (cc := cX6_goTo) (maxL := 6) (ret := none) (by decide) rfl ?_
  intro pp ee s m args below meth cc0 s₁ B hml hv
  obtain ⟨rfl, hE, hV⟩ := hv
  have hK := hE.1
  have hx := B.exec
  have hb := B.bytes
  have hrt := B.returns
  have hts := atoms_spec (ws := wsX6_goTo) B.pre
  have hown : s.vm.findClass RX6 = some m.cls := findClass_of_methodNamed B.named
  have hlocks := B.notSynchronized
  have hF : CallFix pp m cc0 cX6_goTo 6 s _ wsX6_goTo RX6 := ⟨hx, hb, hml, hown, hts⟩
  have hinX6 : ∀ w ∈ wsX60, w ∈ wsX6_goTo := tb_of [6, 7, 8, 9, 10, 11, 12, 13, 14, 15, 16, 17, 18, 19, 20, 21, 22, 23, 24, 25, 26, 27, 28, 29, 30, 31] rfl
  have hS : va_S (kA G) s.heap s.heap [] := va_S.rf
  have hB0 := hE.2.1
  have hl := lv_entry ([.ref (h), .int (nI (p)), .int (nI (r))]) (n := 6) (Nat.le_of_ble_eq_true rfl)
  rw [lg_entry_eq]
  generalize (lg_sl ([.ref (h), .int (nI (p)), .int (nI (r))]) ++ List.replicate (6 - (lg_sl ([.ref (h), .int (nI (p)), .int (nI (r))])).length) Slot.unset).toArray = ls at hl ⊢
  have hl : lv_has ls 6 [(0, .ref (h)), (1, .int (nI (p))), (2, .int (nI (r)))] := hl
  refine lv_aload_n hx hb dX6_goTo_0 rfl (lv_at hl 0 rfl) ?_
  refine lv_bipush (v := nI 6) hx hb dX6_goTo_1 (by decide) ?_
  refine lv_iload_n hx hb dX6_goTo_3 rfl (lv_at hl 1 rfl) ?_
  refine kn_mul hx hb dX6_goTo_4 ?_
  refine va_put (D := kD G) (ci := 7) (v := .int (nI (6 * p))) (ty := .int) (C := RX6) (T := TX6) (N := 26) hx hb hts hinX6 tyX6 tyX6_ok nmX6 hown hK hV.1 hV.2 hS 0 rfl rfl 24 (by decide) (hts (Cond.fieldLink RX6 114 "YarncourtModel" "rowLine" "I") (List.mem_of_getElem? (i := 1) rfl)) (fun _ h9 => h9) rfl (by decide +kernel) rfl rfl (Nat.le_of_ble_eq_true rfl) dX6_goTo_5 (fun H locs hP hD hS => ?_)
  have hV : kV G (kM G h ad rf (6 * p) rw S ++ wr) H := ⟨hP, hD⟩
  have h6 := hok.1
  have h40 := hok.2.2.2.1
  refine lv_aload_n hx hb dX6_goTo_8 rfl (lv_at hl 0 rfl) ?_
  refine lv_aload_n hx hb dX6_goTo_9 rfl (lv_at hl 0 rfl) ?_
  refine va_get (D := kD G) (ci := 7) (v := .ref (ad 3)) (C := RX6) (T := TX6) (N := 26) hx hb hts hinX6 hown hK hV.1 0 rfl rfl 3 (by decide) (hts (Cond.fieldLink RX6 13 "YarncourtModel" "widths" "[I") (List.mem_of_getElem? (i := 2) rfl)) (fun _ h9 => h9) rfl dX6_goTo_10 ?_
  refine lv_iload_n hx hb dX6_goTo_13 rfl (lv_at hl 1 rfl) ?_
  refine kn_iald (G := G) (n := 16) (g := S.1 3) (j := p) hx hb hK hV 2 rfl (by omega) (by decide) dX6_goTo_14 ?_
  refine va_put (D := kD G) (ci := 7) (v := .int (nI (S.1 3 p))) (ty := .int) (C := RX6) (T := TX6) (N := 26) hx hb hts hinX6 tyX6 tyX6_ok nmX6 hown hK hV.1 hV.2 hS 0 rfl rfl 25 (by decide) (hts (Cond.fieldLink RX6 117 "YarncourtModel" "rowWidth" "I") (List.mem_of_getElem? (i := 3) rfl)) (fun _ h9 => h9) rfl (by decide +kernel) rfl rfl (Nat.le_of_ble_eq_true rfl) dX6_goTo_15 (fun H locs hP hD hS => ?_)
  have hV : kV G (kM G h ad rf (6 * p) (S.1 3 p) S ++ wr) H := ⟨hP, hD⟩
  refine lv_aload_n hx hb dX6_goTo_18 rfl (lv_at hl 0 rfl) ?_
  refine va_get (D := kD G) (ci := 7) (v := .ref (ad 9)) (C := RX6) (T := TX6) (N := 26) hx hb hts hinX6 hown hK hV.1 0 rfl rfl 9 (by decide) (hts (Cond.fieldLink RX6 31 "YarncourtModel" "times" "[I") (List.mem_of_getElem? (i := 4) rfl)) (fun _ h9 => h9) rfl dX6_goTo_19 ?_
  refine lv_aload_n hx hb dX6_goTo_22 rfl (lv_at hl 0 rfl) ?_
  refine va_get (D := kD G) (ci := 7) (v := .int (nI (6 * p))) (C := RX6) (T := TX6) (N := 26) hx hb hts hinX6 hown hK hV.1 0 rfl rfl 24 (by decide) (hts (Cond.fieldLink RX6 114 "YarncourtModel" "rowLine" "I") (List.mem_of_getElem? (i := 1) rfl)) (fun _ h9 => h9) rfl dX6_goTo_23 ?_
  refine kn_iald (G := G) (n := 96) (g := S.1 9) (j := 6 * p) hx hb hK hV 8 rfl (by omega) (by decide) dX6_goTo_26 ?_
  refine lv_istore_n (lv' := [(3, .int (nI (S.1 9 (6 * p)))), (0, .ref (h)), (1, .int (nI (p))), (2, .int (nI (r)))]) hx hb dX6_goTo_27 rfl hl (by decide) rfl (fun ls hl => ?_)
  refine lv_iconst (v := nI 0) hx hb dX6_goTo_28 (by decide) ?_
  refine lv_istore (lv' := [(4, .int (nI (0))), (3, .int (nI (S.1 9 (6 * p)))), (0, .ref (h)), (1, .int (nI (p))), (2, .int (nI (r)))]) hx hb dX6_goTo_29 hl (by decide) rfl (fun ls hl => ?_)
  have L31 : ∀ (n : Nat) (i : Nat) (hi : i ≤ r) (hm : r - i < n) (H : Heap) (locs : List Loc), kV G (kM G h ad rf (pL S p i) (pW S p i) S ++ wr) H → va_S (kA G) s.heap H locs → ∀ (ls : Array Slot), lv_has ls 6 [(0, .ref (h)), (1, .int (nI (p))), (2, .int (nI (r))), (3, .int (nI ((pG S p i).2.1))), (4, .int (nI (i)))] → W pp l ee (headSpec wsX6_goTo ({ frames := 0, cells := 0, slots := 0, locals := 0 } : Room)).room s m [.ref (h), .int (nI (p)), .int (nI (r))].toArray below meth cc0 H locs 0 0 (MQ below (kQv G (S := Unit) (fun _ => True) (fun _ => kM G h ad rf (pL S p r) (pW S p r) S ++ wr)) [.ref (h), .int (nI (p)), .int (nI (r))].toArray s 0 0 (kA G)) (F0 m 31 ls []) := by
    intro n
    induction n with
    | zero => intro i hi hm; exact absurd hm (Nat.not_lt_zero _)
    | succ n ih =>
      intro i hi hm H locs hV hS ls hl
      refine lv_iload hx hb dX6_goTo_31 (lv_at hl 4 rfl) ?_
      refine lv_iload_n hx hb dX6_goTo_33 rfl (lv_at hl 2 rfl) ?_
      refine kn_ge (tgt := 126) hx hb (by omega) (by omega) dX6_goTo_34 (by decide) (fun c34 => ?_) (fun c34 => ?_)
      · have e9 : i = r := by omega
        subst e9
        exact W.vret hx hb hrt (fun t ht hW => ⟨⟨(), rfl, trivial, kV_eq ht hV⟩, hS.F ht⟩) hS.2.2 dX6_goTo_126
      · obtain ⟨k, hk, e1, e2, e3, e4⟩ := pG_at hok (show i < pRows S p by omega)
        have e1 : pL S p i = 6 * p + k := e1
        have hw := pW_in hok i
        have hz := hok.2.2.2.2 k hk
        rw [← e1] at hz e3
        refine lv_aload_n hx hb dX6_goTo_37 rfl (lv_at hl 0 rfl) ?_
        refine va_get (D := kD G) (ci := 7) (v := .int (nI (pW S p i))) (C := RX6) (T := TX6) (N := 26) hx hb hts hinX6 hown hK hV.1 0 rfl rfl 25 (by decide) (hts (Cond.fieldLink RX6 117 "YarncourtModel" "rowWidth" "I") (List.mem_of_getElem? (i := 3) rfl)) (fun _ h9 => h9) rfl dX6_goTo_38 ?_
        refine lv_aload_n hx hb dX6_goTo_41 rfl (lv_at hl 0 rfl) ?_
        refine va_get (D := kD G) (ci := 7) (v := .ref (ad 8)) (C := RX6) (T := TX6) (N := 26) hx hb hts hinX6 hown hK hV.1 0 rfl rfl 8 (by decide) (hts (Cond.fieldLink RX6 28 "YarncourtModel" "shapings" "[I") (List.mem_of_getElem? (i := 5) rfl)) (fun _ h9 => h9) rfl dX6_goTo_42 ?_
        refine lv_aload_n hx hb dX6_goTo_45 rfl (lv_at hl 0 rfl) ?_
        refine va_get (D := kD G) (ci := 7) (v := .int (nI (pL S p i))) (C := RX6) (T := TX6) (N := 26) hx hb hts hinX6 hown hK hV.1 0 rfl rfl 24 (by decide) (hts (Cond.fieldLink RX6 114 "YarncourtModel" "rowLine" "I") (List.mem_of_getElem? (i := 1) rfl)) (fun _ h9 => h9) rfl dX6_goTo_46 ?_
        refine kz_iald (G := G) (n := 96) (g := S.2.1) (j := pL S p i) hx hb hK hV 7 rfl (by omega) (by decide) dX6_goTo_49 ?_
        refine kz_add hx hb dX6_goTo_50 ?_
        refine lv_istore (lv' := [(5, .int (zI (((pW S p i) : Int) + (S.2.1 (pL S p i))))), (0, .ref (h)), (1, .int (nI (p))), (2, .int (nI (r))), (3, .int (nI ((pG S p i).2.1))), (4, .int (nI (i)))]) hx hb dX6_goTo_51 hl (by decide) rfl (fun ls hl => ?_)
        have J78 : ∀ (H : Heap) (locs : List Loc), kV G (kM G h ad rf (pL S p i) (pW S p i) S ++ wr) H → va_S (kA G) s.heap H locs → ∀ (ls : Array Slot), lv_has ls 6 [(5, .int (zI (((pW S p i) : Int) + (S.2.1 (pL S p i))))), (0, .ref (h)), (1, .int (nI (p))), (2, .int (nI (r))), (3, .int (nI ((pG S p i).2.1))), (4, .int (nI (i)))] → W pp l ee (headSpec wsX6_goTo ({ frames := 0, cells := 0, slots := 0, locals := 0 } : Room)).room s m [.ref (h), .int (nI (p)), .int (nI (r))].toArray below meth cc0 H locs 0 0 (MQ below (kQv G (S := Unit) (fun _ => True) (fun _ => kM G h ad rf (pL S p r) (pW S p r) S ++ wr)) [.ref (h), .int (nI (p)), .int (nI (r))].toArray s 0 0 (kA G)) (F0 m 78 ls [.int (nI (clampW ((pW S p i : Int) + S.2.1 (pL S p i)))), .ref (h)]) := by
          intro  H locs hV hS ls hl
          refine va_put (D := kD G) (ci := 7) (v := .int (nI (clampW ((pW S p i : Int) + S.2.1 (pL S p i))))) (ty := .int) (C := RX6) (T := TX6) (N := 26) hx hb hts hinX6 tyX6 tyX6_ok nmX6 hown hK hV.1 hV.2 hS 0 rfl rfl 25 (by decide) (hts (Cond.fieldLink RX6 117 "YarncourtModel" "rowWidth" "I") (List.mem_of_getElem? (i := 3) rfl)) (fun _ h9 => h9) rfl (by decide +kernel) rfl rfl (Nat.le_of_ble_eq_true rfl) dX6_goTo_78 (fun H locs hP hD hS => ?_)
          have hV : kV G (kM G h ad rf (pL S p i) (clampW ((pW S p i : Int) + S.2.1 (pL S p i))) S ++ wr) H := ⟨hP, hD⟩
          refine lv_iinc (lv' := [(3, .int (nI ((pG S p i).2.1 - 1))), (5, .int (zI (((pW S p i) : Int) + (S.2.1 (pL S p i))))), (0, .ref (h)), (1, .int (nI (p))), (2, .int (nI (r))), (4, .int (nI (i)))]) hx hb dX6_goTo_81 hl (k := 4) rfl (kn_idec (by omega)) (by decide) rfl (fun ls hl => ?_)
          refine lv_aload_n hx hb dX6_goTo_84 rfl (lv_at hl 2 rfl) ?_
          refine lv_dup hx hb dX6_goTo_85 rfl ?_
          refine va_get (D := kD G) (ci := 7) (v := .int (nI (pL S p i))) (C := RX6) (T := TX6) (N := 26) hx hb hts hinX6 hown hK hV.1 0 rfl rfl 24 (by decide) (hts (Cond.fieldLink RX6 114 "YarncourtModel" "rowLine" "I") (List.mem_of_getElem? (i := 1) rfl)) (fun _ h9 => h9) rfl dX6_goTo_86 ?_
          refine lv_iload_n hx hb dX6_goTo_89 rfl (lv_at hl 0 rfl) ?_
          refine kn_if_ne (tgt := 97) hx hb (by omega) dX6_goTo_90 (by decide) (fun c90 => ?_) (fun c90 => ?_)
          · refine lv_iconst (v := nI 0) hx hb dX6_goTo_97 (by decide) ?_
            refine kn_add hx hb dX6_goTo_98 ?_
            refine va_put (D := kD G) (ci := 7) (v := .int (nI ((pL S p i) + 0))) (ty := .int) (C := RX6) (T := TX6) (N := 26) hx hb hts hinX6 tyX6 tyX6_ok nmX6 hown hK hV.1 hV.2 hS 0 rfl rfl 24 (by decide) (hts (Cond.fieldLink RX6 114 "YarncourtModel" "rowLine" "I") (List.mem_of_getElem? (i := 1) rfl)) (fun _ h9 => h9) rfl (by decide +kernel) rfl rfl (Nat.le_of_ble_eq_true rfl) dX6_goTo_99 (fun H locs hP hD hS => ?_)
            have hV : kV G (kM G h ad rf ((pL S p i) + 0) (clampW ((pW S p i : Int) + S.2.1 (pL S p i))) S ++ wr) H := ⟨hP, hD⟩
            refine lv_iload_n hx hb dX6_goTo_102 rfl (lv_at hl 0 rfl) ?_
            refine kn_if_ne (tgt := 118) hx hb (by omega) dX6_goTo_103 (by decide) (fun c103 => ?_) (fun z => absurd z (by omega))
            refine lv_iload_n hx hb dX6_goTo_118 rfl (lv_at hl 0 rfl) ?_
            refine lv_istore_n (lv' := [(3, .int (nI ((pG S p i).2.1 - 1))), (5, .int (zI (((pW S p i) : Int) + (S.2.1 (pL S p i))))), (0, .ref (h)), (1, .int (nI (p))), (2, .int (nI (r))), (4, .int (nI (i)))]) hx hb dX6_goTo_119 rfl hl (by decide) rfl (fun ls hl => ?_)
            refine lv_iinc (lv' := [(4, .int (nI (i + 1))), (3, .int (nI ((pG S p i).2.1 - 1))), (5, .int (zI (((pW S p i) : Int) + (S.2.1 (pL S p i))))), (0, .ref (h)), (1, .int (nI (p))), (2, .int (nI (r)))]) hx hb dX6_goTo_120 hl (k := 5) rfl (kn_iinc i 1) (by decide) rfl (fun ls hl => ?_)
            refine lv_goto (tgt := 31) hx hb dX6_goTo_123 (by decide) ?_
            exact ih (i + 1) (by omega) (by omega) _ _ (by rw [pL_s0 (by omega), pW_s]; exact hV) hS ls (by rw [pl_s0 (by omega)]; exact lv_sub hl [3, 4, 5, 1, 0] rfl)
          · refine lv_iconst (v := nI 1) hx hb dX6_goTo_93 (by decide) ?_
            refine lv_goto (tgt := 98) hx hb dX6_goTo_94 (by decide) ?_
            refine kn_add hx hb dX6_goTo_98 ?_
            refine va_put (D := kD G) (ci := 7) (v := .int (nI ((pL S p i) + 1))) (ty := .int) (C := RX6) (T := TX6) (N := 26) hx hb hts hinX6 tyX6 tyX6_ok nmX6 hown hK hV.1 hV.2 hS 0 rfl rfl 24 (by decide) (hts (Cond.fieldLink RX6 114 "YarncourtModel" "rowLine" "I") (List.mem_of_getElem? (i := 1) rfl)) (fun _ h9 => h9) rfl (by decide +kernel) rfl rfl (Nat.le_of_ble_eq_true rfl) dX6_goTo_99 (fun H locs hP hD hS => ?_)
            have hV : kV G (kM G h ad rf ((pL S p i) + 1) (clampW ((pW S p i : Int) + S.2.1 (pL S p i))) S ++ wr) H := ⟨hP, hD⟩
            refine lv_iload_n hx hb dX6_goTo_102 rfl (lv_at hl 0 rfl) ?_
            refine kn_if_ne (tgt := 118) hx hb (by omega) dX6_goTo_103 (by decide) (fun z => absurd c90 (by omega)) (fun c103 => ?_)
            refine lv_aload_n hx hb dX6_goTo_106 rfl (lv_at hl 2 rfl) ?_
            have h7 : k + 1 < S.1 5 p := Nat.lt_of_not_le (fun q => by
                  have q2 : k + 1 = S.1 5 p := by omega
                  rw [q2] at e4
                  have e5 : i + (pG S p i).2.1 = pRows S p := e4
                  omega)
            refine va_get (D := kD G) (ci := 7) (v := .ref (ad 9)) (C := RX6) (T := TX6) (N := 26) hx hb hts hinX6 hown hK hV.1 0 rfl rfl 9 (by decide) (hts (Cond.fieldLink RX6 31 "YarncourtModel" "times" "[I") (List.mem_of_getElem? (i := 4) rfl)) (fun _ h9 => h9) rfl dX6_goTo_107 ?_
            refine lv_aload_n hx hb dX6_goTo_110 rfl (lv_at hl 2 rfl) ?_
            refine va_get (D := kD G) (ci := 7) (v := .int (nI ((pL S p i) + 1))) (C := RX6) (T := TX6) (N := 26) hx hb hts hinX6 hown hK hV.1 0 rfl rfl 24 (by decide) (hts (Cond.fieldLink RX6 114 "YarncourtModel" "rowLine" "I") (List.mem_of_getElem? (i := 1) rfl)) (fun _ h9 => h9) rfl dX6_goTo_111 ?_
            refine kn_iald (G := G) (n := 96) (g := S.1 9) (j := (pL S p i) + 1) hx hb hK hV 8 rfl (by omega) (by decide) dX6_goTo_114 ?_
            refine lv_goto (tgt := 119) hx hb dX6_goTo_115 (by decide) ?_
            refine lv_istore_n (lv' := [(3, .int (nI (S.1 9 ((pL S p i) + 1)))), (5, .int (zI (((pW S p i) : Int) + (S.2.1 (pL S p i))))), (0, .ref (h)), (1, .int (nI (p))), (2, .int (nI (r))), (4, .int (nI (i)))]) hx hb dX6_goTo_119 rfl hl (by decide) rfl (fun ls hl => ?_)
            refine lv_iinc (lv' := [(4, .int (nI (i + 1))), (3, .int (nI (S.1 9 ((pL S p i) + 1)))), (5, .int (zI (((pW S p i) : Int) + (S.2.1 (pL S p i))))), (0, .ref (h)), (1, .int (nI (p))), (2, .int (nI (r)))]) hx hb dX6_goTo_120 hl (k := 5) rfl (kn_iinc i 1) (by decide) rfl (fun ls hl => ?_)
            refine lv_goto (tgt := 31) hx hb dX6_goTo_123 (by decide) ?_
            exact ih (i + 1) (by omega) (by omega) _ _ (by rw [pL_s1 (by omega), pW_s]; exact hV) hS ls (by rw [pl_s1 (by omega)]; exact lv_sub hl [3, 4, 5, 1, 0] rfl)
        refine lv_aload_n hx hb dX6_goTo_53 rfl (lv_at hl 1 rfl) ?_
        refine lv_iload hx hb dX6_goTo_54 (lv_at hl 0 rfl) ?_
        refine lv_iconst (v := nI 1) hx hb dX6_goTo_56 (by decide) ?_
        refine kz_ge (tgt := 64) hx hb (by omega) (by omega) dX6_goTo_57 (by decide) (fun c57 => ?_) (fun c57 => ?_)
        · refine lv_iload hx hb dX6_goTo_64 (lv_at hl 0 rfl) ?_
          refine lv_bipush (v := nI 40) hx hb dX6_goTo_66 (by decide) ?_
          refine kz_le (tgt := 76) hx hb (by omega) (by omega) dX6_goTo_68 (by decide) (fun c68 => ?_) (fun c68 => ?_)
          · refine lv_iload hx hb dX6_goTo_76 (lv_at hl 0 rfl) ?_
            refine W.eq (g2 := F0 m 78 ls [.int (nI (clampW ((pW S p i : Int) + S.2.1 (pL S p i)))), .ref h]) (by rw [clW_mid c57 c68]) ?_
            exact J78  _ _ hV hS ls (lv_sub hl [0, 1, 2, 3, 4, 5] rfl)
          · refine lv_bipush (v := nI 40) hx hb dX6_goTo_71 (by decide) ?_
            refine lv_goto (tgt := 78) hx hb dX6_goTo_73 (by decide) ?_
            refine W.eq (g2 := F0 m 78 ls [.int (nI (clampW ((pW S p i : Int) + S.2.1 (pL S p i)))), .ref h]) (by rw [clW_hi c57 c68]) ?_
            exact J78  _ _ hV hS ls (lv_sub hl [0, 1, 2, 3, 4, 5] rfl)
        · refine lv_iconst (v := nI 1) hx hb dX6_goTo_60 (by decide) ?_
          refine lv_goto (tgt := 78) hx hb dX6_goTo_61 (by decide) ?_
          refine W.eq (g2 := F0 m 78 ls [.int (nI (clampW ((pW S p i : Int) + S.2.1 (pL S p i)))), .ref h]) (by rw [clW_lo c57]) ?_
          exact J78  _ _ hV hS ls (lv_sub hl [0, 1, 2, 3, 4, 5] rfl)
  exact L31 ((r - 0) + 1) 0 (by omega) (Nat.lt_succ_self _) _ _ hV hS ls (lv_sub hl [2, 3, 4, 1, 0] rfl)
set_option maxHeartbeats 4000000 in
set_option maxRecDepth 100000 in
theorem c_X6_stitchAt (l : Launch) (G : kG) (h : Nat) (ad : Nat → Nat) (rf : Nat) (rl : Nat) (rw : Nat) (S : kS) (wr : va_W) (c : Nat) (hc : c < 2 ^ 31) (hl96 : rl < 96) (hk : S.1 6 rl ≤ 9) (hu : S.1 7 rl ≤ 9) (h1 : 1 ≤ S.1 6 rl + S.1 7 rl) (hw : rw ≤ 40) : Met l yX6_stitchAt wsX6_stitchAt ({ frames := 0, cells := 0, slots := 0, locals := 0 } : Room) (kPc G [.ref (h), .int (nI (c))] (kM G h ad rf rl rw S ++ wr)) (kQi G (S := Unit) (fun r _ => r = nI (stV (S.1 6 rl) (S.1 7 rl) rw c)) (fun _ => kM G h ad rf rl rw S ++ wr)) 0 0 (kA G) := by
  refine Met.ofW (cc := cX6_stitchAt) (maxL := 2) (ret := (some .int)) (by decide) rfl ?_
  intro pp ee s m args below meth cc0 s₁ B hml hv
  obtain ⟨rfl, hE, hV⟩ := hv
  have hK := hE.1
  have hx := B.exec
  have hb := B.bytes
  have hrt := B.returns
  have hts := atoms_spec (ws := wsX6_stitchAt) B.pre
  have hown : s.vm.findClass RX6 = some m.cls := findClass_of_methodNamed B.named
  have hlocks := B.notSynchronized
  have hF : CallFix pp m cc0 cX6_stitchAt 2 s _ wsX6_stitchAt RX6 := ⟨hx, hb, hml, hown, hts⟩
  have hinX6 : ∀ w ∈ wsX60, w ∈ wsX6_stitchAt := tb_of [5, 6, 7, 8, 9, 10, 11, 12, 13, 14, 15, 16, 17, 18, 19, 20, 21, 22, 23, 24, 25, 26, 27, 28, 29, 30] rfl
  have hS : va_S (kA G) s.heap s.heap [] := va_S.rf
  have hB0 := hE.2.1
  have hl := lv_entry ([.ref (h), .int (nI (c))]) (n := 2) (Nat.le_of_ble_eq_true rfl)
  rw [lg_entry_eq]
  generalize (lg_sl ([.ref (h), .int (nI (c))]) ++ List.replicate (2 - (lg_sl ([.ref (h), .int (nI (c))])).length) Slot.unset).toArray = ls at hl ⊢
  have hl : lv_has ls 2 [(0, .ref (h)), (1, .int (nI (c)))] := hl
  refine lv_iload_n hx hb dX6_stitchAt_0 rfl (lv_at hl 1 rfl) ?_
  refine lv_aload_n hx hb dX6_stitchAt_1 rfl (lv_at hl 0 rfl) ?_
  refine va_get (D := kD G) (ci := 7) (v := .int (nI (rw))) (C := RX6) (T := TX6) (N := 26) hx hb hts hinX6 hown hK hV.1 0 rfl rfl 25 (by decide) (hts (Cond.fieldLink RX6 117 "YarncourtModel" "rowWidth" "I") (List.mem_of_getElem? (i := 1) rfl)) (fun _ h9 => h9) rfl dX6_stitchAt_2 ?_
  refine kn_lt (tgt := 10) hx hb (by omega) (by omega) dX6_stitchAt_5 (by decide) (fun c5 => ?_) (fun c5 => ?_)
  · refine lv_iload_n hx hb dX6_stitchAt_10 rfl (lv_at hl 1 rfl) ?_
    refine lv_aload_n hx hb dX6_stitchAt_11 rfl (lv_at hl 0 rfl) ?_
    refine va_get (D := kD G) (ci := 7) (v := .ref (ad 6)) (C := RX6) (T := TX6) (N := 26) hx hb hts hinX6 hown hK hV.1 0 rfl rfl 6 (by decide) (hts (Cond.fieldLink RX6 22 "YarncourtModel" "knits" "[I") (List.mem_of_getElem? (i := 2) rfl)) (fun _ h9 => h9) rfl dX6_stitchAt_12 ?_
    refine lv_aload_n hx hb dX6_stitchAt_15 rfl (lv_at hl 0 rfl) ?_
    refine va_get (D := kD G) (ci := 7) (v := .int (nI (rl))) (C := RX6) (T := TX6) (N := 26) hx hb hts hinX6 hown hK hV.1 0 rfl rfl 24 (by decide) (hts (Cond.fieldLink RX6 114 "YarncourtModel" "rowLine" "I") (List.mem_of_getElem? (i := 3) rfl)) (fun _ h9 => h9) rfl dX6_stitchAt_16 ?_
    refine kn_iald (G := G) (n := 96) (g := S.1 6) (j := rl) hx hb hK hV 5 rfl (by omega) (by decide) dX6_stitchAt_19 ?_
    refine lv_aload_n hx hb dX6_stitchAt_20 rfl (lv_at hl 0 rfl) ?_
    refine va_get (D := kD G) (ci := 7) (v := .ref (ad 7)) (C := RX6) (T := TX6) (N := 26) hx hb hts hinX6 hown hK hV.1 0 rfl rfl 7 (by decide) (hts (Cond.fieldLink RX6 25 "YarncourtModel" "purls" "[I") (List.mem_of_getElem? (i := 4) rfl)) (fun _ h9 => h9) rfl dX6_stitchAt_21 ?_
    refine lv_aload_n hx hb dX6_stitchAt_24 rfl (lv_at hl 0 rfl) ?_
    refine va_get (D := kD G) (ci := 7) (v := .int (nI (rl))) (C := RX6) (T := TX6) (N := 26) hx hb hts hinX6 hown hK hV.1 0 rfl rfl 24 (by decide) (hts (Cond.fieldLink RX6 114 "YarncourtModel" "rowLine" "I") (List.mem_of_getElem? (i := 3) rfl)) (fun _ h9 => h9) rfl dX6_stitchAt_25 ?_
    refine kn_iald (G := G) (n := 96) (g := S.1 7) (j := rl) hx hb hK hV 6 rfl (by omega) (by decide) dX6_stitchAt_28 ?_
    refine kn_add hx hb dX6_stitchAt_29 ?_
    have hmod : c % (S.1 6 rl + S.1 7 rl) < S.1 6 rl + S.1 7 rl := Nat.mod_lt _ (by omega)
    refine kn_rem hx hb (by omega) (by omega) (by omega) dX6_stitchAt_30 ?_
    refine lv_aload_n hx hb dX6_stitchAt_31 rfl (lv_at hl 0 rfl) ?_
    refine va_get (D := kD G) (ci := 7) (v := .ref (ad 6)) (C := RX6) (T := TX6) (N := 26) hx hb hts hinX6 hown hK hV.1 0 rfl rfl 6 (by decide) (hts (Cond.fieldLink RX6 22 "YarncourtModel" "knits" "[I") (List.mem_of_getElem? (i := 2) rfl)) (fun _ h9 => h9) rfl dX6_stitchAt_32 ?_
    refine lv_aload_n hx hb dX6_stitchAt_35 rfl (lv_at hl 0 rfl) ?_
    refine va_get (D := kD G) (ci := 7) (v := .int (nI (rl))) (C := RX6) (T := TX6) (N := 26) hx hb hts hinX6 hown hK hV.1 0 rfl rfl 24 (by decide) (hts (Cond.fieldLink RX6 114 "YarncourtModel" "rowLine" "I") (List.mem_of_getElem? (i := 3) rfl)) (fun _ h9 => h9) rfl dX6_stitchAt_36 ?_
    refine kn_iald (G := G) (n := 96) (g := S.1 6) (j := rl) hx hb hK hV 5 rfl (by omega) (by decide) dX6_stitchAt_39 ?_
    refine kn_ge (tgt := 47) hx hb (by omega) (by omega) dX6_stitchAt_40 (by decide) (fun c40 => ?_) (fun c40 => ?_)
    · refine lv_iconst (v := nI 2) hx hb dX6_stitchAt_47 (by decide) ?_
      exact W.iret (v := nI 2) hx hb hrt (fun t ht hW => ⟨⟨_, (), rfl, by unfold stV; rw [if_neg (by omega), if_neg (by omega)], kV_eq ht hV⟩, hS.F ht⟩) hS.2.2 dX6_stitchAt_48
    · refine lv_iconst (v := nI 1) hx hb dX6_stitchAt_43 (by decide) ?_
      refine lv_goto (tgt := 48) hx hb dX6_stitchAt_44 (by decide) ?_
      exact W.iret (v := nI 1) hx hb hrt (fun t ht hW => ⟨⟨_, (), rfl, by unfold stV; rw [if_neg (by omega), if_pos c40], kV_eq ht hV⟩, hS.F ht⟩) hS.2.2 dX6_stitchAt_48
  · refine lv_iconst (v := nI 0) hx hb dX6_stitchAt_8 (by decide) ?_
    exact W.iret (v := nI 0) hx hb hrt (fun t ht hW => ⟨⟨_, (), rfl, by unfold stV; rw [if_pos c5], kV_eq ht hV⟩, hS.F ht⟩) hS.2.2 dX6_stitchAt_9
