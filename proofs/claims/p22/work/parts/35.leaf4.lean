set_option maxHeartbeats 4000000 in
set_option maxRecDepth 100000 in
theorem c_X3_init (l : Launch) (G : kG) (hp : Nat) (w : Nat) (wr : va_W) : Met l yX3_init wsX3_init ({ frames := 1, cells := 4, slots := 24, locals := 20 } : Room) (kPc G [.ref (hp), .int (nI (w))] ([(hp, .inr (4, [.int (nI (0)), .null, .null, .null, .null, .int (nI (0))]))] ++ wr)) (kQv G (S := Nat → Nat) (fun _ => True) (fun uu => [(hp, .inr (4, [.int (nI (w)), .ref (uu 0), .ref (uu 1), .ref (uu 2), .ref (uu 3), .int (nI (0))])), (uu 0, aN (kcI G) 6 ((fun _ => 0))), (uu 1, aN (kcI G) 6 ((fun _ => 0))), (uu 2, aZ (kcI G) 6 ((fun _ => 0))), (uu 3, aN (kcI G) 6 ((fun _ => 0)))] ++ wr)) 4 24 (kA G) := by
  refine Met.ofW (cc := cX3_init) (maxL := 2) (ret := none) (by decide) rfl ?_
  intro pp ee s m args below meth cc0 s₁ Bd0 hml hv
  obtain ⟨rfl, hE, hV⟩ := hv
  have hK := hE.1
  have hx := Bd0.exec
  have hb := Bd0.bytes
  have hrt := Bd0.returns
  have hts := atoms_spec (ws := wsX3_init) Bd0.pre
  have hown : s.vm.findClass RX3 = some m.cls := findClass_of_methodNamed Bd0.named
  have hlocks := Bd0.notSynchronized
  have hin0 : meth.name = "<init>" := (name_of_methodNamed Bd0.named Bd0.method).1
  have hF : CallFix pp m cc0 cX3_init 2 s _ wsX3_init RX3 := ⟨hx, hb, hml, hown, hts⟩
  have hinX3 : ∀ w ∈ wsX30, w ∈ wsX3_init := tb_of [11, 12, 13, 14, 15, 16] rfl
  have hS : va_S (kA G) s.heap s.heap [] := va_S.rf
  have hB0 := hE.2.1
  have hl := lv_entry ([.ref (hp), .int (nI (w))]) (n := 2) (Nat.le_of_ble_eq_true rfl)
  rw [lg_entry_eq]
  generalize (lg_sl ([.ref (hp), .int (nI (w))]) ++ List.replicate (2 - (lg_sl ([.ref (hp), .int (nI (w))])).length) Slot.unset).toArray = ls at hl ⊢
  have hl : lv_has ls 2 [(0, .ref (hp)), (1, .int (nI (w)))] := hl
  refine lv_aload_n hx hb dX3_init_0 rfl (lv_at hl 0 rfl) ?_
  refine W.objInit hx hb hown (hts (Cond.methodLink RX3 3 objectInit) (List.mem_of_getElem? (i := 1) rfl)) (hts (Cond.instanceMethod objectInit) (List.mem_of_getElem? (i := 2) rfl)) (hts (Cond.code objectInit ⟨#[0xb1]⟩ 1 none) (List.mem_of_getElem? (i := 3) rfl)) rfl (by rw [hml]; exact hl.1) rfl dX3_init_1 (Nat.le_of_ble_eq_true rfl) (Nat.le_of_ble_eq_true rfl) ?_
  refine W.eq (g2 := F0 m 4 ls []) rfl ?_
  refine lv_aload_n hx hb dX3_init_4 rfl (lv_at hl 0 rfl) ?_
  refine lv_bipush (v := nI 6) hx hb dX3_init_5 (by decide) ?_
  refine kn_newI (G := G) (a := [(hp, .inr (4, [.int (nI (0)), .null, .null, .null, .null, .int (nI (0))]))]) (wr := wr) (n := 6) hx hb (hts (Cond.arrayClass .int) (List.mem_of_getElem? (i := 4) rfl)) hK hV hS hB0 (by decide) (Nat.le_of_ble_eq_true rfl) (Nat.le_of_ble_eq_true rfl) dX3_init_7 (fun q_1 H hV hS => ?_)
  have hV : kV G ([(hp, .inr (4, [.int (nI (0)), .null, .null, .null, .null, .int (nI (0))])), (q_1, aN (kcI G) 6 ((fun _ => 0)))] ++ wr) _ := hV
  refine va_putF (D := kD G) (ci := 4) (v := .ref (q_1)) (ty := (.array .int)) (C := RX3) (T := TX3) (N := 6) hx hb hts hinX3 tyX3 tyX3_ok nmX3 hown hK hV.1 hV.2 hS 0 rfl rfl 1 (by decide) (hts (Cond.fieldLink RX3 9 "Yarncourt$Program" "knits" "[I") (List.mem_of_getElem? (i := 5) rfl)) (fun _ h9 => h9) rfl hin0 rfl (by decide +kernel) rfl rfl (Nat.le_of_ble_eq_true rfl) dX3_init_9 (fun H locs hP hD hS => ?_)
  have hV : kV G ([(hp, .inr (4, [.int (nI (0)), .ref (q_1), .null, .null, .null, .int (nI (0))])), (q_1, aN (kcI G) 6 ((fun _ => 0)))] ++ wr) _ := ⟨hP, hD⟩
  refine lv_aload_n hx hb dX3_init_12 rfl (lv_at hl 0 rfl) ?_
  refine lv_bipush (v := nI 6) hx hb dX3_init_13 (by decide) ?_
  refine kn_newI (G := G) (a := [(hp, .inr (4, [.int (nI (0)), .ref (q_1), .null, .null, .null, .int (nI (0))])), (q_1, aN (kcI G) 6 ((fun _ => 0)))]) (wr := wr) (n := 6) hx hb (hts (Cond.arrayClass .int) (List.mem_of_getElem? (i := 4) rfl)) hK hV hS hB0 (by decide) (Nat.le_of_ble_eq_true rfl) (Nat.le_of_ble_eq_true rfl) dX3_init_15 (fun q_2 H hV hS => ?_)
  have hV : kV G ([(hp, .inr (4, [.int (nI (0)), .ref (q_1), .null, .null, .null, .int (nI (0))])), (q_1, aN (kcI G) 6 ((fun _ => 0))), (q_2, aN (kcI G) 6 ((fun _ => 0)))] ++ wr) _ := hV
  refine va_putF (D := kD G) (ci := 4) (v := .ref (q_2)) (ty := (.array .int)) (C := RX3) (T := TX3) (N := 6) hx hb hts hinX3 tyX3 tyX3_ok nmX3 hown hK hV.1 hV.2 hS 0 rfl rfl 2 (by decide) (hts (Cond.fieldLink RX3 15 "Yarncourt$Program" "purls" "[I") (List.mem_of_getElem? (i := 6) rfl)) (fun _ h9 => h9) rfl hin0 rfl (by decide +kernel) rfl rfl (Nat.le_of_ble_eq_true rfl) dX3_init_17 (fun H locs hP hD hS => ?_)
  have hV : kV G ([(hp, .inr (4, [.int (nI (0)), .ref (q_1), .ref (q_2), .null, .null, .int (nI (0))])), (q_1, aN (kcI G) 6 ((fun _ => 0))), (q_2, aN (kcI G) 6 ((fun _ => 0)))] ++ wr) _ := ⟨hP, hD⟩
  refine lv_aload_n hx hb dX3_init_20 rfl (lv_at hl 0 rfl) ?_
  refine lv_bipush (v := nI 6) hx hb dX3_init_21 (by decide) ?_
  refine kn_newI (G := G) (a := [(hp, .inr (4, [.int (nI (0)), .ref (q_1), .ref (q_2), .null, .null, .int (nI (0))])), (q_1, aN (kcI G) 6 ((fun _ => 0))), (q_2, aN (kcI G) 6 ((fun _ => 0)))]) (wr := wr) (n := 6) hx hb (hts (Cond.arrayClass .int) (List.mem_of_getElem? (i := 4) rfl)) hK hV hS hB0 (by decide) (Nat.le_of_ble_eq_true rfl) (Nat.le_of_ble_eq_true rfl) dX3_init_23 (fun q_3 H hV hS => ?_)
  have hV : kV G ([(hp, .inr (4, [.int (nI (0)), .ref (q_1), .ref (q_2), .null, .null, .int (nI (0))])), (q_1, aN (kcI G) 6 ((fun _ => 0))), (q_2, aN (kcI G) 6 ((fun _ => 0))), (q_3, aZ (kcI G) 6 ((fun _ => 0)))] ++ wr) _ := hV
  refine va_putF (D := kD G) (ci := 4) (v := .ref (q_3)) (ty := (.array .int)) (C := RX3) (T := TX3) (N := 6) hx hb hts hinX3 tyX3 tyX3_ok nmX3 hown hK hV.1 hV.2 hS 0 rfl rfl 3 (by decide) (hts (Cond.fieldLink RX3 18 "Yarncourt$Program" "shaping" "[I") (List.mem_of_getElem? (i := 7) rfl)) (fun _ h9 => h9) rfl hin0 rfl (by decide +kernel) rfl rfl (Nat.le_of_ble_eq_true rfl) dX3_init_25 (fun H locs hP hD hS => ?_)
  have hV : kV G ([(hp, .inr (4, [.int (nI (0)), .ref (q_1), .ref (q_2), .ref (q_3), .null, .int (nI (0))])), (q_1, aN (kcI G) 6 ((fun _ => 0))), (q_2, aN (kcI G) 6 ((fun _ => 0))), (q_3, aZ (kcI G) 6 ((fun _ => 0)))] ++ wr) _ := ⟨hP, hD⟩
  refine lv_aload_n hx hb dX3_init_28 rfl (lv_at hl 0 rfl) ?_
  refine lv_bipush (v := nI 6) hx hb dX3_init_29 (by decide) ?_
  refine kn_newI (G := G) (a := [(hp, .inr (4, [.int (nI (0)), .ref (q_1), .ref (q_2), .ref (q_3), .null, .int (nI (0))])), (q_1, aN (kcI G) 6 ((fun _ => 0))), (q_2, aN (kcI G) 6 ((fun _ => 0))), (q_3, aZ (kcI G) 6 ((fun _ => 0)))]) (wr := wr) (n := 6) hx hb (hts (Cond.arrayClass .int) (List.mem_of_getElem? (i := 4) rfl)) hK hV hS hB0 (by decide) (Nat.le_of_ble_eq_true rfl) (Nat.le_of_ble_eq_true rfl) dX3_init_31 (fun q_4 H hV hS => ?_)
  have hV : kV G ([(hp, .inr (4, [.int (nI (0)), .ref (q_1), .ref (q_2), .ref (q_3), .null, .int (nI (0))])), (q_1, aN (kcI G) 6 ((fun _ => 0))), (q_2, aN (kcI G) 6 ((fun _ => 0))), (q_3, aZ (kcI G) 6 ((fun _ => 0))), (q_4, aN (kcI G) 6 ((fun _ => 0)))] ++ wr) _ := hV
  refine va_putF (D := kD G) (ci := 4) (v := .ref (q_4)) (ty := (.array .int)) (C := RX3) (T := TX3) (N := 6) hx hb hts hinX3 tyX3 tyX3_ok nmX3 hown hK hV.1 hV.2 hS 0 rfl rfl 4 (by decide) (hts (Cond.fieldLink RX3 21 "Yarncourt$Program" "times" "[I") (List.mem_of_getElem? (i := 8) rfl)) (fun _ h9 => h9) rfl hin0 rfl (by decide +kernel) rfl rfl (Nat.le_of_ble_eq_true rfl) dX3_init_33 (fun H locs hP hD hS => ?_)
  have hV : kV G ([(hp, .inr (4, [.int (nI (0)), .ref (q_1), .ref (q_2), .ref (q_3), .ref (q_4), .int (nI (0))])), (q_1, aN (kcI G) 6 ((fun _ => 0))), (q_2, aN (kcI G) 6 ((fun _ => 0))), (q_3, aZ (kcI G) 6 ((fun _ => 0))), (q_4, aN (kcI G) 6 ((fun _ => 0)))] ++ wr) _ := ⟨hP, hD⟩
  refine lv_aload_n hx hb dX3_init_36 rfl (lv_at hl 0 rfl) ?_
  refine lv_iconst (v := nI 0) hx hb dX3_init_37 (by decide) ?_
  refine va_put (D := kD G) (ci := 4) (v := .int (nI (0))) (ty := .int) (C := RX3) (T := TX3) (N := 6) hx hb hts hinX3 tyX3 tyX3_ok nmX3 hown hK hV.1 hV.2 hS 0 rfl rfl 5 (by decide) (hts (Cond.fieldLink RX3 24 "Yarncourt$Program" "lineCount" "I") (List.mem_of_getElem? (i := 9) rfl)) (fun _ h9 => h9) rfl (by decide +kernel) rfl rfl (Nat.le_of_ble_eq_true rfl) dX3_init_38 (fun H locs hP hD hS => ?_)
  have hV : kV G ([(hp, .inr (4, [.int (nI (0)), .ref (q_1), .ref (q_2), .ref (q_3), .ref (q_4), .int (nI (0))])), (q_1, aN (kcI G) 6 ((fun _ => 0))), (q_2, aN (kcI G) 6 ((fun _ => 0))), (q_3, aZ (kcI G) 6 ((fun _ => 0))), (q_4, aN (kcI G) 6 ((fun _ => 0)))] ++ wr) _ := ⟨hP, hD⟩
  refine lv_aload_n hx hb dX3_init_41 rfl (lv_at hl 0 rfl) ?_
  refine lv_iload_n hx hb dX3_init_42 rfl (lv_at hl 1 rfl) ?_
  refine va_putF (D := kD G) (ci := 4) (v := .int (nI (w))) (ty := .int) (C := RX3) (T := TX3) (N := 6) hx hb hts hinX3 tyX3 tyX3_ok nmX3 hown hK hV.1 hV.2 hS 0 rfl rfl 0 (by decide) (hts (Cond.fieldLink RX3 28 "Yarncourt$Program" "firstWidth" "I") (List.mem_of_getElem? (i := 10) rfl)) (fun _ h9 => h9) rfl hin0 rfl (by decide +kernel) rfl rfl (Nat.le_of_ble_eq_true rfl) dX3_init_43 (fun H locs hP hD hS => ?_)
  have hV : kV G ([(hp, .inr (4, [.int (nI (w)), .ref (q_1), .ref (q_2), .ref (q_3), .ref (q_4), .int (nI (0))])), (q_1, aN (kcI G) 6 ((fun _ => 0))), (q_2, aN (kcI G) 6 ((fun _ => 0))), (q_3, aZ (kcI G) 6 ((fun _ => 0))), (q_4, aN (kcI G) 6 ((fun _ => 0)))] ++ wr) _ := ⟨hP, hD⟩
  exact W.vret hx hb hrt (fun t ht hW => ⟨⟨kad [q_1, q_2, q_3, q_4], rfl, trivial, kV_eq ht hV⟩, hS.F ht⟩) hS.2.2 dX3_init_46
set_option maxHeartbeats 4000000 in
set_option maxRecDepth 100000 in
theorem c_X0_init (l : Launch) (G : kG) (hc : Nat) (w : Nat) (wr : va_W) : Met l yX0_init wsX0_init ({ frames := 1, cells := 2, slots := 1640, locals := 20 } : Room) (kPc G [.ref (hc), .int (nI (w))] ([(hc, .inr (1, [.int (nI (0)), .null, .null, .int (nI (0))]))] ++ wr)) (kQv G (S := Nat → Nat) (fun _ => True) (fun uu => [(hc, .inr (1, [.int (nI (0)), .ref (uu 0), .ref (uu 1), .int (nI (w))])), (uu 0, aN (kcI G) 1600 ((fun _ => 0))), (uu 1, aN (kcI G) 40 ((fun _ => 0)))] ++ wr)) 2 1640 (kA G) := by
  refine Met.ofW (cc := cX0_init) (maxL := 2) (ret := none) (by decide) rfl ?_
  intro pp ee s m args below meth cc0 s₁ Bd0 hml hv
  obtain ⟨rfl, hE, hV⟩ := hv
  have hK := hE.1
  have hx := Bd0.exec
  have hb := Bd0.bytes
  have hrt := Bd0.returns
  have hts := atoms_spec (ws := wsX0_init) Bd0.pre
  have hown : s.vm.findClass RX0 = some m.cls := findClass_of_methodNamed Bd0.named
  have hlocks := Bd0.notSynchronized
  have hin0 : meth.name = "<init>" := (name_of_methodNamed Bd0.named Bd0.method).1
  have hF : CallFix pp m cc0 cX0_init 2 s _ wsX0_init RX0 := ⟨hx, hb, hml, hown, hts⟩
  have hinX0 : ∀ w ∈ wsX00, w ∈ wsX0_init := tb_of [9, 10, 11, 12] rfl
  have hS : va_S (kA G) s.heap s.heap [] := va_S.rf
  have hB0 := hE.2.1
  have hl := lv_entry ([.ref (hc), .int (nI (w))]) (n := 2) (Nat.le_of_ble_eq_true rfl)
  rw [lg_entry_eq]
  generalize (lg_sl ([.ref (hc), .int (nI (w))]) ++ List.replicate (2 - (lg_sl ([.ref (hc), .int (nI (w))])).length) Slot.unset).toArray = ls at hl ⊢
  have hl : lv_has ls 2 [(0, .ref (hc)), (1, .int (nI (w)))] := hl
  refine lv_aload_n hx hb dX0_init_0 rfl (lv_at hl 0 rfl) ?_
  refine W.objInit hx hb hown (hts (Cond.methodLink RX0 3 objectInit) (List.mem_of_getElem? (i := 1) rfl)) (hts (Cond.instanceMethod objectInit) (List.mem_of_getElem? (i := 2) rfl)) (hts (Cond.code objectInit ⟨#[0xb1]⟩ 1 none) (List.mem_of_getElem? (i := 3) rfl)) rfl (by rw [hml]; exact hl.1) rfl dX0_init_1 (Nat.le_of_ble_eq_true rfl) (Nat.le_of_ble_eq_true rfl) ?_
  refine W.eq (g2 := F0 m 4 ls []) rfl ?_
  refine lv_aload_n hx hb dX0_init_4 rfl (lv_at hl 0 rfl) ?_
  refine lv_iconst (v := nI 0) hx hb dX0_init_5 (by decide) ?_
  refine va_put (D := kD G) (ci := 1) (v := .int (nI (0))) (ty := .int) (C := RX0) (T := TX0) (N := 4) hx hb hts hinX0 tyX0 tyX0_ok nmX0 hown hK hV.1 hV.2 hS 0 rfl rfl 0 (by decide) (hts (Cond.fieldLink RX0 9 "Yarncourt$Chart" "rowCount" "I") (List.mem_of_getElem? (i := 4) rfl)) (fun _ h9 => h9) rfl (by decide +kernel) rfl rfl (Nat.le_of_ble_eq_true rfl) dX0_init_6 (fun H locs hP hD hS => ?_)
  have hV : kV G ([(hc, .inr (1, [.int (nI (0)), .null, .null, .int (nI (0))]))] ++ wr) _ := ⟨hP, hD⟩
  refine lv_aload_n hx hb dX0_init_9 rfl (lv_at hl 0 rfl) ?_
  refine lv_sipush (v := nI 1600) hx hb dX0_init_10 (by decide) ?_
  refine kn_newI (G := G) (a := [(hc, .inr (1, [.int (nI (0)), .null, .null, .int (nI (0))]))]) (wr := wr) (n := 1600) hx hb (hts (Cond.arrayClass .int) (List.mem_of_getElem? (i := 5) rfl)) hK hV hS hB0 (by decide) (Nat.le_of_ble_eq_true rfl) (Nat.le_of_ble_eq_true rfl) dX0_init_13 (fun q_1 H hV hS => ?_)
  have hV : kV G ([(hc, .inr (1, [.int (nI (0)), .null, .null, .int (nI (0))])), (q_1, aN (kcI G) 1600 ((fun _ => 0)))] ++ wr) _ := hV
  refine va_putF (D := kD G) (ci := 1) (v := .ref (q_1)) (ty := (.array .int)) (C := RX0) (T := TX0) (N := 4) hx hb hts hinX0 tyX0 tyX0_ok nmX0 hown hK hV.1 hV.2 hS 0 rfl rfl 1 (by decide) (hts (Cond.fieldLink RX0 15 "Yarncourt$Chart" "stitches" "[I") (List.mem_of_getElem? (i := 6) rfl)) (fun _ h9 => h9) rfl hin0 rfl (by decide +kernel) rfl rfl (Nat.le_of_ble_eq_true rfl) dX0_init_15 (fun H locs hP hD hS => ?_)
  have hV : kV G ([(hc, .inr (1, [.int (nI (0)), .ref (q_1), .null, .int (nI (0))])), (q_1, aN (kcI G) 1600 ((fun _ => 0)))] ++ wr) _ := ⟨hP, hD⟩
  refine lv_aload_n hx hb dX0_init_18 rfl (lv_at hl 0 rfl) ?_
  refine lv_bipush (v := nI 40) hx hb dX0_init_19 (by decide) ?_
  refine kn_newI (G := G) (a := [(hc, .inr (1, [.int (nI (0)), .ref (q_1), .null, .int (nI (0))])), (q_1, aN (kcI G) 1600 ((fun _ => 0)))]) (wr := wr) (n := 40) hx hb (hts (Cond.arrayClass .int) (List.mem_of_getElem? (i := 5) rfl)) hK hV hS hB0 (by decide) (Nat.le_of_ble_eq_true rfl) (Nat.le_of_ble_eq_true rfl) dX0_init_21 (fun q_2 H hV hS => ?_)
  have hV : kV G ([(hc, .inr (1, [.int (nI (0)), .ref (q_1), .null, .int (nI (0))])), (q_1, aN (kcI G) 1600 ((fun _ => 0))), (q_2, aN (kcI G) 40 ((fun _ => 0)))] ++ wr) _ := hV
  refine va_putF (D := kD G) (ci := 1) (v := .ref (q_2)) (ty := (.array .int)) (C := RX0) (T := TX0) (N := 4) hx hb hts hinX0 tyX0 tyX0_ok nmX0 hown hK hV.1 hV.2 hS 0 rfl rfl 2 (by decide) (hts (Cond.fieldLink RX0 19 "Yarncourt$Chart" "yarnOfRow" "[I") (List.mem_of_getElem? (i := 7) rfl)) (fun _ h9 => h9) rfl hin0 rfl (by decide +kernel) rfl rfl (Nat.le_of_ble_eq_true rfl) dX0_init_23 (fun H locs hP hD hS => ?_)
  have hV : kV G ([(hc, .inr (1, [.int (nI (0)), .ref (q_1), .ref (q_2), .int (nI (0))])), (q_1, aN (kcI G) 1600 ((fun _ => 0))), (q_2, aN (kcI G) 40 ((fun _ => 0)))] ++ wr) _ := ⟨hP, hD⟩
  refine lv_aload_n hx hb dX0_init_26 rfl (lv_at hl 0 rfl) ?_
  refine lv_iload_n hx hb dX0_init_27 rfl (lv_at hl 1 rfl) ?_
  refine va_put (D := kD G) (ci := 1) (v := .int (nI (w))) (ty := .int) (C := RX0) (T := TX0) (N := 4) hx hb hts hinX0 tyX0 tyX0_ok nmX0 hown hK hV.1 hV.2 hS 0 rfl rfl 3 (by decide) (hts (Cond.fieldLink RX0 22 "Yarncourt$Chart" "nextWidth" "I") (List.mem_of_getElem? (i := 8) rfl)) (fun _ h9 => h9) rfl (by decide +kernel) rfl rfl (Nat.le_of_ble_eq_true rfl) dX0_init_28 (fun H locs hP hD hS => ?_)
  have hV : kV G ([(hc, .inr (1, [.int (nI (0)), .ref (q_1), .ref (q_2), .int (nI (w))])), (q_1, aN (kcI G) 1600 ((fun _ => 0))), (q_2, aN (kcI G) 40 ((fun _ => 0)))] ++ wr) _ := ⟨hP, hD⟩
  exact W.vret hx hb hrt (fun t ht hW => ⟨⟨kad [q_1, q_2], rfl, trivial, kV_eq ht hV⟩, hS.F ht⟩) hS.2.2 dX0_init_31
set_option maxHeartbeats 4000000 in
set_option maxRecDepth 100000 in
theorem c_X1_init (l : Launch) (G : kG) (h : Nat) (num : Nat) (pe : Nat) (ga : Nat) (ya : Nat) (wr : va_W) : Met l yX1_init wsX1_init ({ frames := 1, cells := 0, slots := 0, locals := 20 } : Room) (kPc G [.ref (h), .int (nI (num)), .int (nI (pe)), .int (nI (ga)), .int (nI (ya))] ([(h, .inr (2, [.int (nI (0)), .int (nI (0)), .int (nI (0)), .int (nI (0))]))] ++ wr)) (kQv G (S := Unit) (fun _ => True) (fun _ => [(h, .inr (2, [.int (nI (num)), .int (nI (ga)), .int (nI (pe)), .int (nI (ya))]))] ++ wr)) 0 0 (kA G) := by
  refine Met.ofW (cc := cX1_init) (maxL := 5) (ret := none) (by decide) rfl ?_
  intro pp ee s m args below meth cc0 s₁ Bd0 hml hv
  obtain ⟨rfl, hE, hV⟩ := hv
  have hK := hE.1
  have hx := Bd0.exec
  have hb := Bd0.bytes
  have hrt := Bd0.returns
  have hts := atoms_spec (ws := wsX1_init) Bd0.pre
  have hown : s.vm.findClass RX1 = some m.cls := findClass_of_methodNamed Bd0.named
  have hlocks := Bd0.notSynchronized
  have hin0 : meth.name = "<init>" := (name_of_methodNamed Bd0.named Bd0.method).1
  have hF : CallFix pp m cc0 cX1_init 5 s _ wsX1_init RX1 := ⟨hx, hb, hml, hown, hts⟩
  have hinX1 : ∀ w ∈ wsX10, w ∈ wsX1_init := tb_of [8, 9, 10, 11] rfl
  have hS : va_S (kA G) s.heap s.heap [] := va_S.rf
  have hB0 := hE.2.1
  have hl := lv_entry ([.ref (h), .int (nI (num)), .int (nI (pe)), .int (nI (ga)), .int (nI (ya))]) (n := 5) (Nat.le_of_ble_eq_true rfl)
  rw [lg_entry_eq]
  generalize (lg_sl ([.ref (h), .int (nI (num)), .int (nI (pe)), .int (nI (ga)), .int (nI (ya))]) ++ List.replicate (5 - (lg_sl ([.ref (h), .int (nI (num)), .int (nI (pe)), .int (nI (ga)), .int (nI (ya))])).length) Slot.unset).toArray = ls at hl ⊢
  have hl : lv_has ls 5 [(0, .ref (h)), (1, .int (nI (num))), (2, .int (nI (pe))), (3, .int (nI (ga))), (4, .int (nI (ya)))] := hl
  refine lv_aload_n hx hb dX1_init_0 rfl (lv_at hl 0 rfl) ?_
  refine W.objInit hx hb hown (hts (Cond.methodLink RX1 1 objectInit) (List.mem_of_getElem? (i := 1) rfl)) (hts (Cond.instanceMethod objectInit) (List.mem_of_getElem? (i := 2) rfl)) (hts (Cond.code objectInit ⟨#[0xb1]⟩ 1 none) (List.mem_of_getElem? (i := 3) rfl)) rfl (by rw [hml]; exact hl.1) rfl dX1_init_1 (Nat.le_of_ble_eq_true rfl) (Nat.le_of_ble_eq_true rfl) ?_
  refine W.eq (g2 := F0 m 4 ls []) rfl ?_
  refine lv_aload_n hx hb dX1_init_4 rfl (lv_at hl 0 rfl) ?_
  refine lv_iload_n hx hb dX1_init_5 rfl (lv_at hl 1 rfl) ?_
  refine va_putF (D := kD G) (ci := 2) (v := .int (nI (num))) (ty := .int) (C := RX1) (T := TX1) (N := 4) hx hb hts hinX1 tyX1 tyX1_ok nmX1 hown hK hV.1 hV.2 hS 0 rfl rfl 0 (by decide) (hts (Cond.fieldLink RX1 7 "Yarncourt$Lot" "number" "I") (List.mem_of_getElem? (i := 4) rfl)) (fun _ h9 => h9) rfl hin0 rfl (by decide +kernel) rfl rfl (Nat.le_of_ble_eq_true rfl) dX1_init_6 (fun H locs hP hD hS => ?_)
  have hV : kV G ([(h, .inr (2, [.int (nI (num)), .int (nI (0)), .int (nI (0)), .int (nI (0))]))] ++ wr) _ := ⟨hP, hD⟩
  refine lv_aload_n hx hb dX1_init_9 rfl (lv_at hl 0 rfl) ?_
  refine lv_iload_n hx hb dX1_init_10 rfl (lv_at hl 3 rfl) ?_
  refine va_putF (D := kD G) (ci := 2) (v := .int (nI (ga))) (ty := .int) (C := RX1) (T := TX1) (N := 4) hx hb hts hinX1 tyX1 tyX1_ok nmX1 hown hK hV.1 hV.2 hS 0 rfl rfl 1 (by decide) (hts (Cond.fieldLink RX1 13 "Yarncourt$Lot" "gauge" "I") (List.mem_of_getElem? (i := 5) rfl)) (fun _ h9 => h9) rfl hin0 rfl (by decide +kernel) rfl rfl (Nat.le_of_ble_eq_true rfl) dX1_init_11 (fun H locs hP hD hS => ?_)
  have hV : kV G ([(h, .inr (2, [.int (nI (num)), .int (nI (ga)), .int (nI (0)), .int (nI (0))]))] ++ wr) _ := ⟨hP, hD⟩
  refine lv_aload_n hx hb dX1_init_14 rfl (lv_at hl 0 rfl) ?_
  refine lv_iload_n hx hb dX1_init_15 rfl (lv_at hl 2 rfl) ?_
  refine va_put (D := kD G) (ci := 2) (v := .int (nI (pe))) (ty := .int) (C := RX1) (T := TX1) (N := 4) hx hb hts hinX1 tyX1 tyX1_ok nmX1 hown hK hV.1 hV.2 hS 0 rfl rfl 2 (by decide) (hts (Cond.fieldLink RX1 16 "Yarncourt$Lot" "person" "I") (List.mem_of_getElem? (i := 6) rfl)) (fun _ h9 => h9) rfl (by decide +kernel) rfl rfl (Nat.le_of_ble_eq_true rfl) dX1_init_16 (fun H locs hP hD hS => ?_)
  have hV : kV G ([(h, .inr (2, [.int (nI (num)), .int (nI (ga)), .int (nI (pe)), .int (nI (0))]))] ++ wr) _ := ⟨hP, hD⟩
  refine lv_aload_n hx hb dX1_init_19 rfl (lv_at hl 0 rfl) ?_
  refine lv_iload hx hb dX1_init_20 (lv_at hl 4 rfl) ?_
  refine va_put (D := kD G) (ci := 2) (v := .int (nI (ya))) (ty := .int) (C := RX1) (T := TX1) (N := 4) hx hb hts hinX1 tyX1 tyX1_ok nmX1 hown hK hV.1 hV.2 hS 0 rfl rfl 3 (by decide) (hts (Cond.fieldLink RX1 19 "Yarncourt$Lot" "yarn" "I") (List.mem_of_getElem? (i := 7) rfl)) (fun _ h9 => h9) rfl (by decide +kernel) rfl rfl (Nat.le_of_ble_eq_true rfl) dX1_init_22 (fun H locs hP hD hS => ?_)
  have hV : kV G ([(h, .inr (2, [.int (nI (num)), .int (nI (ga)), .int (nI (pe)), .int (nI (ya))]))] ++ wr) _ := ⟨hP, hD⟩
  exact W.vret hx hb hrt (fun t ht hW => ⟨⟨(), rfl, trivial, kV_eq ht hV⟩, hS.F ht⟩) hS.2.2 dX1_init_25
set_option maxHeartbeats 4000000 in
set_option maxRecDepth 100000 in
theorem c_X4_init (l : Launch) (G : kG) (h : Nat) (pe : Nat) (pa : Nat) (al : Nat) (wr : va_W) : Met l yX4_init wsX4_init ({ frames := 1, cells := 0, slots := 0, locals := 20 } : Room) (kPc G [.ref (h), .int (nI (pe)), .ref (pa), .ref (al)] ([(h, .inr (5, [.int (nI (0)), .null, .null, .int (nI (0))]))] ++ wr)) (kQv G (S := Unit) (fun _ => True) (fun _ => [(h, .inr (5, [.int (nI (pe)), .ref (pa), .ref (al), .int (nI (0))]))] ++ wr)) 0 0 (kA G) := by
  refine Met.ofW (cc := cX4_init) (maxL := 4) (ret := none) (by decide) rfl ?_
  intro pp ee s m args below meth cc0 s₁ Bd0 hml hv
  obtain ⟨rfl, hE, hV⟩ := hv
  have hK := hE.1
  have hx := Bd0.exec
  have hb := Bd0.bytes
  have hrt := Bd0.returns
  have hts := atoms_spec (ws := wsX4_init) Bd0.pre
  have hown : s.vm.findClass RX4 = some m.cls := findClass_of_methodNamed Bd0.named
  have hlocks := Bd0.notSynchronized
  have hin0 : meth.name = "<init>" := (name_of_methodNamed Bd0.named Bd0.method).1
  have hF : CallFix pp m cc0 cX4_init 4 s _ wsX4_init RX4 := ⟨hx, hb, hml, hown, hts⟩
  have hinX4 : ∀ w ∈ wsX40, w ∈ wsX4_init := tb_of [8, 9, 10, 11] rfl
  have hS : va_S (kA G) s.heap s.heap [] := va_S.rf
  have hB0 := hE.2.1
  have hl := lv_entry ([.ref (h), .int (nI (pe)), .ref (pa), .ref (al)]) (n := 4) (Nat.le_of_ble_eq_true rfl)
  rw [lg_entry_eq]
  generalize (lg_sl ([.ref (h), .int (nI (pe)), .ref (pa), .ref (al)]) ++ List.replicate (4 - (lg_sl ([.ref (h), .int (nI (pe)), .ref (pa), .ref (al)])).length) Slot.unset).toArray = ls at hl ⊢
  have hl : lv_has ls 4 [(0, .ref (h)), (1, .int (nI (pe))), (2, .ref (pa)), (3, .ref (al))] := hl
  refine lv_aload_n hx hb dX4_init_0 rfl (lv_at hl 0 rfl) ?_
  refine W.objInit hx hb hown (hts (Cond.methodLink RX4 1 objectInit) (List.mem_of_getElem? (i := 1) rfl)) (hts (Cond.instanceMethod objectInit) (List.mem_of_getElem? (i := 2) rfl)) (hts (Cond.code objectInit ⟨#[0xb1]⟩ 1 none) (List.mem_of_getElem? (i := 3) rfl)) rfl (by rw [hml]; exact hl.1) rfl dX4_init_1 (Nat.le_of_ble_eq_true rfl) (Nat.le_of_ble_eq_true rfl) ?_
  refine W.eq (g2 := F0 m 4 ls []) rfl ?_
  refine lv_aload_n hx hb dX4_init_4 rfl (lv_at hl 0 rfl) ?_
  refine lv_iconst (v := nI 0) hx hb dX4_init_5 (by decide) ?_
  refine va_put (D := kD G) (ci := 5) (v := .int (nI (0))) (ty := .int) (C := RX4) (T := TX4) (N := 4) hx hb hts hinX4 tyX4 tyX4_ok nmX4 hown hK hV.1 hV.2 hS 0 rfl rfl 3 (by decide) (hts (Cond.fieldLink RX4 7 "Yarncourt$Project" "knitted" "I") (List.mem_of_getElem? (i := 4) rfl)) (fun _ h9 => h9) rfl (by decide +kernel) rfl rfl (Nat.le_of_ble_eq_true rfl) dX4_init_6 (fun H locs hP hD hS => ?_)
  have hV : kV G ([(h, .inr (5, [.int (nI (0)), .null, .null, .int (nI (0))]))] ++ wr) _ := ⟨hP, hD⟩
  refine lv_aload_n hx hb dX4_init_9 rfl (lv_at hl 0 rfl) ?_
  refine lv_iload_n hx hb dX4_init_10 rfl (lv_at hl 1 rfl) ?_
  refine va_putF (D := kD G) (ci := 5) (v := .int (nI (pe))) (ty := .int) (C := RX4) (T := TX4) (N := 4) hx hb hts hinX4 tyX4 tyX4_ok nmX4 hown hK hV.1 hV.2 hS 0 rfl rfl 0 (by decide) (hts (Cond.fieldLink RX4 13 "Yarncourt$Project" "person" "I") (List.mem_of_getElem? (i := 5) rfl)) (fun _ h9 => h9) rfl hin0 rfl (by decide +kernel) rfl rfl (Nat.le_of_ble_eq_true rfl) dX4_init_11 (fun H locs hP hD hS => ?_)
  have hV : kV G ([(h, .inr (5, [.int (nI (pe)), .null, .null, .int (nI (0))]))] ++ wr) _ := ⟨hP, hD⟩
  refine lv_aload_n hx hb dX4_init_14 rfl (lv_at hl 0 rfl) ?_
  refine lv_aload_n hx hb dX4_init_15 rfl (lv_at hl 2 rfl) ?_
  refine va_putF (D := kD G) (ci := 5) (v := .ref (pa)) (ty := (.object "Yarncourt$Pattern")) (C := RX4) (T := TX4) (N := 4) hx hb hts hinX4 tyX4 tyX4_ok nmX4 hown hK hV.1 hV.2 hS 0 rfl rfl 1 (by decide) (hts (Cond.fieldLink RX4 16 "Yarncourt$Project" "pattern" "LYarncourt$Pattern;") (List.mem_of_getElem? (i := 6) rfl)) (fun _ h9 => h9) rfl hin0 rfl (by decide +kernel) rfl rfl (Nat.le_of_ble_eq_true rfl) dX4_init_16 (fun H locs hP hD hS => ?_)
  have hV : kV G ([(h, .inr (5, [.int (nI (pe)), .ref (pa), .null, .int (nI (0))]))] ++ wr) _ := ⟨hP, hD⟩
  refine lv_aload_n hx hb dX4_init_19 rfl (lv_at hl 0 rfl) ?_
  refine lv_aload_n hx hb dX4_init_20 rfl (lv_at hl 3 rfl) ?_
  refine va_put (D := kD G) (ci := 5) (v := .ref (al)) (ty := (.object "Yarncourt$Lot")) (C := RX4) (T := TX4) (N := 4) hx hb hts hinX4 tyX4 tyX4_ok nmX4 hown hK hV.1 hV.2 hS 0 rfl rfl 2 (by decide) (hts (Cond.fieldLink RX4 20 "Yarncourt$Project" "lot" "LYarncourt$Lot;") (List.mem_of_getElem? (i := 7) rfl)) (fun _ h9 => h9) rfl (by decide +kernel) rfl rfl (Nat.le_of_ble_eq_true rfl) dX4_init_21 (fun H locs hP hD hS => ?_)
  have hV : kV G ([(h, .inr (5, [.int (nI (pe)), .ref (pa), .ref (al), .int (nI (0))]))] ++ wr) _ := ⟨hP, hD⟩
  exact W.vret hx hb hrt (fun t ht hW => ⟨⟨(), rfl, trivial, kV_eq ht hV⟩, hS.F ht⟩) hS.2.2 dX4_init_24
set_option maxHeartbeats 4000000 in
set_option maxRecDepth 100000 in
theorem c_X2_init (l : Launch) (G : kG) (pa : Nat) (num : Nat) (ow : Nat) (w : Nat) (pr : Nat) (wr : va_W) : Met l yX2_init wsX2_init ({ frames := 2, cells := 9, slots := 1679, locals := 41 } : Room) (kPc G [.ref (pa), .int (nI (num)), .int (nI (ow)), .int (nI (w)), .int (nI (pr))] ([(pa, .inr (3, [.int (nI (0)), .int (nI (0)), .int (nI (0)), .null, .null, .null, .null, .int (nI (0)), .int (nI (0))]))] ++ wr)) (kQv G (S := Nat → Nat) (fun _ => True) (fun uu => [(pa, .inr (3, [.int (nI (num)), .int (nI (ow)), .int (nI (pr)), .ref (uu 1), .ref (uu 6), .ref (uu 0), .null, .int (nI (0)), .int (nI (0))])), (uu 0, aN (kcZ G) 5 ((fun _ => 0))), (uu 1, .inr (4, [.int (nI (w)), .ref (uu 2), .ref (uu 3), .ref (uu 4), .ref (uu 5), .int (nI (0))])), (uu 2, aN (kcI G) 6 ((fun _ => 0))), (uu 3, aN (kcI G) 6 ((fun _ => 0))), (uu 4, aZ (kcI G) 6 ((fun _ => 0))), (uu 5, aN (kcI G) 6 ((fun _ => 0))), (uu 6, .inr (1, [.int (nI (0)), .ref (uu 7), .ref (uu 8), .int (nI (w))])), (uu 7, aN (kcI G) 1600 ((fun _ => 0))), (uu 8, aN (kcI G) 40 ((fun _ => 0)))] ++ wr)) 9 1679 (kA G) := by
  refine Met.ofW (cc := cX2_init) (maxL := 5) (ret := none) (by decide) rfl ?_
  intro pp ee s m args below meth cc0 s₁ Bd0 hml hv
  obtain ⟨rfl, hE, hV⟩ := hv
  have hK := hE.1
  have hx := Bd0.exec
  have hb := Bd0.bytes
  have hrt := Bd0.returns
  have hts := atoms_spec (ws := wsX2_init) Bd0.pre
  have hown : s.vm.findClass RX2 = some m.cls := findClass_of_methodNamed Bd0.named
  have hlocks := Bd0.notSynchronized
  have hin0 : meth.name = "<init>" := (name_of_methodNamed Bd0.named Bd0.method).1
  have hF : CallFix pp m cc0 cX2_init 5 s _ wsX2_init RX2 := ⟨hx, hb, hml, hown, hts⟩
  have hinX0 : ∀ w ∈ wsX00, w ∈ wsX2_init := tb_of [54, 55, 56, 57] rfl
  have hinX2 : ∀ w ∈ wsX20, w ∈ wsX2_init := tb_of [39, 40, 41, 42, 43, 44, 45, 46, 47] rfl
  have hinX3 : ∀ w ∈ wsX30, w ∈ wsX2_init := tb_of [48, 49, 50, 51, 52, 53] rfl
  have hS : va_S (kA G) s.heap s.heap [] := va_S.rf
  have hB0 := hE.2.1
  have hl := lv_entry ([.ref (pa), .int (nI (num)), .int (nI (ow)), .int (nI (w)), .int (nI (pr))]) (n := 5) (Nat.le_of_ble_eq_true rfl)
  rw [lg_entry_eq]
  generalize (lg_sl ([.ref (pa), .int (nI (num)), .int (nI (ow)), .int (nI (w)), .int (nI (pr))]) ++ List.replicate (5 - (lg_sl ([.ref (pa), .int (nI (num)), .int (nI (ow)), .int (nI (w)), .int (nI (pr))])).length) Slot.unset).toArray = ls at hl ⊢
  have hl : lv_has ls 5 [(0, .ref (pa)), (1, .int (nI (num))), (2, .int (nI (ow))), (3, .int (nI (w))), (4, .int (nI (pr)))] := hl
  refine lv_aload_n hx hb dX2_init_0 rfl (lv_at hl 0 rfl) ?_
  refine W.objInit hx hb hown (hts (Cond.methodLink RX2 3 objectInit) (List.mem_of_getElem? (i := 1) rfl)) (hts (Cond.instanceMethod objectInit) (List.mem_of_getElem? (i := 2) rfl)) (hts (Cond.code objectInit ⟨#[0xb1]⟩ 1 none) (List.mem_of_getElem? (i := 3) rfl)) rfl (by rw [hml]; exact hl.1) rfl dX2_init_1 (Nat.le_of_ble_eq_true rfl) (Nat.le_of_ble_eq_true rfl) ?_
  refine W.eq (g2 := F0 m 4 ls []) rfl ?_
  refine lv_aload_n hx hb dX2_init_4 rfl (lv_at hl 0 rfl) ?_
  refine lv_iconst (v := nI 5) hx hb dX2_init_5 (by decide) ?_
  refine kn_newZ (G := G) (a := [(pa, .inr (3, [.int (nI (0)), .int (nI (0)), .int (nI (0)), .null, .null, .null, .null, .int (nI (0)), .int (nI (0))]))]) (wr := wr) (n := 5) hx hb (hts (Cond.arrayClass .boolean) (List.mem_of_getElem? (i := 4) rfl)) hK hV hS hB0 (by decide) (Nat.le_of_ble_eq_true rfl) (Nat.le_of_ble_eq_true rfl) dX2_init_6 (fun q_1 H hV hS => ?_)
  have hV : kV G ([(pa, .inr (3, [.int (nI (0)), .int (nI (0)), .int (nI (0)), .null, .null, .null, .null, .int (nI (0)), .int (nI (0))])), (q_1, aN (kcZ G) 5 ((fun _ => 0)))] ++ wr) _ := hV
  refine va_putF (D := kD G) (ci := 3) (v := .ref (q_1)) (ty := (.array .boolean)) (C := RX2) (T := TX2) (N := 9) hx hb hts hinX2 tyX2 tyX2_ok nmX2 hown hK hV.1 hV.2 hS 0 rfl rfl 5 (by decide) (hts (Cond.fieldLink RX2 9 "Yarncourt$Pattern" "boughtBy" "[Z") (List.mem_of_getElem? (i := 5) rfl)) (fun _ h9 => h9) rfl hin0 rfl (by decide +kernel) rfl rfl (Nat.le_of_ble_eq_true rfl) dX2_init_8 (fun H locs hP hD hS => ?_)
  have hV : kV G ([(pa, .inr (3, [.int (nI (0)), .int (nI (0)), .int (nI (0)), .null, .null, .ref (q_1), .null, .int (nI (0)), .int (nI (0))])), (q_1, aN (kcZ G) 5 ((fun _ => 0)))] ++ wr) _ := ⟨hP, hD⟩
  refine lv_aload_n hx hb dX2_init_11 rfl (lv_at hl 0 rfl) ?_
  refine lv_null hx hb dX2_init_12 ?_
  refine va_put (D := kD G) (ci := 3) (v := .null) (ty := (.object "Yarncourt$Pattern")) (C := RX2) (T := TX2) (N := 9) hx hb hts hinX2 tyX2 tyX2_ok nmX2 hown hK hV.1 hV.2 hS 0 rfl rfl 6 (by decide) (hts (Cond.fieldLink RX2 15 "Yarncourt$Pattern" "original" "LYarncourt$Pattern;") (List.mem_of_getElem? (i := 6) rfl)) (fun _ h9 => h9) rfl (by decide +kernel) rfl rfl (Nat.le_of_ble_eq_true rfl) dX2_init_13 (fun H locs hP hD hS => ?_)
  have hV : kV G ([(pa, .inr (3, [.int (nI (0)), .int (nI (0)), .int (nI (0)), .null, .null, .ref (q_1), .null, .int (nI (0)), .int (nI (0))])), (q_1, aN (kcZ G) 5 ((fun _ => 0)))] ++ wr) _ := ⟨hP, hD⟩
  refine lv_aload_n hx hb dX2_init_16 rfl (lv_at hl 0 rfl) ?_
  refine lv_iconst (v := nI 0) hx hb dX2_init_17 (by decide) ?_
  refine va_put (D := kD G) (ci := 3) (v := .int (nI (0))) (ty := .int) (C := RX2) (T := TX2) (N := 9) hx hb hts hinX2 tyX2 tyX2_ok nmX2 hown hK hV.1 hV.2 hS 0 rfl rfl 7 (by decide) (hts (Cond.fieldLink RX2 19 "Yarncourt$Pattern" "takings" "I") (List.mem_of_getElem? (i := 7) rfl)) (fun _ h9 => h9) rfl (by decide +kernel) rfl rfl (Nat.le_of_ble_eq_true rfl) dX2_init_18 (fun H locs hP hD hS => ?_)
  have hV : kV G ([(pa, .inr (3, [.int (nI (0)), .int (nI (0)), .int (nI (0)), .null, .null, .ref (q_1), .null, .int (nI (0)), .int (nI (0))])), (q_1, aN (kcZ G) 5 ((fun _ => 0)))] ++ wr) _ := ⟨hP, hD⟩
  refine lv_aload_n hx hb dX2_init_21 rfl (lv_at hl 0 rfl) ?_
  refine lv_iconst (v := nI 0) hx hb dX2_init_22 (by decide) ?_
  refine va_put (D := kD G) (ci := 3) (v := .int (nI (0))) (ty := .boolean) (C := RX2) (T := TX2) (N := 9) hx hb hts hinX2 tyX2 tyX2_ok nmX2 hown hK hV.1 hV.2 hS 0 rfl rfl 8 (by decide) (hts (Cond.fieldLink RX2 23 "Yarncourt$Pattern" "barred" "Z") (List.mem_of_getElem? (i := 8) rfl)) (fun _ h9 => h9) rfl (by decide +kernel) (by decide) (by decide) (Nat.le_of_ble_eq_true rfl) dX2_init_23 (fun H locs hP hD hS => ?_)
  have hV : kV G ([(pa, .inr (3, [.int (nI (0)), .int (nI (0)), .int (nI (0)), .null, .null, .ref (q_1), .null, .int (nI (0)), .int (nI (0))])), (q_1, aN (kcZ G) 5 ((fun _ => 0)))] ++ wr) _ := ⟨hP, hD⟩
  refine lv_aload_n hx hb dX2_init_26 rfl (lv_at hl 0 rfl) ?_
  refine lv_iload_n hx hb dX2_init_27 rfl (lv_at hl 1 rfl) ?_
  refine va_putF (D := kD G) (ci := 3) (v := .int (nI (num))) (ty := .int) (C := RX2) (T := TX2) (N := 9) hx hb hts hinX2 tyX2 tyX2_ok nmX2 hown hK hV.1 hV.2 hS 0 rfl rfl 0 (by decide) (hts (Cond.fieldLink RX2 27 "Yarncourt$Pattern" "number" "I") (List.mem_of_getElem? (i := 9) rfl)) (fun _ h9 => h9) rfl hin0 rfl (by decide +kernel) rfl rfl (Nat.le_of_ble_eq_true rfl) dX2_init_28 (fun H locs hP hD hS => ?_)
  have hV : kV G ([(pa, .inr (3, [.int (nI (num)), .int (nI (0)), .int (nI (0)), .null, .null, .ref (q_1), .null, .int (nI (0)), .int (nI (0))])), (q_1, aN (kcZ G) 5 ((fun _ => 0)))] ++ wr) _ := ⟨hP, hD⟩
  refine lv_aload_n hx hb dX2_init_31 rfl (lv_at hl 0 rfl) ?_
  refine lv_iload_n hx hb dX2_init_32 rfl (lv_at hl 2 rfl) ?_
  refine va_putF (D := kD G) (ci := 3) (v := .int (nI (ow))) (ty := .int) (C := RX2) (T := TX2) (N := 9) hx hb hts hinX2 tyX2 tyX2_ok nmX2 hown hK hV.1 hV.2 hS 0 rfl rfl 1 (by decide) (hts (Cond.fieldLink RX2 30 "Yarncourt$Pattern" "owner" "I") (List.mem_of_getElem? (i := 10) rfl)) (fun _ h9 => h9) rfl hin0 rfl (by decide +kernel) rfl rfl (Nat.le_of_ble_eq_true rfl) dX2_init_33 (fun H locs hP hD hS => ?_)
  have hV : kV G ([(pa, .inr (3, [.int (nI (num)), .int (nI (ow)), .int (nI (0)), .null, .null, .ref (q_1), .null, .int (nI (0)), .int (nI (0))])), (q_1, aN (kcZ G) 5 ((fun _ => 0)))] ++ wr) _ := ⟨hP, hD⟩
  refine lv_aload_n hx hb dX2_init_36 rfl (lv_at hl 0 rfl) ?_
  refine lv_iload hx hb dX2_init_37 (lv_at hl 4 rfl) ?_
  refine va_putF (D := kD G) (ci := 3) (v := .int (nI (pr))) (ty := .int) (C := RX2) (T := TX2) (N := 9) hx hb hts hinX2 tyX2 tyX2_ok nmX2 hown hK hV.1 hV.2 hS 0 rfl rfl 2 (by decide) (hts (Cond.fieldLink RX2 33 "Yarncourt$Pattern" "price" "I") (List.mem_of_getElem? (i := 11) rfl)) (fun _ h9 => h9) rfl hin0 rfl (by decide +kernel) rfl rfl (Nat.le_of_ble_eq_true rfl) dX2_init_39 (fun H locs hP hD hS => ?_)
  have hV : kV G ([(pa, .inr (3, [.int (nI (num)), .int (nI (ow)), .int (nI (pr)), .null, .null, .ref (q_1), .null, .int (nI (0)), .int (nI (0))])), (q_1, aN (kcZ G) 5 ((fun _ => 0)))] ++ wr) _ := ⟨hP, hD⟩
  refine lv_aload_n hx hb dX2_init_42 rfl (lv_at hl 0 rfl) ?_
  refine kn_new (G := G) (a := [(pa, .inr (3, [.int (nI (num)), .int (nI (ow)), .int (nI (pr)), .null, .null, .ref (q_1), .null, .int (nI (0)), .int (nI (0))])), (q_1, aN (kcZ G) 5 ((fun _ => 0)))]) (wr := wr) (ci := 4) (C := RX3) (T := TX3) (N := 6) (fs := [.int (nI (0)), .null, .null, .null, .null, .int (nI (0))]) hx hb hts hinX3 tyX3 tyX3_ok hown (hts (Cond.classLink RX2 36 RX3) (List.mem_of_getElem? (i := 12) rfl)) (hts (Cond.instantiable RX3 6) (List.mem_of_getElem? (i := 13) rfl)) (hts (Cond.initialized RX3) (List.mem_of_getElem? (i := 14) rfl)) hK hV hS hB0 rfl (fun j hj => by rcases (show j = 0 ∨ j = 1 ∨ j = 2 ∨ j = 3 ∨ j = 4 ∨ j = 5 by omega) with rfl | rfl | rfl | rfl | rfl | rfl <;> rfl) (Nat.le_of_ble_eq_true rfl) (Nat.le_of_ble_eq_true rfl) dX2_init_43 (fun q_2 H hV hS => ?_)
  have hV : kV G ([(pa, .inr (3, [.int (nI (num)), .int (nI (ow)), .int (nI (pr)), .null, .null, .ref (q_1), .null, .int (nI (0)), .int (nI (0))])), (q_1, aN (kcZ G) 5 ((fun _ => 0))), (q_2, .inr (4, [.int (nI (0)), .null, .null, .null, .null, .int (nI (0))]))] ++ wr) _ := hV
  refine lv_dup hx hb dX2_init_46 rfl ?_
  refine lv_iload_n hx hb dX2_init_47 rfl (lv_at hl 3 rfl) ?_
  have hV : kV G ([(q_2, .inr (4, [.int (nI (0)), .null, .null, .null, .null, .int (nI (0))])), (pa, .inr (3, [.int (nI (num)), .int (nI (ow)), .int (nI (pr)), .null, .null, .ref (q_1), .null, .int (nI (0)), .int (nI (0))])), (q_1, aN (kcZ G) 5 ((fun _ => 0)))] ++ wr) _ := kV_part hV [2, 0, 1] rfl rfl
  refine kc_v (va_runI (As := [.int (nI (w))]) (rest := [.ref (q_2), .ref (pa)]) hF (c_X3_init l G q_2 w ([(pa, .inr (3, [.int (nI (num)), .int (nI (ow)), .int (nI (pr)), .null, .null, .ref (q_1), .null, .int (nI (0)), .int (nI (0))])), (q_1, aN (kcZ G) 5 ((fun _ => 0)))] ++ wr)) (cwI 1 hts gX2_init_X3_init rfl rfl rfl (hts (Cond.initialized RX3) (List.mem_of_getElem? (i := 14) rfl)) (hts (Cond.methodLink RX2 38 yX3_init) (List.mem_of_getElem? (i := 20) rfl)) (hts (Cond.instanceMethod yX3_init) (List.mem_of_getElem? (i := 21) rfl)) rfl (by decide +kernel) ⟨Nat.le_of_ble_eq_true rfl, Nat.le_of_ble_eq_true rfl⟩) (kPreI hE hS hV) rfl rfl hl.1 rfl (lv_room (Nat.le_of_ble_eq_true rfl)) dX2_init_48 ⟨Nat.le_of_ble_eq_true rfl, Nat.le_of_ble_eq_true rfl⟩) hS (fun u_4 H locs hp_3 hV hS => ?_)
  have hV : kV G ([(q_2, .inr (4, [.int (nI (w)), .ref (u_4 0), .ref (u_4 1), .ref (u_4 2), .ref (u_4 3), .int (nI (0))])), (u_4 0, aN (kcI G) 6 ((fun _ => 0))), (u_4 1, aN (kcI G) 6 ((fun _ => 0))), (u_4 2, aZ (kcI G) 6 ((fun _ => 0))), (u_4 3, aN (kcI G) 6 ((fun _ => 0))), (pa, .inr (3, [.int (nI (num)), .int (nI (ow)), .int (nI (pr)), .null, .null, .ref (q_1), .null, .int (nI (0)), .int (nI (0))])), (q_1, aN (kcZ G) 5 ((fun _ => 0)))] ++ wr) _ := hV
  refine va_putF (D := kD G) (ci := 3) (v := .ref (q_2)) (ty := (.object "Yarncourt$Program")) (C := RX2) (T := TX2) (N := 9) hx hb hts hinX2 tyX2 tyX2_ok nmX2 hown hK hV.1 hV.2 hS 5 rfl rfl 3 (by decide) (hts (Cond.fieldLink RX2 41 "Yarncourt$Pattern" "program" "LYarncourt$Program;") (List.mem_of_getElem? (i := 15) rfl)) (fun _ h9 => h9) rfl hin0 rfl (by decide +kernel) rfl rfl (Nat.le_of_ble_eq_true rfl) dX2_init_51 (fun H locs hP hD hS => ?_)
  have hV : kV G ([(q_2, .inr (4, [.int (nI (w)), .ref (u_4 0), .ref (u_4 1), .ref (u_4 2), .ref (u_4 3), .int (nI (0))])), (u_4 0, aN (kcI G) 6 ((fun _ => 0))), (u_4 1, aN (kcI G) 6 ((fun _ => 0))), (u_4 2, aZ (kcI G) 6 ((fun _ => 0))), (u_4 3, aN (kcI G) 6 ((fun _ => 0))), (pa, .inr (3, [.int (nI (num)), .int (nI (ow)), .int (nI (pr)), .ref (q_2), .null, .ref (q_1), .null, .int (nI (0)), .int (nI (0))])), (q_1, aN (kcZ G) 5 ((fun _ => 0)))] ++ wr) _ := ⟨hP, hD⟩
  refine lv_aload_n hx hb dX2_init_54 rfl (lv_at hl 0 rfl) ?_
  refine kn_new (G := G) (a := [(q_2, .inr (4, [.int (nI (w)), .ref (u_4 0), .ref (u_4 1), .ref (u_4 2), .ref (u_4 3), .int (nI (0))])), (u_4 0, aN (kcI G) 6 ((fun _ => 0))), (u_4 1, aN (kcI G) 6 ((fun _ => 0))), (u_4 2, aZ (kcI G) 6 ((fun _ => 0))), (u_4 3, aN (kcI G) 6 ((fun _ => 0))), (pa, .inr (3, [.int (nI (num)), .int (nI (ow)), .int (nI (pr)), .ref (q_2), .null, .ref (q_1), .null, .int (nI (0)), .int (nI (0))])), (q_1, aN (kcZ G) 5 ((fun _ => 0)))]) (wr := wr) (ci := 1) (C := RX0) (T := TX0) (N := 4) (fs := [.int (nI (0)), .null, .null, .int (nI (0))]) hx hb hts hinX0 tyX0 tyX0_ok hown (hts (Cond.classLink RX2 45 RX0) (List.mem_of_getElem? (i := 16) rfl)) (hts (Cond.instantiable RX0 4) (List.mem_of_getElem? (i := 17) rfl)) (hts (Cond.initialized RX0) (List.mem_of_getElem? (i := 18) rfl)) hK hV hS hB0 rfl (fun j hj => by rcases (show j = 0 ∨ j = 1 ∨ j = 2 ∨ j = 3 by omega) with rfl | rfl | rfl | rfl <;> rfl) (Nat.le_of_ble_eq_true rfl) (Nat.le_of_ble_eq_true rfl) dX2_init_55 (fun q_6 H hV hS => ?_)
  have hV : kV G ([(q_2, .inr (4, [.int (nI (w)), .ref (u_4 0), .ref (u_4 1), .ref (u_4 2), .ref (u_4 3), .int (nI (0))])), (u_4 0, aN (kcI G) 6 ((fun _ => 0))), (u_4 1, aN (kcI G) 6 ((fun _ => 0))), (u_4 2, aZ (kcI G) 6 ((fun _ => 0))), (u_4 3, aN (kcI G) 6 ((fun _ => 0))), (pa, .inr (3, [.int (nI (num)), .int (nI (ow)), .int (nI (pr)), .ref (q_2), .null, .ref (q_1), .null, .int (nI (0)), .int (nI (0))])), (q_1, aN (kcZ G) 5 ((fun _ => 0))), (q_6, .inr (1, [.int (nI (0)), .null, .null, .int (nI (0))]))] ++ wr) _ := hV
  refine lv_dup hx hb dX2_init_58 rfl ?_
  refine lv_iload_n hx hb dX2_init_59 rfl (lv_at hl 3 rfl) ?_
  have hV : kV G ([(q_6, .inr (1, [.int (nI (0)), .null, .null, .int (nI (0))])), (q_2, .inr (4, [.int (nI (w)), .ref (u_4 0), .ref (u_4 1), .ref (u_4 2), .ref (u_4 3), .int (nI (0))])), (u_4 0, aN (kcI G) 6 ((fun _ => 0))), (u_4 1, aN (kcI G) 6 ((fun _ => 0))), (u_4 2, aZ (kcI G) 6 ((fun _ => 0))), (u_4 3, aN (kcI G) 6 ((fun _ => 0))), (pa, .inr (3, [.int (nI (num)), .int (nI (ow)), .int (nI (pr)), .ref (q_2), .null, .ref (q_1), .null, .int (nI (0)), .int (nI (0))])), (q_1, aN (kcZ G) 5 ((fun _ => 0)))] ++ wr) _ := kV_part hV [7, 0, 1, 2, 3, 4, 5, 6] rfl rfl
  refine kc_v (va_runI (As := [.int (nI (w))]) (rest := [.ref (q_6), .ref (pa)]) hF (c_X0_init l G q_6 w ([(q_2, .inr (4, [.int (nI (w)), .ref (u_4 0), .ref (u_4 1), .ref (u_4 2), .ref (u_4 3), .int (nI (0))])), (u_4 0, aN (kcI G) 6 ((fun _ => 0))), (u_4 1, aN (kcI G) 6 ((fun _ => 0))), (u_4 2, aZ (kcI G) 6 ((fun _ => 0))), (u_4 3, aN (kcI G) 6 ((fun _ => 0))), (pa, .inr (3, [.int (nI (num)), .int (nI (ow)), .int (nI (pr)), .ref (q_2), .null, .ref (q_1), .null, .int (nI (0)), .int (nI (0))])), (q_1, aN (kcZ G) 5 ((fun _ => 0)))] ++ wr)) (cwI 1 hts gX2_init_X0_init rfl rfl rfl (hts (Cond.initialized RX0) (List.mem_of_getElem? (i := 18) rfl)) (hts (Cond.methodLink RX2 47 yX0_init) (List.mem_of_getElem? (i := 31) rfl)) (hts (Cond.instanceMethod yX0_init) (List.mem_of_getElem? (i := 32) rfl)) rfl (by decide +kernel) ⟨Nat.le_of_ble_eq_true rfl, Nat.le_of_ble_eq_true rfl⟩) (kPreI hE hS hV) rfl rfl hl.1 rfl (lv_room (Nat.le_of_ble_eq_true rfl)) dX2_init_60 ⟨Nat.le_of_ble_eq_true rfl, Nat.le_of_ble_eq_true rfl⟩) hS (fun u_8 H locs hp_7 hV hS => ?_)
  have hV : kV G ([(q_6, .inr (1, [.int (nI (0)), .ref (u_8 0), .ref (u_8 1), .int (nI (w))])), (u_8 0, aN (kcI G) 1600 ((fun _ => 0))), (u_8 1, aN (kcI G) 40 ((fun _ => 0))), (q_2, .inr (4, [.int (nI (w)), .ref (u_4 0), .ref (u_4 1), .ref (u_4 2), .ref (u_4 3), .int (nI (0))])), (u_4 0, aN (kcI G) 6 ((fun _ => 0))), (u_4 1, aN (kcI G) 6 ((fun _ => 0))), (u_4 2, aZ (kcI G) 6 ((fun _ => 0))), (u_4 3, aN (kcI G) 6 ((fun _ => 0))), (pa, .inr (3, [.int (nI (num)), .int (nI (ow)), .int (nI (pr)), .ref (q_2), .null, .ref (q_1), .null, .int (nI (0)), .int (nI (0))])), (q_1, aN (kcZ G) 5 ((fun _ => 0)))] ++ wr) _ := hV
  refine va_putF (D := kD G) (ci := 3) (v := .ref (q_6)) (ty := (.object "Yarncourt$Chart")) (C := RX2) (T := TX2) (N := 9) hx hb hts hinX2 tyX2 tyX2_ok nmX2 hown hK hV.1 hV.2 hS 8 rfl rfl 4 (by decide) (hts (Cond.fieldLink RX2 48 "Yarncourt$Pattern" "chart" "LYarncourt$Chart;") (List.mem_of_getElem? (i := 19) rfl)) (fun _ h9 => h9) rfl hin0 rfl (by decide +kernel) rfl rfl (Nat.le_of_ble_eq_true rfl) dX2_init_63 (fun H locs hP hD hS => ?_)
  have hV : kV G ([(q_6, .inr (1, [.int (nI (0)), .ref (u_8 0), .ref (u_8 1), .int (nI (w))])), (u_8 0, aN (kcI G) 1600 ((fun _ => 0))), (u_8 1, aN (kcI G) 40 ((fun _ => 0))), (q_2, .inr (4, [.int (nI (w)), .ref (u_4 0), .ref (u_4 1), .ref (u_4 2), .ref (u_4 3), .int (nI (0))])), (u_4 0, aN (kcI G) 6 ((fun _ => 0))), (u_4 1, aN (kcI G) 6 ((fun _ => 0))), (u_4 2, aZ (kcI G) 6 ((fun _ => 0))), (u_4 3, aN (kcI G) 6 ((fun _ => 0))), (pa, .inr (3, [.int (nI (num)), .int (nI (ow)), .int (nI (pr)), .ref (q_2), .ref (q_6), .ref (q_1), .null, .int (nI (0)), .int (nI (0))])), (q_1, aN (kcZ G) 5 ((fun _ => 0)))] ++ wr) _ := ⟨hP, hD⟩
  have hV : kV G ([(pa, .inr (3, [.int (nI (num)), .int (nI (ow)), .int (nI (pr)), .ref (q_2), .ref (q_6), .ref (q_1), .null, .int (nI (0)), .int (nI (0))])), (q_1, aN (kcZ G) 5 ((fun _ => 0))), (q_2, .inr (4, [.int (nI (w)), .ref (u_4 0), .ref (u_4 1), .ref (u_4 2), .ref (u_4 3), .int (nI (0))])), (u_4 0, aN (kcI G) 6 ((fun _ => 0))), (u_4 1, aN (kcI G) 6 ((fun _ => 0))), (u_4 2, aZ (kcI G) 6 ((fun _ => 0))), (u_4 3, aN (kcI G) 6 ((fun _ => 0))), (q_6, .inr (1, [.int (nI (0)), .ref (u_8 0), .ref (u_8 1), .int (nI (w))])), (u_8 0, aN (kcI G) 1600 ((fun _ => 0))), (u_8 1, aN (kcI G) 40 ((fun _ => 0)))] ++ wr) _ := kV_part hV [8, 9, 3, 4, 5, 6, 7, 0, 1, 2] rfl rfl
  exact W.vret hx hb hrt (fun t ht hW => ⟨⟨kad [q_1, q_2, u_4 0, u_4 1, u_4 2, u_4 3, q_6, u_8 0, u_8 1], rfl, trivial, kV_eq ht hV⟩, hS.F ht⟩) hS.2.2 dX2_init_66
set_option maxHeartbeats 4000000 in
set_option maxRecDepth 100000 in
theorem c_X4_yarnOfNextRow (l : Launch) (G : kG) (h : Nat) (al : Nat) (pa : Nat) (hc : Nat) (as1 : Nat) (ay1 : Nat) (pe : Nat) (dn : Nat) (lnum : Nat) (ga : Nat) (lp : Nat) (ya : Nat) (num : Nat) (ow : Nat) (pr : Nat) (hp : Nat) (bo : Nat) (org : Option Nat) (tk : Nat) (ba : Nat) (rc : Nat) (nw : Nat) (F : Nat → Nat) (Y : Nat → Nat) (wr : va_W) (hd : dn < 40) : Met l yX4_yarnOfNextRow wsX4_yarnOfNextRow ({ frames := 1, cells := 0, slots := 0, locals := 21 } : Room) (kPc G [.ref (h)] ([(h, .inr (5, [.int (nI (pe)), .ref (pa), .ref (al), .int (nI (dn))])), (al, .inr (2, [.int (nI (lnum)), .int (nI (ga)), .int (nI (lp)), .int (nI (ya))])), (pa, .inr (3, [.int (nI (num)), .int (nI (ow)), .int (nI (pr)), .ref (hp), .ref (hc), .ref (bo), va_rf (org), .int (nI (tk)), .int (nI (ba))])), (hc, .inr (1, [.int (nI (rc)), .ref (as1), .ref (ay1), .int (nI (nw))])), (as1, aN (kcI G) 1600 F), (ay1, aN (kcI G) 40 Y)] ++ wr)) (kQi G (S := Unit) (fun z _ => z = nI (ga * Y dn)) (fun _ => [(h, .inr (5, [.int (nI (pe)), .ref (pa), .ref (al), .int (nI (dn))])), (al, .inr (2, [.int (nI (lnum)), .int (nI (ga)), .int (nI (lp)), .int (nI (ya))])), (pa, .inr (3, [.int (nI (num)), .int (nI (ow)), .int (nI (pr)), .ref (hp), .ref (hc), .ref (bo), va_rf (org), .int (nI (tk)), .int (nI (ba))])), (hc, .inr (1, [.int (nI (rc)), .ref (as1), .ref (ay1), .int (nI (nw))])), (as1, aN (kcI G) 1600 F), (ay1, aN (kcI G) 40 Y)] ++ wr)) 0 0 (kA G) := by
  refine Met.ofW (cc := cX4_yarnOfNextRow) (maxL := 1) (ret := (some .int)) (by decide) rfl ?_
  intro pp ee s m args below meth cc0 s₁ Bd0 hml hv
  obtain ⟨rfl, hE, hV⟩ := hv
  have hK := hE.1
  have hx := Bd0.exec
  have hb := Bd0.bytes
  have hrt := Bd0.returns
  have hts := atoms_spec (ws := wsX4_yarnOfNextRow) Bd0.pre
  have hown : s.vm.findClass RX4 = some m.cls := findClass_of_methodNamed Bd0.named
  have hlocks := Bd0.notSynchronized
  have hF : CallFix pp m cc0 cX4_yarnOfNextRow 1 s _ wsX4_yarnOfNextRow RX4 := ⟨hx, hb, hml, hown, hts⟩
  have hinX1 : ∀ w ∈ wsX10, w ∈ wsX4_yarnOfNextRow := tb_of [16, 17, 18, 19] rfl
  have hinX2 : ∀ w ∈ wsX20, w ∈ wsX4_yarnOfNextRow := tb_of [20, 21, 22, 23, 24, 25, 26, 27, 28] rfl
  have hinX4 : ∀ w ∈ wsX40, w ∈ wsX4_yarnOfNextRow := tb_of [12, 13, 14, 15] rfl
  have hS : va_S (kA G) s.heap s.heap [] := va_S.rf
  have hB0 := hE.2.1
  have hl := lv_entry ([.ref (h)]) (n := 1) (Nat.le_of_ble_eq_true rfl)
  rw [lg_entry_eq]
  generalize (lg_sl ([.ref (h)]) ++ List.replicate (1 - (lg_sl ([.ref (h)])).length) Slot.unset).toArray = ls at hl ⊢
  have hl : lv_has ls 1 [(0, .ref (h))] := hl
  refine lv_aload_n hx hb dX4_yarnOfNextRow_0 rfl (lv_at hl 0 rfl) ?_
  refine va_get (D := kD G) (ci := 5) (v := .ref (al)) (C := RX4) (T := TX4) (N := 4) hx hb hts hinX4 hown hK hV.1 0 rfl rfl 2 (by decide) (hts (Cond.fieldLink RX4 20 "Yarncourt$Project" "lot" "LYarncourt$Lot;") (List.mem_of_getElem? (i := 1) rfl)) (fun _ h9 => h9) rfl dX4_yarnOfNextRow_1 ?_
  refine va_get (D := kD G) (ci := 2) (v := .int (nI (ga))) (C := RX1) (T := TX1) (N := 4) hx hb hts hinX1 hown hK hV.1 1 rfl rfl 1 (by decide) (hts (Cond.fieldLink RX4 49 "Yarncourt$Lot" "gauge" "I") (List.mem_of_getElem? (i := 2) rfl)) (fun _ h9 => h9) rfl dX4_yarnOfNextRow_4 ?_
  refine lv_aload_n hx hb dX4_yarnOfNextRow_7 rfl (lv_at hl 0 rfl) ?_
  refine va_get (D := kD G) (ci := 5) (v := .ref (pa)) (C := RX4) (T := TX4) (N := 4) hx hb hts hinX4 hown hK hV.1 0 rfl rfl 1 (by decide) (hts (Cond.fieldLink RX4 16 "Yarncourt$Project" "pattern" "LYarncourt$Pattern;") (List.mem_of_getElem? (i := 3) rfl)) (fun _ h9 => h9) rfl dX4_yarnOfNextRow_8 ?_
  refine va_get (D := kD G) (ci := 3) (v := .ref (hc)) (C := RX2) (T := TX2) (N := 9) hx hb hts hinX2 hown hK hV.1 2 rfl rfl 4 (by decide) (hts (Cond.fieldLink RX4 37 "Yarncourt$Pattern" "chart" "LYarncourt$Chart;") (List.mem_of_getElem? (i := 4) rfl)) (fun _ h9 => h9) rfl dX4_yarnOfNextRow_11 ?_
  refine lv_aload_n hx hb dX4_yarnOfNextRow_14 rfl (lv_at hl 0 rfl) ?_
  refine va_get (D := kD G) (ci := 5) (v := .int (nI (dn))) (C := RX4) (T := TX4) (N := 4) hx hb hts hinX4 hown hK hV.1 0 rfl rfl 3 (by decide) (hts (Cond.fieldLink RX4 7 "Yarncourt$Project" "knitted" "I") (List.mem_of_getElem? (i := 5) rfl)) (fun _ h9 => h9) rfl dX4_yarnOfNextRow_15 ?_
  have hV : kV G ([(hc, .inr (1, [.int (nI (rc)), .ref (as1), .ref (ay1), .int (nI (nw))])), (as1, aN (kcI G) 1600 F), (ay1, aN (kcI G) 40 Y), (h, .inr (5, [.int (nI (pe)), .ref (pa), .ref (al), .int (nI (dn))])), (al, .inr (2, [.int (nI (lnum)), .int (nI (ga)), .int (nI (lp)), .int (nI (ya))])), (pa, .inr (3, [.int (nI (num)), .int (nI (ow)), .int (nI (pr)), .ref (hp), .ref (hc), .ref (bo), va_rf (org), .int (nI (tk)), .int (nI (ba))]))] ++ wr) _ := kV_part hV [3, 4, 5, 0, 1, 2] rfl rfl
  refine kc_i (va_runV (As := [.int (nI (dn))]) (rest := [.int (nI (ga))]) hF (c_X0_yarnOf l G hc as1 ay1 rc nw F Y ([(h, .inr (5, [.int (nI (pe)), .ref (pa), .ref (al), .int (nI (dn))])), (al, .inr (2, [.int (nI (lnum)), .int (nI (ga)), .int (nI (lp)), .int (nI (ya))])), (pa, .inr (3, [.int (nI (num)), .int (nI (ow)), .int (nI (pr)), .ref (hp), .ref (hc), .ref (bo), va_rf (org), .int (nI (tk)), .int (nI (ba))]))] ++ wr) dn (by omega)) (cwV 1 hts gX4_yarnOfNextRow_X0_yarnOf rfl rfl rfl (by decide +kernel) ⟨Nat.le_of_ble_eq_true rfl, Nat.le_of_ble_eq_true rfl⟩) (kPreV hE hS hV 0 rfl rfl) rfl rfl hl.1 rfl (lv_room (Nat.le_of_ble_eq_true rfl)) dX4_yarnOfNextRow_18 ⟨Nat.le_of_ble_eq_true rfl, Nat.le_of_ble_eq_true rfl⟩) hS (fun r_3 u_2 H locs hp_1 hV hS => ?_)
  subst hp_1
  have hV : kV G ([(hc, .inr (1, [.int (nI (rc)), .ref (as1), .ref (ay1), .int (nI (nw))])), (as1, aN (kcI G) 1600 F), (ay1, aN (kcI G) 40 Y), (h, .inr (5, [.int (nI (pe)), .ref (pa), .ref (al), .int (nI (dn))])), (al, .inr (2, [.int (nI (lnum)), .int (nI (ga)), .int (nI (lp)), .int (nI (ya))])), (pa, .inr (3, [.int (nI (num)), .int (nI (ow)), .int (nI (pr)), .ref (hp), .ref (hc), .ref (bo), va_rf (org), .int (nI (tk)), .int (nI (ba))]))] ++ wr) _ := hV
  refine kn_mul hx hb dX4_yarnOfNextRow_21 ?_
  have hV : kV G ([(h, .inr (5, [.int (nI (pe)), .ref (pa), .ref (al), .int (nI (dn))])), (al, .inr (2, [.int (nI (lnum)), .int (nI (ga)), .int (nI (lp)), .int (nI (ya))])), (pa, .inr (3, [.int (nI (num)), .int (nI (ow)), .int (nI (pr)), .ref (hp), .ref (hc), .ref (bo), va_rf (org), .int (nI (tk)), .int (nI (ba))])), (hc, .inr (1, [.int (nI (rc)), .ref (as1), .ref (ay1), .int (nI (nw))])), (as1, aN (kcI G) 1600 F), (ay1, aN (kcI G) 40 Y)] ++ wr) _ := kV_part hV [3, 4, 5, 0, 1, 2] rfl rfl
  exact W.iret (v := nI (ga * (Y dn))) hx hb hrt (fun t ht hW => ⟨⟨_, (), rfl, rfl, kV_eq ht hV⟩, hS.F ht⟩) hS.2.2 dX4_yarnOfNextRow_22
set_option maxHeartbeats 4000000 in
set_option maxRecDepth 100000 in
theorem c_X4_canKnitRow (l : Launch) (G : kG) (h : Nat) (al : Nat) (pa : Nat) (hc : Nat) (as1 : Nat) (ay1 : Nat) (pe : Nat) (dn : Nat) (lnum : Nat) (ga : Nat) (lp : Nat) (ya : Nat) (num : Nat) (ow : Nat) (pr : Nat) (hp : Nat) (bo : Nat) (org : Option Nat) (tk : Nat) (ba : Nat) (rc : Nat) (nw : Nat) (F : Nat → Nat) (Y : Nat → Nat) (wr : va_W) (hrc : rc ≤ 40) (hd : dn ≤ 40) (hpe : pe < 5) (hlp : lp < 5) (hya : ya ≤ 100000) (hgy : ∀ d, ga * Y d ≤ 100000) : Met l yX4_canKnitRow wsX4_canKnitRow ({ frames := 2, cells := 0, slots := 0, locals := 41 } : Room) (kPc G [.ref (h)] ([(h, .inr (5, [.int (nI (pe)), .ref (pa), .ref (al), .int (nI (dn))])), (al, .inr (2, [.int (nI (lnum)), .int (nI (ga)), .int (nI (lp)), .int (nI (ya))])), (pa, .inr (3, [.int (nI (num)), .int (nI (ow)), .int (nI (pr)), .ref (hp), .ref (hc), .ref (bo), va_rf (org), .int (nI (tk)), .int (nI (ba))])), (hc, .inr (1, [.int (nI (rc)), .ref (as1), .ref (ay1), .int (nI (nw))])), (as1, aN (kcI G) 1600 F), (ay1, aN (kcI G) 40 Y)] ++ wr)) (kQi G (S := Unit) (fun z _ => z = nI (kb (dn < rc ∧ lp = pe ∧ ga * Y dn ≤ ya))) (fun _ => [(h, .inr (5, [.int (nI (pe)), .ref (pa), .ref (al), .int (nI (dn))])), (al, .inr (2, [.int (nI (lnum)), .int (nI (ga)), .int (nI (lp)), .int (nI (ya))])), (pa, .inr (3, [.int (nI (num)), .int (nI (ow)), .int (nI (pr)), .ref (hp), .ref (hc), .ref (bo), va_rf (org), .int (nI (tk)), .int (nI (ba))])), (hc, .inr (1, [.int (nI (rc)), .ref (as1), .ref (ay1), .int (nI (nw))])), (as1, aN (kcI G) 1600 F), (ay1, aN (kcI G) 40 Y)] ++ wr)) 0 0 (kA G) := by
  refine Met.ofW (cc := cX4_canKnitRow) (maxL := 1) (ret := (some .boolean)) (by decide) rfl ?_
  intro pp ee s m args below meth cc0 s₁ Bd0 hml hv
  obtain ⟨rfl, hE, hV⟩ := hv
  have hK := hE.1
  have hx := Bd0.exec
  have hb := Bd0.bytes
  have hrt := Bd0.returns
  have hts := atoms_spec (ws := wsX4_canKnitRow) Bd0.pre
  have hown : s.vm.findClass RX4 = some m.cls := findClass_of_methodNamed Bd0.named
  have hlocks := Bd0.notSynchronized
  have hF : CallFix pp m cc0 cX4_canKnitRow 1 s _ wsX4_canKnitRow RX4 := ⟨hx, hb, hml, hown, hts⟩
  have hinX0 : ∀ w ∈ wsX00, w ∈ wsX4_canKnitRow := tb_of [34, 35, 36, 37] rfl
  have hinX1 : ∀ w ∈ wsX10, w ∈ wsX4_canKnitRow := tb_of [38, 39, 40, 41] rfl
  have hinX2 : ∀ w ∈ wsX20, w ∈ wsX4_canKnitRow := tb_of [25, 26, 27, 28, 29, 30, 31, 32, 33] rfl
  have hinX4 : ∀ w ∈ wsX40, w ∈ wsX4_canKnitRow := tb_of [21, 22, 23, 24] rfl
  have hS : va_S (kA G) s.heap s.heap [] := va_S.rf
  have hB0 := hE.2.1
  have hl := lv_entry ([.ref (h)]) (n := 1) (Nat.le_of_ble_eq_true rfl)
  rw [lg_entry_eq]
  generalize (lg_sl ([.ref (h)]) ++ List.replicate (1 - (lg_sl ([.ref (h)])).length) Slot.unset).toArray = ls at hl ⊢
  have hl : lv_has ls 1 [(0, .ref (h))] := hl
  refine lv_aload_n hx hb dX4_canKnitRow_0 rfl (lv_at hl 0 rfl) ?_
  refine va_get (D := kD G) (ci := 5) (v := .int (nI (dn))) (C := RX4) (T := TX4) (N := 4) hx hb hts hinX4 hown hK hV.1 0 rfl rfl 3 (by decide) (hts (Cond.fieldLink RX4 7 "Yarncourt$Project" "knitted" "I") (List.mem_of_getElem? (i := 1) rfl)) (fun _ h9 => h9) rfl dX4_canKnitRow_1 ?_
  refine lv_aload_n hx hb dX4_canKnitRow_4 rfl (lv_at hl 0 rfl) ?_
  refine va_get (D := kD G) (ci := 5) (v := .ref (pa)) (C := RX4) (T := TX4) (N := 4) hx hb hts hinX4 hown hK hV.1 0 rfl rfl 1 (by decide) (hts (Cond.fieldLink RX4 16 "Yarncourt$Project" "pattern" "LYarncourt$Pattern;") (List.mem_of_getElem? (i := 2) rfl)) (fun _ h9 => h9) rfl dX4_canKnitRow_5 ?_
  refine va_get (D := kD G) (ci := 3) (v := .ref (hc)) (C := RX2) (T := TX2) (N := 9) hx hb hts hinX2 hown hK hV.1 2 rfl rfl 4 (by decide) (hts (Cond.fieldLink RX4 37 "Yarncourt$Pattern" "chart" "LYarncourt$Chart;") (List.mem_of_getElem? (i := 3) rfl)) (fun _ h9 => h9) rfl dX4_canKnitRow_8 ?_
  refine va_get (D := kD G) (ci := 1) (v := .int (nI (rc))) (C := RX0) (T := TX0) (N := 4) hx hb hts hinX0 hown hK hV.1 3 rfl rfl 0 (by decide) (hts (Cond.fieldLink RX4 43 "Yarncourt$Chart" "rowCount" "I") (List.mem_of_getElem? (i := 4) rfl)) (fun _ h9 => h9) rfl dX4_canKnitRow_11 ?_
  refine kn_ge (tgt := 49) hx hb (by omega) (by omega) dX4_canKnitRow_14 (by decide) (fun c14 => ?_) (fun c14 => ?_)
  · refine lv_iconst (v := nI 0) hx hb dX4_canKnitRow_49 (by decide) ?_
    exact W.zret (v := nI 0) hx hb hrt (by decide) (fun t ht hW => ⟨⟨_, (), rfl, by rw [kb_f (fun z => by have := z.1; omega)], kV_eq ht hV⟩, hS.F ht⟩) hS.2.2 dX4_canKnitRow_50
  · refine lv_aload_n hx hb dX4_canKnitRow_17 rfl (lv_at hl 0 rfl) ?_
    refine va_get (D := kD G) (ci := 5) (v := .ref (al)) (C := RX4) (T := TX4) (N := 4) hx hb hts hinX4 hown hK hV.1 0 rfl rfl 2 (by decide) (hts (Cond.fieldLink RX4 20 "Yarncourt$Project" "lot" "LYarncourt$Lot;") (List.mem_of_getElem? (i := 5) rfl)) (fun _ h9 => h9) rfl dX4_canKnitRow_18 ?_
    refine va_get (D := kD G) (ci := 2) (v := .int (nI (lp))) (C := RX1) (T := TX1) (N := 4) hx hb hts hinX1 hown hK hV.1 1 rfl rfl 2 (by decide) (hts (Cond.fieldLink RX4 48 "Yarncourt$Lot" "person" "I") (List.mem_of_getElem? (i := 6) rfl)) (fun _ h9 => h9) rfl dX4_canKnitRow_21 ?_
    refine lv_aload_n hx hb dX4_canKnitRow_24 rfl (lv_at hl 0 rfl) ?_
    refine va_get (D := kD G) (ci := 5) (v := .int (nI (pe))) (C := RX4) (T := TX4) (N := 4) hx hb hts hinX4 hown hK hV.1 0 rfl rfl 0 (by decide) (hts (Cond.fieldLink RX4 13 "Yarncourt$Project" "person" "I") (List.mem_of_getElem? (i := 7) rfl)) (fun _ h9 => h9) rfl dX4_canKnitRow_25 ?_
    refine kn_ne (tgt := 49) hx hb (by omega) (by omega) dX4_canKnitRow_28 (by decide) (fun c28 => ?_) (fun c28 => ?_)
    · refine lv_iconst (v := nI 0) hx hb dX4_canKnitRow_49 (by decide) ?_
      exact W.zret (v := nI 0) hx hb hrt (by decide) (fun t ht hW => ⟨⟨_, (), rfl, by rw [kb_f (fun z => c28 z.2.1)], kV_eq ht hV⟩, hS.F ht⟩) hS.2.2 dX4_canKnitRow_50
    · refine lv_aload_n hx hb dX4_canKnitRow_31 rfl (lv_at hl 0 rfl) ?_
      refine va_get (D := kD G) (ci := 5) (v := .ref (al)) (C := RX4) (T := TX4) (N := 4) hx hb hts hinX4 hown hK hV.1 0 rfl rfl 2 (by decide) (hts (Cond.fieldLink RX4 20 "Yarncourt$Project" "lot" "LYarncourt$Lot;") (List.mem_of_getElem? (i := 5) rfl)) (fun _ h9 => h9) rfl dX4_canKnitRow_32 ?_
      refine va_get (D := kD G) (ci := 2) (v := .int (nI (ya))) (C := RX1) (T := TX1) (N := 4) hx hb hts hinX1 hown hK hV.1 1 rfl rfl 3 (by decide) (hts (Cond.fieldLink RX4 28 "Yarncourt$Lot" "yarn" "I") (List.mem_of_getElem? (i := 8) rfl)) (fun _ h9 => h9) rfl dX4_canKnitRow_35 ?_
      refine lv_aload_n hx hb dX4_canKnitRow_38 rfl (lv_at hl 0 rfl) ?_
      refine kc_i (va_runV (As := []) (rest := [.int (nI (ya))]) hF (c_X4_yarnOfNextRow l G h al pa hc as1 ay1 pe dn lnum ga lp ya num ow pr hp bo org tk ba rc nw F Y wr (by omega)) (cwV 0 hts gX4_canKnitRow_X4_yarnOfNextRow rfl rfl rfl (by decide +kernel) ⟨Nat.le_of_ble_eq_true rfl, Nat.le_of_ble_eq_true rfl⟩) (kPreV hE hS hV 0 rfl rfl) rfl rfl hl.1 rfl (lv_room (Nat.le_of_ble_eq_true rfl)) dX4_canKnitRow_39 ⟨Nat.le_of_ble_eq_true rfl, Nat.le_of_ble_eq_true rfl⟩) hS (fun r_3 u_2 H locs hp_1 hV hS => ?_)
      subst hp_1
      have hV : kV G ([(h, .inr (5, [.int (nI (pe)), .ref (pa), .ref (al), .int (nI (dn))])), (al, .inr (2, [.int (nI (lnum)), .int (nI (ga)), .int (nI (lp)), .int (nI (ya))])), (pa, .inr (3, [.int (nI (num)), .int (nI (ow)), .int (nI (pr)), .ref (hp), .ref (hc), .ref (bo), va_rf (org), .int (nI (tk)), .int (nI (ba))])), (hc, .inr (1, [.int (nI (rc)), .ref (as1), .ref (ay1), .int (nI (nw))])), (as1, aN (kcI G) 1600 F), (ay1, aN (kcI G) 40 Y)] ++ wr) _ := hV
      have hg9 := hgy dn
      refine kn_lt (tgt := 49) hx hb (by omega) (by omega) dX4_canKnitRow_42 (by decide) (fun c42 => ?_) (fun c42 => ?_)
      · refine lv_iconst (v := nI 0) hx hb dX4_canKnitRow_49 (by decide) ?_
        exact W.zret (v := nI 0) hx hb hrt (by decide) (fun t ht hW => ⟨⟨_, (), rfl, by rw [kb_f (fun z => by have := z.2.2; omega)], kV_eq ht hV⟩, hS.F ht⟩) hS.2.2 dX4_canKnitRow_50
      · refine lv_iconst (v := nI 1) hx hb dX4_canKnitRow_45 (by decide) ?_
        refine lv_goto (tgt := 50) hx hb dX4_canKnitRow_46 (by decide) ?_
        exact W.zret (v := nI 1) hx hb hrt (by decide) (fun t ht hW => ⟨⟨_, (), rfl, by rw [kb_t ⟨c14, c28, c42⟩], kV_eq ht hV⟩, hS.F ht⟩) hS.2.2 dX4_canKnitRow_50
set_option maxHeartbeats 4000000 in
set_option maxRecDepth 100000 in
theorem c_X4_knitUpTo (l : Launch) (G : kG) (h : Nat) (al : Nat) (pa : Nat) (hc : Nat) (as1 : Nat) (ay1 : Nat) (pe : Nat) (dn : Nat) (lnum : Nat) (ga : Nat) (lp : Nat) (ya : Nat) (num : Nat) (ow : Nat) (pr : Nat) (hp : Nat) (bo : Nat) (org : Option Nat) (tk : Nat) (ba : Nat) (rc : Nat) (nw : Nat) (F : Nat → Nat) (Y : Nat → Nat) (wr : va_W) (n : Nat) (hrc : rc ≤ 40) (hd : dn ≤ 40) (hpe : pe < 5) (hlp : lp < 5) (hya : ya ≤ 100000) (hgy : ∀ d, ga * Y d ≤ 100000) (hn : n ≤ 40) : Met l yX4_knitUpTo wsX4_knitUpTo ({ frames := 3, cells := 0, slots := 0, locals := 61 } : Room) (kPc G [.ref (h), .int (nI (n))] ([(h, .inr (5, [.int (nI (pe)), .ref (pa), .ref (al), .int (nI (dn))])), (al, .inr (2, [.int (nI (lnum)), .int (nI (ga)), .int (nI (lp)), .int (nI (ya))])), (pa, .inr (3, [.int (nI (num)), .int (nI (ow)), .int (nI (pr)), .ref (hp), .ref (hc), .ref (bo), va_rf (org), .int (nI (tk)), .int (nI (ba))])), (hc, .inr (1, [.int (nI (rc)), .ref (as1), .ref (ay1), .int (nI (nw))])), (as1, aN (kcI G) 1600 F), (ay1, aN (kcI G) 40 Y)] ++ wr)) (kQi G (S := Unit) (fun z _ => z = nI (kuN rc ga (lp = pe) Y n dn ya).1) (fun _ => [(h, .inr (5, [.int (nI (pe)), .ref (pa), .ref (al), .int (nI ((kuN rc ga (lp = pe) Y n dn ya).2.1))])), (al, .inr (2, [.int (nI (lnum)), .int (nI (ga)), .int (nI (lp)), .int (nI ((kuN rc ga (lp = pe) Y n dn ya).2.2))])), (pa, .inr (3, [.int (nI (num)), .int (nI (ow)), .int (nI (pr)), .ref (hp), .ref (hc), .ref (bo), va_rf (org), .int (nI (tk)), .int (nI (ba))])), (hc, .inr (1, [.int (nI (rc)), .ref (as1), .ref (ay1), .int (nI (nw))])), (as1, aN (kcI G) 1600 F), (ay1, aN (kcI G) 40 Y)] ++ wr)) 0 0 (kA G) := by
  refine Met.ofW (cc := cX4_knitUpTo) (maxL := 3) (ret := (some .int)) (by decide) rfl ?_
  intro pp ee s m args below meth cc0 s₁ Bd0 hml hv
  obtain ⟨rfl, hE, hV⟩ := hv
  have hK := hE.1
  have hx := Bd0.exec
  have hb := Bd0.bytes
  have hrt := Bd0.returns
  have hts := atoms_spec (ws := wsX4_knitUpTo) Bd0.pre
  have hown : s.vm.findClass RX4 = some m.cls := findClass_of_methodNamed Bd0.named
  have hlocks := Bd0.notSynchronized
  have hF : CallFix pp m cc0 cX4_knitUpTo 3 s _ wsX4_knitUpTo RX4 := ⟨hx, hb, hml, hown, hts⟩
  have hinX1 : ∀ w ∈ wsX10, w ∈ wsX4_knitUpTo := tb_of [29, 30, 31, 32] rfl
  have hinX4 : ∀ w ∈ wsX40, w ∈ wsX4_knitUpTo := tb_of [25, 26, 27, 28] rfl
  have hS : va_S (kA G) s.heap s.heap [] := va_S.rf
  have hB0 := hE.2.1
  have hl := lv_entry ([.ref (h), .int (nI (n))]) (n := 3) (Nat.le_of_ble_eq_true rfl)
  rw [lg_entry_eq]
  generalize (lg_sl ([.ref (h), .int (nI (n))]) ++ List.replicate (3 - (lg_sl ([.ref (h), .int (nI (n))])).length) Slot.unset).toArray = ls at hl ⊢
  have hl : lv_has ls 3 [(0, .ref (h)), (1, .int (nI (n)))] := hl
  refine lv_iconst (v := nI 0) hx hb dX4_knitUpTo_0 (by decide) ?_
  refine lv_istore_n (lv' := [(2, .int (nI (0))), (0, .ref (h)), (1, .int (nI (n)))]) hx hb dX4_knitUpTo_1 rfl hl (by decide) rfl (fun ls hl => ?_)
  have L2 : ∀ (nL2 : Nat) (i : Nat) (d : Nat) (y : Nat) (hi : i ≤ n) (hd9 : d ≤ 40) (hy9 : y ≤ 100000) (hN : (kuN rc ga (lp = pe) Y (n - i) d y).1 + i = (kuN rc ga (lp = pe) Y n dn ya).1 ∧ (kuN rc ga (lp = pe) Y (n - i) d y).2 = (kuN rc ga (lp = pe) Y n dn ya).2) (hmL2 : n - i < nL2) (H : Heap) (locs : List Loc), kV G ([(h, .inr (5, [.int (nI (pe)), .ref (pa), .ref (al), .int (nI (d))])), (al, .inr (2, [.int (nI (lnum)), .int (nI (ga)), .int (nI (lp)), .int (nI (y))])), (pa, .inr (3, [.int (nI (num)), .int (nI (ow)), .int (nI (pr)), .ref (hp), .ref (hc), .ref (bo), va_rf (org), .int (nI (tk)), .int (nI (ba))])), (hc, .inr (1, [.int (nI (rc)), .ref (as1), .ref (ay1), .int (nI (nw))])), (as1, aN (kcI G) 1600 F), (ay1, aN (kcI G) 40 Y)] ++ wr) H → va_S (kA G) s.heap H locs → ∀ (ls : Array Slot), lv_has ls 3 [(0, .ref (h)), (1, .int (nI (n))), (2, .int (nI (i)))] → W pp l ee (headSpec wsX4_knitUpTo ({ frames := 3, cells := 0, slots := 0, locals := 61 } : Room)).room s m [.ref (h), .int (nI (n))].toArray below meth cc0 H locs 0 0 (MQ below (kQi G (S := Unit) (fun z _ => z = nI (kuN rc ga (lp = pe) Y n dn ya).1) (fun _ => [(h, .inr (5, [.int (nI (pe)), .ref (pa), .ref (al), .int (nI ((kuN rc ga (lp = pe) Y n dn ya).2.1))])), (al, .inr (2, [.int (nI (lnum)), .int (nI (ga)), .int (nI (lp)), .int (nI ((kuN rc ga (lp = pe) Y n dn ya).2.2))])), (pa, .inr (3, [.int (nI (num)), .int (nI (ow)), .int (nI (pr)), .ref (hp), .ref (hc), .ref (bo), va_rf (org), .int (nI (tk)), .int (nI (ba))])), (hc, .inr (1, [.int (nI (rc)), .ref (as1), .ref (ay1), .int (nI (nw))])), (as1, aN (kcI G) 1600 F), (ay1, aN (kcI G) 40 Y)] ++ wr)) [.ref (h), .int (nI (n))].toArray s 0 0 (kA G)) (F0 m 2 ls []) := by
    intro nL2
    induction nL2 with
    | zero => intro i d y hi hd9 hy9 hN hmL2; exact absurd hmL2 (Nat.not_lt_zero _)
    | succ nL2 ihL2 =>
      intro i d y hi hd9 hy9 hN hmL2 H locs hV hS ls hl
      refine lv_iload_n hx hb dX4_knitUpTo_2 rfl (lv_at hl 2 rfl) ?_
      refine lv_iload_n hx hb dX4_knitUpTo_3 rfl (lv_at hl 1 rfl) ?_
      refine kn_ge (tgt := 46) hx hb (by omega) (by omega) dX4_knitUpTo_4 (by decide) (fun c4 => ?_) (fun c4 => ?_)
      · refine lv_iload_n hx hb dX4_knitUpTo_46 rfl (lv_at hl 2 rfl) ?_
        have hN2 := hN
        rw [show n - i = 0 from by omega] at hN2
        obtain ⟨hN3, hN4⟩ := hN2
        have hN3 : 0 + i = (kuN rc ga (lp = pe) Y n dn ya).1 := hN3
        have hN4 : (d, y) = (kuN rc ga (lp = pe) Y n dn ya).2 := hN4
        exact W.iret (v := nI i) hx hb hrt (fun t ht hW => ⟨⟨_, (), rfl, by rw [← hN3, Nat.zero_add], kV_eq ht (by rw [← hN4]; exact hV)⟩, hS.F ht⟩) hS.2.2 dX4_knitUpTo_47
      · refine lv_aload_n hx hb dX4_knitUpTo_7 rfl (lv_at hl 0 rfl) ?_
        refine kc_i (va_runV (As := []) (rest := []) hF (c_X4_canKnitRow l G h al pa hc as1 ay1 pe d lnum ga lp y num ow pr hp bo org tk ba rc nw F Y wr (by omega) (by omega) (by omega) (by omega) (by omega) (by omega)) (cwV 0 hts gX4_knitUpTo_X4_canKnitRow rfl rfl rfl (by decide +kernel) ⟨Nat.le_of_ble_eq_true rfl, Nat.le_of_ble_eq_true rfl⟩) (kPreV hE hS hV 0 rfl rfl) rfl rfl hl.1 rfl (lv_room (Nat.le_of_ble_eq_true rfl)) dX4_knitUpTo_8 ⟨Nat.le_of_ble_eq_true rfl, Nat.le_of_ble_eq_true rfl⟩) hS (fun r_3 u_2 H locs hp_1 hV hS => ?_)
        subst hp_1
        have hV : kV G ([(h, .inr (5, [.int (nI (pe)), .ref (pa), .ref (al), .int (nI (d))])), (al, .inr (2, [.int (nI (lnum)), .int (nI (ga)), .int (nI (lp)), .int (nI (y))])), (pa, .inr (3, [.int (nI (num)), .int (nI (ow)), .int (nI (pr)), .ref (hp), .ref (hc), .ref (bo), va_rf (org), .int (nI (tk)), .int (nI (ba))])), (hc, .inr (1, [.int (nI (rc)), .ref (as1), .ref (ay1), .int (nI (nw))])), (as1, aN (kcI G) 1600 F), (ay1, aN (kcI G) 40 Y)] ++ wr) _ := hV
        refine kb_if_eq (tgt := 46) hx hb dX4_knitUpTo_11 (by decide) (fun c11 => ?_) (fun c11 => ?_)
        · refine lv_iload_n hx hb dX4_knitUpTo_46 rfl (lv_at hl 2 rfl) ?_
          have hN2 := hN
          rcases Nat.exists_eq_succ_of_ne_zero (show n - i ≠ 0 by omega) with ⟨w9, hw9⟩
          rw [hw9, kuN_s, kif_f c11] at hN2
          obtain ⟨hN3, hN4⟩ := hN2
          have hN3 : 0 + i = (kuN rc ga (lp = pe) Y n dn ya).1 := hN3
          have hN4 : (d, y) = (kuN rc ga (lp = pe) Y n dn ya).2 := hN4
          exact W.iret (v := nI i) hx hb hrt (fun t ht hW => ⟨⟨_, (), rfl, by rw [← hN3, Nat.zero_add], kV_eq ht (by rw [← hN4]; exact hV)⟩, hS.F ht⟩) hS.2.2 dX4_knitUpTo_47
        · obtain ⟨k1, k2, k3⟩ := id c11
          refine lv_aload_n hx hb dX4_knitUpTo_14 rfl (lv_at hl 0 rfl) ?_
          refine va_get (D := kD G) (ci := 5) (v := .ref (al)) (C := RX4) (T := TX4) (N := 4) hx hb hts hinX4 hown hK hV.1 0 rfl rfl 2 (by decide) (hts (Cond.fieldLink RX4 20 "Yarncourt$Project" "lot" "LYarncourt$Lot;") (List.mem_of_getElem? (i := 1) rfl)) (fun _ h9 => h9) rfl dX4_knitUpTo_15 ?_
          refine lv_dup hx hb dX4_knitUpTo_18 rfl ?_
          refine va_get (D := kD G) (ci := 2) (v := .int (nI (y))) (C := RX1) (T := TX1) (N := 4) hx hb hts hinX1 hown hK hV.1 1 rfl rfl 3 (by decide) (hts (Cond.fieldLink RX4 28 "Yarncourt$Lot" "yarn" "I") (List.mem_of_getElem? (i := 2) rfl)) (fun _ h9 => h9) rfl dX4_knitUpTo_19 ?_
          refine lv_aload_n hx hb dX4_knitUpTo_22 rfl (lv_at hl 0 rfl) ?_
          refine kc_i (va_runV (As := []) (rest := [.int (nI (y)), .ref (al)]) hF (c_X4_yarnOfNextRow l G h al pa hc as1 ay1 pe d lnum ga lp y num ow pr hp bo org tk ba rc nw F Y wr (by omega)) (cwV 0 hts gX4_knitUpTo_X4_yarnOfNextRow rfl rfl rfl (by decide +kernel) ⟨Nat.le_of_ble_eq_true rfl, Nat.le_of_ble_eq_true rfl⟩) (kPreV hE hS hV 0 rfl rfl) rfl rfl hl.1 rfl (lv_room (Nat.le_of_ble_eq_true rfl)) dX4_knitUpTo_23 ⟨Nat.le_of_ble_eq_true rfl, Nat.le_of_ble_eq_true rfl⟩) hS (fun r_6 u_5 H locs hp_4 hV hS => ?_)
          subst hp_4
          have hV : kV G ([(h, .inr (5, [.int (nI (pe)), .ref (pa), .ref (al), .int (nI (d))])), (al, .inr (2, [.int (nI (lnum)), .int (nI (ga)), .int (nI (lp)), .int (nI (y))])), (pa, .inr (3, [.int (nI (num)), .int (nI (ow)), .int (nI (pr)), .ref (hp), .ref (hc), .ref (bo), va_rf (org), .int (nI (tk)), .int (nI (ba))])), (hc, .inr (1, [.int (nI (rc)), .ref (as1), .ref (ay1), .int (nI (nw))])), (as1, aN (kcI G) 1600 F), (ay1, aN (kcI G) 40 Y)] ++ wr) _ := hV
          refine kn_sub hx hb (by omega) dX4_knitUpTo_26 ?_
          refine va_put (D := kD G) (ci := 2) (v := .int (nI (y - (ga * Y d)))) (ty := .int) (C := RX1) (T := TX1) (N := 4) hx hb hts hinX1 tyX1 tyX1_ok nmX1 hown hK hV.1 hV.2 hS 1 rfl rfl 3 (by decide) (hts (Cond.fieldLink RX4 28 "Yarncourt$Lot" "yarn" "I") (List.mem_of_getElem? (i := 2) rfl)) (fun _ h9 => h9) rfl (by decide +kernel) rfl rfl (Nat.le_of_ble_eq_true rfl) dX4_knitUpTo_27 (fun H locs hP hD hS => ?_)
          have hV : kV G ([(h, .inr (5, [.int (nI (pe)), .ref (pa), .ref (al), .int (nI (d))])), (al, .inr (2, [.int (nI (lnum)), .int (nI (ga)), .int (nI (lp)), .int (nI (y - (ga * Y d)))])), (pa, .inr (3, [.int (nI (num)), .int (nI (ow)), .int (nI (pr)), .ref (hp), .ref (hc), .ref (bo), va_rf (org), .int (nI (tk)), .int (nI (ba))])), (hc, .inr (1, [.int (nI (rc)), .ref (as1), .ref (ay1), .int (nI (nw))])), (as1, aN (kcI G) 1600 F), (ay1, aN (kcI G) 40 Y)] ++ wr) _ := ⟨hP, hD⟩
          refine lv_aload_n hx hb dX4_knitUpTo_30 rfl (lv_at hl 0 rfl) ?_
          refine lv_dup hx hb dX4_knitUpTo_31 rfl ?_
          refine va_get (D := kD G) (ci := 5) (v := .int (nI (d))) (C := RX4) (T := TX4) (N := 4) hx hb hts hinX4 hown hK hV.1 0 rfl rfl 3 (by decide) (hts (Cond.fieldLink RX4 7 "Yarncourt$Project" "knitted" "I") (List.mem_of_getElem? (i := 3) rfl)) (fun _ h9 => h9) rfl dX4_knitUpTo_32 ?_
          refine lv_iconst (v := nI 1) hx hb dX4_knitUpTo_35 (by decide) ?_
          refine kn_add hx hb dX4_knitUpTo_36 ?_
          refine va_put (D := kD G) (ci := 5) (v := .int (nI (d + 1))) (ty := .int) (C := RX4) (T := TX4) (N := 4) hx hb hts hinX4 tyX4 tyX4_ok nmX4 hown hK hV.1 hV.2 hS 0 rfl rfl 3 (by decide) (hts (Cond.fieldLink RX4 7 "Yarncourt$Project" "knitted" "I") (List.mem_of_getElem? (i := 3) rfl)) (fun _ h9 => h9) rfl (by decide +kernel) rfl rfl (Nat.le_of_ble_eq_true rfl) dX4_knitUpTo_37 (fun H locs hP hD hS => ?_)
          have hV : kV G ([(h, .inr (5, [.int (nI (pe)), .ref (pa), .ref (al), .int (nI (d + 1))])), (al, .inr (2, [.int (nI (lnum)), .int (nI (ga)), .int (nI (lp)), .int (nI (y - (ga * Y d)))])), (pa, .inr (3, [.int (nI (num)), .int (nI (ow)), .int (nI (pr)), .ref (hp), .ref (hc), .ref (bo), va_rf (org), .int (nI (tk)), .int (nI (ba))])), (hc, .inr (1, [.int (nI (rc)), .ref (as1), .ref (ay1), .int (nI (nw))])), (as1, aN (kcI G) 1600 F), (ay1, aN (kcI G) 40 Y)] ++ wr) _ := ⟨hP, hD⟩
          refine lv_iinc (lv' := [(2, .int (nI (i + 1))), (0, .ref (h)), (1, .int (nI (n)))]) hx hb dX4_knitUpTo_40 hl (k := 2) rfl (kn_iinc i 1) (by decide) rfl (fun ls hl => ?_)
          refine lv_goto (tgt := 2) hx hb dX4_knitUpTo_43 (by decide) ?_
          have hN2 := hN
          rw [show n - i = (n - (i + 1)) + 1 from by omega, kuN_s, kif_t c11] at hN2
          exact ihL2 (i + 1) (d + 1) (y - (ga * Y d)) (by omega) (by omega) (by omega) ⟨by have := hN2.1; dsimp only at this; omega, hN2.2⟩ (by omega) _ _ hV hS ls (lv_sub hl [1, 2, 0] rfl)
  exact L2 ((n - 0) + 1) 0 dn ya (by omega) hd hya ⟨by rw [Nat.sub_zero]; rfl, by rw [Nat.sub_zero]⟩ (Nat.lt_succ_self _) _ _ hV hS ls (lv_sub hl [1, 2, 0] rfl)
