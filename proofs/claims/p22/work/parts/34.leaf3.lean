set_option maxHeartbeats 4000000 in
set_option maxRecDepth 100000 in
theorem c_X2_isPublished (l : Launch) (G : kG) (pa : Nat) (bo : Nat) (hp : Nat) (ak : Nat) (au : Nat) (az : Nat) (at1 : Nat) (hc : Nat) (as1 : Nat) (ay1 : Nat) (num : Nat) (ow : Nat) (pr : Nat) (org : Option Nat) (tk : Nat) (ba : Nat) (w : Nat) (q : kP) (B : Nat → Nat) (wr : va_W) : Met l yX2_isPublished wsX2_isPublished ({ frames := 0, cells := 0, slots := 0, locals := 0 } : Room) (kPc G [.ref (pa)] ([(pa, .inr (3, [.int (nI (num)), .int (nI (ow)), .int (nI (pr)), .ref (hp), .ref (hc), .ref (bo), va_rf (org), .int (nI (tk)), .int (nI (ba))])), (bo, aN (kcZ G) 5 B), (hp, .inr (4, [.int (nI (w)), .ref (ak), .ref (au), .ref (az), .ref (at1), .int (nI (q.1.2.2))])), (ak, aN (kcI G) 6 q.2.1.1), (au, aN (kcI G) 6 q.2.1.2.1), (az, aZ (kcI G) 6 q.2.1.2.2.1), (at1, aN (kcI G) 6 q.2.1.2.2.2), (hc, .inr (1, [.int (nI (q.1.1)), .ref (as1), .ref (ay1), .int (nI (q.1.2.1))])), (as1, aN (kcI G) 1600 q.2.2.1), (ay1, aN (kcI G) 40 q.2.2.2)] ++ wr)) (kQi G (S := Unit) (fun z _ => z = nI (kb (org ≠ none))) (fun _ => [(pa, .inr (3, [.int (nI (num)), .int (nI (ow)), .int (nI (pr)), .ref (hp), .ref (hc), .ref (bo), va_rf (org), .int (nI (tk)), .int (nI (ba))])), (bo, aN (kcZ G) 5 B), (hp, .inr (4, [.int (nI (w)), .ref (ak), .ref (au), .ref (az), .ref (at1), .int (nI (q.1.2.2))])), (ak, aN (kcI G) 6 q.2.1.1), (au, aN (kcI G) 6 q.2.1.2.1), (az, aZ (kcI G) 6 q.2.1.2.2.1), (at1, aN (kcI G) 6 q.2.1.2.2.2), (hc, .inr (1, [.int (nI (q.1.1)), .ref (as1), .ref (ay1), .int (nI (q.1.2.1))])), (as1, aN (kcI G) 1600 q.2.2.1), (ay1, aN (kcI G) 40 q.2.2.2)] ++ wr)) 0 0 (kA G) := by
  refine Met.ofW (cc := cX2_isPublished) (maxL := 1) (ret := (some .boolean)) (by decide) rfl ?_
  intro pp ee s m args below meth cc0 s₁ Bd0 hml hv
  obtain ⟨rfl, hE, hV⟩ := hv
  have hK := hE.1
  have hx := Bd0.exec
  have hb := Bd0.bytes
  have hrt := Bd0.returns
  have hts := atoms_spec (ws := wsX2_isPublished) Bd0.pre
  have hown : s.vm.findClass RX2 = some m.cls := findClass_of_methodNamed Bd0.named
  have hlocks := Bd0.notSynchronized
  have hF : CallFix pp m cc0 cX2_isPublished 1 s _ wsX2_isPublished RX2 := ⟨hx, hb, hml, hown, hts⟩
  have hinX2 : ∀ w ∈ wsX20, w ∈ wsX2_isPublished := tb_of [2, 3, 4, 5, 6, 7, 8, 9, 10] rfl
  have hS : va_S (kA G) s.heap s.heap [] := va_S.rf
  have hB0 := hE.2.1
  have hl := lv_entry ([.ref (pa)]) (n := 1) (Nat.le_of_ble_eq_true rfl)
  rw [lg_entry_eq]
  generalize (lg_sl ([.ref (pa)]) ++ List.replicate (1 - (lg_sl ([.ref (pa)])).length) Slot.unset).toArray = ls at hl ⊢
  have hl : lv_has ls 1 [(0, .ref (pa))] := hl
  refine lv_aload_n hx hb dX2_isPublished_0 rfl (lv_at hl 0 rfl) ?_
  refine va_get (D := kD G) (ci := 3) (v := va_rf (org)) (C := RX2) (T := TX2) (N := 9) hx hb hts hinX2 hown hK hV.1 0 rfl rfl 6 (by decide) (hts (Cond.fieldLink RX2 15 "Yarncourt$Pattern" "original" "LYarncourt$Pattern;") (List.mem_of_getElem? (i := 1) rfl)) (fun _ h9 => h9) rfl dX2_isPublished_1 ?_
  refine kq_ifnull (tgt := 11) hx hb dX2_isPublished_4 (by decide) (fun c4 => ?_) (fun c4 => ?_)
  · refine lv_iconst (v := nI 0) hx hb dX2_isPublished_11 (by decide) ?_
    exact W.zret (v := nI 0) hx hb hrt (by decide) (fun t ht hW => ⟨⟨_, (), rfl, by rw [kb_f (fun z => z c4)], kV_eq ht hV⟩, hS.F ht⟩) hS.2.2 dX2_isPublished_12
  · refine lv_iconst (v := nI 1) hx hb dX2_isPublished_7 (by decide) ?_
    refine lv_goto (tgt := 12) hx hb dX2_isPublished_8 (by decide) ?_
    exact W.zret (v := nI 1) hx hb hrt (by decide) (fun t ht hW => ⟨⟨_, (), rfl, by rw [kb_t c4], kV_eq ht hV⟩, hS.F ht⟩) hS.2.2 dX2_isPublished_12
set_option maxHeartbeats 4000000 in
set_option maxRecDepth 100000 in
theorem c_X2_hasNoLines (l : Launch) (G : kG) (pa : Nat) (bo : Nat) (hp : Nat) (ak : Nat) (au : Nat) (az : Nat) (at1 : Nat) (hc : Nat) (as1 : Nat) (ay1 : Nat) (num : Nat) (ow : Nat) (pr : Nat) (org : Option Nat) (tk : Nat) (ba : Nat) (w : Nat) (q : kP) (B : Nat → Nat) (wr : va_W) (hn : q.1.2.2 < 2 ^ 31) : Met l yX2_hasNoLines wsX2_hasNoLines ({ frames := 0, cells := 0, slots := 0, locals := 0 } : Room) (kPc G [.ref (pa)] ([(pa, .inr (3, [.int (nI (num)), .int (nI (ow)), .int (nI (pr)), .ref (hp), .ref (hc), .ref (bo), va_rf (org), .int (nI (tk)), .int (nI (ba))])), (bo, aN (kcZ G) 5 B), (hp, .inr (4, [.int (nI (w)), .ref (ak), .ref (au), .ref (az), .ref (at1), .int (nI (q.1.2.2))])), (ak, aN (kcI G) 6 q.2.1.1), (au, aN (kcI G) 6 q.2.1.2.1), (az, aZ (kcI G) 6 q.2.1.2.2.1), (at1, aN (kcI G) 6 q.2.1.2.2.2), (hc, .inr (1, [.int (nI (q.1.1)), .ref (as1), .ref (ay1), .int (nI (q.1.2.1))])), (as1, aN (kcI G) 1600 q.2.2.1), (ay1, aN (kcI G) 40 q.2.2.2)] ++ wr)) (kQi G (S := Unit) (fun z _ => z = nI (kb (q.1.2.2 = 0))) (fun _ => [(pa, .inr (3, [.int (nI (num)), .int (nI (ow)), .int (nI (pr)), .ref (hp), .ref (hc), .ref (bo), va_rf (org), .int (nI (tk)), .int (nI (ba))])), (bo, aN (kcZ G) 5 B), (hp, .inr (4, [.int (nI (w)), .ref (ak), .ref (au), .ref (az), .ref (at1), .int (nI (q.1.2.2))])), (ak, aN (kcI G) 6 q.2.1.1), (au, aN (kcI G) 6 q.2.1.2.1), (az, aZ (kcI G) 6 q.2.1.2.2.1), (at1, aN (kcI G) 6 q.2.1.2.2.2), (hc, .inr (1, [.int (nI (q.1.1)), .ref (as1), .ref (ay1), .int (nI (q.1.2.1))])), (as1, aN (kcI G) 1600 q.2.2.1), (ay1, aN (kcI G) 40 q.2.2.2)] ++ wr)) 0 0 (kA G) := by
  refine Met.ofW (cc := cX2_hasNoLines) (maxL := 1) (ret := (some .boolean)) (by decide) rfl ?_
  intro pp ee s m args below meth cc0 s₁ Bd0 hml hv
  obtain ⟨rfl, hE, hV⟩ := hv
  have hK := hE.1
  have hx := Bd0.exec
  have hb := Bd0.bytes
  have hrt := Bd0.returns
  have hts := atoms_spec (ws := wsX2_hasNoLines) Bd0.pre
  have hown : s.vm.findClass RX2 = some m.cls := findClass_of_methodNamed Bd0.named
  have hlocks := Bd0.notSynchronized
  have hF : CallFix pp m cc0 cX2_hasNoLines 1 s _ wsX2_hasNoLines RX2 := ⟨hx, hb, hml, hown, hts⟩
  have hinX2 : ∀ w ∈ wsX20, w ∈ wsX2_hasNoLines := tb_of [2, 3, 4, 5, 6, 7, 8, 9, 10] rfl
  have hinX3 : ∀ w ∈ wsX30, w ∈ wsX2_hasNoLines := tb_of [11, 12, 13, 14, 15, 16] rfl
  have hS : va_S (kA G) s.heap s.heap [] := va_S.rf
  have hB0 := hE.2.1
  have hl := lv_entry ([.ref (pa)]) (n := 1) (Nat.le_of_ble_eq_true rfl)
  rw [lg_entry_eq]
  generalize (lg_sl ([.ref (pa)]) ++ List.replicate (1 - (lg_sl ([.ref (pa)])).length) Slot.unset).toArray = ls at hl ⊢
  have hl : lv_has ls 1 [(0, .ref (pa))] := hl
  refine lv_aload_n hx hb dX2_hasNoLines_0 rfl (lv_at hl 0 rfl) ?_
  refine va_get (D := kD G) (ci := 3) (v := .ref (hp)) (C := RX2) (T := TX2) (N := 9) hx hb hts hinX2 hown hK hV.1 0 rfl rfl 3 (by decide) (hts (Cond.fieldLink RX2 41 "Yarncourt$Pattern" "program" "LYarncourt$Program;") (List.mem_of_getElem? (i := 1) rfl)) (fun _ h9 => h9) rfl dX2_hasNoLines_1 ?_
  refine va_getN (D := kD G) (ci := 4) (v := .int (nI (q.1.2.2))) (C := RX3) (T := TX3) (N := 6) hx hb hts hinX3 hown hK hV.1 2 rfl rfl 5 (by decide) ((hE.2.2.1 (Cond.fieldLinkNest "Yarncourt$Pattern" 52 "Yarncourt$Program" "lineCount" "I" "Yarncourt") (by decide +kernel)).use rfl) (fun _ h9 => h9) rfl dX2_hasNoLines_4 ?_
  refine kn_if_ne (tgt := 14) hx hb (by omega) dX2_hasNoLines_7 (by decide) (fun c7 => ?_) (fun c7 => ?_)
  · refine lv_iconst (v := nI 0) hx hb dX2_hasNoLines_14 (by decide) ?_
    exact W.zret (v := nI 0) hx hb hrt (by decide) (fun t ht hW => ⟨⟨_, (), rfl, by rw [kb_f c7], kV_eq ht hV⟩, hS.F ht⟩) hS.2.2 dX2_hasNoLines_15
  · refine lv_iconst (v := nI 1) hx hb dX2_hasNoLines_10 (by decide) ?_
    refine lv_goto (tgt := 15) hx hb dX2_hasNoLines_11 (by decide) ?_
    exact W.zret (v := nI 1) hx hb hrt (by decide) (fun t ht hW => ⟨⟨_, (), rfl, by rw [kb_t c7], kV_eq ht hV⟩, hS.F ht⟩) hS.2.2 dX2_hasNoLines_15
set_option maxHeartbeats 4000000 in
set_option maxRecDepth 100000 in
theorem c_X2_takesLine (l : Launch) (G : kG) (pa : Nat) (bo : Nat) (hp : Nat) (ak : Nat) (au : Nat) (az : Nat) (at1 : Nat) (hc : Nat) (as1 : Nat) (ay1 : Nat) (num : Nat) (ow : Nat) (pr : Nat) (org : Option Nat) (tk : Nat) (ba : Nat) (w : Nat) (q : kP) (B : Nat → Nat) (wr : va_W) (t : Nat) (hn : q.1.2.2 ≤ 6) (hrc : q.1.1 ≤ 40) (ht : t ≤ 20) : Met l yX2_takesLine wsX2_takesLine ({ frames := 0, cells := 0, slots := 0, locals := 0 } : Room) (kPc G [.ref (pa), .int (nI (t))] ([(pa, .inr (3, [.int (nI (num)), .int (nI (ow)), .int (nI (pr)), .ref (hp), .ref (hc), .ref (bo), va_rf (org), .int (nI (tk)), .int (nI (ba))])), (bo, aN (kcZ G) 5 B), (hp, .inr (4, [.int (nI (w)), .ref (ak), .ref (au), .ref (az), .ref (at1), .int (nI (q.1.2.2))])), (ak, aN (kcI G) 6 q.2.1.1), (au, aN (kcI G) 6 q.2.1.2.1), (az, aZ (kcI G) 6 q.2.1.2.2.1), (at1, aN (kcI G) 6 q.2.1.2.2.2), (hc, .inr (1, [.int (nI (q.1.1)), .ref (as1), .ref (ay1), .int (nI (q.1.2.1))])), (as1, aN (kcI G) 1600 q.2.2.1), (ay1, aN (kcI G) 40 q.2.2.2)] ++ wr)) (kQi G (S := Unit) (fun z _ => z = nI (kb (q.1.2.2 < 6 ∧ q.1.1 + t ≤ 40))) (fun _ => [(pa, .inr (3, [.int (nI (num)), .int (nI (ow)), .int (nI (pr)), .ref (hp), .ref (hc), .ref (bo), va_rf (org), .int (nI (tk)), .int (nI (ba))])), (bo, aN (kcZ G) 5 B), (hp, .inr (4, [.int (nI (w)), .ref (ak), .ref (au), .ref (az), .ref (at1), .int (nI (q.1.2.2))])), (ak, aN (kcI G) 6 q.2.1.1), (au, aN (kcI G) 6 q.2.1.2.1), (az, aZ (kcI G) 6 q.2.1.2.2.1), (at1, aN (kcI G) 6 q.2.1.2.2.2), (hc, .inr (1, [.int (nI (q.1.1)), .ref (as1), .ref (ay1), .int (nI (q.1.2.1))])), (as1, aN (kcI G) 1600 q.2.2.1), (ay1, aN (kcI G) 40 q.2.2.2)] ++ wr)) 0 0 (kA G) := by
  refine Met.ofW (cc := cX2_takesLine) (maxL := 2) (ret := (some .boolean)) (by decide) rfl ?_
  intro pp ee s m args below meth cc0 s₁ Bd0 hml hv
  obtain ⟨rfl, hE, hV⟩ := hv
  have hK := hE.1
  have hx := Bd0.exec
  have hb := Bd0.bytes
  have hrt := Bd0.returns
  have hts := atoms_spec (ws := wsX2_takesLine) Bd0.pre
  have hown : s.vm.findClass RX2 = some m.cls := findClass_of_methodNamed Bd0.named
  have hlocks := Bd0.notSynchronized
  have hF : CallFix pp m cc0 cX2_takesLine 2 s _ wsX2_takesLine RX2 := ⟨hx, hb, hml, hown, hts⟩
  have hinX0 : ∀ w ∈ wsX00, w ∈ wsX2_takesLine := tb_of [19, 20, 21, 22] rfl
  have hinX2 : ∀ w ∈ wsX20, w ∈ wsX2_takesLine := tb_of [4, 5, 6, 7, 8, 9, 10, 11, 12] rfl
  have hinX3 : ∀ w ∈ wsX30, w ∈ wsX2_takesLine := tb_of [13, 14, 15, 16, 17, 18] rfl
  have hS : va_S (kA G) s.heap s.heap [] := va_S.rf
  have hB0 := hE.2.1
  have hl := lv_entry ([.ref (pa), .int (nI (t))]) (n := 2) (Nat.le_of_ble_eq_true rfl)
  rw [lg_entry_eq]
  generalize (lg_sl ([.ref (pa), .int (nI (t))]) ++ List.replicate (2 - (lg_sl ([.ref (pa), .int (nI (t))])).length) Slot.unset).toArray = ls at hl ⊢
  have hl : lv_has ls 2 [(0, .ref (pa)), (1, .int (nI (t)))] := hl
  refine lv_aload_n hx hb dX2_takesLine_0 rfl (lv_at hl 0 rfl) ?_
  refine va_get (D := kD G) (ci := 3) (v := .ref (hp)) (C := RX2) (T := TX2) (N := 9) hx hb hts hinX2 hown hK hV.1 0 rfl rfl 3 (by decide) (hts (Cond.fieldLink RX2 41 "Yarncourt$Pattern" "program" "LYarncourt$Program;") (List.mem_of_getElem? (i := 1) rfl)) (fun _ h9 => h9) rfl dX2_takesLine_1 ?_
  refine va_getN (D := kD G) (ci := 4) (v := .int (nI (q.1.2.2))) (C := RX3) (T := TX3) (N := 6) hx hb hts hinX3 hown hK hV.1 2 rfl rfl 5 (by decide) ((hE.2.2.1 (Cond.fieldLinkNest "Yarncourt$Pattern" 52 "Yarncourt$Program" "lineCount" "I" "Yarncourt") (by decide +kernel)).use rfl) (fun _ h9 => h9) rfl dX2_takesLine_4 ?_
  refine lv_bipush (v := nI 6) hx hb dX2_takesLine_7 (by decide) ?_
  refine kn_ge (tgt := 30) hx hb (by omega) (by decide) dX2_takesLine_9 (by decide) (fun c9 => ?_) (fun c9 => ?_)
  · refine lv_iconst (v := nI 0) hx hb dX2_takesLine_30 (by decide) ?_
    exact W.zret (v := nI 0) hx hb hrt (by decide) (fun t ht hW => ⟨⟨_, (), rfl, by rw [kb_f (fun z => by have := z.1; omega)], kV_eq ht hV⟩, hS.F ht⟩) hS.2.2 dX2_takesLine_31
  · refine lv_aload_n hx hb dX2_takesLine_12 rfl (lv_at hl 0 rfl) ?_
    refine va_get (D := kD G) (ci := 3) (v := .ref (hc)) (C := RX2) (T := TX2) (N := 9) hx hb hts hinX2 hown hK hV.1 0 rfl rfl 4 (by decide) (hts (Cond.fieldLink RX2 48 "Yarncourt$Pattern" "chart" "LYarncourt$Chart;") (List.mem_of_getElem? (i := 2) rfl)) (fun _ h9 => h9) rfl dX2_takesLine_13 ?_
    refine va_get (D := kD G) (ci := 1) (v := .int (nI (q.1.1))) (C := RX0) (T := TX0) (N := 4) hx hb hts hinX0 hown hK hV.1 7 rfl rfl 0 (by decide) (hts (Cond.fieldLink RX2 55 "Yarncourt$Chart" "rowCount" "I") (List.mem_of_getElem? (i := 3) rfl)) (fun _ h9 => h9) rfl dX2_takesLine_16 ?_
    refine lv_iload_n hx hb dX2_takesLine_19 rfl (lv_at hl 1 rfl) ?_
    refine kn_add hx hb dX2_takesLine_20 ?_
    refine lv_bipush (v := nI 40) hx hb dX2_takesLine_21 (by decide) ?_
    refine kn_gt (tgt := 30) hx hb (by omega) (by decide) dX2_takesLine_23 (by decide) (fun c23 => ?_) (fun c23 => ?_)
    · refine lv_iconst (v := nI 0) hx hb dX2_takesLine_30 (by decide) ?_
      exact W.zret (v := nI 0) hx hb hrt (by decide) (fun t ht hW => ⟨⟨_, (), rfl, by rw [kb_f (fun z => by have := z.2; omega)], kV_eq ht hV⟩, hS.F ht⟩) hS.2.2 dX2_takesLine_31
    · refine lv_iconst (v := nI 1) hx hb dX2_takesLine_26 (by decide) ?_
      refine lv_goto (tgt := 31) hx hb dX2_takesLine_27 (by decide) ?_
      exact W.zret (v := nI 1) hx hb hrt (by decide) (fun t ht hW => ⟨⟨_, (), rfl, by rw [kb_t ⟨c9, c23⟩], kV_eq ht hV⟩, hS.F ht⟩) hS.2.2 dX2_takesLine_31
set_option maxHeartbeats 4000000 in
set_option maxRecDepth 100000 in
theorem c_X2_addLine (l : Launch) (G : kG) (pa : Nat) (bo : Nat) (hp : Nat) (ak : Nat) (au : Nat) (az : Nat) (at1 : Nat) (hc : Nat) (as1 : Nat) (ay1 : Nat) (num : Nat) (ow : Nat) (pr : Nat) (org : Option Nat) (tk : Nat) (ba : Nat) (w : Nat) (q : kP) (B : Nat → Nat) (wr : va_W) (k : Nat) (u : Nat) (z : Int) (t : Nat) (hn : q.1.2.2 < 6) (hrc : q.1.1 + t ≤ 40) (hnw : 1 ≤ q.1.2.1 ∧ q.1.2.1 ≤ 40) (hku : 1 ≤ k + u) (hk9 : k ≤ 9) (hu9 : u ≤ 9) (hz : -3 ≤ z ∧ z ≤ 3) : Met l yX2_addLine wsX2_addLine ({ frames := 4, cells := 0, slots := 0, locals := 89 } : Room) (kPc G [.ref (pa), .int (nI (k)), .int (nI (u)), .int (zI (z)), .int (nI (t))] ([(pa, .inr (3, [.int (nI (num)), .int (nI (ow)), .int (nI (pr)), .ref (hp), .ref (hc), .ref (bo), va_rf (org), .int (nI (tk)), .int (nI (ba))])), (bo, aN (kcZ G) 5 B), (hp, .inr (4, [.int (nI (w)), .ref (ak), .ref (au), .ref (az), .ref (at1), .int (nI (q.1.2.2))])), (ak, aN (kcI G) 6 q.2.1.1), (au, aN (kcI G) 6 q.2.1.2.1), (az, aZ (kcI G) 6 q.2.1.2.2.1), (at1, aN (kcI G) 6 q.2.1.2.2.2), (hc, .inr (1, [.int (nI (q.1.1)), .ref (as1), .ref (ay1), .int (nI (q.1.2.1))])), (as1, aN (kcI G) 1600 q.2.2.1), (ay1, aN (kcI G) 40 q.2.2.2)] ++ wr)) (kQv G (S := Unit) (fun _ => True) (fun _ => [(pa, .inr (3, [.int (nI (num)), .int (nI (ow)), .int (nI (pr)), .ref (hp), .ref (hc), .ref (bo), va_rf (org), .int (nI (tk)), .int (nI (ba))])), (bo, aN (kcZ G) 5 B), (hp, .inr (4, [.int (nI (w)), .ref (ak), .ref (au), .ref (az), .ref (at1), .int (nI ((adP q k u z t).1.2.2))])), (ak, aN (kcI G) 6 ((adP q k u z t).2.1.1)), (au, aN (kcI G) 6 ((adP q k u z t).2.1.2.1)), (az, aZ (kcI G) 6 ((adP q k u z t).2.1.2.2.1)), (at1, aN (kcI G) 6 ((adP q k u z t).2.1.2.2.2)), (hc, .inr (1, [.int (nI ((adP q k u z t).1.1)), .ref (as1), .ref (ay1), .int (nI ((adP q k u z t).1.2.1))])), (as1, aN (kcI G) 1600 ((adP q k u z t).2.2.1)), (ay1, aN (kcI G) 40 ((adP q k u z t).2.2.2))] ++ wr)) 0 0 (kA G) := by
  refine Met.ofW (cc := cX2_addLine) (maxL := 5) (ret := none) (by decide) rfl ?_
  intro pp ee s m args below meth cc0 s₁ Bd0 hml hv
  obtain ⟨rfl, hE, hV⟩ := hv
  have hK := hE.1
  have hx := Bd0.exec
  have hb := Bd0.bytes
  have hrt := Bd0.returns
  have hts := atoms_spec (ws := wsX2_addLine) Bd0.pre
  have hown : s.vm.findClass RX2 = some m.cls := findClass_of_methodNamed Bd0.named
  have hlocks := Bd0.notSynchronized
  have hF : CallFix pp m cc0 cX2_addLine 5 s _ wsX2_addLine RX2 := ⟨hx, hb, hml, hown, hts⟩
  have hinX2 : ∀ w ∈ wsX20, w ∈ wsX2_addLine := tb_of [39, 40, 41, 42, 43, 44, 45, 46, 47] rfl
  have hS : va_S (kA G) s.heap s.heap [] := va_S.rf
  have hB0 := hE.2.1
  have hl := lv_entry ([.ref (pa), .int (nI (k)), .int (nI (u)), .int (zI (z)), .int (nI (t))]) (n := 5) (Nat.le_of_ble_eq_true rfl)
  rw [lg_entry_eq]
  generalize (lg_sl ([.ref (pa), .int (nI (k)), .int (nI (u)), .int (zI (z)), .int (nI (t))]) ++ List.replicate (5 - (lg_sl ([.ref (pa), .int (nI (k)), .int (nI (u)), .int (zI (z)), .int (nI (t))])).length) Slot.unset).toArray = ls at hl ⊢
  have hl : lv_has ls 5 [(0, .ref (pa)), (1, .int (nI (k))), (2, .int (nI (u))), (3, .int (zI (z))), (4, .int (nI (t)))] := hl
  refine lv_aload_n hx hb dX2_addLine_0 rfl (lv_at hl 0 rfl) ?_
  refine va_get (D := kD G) (ci := 3) (v := .ref (hp)) (C := RX2) (T := TX2) (N := 9) hx hb hts hinX2 hown hK hV.1 0 rfl rfl 3 (by decide) (hts (Cond.fieldLink RX2 41 "Yarncourt$Pattern" "program" "LYarncourt$Program;") (List.mem_of_getElem? (i := 1) rfl)) (fun _ h9 => h9) rfl dX2_addLine_1 ?_
  refine lv_iload_n hx hb dX2_addLine_4 rfl (lv_at hl 1 rfl) ?_
  refine lv_iload_n hx hb dX2_addLine_5 rfl (lv_at hl 2 rfl) ?_
  refine lv_iload_n hx hb dX2_addLine_6 rfl (lv_at hl 3 rfl) ?_
  refine lv_iload hx hb dX2_addLine_7 (lv_at hl 4 rfl) ?_
  have hV : kV G ([(hp, .inr (4, [.int (nI (w)), .ref (ak), .ref (au), .ref (az), .ref (at1), .int (nI (q.1.2.2))])), (ak, aN (kcI G) 6 q.2.1.1), (au, aN (kcI G) 6 q.2.1.2.1), (az, aZ (kcI G) 6 q.2.1.2.2.1), (at1, aN (kcI G) 6 q.2.1.2.2.2), (pa, .inr (3, [.int (nI (num)), .int (nI (ow)), .int (nI (pr)), .ref (hp), .ref (hc), .ref (bo), va_rf (org), .int (nI (tk)), .int (nI (ba))])), (bo, aN (kcZ G) 5 B), (hc, .inr (1, [.int (nI (q.1.1)), .ref (as1), .ref (ay1), .int (nI (q.1.2.1))])), (as1, aN (kcI G) 1600 q.2.2.1), (ay1, aN (kcI G) 40 q.2.2.2)] ++ wr) _ := kV_part hV [2, 3, 4, 5, 6, 0, 1, 7, 8, 9] rfl rfl
  refine kc_v (va_runV (As := [.int (nI (k)), .int (nI (u)), .int (zI (z)), .int (nI (t))]) (rest := []) hF (c_X3_append l G hp ak au az at1 w q.1.2.2 q.2.1.1 q.2.1.2.1 q.2.1.2.2.1 q.2.1.2.2.2 ([(pa, .inr (3, [.int (nI (num)), .int (nI (ow)), .int (nI (pr)), .ref (hp), .ref (hc), .ref (bo), va_rf (org), .int (nI (tk)), .int (nI (ba))])), (bo, aN (kcZ G) 5 B), (hc, .inr (1, [.int (nI (q.1.1)), .ref (as1), .ref (ay1), .int (nI (q.1.2.1))])), (as1, aN (kcI G) 1600 q.2.2.1), (ay1, aN (kcI G) 40 q.2.2.2)] ++ wr) k u z t (by omega)) (cwV 4 hts gX2_addLine_X3_append rfl rfl rfl (by decide +kernel) ⟨Nat.le_of_ble_eq_true rfl, Nat.le_of_ble_eq_true rfl⟩) (kPreV hE hS hV 0 rfl rfl) rfl rfl hl.1 rfl (lv_room (Nat.le_of_ble_eq_true rfl)) dX2_addLine_9 ⟨Nat.le_of_ble_eq_true rfl, Nat.le_of_ble_eq_true rfl⟩) hS (fun u_2 H locs hp_1 hV hS => ?_)
  have hV : kV G ([(hp, .inr (4, [.int (nI (w)), .ref (ak), .ref (au), .ref (az), .ref (at1), .int (nI (q.1.2.2 + 1))])), (ak, aN (kcI G) 6 (va_up q.2.1.1 q.1.2.2 k)), (au, aN (kcI G) 6 (va_up q.2.1.2.1 q.1.2.2 u)), (az, aZ (kcI G) 6 (va_up q.2.1.2.2.1 q.1.2.2 z)), (at1, aN (kcI G) 6 (va_up q.2.1.2.2.2 q.1.2.2 t)), (pa, .inr (3, [.int (nI (num)), .int (nI (ow)), .int (nI (pr)), .ref (hp), .ref (hc), .ref (bo), va_rf (org), .int (nI (tk)), .int (nI (ba))])), (bo, aN (kcZ G) 5 B), (hc, .inr (1, [.int (nI (q.1.1)), .ref (as1), .ref (ay1), .int (nI (q.1.2.1))])), (as1, aN (kcI G) 1600 q.2.2.1), (ay1, aN (kcI G) 40 q.2.2.2)] ++ wr) _ := hV
  refine lv_aload_n hx hb dX2_addLine_12 rfl (lv_at hl 0 rfl) ?_
  refine va_get (D := kD G) (ci := 3) (v := .ref (hc)) (C := RX2) (T := TX2) (N := 9) hx hb hts hinX2 hown hK hV.1 5 rfl rfl 4 (by decide) (hts (Cond.fieldLink RX2 48 "Yarncourt$Pattern" "chart" "LYarncourt$Chart;") (List.mem_of_getElem? (i := 2) rfl)) (fun _ h9 => h9) rfl dX2_addLine_13 ?_
  refine lv_iload_n hx hb dX2_addLine_16 rfl (lv_at hl 1 rfl) ?_
  refine lv_iload_n hx hb dX2_addLine_17 rfl (lv_at hl 2 rfl) ?_
  refine lv_iload_n hx hb dX2_addLine_18 rfl (lv_at hl 3 rfl) ?_
  refine lv_iload hx hb dX2_addLine_19 (lv_at hl 4 rfl) ?_
  have hV : kV G ([(hc, .inr (1, [.int (nI (q.1.1)), .ref (as1), .ref (ay1), .int (nI (q.1.2.1))])), (as1, aN (kcI G) 1600 q.2.2.1), (ay1, aN (kcI G) 40 q.2.2.2), (hp, .inr (4, [.int (nI (w)), .ref (ak), .ref (au), .ref (az), .ref (at1), .int (nI (q.1.2.2 + 1))])), (ak, aN (kcI G) 6 (va_up q.2.1.1 q.1.2.2 k)), (au, aN (kcI G) 6 (va_up q.2.1.2.1 q.1.2.2 u)), (az, aZ (kcI G) 6 (va_up q.2.1.2.2.1 q.1.2.2 z)), (at1, aN (kcI G) 6 (va_up q.2.1.2.2.2 q.1.2.2 t)), (pa, .inr (3, [.int (nI (num)), .int (nI (ow)), .int (nI (pr)), .ref (hp), .ref (hc), .ref (bo), va_rf (org), .int (nI (tk)), .int (nI (ba))])), (bo, aN (kcZ G) 5 B)] ++ wr) _ := kV_part hV [7, 8, 9, 0, 1, 2, 3, 4, 5, 6] rfl rfl
  refine kc_v (va_runV (As := [.int (nI (k)), .int (nI (u)), .int (zI (z)), .int (nI (t))]) (rest := []) hF (c_X0_drawLine l G hc as1 ay1 q.1.1 q.1.2.1 q.2.2.1 q.2.2.2 ([(hp, .inr (4, [.int (nI (w)), .ref (ak), .ref (au), .ref (az), .ref (at1), .int (nI (q.1.2.2 + 1))])), (ak, aN (kcI G) 6 (va_up q.2.1.1 q.1.2.2 k)), (au, aN (kcI G) 6 (va_up q.2.1.2.1 q.1.2.2 u)), (az, aZ (kcI G) 6 (va_up q.2.1.2.2.1 q.1.2.2 z)), (at1, aN (kcI G) 6 (va_up q.2.1.2.2.2 q.1.2.2 t)), (pa, .inr (3, [.int (nI (num)), .int (nI (ow)), .int (nI (pr)), .ref (hp), .ref (hc), .ref (bo), va_rf (org), .int (nI (tk)), .int (nI (ba))])), (bo, aN (kcZ G) 5 B)] ++ wr) k u z t (by omega) (by omega) (by omega) (by omega) (by omega) (by omega)) (cwV 4 hts gX2_addLine_X0_drawLine rfl rfl rfl (by decide +kernel) ⟨Nat.le_of_ble_eq_true rfl, Nat.le_of_ble_eq_true rfl⟩) (kPreV hE hS hV 0 rfl rfl) rfl rfl hl.1 rfl (lv_room (Nat.le_of_ble_eq_true rfl)) dX2_addLine_21 ⟨Nat.le_of_ble_eq_true rfl, Nat.le_of_ble_eq_true rfl⟩) hS (fun u_5 H locs hp_4 hV hS => ?_)
  have hV : kV G ([(hc, .inr (1, [.int (nI (q.1.1 + t)), .ref (as1), .ref (ay1), .int (nI (wN q.1.2.1 z t))])), (as1, aN (kcI G) 1600 (dlF q.2.2.1 k u z q.1.2.1 q.1.1 t)), (ay1, aN (kcI G) 40 (dlY q.2.2.2 k u z q.1.2.1 q.1.1 t)), (hp, .inr (4, [.int (nI (w)), .ref (ak), .ref (au), .ref (az), .ref (at1), .int (nI (q.1.2.2 + 1))])), (ak, aN (kcI G) 6 (va_up q.2.1.1 q.1.2.2 k)), (au, aN (kcI G) 6 (va_up q.2.1.2.1 q.1.2.2 u)), (az, aZ (kcI G) 6 (va_up q.2.1.2.2.1 q.1.2.2 z)), (at1, aN (kcI G) 6 (va_up q.2.1.2.2.2 q.1.2.2 t)), (pa, .inr (3, [.int (nI (num)), .int (nI (ow)), .int (nI (pr)), .ref (hp), .ref (hc), .ref (bo), va_rf (org), .int (nI (tk)), .int (nI (ba))])), (bo, aN (kcZ G) 5 B)] ++ wr) _ := hV
  have hV : kV G ([(pa, .inr (3, [.int (nI (num)), .int (nI (ow)), .int (nI (pr)), .ref (hp), .ref (hc), .ref (bo), va_rf (org), .int (nI (tk)), .int (nI (ba))])), (bo, aN (kcZ G) 5 B), (hp, .inr (4, [.int (nI (w)), .ref (ak), .ref (au), .ref (az), .ref (at1), .int (nI (q.1.2.2 + 1))])), (ak, aN (kcI G) 6 (va_up q.2.1.1 q.1.2.2 k)), (au, aN (kcI G) 6 (va_up q.2.1.2.1 q.1.2.2 u)), (az, aZ (kcI G) 6 (va_up q.2.1.2.2.1 q.1.2.2 z)), (at1, aN (kcI G) 6 (va_up q.2.1.2.2.2 q.1.2.2 t)), (hc, .inr (1, [.int (nI (q.1.1 + t)), .ref (as1), .ref (ay1), .int (nI (wN q.1.2.1 z t))])), (as1, aN (kcI G) 1600 (dlF q.2.2.1 k u z q.1.2.1 q.1.1 t)), (ay1, aN (kcI G) 40 (dlY q.2.2.2 k u z q.1.2.1 q.1.1 t))] ++ wr) _ := kV_part hV [8, 9, 3, 4, 5, 6, 7, 0, 1, 2] rfl rfl
  exact W.vret hx hb hrt (fun t ht hW => ⟨⟨(), rfl, trivial, kV_eq ht hV⟩, hS.F ht⟩) hS.2.2 dX2_addLine_24
set_option maxHeartbeats 4000000 in
set_option maxRecDepth 100000 in
theorem c_X2_mayBeKnittedBy (l : Launch) (G : kG) (pa : Nat) (bo : Nat) (hp : Nat) (ak : Nat) (au : Nat) (az : Nat) (at1 : Nat) (hc : Nat) (as1 : Nat) (ay1 : Nat) (num : Nat) (ow : Nat) (pr : Nat) (org : Option Nat) (tk : Nat) (ba : Nat) (w : Nat) (q : kP) (B : Nat → Nat) (wr : va_W) (x : Nat) (hx5 : x < 5) (ho : ow < 5) (hB : B x ≤ 1) : Met l yX2_mayBeKnittedBy wsX2_mayBeKnittedBy ({ frames := 0, cells := 0, slots := 0, locals := 0 } : Room) (kPc G [.ref (pa), .int (nI (x))] ([(pa, .inr (3, [.int (nI (num)), .int (nI (ow)), .int (nI (pr)), .ref (hp), .ref (hc), .ref (bo), va_rf (org), .int (nI (tk)), .int (nI (ba))])), (bo, aN (kcZ G) 5 B), (hp, .inr (4, [.int (nI (w)), .ref (ak), .ref (au), .ref (az), .ref (at1), .int (nI (q.1.2.2))])), (ak, aN (kcI G) 6 q.2.1.1), (au, aN (kcI G) 6 q.2.1.2.1), (az, aZ (kcI G) 6 q.2.1.2.2.1), (at1, aN (kcI G) 6 q.2.1.2.2.2), (hc, .inr (1, [.int (nI (q.1.1)), .ref (as1), .ref (ay1), .int (nI (q.1.2.1))])), (as1, aN (kcI G) 1600 q.2.2.1), (ay1, aN (kcI G) 40 q.2.2.2)] ++ wr)) (kQi G (S := Unit) (fun z _ => z = nI (kb (x = ow ∨ B x = 1))) (fun _ => [(pa, .inr (3, [.int (nI (num)), .int (nI (ow)), .int (nI (pr)), .ref (hp), .ref (hc), .ref (bo), va_rf (org), .int (nI (tk)), .int (nI (ba))])), (bo, aN (kcZ G) 5 B), (hp, .inr (4, [.int (nI (w)), .ref (ak), .ref (au), .ref (az), .ref (at1), .int (nI (q.1.2.2))])), (ak, aN (kcI G) 6 q.2.1.1), (au, aN (kcI G) 6 q.2.1.2.1), (az, aZ (kcI G) 6 q.2.1.2.2.1), (at1, aN (kcI G) 6 q.2.1.2.2.2), (hc, .inr (1, [.int (nI (q.1.1)), .ref (as1), .ref (ay1), .int (nI (q.1.2.1))])), (as1, aN (kcI G) 1600 q.2.2.1), (ay1, aN (kcI G) 40 q.2.2.2)] ++ wr)) 0 0 (kA G) := by
  refine Met.ofW (cc := cX2_mayBeKnittedBy) (maxL := 2) (ret := (some .boolean)) (by decide) rfl ?_
  intro pp ee s m args below meth cc0 s₁ Bd0 hml hv
  obtain ⟨rfl, hE, hV⟩ := hv
  have hK := hE.1
  have hx := Bd0.exec
  have hb := Bd0.bytes
  have hrt := Bd0.returns
  have hts := atoms_spec (ws := wsX2_mayBeKnittedBy) Bd0.pre
  have hown : s.vm.findClass RX2 = some m.cls := findClass_of_methodNamed Bd0.named
  have hlocks := Bd0.notSynchronized
  have hF : CallFix pp m cc0 cX2_mayBeKnittedBy 2 s _ wsX2_mayBeKnittedBy RX2 := ⟨hx, hb, hml, hown, hts⟩
  have hinX2 : ∀ w ∈ wsX20, w ∈ wsX2_mayBeKnittedBy := tb_of [3, 4, 5, 6, 7, 8, 9, 10, 11] rfl
  have hS : va_S (kA G) s.heap s.heap [] := va_S.rf
  have hB0 := hE.2.1
  have hl := lv_entry ([.ref (pa), .int (nI (x))]) (n := 2) (Nat.le_of_ble_eq_true rfl)
  rw [lg_entry_eq]
  generalize (lg_sl ([.ref (pa), .int (nI (x))]) ++ List.replicate (2 - (lg_sl ([.ref (pa), .int (nI (x))])).length) Slot.unset).toArray = ls at hl ⊢
  have hl : lv_has ls 2 [(0, .ref (pa)), (1, .int (nI (x)))] := hl
  refine lv_iload_n hx hb dX2_mayBeKnittedBy_0 rfl (lv_at hl 1 rfl) ?_
  refine lv_aload_n hx hb dX2_mayBeKnittedBy_1 rfl (lv_at hl 0 rfl) ?_
  refine va_get (D := kD G) (ci := 3) (v := .int (nI (ow))) (C := RX2) (T := TX2) (N := 9) hx hb hts hinX2 hown hK hV.1 0 rfl rfl 1 (by decide) (hts (Cond.fieldLink RX2 30 "Yarncourt$Pattern" "owner" "I") (List.mem_of_getElem? (i := 1) rfl)) (fun _ h9 => h9) rfl dX2_mayBeKnittedBy_2 ?_
  refine kn_eq (tgt := 17) hx hb (by omega) (by omega) dX2_mayBeKnittedBy_5 (by decide) (fun c5 => ?_) (fun c5 => ?_)
  · refine lv_iconst (v := nI 1) hx hb dX2_mayBeKnittedBy_17 (by decide) ?_
    refine lv_goto (tgt := 22) hx hb dX2_mayBeKnittedBy_18 (by decide) ?_
    exact W.zret (v := nI 1) hx hb hrt (by decide) (fun t ht hW => ⟨⟨_, (), rfl, by rw [kb_t (Or.inl c5)], kV_eq ht hV⟩, hS.F ht⟩) hS.2.2 dX2_mayBeKnittedBy_22
  · refine lv_aload_n hx hb dX2_mayBeKnittedBy_8 rfl (lv_at hl 0 rfl) ?_
    refine va_get (D := kD G) (ci := 3) (v := .ref (bo)) (C := RX2) (T := TX2) (N := 9) hx hb hts hinX2 hown hK hV.1 0 rfl rfl 5 (by decide) (hts (Cond.fieldLink RX2 9 "Yarncourt$Pattern" "boughtBy" "[Z") (List.mem_of_getElem? (i := 2) rfl)) (fun _ h9 => h9) rfl dX2_mayBeKnittedBy_9 ?_
    refine lv_iload_n hx hb dX2_mayBeKnittedBy_12 rfl (lv_at hl 1 rfl) ?_
    refine kn_zald (G := G) (n := 5) (g := B) (j := x) hx hb hK hV 1 rfl (by omega) (by decide) dX2_mayBeKnittedBy_13 ?_
    refine kn_if_eq (tgt := 21) hx hb (by omega) dX2_mayBeKnittedBy_14 (by decide) (fun c14 => ?_) (fun c14 => ?_)
    · refine lv_iconst (v := nI 0) hx hb dX2_mayBeKnittedBy_21 (by decide) ?_
      exact W.zret (v := nI 0) hx hb hrt (by decide) (fun t ht hW => ⟨⟨_, (), rfl, by rw [kb_f (fun z => by rcases z with z | z <;> omega)], kV_eq ht hV⟩, hS.F ht⟩) hS.2.2 dX2_mayBeKnittedBy_22
    · refine lv_iconst (v := nI 1) hx hb dX2_mayBeKnittedBy_17 (by decide) ?_
      refine lv_goto (tgt := 22) hx hb dX2_mayBeKnittedBy_18 (by decide) ?_
      exact W.zret (v := nI 1) hx hb hrt (by decide) (fun t ht hW => ⟨⟨_, (), rfl, by rw [kb_t (Or.inr (by omega))], kV_eq ht hV⟩, hS.F ht⟩) hS.2.2 dX2_mayBeKnittedBy_22
set_option maxHeartbeats 4000000 in
set_option maxRecDepth 100000 in
theorem c_X2_addLinesFor (l : Launch) (G : kG) (pa : Nat) (bo : Nat) (hp : Nat) (ak : Nat) (au : Nat) (az : Nat) (at1 : Nat) (hc : Nat) (as1 : Nat) (ay1 : Nat) (num : Nat) (ow : Nat) (pr : Nat) (org : Option Nat) (tk : Nat) (ba : Nat) (w : Nat) (q : kP) (B : Nat → Nat) (hp2 : Nat) (ak2 : Nat) (au2 : Nat) (az2 : Nat) (at2 : Nat) (w2 : Nat) (n2 : Nat) (K2 : Nat → Nat) (U2 : Nat → Nat) (Z2 : Nat → Int) (T2 : Nat → Nat) (wr : va_W) (g : Nat) (hn2 : q.1.2.2 + n2 ≤ 6) (hrc : q.1.1 + sumN (fun i => oftN (T2 i) g) n2 ≤ 40) (hnw : 1 ≤ q.1.2.1 ∧ q.1.2.1 ≤ 40) (hg : g ≤ 20) (hP : ∀ i, i < n2 → K2 i ≤ 9 ∧ U2 i ≤ 9 ∧ 1 ≤ K2 i + U2 i ∧ T2 i ≤ 40 ∧ -3 ≤ Z2 i ∧ Z2 i ≤ 3) : Met l yX2_addLinesFor wsX2_addLinesFor ({ frames := 5, cells := 0, slots := 0, locals := 113 } : Room) (kPc G [.ref (pa), .int (nI (g)), .ref (hp2)] ([(pa, .inr (3, [.int (nI (num)), .int (nI (ow)), .int (nI (pr)), .ref (hp), .ref (hc), .ref (bo), va_rf (org), .int (nI (tk)), .int (nI (ba))])), (bo, aN (kcZ G) 5 B), (hp, .inr (4, [.int (nI (w)), .ref (ak), .ref (au), .ref (az), .ref (at1), .int (nI (q.1.2.2))])), (ak, aN (kcI G) 6 q.2.1.1), (au, aN (kcI G) 6 q.2.1.2.1), (az, aZ (kcI G) 6 q.2.1.2.2.1), (at1, aN (kcI G) 6 q.2.1.2.2.2), (hc, .inr (1, [.int (nI (q.1.1)), .ref (as1), .ref (ay1), .int (nI (q.1.2.1))])), (as1, aN (kcI G) 1600 q.2.2.1), (ay1, aN (kcI G) 40 q.2.2.2), (hp2, .inr (4, [.int (nI (w2)), .ref (ak2), .ref (au2), .ref (az2), .ref (at2), .int (nI (n2))])), (ak2, aN (kcI G) 6 K2), (au2, aN (kcI G) 6 U2), (az2, aZ (kcI G) 6 Z2), (at2, aN (kcI G) 6 T2)] ++ wr)) (kQv G (S := Unit) (fun _ => True) (fun _ => [(pa, .inr (3, [.int (nI (num)), .int (nI (ow)), .int (nI (pr)), .ref (hp), .ref (hc), .ref (bo), va_rf (org), .int (nI (tk)), .int (nI (ba))])), (bo, aN (kcZ G) 5 B), (hp, .inr (4, [.int (nI (w)), .ref (ak), .ref (au), .ref (az), .ref (at1), .int (nI ((adN q K2 U2 Z2 T2 g n2).1.2.2))])), (ak, aN (kcI G) 6 ((adN q K2 U2 Z2 T2 g n2).2.1.1)), (au, aN (kcI G) 6 ((adN q K2 U2 Z2 T2 g n2).2.1.2.1)), (az, aZ (kcI G) 6 ((adN q K2 U2 Z2 T2 g n2).2.1.2.2.1)), (at1, aN (kcI G) 6 ((adN q K2 U2 Z2 T2 g n2).2.1.2.2.2)), (hc, .inr (1, [.int (nI ((adN q K2 U2 Z2 T2 g n2).1.1)), .ref (as1), .ref (ay1), .int (nI ((adN q K2 U2 Z2 T2 g n2).1.2.1))])), (as1, aN (kcI G) 1600 ((adN q K2 U2 Z2 T2 g n2).2.2.1)), (ay1, aN (kcI G) 40 ((adN q K2 U2 Z2 T2 g n2).2.2.2)), (hp2, .inr (4, [.int (nI (w2)), .ref (ak2), .ref (au2), .ref (az2), .ref (at2), .int (nI (n2))])), (ak2, aN (kcI G) 6 K2), (au2, aN (kcI G) 6 U2), (az2, aZ (kcI G) 6 Z2), (at2, aN (kcI G) 6 T2)] ++ wr)) 0 0 (kA G) := by
  refine Met.ofW (cc := cX2_addLinesFor) (maxL := 4) (ret := none) (by decide) rfl ?_
  intro pp ee s m args below meth cc0 s₁ Bd0 hml hv
  obtain ⟨rfl, hE, hV⟩ := hv
  have hK := hE.1
  have hx := Bd0.exec
  have hb := Bd0.bytes
  have hrt := Bd0.returns
  have hts := atoms_spec (ws := wsX2_addLinesFor) Bd0.pre
  have hown : s.vm.findClass RX2 = some m.cls := findClass_of_methodNamed Bd0.named
  have hlocks := Bd0.notSynchronized
  have hF : CallFix pp m cc0 cX2_addLinesFor 4 s _ wsX2_addLinesFor RX2 := ⟨hx, hb, hml, hown, hts⟩
  have hinX3 : ∀ w ∈ wsX30, w ∈ wsX2_addLinesFor := tb_of [51, 52, 53, 54, 55, 56] rfl
  have hS : va_S (kA G) s.heap s.heap [] := va_S.rf
  have hB0 := hE.2.1
  have hl := lv_entry ([.ref (pa), .int (nI (g)), .ref (hp2)]) (n := 4) (Nat.le_of_ble_eq_true rfl)
  rw [lg_entry_eq]
  generalize (lg_sl ([.ref (pa), .int (nI (g)), .ref (hp2)]) ++ List.replicate (4 - (lg_sl ([.ref (pa), .int (nI (g)), .ref (hp2)])).length) Slot.unset).toArray = ls at hl ⊢
  have hl : lv_has ls 4 [(0, .ref (pa)), (1, .int (nI (g))), (2, .ref (hp2))] := hl
  refine lv_iconst (v := nI 0) hx hb dX2_addLinesFor_0 (by decide) ?_
  refine lv_istore_n (lv' := [(3, .int (nI (0))), (0, .ref (pa)), (1, .int (nI (g))), (2, .ref (hp2))]) hx hb dX2_addLinesFor_1 rfl hl (by decide) rfl (fun ls hl => ?_)
  have L2 : ∀ (nL2 : Nat) (i : Nat) (hi : i ≤ n2) (hmL2 : n2 - i < nL2) (H : Heap) (locs : List Loc), kV G ([(pa, .inr (3, [.int (nI (num)), .int (nI (ow)), .int (nI (pr)), .ref (hp), .ref (hc), .ref (bo), va_rf (org), .int (nI (tk)), .int (nI (ba))])), (bo, aN (kcZ G) 5 B), (hp, .inr (4, [.int (nI (w)), .ref (ak), .ref (au), .ref (az), .ref (at1), .int (nI ((adN q K2 U2 Z2 T2 g i).1.2.2))])), (ak, aN (kcI G) 6 ((adN q K2 U2 Z2 T2 g i).2.1.1)), (au, aN (kcI G) 6 ((adN q K2 U2 Z2 T2 g i).2.1.2.1)), (az, aZ (kcI G) 6 ((adN q K2 U2 Z2 T2 g i).2.1.2.2.1)), (at1, aN (kcI G) 6 ((adN q K2 U2 Z2 T2 g i).2.1.2.2.2)), (hc, .inr (1, [.int (nI ((adN q K2 U2 Z2 T2 g i).1.1)), .ref (as1), .ref (ay1), .int (nI ((adN q K2 U2 Z2 T2 g i).1.2.1))])), (as1, aN (kcI G) 1600 ((adN q K2 U2 Z2 T2 g i).2.2.1)), (ay1, aN (kcI G) 40 ((adN q K2 U2 Z2 T2 g i).2.2.2)), (hp2, .inr (4, [.int (nI (w2)), .ref (ak2), .ref (au2), .ref (az2), .ref (at2), .int (nI (n2))])), (ak2, aN (kcI G) 6 K2), (au2, aN (kcI G) 6 U2), (az2, aZ (kcI G) 6 Z2), (at2, aN (kcI G) 6 T2)] ++ wr) H → va_S (kA G) s.heap H locs → ∀ (ls : Array Slot), lv_has ls 4 [(0, .ref (pa)), (1, .int (nI (g))), (2, .ref (hp2)), (3, .int (nI (i)))] → W pp l ee (headSpec wsX2_addLinesFor ({ frames := 5, cells := 0, slots := 0, locals := 113 } : Room)).room s m [.ref (pa), .int (nI (g)), .ref (hp2)].toArray below meth cc0 H locs 0 0 (MQ below (kQv G (S := Unit) (fun _ => True) (fun _ => [(pa, .inr (3, [.int (nI (num)), .int (nI (ow)), .int (nI (pr)), .ref (hp), .ref (hc), .ref (bo), va_rf (org), .int (nI (tk)), .int (nI (ba))])), (bo, aN (kcZ G) 5 B), (hp, .inr (4, [.int (nI (w)), .ref (ak), .ref (au), .ref (az), .ref (at1), .int (nI ((adN q K2 U2 Z2 T2 g n2).1.2.2))])), (ak, aN (kcI G) 6 ((adN q K2 U2 Z2 T2 g n2).2.1.1)), (au, aN (kcI G) 6 ((adN q K2 U2 Z2 T2 g n2).2.1.2.1)), (az, aZ (kcI G) 6 ((adN q K2 U2 Z2 T2 g n2).2.1.2.2.1)), (at1, aN (kcI G) 6 ((adN q K2 U2 Z2 T2 g n2).2.1.2.2.2)), (hc, .inr (1, [.int (nI ((adN q K2 U2 Z2 T2 g n2).1.1)), .ref (as1), .ref (ay1), .int (nI ((adN q K2 U2 Z2 T2 g n2).1.2.1))])), (as1, aN (kcI G) 1600 ((adN q K2 U2 Z2 T2 g n2).2.2.1)), (ay1, aN (kcI G) 40 ((adN q K2 U2 Z2 T2 g n2).2.2.2)), (hp2, .inr (4, [.int (nI (w2)), .ref (ak2), .ref (au2), .ref (az2), .ref (at2), .int (nI (n2))])), (ak2, aN (kcI G) 6 K2), (au2, aN (kcI G) 6 U2), (az2, aZ (kcI G) 6 Z2), (at2, aN (kcI G) 6 T2)] ++ wr)) [.ref (pa), .int (nI (g)), .ref (hp2)].toArray s 0 0 (kA G)) (F0 m 2 ls []) := by
    intro nL2
    induction nL2 with
    | zero => intro i hi hmL2; exact absurd hmL2 (Nat.not_lt_zero _)
    | succ nL2 ihL2 =>
      intro i hi hmL2 H locs hV hS ls hl
      refine lv_iload_n hx hb dX2_addLinesFor_2 rfl (lv_at hl 3 rfl) ?_
      refine lv_aload_n hx hb dX2_addLinesFor_3 rfl (lv_at hl 2 rfl) ?_
      refine va_getN (D := kD G) (ci := 4) (v := .int (nI (n2))) (C := RX3) (T := TX3) (N := 6) hx hb hts hinX3 hown hK hV.1 10 rfl rfl 5 (by decide) ((hE.2.2.1 (Cond.fieldLinkNest "Yarncourt$Pattern" 52 "Yarncourt$Program" "lineCount" "I" "Yarncourt") (by decide +kernel)).use rfl) (fun _ h9 => h9) rfl dX2_addLinesFor_4 ?_
      refine kn_ge (tgt := 44) hx hb (by omega) (by omega) dX2_addLinesFor_7 (by decide) (fun c7 => ?_) (fun c7 => ?_)
      · have e9 : i = n2 := by omega
        rw [e9] at hV
        exact W.vret hx hb hrt (fun t ht hW => ⟨⟨(), rfl, trivial, kV_eq ht hV⟩, hS.F ht⟩) hS.2.2 dX2_addLinesFor_44
      · obtain ⟨d1, d2, d3, d4⟩ := adN_at (q := q) (K := K2) (U := U2) (Z := Z2) (T := T2) (g := g) hnw i
        obtain ⟨p1, p2, p3, p4, p5, p6⟩ := hP i (by omega)
        have hof := oftN_in (g := g) p4 hg
        have hsl := sumN_le (f := fun i => oftN (T2 i) g) (show i + 1 ≤ n2 by omega)
        rw [sumN_s] at hsl
        refine lv_aload_n hx hb dX2_addLinesFor_10 rfl (lv_at hl 0 rfl) ?_
        refine lv_aload_n hx hb dX2_addLinesFor_11 rfl (lv_at hl 2 rfl) ?_
        refine va_getN (D := kD G) (ci := 4) (v := .ref (ak2)) (C := RX3) (T := TX3) (N := 6) hx hb hts hinX3 hown hK hV.1 10 rfl rfl 1 (by decide) ((hE.2.2.1 (Cond.fieldLinkNest "Yarncourt$Pattern" 65 "Yarncourt$Program" "knits" "[I" "Yarncourt") (by decide +kernel)).use rfl) (fun _ h9 => h9) rfl dX2_addLinesFor_12 ?_
        refine lv_iload_n hx hb dX2_addLinesFor_15 rfl (lv_at hl 3 rfl) ?_
        refine kn_iald (G := G) (n := 6) (g := K2) (j := i) hx hb hK hV 11 rfl (by omega) (by decide) dX2_addLinesFor_16 ?_
        refine lv_aload_n hx hb dX2_addLinesFor_17 rfl (lv_at hl 2 rfl) ?_
        refine va_getN (D := kD G) (ci := 4) (v := .ref (au2)) (C := RX3) (T := TX3) (N := 6) hx hb hts hinX3 hown hK hV.1 10 rfl rfl 2 (by decide) ((hE.2.2.1 (Cond.fieldLinkNest "Yarncourt$Pattern" 69 "Yarncourt$Program" "purls" "[I" "Yarncourt") (by decide +kernel)).use rfl) (fun _ h9 => h9) rfl dX2_addLinesFor_18 ?_
        refine lv_iload_n hx hb dX2_addLinesFor_21 rfl (lv_at hl 3 rfl) ?_
        refine kn_iald (G := G) (n := 6) (g := U2) (j := i) hx hb hK hV 12 rfl (by omega) (by decide) dX2_addLinesFor_22 ?_
        refine lv_aload_n hx hb dX2_addLinesFor_23 rfl (lv_at hl 2 rfl) ?_
        refine va_getN (D := kD G) (ci := 4) (v := .ref (az2)) (C := RX3) (T := TX3) (N := 6) hx hb hts hinX3 hown hK hV.1 10 rfl rfl 3 (by decide) ((hE.2.2.1 (Cond.fieldLinkNest "Yarncourt$Pattern" 72 "Yarncourt$Program" "shaping" "[I" "Yarncourt") (by decide +kernel)).use rfl) (fun _ h9 => h9) rfl dX2_addLinesFor_24 ?_
        refine lv_iload_n hx hb dX2_addLinesFor_27 rfl (lv_at hl 3 rfl) ?_
        refine kz_iald (G := G) (n := 6) (g := Z2) (j := i) hx hb hK hV 13 rfl (by omega) (by decide) dX2_addLinesFor_28 ?_
        refine lv_aload_n hx hb dX2_addLinesFor_29 rfl (lv_at hl 2 rfl) ?_
        refine lv_iload_n hx hb dX2_addLinesFor_30 rfl (lv_at hl 1 rfl) ?_
        refine lv_iload_n hx hb dX2_addLinesFor_31 rfl (lv_at hl 3 rfl) ?_
        have hV : kV G ([(hp2, .inr (4, [.int (nI (w2)), .ref (ak2), .ref (au2), .ref (az2), .ref (at2), .int (nI (n2))])), (ak2, aN (kcI G) 6 K2), (au2, aN (kcI G) 6 U2), (az2, aZ (kcI G) 6 Z2), (at2, aN (kcI G) 6 T2), (pa, .inr (3, [.int (nI (num)), .int (nI (ow)), .int (nI (pr)), .ref (hp), .ref (hc), .ref (bo), va_rf (org), .int (nI (tk)), .int (nI (ba))])), (bo, aN (kcZ G) 5 B), (hp, .inr (4, [.int (nI (w)), .ref (ak), .ref (au), .ref (az), .ref (at1), .int (nI ((adN q K2 U2 Z2 T2 g i).1.2.2))])), (ak, aN (kcI G) 6 ((adN q K2 U2 Z2 T2 g i).2.1.1)), (au, aN (kcI G) 6 ((adN q K2 U2 Z2 T2 g i).2.1.2.1)), (az, aZ (kcI G) 6 ((adN q K2 U2 Z2 T2 g i).2.1.2.2.1)), (at1, aN (kcI G) 6 ((adN q K2 U2 Z2 T2 g i).2.1.2.2.2)), (hc, .inr (1, [.int (nI ((adN q K2 U2 Z2 T2 g i).1.1)), .ref (as1), .ref (ay1), .int (nI ((adN q K2 U2 Z2 T2 g i).1.2.1))])), (as1, aN (kcI G) 1600 ((adN q K2 U2 Z2 T2 g i).2.2.1)), (ay1, aN (kcI G) 40 ((adN q K2 U2 Z2 T2 g i).2.2.2))] ++ wr) _ := kV_part hV [10, 11, 12, 13, 14, 0, 1, 2, 3, 4, 5, 6, 7, 8, 9] rfl rfl
        refine kc_i (va_runV (As := [.int (nI (g)), .int (nI (i))]) (rest := [.int (zI (Z2 i)), .int (nI (U2 i)), .int (nI (K2 i)), .ref (pa)]) hF (c_X3_timesFor l G hp2 ak2 au2 az2 at2 w2 n2 K2 U2 Z2 T2 ([(pa, .inr (3, [.int (nI (num)), .int (nI (ow)), .int (nI (pr)), .ref (hp), .ref (hc), .ref (bo), va_rf (org), .int (nI (tk)), .int (nI (ba))])), (bo, aN (kcZ G) 5 B), (hp, .inr (4, [.int (nI (w)), .ref (ak), .ref (au), .ref (az), .ref (at1), .int (nI ((adN q K2 U2 Z2 T2 g i).1.2.2))])), (ak, aN (kcI G) 6 ((adN q K2 U2 Z2 T2 g i).2.1.1)), (au, aN (kcI G) 6 ((adN q K2 U2 Z2 T2 g i).2.1.2.1)), (az, aZ (kcI G) 6 ((adN q K2 U2 Z2 T2 g i).2.1.2.2.1)), (at1, aN (kcI G) 6 ((adN q K2 U2 Z2 T2 g i).2.1.2.2.2)), (hc, .inr (1, [.int (nI ((adN q K2 U2 Z2 T2 g i).1.1)), .ref (as1), .ref (ay1), .int (nI ((adN q K2 U2 Z2 T2 g i).1.2.1))])), (as1, aN (kcI G) 1600 ((adN q K2 U2 Z2 T2 g i).2.2.1)), (ay1, aN (kcI G) 40 ((adN q K2 U2 Z2 T2 g i).2.2.2))] ++ wr) g i (by omega) (by omega) (by omega)) (cwV 2 hts gX2_addLinesFor_X3_timesFor rfl rfl rfl (by decide +kernel) ⟨Nat.le_of_ble_eq_true rfl, Nat.le_of_ble_eq_true rfl⟩) (kPreV hE hS hV 0 rfl rfl) rfl rfl hl.1 rfl (lv_room (Nat.le_of_ble_eq_true rfl)) dX2_addLinesFor_32 ⟨Nat.le_of_ble_eq_true rfl, Nat.le_of_ble_eq_true rfl⟩) hS (fun r_3 u_2 H locs hp_1 hV hS => ?_)
        subst hp_1
        have hV : kV G ([(hp2, .inr (4, [.int (nI (w2)), .ref (ak2), .ref (au2), .ref (az2), .ref (at2), .int (nI (n2))])), (ak2, aN (kcI G) 6 K2), (au2, aN (kcI G) 6 U2), (az2, aZ (kcI G) 6 Z2), (at2, aN (kcI G) 6 T2), (pa, .inr (3, [.int (nI (num)), .int (nI (ow)), .int (nI (pr)), .ref (hp), .ref (hc), .ref (bo), va_rf (org), .int (nI (tk)), .int (nI (ba))])), (bo, aN (kcZ G) 5 B), (hp, .inr (4, [.int (nI (w)), .ref (ak), .ref (au), .ref (az), .ref (at1), .int (nI ((adN q K2 U2 Z2 T2 g i).1.2.2))])), (ak, aN (kcI G) 6 ((adN q K2 U2 Z2 T2 g i).2.1.1)), (au, aN (kcI G) 6 ((adN q K2 U2 Z2 T2 g i).2.1.2.1)), (az, aZ (kcI G) 6 ((adN q K2 U2 Z2 T2 g i).2.1.2.2.1)), (at1, aN (kcI G) 6 ((adN q K2 U2 Z2 T2 g i).2.1.2.2.2)), (hc, .inr (1, [.int (nI ((adN q K2 U2 Z2 T2 g i).1.1)), .ref (as1), .ref (ay1), .int (nI ((adN q K2 U2 Z2 T2 g i).1.2.1))])), (as1, aN (kcI G) 1600 ((adN q K2 U2 Z2 T2 g i).2.2.1)), (ay1, aN (kcI G) 40 ((adN q K2 U2 Z2 T2 g i).2.2.2))] ++ wr) _ := hV
        have hV : kV G ([(pa, .inr (3, [.int (nI (num)), .int (nI (ow)), .int (nI (pr)), .ref (hp), .ref (hc), .ref (bo), va_rf (org), .int (nI (tk)), .int (nI (ba))])), (bo, aN (kcZ G) 5 B), (hp, .inr (4, [.int (nI (w)), .ref (ak), .ref (au), .ref (az), .ref (at1), .int (nI ((adN q K2 U2 Z2 T2 g i).1.2.2))])), (ak, aN (kcI G) 6 ((adN q K2 U2 Z2 T2 g i).2.1.1)), (au, aN (kcI G) 6 ((adN q K2 U2 Z2 T2 g i).2.1.2.1)), (az, aZ (kcI G) 6 ((adN q K2 U2 Z2 T2 g i).2.1.2.2.1)), (at1, aN (kcI G) 6 ((adN q K2 U2 Z2 T2 g i).2.1.2.2.2)), (hc, .inr (1, [.int (nI ((adN q K2 U2 Z2 T2 g i).1.1)), .ref (as1), .ref (ay1), .int (nI ((adN q K2 U2 Z2 T2 g i).1.2.1))])), (as1, aN (kcI G) 1600 ((adN q K2 U2 Z2 T2 g i).2.2.1)), (ay1, aN (kcI G) 40 ((adN q K2 U2 Z2 T2 g i).2.2.2)), (hp2, .inr (4, [.int (nI (w2)), .ref (ak2), .ref (au2), .ref (az2), .ref (at2), .int (nI (n2))])), (ak2, aN (kcI G) 6 K2), (au2, aN (kcI G) 6 U2), (az2, aZ (kcI G) 6 Z2), (at2, aN (kcI G) 6 T2)] ++ wr) _ := kV_part hV [5, 6, 7, 8, 9, 10, 11, 12, 13, 14, 0, 1, 2, 3, 4] rfl rfl
        refine kc_v (va_runV (As := [.int (nI (K2 i)), .int (nI (U2 i)), .int (zI (Z2 i)), .int (nI (oftN (T2 i) g))]) (rest := []) hF (c_X2_addLine l G pa bo hp ak au az at1 hc as1 ay1 num ow pr org tk ba w (adN q K2 U2 Z2 T2 g i) B ([(hp2, .inr (4, [.int (nI (w2)), .ref (ak2), .ref (au2), .ref (az2), .ref (at2), .int (nI (n2))])), (ak2, aN (kcI G) 6 K2), (au2, aN (kcI G) 6 U2), (az2, aZ (kcI G) 6 Z2), (at2, aN (kcI G) 6 T2)] ++ wr) (K2 i) (U2 i) (Z2 i) (oftN (T2 i) g) (by omega) (by omega) ⟨d3, d4⟩ (by omega) (by omega) (by omega) ⟨p5, p6⟩) (cwV 4 hts gX2_addLinesFor_X2_addLine rfl rfl rfl (by decide +kernel) ⟨Nat.le_of_ble_eq_true rfl, Nat.le_of_ble_eq_true rfl⟩) (kPreV hE hS hV 0 rfl rfl) rfl rfl hl.1 rfl (lv_room (Nat.le_of_ble_eq_true rfl)) dX2_addLinesFor_35 ⟨Nat.le_of_ble_eq_true rfl, Nat.le_of_ble_eq_true rfl⟩) hS (fun u_5 H locs hp_4 hV hS => ?_)
        have hV : kV G ([(pa, .inr (3, [.int (nI (num)), .int (nI (ow)), .int (nI (pr)), .ref (hp), .ref (hc), .ref (bo), va_rf (org), .int (nI (tk)), .int (nI (ba))])), (bo, aN (kcZ G) 5 B), (hp, .inr (4, [.int (nI (w)), .ref (ak), .ref (au), .ref (az), .ref (at1), .int (nI ((adP (adN q K2 U2 Z2 T2 g i) (K2 i) (U2 i) (Z2 i) (oftN (T2 i) g)).1.2.2))])), (ak, aN (kcI G) 6 ((adP (adN q K2 U2 Z2 T2 g i) (K2 i) (U2 i) (Z2 i) (oftN (T2 i) g)).2.1.1)), (au, aN (kcI G) 6 ((adP (adN q K2 U2 Z2 T2 g i) (K2 i) (U2 i) (Z2 i) (oftN (T2 i) g)).2.1.2.1)), (az, aZ (kcI G) 6 ((adP (adN q K2 U2 Z2 T2 g i) (K2 i) (U2 i) (Z2 i) (oftN (T2 i) g)).2.1.2.2.1)), (at1, aN (kcI G) 6 ((adP (adN q K2 U2 Z2 T2 g i) (K2 i) (U2 i) (Z2 i) (oftN (T2 i) g)).2.1.2.2.2)), (hc, .inr (1, [.int (nI ((adP (adN q K2 U2 Z2 T2 g i) (K2 i) (U2 i) (Z2 i) (oftN (T2 i) g)).1.1)), .ref (as1), .ref (ay1), .int (nI ((adP (adN q K2 U2 Z2 T2 g i) (K2 i) (U2 i) (Z2 i) (oftN (T2 i) g)).1.2.1))])), (as1, aN (kcI G) 1600 ((adP (adN q K2 U2 Z2 T2 g i) (K2 i) (U2 i) (Z2 i) (oftN (T2 i) g)).2.2.1)), (ay1, aN (kcI G) 40 ((adP (adN q K2 U2 Z2 T2 g i) (K2 i) (U2 i) (Z2 i) (oftN (T2 i) g)).2.2.2)), (hp2, .inr (4, [.int (nI (w2)), .ref (ak2), .ref (au2), .ref (az2), .ref (at2), .int (nI (n2))])), (ak2, aN (kcI G) 6 K2), (au2, aN (kcI G) 6 U2), (az2, aZ (kcI G) 6 Z2), (at2, aN (kcI G) 6 T2)] ++ wr) _ := hV
        refine lv_iinc (lv' := [(3, .int (nI (i + 1))), (0, .ref (pa)), (1, .int (nI (g))), (2, .ref (hp2))]) hx hb dX2_addLinesFor_38 hl (k := 3) rfl (kn_iinc i 1) (by decide) rfl (fun ls hl => ?_)
        refine lv_goto (tgt := 2) hx hb dX2_addLinesFor_41 (by decide) ?_
        have hV : kV G ([(pa, .inr (3, [.int (nI (num)), .int (nI (ow)), .int (nI (pr)), .ref (hp), .ref (hc), .ref (bo), va_rf (org), .int (nI (tk)), .int (nI (ba))])), (bo, aN (kcZ G) 5 B), (hp, .inr (4, [.int (nI (w)), .ref (ak), .ref (au), .ref (az), .ref (at1), .int (nI ((adP (adN q K2 U2 Z2 T2 g i) (K2 i) (U2 i) (Z2 i) (oftN (T2 i) g)).1.2.2))])), (ak, aN (kcI G) 6 ((adP (adN q K2 U2 Z2 T2 g i) (K2 i) (U2 i) (Z2 i) (oftN (T2 i) g)).2.1.1)), (au, aN (kcI G) 6 ((adP (adN q K2 U2 Z2 T2 g i) (K2 i) (U2 i) (Z2 i) (oftN (T2 i) g)).2.1.2.1)), (az, aZ (kcI G) 6 ((adP (adN q K2 U2 Z2 T2 g i) (K2 i) (U2 i) (Z2 i) (oftN (T2 i) g)).2.1.2.2.1)), (at1, aN (kcI G) 6 ((adP (adN q K2 U2 Z2 T2 g i) (K2 i) (U2 i) (Z2 i) (oftN (T2 i) g)).2.1.2.2.2)), (hc, .inr (1, [.int (nI ((adP (adN q K2 U2 Z2 T2 g i) (K2 i) (U2 i) (Z2 i) (oftN (T2 i) g)).1.1)), .ref (as1), .ref (ay1), .int (nI ((adP (adN q K2 U2 Z2 T2 g i) (K2 i) (U2 i) (Z2 i) (oftN (T2 i) g)).1.2.1))])), (as1, aN (kcI G) 1600 ((adP (adN q K2 U2 Z2 T2 g i) (K2 i) (U2 i) (Z2 i) (oftN (T2 i) g)).2.2.1)), (ay1, aN (kcI G) 40 ((adP (adN q K2 U2 Z2 T2 g i) (K2 i) (U2 i) (Z2 i) (oftN (T2 i) g)).2.2.2)), (hp2, .inr (4, [.int (nI (w2)), .ref (ak2), .ref (au2), .ref (az2), .ref (at2), .int (nI (n2))])), (ak2, aN (kcI G) 6 K2), (au2, aN (kcI G) 6 U2), (az2, aZ (kcI G) 6 Z2), (at2, aN (kcI G) 6 T2)] ++ wr) _ := kV_part hV [0, 1, 2, 3, 4, 5, 6, 7, 8, 9, 10, 11, 12, 13, 14] rfl rfl
        exact ihL2 (i + 1) (by omega) (by omega) _ _ hV hS ls (lv_sub hl [1, 2, 3, 0] rfl)
  exact L2 ((n2 - 0) + 1) 0 (by omega) (Nat.lt_succ_self _) _ _ hV hS ls (lv_sub hl [1, 2, 3, 0] rfl)
