set_option maxHeartbeats 4000000 in
set_option maxRecDepth 100000 in
theorem c_X5_within (l : Launch) (G : kG) (v : Int32) (lo : Int32) (hi : Int32) (ws : va_W) : Met l yX5_within wsX5_within ({ frames := 1, cells := 0, slots := 0, locals := 21 } : Room) (kPc G [.int (v), .int (lo), .int (hi)] (ws)) (kQi G (S := Unit) (fun q _ => q = iw v lo hi) (fun _ => ws)) 0 0 (kA G) := by
  refine Met.ofW (cc := cX5_within) (maxL := 3) (ret := (some .int)) (by decide) rfl ?_
  intro pp ee s m args below meth cc0 s₁ B hml hv
  obtain ⟨rfl, hE, hV⟩ := hv
  have hK := hE.1
  have hx := B.exec
  have hb := B.bytes
  have hrt := B.returns
  have hts := atoms_spec (ws := wsX5_within) B.pre
  have hown : s.vm.findClass RX5 = some m.cls := findClass_of_methodNamed B.named
  have hlocks := B.notSynchronized
  have hF : CallFix pp m cc0 cX5_within 3 s _ wsX5_within RX5 := ⟨hx, hb, hml, hown, hts⟩
  have hS : va_S (kA G) s.heap s.heap [] := va_S.rf
  have hB0 := hE.2.1
  have hl := lv_entry ([.int (v), .int (lo), .int (hi)]) (n := 3) (Nat.le_of_ble_eq_true rfl)
  rw [lg_entry_eq]
  generalize (lg_sl ([.int (v), .int (lo), .int (hi)]) ++ List.replicate (3 - (lg_sl ([.int (v), .int (lo), .int (hi)])).length) Slot.unset).toArray = ls at hl ⊢
  have hl : lv_has ls 3 [(0, .int (v)), (1, .int (lo)), (2, .int (hi))] := hl
  refine lv_iload_n hx hb dX5_within_0 rfl (lv_at hl 0 rfl) ?_
  refine lv_iload_n hx hb dX5_within_1 rfl (lv_at hl 1 rfl) ?_
  refine va_mmax hx hb (hml.trans hl.1.symm) hown (hts (Cond.methodLink RX5 245 Lib.Math.max.name) (List.mem_of_getElem? (i := 1) rfl)) (hts (Cond.static Lib.Math.max.name) (List.mem_of_getElem? (i := 2) rfl)) (hts (Cond.initialized "java/lang/Math") (List.mem_of_getElem? (i := 3) rfl)) (hts (Cond.code Lib.Math.max.name Lib.Math.max.code 2 (some .int)) (List.mem_of_getElem? (i := 4) rfl)) (Nat.le_of_ble_eq_true rfl) (Nat.le_of_ble_eq_true rfl) (Nat.le_of_ble_eq_true rfl) (Nat.le_of_ble_eq_true rfl) dX5_within_2 ?_
  refine lv_iload_n hx hb dX5_within_5 rfl (lv_at hl 2 rfl) ?_
  refine va_mmin hx hb (hml.trans hl.1.symm) hown (hts (Cond.methodLink RX5 250 Lib.Math.min.name) (List.mem_of_getElem? (i := 5) rfl)) (hts (Cond.static Lib.Math.min.name) (List.mem_of_getElem? (i := 6) rfl)) (hts (Cond.initialized "java/lang/Math") (List.mem_of_getElem? (i := 3) rfl)) (hts (Cond.code Lib.Math.min.name Lib.Math.min.code 2 (some .int)) (List.mem_of_getElem? (i := 7) rfl)) (Nat.le_of_ble_eq_true rfl) (Nat.le_of_ble_eq_true rfl) (Nat.le_of_ble_eq_true rfl) (Nat.le_of_ble_eq_true rfl) dX5_within_6 ?_
  exact W.iret (v := (if hi < (if v < lo then lo else v) then hi else (if v < lo then lo else v))) hx hb hrt (fun t ht hW => ⟨⟨_, (), rfl, rfl, kV_eq ht hV⟩, hS.F ht⟩) hS.2.2 dX5_within_9
set_option maxHeartbeats 4000000 in
set_option maxRecDepth 100000 in
theorem c_X5_widthAfter (l : Launch) (G : kG) (w : Nat) (z : Int) (ws : va_W) (hw : w ≤ 40) (hz : -3 ≤ z ∧ z ≤ 3) : Met l yX5_widthAfter wsX5_widthAfter ({ frames := 2, cells := 0, slots := 0, locals := 43 } : Room) (kPc G [.int (nI (w)), .int (zI (z))] (ws)) (kQi G (S := Unit) (fun q _ => q = nI (clampW ((w : Int) + z))) (fun _ => ws)) 0 0 (kA G) := by
  refine Met.ofW (cc := cX5_widthAfter) (maxL := 2) (ret := (some .int)) (by decide) rfl ?_
  intro pp ee s m args below meth cc0 s₁ B hml hv
  obtain ⟨rfl, hE, hV⟩ := hv
  have hK := hE.1
  have hx := B.exec
  have hb := B.bytes
  have hrt := B.returns
  have hts := atoms_spec (ws := wsX5_widthAfter) B.pre
  have hown : s.vm.findClass RX5 = some m.cls := findClass_of_methodNamed B.named
  have hlocks := B.notSynchronized
  have hF : CallFix pp m cc0 cX5_widthAfter 2 s _ wsX5_widthAfter RX5 := ⟨hx, hb, hml, hown, hts⟩
  have hS : va_S (kA G) s.heap s.heap [] := va_S.rf
  have hB0 := hE.2.1
  have hl := lv_entry ([.int (nI (w)), .int (zI (z))]) (n := 2) (Nat.le_of_ble_eq_true rfl)
  rw [lg_entry_eq]
  generalize (lg_sl ([.int (nI (w)), .int (zI (z))]) ++ List.replicate (2 - (lg_sl ([.int (nI (w)), .int (zI (z))])).length) Slot.unset).toArray = ls at hl ⊢
  have hl : lv_has ls 2 [(0, .int (nI (w))), (1, .int (zI (z)))] := hl
  refine lv_iload_n hx hb dX5_widthAfter_0 rfl (lv_at hl 0 rfl) ?_
  refine lv_iload_n hx hb dX5_widthAfter_1 rfl (lv_at hl 1 rfl) ?_
  refine kz_add hx hb dX5_widthAfter_2 ?_
  refine lv_iconst (v := nI 1) hx hb dX5_widthAfter_3 (by decide) ?_
  refine lv_bipush (v := nI 40) hx hb dX5_widthAfter_4 (by decide) ?_
  refine kc_i (va_runS (As := [.int (zI ((w : Int) + z)), .int (nI (1)), .int (nI (40))]) (rest := []) hF (c_X5_within l G (zI ((w : Int) + z)) (nI 1) (nI 40) ws) (va_cwS 3 hts gX5_widthAfter_X5_within rfl rfl rfl (by decide +kernel) ⟨Nat.le_of_ble_eq_true rfl, Nat.le_of_ble_eq_true rfl⟩) (kPreS hE hS hV) rfl rfl hl.1 rfl (lv_room (Nat.le_of_ble_eq_true rfl)) dX5_widthAfter_6 ⟨Nat.le_of_ble_eq_true rfl, Nat.le_of_ble_eq_true rfl⟩) hS (fun r_3 u_2 H locs hp_1 hV hS => ?_)
  subst hp_1
  have hV : kV G (ws) H := hV
  exact W.iret (v := (iw (zI ((w : Int) + z)) (nI 1) (nI 40))) hx hb hrt (fun t ht hW => ⟨⟨_, (), rfl, iw_clampW (by omega) (by omega), kV_eq ht hV⟩, hS.F ht⟩) hS.2.2 dX5_widthAfter_9
set_option maxHeartbeats 4000000 in
set_option maxRecDepth 100000 in
theorem c_X5_forGauge (l : Launch) (G : kG) (a : Nat) (g : Nat) (ws : va_W) (ha : a * g < 2 ^ 31) : Met l yX5_forGauge wsX5_forGauge ({ frames := 0, cells := 0, slots := 0, locals := 0 } : Room) (kPc G [.int (nI (a)), .int (nI (g))] (ws)) (kQi G (S := Unit) (fun q _ => q = nI (a * g / 10)) (fun _ => ws)) 0 0 (kA G) := by
  refine Met.ofW (cc := cX5_forGauge) (maxL := 2) (ret := (some .int)) (by decide) rfl ?_
  intro pp ee s m args below meth cc0 s₁ B hml hv
  obtain ⟨rfl, hE, hV⟩ := hv
  have hK := hE.1
  have hx := B.exec
  have hb := B.bytes
  have hrt := B.returns
  have hts := atoms_spec (ws := wsX5_forGauge) B.pre
  have hown : s.vm.findClass RX5 = some m.cls := findClass_of_methodNamed B.named
  have hlocks := B.notSynchronized
  have hF : CallFix pp m cc0 cX5_forGauge 2 s _ wsX5_forGauge RX5 := ⟨hx, hb, hml, hown, hts⟩
  have hS : va_S (kA G) s.heap s.heap [] := va_S.rf
  have hB0 := hE.2.1
  have hl := lv_entry ([.int (nI (a)), .int (nI (g))]) (n := 2) (Nat.le_of_ble_eq_true rfl)
  rw [lg_entry_eq]
  generalize (lg_sl ([.int (nI (a)), .int (nI (g))]) ++ List.replicate (2 - (lg_sl ([.int (nI (a)), .int (nI (g))])).length) Slot.unset).toArray = ls at hl ⊢
  have hl : lv_has ls 2 [(0, .int (nI (a))), (1, .int (nI (g)))] := hl
  refine lv_iload_n hx hb dX5_forGauge_0 rfl (lv_at hl 0 rfl) ?_
  refine lv_iload_n hx hb dX5_forGauge_1 rfl (lv_at hl 1 rfl) ?_
  refine kn_mul hx hb dX5_forGauge_2 ?_
  refine lv_bipush (v := nI 10) hx hb dX5_forGauge_3 (by decide) ?_
  refine kn_div hx hb (by omega) (by omega) (by omega) dX5_forGauge_5 ?_
  exact W.iret (v := nI ((a * g) / 10)) hx hb hrt (fun t ht hW => ⟨⟨_, (), rfl, rfl, kV_eq ht hV⟩, hS.F ht⟩) hS.2.2 dX5_forGauge_6
set_option maxHeartbeats 4000000 in
set_option maxRecDepth 100000 in
theorem c_X0_drawRow (l : Launch) (G : kG) (hc : Nat) (as1 : Nat) (ay1 : Nat) (rc : Nat) (nw : Nat) (F : Nat → Nat) (Y : Nat → Nat) (wr : va_W) (st9 : Nat) (k : Nat) (u : Nat) (hst : st9 + 40 ≤ 1600) (hnw : nw ≤ 40) (hku : 1 ≤ k + u) (hk9 : k ≤ 9) (hu9 : u ≤ 9) : Met l yX0_drawRow wsX0_drawRow ({ frames := 0, cells := 0, slots := 0, locals := 0 } : Room) (kPc G [.ref (hc), .int (nI (st9)), .int (nI (k)), .int (nI (u))] ([(hc, .inr (1, [.int (nI (rc)), .ref (as1), .ref (ay1), .int (nI (nw))])), (as1, aN (kcI G) 1600 F), (ay1, aN (kcI G) 40 Y)] ++ wr)) (kQi G (S := Unit) (fun q _ => q = nI (ynV k u nw)) (fun _ => [(hc, .inr (1, [.int (nI (rc)), .ref (as1), .ref (ay1), .int (nI (nw))])), (as1, aN (kcI G) 1600 (drawP F st9 k u nw nw)), (ay1, aN (kcI G) 40 Y)] ++ wr)) 0 0 (kA G) := by
  refine Met.ofW (cc := cX0_drawRow) (maxL := 8) (ret := (some .int)) (by decide) rfl ?_
  intro pp ee s m args below meth cc0 s₁ B hml hv
  obtain ⟨rfl, hE, hV⟩ := hv
  have hK := hE.1
  have hx := B.exec
  have hb := B.bytes
  have hrt := B.returns
  have hts := atoms_spec (ws := wsX0_drawRow) B.pre
  have hown : s.vm.findClass RX0 = some m.cls := findClass_of_methodNamed B.named
  have hlocks := B.notSynchronized
  have hF : CallFix pp m cc0 cX0_drawRow 8 s _ wsX0_drawRow RX0 := ⟨hx, hb, hml, hown, hts⟩
  have hinX0 : ∀ w ∈ wsX00, w ∈ wsX0_drawRow := tb_of [3, 4, 5, 6] rfl
  have hS : va_S (kA G) s.heap s.heap [] := va_S.rf
  have hB0 := hE.2.1
  have hl := lv_entry ([.ref (hc), .int (nI (st9)), .int (nI (k)), .int (nI (u))]) (n := 8) (Nat.le_of_ble_eq_true rfl)
  rw [lg_entry_eq]
  generalize (lg_sl ([.ref (hc), .int (nI (st9)), .int (nI (k)), .int (nI (u))]) ++ List.replicate (8 - (lg_sl ([.ref (hc), .int (nI (st9)), .int (nI (k)), .int (nI (u))])).length) Slot.unset).toArray = ls at hl ⊢
  have hl : lv_has ls 8 [(0, .ref (hc)), (1, .int (nI (st9))), (2, .int (nI (k))), (3, .int (nI (u)))] := hl
  refine lv_iconst (v := nI 0) hx hb dX0_drawRow_0 (by decide) ?_
  refine lv_istore (lv' := [(4, .int (nI (0))), (0, .ref (hc)), (1, .int (nI (st9))), (2, .int (nI (k))), (3, .int (nI (u)))]) hx hb dX0_drawRow_1 hl (by decide) rfl (fun ls hl => ?_)
  refine lv_iconst (v := nI 0) hx hb dX0_drawRow_3 (by decide) ?_
  refine lv_istore (lv' := [(5, .int (nI (0))), (4, .int (nI (0))), (0, .ref (hc)), (1, .int (nI (st9))), (2, .int (nI (k))), (3, .int (nI (u)))]) hx hb dX0_drawRow_4 hl (by decide) rfl (fun ls hl => ?_)
  refine lv_iconst (v := nI 0) hx hb dX0_drawRow_6 (by decide) ?_
  refine lv_istore (lv' := [(6, .int (nI (0))), (5, .int (nI (0))), (4, .int (nI (0))), (0, .ref (hc)), (1, .int (nI (st9))), (2, .int (nI (k))), (3, .int (nI (u)))]) hx hb dX0_drawRow_7 hl (by decide) rfl (fun ls hl => ?_)
  have L9 : ∀ (nL9 : Nat) (c : Nat) (hc9 : c ≤ nw) (hmL9 : nw - c < nL9) (H : Heap) (locs : List Loc), kV G ([(hc, .inr (1, [.int (nI (rc)), .ref (as1), .ref (ay1), .int (nI (nw))])), (as1, aN (kcI G) 1600 (drawP F st9 k u nw c)), (ay1, aN (kcI G) 40 Y)] ++ wr) H → va_S (kA G) s.heap H locs → ∀ (ls : Array Slot), lv_has ls 8 [(0, .ref (hc)), (1, .int (nI (st9))), (2, .int (nI (k))), (3, .int (nI (u))), (4, .int (nI (sumN (fun c => if stV k u nw c = 1 then 2 else 3) c))), (5, .int (nI (c % (k + u)))), (6, .int (nI (c)))] → W pp l ee (headSpec wsX0_drawRow ({ frames := 0, cells := 0, slots := 0, locals := 0 } : Room)).room s m [.ref (hc), .int (nI (st9)), .int (nI (k)), .int (nI (u))].toArray below meth cc0 H locs 0 0 (MQ below (kQi G (S := Unit) (fun q _ => q = nI (ynV k u nw)) (fun _ => [(hc, .inr (1, [.int (nI (rc)), .ref (as1), .ref (ay1), .int (nI (nw))])), (as1, aN (kcI G) 1600 (drawP F st9 k u nw nw)), (ay1, aN (kcI G) 40 Y)] ++ wr)) [.ref (hc), .int (nI (st9)), .int (nI (k)), .int (nI (u))].toArray s 0 0 (kA G)) (F0 m 9 ls []) := by
    intro nL9
    induction nL9 with
    | zero => intro c hc9 hmL9; exact absurd hmL9 (Nat.not_lt_zero _)
    | succ nL9 ihL9 =>
      intro c hc9 hmL9 H locs hV hS ls hl
      refine lv_iload hx hb dX0_drawRow_9 (lv_at hl 6 rfl) ?_
      refine lv_aload_n hx hb dX0_drawRow_11 rfl (lv_at hl 0 rfl) ?_
      refine va_get (D := kD G) (ci := 1) (v := .int (nI (nw))) (C := RX0) (T := TX0) (N := 4) hx hb hts hinX0 hown hK hV.1 0 rfl rfl 3 (by decide) (hts (Cond.fieldLink RX0 22 "Yarncourt$Chart" "nextWidth" "I") (List.mem_of_getElem? (i := 1) rfl)) (fun _ h9 => h9) rfl dX0_drawRow_12 ?_
      refine kn_ge (tgt := 85) hx hb (by omega) (by omega) dX0_drawRow_15 (by decide) (fun c15 => ?_) (fun c15 => ?_)
      · refine lv_iload hx hb dX0_drawRow_85 (lv_at hl 4 rfl) ?_
        have e9 : c = nw := by omega
        rw [e9] at hV
        exact W.iret (v := nI (sumN (fun c => if stV k u nw c = 1 then 2 else 3) c)) hx hb hrt (fun t ht hW => ⟨⟨_, (), rfl, by rw [e9]; rfl, kV_eq ht hV⟩, hS.F ht⟩) hS.2.2 dX0_drawRow_87
      · have hmo := Nat.mod_lt c (show 0 < k + u by omega)
        refine lv_iload hx hb dX0_drawRow_18 (lv_at hl 5 rfl) ?_
        refine lv_iload_n hx hb dX0_drawRow_20 rfl (lv_at hl 2 rfl) ?_
        refine kn_ge (tgt := 28) hx hb (by omega) (by omega) dX0_drawRow_21 (by decide) (fun c21 => ?_) (fun c21 => ?_)
        · refine lv_iconst (v := nI 0) hx hb dX0_drawRow_28 (by decide) ?_
          refine lv_istore (lv' := [(7, .int (nI (0))), (0, .ref (hc)), (1, .int (nI (st9))), (2, .int (nI (k))), (3, .int (nI (u))), (4, .int (nI (sumN (fun c => if stV k u nw c = 1 then 2 else 3) c))), (5, .int (nI (c % (k + u)))), (6, .int (nI (c)))]) hx hb dX0_drawRow_29 hl (by decide) rfl (fun ls hl => ?_)
          have hv9 : stV k u nw c = 2 := by rw [stV_in c15, if_neg (by omega)]
          refine lv_aload_n hx hb dX0_drawRow_31 rfl (lv_at hl 1 rfl) ?_
          refine va_get (D := kD G) (ci := 1) (v := .ref (as1)) (C := RX0) (T := TX0) (N := 4) hx hb hts hinX0 hown hK hV.1 0 rfl rfl 1 (by decide) (hts (Cond.fieldLink RX0 15 "Yarncourt$Chart" "stitches" "[I") (List.mem_of_getElem? (i := 2) rfl)) (fun _ h9 => h9) rfl dX0_drawRow_32 ?_
          refine lv_iload_n hx hb dX0_drawRow_35 rfl (lv_at hl 2 rfl) ?_
          refine lv_iload hx hb dX0_drawRow_36 (lv_at hl 7 rfl) ?_
          refine kn_add hx hb dX0_drawRow_38 ?_
          refine lv_iload hx hb dX0_drawRow_39 (lv_at hl 0 rfl) ?_
          refine kn_if_eq_lit (tgt := 48) hx hb (by decide) dX0_drawRow_41 (by decide) ?_
          refine lv_iconst (v := nI 2) hx hb dX0_drawRow_48 (by decide) ?_
          refine kn_iast (G := G) (n := 1600) (g := drawP F st9 k u nw c) (j := st9 + c) (v := 2) hx hb hK hV hS 1 rfl (by omega) (by decide) dX0_drawRow_49 (fun H locs hV hS => ?_)
          have hV : kV G ([(hc, .inr (1, [.int (nI (rc)), .ref (as1), .ref (ay1), .int (nI (nw))])), (as1, aN (kcI G) 1600 (va_up (drawP F st9 k u nw c) (st9 + c) 2)), (ay1, aN (kcI G) 40 Y)] ++ wr) H := hV
          refine lv_iload hx hb dX0_drawRow_50 (lv_at hl 5 rfl) ?_
          refine lv_iload hx hb dX0_drawRow_52 (lv_at hl 0 rfl) ?_
          refine kn_if_eq_lit (tgt := 61) hx hb (by decide) dX0_drawRow_54 (by decide) ?_
          refine lv_iconst (v := nI 3) hx hb dX0_drawRow_61 (by decide) ?_
          refine kn_add hx hb dX0_drawRow_62 ?_
          refine lv_istore (lv' := [(4, .int (nI ((sumN (fun c => if stV k u nw c = 1 then 2 else 3) c) + 3))), (7, .int (nI (0))), (0, .ref (hc)), (1, .int (nI (st9))), (2, .int (nI (k))), (3, .int (nI (u))), (5, .int (nI (c % (k + u)))), (6, .int (nI (c)))]) hx hb dX0_drawRow_63 hl (by decide) rfl (fun ls hl => ?_)
          refine lv_iinc (lv' := [(5, .int (nI (c % (k + u) + 1))), (4, .int (nI ((sumN (fun c => if stV k u nw c = 1 then 2 else 3) c) + 3))), (7, .int (nI (0))), (0, .ref (hc)), (1, .int (nI (st9))), (2, .int (nI (k))), (3, .int (nI (u))), (6, .int (nI (c)))]) hx hb dX0_drawRow_65 hl (k := 6) rfl (kn_iinc (c % (k + u)) 1) (by decide) rfl (fun ls hl => ?_)
          refine lv_iload hx hb dX0_drawRow_68 (lv_at hl 0 rfl) ?_
          refine lv_iload_n hx hb dX0_drawRow_70 rfl (lv_at hl 5 rfl) ?_
          refine lv_iload_n hx hb dX0_drawRow_71 rfl (lv_at hl 6 rfl) ?_
          refine kn_add hx hb dX0_drawRow_72 ?_
          refine kn_ne (tgt := 79) hx hb (by omega) (by omega) dX0_drawRow_73 (by decide) (fun c73 => ?_) (fun c73 => ?_)
          · refine lv_iinc (lv' := [(6, .int (nI (c + 1))), (5, .int (nI (c % (k + u) + 1))), (4, .int (nI ((sumN (fun c => if stV k u nw c = 1 then 2 else 3) c) + 3))), (7, .int (nI (0))), (0, .ref (hc)), (1, .int (nI (st9))), (2, .int (nI (k))), (3, .int (nI (u)))]) hx hb dX0_drawRow_79 hl (k := 7) rfl (kn_iinc c 1) (by decide) rfl (fun ls hl => ?_)
            refine lv_goto (tgt := 9) hx hb dX0_drawRow_82 (by decide) ?_
            exact ihL9 (c + 1) (by omega) (by omega) _ _ (by rw [show drawP F st9 k u nw (c + 1) = va_up (drawP F st9 k u nw c) (st9 + c) 2 from drawP_s hv9]; exact hV) hS ls (by rw [show sumN (fun c => if stV k u nw c = 1 then 2 else 3) (c + 1) = sumN (fun c => if stV k u nw c = 1 then 2 else 3) c + 3 from by rw [sumN_s, hv9]; rfl, (modS (show 0 < k + u by omega)).2 c73]; exact lv_sub hl [4, 5, 6, 7, 2, 1, 0] rfl)
          · refine lv_iconst (v := nI 0) hx hb dX0_drawRow_76 (by decide) ?_
            refine lv_istore (lv' := [(5, .int (nI (0))), (4, .int (nI ((sumN (fun c => if stV k u nw c = 1 then 2 else 3) c) + 3))), (7, .int (nI (0))), (0, .ref (hc)), (1, .int (nI (st9))), (2, .int (nI (k))), (3, .int (nI (u))), (6, .int (nI (c)))]) hx hb dX0_drawRow_77 hl (by decide) rfl (fun ls hl => ?_)
            refine lv_iinc (lv' := [(6, .int (nI (c + 1))), (5, .int (nI (0))), (4, .int (nI ((sumN (fun c => if stV k u nw c = 1 then 2 else 3) c) + 3))), (7, .int (nI (0))), (0, .ref (hc)), (1, .int (nI (st9))), (2, .int (nI (k))), (3, .int (nI (u)))]) hx hb dX0_drawRow_79 hl (k := 7) rfl (kn_iinc c 1) (by decide) rfl (fun ls hl => ?_)
            refine lv_goto (tgt := 9) hx hb dX0_drawRow_82 (by decide) ?_
            exact ihL9 (c + 1) (by omega) (by omega) _ _ (by rw [show drawP F st9 k u nw (c + 1) = va_up (drawP F st9 k u nw c) (st9 + c) 2 from drawP_s hv9]; exact hV) hS ls (by rw [show sumN (fun c => if stV k u nw c = 1 then 2 else 3) (c + 1) = sumN (fun c => if stV k u nw c = 1 then 2 else 3) c + 3 from by rw [sumN_s, hv9]; rfl, (modS (show 0 < k + u by omega)).1 c73]; exact lv_sub hl [4, 5, 6, 7, 2, 1, 0] rfl)
        · refine lv_iconst (v := nI 1) hx hb dX0_drawRow_24 (by decide) ?_
          refine lv_goto (tgt := 29) hx hb dX0_drawRow_25 (by decide) ?_
          refine lv_istore (lv' := [(7, .int (nI (1))), (0, .ref (hc)), (1, .int (nI (st9))), (2, .int (nI (k))), (3, .int (nI (u))), (4, .int (nI (sumN (fun c => if stV k u nw c = 1 then 2 else 3) c))), (5, .int (nI (c % (k + u)))), (6, .int (nI (c)))]) hx hb dX0_drawRow_29 hl (by decide) rfl (fun ls hl => ?_)
          have hv9 : stV k u nw c = 1 := by rw [stV_in c15, if_pos c21]
          refine lv_aload_n hx hb dX0_drawRow_31 rfl (lv_at hl 1 rfl) ?_
          refine va_get (D := kD G) (ci := 1) (v := .ref (as1)) (C := RX0) (T := TX0) (N := 4) hx hb hts hinX0 hown hK hV.1 0 rfl rfl 1 (by decide) (hts (Cond.fieldLink RX0 15 "Yarncourt$Chart" "stitches" "[I") (List.mem_of_getElem? (i := 2) rfl)) (fun _ h9 => h9) rfl dX0_drawRow_32 ?_
          refine lv_iload_n hx hb dX0_drawRow_35 rfl (lv_at hl 2 rfl) ?_
          refine lv_iload hx hb dX0_drawRow_36 (lv_at hl 7 rfl) ?_
          refine kn_add hx hb dX0_drawRow_38 ?_
          refine lv_iload hx hb dX0_drawRow_39 (lv_at hl 0 rfl) ?_
          refine kn_if_eq_not hx hb (by decide) dX0_drawRow_41 ?_ 48 (by decide)
          refine lv_iconst (v := nI 1) hx hb dX0_drawRow_44 (by decide) ?_
          refine lv_goto (tgt := 49) hx hb dX0_drawRow_45 (by decide) ?_
          refine kn_iast (G := G) (n := 1600) (g := drawP F st9 k u nw c) (j := st9 + c) (v := 1) hx hb hK hV hS 1 rfl (by omega) (by decide) dX0_drawRow_49 (fun H locs hV hS => ?_)
          have hV : kV G ([(hc, .inr (1, [.int (nI (rc)), .ref (as1), .ref (ay1), .int (nI (nw))])), (as1, aN (kcI G) 1600 (va_up (drawP F st9 k u nw c) (st9 + c) 1)), (ay1, aN (kcI G) 40 Y)] ++ wr) H := hV
          refine lv_iload hx hb dX0_drawRow_50 (lv_at hl 5 rfl) ?_
          refine lv_iload hx hb dX0_drawRow_52 (lv_at hl 0 rfl) ?_
          refine kn_if_eq_not hx hb (by decide) dX0_drawRow_54 ?_ 61 (by decide)
          refine lv_iconst (v := nI 2) hx hb dX0_drawRow_57 (by decide) ?_
          refine lv_goto (tgt := 62) hx hb dX0_drawRow_58 (by decide) ?_
          refine kn_add hx hb dX0_drawRow_62 ?_
          refine lv_istore (lv' := [(4, .int (nI ((sumN (fun c => if stV k u nw c = 1 then 2 else 3) c) + 2))), (7, .int (nI (1))), (0, .ref (hc)), (1, .int (nI (st9))), (2, .int (nI (k))), (3, .int (nI (u))), (5, .int (nI (c % (k + u)))), (6, .int (nI (c)))]) hx hb dX0_drawRow_63 hl (by decide) rfl (fun ls hl => ?_)
          refine lv_iinc (lv' := [(5, .int (nI (c % (k + u) + 1))), (4, .int (nI ((sumN (fun c => if stV k u nw c = 1 then 2 else 3) c) + 2))), (7, .int (nI (1))), (0, .ref (hc)), (1, .int (nI (st9))), (2, .int (nI (k))), (3, .int (nI (u))), (6, .int (nI (c)))]) hx hb dX0_drawRow_65 hl (k := 6) rfl (kn_iinc (c % (k + u)) 1) (by decide) rfl (fun ls hl => ?_)
          refine lv_iload hx hb dX0_drawRow_68 (lv_at hl 0 rfl) ?_
          refine lv_iload_n hx hb dX0_drawRow_70 rfl (lv_at hl 5 rfl) ?_
          refine lv_iload_n hx hb dX0_drawRow_71 rfl (lv_at hl 6 rfl) ?_
          refine kn_add hx hb dX0_drawRow_72 ?_
          refine kn_ne (tgt := 79) hx hb (by omega) (by omega) dX0_drawRow_73 (by decide) (fun c73 => ?_) (fun c73 => ?_)
          · refine lv_iinc (lv' := [(6, .int (nI (c + 1))), (5, .int (nI (c % (k + u) + 1))), (4, .int (nI ((sumN (fun c => if stV k u nw c = 1 then 2 else 3) c) + 2))), (7, .int (nI (1))), (0, .ref (hc)), (1, .int (nI (st9))), (2, .int (nI (k))), (3, .int (nI (u)))]) hx hb dX0_drawRow_79 hl (k := 7) rfl (kn_iinc c 1) (by decide) rfl (fun ls hl => ?_)
            refine lv_goto (tgt := 9) hx hb dX0_drawRow_82 (by decide) ?_
            exact ihL9 (c + 1) (by omega) (by omega) _ _ (by rw [show drawP F st9 k u nw (c + 1) = va_up (drawP F st9 k u nw c) (st9 + c) 1 from drawP_s hv9]; exact hV) hS ls (by rw [show sumN (fun c => if stV k u nw c = 1 then 2 else 3) (c + 1) = sumN (fun c => if stV k u nw c = 1 then 2 else 3) c + 2 from by rw [sumN_s, hv9]; rfl, (modS (show 0 < k + u by omega)).2 c73]; exact lv_sub hl [4, 5, 6, 7, 2, 1, 0] rfl)
          · refine lv_iconst (v := nI 0) hx hb dX0_drawRow_76 (by decide) ?_
            refine lv_istore (lv' := [(5, .int (nI (0))), (4, .int (nI ((sumN (fun c => if stV k u nw c = 1 then 2 else 3) c) + 2))), (7, .int (nI (1))), (0, .ref (hc)), (1, .int (nI (st9))), (2, .int (nI (k))), (3, .int (nI (u))), (6, .int (nI (c)))]) hx hb dX0_drawRow_77 hl (by decide) rfl (fun ls hl => ?_)
            refine lv_iinc (lv' := [(6, .int (nI (c + 1))), (5, .int (nI (0))), (4, .int (nI ((sumN (fun c => if stV k u nw c = 1 then 2 else 3) c) + 2))), (7, .int (nI (1))), (0, .ref (hc)), (1, .int (nI (st9))), (2, .int (nI (k))), (3, .int (nI (u)))]) hx hb dX0_drawRow_79 hl (k := 7) rfl (kn_iinc c 1) (by decide) rfl (fun ls hl => ?_)
            refine lv_goto (tgt := 9) hx hb dX0_drawRow_82 (by decide) ?_
            exact ihL9 (c + 1) (by omega) (by omega) _ _ (by rw [show drawP F st9 k u nw (c + 1) = va_up (drawP F st9 k u nw c) (st9 + c) 1 from drawP_s hv9]; exact hV) hS ls (by rw [show sumN (fun c => if stV k u nw c = 1 then 2 else 3) (c + 1) = sumN (fun c => if stV k u nw c = 1 then 2 else 3) c + 2 from by rw [sumN_s, hv9]; rfl, (modS (show 0 < k + u by omega)).1 c73]; exact lv_sub hl [4, 5, 6, 7, 2, 1, 0] rfl)
  exact L9 ((nw - 0) + 1) 0 (by omega) (Nat.lt_succ_self _) _ _ (by rw [drawP_0]; exact hV) hS ls (by rw [Nat.zero_mod]; exact lv_sub hl [3, 4, 5, 6, 2, 1, 0] rfl)
set_option maxHeartbeats 4000000 in
set_option maxRecDepth 100000 in
theorem c_X0_drawLine (l : Launch) (G : kG) (hc : Nat) (as1 : Nat) (ay1 : Nat) (rc : Nat) (nw : Nat) (F : Nat → Nat) (Y : Nat → Nat) (wr : va_W) (k : Nat) (u : Nat) (z : Int) (t : Nat) (hrc : rc + t ≤ 40) (hnw : 1 ≤ nw ∧ nw ≤ 40) (hku : 1 ≤ k + u) (hk9 : k ≤ 9) (hu9 : u ≤ 9) (hz : -3 ≤ z ∧ z ≤ 3) : Met l yX0_drawLine wsX0_drawLine ({ frames := 3, cells := 0, slots := 0, locals := 64 } : Room) (kPc G [.ref (hc), .int (nI (k)), .int (nI (u)), .int (zI (z)), .int (nI (t))] ([(hc, .inr (1, [.int (nI (rc)), .ref (as1), .ref (ay1), .int (nI (nw))])), (as1, aN (kcI G) 1600 F), (ay1, aN (kcI G) 40 Y)] ++ wr)) (kQv G (S := Unit) (fun _ => True) (fun _ => [(hc, .inr (1, [.int (nI (rc + t)), .ref (as1), .ref (ay1), .int (nI (wN nw z t))])), (as1, aN (kcI G) 1600 (dlF F k u z nw rc t)), (ay1, aN (kcI G) 40 (dlY Y k u z nw rc t))] ++ wr)) 0 0 (kA G) := by
  refine Met.ofW (cc := cX0_drawLine) (maxL := 6) (ret := none) (by decide) rfl ?_
  intro pp ee s m args below meth cc0 s₁ B hml hv
  obtain ⟨rfl, hE, hV⟩ := hv
  have hK := hE.1
  have hx := B.exec
  have hb := B.bytes
  have hrt := B.returns
  have hts := atoms_spec (ws := wsX0_drawLine) B.pre
  have hown : s.vm.findClass RX0 = some m.cls := findClass_of_methodNamed B.named
  have hlocks := B.notSynchronized
  have hF : CallFix pp m cc0 cX0_drawLine 6 s _ wsX0_drawLine RX0 := ⟨hx, hb, hml, hown, hts⟩
  have hinX0 : ∀ w ∈ wsX00, w ∈ wsX0_drawLine := tb_of [23, 24, 25, 26] rfl
  have hS : va_S (kA G) s.heap s.heap [] := va_S.rf
  have hB0 := hE.2.1
  have hl := lv_entry ([.ref (hc), .int (nI (k)), .int (nI (u)), .int (zI (z)), .int (nI (t))]) (n := 6) (Nat.le_of_ble_eq_true rfl)
  rw [lg_entry_eq]
  generalize (lg_sl ([.ref (hc), .int (nI (k)), .int (nI (u)), .int (zI (z)), .int (nI (t))]) ++ List.replicate (6 - (lg_sl ([.ref (hc), .int (nI (k)), .int (nI (u)), .int (zI (z)), .int (nI (t))])).length) Slot.unset).toArray = ls at hl ⊢
  have hl : lv_has ls 6 [(0, .ref (hc)), (1, .int (nI (k))), (2, .int (nI (u))), (3, .int (zI (z))), (4, .int (nI (t)))] := hl
  refine lv_iconst (v := nI 0) hx hb dX0_drawLine_0 (by decide) ?_
  refine lv_istore (lv' := [(5, .int (nI (0))), (0, .ref (hc)), (1, .int (nI (k))), (2, .int (nI (u))), (3, .int (zI (z))), (4, .int (nI (t)))]) hx hb dX0_drawLine_1 hl (by decide) rfl (fun ls hl => ?_)
  have L3 : ∀ (nL3 : Nat) (i : Nat) (hi : i ≤ t) (hmL3 : t - i < nL3) (H : Heap) (locs : List Loc), kV G ([(hc, .inr (1, [.int (nI (rc + i)), .ref (as1), .ref (ay1), .int (nI (wN nw z i))])), (as1, aN (kcI G) 1600 (dlF F k u z nw rc i)), (ay1, aN (kcI G) 40 (dlY Y k u z nw rc i))] ++ wr) H → va_S (kA G) s.heap H locs → ∀ (ls : Array Slot), lv_has ls 6 [(0, .ref (hc)), (1, .int (nI (k))), (2, .int (nI (u))), (3, .int (zI (z))), (4, .int (nI (t))), (5, .int (nI (i)))] → W pp l ee (headSpec wsX0_drawLine ({ frames := 3, cells := 0, slots := 0, locals := 64 } : Room)).room s m [.ref (hc), .int (nI (k)), .int (nI (u)), .int (zI (z)), .int (nI (t))].toArray below meth cc0 H locs 0 0 (MQ below (kQv G (S := Unit) (fun _ => True) (fun _ => [(hc, .inr (1, [.int (nI (rc + t)), .ref (as1), .ref (ay1), .int (nI (wN nw z t))])), (as1, aN (kcI G) 1600 (dlF F k u z nw rc t)), (ay1, aN (kcI G) 40 (dlY Y k u z nw rc t))] ++ wr)) [.ref (hc), .int (nI (k)), .int (nI (u)), .int (zI (z)), .int (nI (t))].toArray s 0 0 (kA G)) (F0 m 3 ls []) := by
    intro nL3
    induction nL3 with
    | zero => intro i hi hmL3; exact absurd hmL3 (Nat.not_lt_zero _)
    | succ nL3 ihL3 =>
      intro i hi hmL3 H locs hV hS ls hl
      refine lv_iload hx hb dX0_drawLine_3 (lv_at hl 5 rfl) ?_
      refine lv_iload hx hb dX0_drawLine_5 (lv_at hl 4 rfl) ?_
      refine kn_ge (tgt := 69) hx hb (by omega) (by omega) dX0_drawLine_7 (by decide) (fun c7 => ?_) (fun c7 => ?_)
      · have e9 : i = t := by omega
        rw [e9] at hV
        exact W.vret hx hb hrt (fun t ht hW => ⟨⟨(), rfl, trivial, kV_eq ht hV⟩, hS.F ht⟩) hS.2.2 dX0_drawLine_69
      · have hwi := wN_in (z := z) hnw i
        refine lv_aload_n hx hb dX0_drawLine_10 rfl (lv_at hl 0 rfl) ?_
        refine va_get (D := kD G) (ci := 1) (v := .int (nI (rc + i))) (C := RX0) (T := TX0) (N := 4) hx hb hts hinX0 hown hK hV.1 0 rfl rfl 0 (by decide) (hts (Cond.fieldLink RX0 9 "Yarncourt$Chart" "rowCount" "I") (List.mem_of_getElem? (i := 1) rfl)) (fun _ h9 => h9) rfl dX0_drawLine_11 ?_
        refine lv_bipush (v := nI 40) hx hb dX0_drawLine_14 (by decide) ?_
        refine kn_ge (tgt := 69) hx hb (by omega) (by decide) dX0_drawLine_16 (by decide) (fun z => absurd z (by omega)) (fun c16 => ?_)
        refine lv_aload_n hx hb dX0_drawLine_19 rfl (lv_at hl 0 rfl) ?_
        refine va_get (D := kD G) (ci := 1) (v := .ref (ay1)) (C := RX0) (T := TX0) (N := 4) hx hb hts hinX0 hown hK hV.1 0 rfl rfl 2 (by decide) (hts (Cond.fieldLink RX0 19 "Yarncourt$Chart" "yarnOfRow" "[I") (List.mem_of_getElem? (i := 2) rfl)) (fun _ h9 => h9) rfl dX0_drawLine_20 ?_
        refine lv_aload_n hx hb dX0_drawLine_23 rfl (lv_at hl 0 rfl) ?_
        refine va_get (D := kD G) (ci := 1) (v := .int (nI (rc + i))) (C := RX0) (T := TX0) (N := 4) hx hb hts hinX0 hown hK hV.1 0 rfl rfl 0 (by decide) (hts (Cond.fieldLink RX0 9 "Yarncourt$Chart" "rowCount" "I") (List.mem_of_getElem? (i := 1) rfl)) (fun _ h9 => h9) rfl dX0_drawLine_24 ?_
        refine lv_aload_n hx hb dX0_drawLine_27 rfl (lv_at hl 0 rfl) ?_
        refine lv_aload_n hx hb dX0_drawLine_28 rfl (lv_at hl 0 rfl) ?_
        refine va_get (D := kD G) (ci := 1) (v := .int (nI (rc + i))) (C := RX0) (T := TX0) (N := 4) hx hb hts hinX0 hown hK hV.1 0 rfl rfl 0 (by decide) (hts (Cond.fieldLink RX0 9 "Yarncourt$Chart" "rowCount" "I") (List.mem_of_getElem? (i := 1) rfl)) (fun _ h9 => h9) rfl dX0_drawLine_29 ?_
        refine lv_bipush (v := nI 40) hx hb dX0_drawLine_32 (by decide) ?_
        refine kn_mul hx hb dX0_drawLine_34 ?_
        refine lv_iload_n hx hb dX0_drawLine_35 rfl (lv_at hl 1 rfl) ?_
        refine lv_iload_n hx hb dX0_drawLine_36 rfl (lv_at hl 2 rfl) ?_
        refine kc_i (va_runV (As := [.int (nI ((rc + i) * 40)), .int (nI (k)), .int (nI (u))]) (rest := [.int (nI (rc + i)), .ref (ay1)]) hF (c_X0_drawRow l G hc as1 ay1 (rc + i) (wN nw z i) (dlF F k u z nw rc i) (dlY Y k u z nw rc i) wr ((rc + i) * 40) k u (by omega) (by omega) (by omega) (by omega) (by omega)) (cwV 3 hts gX0_drawLine_X0_drawRow rfl rfl rfl (by decide +kernel) ⟨Nat.le_of_ble_eq_true rfl, Nat.le_of_ble_eq_true rfl⟩) (kPreV hE hS hV 0 rfl rfl) rfl rfl hl.1 rfl (lv_room (Nat.le_of_ble_eq_true rfl)) dX0_drawLine_37 ⟨Nat.le_of_ble_eq_true rfl, Nat.le_of_ble_eq_true rfl⟩) hS (fun r_3 u_2 H locs hp_1 hV hS => ?_)
        subst hp_1
        have hV : kV G ([(hc, .inr (1, [.int (nI (rc + i)), .ref (as1), .ref (ay1), .int (nI (wN nw z i))])), (as1, aN (kcI G) 1600 (drawP (dlF F k u z nw rc i) ((rc + i) * 40) k u (wN nw z i) (wN nw z i))), (ay1, aN (kcI G) 40 (dlY Y k u z nw rc i))] ++ wr) H := hV
        refine kn_iast (G := G) (n := 40) (g := dlY Y k u z nw rc i) (j := rc + i) (v := ynV k u (wN nw z i)) hx hb hK hV hS 2 rfl (by omega) (by decide) dX0_drawLine_40 (fun H locs hV hS => ?_)
        have hV : kV G ([(hc, .inr (1, [.int (nI (rc + i)), .ref (as1), .ref (ay1), .int (nI (wN nw z i))])), (as1, aN (kcI G) 1600 (drawP (dlF F k u z nw rc i) ((rc + i) * 40) k u (wN nw z i) (wN nw z i))), (ay1, aN (kcI G) 40 (va_up (dlY Y k u z nw rc i) (rc + i) (ynV k u (wN nw z i))))] ++ wr) H := hV
        refine lv_aload_n hx hb dX0_drawLine_41 rfl (lv_at hl 0 rfl) ?_
        refine lv_aload_n hx hb dX0_drawLine_42 rfl (lv_at hl 0 rfl) ?_
        refine va_get (D := kD G) (ci := 1) (v := .int (nI (wN nw z i))) (C := RX0) (T := TX0) (N := 4) hx hb hts hinX0 hown hK hV.1 0 rfl rfl 3 (by decide) (hts (Cond.fieldLink RX0 22 "Yarncourt$Chart" "nextWidth" "I") (List.mem_of_getElem? (i := 3) rfl)) (fun _ h9 => h9) rfl dX0_drawLine_43 ?_
        refine lv_iload_n hx hb dX0_drawLine_46 rfl (lv_at hl 3 rfl) ?_
        refine kc_i (va_runSN (As := [.int (nI (wN nw z i)), .int (zI (z))]) (rest := [.ref (hc)]) hF (c_X5_widthAfter l G (wN nw z i) z ([(hc, .inr (1, [.int (nI (rc + i)), .ref (as1), .ref (ay1), .int (nI (wN nw z i))])), (as1, aN (kcI G) 1600 (drawP (dlF F k u z nw rc i) ((rc + i) * 40) k u (wN nw z i) (wN nw z i))), (ay1, aN (kcI G) 40 (va_up (dlY Y k u z nw rc i) (rc + i) (ynV k u (wN nw z i))))] ++ wr) (by omega) (by omega)) ⟨va_cnB 2 hts gX0_drawLine_X5_widthAfter_n29 rfl rfl rfl (hE.2.2.1 (Cond.methodLinkNest "Yarncourt$Chart" 29 yX5_widthAfter "Yarncourt") (by decide +kernel)) (hts (Cond.initialized RX5) (List.mem_of_getElem? (i := 11) rfl)) (by decide +kernel) ⟨Nat.le_of_ble_eq_true rfl, Nat.le_of_ble_eq_true rfl⟩, (hts (Cond.static yX5_widthAfter) (List.mem_of_getElem? (i := 10) rfl)), trivial⟩ (kPreS hE hS hV) rfl rfl hl.1 rfl (lv_room (Nat.le_of_ble_eq_true rfl)) dX0_drawLine_47 ⟨Nat.le_of_ble_eq_true rfl, Nat.le_of_ble_eq_true rfl⟩) hS (fun r_6 u_5 H locs hp_4 hV hS => ?_)
        subst hp_4
        have hV : kV G ([(hc, .inr (1, [.int (nI (rc + i)), .ref (as1), .ref (ay1), .int (nI (wN nw z i))])), (as1, aN (kcI G) 1600 (drawP (dlF F k u z nw rc i) ((rc + i) * 40) k u (wN nw z i) (wN nw z i))), (ay1, aN (kcI G) 40 (va_up (dlY Y k u z nw rc i) (rc + i) (ynV k u (wN nw z i))))] ++ wr) H := hV
        refine va_put (D := kD G) (ci := 1) (v := .int (nI (clampW (((wN nw z i) : Int) + z)))) (ty := .int) (C := RX0) (T := TX0) (N := 4) hx hb hts hinX0 tyX0 tyX0_ok nmX0 hown hK hV.1 hV.2 hS 0 rfl rfl 3 (by decide) (hts (Cond.fieldLink RX0 22 "Yarncourt$Chart" "nextWidth" "I") (List.mem_of_getElem? (i := 3) rfl)) (fun _ h9 => h9) rfl (by decide +kernel) rfl rfl (Nat.le_of_ble_eq_true rfl) dX0_drawLine_50 (fun H locs hP hD hS => ?_)
        have hV : kV G ([(hc, .inr (1, [.int (nI (rc + i)), .ref (as1), .ref (ay1), .int (nI (clampW (((wN nw z i) : Int) + z)))])), (as1, aN (kcI G) 1600 (drawP (dlF F k u z nw rc i) ((rc + i) * 40) k u (wN nw z i) (wN nw z i))), (ay1, aN (kcI G) 40 (va_up (dlY Y k u z nw rc i) (rc + i) (ynV k u (wN nw z i))))] ++ wr) H := ⟨hP, hD⟩
        refine lv_aload_n hx hb dX0_drawLine_53 rfl (lv_at hl 0 rfl) ?_
        refine lv_dup hx hb dX0_drawLine_54 rfl ?_
        refine va_get (D := kD G) (ci := 1) (v := .int (nI (rc + i))) (C := RX0) (T := TX0) (N := 4) hx hb hts hinX0 hown hK hV.1 0 rfl rfl 0 (by decide) (hts (Cond.fieldLink RX0 9 "Yarncourt$Chart" "rowCount" "I") (List.mem_of_getElem? (i := 1) rfl)) (fun _ h9 => h9) rfl dX0_drawLine_55 ?_
        refine lv_iconst (v := nI 1) hx hb dX0_drawLine_58 (by decide) ?_
        refine kn_add hx hb dX0_drawLine_59 ?_
        refine va_put (D := kD G) (ci := 1) (v := .int (nI ((rc + i) + 1))) (ty := .int) (C := RX0) (T := TX0) (N := 4) hx hb hts hinX0 tyX0 tyX0_ok nmX0 hown hK hV.1 hV.2 hS 0 rfl rfl 0 (by decide) (hts (Cond.fieldLink RX0 9 "Yarncourt$Chart" "rowCount" "I") (List.mem_of_getElem? (i := 1) rfl)) (fun _ h9 => h9) rfl (by decide +kernel) rfl rfl (Nat.le_of_ble_eq_true rfl) dX0_drawLine_60 (fun H locs hP hD hS => ?_)
        have hV : kV G ([(hc, .inr (1, [.int (nI ((rc + i) + 1)), .ref (as1), .ref (ay1), .int (nI (clampW (((wN nw z i) : Int) + z)))])), (as1, aN (kcI G) 1600 (drawP (dlF F k u z nw rc i) ((rc + i) * 40) k u (wN nw z i) (wN nw z i))), (ay1, aN (kcI G) 40 (va_up (dlY Y k u z nw rc i) (rc + i) (ynV k u (wN nw z i))))] ++ wr) H := ⟨hP, hD⟩
        refine lv_iinc (lv' := [(5, .int (nI (i + 1))), (0, .ref (hc)), (1, .int (nI (k))), (2, .int (nI (u))), (3, .int (zI (z))), (4, .int (nI (t)))]) hx hb dX0_drawLine_63 hl (k := 5) rfl (kn_iinc i 1) (by decide) rfl (fun ls hl => ?_)
        refine lv_goto (tgt := 3) hx hb dX0_drawLine_66 (by decide) ?_
        exact ihL3 (i + 1) (by omega) (by omega) _ _ hV hS ls (lv_sub hl [1, 2, 3, 4, 5, 0] rfl)
  exact L3 ((t - 0) + 1) 0 (by omega) (Nat.lt_succ_self _) _ _ hV hS ls (lv_sub hl [1, 2, 3, 4, 5, 0] rfl)
set_option maxHeartbeats 4000000 in
set_option maxRecDepth 100000 in
theorem c_X0_stitchAt (l : Launch) (G : kG) (hc : Nat) (as1 : Nat) (ay1 : Nat) (rc : Nat) (nw : Nat) (F : Nat → Nat) (Y : Nat → Nat) (wr : va_W) (r : Nat) (c : Nat) (hr9 : r < 40) (hcc : c < 2 ^ 31) : Met l yX0_stitchAt wsX0_stitchAt ({ frames := 0, cells := 0, slots := 0, locals := 0 } : Room) (kPc G [.ref (hc), .int (nI (r)), .int (nI (c))] ([(hc, .inr (1, [.int (nI (rc)), .ref (as1), .ref (ay1), .int (nI (nw))])), (as1, aN (kcI G) 1600 F), (ay1, aN (kcI G) 40 Y)] ++ wr)) (kQi G (S := Unit) (fun q _ => q = nI (if c < 40 then F (r * 40 + c) else 0)) (fun _ => [(hc, .inr (1, [.int (nI (rc)), .ref (as1), .ref (ay1), .int (nI (nw))])), (as1, aN (kcI G) 1600 F), (ay1, aN (kcI G) 40 Y)] ++ wr)) 0 0 (kA G) := by
  refine Met.ofW (cc := cX0_stitchAt) (maxL := 3) (ret := (some .int)) (by decide) rfl ?_
  intro pp ee s m args below meth cc0 s₁ B hml hv
  obtain ⟨rfl, hE, hV⟩ := hv
  have hK := hE.1
  have hx := B.exec
  have hb := B.bytes
  have hrt := B.returns
  have hts := atoms_spec (ws := wsX0_stitchAt) B.pre
  have hown : s.vm.findClass RX0 = some m.cls := findClass_of_methodNamed B.named
  have hlocks := B.notSynchronized
  have hF : CallFix pp m cc0 cX0_stitchAt 3 s _ wsX0_stitchAt RX0 := ⟨hx, hb, hml, hown, hts⟩
  have hinX0 : ∀ w ∈ wsX00, w ∈ wsX0_stitchAt := tb_of [2, 3, 4, 5] rfl
  have hS : va_S (kA G) s.heap s.heap [] := va_S.rf
  have hB0 := hE.2.1
  have hl := lv_entry ([.ref (hc), .int (nI (r)), .int (nI (c))]) (n := 3) (Nat.le_of_ble_eq_true rfl)
  rw [lg_entry_eq]
  generalize (lg_sl ([.ref (hc), .int (nI (r)), .int (nI (c))]) ++ List.replicate (3 - (lg_sl ([.ref (hc), .int (nI (r)), .int (nI (c))])).length) Slot.unset).toArray = ls at hl ⊢
  have hl : lv_has ls 3 [(0, .ref (hc)), (1, .int (nI (r))), (2, .int (nI (c)))] := hl
  refine lv_iload_n hx hb dX0_stitchAt_0 rfl (lv_at hl 2 rfl) ?_
  refine lv_bipush (v := nI 40) hx hb dX0_stitchAt_1 (by decide) ?_
  refine kn_ge (tgt := 20) hx hb (by omega) (by decide) dX0_stitchAt_3 (by decide) (fun c3 => ?_) (fun c3 => ?_)
  · refine lv_iconst (v := nI 0) hx hb dX0_stitchAt_20 (by decide) ?_
    exact W.iret (v := nI 0) hx hb hrt (fun t ht hW => ⟨⟨_, (), rfl, by rw [if_neg (by omega)], kV_eq ht hV⟩, hS.F ht⟩) hS.2.2 dX0_stitchAt_21
  · refine lv_aload_n hx hb dX0_stitchAt_6 rfl (lv_at hl 0 rfl) ?_
    refine va_get (D := kD G) (ci := 1) (v := .ref (as1)) (C := RX0) (T := TX0) (N := 4) hx hb hts hinX0 hown hK hV.1 0 rfl rfl 1 (by decide) (hts (Cond.fieldLink RX0 15 "Yarncourt$Chart" "stitches" "[I") (List.mem_of_getElem? (i := 1) rfl)) (fun _ h9 => h9) rfl dX0_stitchAt_7 ?_
    refine lv_iload_n hx hb dX0_stitchAt_10 rfl (lv_at hl 1 rfl) ?_
    refine lv_bipush (v := nI 40) hx hb dX0_stitchAt_11 (by decide) ?_
    refine kn_mul hx hb dX0_stitchAt_13 ?_
    refine lv_iload_n hx hb dX0_stitchAt_14 rfl (lv_at hl 2 rfl) ?_
    refine kn_add hx hb dX0_stitchAt_15 ?_
    refine kn_iald (G := G) (n := 1600) (g := F) (j := (r * 40) + c) hx hb hK hV 1 rfl (by omega) (by decide) dX0_stitchAt_16 ?_
    refine lv_goto (tgt := 21) hx hb dX0_stitchAt_17 (by decide) ?_
    exact W.iret (v := nI (F ((r * 40) + c))) hx hb hrt (fun t ht hW => ⟨⟨_, (), rfl, by rw [if_pos c3], kV_eq ht hV⟩, hS.F ht⟩) hS.2.2 dX0_stitchAt_21
set_option maxHeartbeats 4000000 in
set_option maxRecDepth 100000 in
theorem c_X0_yarnOf (l : Launch) (G : kG) (hc : Nat) (as1 : Nat) (ay1 : Nat) (rc : Nat) (nw : Nat) (F : Nat → Nat) (Y : Nat → Nat) (wr : va_W) (r : Nat) (hr9 : r < 40) : Met l yX0_yarnOf wsX0_yarnOf ({ frames := 0, cells := 0, slots := 0, locals := 0 } : Room) (kPc G [.ref (hc), .int (nI (r))] ([(hc, .inr (1, [.int (nI (rc)), .ref (as1), .ref (ay1), .int (nI (nw))])), (as1, aN (kcI G) 1600 F), (ay1, aN (kcI G) 40 Y)] ++ wr)) (kQi G (S := Unit) (fun q _ => q = nI (Y r)) (fun _ => [(hc, .inr (1, [.int (nI (rc)), .ref (as1), .ref (ay1), .int (nI (nw))])), (as1, aN (kcI G) 1600 F), (ay1, aN (kcI G) 40 Y)] ++ wr)) 0 0 (kA G) := by
  refine Met.ofW (cc := cX0_yarnOf) (maxL := 2) (ret := (some .int)) (by decide) rfl ?_
  intro pp ee s m args below meth cc0 s₁ B hml hv
  obtain ⟨rfl, hE, hV⟩ := hv
  have hK := hE.1
  have hx := B.exec
  have hb := B.bytes
  have hrt := B.returns
  have hts := atoms_spec (ws := wsX0_yarnOf) B.pre
  have hown : s.vm.findClass RX0 = some m.cls := findClass_of_methodNamed B.named
  have hlocks := B.notSynchronized
  have hF : CallFix pp m cc0 cX0_yarnOf 2 s _ wsX0_yarnOf RX0 := ⟨hx, hb, hml, hown, hts⟩
  have hinX0 : ∀ w ∈ wsX00, w ∈ wsX0_yarnOf := tb_of [2, 3, 4, 5] rfl
  have hS : va_S (kA G) s.heap s.heap [] := va_S.rf
  have hB0 := hE.2.1
  have hl := lv_entry ([.ref (hc), .int (nI (r))]) (n := 2) (Nat.le_of_ble_eq_true rfl)
  rw [lg_entry_eq]
  generalize (lg_sl ([.ref (hc), .int (nI (r))]) ++ List.replicate (2 - (lg_sl ([.ref (hc), .int (nI (r))])).length) Slot.unset).toArray = ls at hl ⊢
  have hl : lv_has ls 2 [(0, .ref (hc)), (1, .int (nI (r)))] := hl
  refine lv_aload_n hx hb dX0_yarnOf_0 rfl (lv_at hl 0 rfl) ?_
  refine va_get (D := kD G) (ci := 1) (v := .ref (ay1)) (C := RX0) (T := TX0) (N := 4) hx hb hts hinX0 hown hK hV.1 0 rfl rfl 2 (by decide) (hts (Cond.fieldLink RX0 19 "Yarncourt$Chart" "yarnOfRow" "[I") (List.mem_of_getElem? (i := 1) rfl)) (fun _ h9 => h9) rfl dX0_yarnOf_1 ?_
  refine lv_iload_n hx hb dX0_yarnOf_4 rfl (lv_at hl 1 rfl) ?_
  refine kn_iald (G := G) (n := 40) (g := Y) (j := r) hx hb hK hV 2 rfl (by omega) (by decide) dX0_yarnOf_5 ?_
  exact W.iret (v := nI (Y r)) hx hb hrt (fun t ht hW => ⟨⟨_, (), rfl, rfl, kV_eq ht hV⟩, hS.F ht⟩) hS.2.2 dX0_yarnOf_6
set_option maxHeartbeats 4000000 in
set_option maxRecDepth 100000 in
theorem c_X0_yarnOfAllRows (l : Launch) (G : kG) (hc : Nat) (as1 : Nat) (ay1 : Nat) (rc : Nat) (nw : Nat) (F : Nat → Nat) (Y : Nat → Nat) (wr : va_W) (hrc : rc ≤ 40) : Met l yX0_yarnOfAllRows wsX0_yarnOfAllRows ({ frames := 0, cells := 0, slots := 0, locals := 0 } : Room) (kPc G [.ref (hc)] ([(hc, .inr (1, [.int (nI (rc)), .ref (as1), .ref (ay1), .int (nI (nw))])), (as1, aN (kcI G) 1600 F), (ay1, aN (kcI G) 40 Y)] ++ wr)) (kQi G (S := Unit) (fun q _ => q = nI (sumN Y rc)) (fun _ => [(hc, .inr (1, [.int (nI (rc)), .ref (as1), .ref (ay1), .int (nI (nw))])), (as1, aN (kcI G) 1600 F), (ay1, aN (kcI G) 40 Y)] ++ wr)) 0 0 (kA G) := by
  refine Met.ofW (cc := cX0_yarnOfAllRows) (maxL := 3) (ret := (some .int)) (by decide) rfl ?_
  intro pp ee s m args below meth cc0 s₁ B hml hv
  obtain ⟨rfl, hE, hV⟩ := hv
  have hK := hE.1
  have hx := B.exec
  have hb := B.bytes
  have hrt := B.returns
  have hts := atoms_spec (ws := wsX0_yarnOfAllRows) B.pre
  have hown : s.vm.findClass RX0 = some m.cls := findClass_of_methodNamed B.named
  have hlocks := B.notSynchronized
  have hF : CallFix pp m cc0 cX0_yarnOfAllRows 3 s _ wsX0_yarnOfAllRows RX0 := ⟨hx, hb, hml, hown, hts⟩
  have hinX0 : ∀ w ∈ wsX00, w ∈ wsX0_yarnOfAllRows := tb_of [3, 4, 5, 6] rfl
  have hS : va_S (kA G) s.heap s.heap [] := va_S.rf
  have hB0 := hE.2.1
  have hl := lv_entry ([.ref (hc)]) (n := 3) (Nat.le_of_ble_eq_true rfl)
  rw [lg_entry_eq]
  generalize (lg_sl ([.ref (hc)]) ++ List.replicate (3 - (lg_sl ([.ref (hc)])).length) Slot.unset).toArray = ls at hl ⊢
  have hl : lv_has ls 3 [(0, .ref (hc))] := hl
  refine lv_iconst (v := nI 0) hx hb dX0_yarnOfAllRows_0 (by decide) ?_
  refine lv_istore_n (lv' := [(1, .int (nI (0))), (0, .ref (hc))]) hx hb dX0_yarnOfAllRows_1 rfl hl (by decide) rfl (fun ls hl => ?_)
  refine lv_iconst (v := nI 0) hx hb dX0_yarnOfAllRows_2 (by decide) ?_
  refine lv_istore_n (lv' := [(2, .int (nI (0))), (1, .int (nI (0))), (0, .ref (hc))]) hx hb dX0_yarnOfAllRows_3 rfl hl (by decide) rfl (fun ls hl => ?_)
  have L4 : ∀ (nL4 : Nat) (i : Nat) (hi : i ≤ rc) (hmL4 : rc - i < nL4) (H : Heap) (locs : List Loc), kV G ([(hc, .inr (1, [.int (nI (rc)), .ref (as1), .ref (ay1), .int (nI (nw))])), (as1, aN (kcI G) 1600 F), (ay1, aN (kcI G) 40 Y)] ++ wr) H → va_S (kA G) s.heap H locs → ∀ (ls : Array Slot), lv_has ls 3 [(0, .ref (hc)), (1, .int (nI (sumN Y i))), (2, .int (nI (i)))] → W pp l ee (headSpec wsX0_yarnOfAllRows ({ frames := 0, cells := 0, slots := 0, locals := 0 } : Room)).room s m [.ref (hc)].toArray below meth cc0 H locs 0 0 (MQ below (kQi G (S := Unit) (fun q _ => q = nI (sumN Y rc)) (fun _ => [(hc, .inr (1, [.int (nI (rc)), .ref (as1), .ref (ay1), .int (nI (nw))])), (as1, aN (kcI G) 1600 F), (ay1, aN (kcI G) 40 Y)] ++ wr)) [.ref (hc)].toArray s 0 0 (kA G)) (F0 m 4 ls []) := by
    intro nL4
    induction nL4 with
    | zero => intro i hi hmL4; exact absurd hmL4 (Nat.not_lt_zero _)
    | succ nL4 ihL4 =>
      intro i hi hmL4 H locs hV hS ls hl
      refine lv_iload_n hx hb dX0_yarnOfAllRows_4 rfl (lv_at hl 2 rfl) ?_
      refine lv_aload_n hx hb dX0_yarnOfAllRows_5 rfl (lv_at hl 0 rfl) ?_
      refine va_get (D := kD G) (ci := 1) (v := .int (nI (rc))) (C := RX0) (T := TX0) (N := 4) hx hb hts hinX0 hown hK hV.1 0 rfl rfl 0 (by decide) (hts (Cond.fieldLink RX0 9 "Yarncourt$Chart" "rowCount" "I") (List.mem_of_getElem? (i := 1) rfl)) (fun _ h9 => h9) rfl dX0_yarnOfAllRows_6 ?_
      refine kn_ge (tgt := 27) hx hb (by omega) (by omega) dX0_yarnOfAllRows_9 (by decide) (fun c9 => ?_) (fun c9 => ?_)
      · refine lv_iload_n hx hb dX0_yarnOfAllRows_27 rfl (lv_at hl 1 rfl) ?_
        exact W.iret (v := nI (sumN Y i)) hx hb hrt (fun t ht hW => ⟨⟨_, (), rfl, by rw [show i = rc from by omega], kV_eq ht hV⟩, hS.F ht⟩) hS.2.2 dX0_yarnOfAllRows_28
      · refine lv_iload_n hx hb dX0_yarnOfAllRows_12 rfl (lv_at hl 1 rfl) ?_
        refine lv_aload_n hx hb dX0_yarnOfAllRows_13 rfl (lv_at hl 0 rfl) ?_
        refine va_get (D := kD G) (ci := 1) (v := .ref (ay1)) (C := RX0) (T := TX0) (N := 4) hx hb hts hinX0 hown hK hV.1 0 rfl rfl 2 (by decide) (hts (Cond.fieldLink RX0 19 "Yarncourt$Chart" "yarnOfRow" "[I") (List.mem_of_getElem? (i := 2) rfl)) (fun _ h9 => h9) rfl dX0_yarnOfAllRows_14 ?_
        refine lv_iload_n hx hb dX0_yarnOfAllRows_17 rfl (lv_at hl 2 rfl) ?_
        refine kn_iald (G := G) (n := 40) (g := Y) (j := i) hx hb hK hV 2 rfl (by omega) (by decide) dX0_yarnOfAllRows_18 ?_
        refine kn_add hx hb dX0_yarnOfAllRows_19 ?_
        refine lv_istore_n (lv' := [(1, .int (nI ((sumN Y i) + (Y i)))), (0, .ref (hc)), (2, .int (nI (i)))]) hx hb dX0_yarnOfAllRows_20 rfl hl (by decide) rfl (fun ls hl => ?_)
        refine lv_iinc (lv' := [(2, .int (nI (i + 1))), (1, .int (nI ((sumN Y i) + (Y i)))), (0, .ref (hc))]) hx hb dX0_yarnOfAllRows_21 hl (k := 2) rfl (kn_iinc i 1) (by decide) rfl (fun ls hl => ?_)
        refine lv_goto (tgt := 4) hx hb dX0_yarnOfAllRows_24 (by decide) ?_
        exact ihL4 (i + 1) (by omega) (by omega) _ _ hV hS ls (lv_sub hl [2, 1, 0] rfl)
  exact L4 ((rc - 0) + 1) 0 (by omega) (Nat.lt_succ_self _) _ _ hV hS ls (lv_sub hl [2, 1, 0] rfl)
set_option maxHeartbeats 4000000 in
set_option maxRecDepth 100000 in
theorem c_X0_isSameAs (l : Launch) (G : kG) (hc : Nat) (as1 : Nat) (ay1 : Nat) (rc : Nat) (nw : Nat) (F : Nat → Nat) (Y : Nat → Nat) (hc2 : Nat) (as2 : Nat) (ay2 : Nat) (rc2 : Nat) (nw2 : Nat) (F2 : Nat → Nat) (Y2 : Nat → Nat) (wr : va_W) (hrc : rc ≤ 40) (hrc2 : rc2 ≤ 40) (hFa : ∀ x, F x ≤ 2) (hFb : ∀ x, F2 x ≤ 2) : Met l yX0_isSameAs wsX0_isSameAs ({ frames := 0, cells := 0, slots := 0, locals := 0 } : Room) (kPc G [.ref (hc), .ref (hc2)] ([(hc, .inr (1, [.int (nI (rc)), .ref (as1), .ref (ay1), .int (nI (nw))])), (as1, aN (kcI G) 1600 F), (ay1, aN (kcI G) 40 Y), (hc2, .inr (1, [.int (nI (rc2)), .ref (as2), .ref (ay2), .int (nI (nw2))])), (as2, aN (kcI G) 1600 F2), (ay2, aN (kcI G) 40 Y2)] ++ wr)) (kQi G (S := Unit) (fun q _ => q = nI (kb (rc = rc2 ∧ ∀ x, x < rc * 40 → F x = F2 x))) (fun _ => [(hc, .inr (1, [.int (nI (rc)), .ref (as1), .ref (ay1), .int (nI (nw))])), (as1, aN (kcI G) 1600 F), (ay1, aN (kcI G) 40 Y), (hc2, .inr (1, [.int (nI (rc2)), .ref (as2), .ref (ay2), .int (nI (nw2))])), (as2, aN (kcI G) 1600 F2), (ay2, aN (kcI G) 40 Y2)] ++ wr)) 0 0 (kA G) := by
  refine Met.ofW (cc := cX0_isSameAs) (maxL := 3) (ret := (some .boolean)) (by decide) rfl ?_
  intro pp ee s m args below meth cc0 s₁ B hml hv
  obtain ⟨rfl, hE, hV⟩ := hv
  have hK := hE.1
  have hx := B.exec
  have hb := B.bytes
  have hrt := B.returns
  have hts := atoms_spec (ws := wsX0_isSameAs) B.pre
  have hown : s.vm.findClass RX0 = some m.cls := findClass_of_methodNamed B.named
  have hlocks := B.notSynchronized
  have hF : CallFix pp m cc0 cX0_isSameAs 3 s _ wsX0_isSameAs RX0 := ⟨hx, hb, hml, hown, hts⟩
  have hinX0 : ∀ w ∈ wsX00, w ∈ wsX0_isSameAs := tb_of [3, 4, 5, 6] rfl
  have hS : va_S (kA G) s.heap s.heap [] := va_S.rf
  have hB0 := hE.2.1
  have hl := lv_entry ([.ref (hc), .ref (hc2)]) (n := 3) (Nat.le_of_ble_eq_true rfl)
  rw [lg_entry_eq]
  generalize (lg_sl ([.ref (hc), .ref (hc2)]) ++ List.replicate (3 - (lg_sl ([.ref (hc), .ref (hc2)])).length) Slot.unset).toArray = ls at hl ⊢
  have hl : lv_has ls 3 [(0, .ref (hc)), (1, .ref (hc2))] := hl
  refine lv_aload_n hx hb dX0_isSameAs_0 rfl (lv_at hl 0 rfl) ?_
  refine va_get (D := kD G) (ci := 1) (v := .int (nI (rc))) (C := RX0) (T := TX0) (N := 4) hx hb hts hinX0 hown hK hV.1 0 rfl rfl 0 (by decide) (hts (Cond.fieldLink RX0 9 "Yarncourt$Chart" "rowCount" "I") (List.mem_of_getElem? (i := 1) rfl)) (fun _ h9 => h9) rfl dX0_isSameAs_1 ?_
  refine lv_aload_n hx hb dX0_isSameAs_4 rfl (lv_at hl 1 rfl) ?_
  refine va_get (D := kD G) (ci := 1) (v := .int (nI (rc2))) (C := RX0) (T := TX0) (N := 4) hx hb hts hinX0 hown hK hV.1 3 rfl rfl 0 (by decide) (hts (Cond.fieldLink RX0 9 "Yarncourt$Chart" "rowCount" "I") (List.mem_of_getElem? (i := 1) rfl)) (fun _ h9 => h9) rfl dX0_isSameAs_5 ?_
  refine kn_eq (tgt := 13) hx hb (by omega) (by omega) dX0_isSameAs_8 (by decide) (fun c8 => ?_) (fun c8 => ?_)
  · refine lv_iconst (v := nI 0) hx hb dX0_isSameAs_13 (by decide) ?_
    refine lv_istore_n (lv' := [(2, .int (nI (0))), (0, .ref (hc)), (1, .ref (hc2))]) hx hb dX0_isSameAs_14 rfl hl (by decide) rfl (fun ls hl => ?_)
    have L15 : ∀ (nL15 : Nat) (i : Nat) (hi : i ≤ rc * 40) (hal : ∀ x, x < i → F x = F2 x) (hmL15 : rc * 40 - i < nL15) (H : Heap) (locs : List Loc), kV G ([(hc, .inr (1, [.int (nI (rc)), .ref (as1), .ref (ay1), .int (nI (nw))])), (as1, aN (kcI G) 1600 F), (ay1, aN (kcI G) 40 Y), (hc2, .inr (1, [.int (nI (rc2)), .ref (as2), .ref (ay2), .int (nI (nw2))])), (as2, aN (kcI G) 1600 F2), (ay2, aN (kcI G) 40 Y2)] ++ wr) H → va_S (kA G) s.heap H locs → ∀ (ls : Array Slot), lv_has ls 3 [(0, .ref (hc)), (1, .ref (hc2)), (2, .int (nI (i)))] → W pp l ee (headSpec wsX0_isSameAs ({ frames := 0, cells := 0, slots := 0, locals := 0 } : Room)).room s m [.ref (hc), .ref (hc2)].toArray below meth cc0 H locs 0 0 (MQ below (kQi G (S := Unit) (fun q _ => q = nI (kb (rc = rc2 ∧ ∀ x, x < rc * 40 → F x = F2 x))) (fun _ => [(hc, .inr (1, [.int (nI (rc)), .ref (as1), .ref (ay1), .int (nI (nw))])), (as1, aN (kcI G) 1600 F), (ay1, aN (kcI G) 40 Y), (hc2, .inr (1, [.int (nI (rc2)), .ref (as2), .ref (ay2), .int (nI (nw2))])), (as2, aN (kcI G) 1600 F2), (ay2, aN (kcI G) 40 Y2)] ++ wr)) [.ref (hc), .ref (hc2)].toArray s 0 0 (kA G)) (F0 m 15 ls []) := by
      intro nL15
      induction nL15 with
      | zero => intro i hi hal hmL15; exact absurd hmL15 (Nat.not_lt_zero _)
      | succ nL15 ihL15 =>
        intro i hi hal hmL15 H locs hV hS ls hl
        refine lv_iload_n hx hb dX0_isSameAs_15 rfl (lv_at hl 2 rfl) ?_
        refine lv_aload_n hx hb dX0_isSameAs_16 rfl (lv_at hl 0 rfl) ?_
        refine va_get (D := kD G) (ci := 1) (v := .int (nI (rc))) (C := RX0) (T := TX0) (N := 4) hx hb hts hinX0 hown hK hV.1 0 rfl rfl 0 (by decide) (hts (Cond.fieldLink RX0 9 "Yarncourt$Chart" "rowCount" "I") (List.mem_of_getElem? (i := 1) rfl)) (fun _ h9 => h9) rfl dX0_isSameAs_17 ?_
        refine lv_bipush (v := nI 40) hx hb dX0_isSameAs_20 (by decide) ?_
        refine kn_mul hx hb dX0_isSameAs_22 ?_
        refine kn_ge (tgt := 49) hx hb (by omega) (by omega) dX0_isSameAs_23 (by decide) (fun c23 => ?_) (fun c23 => ?_)
        · refine lv_iconst (v := nI 1) hx hb dX0_isSameAs_49 (by decide) ?_
          exact W.zret (v := nI 1) hx hb hrt (by decide) (fun t ht hW => ⟨⟨_, (), rfl, by rw [kb_t ⟨c8, fun x hx => hal x (by omega)⟩], kV_eq ht hV⟩, hS.F ht⟩) hS.2.2 dX0_isSameAs_50
        · have hf1 := hFa i
          have hf2 := hFb i
          refine lv_aload_n hx hb dX0_isSameAs_26 rfl (lv_at hl 0 rfl) ?_
          refine va_get (D := kD G) (ci := 1) (v := .ref (as1)) (C := RX0) (T := TX0) (N := 4) hx hb hts hinX0 hown hK hV.1 0 rfl rfl 1 (by decide) (hts (Cond.fieldLink RX0 15 "Yarncourt$Chart" "stitches" "[I") (List.mem_of_getElem? (i := 2) rfl)) (fun _ h9 => h9) rfl dX0_isSameAs_27 ?_
          refine lv_iload_n hx hb dX0_isSameAs_30 rfl (lv_at hl 2 rfl) ?_
          refine kn_iald (G := G) (n := 1600) (g := F) (j := i) hx hb hK hV 1 rfl (by omega) (by decide) dX0_isSameAs_31 ?_
          refine lv_aload_n hx hb dX0_isSameAs_32 rfl (lv_at hl 1 rfl) ?_
          refine va_get (D := kD G) (ci := 1) (v := .ref (as2)) (C := RX0) (T := TX0) (N := 4) hx hb hts hinX0 hown hK hV.1 3 rfl rfl 1 (by decide) (hts (Cond.fieldLink RX0 15 "Yarncourt$Chart" "stitches" "[I") (List.mem_of_getElem? (i := 2) rfl)) (fun _ h9 => h9) rfl dX0_isSameAs_33 ?_
          refine lv_iload_n hx hb dX0_isSameAs_36 rfl (lv_at hl 2 rfl) ?_
          refine kn_iald (G := G) (n := 1600) (g := F2) (j := i) hx hb hK hV 4 rfl (by omega) (by decide) dX0_isSameAs_37 ?_
          refine kn_eq (tgt := 43) hx hb (by omega) (by omega) dX0_isSameAs_38 (by decide) (fun c38 => ?_) (fun c38 => ?_)
          · refine lv_iinc (lv' := [(2, .int (nI (i + 1))), (0, .ref (hc)), (1, .ref (hc2))]) hx hb dX0_isSameAs_43 hl (k := 2) rfl (kn_iinc i 1) (by decide) rfl (fun ls hl => ?_)
            refine lv_goto (tgt := 15) hx hb dX0_isSameAs_46 (by decide) ?_
            exact ihL15 (i + 1) (by omega) (lt_s hal c38) (by omega) _ _ hV hS ls (lv_sub hl [1, 2, 0] rfl)
          · refine lv_iconst (v := nI 0) hx hb dX0_isSameAs_41 (by decide) ?_
            exact W.zret (v := nI 0) hx hb hrt (by decide) (fun t ht hW => ⟨⟨_, (), rfl, by rw [kb_f (fun z => c38 (z.2 i (by omega)))], kV_eq ht hV⟩, hS.F ht⟩) hS.2.2 dX0_isSameAs_42
    exact L15 ((rc * 40 - 0) + 1) 0 (by omega) (fun x hx => absurd hx (Nat.not_lt_zero _)) (Nat.lt_succ_self _) _ _ hV hS ls (lv_sub hl [1, 2, 0] rfl)
  · refine lv_iconst (v := nI 0) hx hb dX0_isSameAs_11 (by decide) ?_
    exact W.zret (v := nI 0) hx hb hrt (by decide) (fun t ht hW => ⟨⟨_, (), rfl, by rw [kb_f (fun z => c8 z.1)], kV_eq ht hV⟩, hS.F ht⟩) hS.2.2 dX0_isSameAs_12
