theorem isIn5_lt {x : Int32} (h : ¬ x < 0) (z : isIn x 5) : x < nI 5 := by
  obtain ⟨j, hj, rfl⟩ := z
  exact (nI_ltI (by omega) (by decide)).mpr hj
theorem isIn_of {x : Int32} {n : Nat} (hn : n < 2 ^ 31) (h : ¬ x < 0) (h2 : x < nI n) : isIn x n := by
  rw [i_lt] at h h2
  rw [i_nI hn] at h2
  have e0 : ((0 : Int32)).toInt = 0 := by decide
  rw [e0] at h
  refine ⟨x.toInt.toNat, by omega, ?_⟩
  apply Int32.toInt.inj
  rw [i_nI (by omega)]
  omega
theorem isIn_of5 {x : Int32} (h : ¬ x < 0) (h2 : x < nI 5) : isIn x 5 := isIn_of (by decide) h h2
set_option maxHeartbeats 4000000 in
set_option maxRecDepth 100000 in
theorem c_X5_checkPerson (l : Launch) (hlt : l.stackTraces = false) (G : kG) (x : Int32) (ws : va_W) : vx_Met l yX5_checkPerson wsX5_checkPerson ({ frames := 6, cells := 1, slots := 6, locals := 90 } : Room) (kPc G [.int (x)] (ws)) (kQv G (S := Unit) (fun _ => isIn x 5) (fun _ => ws)) (kXC G (fun E => E = kIOB ∧ ¬ isIn x 5) (ws)) 1 6 (kA G) := by
  refine vx_ofW (cc := cX5_checkPerson) (maxL := 1) (ret := none) (by decide) rfl ?_
  intro pp ee s m args below meth cc0 s₁ Bd0 hml hx0 hv
  obtain ⟨rfl, hE, hV⟩ := hv
  have hK := hE.1
  have hx := Bd0.exec
  have hb := Bd0.bytes
  have hrt := Bd0.returns
  have hts := atoms_spec (ws := wsX5_checkPerson) Bd0.pre
  have hown : s.vm.findClass RX5 = some m.cls := findClass_of_methodNamed Bd0.named
  have hlocks := Bd0.notSynchronized
  have hF : CallFix pp m cc0 cX5_checkPerson 1 s _ wsX5_checkPerson RX5 := ⟨hx, hb, hml, hown, hts⟩
  have hS : va_S (kA G) s.heap s.heap [] := va_S.rf
  have hB0 := hE.2.1
  have hl := lv_entry ([.int (x)]) (n := 1) (Nat.le_of_ble_eq_true rfl)
  rw [lg_entry_eq]
  generalize (lg_sl ([.int (x)]) ++ List.replicate (1 - (lg_sl ([.int (x)])).length) Slot.unset).toArray = ls at hl ⊢
  have hl : lv_has ls 1 [(0, .int (x))] := hl
  refine lv_iload_n hx hb dX5_checkPerson_0 rfl (lv_at hl 0 rfl) ?_
  refine lv_if_lt (tgt := 9) hx hb dX5_checkPerson_1 (by decide) (fun c1 => ?_) (fun c1 => ?_)
  · have hat9 : ∀ w ∈ vx_atS RX5 223 kIOB kUp, w.before _ s = true := vx_hat (B := [.castable kIOB kIOB, .declares (Bundle.initS "java/lang/RuntimeException"), .declares (Bundle.initS "java/lang/Exception"), .declares (Bundle.initS "java/lang/Throwable")]) (fun w hw => hts w (List.mem_cons_of_mem _ (List.mem_append_right _ hw))) (by decide +kernel) (vx_c ((hE.2.2.1 _ (by decide +kernel)).use rfl) (vx_c ((hE.2.2.1 _ (by decide +kernel)).use rfl) (vx_c ((hE.2.2.1 _ (by decide +kernel)).use rfl) (vx_c ((hE.2.2.1 _ (by decide +kernel)).use rfl) vx_n))))
    exact vx_throwS (names := kUp) (A := kA G) hx hb hlt hown (by decide +kernel) (by decide +kernel) (hts (Cond.classLink RX5 219 "java/lang/IndexOutOfBoundsException") (List.mem_of_getElem? (i := 1) rfl)) (hts (Cond.initialized "java/lang/IndexOutOfBoundsException") (List.mem_of_getElem? (i := 2) rfl)) (hE.2.2.2.2.1 _ (List.mem_of_getElem? (i := 12) rfl)) hat9 (by decide +kernel) hE.2.2.2.2.2.1 hE.2.2.2.2.2.2.1 hS (hl.1.trans hml.symm) dX5_checkPerson_9 dX5_checkPerson_12 dX5_checkPerson_13 dX5_checkPerson_15 dX5_checkPerson_18 (fun x h => (hx0 x h).elim) (Nat.le_of_ble_eq_true rfl) (Nat.le_of_ble_eq_true rfl) (by first | exact Nat.le_of_ble_eq_true rfl | omega) (by first | exact Nat.le_of_ble_eq_true rfl | omega) hlocks (fun t hal9 hsz9 hsm9 => ⟨(), trivial, ⟨⟨rfl, fun z => by obtain ⟨j, hj, rfl⟩ := z; exact absurd c1 (nI_pos (by omega))⟩, kV_more hV hsm9⟩, kF_more hS hsz9 hsm9⟩) hS.2.2 (by first | exact Nat.le_of_ble_eq_true rfl | omega) (by first | exact Nat.le_of_ble_eq_true rfl | omega)
  · refine lv_iload_n hx hb dX5_checkPerson_4 rfl (lv_at hl 0 rfl) ?_
    refine lv_iconst (v := nI 5) hx hb dX5_checkPerson_5 (by decide) ?_
    refine lv_icmp_lt (tgt := 19) hx hb dX5_checkPerson_6 (by decide) (fun c6 => ?_) (fun c6 => ?_)
    · refine vx_ret ?_
      refine W.widen (k := 1) (n := 6) (by decide) (by decide) ?_
      exact W.vret hx hb hrt (fun t ht hW => ⟨⟨(), rfl, isIn_of5 c1 c6, kV_eq ht hV⟩, hS.F ht⟩) hS.2.2 dX5_checkPerson_19
    · have hat9 : ∀ w ∈ vx_atS RX5 223 kIOB kUp, w.before _ s = true := vx_hat (B := [.castable kIOB kIOB, .declares (Bundle.initS "java/lang/RuntimeException"), .declares (Bundle.initS "java/lang/Exception"), .declares (Bundle.initS "java/lang/Throwable")]) (fun w hw => hts w (List.mem_cons_of_mem _ (List.mem_append_right _ hw))) (by decide +kernel) (vx_c ((hE.2.2.1 _ (by decide +kernel)).use rfl) (vx_c ((hE.2.2.1 _ (by decide +kernel)).use rfl) (vx_c ((hE.2.2.1 _ (by decide +kernel)).use rfl) (vx_c ((hE.2.2.1 _ (by decide +kernel)).use rfl) vx_n))))
      exact vx_throwS (names := kUp) (A := kA G) hx hb hlt hown (by decide +kernel) (by decide +kernel) (hts (Cond.classLink RX5 219 "java/lang/IndexOutOfBoundsException") (List.mem_of_getElem? (i := 1) rfl)) (hts (Cond.initialized "java/lang/IndexOutOfBoundsException") (List.mem_of_getElem? (i := 2) rfl)) (hE.2.2.2.2.1 _ (List.mem_of_getElem? (i := 12) rfl)) hat9 (by decide +kernel) hE.2.2.2.2.2.1 hE.2.2.2.2.2.2.1 hS (hl.1.trans hml.symm) dX5_checkPerson_9 dX5_checkPerson_12 dX5_checkPerson_13 dX5_checkPerson_15 dX5_checkPerson_18 (fun x h => (hx0 x h).elim) (Nat.le_of_ble_eq_true rfl) (Nat.le_of_ble_eq_true rfl) (by first | exact Nat.le_of_ble_eq_true rfl | omega) (by first | exact Nat.le_of_ble_eq_true rfl | omega) hlocks (fun t hal9 hsz9 hsm9 => ⟨(), trivial, ⟨⟨rfl, fun z => c6 (isIn5_lt c1 z)⟩, kV_more hV hsm9⟩, kF_more hS hsz9 hsm9⟩) hS.2.2 (by first | exact Nat.le_of_ble_eq_true rfl | omega) (by first | exact Nat.le_of_ble_eq_true rfl | omega)
set_option maxHeartbeats 4000000 in
set_option maxRecDepth 100000 in
theorem c_X5_checkRange (l : Launch) (hlt : l.stackTraces = false) (G : kG) (x : Int32) (lo : Int32) (hi : Int32) (ws : va_W) : vx_Met l yX5_checkRange wsX5_checkRange ({ frames := 6, cells := 1, slots := 6, locals := 90 } : Room) (kPc G [.int (x), .int (lo), .int (hi)] (ws)) (kQv G (S := Unit) (fun _ => inI x lo hi) (fun _ => ws)) (kXC G (fun E => E = kIAE ∧ ¬ inI x lo hi) (ws)) 1 6 (kA G) := by
  refine vx_ofW (cc := cX5_checkRange) (maxL := 3) (ret := none) (by decide) rfl ?_
  intro pp ee s m args below meth cc0 s₁ Bd0 hml hx0 hv
  obtain ⟨rfl, hE, hV⟩ := hv
  have hK := hE.1
  have hx := Bd0.exec
  have hb := Bd0.bytes
  have hrt := Bd0.returns
  have hts := atoms_spec (ws := wsX5_checkRange) Bd0.pre
  have hown : s.vm.findClass RX5 = some m.cls := findClass_of_methodNamed Bd0.named
  have hlocks := Bd0.notSynchronized
  have hF : CallFix pp m cc0 cX5_checkRange 3 s _ wsX5_checkRange RX5 := ⟨hx, hb, hml, hown, hts⟩
  have hS : va_S (kA G) s.heap s.heap [] := va_S.rf
  have hB0 := hE.2.1
  have hl := lv_entry ([.int (x), .int (lo), .int (hi)]) (n := 3) (Nat.le_of_ble_eq_true rfl)
  rw [lg_entry_eq]
  generalize (lg_sl ([.int (x), .int (lo), .int (hi)]) ++ List.replicate (3 - (lg_sl ([.int (x), .int (lo), .int (hi)])).length) Slot.unset).toArray = ls at hl ⊢
  have hl : lv_has ls 3 [(0, .int (x)), (1, .int (lo)), (2, .int (hi))] := hl
  refine lv_iload_n hx hb dX5_checkRange_0 rfl (lv_at hl 0 rfl) ?_
  refine lv_iload_n hx hb dX5_checkRange_1 rfl (lv_at hl 1 rfl) ?_
  refine lv_icmp_lt (tgt := 10) hx hb dX5_checkRange_2 (by decide) (fun c2 => ?_) (fun c2 => ?_)
  · have hat9 : ∀ w ∈ vx_atS RX5 58 kIAE kUp, w.before _ s = true := vx_hat (B := [.castable kIAE kIAE, .declares (Bundle.initS "java/lang/RuntimeException"), .declares (Bundle.initS "java/lang/Exception"), .declares (Bundle.initS "java/lang/Throwable")]) (fun w hw => hts w (List.mem_cons_of_mem _ (List.mem_append_right _ hw))) (by decide +kernel) (vx_c ((hE.2.2.1 _ (by decide +kernel)).use rfl) (vx_c ((hE.2.2.1 _ (by decide +kernel)).use rfl) (vx_c ((hE.2.2.1 _ (by decide +kernel)).use rfl) (vx_c ((hE.2.2.1 _ (by decide +kernel)).use rfl) vx_n))))
    exact vx_throwS (names := kUp) (A := kA G) hx hb hlt hown (by decide +kernel) (by decide +kernel) (hts (Cond.classLink RX5 54 "java/lang/IllegalArgumentException") (List.mem_of_getElem? (i := 1) rfl)) (hts (Cond.initialized "java/lang/IllegalArgumentException") (List.mem_of_getElem? (i := 2) rfl)) (hE.2.2.2.2.1 _ (List.mem_of_getElem? (i := 14) rfl)) hat9 (by decide +kernel) hE.2.2.2.2.2.1 hE.2.2.2.2.2.2.1 hS (hl.1.trans hml.symm) dX5_checkRange_10 dX5_checkRange_13 dX5_checkRange_14 dX5_checkRange_16 dX5_checkRange_19 (fun x h => (hx0 x h).elim) (Nat.le_of_ble_eq_true rfl) (Nat.le_of_ble_eq_true rfl) (by first | exact Nat.le_of_ble_eq_true rfl | omega) (by first | exact Nat.le_of_ble_eq_true rfl | omega) hlocks (fun t hal9 hsz9 hsm9 => ⟨(), trivial, ⟨⟨rfl, fun z => i_lt_nle c2 z.1⟩, kV_more hV hsm9⟩, kF_more hS hsz9 hsm9⟩) hS.2.2 (by first | exact Nat.le_of_ble_eq_true rfl | omega) (by first | exact Nat.le_of_ble_eq_true rfl | omega)
  · refine lv_iload_n hx hb dX5_checkRange_5 rfl (lv_at hl 0 rfl) ?_
    refine lv_iload_n hx hb dX5_checkRange_6 rfl (lv_at hl 2 rfl) ?_
    refine lv_icmp_le (tgt := 20) hx hb dX5_checkRange_7 (by decide) (fun c7 => ?_) (fun c7 => ?_)
    · refine vx_ret ?_
      refine W.widen (k := 1) (n := 6) (by decide) (by decide) ?_
      exact W.vret hx hb hrt (fun t ht hW => ⟨⟨(), rfl, ⟨i_nlt c2, c7⟩, kV_eq ht hV⟩, hS.F ht⟩) hS.2.2 dX5_checkRange_20
    · have hat9 : ∀ w ∈ vx_atS RX5 58 kIAE kUp, w.before _ s = true := vx_hat (B := [.castable kIAE kIAE, .declares (Bundle.initS "java/lang/RuntimeException"), .declares (Bundle.initS "java/lang/Exception"), .declares (Bundle.initS "java/lang/Throwable")]) (fun w hw => hts w (List.mem_cons_of_mem _ (List.mem_append_right _ hw))) (by decide +kernel) (vx_c ((hE.2.2.1 _ (by decide +kernel)).use rfl) (vx_c ((hE.2.2.1 _ (by decide +kernel)).use rfl) (vx_c ((hE.2.2.1 _ (by decide +kernel)).use rfl) (vx_c ((hE.2.2.1 _ (by decide +kernel)).use rfl) vx_n))))
      exact vx_throwS (names := kUp) (A := kA G) hx hb hlt hown (by decide +kernel) (by decide +kernel) (hts (Cond.classLink RX5 54 "java/lang/IllegalArgumentException") (List.mem_of_getElem? (i := 1) rfl)) (hts (Cond.initialized "java/lang/IllegalArgumentException") (List.mem_of_getElem? (i := 2) rfl)) (hE.2.2.2.2.1 _ (List.mem_of_getElem? (i := 14) rfl)) hat9 (by decide +kernel) hE.2.2.2.2.2.1 hE.2.2.2.2.2.2.1 hS (hl.1.trans hml.symm) dX5_checkRange_10 dX5_checkRange_13 dX5_checkRange_14 dX5_checkRange_16 dX5_checkRange_19 (fun x h => (hx0 x h).elim) (Nat.le_of_ble_eq_true rfl) (Nat.le_of_ble_eq_true rfl) (by first | exact Nat.le_of_ble_eq_true rfl | omega) (by first | exact Nat.le_of_ble_eq_true rfl | omega) hlocks (fun t hal9 hsz9 hsm9 => ⟨(), trivial, ⟨⟨rfl, fun z => i_lt_nle (i_nle c7) z.2⟩, kV_more hV hsm9⟩, kF_more hS hsz9 hsm9⟩) hS.2.2 (by first | exact Nat.le_of_ble_eq_true rfl | omega) (by first | exact Nat.le_of_ble_eq_true rfl | omega)
set_option maxHeartbeats 4000000 in
set_option maxRecDepth 100000 in
theorem c_X5_checkGauge (l : Launch) (hlt : l.stackTraces = false) (G : kG) (x : Int32) (ws : va_W) : vx_Met l yX5_checkGauge wsX5_checkGauge ({ frames := 7, cells := 1, slots := 6, locals := 112 } : Room) (kPc G [.int (x)] (ws)) (kQv G (S := Unit) (fun _ => inI x (nI 5) (nI 20)) (fun _ => ws)) (kXC G (fun E => E = kIAE ∧ ¬ inI x (nI 5) (nI 20)) (ws)) 1 6 (kA G) := by
  refine vx_ofW (cc := cX5_checkGauge) (maxL := 1) (ret := none) (by decide) rfl ?_
  intro pp ee s m args below meth cc0 s₁ Bd0 hml hx0 hv
  obtain ⟨rfl, hE, hV⟩ := hv
  have hK := hE.1
  have hx := Bd0.exec
  have hb := Bd0.bytes
  have hrt := Bd0.returns
  have hts := atoms_spec (ws := wsX5_checkGauge) Bd0.pre
  have hown : s.vm.findClass RX5 = some m.cls := findClass_of_methodNamed Bd0.named
  have hlocks := Bd0.notSynchronized
  have hF : CallFix pp m cc0 cX5_checkGauge 1 s _ wsX5_checkGauge RX5 := ⟨hx, hb, hml, hown, hts⟩
  have hS : va_S (kA G) s.heap s.heap [] := va_S.rf
  have hB0 := hE.2.1
  have hl := lv_entry ([.int (x)]) (n := 1) (Nat.le_of_ble_eq_true rfl)
  rw [lg_entry_eq]
  generalize (lg_sl ([.int (x)]) ++ List.replicate (1 - (lg_sl ([.int (x)])).length) Slot.unset).toArray = ls at hl ⊢
  have hl : lv_has ls 1 [(0, .int (x))] := hl
  refine lv_iload_n hx hb dX5_checkGauge_0 rfl (lv_at hl 0 rfl) ?_
  refine lv_iconst (v := nI 5) hx hb dX5_checkGauge_1 (by decide) ?_
  refine lv_bipush (v := nI 20) hx hb dX5_checkGauge_2 (by decide) ?_
  refine kx_v (vx_runS (As := [.int (x), .int (nI (5)), .int (nI (20))]) (rest := []) hF (c_X5_checkRange l hlt G x (nI 5) (nI 20) ws) (va_cwS 3 hts gX5_checkGauge_X5_checkRange rfl rfl rfl (by decide +kernel) ⟨Nat.le_of_ble_eq_true rfl, Nat.le_of_ble_eq_true rfl⟩) (kPreS hE hS hV) rfl rfl hl.1 rfl (lv_room (Nat.le_of_ble_eq_true rfl)) dX5_checkGauge_4 ⟨Nat.le_of_ble_eq_true rfl, Nat.le_of_ble_eq_true rfl⟩) hS (fun E ce q9 H locs hxc hV hS hq1 hq2 hq3 => ?_) (fun u_2 H locs hp_1 hV hS => ?_)
  · exact vx_out (fun x h => (hx0 x h).elim) hlocks hq1 hq2 hq3 (fun t ht hal => ⟨(), trivial, ⟨hxc, kV_eq ht hV⟩, hS.F ht⟩) hS.2.2 (Nat.le_refl _) (Nat.le_refl _)
  · have hV : kV G (ws) _ := hV
    refine vx_ret ?_
    exact W.vret hx hb hrt (fun t ht hW => ⟨⟨(), rfl, hp_1, kV_eq ht hV⟩, hS.F ht⟩) hS.2.2 dX5_checkGauge_7
