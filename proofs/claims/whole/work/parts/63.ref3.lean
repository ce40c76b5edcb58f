set_option maxHeartbeats 4000000 in
set_option maxRecDepth 100000 in
theorem c_X6_begin (l : Launch) (G : kG) (h : Nat) (ad : Nat → Nat) (rf : Nat) (rl : Nat) (rw : Nat) (S : kS) (wr : va_W) (o : Int32) (w : Int32) (c : Int32) (hI : kInv S) : Met l yX6_begin wsX6_begin ({ frames := 2, cells := 0, slots := 0, locals := 42 } : Room) (kPc G [.ref (h), .int (o), .int (w), .int (c)] (kM G h ad rf rl rw S ++ wr)) (kQi G (S := Nat × Nat) (fun q _ => q = (opBegin S o w c).2.1) (fun uu => kM G h ad ((opBegin S o w c).1) uu.1 uu.2 ((opBegin S o w c).2.2) ++ wr)) 0 0 (kA G) := by
  refine Met.ofW (cc := cX6_begin) (maxL := 5) (ret := (some .int)) (by decide) rfl ?_
  intro pp ee s m args below meth cc0 s₁ B hml hv
  obtain ⟨rfl, hE, hV⟩ := hv
  have hK := hE.1
  have hx := B.exec
  have hb := B.bytes
  have hrt := B.returns
  have hts := atoms_spec (ws := wsX6_begin) B.pre
  have hown : s.vm.findClass RX6 = some m.cls := findClass_of_methodNamed B.named
  have hlocks := B.notSynchronized
  have hF : CallFix pp m cc0 cX6_begin 5 s _ wsX6_begin RX6 := ⟨hx, hb, hml, hown, hts⟩
  have hinX6 : ∀ w ∈ wsX60, w ∈ wsX6_begin := tb_of [22, 23, 24, 25, 26, 27, 28, 29, 30, 31, 32, 33, 34, 35, 36, 37, 38, 39, 40, 41, 42, 43, 44, 45, 46, 47] rfl
  have hS : va_S (kA G) s.heap s.heap [] := va_S.rf
  have hB0 := hE.2.1
  have hl := lv_entry ([.ref (h), .int (o), .int (w), .int (c)]) (n := 5) (Nat.le_of_ble_eq_true rfl)
  rw [lg_entry_eq]
  generalize (lg_sl ([.ref (h), .int (o), .int (w), .int (c)]) ++ List.replicate (5 - (lg_sl ([.ref (h), .int (o), .int (w), .int (c)])).length) Slot.unset).toArray = ls at hl ⊢
  have hl : lv_has ls 5 [(0, .ref (h)), (1, .int (o)), (2, .int (w)), (3, .int (c))] := hl
  obtain ⟨⟨hnp, hnl, hnj, hpu⟩, hIP, hIQ, hIL, hIJ, hIK, hIO⟩ := id hI
  have J26 : ∀ (H : Heap) (locs : List Loc), kV G (kM G h ad rf rl rw S ++ wr) H → va_S (kA G) s.heap H locs → ∀ (ls : Array Slot), lv_has ls 5 [(0, .ref (h)), (1, .int (o)), (2, .int (w)), (3, .int (c))] → W pp l ee (headSpec wsX6_begin ({ frames := 2, cells := 0, slots := 0, locals := 42 } : Room)).room s m [.ref (h), .int (o), .int (w), .int (c)].toArray below meth cc0 H locs 0 0 (MQ below (kQi G (S := Nat × Nat) (fun q _ => q = (opBegin S o w c).2.1) (fun uu => kM G h ad ((opBegin S o w c).1) uu.1 uu.2 ((opBegin S o w c).2.2) ++ wr)) [.ref (h), .int (o), .int (w), .int (c)].toArray s 0 0 (kA G)) (F0 m 26 ls [.int (nI (kb (inI w (nI 1) (nI 20) ∧ inI c (nI 0) (nI 1000))))]) := by
    intro  H locs hV hS ls hl
    refine lv_istore (lv' := [(4, .int (nI (kb (inI w (nI 1) (nI 20) ∧ inI c (nI 0) (nI 1000))))), (0, .ref (h)), (1, .int (o)), (2, .int (w)), (3, .int (c))]) hx hb dX6_begin_26 hl (by decide) rfl (fun ls hl => ?_)
    refine lv_aload_n hx hb dX6_begin_28 rfl (lv_at hl 1 rfl) ?_
    refine lv_iload_n hx hb dX6_begin_29 rfl (lv_at hl 2 rfl) ?_
    refine kc_i (va_runS (As := [.int (o)]) (rest := [.ref (h)]) hF (c_X6_isPerson l G o (kM G h ad rf rl rw S ++ wr)) (va_cwS 1 hts gX6_begin_X6_isPerson rfl rfl rfl (by decide +kernel) ⟨Nat.le_of_ble_eq_true rfl, Nat.le_of_ble_eq_true rfl⟩) (kPreS hE hS hV) rfl rfl hl.1 rfl (lv_room (Nat.le_of_ble_eq_true rfl)) dX6_begin_30 ⟨Nat.le_of_ble_eq_true rfl, Nat.le_of_ble_eq_true rfl⟩) hS (fun r_3 u_2 H locs hp_1 hV hS => ?_)
    subst hp_1
    have hV : kV G (kM G h ad rf rl rw S ++ wr) H := hV
    refine kb_if_ne (tgt := 40) hx hb dX6_begin_33 (by decide) (fun c33 => ?_) (fun c33 => ?_)
    · refine lv_iload hx hb dX6_begin_40 (lv_at hl 0 rfl) ?_
      refine kb_if_ne (tgt := 49) hx hb dX6_begin_42 (by decide) (fun c42 => ?_) (fun c42 => ?_)
      · refine lv_aload_n hx hb dX6_begin_49 rfl (lv_at hl 1 rfl) ?_
        refine va_get (D := kD G) (ci := 7) (v := .int (nI (S.1 1 0))) (C := RX6) (T := TX6) (N := 26) hx hb hts hinX6 hown hK hV.1 0 rfl rfl 1 (by decide) (hts (Cond.fieldLink RX6 76 "YarncourtModel" "patterns" "I") (List.mem_of_getElem? (i := 1) rfl)) (fun _ h9 => h9) rfl dX6_begin_50 ?_
        refine lv_bipush (v := nI 16) hx hb dX6_begin_53 (by decide) ?_
        refine kn_ne (tgt := 62) hx hb (by omega) (by decide) dX6_begin_55 (by decide) (fun c55 => ?_) (fun c55 => ?_)
        · refine lv_iconst (v := nI 0) hx hb dX6_begin_62 (by decide) ?_
          refine kc_i (va_runV (As := [.int (nI (0))]) (rest := []) hF (c_X6_refused l G h ad rf rl rw S wr 0 (by omega)) (cwV 1 hts gX6_begin_X6_refused rfl rfl rfl (by decide +kernel) ⟨Nat.le_of_ble_eq_true rfl, Nat.le_of_ble_eq_true rfl⟩) (kPreV hE hS hV 0 rfl rfl) rfl rfl hl.1 rfl (lv_room (Nat.le_of_ble_eq_true rfl)) dX6_begin_63 ⟨Nat.le_of_ble_eq_true rfl, Nat.le_of_ble_eq_true rfl⟩) hS (fun r_6 u_5 H locs hp_4 hV hS => ?_)
          subst hp_4
          refine W.eq (g2 := F0 m 66 ls [.int (nI (0))]) (by rw [kb_f (by decide)]) ?_
          have hV : kV G (kM G h ad 0 rl rw S ++ wr) H := hV
          refine kn_if_eq_lit (tgt := 71) hx hb (by decide) dX6_begin_66 (by decide) ?_
          obtain ⟨jo, hjo, rfl⟩ := id c33
          obtain ⟨jw, hjw1, hjw2, rfl⟩ := rng_nI c42.1 (by decide) (by decide)
          obtain ⟨jc, hjc1, hjc2, rfl⟩ := rng_nI c42.2 (by decide) (by decide)
          refine lv_aload_n hx hb dX6_begin_71 rfl (lv_at hl 1 rfl) ?_
          refine lv_iload_n hx hb dX6_begin_72 rfl (lv_at hl 2 rfl) ?_
          refine lv_iload_n hx hb dX6_begin_73 rfl (lv_at hl 3 rfl) ?_
          refine lv_iload_n hx hb dX6_begin_74 rfl (lv_at hl 4 rfl) ?_
          refine kc_i (va_runV (As := [.int (nI (jo)), .int (nI (jw)), .int (nI (jc))]) (rest := []) hF (c_X6_added l G h ad 0 rl rw S wr jo jw jc (by omega)) (cwV 3 hts gX6_begin_X6_added rfl rfl rfl (by decide +kernel) ⟨Nat.le_of_ble_eq_true rfl, Nat.le_of_ble_eq_true rfl⟩) (kPreV hE hS hV 0 rfl rfl) rfl rfl hl.1 rfl (lv_room (Nat.le_of_ble_eq_true rfl)) dX6_begin_75 ⟨Nat.le_of_ble_eq_true rfl, Nat.le_of_ble_eq_true rfl⟩) hS (fun r_9 u_8 H locs hp_7 hV hS => ?_)
          subst hp_7
          have hV : kV G (kM G h ad 0 rl rw (addS S jo jw jc) ++ wr) H := hV
          have hop : opBegin S (nI jo) (nI jw) (nI jc) = (0, nI (S.1 1 0), addS S jo jw jc) := by
            unfold opBegin
            rw [kif_f (fun z => z (isIn_nI hjo)), kif_f (fun z => z c42), kif_f c55, tn_nI (j := jo) (by omega), tn_nI (j := jw) (by omega), tn_nI (j := jc) (by omega)] <;> rfl
          exact W.iret (v := nI (S.1 1 0)) hx hb hrt (fun t ht hW => ⟨⟨_, (rl, rw), rfl, by rw [hop], kV_eq ht (by rw [hop]; exact hV)⟩, hS.F ht⟩) hS.2.2 dX6_begin_78
        · refine lv_iconst (v := nI 3) hx hb dX6_begin_58 (by decide) ?_
          refine lv_goto (tgt := 63) hx hb dX6_begin_59 (by decide) ?_
          refine kc_i (va_runV (As := [.int (nI (3))]) (rest := []) hF (c_X6_refused l G h ad rf rl rw S wr 3 (by omega)) (cwV 1 hts gX6_begin_X6_refused rfl rfl rfl (by decide +kernel) ⟨Nat.le_of_ble_eq_true rfl, Nat.le_of_ble_eq_true rfl⟩) (kPreV hE hS hV 0 rfl rfl) rfl rfl hl.1 rfl (lv_room (Nat.le_of_ble_eq_true rfl)) dX6_begin_63 ⟨Nat.le_of_ble_eq_true rfl, Nat.le_of_ble_eq_true rfl⟩) hS (fun r_12 u_11 H locs hp_10 hV hS => ?_)
          subst hp_10
          refine W.eq (g2 := F0 m 66 ls [.int (nI (1))]) (by rw [kb_t (by decide)]) ?_
          have hV : kV G (kM G h ad 3 rl rw S ++ wr) H := hV
          refine kn_if_eq_not hx hb (by decide) dX6_begin_66 ?_ 71 (by decide)
          refine lv_iconst (v := nI 0) hx hb dX6_begin_69 (by decide) ?_
          have hop : opBegin S o w c = (3, nI 0, S) := by
            unfold opBegin
            rw [kif_f (fun z => z c33), kif_f (fun z => z c42), kif_t c55] <;> rfl
          exact W.iret (v := nI 0) hx hb hrt (fun t ht hW => ⟨⟨_, (rl, rw), rfl, by rw [hop], kV_eq ht (by rw [hop]; exact hV)⟩, hS.F ht⟩) hS.2.2 dX6_begin_70
      · refine lv_iconst (v := nI 2) hx hb dX6_begin_45 (by decide) ?_
        refine lv_goto (tgt := 63) hx hb dX6_begin_46 (by decide) ?_
        refine kc_i (va_runV (As := [.int (nI (2))]) (rest := []) hF (c_X6_refused l G h ad rf rl rw S wr 2 (by omega)) (cwV 1 hts gX6_begin_X6_refused rfl rfl rfl (by decide +kernel) ⟨Nat.le_of_ble_eq_true rfl, Nat.le_of_ble_eq_true rfl⟩) (kPreV hE hS hV 0 rfl rfl) rfl rfl hl.1 rfl (lv_room (Nat.le_of_ble_eq_true rfl)) dX6_begin_63 ⟨Nat.le_of_ble_eq_true rfl, Nat.le_of_ble_eq_true rfl⟩) hS (fun r_15 u_14 H locs hp_13 hV hS => ?_)
        subst hp_13
        refine W.eq (g2 := F0 m 66 ls [.int (nI (1))]) (by rw [kb_t (by decide)]) ?_
        have hV : kV G (kM G h ad 2 rl rw S ++ wr) H := hV
        refine kn_if_eq_not hx hb (by decide) dX6_begin_66 ?_ 71 (by decide)
        refine lv_iconst (v := nI 0) hx hb dX6_begin_69 (by decide) ?_
        have hop : opBegin S o w c = (2, nI 0, S) := by
          unfold opBegin
          rw [kif_f (fun z => z c33), kif_t c42] <;> rfl
        exact W.iret (v := nI 0) hx hb hrt (fun t ht hW => ⟨⟨_, (rl, rw), rfl, by rw [hop], kV_eq ht (by rw [hop]; exact hV)⟩, hS.F ht⟩) hS.2.2 dX6_begin_70
    · refine lv_iconst (v := nI 1) hx hb dX6_begin_36 (by decide) ?_
      refine lv_goto (tgt := 63) hx hb dX6_begin_37 (by decide) ?_
      refine kc_i (va_runV (As := [.int (nI (1))]) (rest := []) hF (c_X6_refused l G h ad rf rl rw S wr 1 (by omega)) (cwV 1 hts gX6_begin_X6_refused rfl rfl rfl (by decide +kernel) ⟨Nat.le_of_ble_eq_true rfl, Nat.le_of_ble_eq_true rfl⟩) (kPreV hE hS hV 0 rfl rfl) rfl rfl hl.1 rfl (lv_room (Nat.le_of_ble_eq_true rfl)) dX6_begin_63 ⟨Nat.le_of_ble_eq_true rfl, Nat.le_of_ble_eq_true rfl⟩) hS (fun r_18 u_17 H locs hp_16 hV hS => ?_)
      subst hp_16
      refine W.eq (g2 := F0 m 66 ls [.int (nI (1))]) (by rw [kb_t (by decide)]) ?_
      have hV : kV G (kM G h ad 1 rl rw S ++ wr) H := hV
      refine kn_if_eq_not hx hb (by decide) dX6_begin_66 ?_ 71 (by decide)
      refine lv_iconst (v := nI 0) hx hb dX6_begin_69 (by decide) ?_
      have hop : opBegin S o w c = (1, nI 0, S) := by
        unfold opBegin
        rw [kif_t c33] <;> rfl
      exact W.iret (v := nI 0) hx hb hrt (fun t ht hW => ⟨⟨_, (rl, rw), rfl, by rw [hop], kV_eq ht (by rw [hop]; exact hV)⟩, hS.F ht⟩) hS.2.2 dX6_begin_70
  refine lv_iload_n hx hb dX6_begin_0 rfl (lv_at hl 2 rfl) ?_
  refine lv_iconst (v := nI 1) hx hb dX6_begin_1 (by decide) ?_
  refine lv_bipush (v := nI 20) hx hb dX6_begin_2 (by decide) ?_
  refine kc_i (va_runS (As := [.int (w), .int (nI (1)), .int (nI (20))]) (rest := []) hF (c_X6_in l G w (nI 1) (nI 20) (kM G h ad rf rl rw S ++ wr)) (va_cwS 3 hts gX6_begin_X6_in rfl rfl rfl (by decide +kernel) ⟨Nat.le_of_ble_eq_true rfl, Nat.le_of_ble_eq_true rfl⟩) (kPreS hE hS hV) rfl rfl hl.1 rfl (lv_room (Nat.le_of_ble_eq_true rfl)) dX6_begin_4 ⟨Nat.le_of_ble_eq_true rfl, Nat.le_of_ble_eq_true rfl⟩) hS (fun r_21 u_20 H locs hp_19 hV hS => ?_)
  subst hp_19
  have hV : kV G (kM G h ad rf rl rw S ++ wr) H := hV
  refine kb_if_eq (tgt := 25) hx hb dX6_begin_7 (by decide) (fun c7 => ?_) (fun c7 => ?_)
  · refine lv_iconst (v := nI 0) hx hb dX6_begin_25 (by decide) ?_
    refine W.eq (g2 := F0 m 26 ls [.int (nI (kb (inI w (nI 1) (nI 20) ∧ inI c (nI 0) (nI 1000))))]) (by rw [kb_f (fun z => c7 z.1)]) ?_
    exact J26  _ _ hV hS ls (lv_sub hl [0, 1, 2, 3] rfl)
  · refine lv_iload_n hx hb dX6_begin_10 rfl (lv_at hl 3 rfl) ?_
    refine lv_iconst (v := nI 0) hx hb dX6_begin_11 (by decide) ?_
    refine lv_sipush (v := nI 1000) hx hb dX6_begin_12 (by decide) ?_
    refine kc_i (va_runS (As := [.int (c), .int (nI (0)), .int (nI (1000))]) (rest := []) hF (c_X6_in l G c (nI 0) (nI 1000) (kM G h ad rf rl rw S ++ wr)) (va_cwS 3 hts gX6_begin_X6_in rfl rfl rfl (by decide +kernel) ⟨Nat.le_of_ble_eq_true rfl, Nat.le_of_ble_eq_true rfl⟩) (kPreS hE hS hV) rfl rfl hl.1 rfl (lv_room (Nat.le_of_ble_eq_true rfl)) dX6_begin_15 ⟨Nat.le_of_ble_eq_true rfl, Nat.le_of_ble_eq_true rfl⟩) hS (fun r_24 u_23 H locs hp_22 hV hS => ?_)
    subst hp_22
    have hV : kV G (kM G h ad rf rl rw S ++ wr) H := hV
    refine kb_if_eq (tgt := 25) hx hb dX6_begin_18 (by decide) (fun c18 => ?_) (fun c18 => ?_)
    · refine lv_iconst (v := nI 0) hx hb dX6_begin_25 (by decide) ?_
      refine W.eq (g2 := F0 m 26 ls [.int (nI (kb (inI w (nI 1) (nI 20) ∧ inI c (nI 0) (nI 1000))))]) (by rw [kb_f (fun z => c18 z.2)]) ?_
      exact J26  _ _ hV hS ls (lv_sub hl [0, 1, 2, 3] rfl)
    · refine lv_iconst (v := nI 1) hx hb dX6_begin_21 (by decide) ?_
      refine lv_goto (tgt := 26) hx hb dX6_begin_22 (by decide) ?_
      refine W.eq (g2 := F0 m 26 ls [.int (nI (kb (inI w (nI 1) (nI 20) ∧ inI c (nI 0) (nI 1000))))]) (by rw [kb_t (⟨c7, c18⟩)]) ?_
      exact J26  _ _ hV hS ls (lv_sub hl [0, 1, 2, 3] rfl)
set_option maxHeartbeats 4000000 in
set_option maxRecDepth 100000 in
theorem c_X6_line (l : Launch) (G : kG) (h : Nat) (ad : Nat → Nat) (rf : Nat) (rl : Nat) (rw : Nat) (S : kS) (wr : va_W) (p : Int32) (k : Int32) (u : Int32) (z : Int32) (t : Int32) (hI : kInv S) : Met l yX6_line wsX6_line ({ frames := 2, cells := 0, slots := 0, locals := 43 } : Room) (kPc G [.ref (h), .int (p), .int (k), .int (u), .int (z), .int (t)] (kM G h ad rf rl rw S ++ wr)) (kQi G (S := Nat × Nat) (fun q _ => q = (opLine S p k u z t).2.1) (fun uu => kM G h ad ((opLine S p k u z t).1) uu.1 uu.2 ((opLine S p k u z t).2.2) ++ wr)) 0 0 (kA G) := by
  refine Met.ofW (cc := cX6_line) (maxL := 8) (ret := (some .int)) (by decide) rfl ?_
  intro pp ee s m args below meth cc0 s₁ B hml hv
  obtain ⟨rfl, hE, hV⟩ := hv
  have hK := hE.1
  have hx := B.exec
  have hb := B.bytes
  have hrt := B.returns
  have hts := atoms_spec (ws := wsX6_line) B.pre
  have hown : s.vm.findClass RX6 = some m.cls := findClass_of_methodNamed B.named
  have hlocks := B.notSynchronized
  have hF : CallFix pp m cc0 cX6_line 8 s _ wsX6_line RX6 := ⟨hx, hb, hml, hown, hts⟩
  have hinX6 : ∀ w ∈ wsX60, w ∈ wsX6_line := tb_of [33, 34, 35, 36, 37, 38, 39, 40, 41, 42, 43, 44, 45, 46, 47, 48, 49, 50, 51, 52, 53, 54, 55, 56, 57, 58] rfl
  have hS : va_S (kA G) s.heap s.heap [] := va_S.rf
  have hB0 := hE.2.1
  have hl := lv_entry ([.ref (h), .int (p), .int (k), .int (u), .int (z), .int (t)]) (n := 8) (Nat.le_of_ble_eq_true rfl)
  rw [lg_entry_eq]
  generalize (lg_sl ([.ref (h), .int (p), .int (k), .int (u), .int (z), .int (t)]) ++ List.replicate (8 - (lg_sl ([.ref (h), .int (p), .int (k), .int (u), .int (z), .int (t)])).length) Slot.unset).toArray = ls at hl ⊢
  have hl : lv_has ls 8 [(0, .ref (h)), (1, .int (p)), (2, .int (k)), (3, .int (u)), (4, .int (z)), (5, .int (t))] := hl
  obtain ⟨⟨hnp, hnl, hnj, hpu⟩, hIP, hIQ, hIL, hIJ, hIK, hIO⟩ := id hI
  have J53 : ∀ (H : Heap) (locs : List Loc), kV G (kM G h ad rf rl rw S ++ wr) H → va_S (kA G) s.heap H locs → ∀ (ls : Array Slot), lv_has ls 8 [(0, .ref (h)), (1, .int (p)), (2, .int (k)), (3, .int (u)), (4, .int (z)), (5, .int (t))] → W pp l ee (headSpec wsX6_line ({ frames := 2, cells := 0, slots := 0, locals := 43 } : Room)).room s m [.ref (h), .int (p), .int (k), .int (u), .int (z), .int (t)].toArray below meth cc0 H locs 0 0 (MQ below (kQi G (S := Nat × Nat) (fun q _ => q = (opLine S p k u z t).2.1) (fun uu => kM G h ad ((opLine S p k u z t).1) uu.1 uu.2 ((opLine S p k u z t).2.2) ++ wr)) [.ref (h), .int (p), .int (k), .int (u), .int (z), .int (t)].toArray s 0 0 (kA G)) (F0 m 53 ls [.int (nI (kb (lineArgs k u z t)))]) := by
    intro  H locs hV hS ls hl
    refine lv_istore (lv' := [(6, .int (nI (kb (lineArgs k u z t)))), (0, .ref (h)), (1, .int (p)), (2, .int (k)), (3, .int (u)), (4, .int (z)), (5, .int (t))]) hx hb dX6_line_53 hl (by decide) rfl (fun ls hl => ?_)
    have J105 : ∀ (H : Heap) (locs : List Loc), kV G (kM G h ad rf rl rw S ++ wr) H → va_S (kA G) s.heap H locs → ∀ (ls : Array Slot), lv_has ls 8 [(6, .int (nI (kb (lineArgs k u z t)))), (0, .ref (h)), (1, .int (p)), (2, .int (k)), (3, .int (u)), (4, .int (z)), (5, .int (t))] → W pp l ee (headSpec wsX6_line ({ frames := 2, cells := 0, slots := 0, locals := 43 } : Room)).room s m [.ref (h), .int (p), .int (k), .int (u), .int (z), .int (t)].toArray below meth cc0 H locs 0 0 (MQ below (kQi G (S := Nat × Nat) (fun q _ => q = (opLine S p k u z t).2.1) (fun uu => kM G h ad ((opLine S p k u z t).1) uu.1 uu.2 ((opLine S p k u z t).2.2) ++ wr)) [.ref (h), .int (p), .int (k), .int (u), .int (z), .int (t)].toArray s 0 0 (kA G)) (F0 m 105 ls [.int (nI (kb (isIn p (S.1 1 0) ∧ lineArgs k u z t ∧ lineCan S (tn p) (tn t))))]) := by
      intro  H locs hV hS ls hl
      refine lv_istore (lv' := [(7, .int (nI (kb (isIn p (S.1 1 0) ∧ lineArgs k u z t ∧ lineCan S (tn p) (tn t))))), (6, .int (nI (kb (lineArgs k u z t)))), (0, .ref (h)), (1, .int (p)), (2, .int (k)), (3, .int (u)), (4, .int (z)), (5, .int (t))]) hx hb dX6_line_105 hl (by decide) rfl (fun ls hl => ?_)
      refine lv_aload_n hx hb dX6_line_107 rfl (lv_at hl 2 rfl) ?_
      refine lv_aload_n hx hb dX6_line_108 rfl (lv_at hl 2 rfl) ?_
      refine lv_iload_n hx hb dX6_line_109 rfl (lv_at hl 3 rfl) ?_
      refine kc_i (va_runV (As := [.int (p)]) (rest := [.ref (h)]) hF (c_X6_isPattern l G h ad rf rl rw S wr p (by omega)) (cwV 1 hts gX6_line_X6_isPattern rfl rfl rfl (by decide +kernel) ⟨Nat.le_of_ble_eq_true rfl, Nat.le_of_ble_eq_true rfl⟩) (kPreV hE hS hV 0 rfl rfl) rfl rfl hl.1 rfl (lv_room (Nat.le_of_ble_eq_true rfl)) dX6_line_110 ⟨Nat.le_of_ble_eq_true rfl, Nat.le_of_ble_eq_true rfl⟩) hS (fun r_3 u_2 H locs hp_1 hV hS => ?_)
      subst hp_1
      have hV : kV G (kM G h ad rf rl rw S ++ wr) H := hV
      refine kb_if_ne (tgt := 120) hx hb dX6_line_113 (by decide) (fun c113 => ?_) (fun c113 => ?_)
      · refine lv_iload hx hb dX6_line_120 (lv_at hl 1 rfl) ?_
        refine kb_if_ne (tgt := 129) hx hb dX6_line_122 (by decide) (fun c122 => ?_) (fun c122 => ?_)
        · refine lv_iload hx hb dX6_line_129 (lv_at hl 0 rfl) ?_
          refine kb_if_eq (tgt := 138) hx hb dX6_line_131 (by decide) (fun c131 => ?_) (fun c131 => ?_)
          · refine lv_iconst (v := nI 3) hx hb dX6_line_138 (by decide) ?_
            refine kc_i (va_runV (As := [.int (nI (3))]) (rest := []) hF (c_X6_refused l G h ad rf rl rw S wr 3 (by omega)) (cwV 1 hts gX6_line_X6_refused rfl rfl rfl (by decide +kernel) ⟨Nat.le_of_ble_eq_true rfl, Nat.le_of_ble_eq_true rfl⟩) (kPreV hE hS hV 0 rfl rfl) rfl rfl hl.1 rfl (lv_room (Nat.le_of_ble_eq_true rfl)) dX6_line_139 ⟨Nat.le_of_ble_eq_true rfl, Nat.le_of_ble_eq_true rfl⟩) hS (fun r_6 u_5 H locs hp_4 hV hS => ?_)
            subst hp_4
            refine W.eq (g2 := F0 m 142 ls [.int (nI (1))]) (by rw [kb_t (by decide)]) ?_
            have hV : kV G (kM G h ad 3 rl rw S ++ wr) H := hV
            refine kn_if_eq_not hx hb (by decide) dX6_line_142 ?_ 147 (by decide)
            refine lv_iconst (v := nI 0) hx hb dX6_line_145 (by decide) ?_
            have hop : opLine S p k u z t = (3, nI 0, S) := by
              unfold opLine
              rw [kif_f (fun z => z c113), kif_f (fun z => z c122), kif_t (fun z => c131 ⟨c113, c122, z⟩)] <;> rfl
            exact W.iret (v := nI 0) hx hb hrt (fun t ht hW => ⟨⟨_, (rl, rw), rfl, by rw [hop], kV_eq ht (by rw [hop]; exact hV)⟩, hS.F ht⟩) hS.2.2 dX6_line_146
          · refine lv_iconst (v := nI 0) hx hb dX6_line_134 (by decide) ?_
            refine lv_goto (tgt := 139) hx hb dX6_line_135 (by decide) ?_
            refine kc_i (va_runV (As := [.int (nI (0))]) (rest := []) hF (c_X6_refused l G h ad rf rl rw S wr 0 (by omega)) (cwV 1 hts gX6_line_X6_refused rfl rfl rfl (by decide +kernel) ⟨Nat.le_of_ble_eq_true rfl, Nat.le_of_ble_eq_true rfl⟩) (kPreV hE hS hV 0 rfl rfl) rfl rfl hl.1 rfl (lv_room (Nat.le_of_ble_eq_true rfl)) dX6_line_139 ⟨Nat.le_of_ble_eq_true rfl, Nat.le_of_ble_eq_true rfl⟩) hS (fun r_9 u_8 H locs hp_7 hV hS => ?_)
            subst hp_7
            refine W.eq (g2 := F0 m 142 ls [.int (nI (0))]) (by rw [kb_f (by decide)]) ?_
            have hV : kV G (kM G h ad 0 rl rw S ++ wr) H := hV
            refine kn_if_eq_lit (tgt := 147) hx hb (by decide) dX6_line_142 (by decide) ?_
            obtain ⟨j, hj, rfl⟩ := id c131.1
            obtain ⟨jk, hjk1, hjk2, rfl⟩ := rng_nI (And.left c131.2.1) (by decide) (by decide)
            obtain ⟨ju, hju1, hju2, rfl⟩ := rng_nI (And.left (And.right c131.2.1)) (by decide) (by decide)
            obtain ⟨zz, hzz1, hzz2, rfl⟩ := z_rng (And.left (And.right (And.right (And.right c131.2.1))))
            obtain ⟨jt, hjt1, hjt2, rfl⟩ := rng_nI (And.right (And.right (And.right (And.right c131.2.1)))) (by decide) (by decide)
            obtain ⟨hokj, howj, hprj, hodj, hlij, hbyj, hbaj⟩ := hIP j hj
            have h6 := hokj.1
            have tk : tn (nI jk) = jk := tn_nI (by omega)
            have tu : tn (nI ju) = ju := tn_nI (by omega)
            have tt : tn (nI jt) = jt := tn_nI (by omega)
            have tj : tn (nI j) = j := tn_nI (by omega)
            have tz9 : tz (zI zz) = zz := tz_zI hzz1 hzz2
            have hcan := c131.2.2
            rw [tj, tt] at hcan
            have hl6 := hcan.2.1
            have h5p := putS_5 S j jk ju zz jt
            refine lv_aload_n hx hb dX6_line_147 rfl (lv_at hl 2 rfl) ?_
            refine lv_iload_n hx hb dX6_line_148 rfl (lv_at hl 3 rfl) ?_
            refine lv_iload_n hx hb dX6_line_149 rfl (lv_at hl 4 rfl) ?_
            refine lv_iload_n hx hb dX6_line_150 rfl (lv_at hl 5 rfl) ?_
            refine lv_iload hx hb dX6_line_151 (lv_at hl 6 rfl) ?_
            refine lv_iload hx hb dX6_line_153 (lv_at hl 7 rfl) ?_
            refine kc_v (va_runV (As := [.int (nI (j)), .int (nI (jk)), .int (nI (ju)), .int (zI (zz)), .int (nI (jt))]) (rest := []) hF (c_X6_put l G h ad 0 rl rw S wr j jk ju zz jt (by omega) (by omega)) (cwV 5 hts gX6_line_X6_put rfl rfl rfl (by decide +kernel) ⟨Nat.le_of_ble_eq_true rfl, Nat.le_of_ble_eq_true rfl⟩) (kPreV hE hS hV 0 rfl rfl) rfl rfl hl.1 rfl (lv_room (Nat.le_of_ble_eq_true rfl)) dX6_line_155 ⟨Nat.le_of_ble_eq_true rfl, Nat.le_of_ble_eq_true rfl⟩) hS (fun u_11 H locs hp_10 hV hS => ?_)
            have hV : kV G (kM G h ad 0 rl rw (putS S j jk ju zz jt) ++ wr) H := hV
            refine lv_aload_n hx hb dX6_line_158 rfl (lv_at hl 2 rfl) ?_
            refine lv_iload_n hx hb dX6_line_159 rfl (lv_at hl 3 rfl) ?_
            refine kc_i (va_runV (As := [.int (nI (j))]) (rest := []) hF (c_X6_rowsOf l G h ad 0 rl rw (putS S j jk ju zz jt) wr j (by omega) (by omega)) (cwV 1 hts gX6_line_X6_rowsOf rfl rfl rfl (by decide +kernel) ⟨Nat.le_of_ble_eq_true rfl, Nat.le_of_ble_eq_true rfl⟩) (kPreV hE hS hV 0 rfl rfl) rfl rfl hl.1 rfl (lv_room (Nat.le_of_ble_eq_true rfl)) dX6_line_160 ⟨Nat.le_of_ble_eq_true rfl, Nat.le_of_ble_eq_true rfl⟩) hS (fun r_15 u_14 H locs hp_13 hV hS => ?_)
            subst hp_13
            have hV : kV G (kM G h ad 0 rl rw (putS S j jk ju zz jt) ++ wr) H := hV
            have hop : opLine S (nI j) (nI jk) (nI ju) (zI zz) (nI jt) = (0, nI (pRows (putS S j jk ju zz jt) j), putS S j jk ju zz jt) := by
              unfold opLine
              rw [kif_f (fun z => z (isIn_nI hj)), kif_f (fun z => z c131.2.1), kif_f (fun z => z c131.2.2), tj, tk, tu, tt, tz9] <;> rfl
            exact W.iret (v := nI (pRows (putS S j jk ju zz jt) j)) hx hb hrt (fun t ht hW => ⟨⟨_, (rl, rw), rfl, by rw [hop], kV_eq ht (by rw [hop]; exact hV)⟩, hS.F ht⟩) hS.2.2 dX6_line_163
        · refine lv_iconst (v := nI 2) hx hb dX6_line_125 (by decide) ?_
          refine lv_goto (tgt := 139) hx hb dX6_line_126 (by decide) ?_
          refine kc_i (va_runV (As := [.int (nI (2))]) (rest := []) hF (c_X6_refused l G h ad rf rl rw S wr 2 (by omega)) (cwV 1 hts gX6_line_X6_refused rfl rfl rfl (by decide +kernel) ⟨Nat.le_of_ble_eq_true rfl, Nat.le_of_ble_eq_true rfl⟩) (kPreV hE hS hV 0 rfl rfl) rfl rfl hl.1 rfl (lv_room (Nat.le_of_ble_eq_true rfl)) dX6_line_139 ⟨Nat.le_of_ble_eq_true rfl, Nat.le_of_ble_eq_true rfl⟩) hS (fun r_18 u_17 H locs hp_16 hV hS => ?_)
          subst hp_16
          refine W.eq (g2 := F0 m 142 ls [.int (nI (1))]) (by rw [kb_t (by decide)]) ?_
          have hV : kV G (kM G h ad 2 rl rw S ++ wr) H := hV
          refine kn_if_eq_not hx hb (by decide) dX6_line_142 ?_ 147 (by decide)
          refine lv_iconst (v := nI 0) hx hb dX6_line_145 (by decide) ?_
          have hop : opLine S p k u z t = (2, nI 0, S) := by
            unfold opLine
            rw [kif_f (fun z => z c113), kif_t c122] <;> rfl
          exact W.iret (v := nI 0) hx hb hrt (fun t ht hW => ⟨⟨_, (rl, rw), rfl, by rw [hop], kV_eq ht (by rw [hop]; exact hV)⟩, hS.F ht⟩) hS.2.2 dX6_line_146
      · refine lv_iconst (v := nI 1) hx hb dX6_line_116 (by decide) ?_
        refine lv_goto (tgt := 139) hx hb dX6_line_117 (by decide) ?_
        refine kc_i (va_runV (As := [.int (nI (1))]) (rest := []) hF (c_X6_refused l G h ad rf rl rw S wr 1 (by omega)) (cwV 1 hts gX6_line_X6_refused rfl rfl rfl (by decide +kernel) ⟨Nat.le_of_ble_eq_true rfl, Nat.le_of_ble_eq_true rfl⟩) (kPreV hE hS hV 0 rfl rfl) rfl rfl hl.1 rfl (lv_room (Nat.le_of_ble_eq_true rfl)) dX6_line_139 ⟨Nat.le_of_ble_eq_true rfl, Nat.le_of_ble_eq_true rfl⟩) hS (fun r_21 u_20 H locs hp_19 hV hS => ?_)
        subst hp_19
        refine W.eq (g2 := F0 m 142 ls [.int (nI (1))]) (by rw [kb_t (by decide)]) ?_
        have hV : kV G (kM G h ad 1 rl rw S ++ wr) H := hV
        refine kn_if_eq_not hx hb (by decide) dX6_line_142 ?_ 147 (by decide)
        refine lv_iconst (v := nI 0) hx hb dX6_line_145 (by decide) ?_
        have hop : opLine S p k u z t = (1, nI 0, S) := by
          unfold opLine
          rw [kif_t c113] <;> rfl
        exact W.iret (v := nI 0) hx hb hrt (fun t ht hW => ⟨⟨_, (rl, rw), rfl, by rw [hop], kV_eq ht (by rw [hop]; exact hV)⟩, hS.F ht⟩) hS.2.2 dX6_line_146
    refine lv_aload_n hx hb dX6_line_55 rfl (lv_at hl 1 rfl) ?_
    refine lv_iload_n hx hb dX6_line_56 rfl (lv_at hl 2 rfl) ?_
    refine kc_i (va_runV (As := [.int (p)]) (rest := []) hF (c_X6_isPattern l G h ad rf rl rw S wr p (by omega)) (cwV 1 hts gX6_line_X6_isPattern rfl rfl rfl (by decide +kernel) ⟨Nat.le_of_ble_eq_true rfl, Nat.le_of_ble_eq_true rfl⟩) (kPreV hE hS hV 0 rfl rfl) rfl rfl hl.1 rfl (lv_room (Nat.le_of_ble_eq_true rfl)) dX6_line_57 ⟨Nat.le_of_ble_eq_true rfl, Nat.le_of_ble_eq_true rfl⟩) hS (fun r_24 u_23 H locs hp_22 hV hS => ?_)
    subst hp_22
    have hV : kV G (kM G h ad rf rl rw S ++ wr) H := hV
    refine kb_if_eq (tgt := 104) hx hb dX6_line_60 (by decide) (fun c60 => ?_) (fun c60 => ?_)
    · refine lv_iconst (v := nI 0) hx hb dX6_line_104 (by decide) ?_
      refine W.eq (g2 := F0 m 105 ls [.int (nI (kb (isIn p (S.1 1 0) ∧ lineArgs k u z t ∧ lineCan S (tn p) (tn t))))]) (by rw [kb_f (fun z => c60 z.1)]) ?_
      exact J105  _ _ hV hS ls (lv_sub hl [0, 1, 2, 3, 4, 5, 6] rfl)
    · refine lv_iload hx hb dX6_line_63 (lv_at hl 0 rfl) ?_
      refine kb_if_eq (tgt := 104) hx hb dX6_line_65 (by decide) (fun c65 => ?_) (fun c65 => ?_)
      · refine lv_iconst (v := nI 0) hx hb dX6_line_104 (by decide) ?_
        refine W.eq (g2 := F0 m 105 ls [.int (nI (kb (isIn p (S.1 1 0) ∧ lineArgs k u z t ∧ lineCan S (tn p) (tn t))))]) (by rw [kb_f (fun z => c65 z.2.1)]) ?_
        exact J105  _ _ hV hS ls (lv_sub hl [0, 1, 2, 3, 4, 5, 6] rfl)
      · obtain ⟨j, hj, rfl⟩ := id c60
        obtain ⟨jk, hjk1, hjk2, rfl⟩ := rng_nI (And.left c65) (by decide) (by decide)
        obtain ⟨ju, hju1, hju2, rfl⟩ := rng_nI (And.left (And.right c65)) (by decide) (by decide)
        obtain ⟨zz, hzz1, hzz2, rfl⟩ := z_rng (And.left (And.right (And.right (And.right c65))))
        obtain ⟨jt, hjt1, hjt2, rfl⟩ := rng_nI (And.right (And.right (And.right (And.right c65)))) (by decide) (by decide)
        obtain ⟨hokj, howj, hprj, hodj, hlij, hbyj, hbaj⟩ := hIP j hj
        have h6 := hokj.1
        have h40 := hokj.2.2.2.1
        have tk : tn (nI jk) = jk := tn_nI (by omega)
        have tu : tn (nI ju) = ju := tn_nI (by omega)
        have tt : tn (nI jt) = jt := tn_nI (by omega)
        have tj : tn (nI j) = j := tn_nI (by omega)
        have tz9 : tz (zI zz) = zz := tz_zI hzz1 hzz2
        refine lv_aload_n hx hb dX6_line_68 rfl (lv_at hl 1 rfl) ?_
        refine lv_iload_n hx hb dX6_line_69 rfl (lv_at hl 2 rfl) ?_
        refine kc_i (va_runV (As := [.int (nI (j))]) (rest := []) hF (c_X6_isPublished l G h ad rf rl rw S wr j (by omega) (by omega)) (cwV 1 hts gX6_line_X6_isPublished rfl rfl rfl (by decide +kernel) ⟨Nat.le_of_ble_eq_true rfl, Nat.le_of_ble_eq_true rfl⟩) (kPreV hE hS hV 0 rfl rfl) rfl rfl hl.1 rfl (lv_room (Nat.le_of_ble_eq_true rfl)) dX6_line_70 ⟨Nat.le_of_ble_eq_true rfl, Nat.le_of_ble_eq_true rfl⟩) hS (fun r_27 u_26 H locs hp_25 hV hS => ?_)
        subst hp_25
        have hV : kV G (kM G h ad rf rl rw S ++ wr) H := hV
        refine kb_if_ne (tgt := 104) hx hb dX6_line_73 (by decide) (fun c73 => ?_) (fun c73 => ?_)
        · refine lv_iconst (v := nI 0) hx hb dX6_line_104 (by decide) ?_
          refine W.eq (g2 := F0 m 105 ls [.int (nI (kb (isIn (nI j) (S.1 1 0) ∧ lineArgs (nI jk) (nI ju) (zI zz) (nI jt) ∧ lineCan S (tn (nI j)) (tn (nI jt)))))]) (by rw [kb_f (fun z => by have h9 := z.2.2; rw [tj, tt] at h9; exact c73 h9.1)]) ?_
          exact J105  _ _ hV hS ls (lv_sub hl [0, 1, 2, 3, 4, 5, 6] rfl)
        · refine lv_aload_n hx hb dX6_line_76 rfl (lv_at hl 1 rfl) ?_
          refine va_get (D := kD G) (ci := 7) (v := .ref (ad 5)) (C := RX6) (T := TX6) (N := 26) hx hb hts hinX6 hown hK hV.1 0 rfl rfl 5 (by decide) (hts (Cond.fieldLink RX6 19 "YarncourtModel" "lines" "[I") (List.mem_of_getElem? (i := 1) rfl)) (fun _ h9 => h9) rfl dX6_line_77 ?_
          refine lv_iload_n hx hb dX6_line_80 rfl (lv_at hl 2 rfl) ?_
          refine kn_iald (G := G) (n := 16) (g := S.1 5) (j := j) hx hb hK hV 4 rfl (by omega) (by decide) dX6_line_81 ?_
          refine lv_bipush (v := nI 6) hx hb dX6_line_82 (by decide) ?_
          refine kn_ge (tgt := 104) hx hb (by omega) (by decide) dX6_line_84 (by decide) (fun c84 => ?_) (fun c84 => ?_)
          · refine lv_iconst (v := nI 0) hx hb dX6_line_104 (by decide) ?_
            refine W.eq (g2 := F0 m 105 ls [.int (nI (kb (isIn (nI j) (S.1 1 0) ∧ lineArgs (nI jk) (nI ju) (zI zz) (nI jt) ∧ lineCan S (tn (nI j)) (tn (nI jt)))))]) (by rw [kb_f (fun z => by have h9 := z.2.2; rw [tj, tt] at h9; have := h9.2.1; omega)]) ?_
            exact J105  _ _ hV hS ls (lv_sub hl [0, 1, 2, 3, 4, 5, 6] rfl)
          · refine lv_aload_n hx hb dX6_line_87 rfl (lv_at hl 1 rfl) ?_
            refine lv_iload_n hx hb dX6_line_88 rfl (lv_at hl 2 rfl) ?_
            refine kc_i (va_runV (As := [.int (nI (j))]) (rest := []) hF (c_X6_rowsOf l G h ad rf rl rw S wr j (by omega) (by omega)) (cwV 1 hts gX6_line_X6_rowsOf rfl rfl rfl (by decide +kernel) ⟨Nat.le_of_ble_eq_true rfl, Nat.le_of_ble_eq_true rfl⟩) (kPreV hE hS hV 0 rfl rfl) rfl rfl hl.1 rfl (lv_room (Nat.le_of_ble_eq_true rfl)) dX6_line_89 ⟨Nat.le_of_ble_eq_true rfl, Nat.le_of_ble_eq_true rfl⟩) hS (fun r_30 u_29 H locs hp_28 hV hS => ?_)
            subst hp_28
            have hV : kV G (kM G h ad rf rl rw S ++ wr) H := hV
            refine lv_iload hx hb dX6_line_92 (lv_at hl 6 rfl) ?_
            refine kn_add hx hb dX6_line_94 ?_
            refine lv_bipush (v := nI 40) hx hb dX6_line_95 (by decide) ?_
            refine kn_gt (tgt := 104) hx hb (by omega) (by decide) dX6_line_97 (by decide) (fun c97 => ?_) (fun c97 => ?_)
            · refine lv_iconst (v := nI 0) hx hb dX6_line_104 (by decide) ?_
              refine W.eq (g2 := F0 m 105 ls [.int (nI (kb (isIn (nI j) (S.1 1 0) ∧ lineArgs (nI jk) (nI ju) (zI zz) (nI jt) ∧ lineCan S (tn (nI j)) (tn (nI jt)))))]) (by rw [kb_f (fun z => by have h9 := z.2.2; rw [tj, tt] at h9; have := h9.2.2; omega)]) ?_
              exact J105  _ _ hV hS ls (lv_sub hl [0, 1, 2, 3, 4, 5, 6] rfl)
            · refine lv_iconst (v := nI 1) hx hb dX6_line_100 (by decide) ?_
              refine lv_goto (tgt := 105) hx hb dX6_line_101 (by decide) ?_
              refine W.eq (g2 := F0 m 105 ls [.int (nI (kb (isIn (nI j) (S.1 1 0) ∧ lineArgs (nI jk) (nI ju) (zI zz) (nI jt) ∧ lineCan S (tn (nI j)) (tn (nI jt)))))]) (by rw [kb_t (⟨c60, c65, by rw [tj, tt]; exact ⟨Classical.not_not.mp c73, c84, c97⟩⟩)]) ?_
              exact J105  _ _ hV hS ls (lv_sub hl [0, 1, 2, 3, 4, 5, 6] rfl)
  refine lv_iload_n hx hb dX6_line_0 rfl (lv_at hl 2 rfl) ?_
  refine lv_iconst (v := nI 0) hx hb dX6_line_1 (by decide) ?_
  refine lv_bipush (v := nI 9) hx hb dX6_line_2 (by decide) ?_
  refine kc_i (va_runS (As := [.int (k), .int (nI (0)), .int (nI (9))]) (rest := []) hF (c_X6_in l G k (nI 0) (nI 9) (kM G h ad rf rl rw S ++ wr)) (va_cwS 3 hts gX6_line_X6_in rfl rfl rfl (by decide +kernel) ⟨Nat.le_of_ble_eq_true rfl, Nat.le_of_ble_eq_true rfl⟩) (kPreS hE hS hV) rfl rfl hl.1 rfl (lv_room (Nat.le_of_ble_eq_true rfl)) dX6_line_4 ⟨Nat.le_of_ble_eq_true rfl, Nat.le_of_ble_eq_true rfl⟩) hS (fun r_33 u_32 H locs hp_31 hV hS => ?_)
  subst hp_31
  have hV : kV G (kM G h ad rf rl rw S ++ wr) H := hV
  refine kb_if_eq (tgt := 52) hx hb dX6_line_7 (by decide) (fun c7 => ?_) (fun c7 => ?_)
  · refine lv_iconst (v := nI 0) hx hb dX6_line_52 (by decide) ?_
    refine W.eq (g2 := F0 m 53 ls [.int (nI (kb (lineArgs k u z t)))]) (by rw [kb_f (fun z => c7 z.1)]) ?_
    exact J53  _ _ hV hS ls (lv_sub hl [0, 1, 2, 3, 4, 5] rfl)
  · refine lv_iload_n hx hb dX6_line_10 rfl (lv_at hl 3 rfl) ?_
    refine lv_iconst (v := nI 0) hx hb dX6_line_11 (by decide) ?_
    refine lv_bipush (v := nI 9) hx hb dX6_line_12 (by decide) ?_
    refine kc_i (va_runS (As := [.int (u), .int (nI (0)), .int (nI (9))]) (rest := []) hF (c_X6_in l G u (nI 0) (nI 9) (kM G h ad rf rl rw S ++ wr)) (va_cwS 3 hts gX6_line_X6_in rfl rfl rfl (by decide +kernel) ⟨Nat.le_of_ble_eq_true rfl, Nat.le_of_ble_eq_true rfl⟩) (kPreS hE hS hV) rfl rfl hl.1 rfl (lv_room (Nat.le_of_ble_eq_true rfl)) dX6_line_14 ⟨Nat.le_of_ble_eq_true rfl, Nat.le_of_ble_eq_true rfl⟩) hS (fun r_36 u_35 H locs hp_34 hV hS => ?_)
    subst hp_34
    have hV : kV G (kM G h ad rf rl rw S ++ wr) H := hV
    refine kb_if_eq (tgt := 52) hx hb dX6_line_17 (by decide) (fun c17 => ?_) (fun c17 => ?_)
    · refine lv_iconst (v := nI 0) hx hb dX6_line_52 (by decide) ?_
      refine W.eq (g2 := F0 m 53 ls [.int (nI (kb (lineArgs k u z t)))]) (by rw [kb_f (fun z => c17 z.2.1)]) ?_
      exact J53  _ _ hV hS ls (lv_sub hl [0, 1, 2, 3, 4, 5] rfl)
    · obtain ⟨jk, hjk1, hjk2, rfl⟩ := rng_nI c7 (by decide) (by decide)
      obtain ⟨ju, hju1, hju2, rfl⟩ := rng_nI c17 (by decide) (by decide)
      have tk0 : tn (nI jk) = jk := tn_nI (by omega)
      have tu0 : tn (nI ju) = ju := tn_nI (by omega)
      refine lv_iload_n hx hb dX6_line_20 rfl (lv_at hl 2 rfl) ?_
      refine lv_iload_n hx hb dX6_line_21 rfl (lv_at hl 3 rfl) ?_
      refine kn_add hx hb dX6_line_22 ?_
      refine kn_if_le (tgt := 52) hx hb (by omega) dX6_line_23 (by decide) (fun c23 => ?_) (fun c23 => ?_)
      · refine lv_iconst (v := nI 0) hx hb dX6_line_52 (by decide) ?_
        refine W.eq (g2 := F0 m 53 ls [.int (nI (kb (lineArgs (nI jk) (nI ju) z t)))]) (by rw [kb_f (fun z => by have h9 := z.2.2.1; rw [tk0, tu0] at h9; omega)]) ?_
        exact J53  _ _ hV hS ls (lv_sub hl [0, 1, 2, 3, 4, 5] rfl)
      · refine lv_iload hx hb dX6_line_26 (lv_at hl 4 rfl) ?_
        refine lv_bipush (v := -3) hx hb dX6_line_28 (by decide) ?_
        refine lv_iconst (v := nI 3) hx hb dX6_line_30 (by decide) ?_
        refine kc_i (va_runS (As := [.int (z), .int (-3), .int (nI (3))]) (rest := []) hF (c_X6_in l G z (-3) (nI 3) (kM G h ad rf rl rw S ++ wr)) (va_cwS 3 hts gX6_line_X6_in rfl rfl rfl (by decide +kernel) ⟨Nat.le_of_ble_eq_true rfl, Nat.le_of_ble_eq_true rfl⟩) (kPreS hE hS hV) rfl rfl hl.1 rfl (lv_room (Nat.le_of_ble_eq_true rfl)) dX6_line_31 ⟨Nat.le_of_ble_eq_true rfl, Nat.le_of_ble_eq_true rfl⟩) hS (fun r_39 u_38 H locs hp_37 hV hS => ?_)
        subst hp_37
        have hV : kV G (kM G h ad rf rl rw S ++ wr) H := hV
        refine kb_if_eq (tgt := 52) hx hb dX6_line_34 (by decide) (fun c34 => ?_) (fun c34 => ?_)
        · refine lv_iconst (v := nI 0) hx hb dX6_line_52 (by decide) ?_
          refine W.eq (g2 := F0 m 53 ls [.int (nI (kb (lineArgs (nI jk) (nI ju) z t)))]) (by rw [kb_f (fun z => c34 z.2.2.2.1)]) ?_
          exact J53  _ _ hV hS ls (lv_sub hl [0, 1, 2, 3, 4, 5] rfl)
        · refine lv_iload hx hb dX6_line_37 (lv_at hl 5 rfl) ?_
          refine lv_iconst (v := nI 1) hx hb dX6_line_39 (by decide) ?_
          refine lv_bipush (v := nI 20) hx hb dX6_line_40 (by decide) ?_
          refine kc_i (va_runS (As := [.int (t), .int (nI (1)), .int (nI (20))]) (rest := []) hF (c_X6_in l G t (nI 1) (nI 20) (kM G h ad rf rl rw S ++ wr)) (va_cwS 3 hts gX6_line_X6_in rfl rfl rfl (by decide +kernel) ⟨Nat.le_of_ble_eq_true rfl, Nat.le_of_ble_eq_true rfl⟩) (kPreS hE hS hV) rfl rfl hl.1 rfl (lv_room (Nat.le_of_ble_eq_true rfl)) dX6_line_42 ⟨Nat.le_of_ble_eq_true rfl, Nat.le_of_ble_eq_true rfl⟩) hS (fun r_42 u_41 H locs hp_40 hV hS => ?_)
          subst hp_40
          have hV : kV G (kM G h ad rf rl rw S ++ wr) H := hV
          refine kb_if_eq (tgt := 52) hx hb dX6_line_45 (by decide) (fun c45 => ?_) (fun c45 => ?_)
          · refine lv_iconst (v := nI 0) hx hb dX6_line_52 (by decide) ?_
            refine W.eq (g2 := F0 m 53 ls [.int (nI (kb (lineArgs (nI jk) (nI ju) z t)))]) (by rw [kb_f (fun z => c45 z.2.2.2.2)]) ?_
            exact J53  _ _ hV hS ls (lv_sub hl [0, 1, 2, 3, 4, 5] rfl)
          · refine lv_iconst (v := nI 1) hx hb dX6_line_48 (by decide) ?_
            refine lv_goto (tgt := 53) hx hb dX6_line_49 (by decide) ?_
            refine W.eq (g2 := F0 m 53 ls [.int (nI (kb (lineArgs (nI jk) (nI ju) z t)))]) (by rw [kb_t (⟨c7, c17, by rw [tk0, tu0]; exact c23, c34, c45⟩)]) ?_
            exact J53  _ _ hV hS ls (lv_sub hl [0, 1, 2, 3, 4, 5] rfl)
