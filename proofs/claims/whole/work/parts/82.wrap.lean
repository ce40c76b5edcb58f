theorem kV_mid {G : kG} {a b c : va_W} {H : Heap} (h : kV G (a ++ (b ++ c)) H) : kV G (b ++ (a ++ c)) H := kV_wc h (fun e => by simp only [wc_app]; omega)
set_option maxHeartbeats 4000000 in
set_option maxRecDepth 100000 in
theorem c_L_begin (l : Launch) (G : kG) (S : kS) (y : kY) (ol : Nat) (g : Nat → Int64) (wr : va_W) (x0 : Int32) (x1 : Int32) (x2 : Int32) (hI : kInv S) (hY : yI G S y) : Met l yL_begin wsL_begin ({ frames := 9, cells := 16, slots := 1760, locals := 238 } : Room) (kPc G [.ref (yH y 0), .int (x0), .int (x1), .int (x2), .ref (ol)] (siteW G S y ++ ([(ol, .inl (kcL G, 1, .inr (.inl g)))] ++ wr))) (kQi G (S := kY × (Nat → Int64)) (fun z u => z = nI (opBegin S x0 x1 x2).1 ∧ yI G (opBegin S x0 x1 x2).2.2 u.1 ∧ yH u.1 0 = yH y 0 ∧ ((opBegin S x0 x1 x2).1 = 0 → u.2 0 = (opBegin S x0 x1 x2).2.1.toInt64)) (fun u => siteW G (opBegin S x0 x1 x2).2.2 u.1 ++ ([(ol, .inl (kcL G, 1, .inr (.inl u.2)))] ++ wr))) 16 1760 (kA G) := by
  refine va_MetW (cc := cL_begin) (maxL := 6) (ret := (some .int)) (by decide) rfl ?_
  intro pp ee s m args below meth cc0 s₁ Bd0 hml hv
  obtain ⟨rfl, hE, hV⟩ := hv
  have hK := hE.1
  have hx := Bd0.exec
  have hb := Bd0.bytes
  have hrt := Bd0.returns
  have hts := atoms_spec (ws := wsL_begin) Bd0.pre
  have hown : s.vm.findClass RL = some m.cls := findClass_of_methodNamed Bd0.named
  have hlocks := Bd0.notSynchronized
  have htab := vx_table Bd0 (hts (Cond.codeWith yL_begin cL_begin 6 (some .int) [(0, 12, 15, 13), (0, 12, 19, 15), (0, 12, 23, 17)]) (List.mem_of_getElem? (i := 0) rfl))
  have hF : CallFix pp m cc0 cL_begin 6 s _ wsL_begin RL := ⟨hx, hb, hml, hown, hts⟩
  have hS : va_S (kA G) s.heap s.heap [] := va_S.rf
  have hB0 := hE.2.1
  have hl := lv_entry ([.ref (yH y 0), .int (x0), .int (x1), .int (x2), .ref (ol)]) (n := 6) (Nat.le_of_ble_eq_true rfl)
  rw [lg_entry_eq]
  generalize (lg_sl ([.ref (yH y 0), .int (x0), .int (x1), .int (x2), .ref (ol)]) ++ List.replicate (6 - (lg_sl ([.ref (yH y 0), .int (x0), .int (x1), .int (x2), .ref (ol)])).length) Slot.unset).toArray = ls at hl ⊢
  have hl : lv_has ls 6 [(0, .ref (yH y 0)), (1, .int (x0)), (2, .int (x1)), (3, .int (x2)), (4, .ref (ol))] := hl
  refine lv_aload hx hb dL_begin_0 (lv_at hl 4 rfl) ?_
  refine lv_iconst (v := nI 0) hx hb dL_begin_2 (by decide) ?_
  refine lv_aload_n hx hb dL_begin_3 rfl (lv_at hl 0 rfl) ?_
  refine lv_iload_n hx hb dL_begin_4 rfl (lv_at hl 1 rfl) ?_
  refine lv_iload_n hx hb dL_begin_5 rfl (lv_at hl 2 rfl) ?_
  refine lv_iload_n hx hb dL_begin_6 rfl (lv_at hl 3 rfl) ?_
  refine kx_i (vx_runV (As := [.int (x0), .int (x1), .int (x2)]) (rest := [.int (nI (0)), .ref (ol)]) hF (c_X5_begin l hlt G S y ([(ol, .inl (kcL G, 1, .inr (.inl g)))] ++ wr) x0 x1 x2 hI hY) (cwV 3 hts gL_begin_X5_begin rfl rfl rfl (by decide +kernel) ⟨Nat.le_of_ble_eq_true rfl, Nat.le_of_ble_eq_true rfl⟩) (kPreV hE hS hV 0 rfl rfl) rfl rfl hl.1 rfl (lv_room (Nat.le_of_ble_eq_true rfl)) dL_begin_7 ⟨Nat.le_of_ble_eq_true rfl, Nat.le_of_ble_eq_true rfl⟩) hS (fun E ce q9 H locs hxc hV hS hq1 hq2 hq3 => ?_) (fun r_3 u_2 H locs hp_1 hV hS => ?_)
  · rcases hxc with ⟨rfl, he9⟩ | ⟨rfl, he9⟩ | ⟨rfl, he9⟩
    · have hop9 : (opBegin S x0 x1 x2).2.2 = S := by
        have he8 : (opBegin S x0 x1 x2).1 ≠ 0 := by omega
        revert he8
        unfold opBegin kif
        (repeat' split) <;> first | exact fun _ => rfl | exact fun z => absurd rfl z
      refine vx_catch (name := "java/lang/IndexOutOfBoundsException") hown [] ⟨0, 12, 15, 13⟩ [⟨0, 12, 19, 15⟩, ⟨0, 12, 23, 17⟩] htab (fun z h => (List.not_mem_nil h).elim) (by decide) (by decide) (hts (Cond.classLink RL 13 "java/lang/IndexOutOfBoundsException") (List.mem_of_getElem? (i := 1) rfl)) ((hE.2.2.1 (.castable kIOB kIOB) (by decide +kernel)).use rfl) hq1 hq2 hq3 ?_
      refine lv_astore (lv' := [(5, .ref (q9)), (0, .ref (yH y 0)), (1, .int (x0)), (2, .int (x1)), (3, .int (x2)), (4, .ref (ol))]) hx hb dL_begin_15 hl (by decide) rfl (fun ls hl => ?_)
      refine lv_iconst (v := nI 1) hx hb dL_begin_17 (by decide) ?_
      exact W.iret (v := nI 1) hx hb hrt (fun t ht hW => ⟨⟨_, (y, g), rfl, ⟨by rw [he9], by rw [hop9]; exact hY, rfl, fun z => absurd z (by omega)⟩, kV_eq ht (show kV G (siteW G (opBegin S x0 x1 x2).2.2 y ++ ([(ol, .inl (kcL G, 1, .inr (.inl g)))] ++ wr)) _ by rw [hop9]; exact hV)⟩, hS.F ht⟩) hS.2.2 dL_begin_18
    · have hop9 : (opBegin S x0 x1 x2).2.2 = S := by
        have he8 : (opBegin S x0 x1 x2).1 ≠ 0 := by omega
        revert he8
        unfold opBegin kif
        (repeat' split) <;> first | exact fun _ => rfl | exact fun z => absurd rfl z
      refine vx_catch (name := "java/lang/IllegalArgumentException") hown [⟨0, 12, 15, 13⟩] ⟨0, 12, 19, 15⟩ [⟨0, 12, 23, 17⟩] htab (fun z h => by
          rcases List.mem_cons.mp h with h | h
          · subst h; exact Or.inr ⟨by decide, _, (hts (Cond.classLink RL 13 "java/lang/IndexOutOfBoundsException") (List.mem_of_getElem? (i := 1) rfl)), hE.2.2.2.1 (kIAE, kIOB) (by decide +kernel)⟩
          · exact (List.not_mem_nil h).elim) (by decide) (by decide) (hts (Cond.classLink RL 15 "java/lang/IllegalArgumentException") (List.mem_of_getElem? (i := 2) rfl)) ((hE.2.2.1 (.castable kIAE kIAE) (by decide +kernel)).use rfl) hq1 hq2 hq3 ?_
      refine lv_astore (lv' := [(5, .ref (q9)), (0, .ref (yH y 0)), (1, .int (x0)), (2, .int (x1)), (3, .int (x2)), (4, .ref (ol))]) hx hb dL_begin_19 hl (by decide) rfl (fun ls hl => ?_)
      refine lv_iconst (v := nI 2) hx hb dL_begin_21 (by decide) ?_
      exact W.iret (v := nI 2) hx hb hrt (fun t ht hW => ⟨⟨_, (y, g), rfl, ⟨by rw [he9], by rw [hop9]; exact hY, rfl, fun z => absurd z (by omega)⟩, kV_eq ht (show kV G (siteW G (opBegin S x0 x1 x2).2.2 y ++ ([(ol, .inl (kcL G, 1, .inr (.inl g)))] ++ wr)) _ by rw [hop9]; exact hV)⟩, hS.F ht⟩) hS.2.2 dL_begin_22
    · have hop9 : (opBegin S x0 x1 x2).2.2 = S := by
        have he8 : (opBegin S x0 x1 x2).1 ≠ 0 := by omega
        revert he8
        unfold opBegin kif
        (repeat' split) <;> first | exact fun _ => rfl | exact fun z => absurd rfl z
      refine vx_catch (name := "java/lang/IllegalStateException") hown [⟨0, 12, 15, 13⟩, ⟨0, 12, 19, 15⟩] ⟨0, 12, 23, 17⟩ [] htab (fun z h => by
          rcases List.mem_cons.mp h with h | h
          · subst h; exact Or.inr ⟨by decide, _, (hts (Cond.classLink RL 13 "java/lang/IndexOutOfBoundsException") (List.mem_of_getElem? (i := 1) rfl)), hE.2.2.2.1 (kISE, kIOB) (by decide +kernel)⟩
          · rcases List.mem_cons.mp h with h | h
            · subst h; exact Or.inr ⟨by decide, _, (hts (Cond.classLink RL 15 "java/lang/IllegalArgumentException") (List.mem_of_getElem? (i := 2) rfl)), hE.2.2.2.1 (kISE, kIAE) (by decide +kernel)⟩
            · exact (List.not_mem_nil h).elim) (by decide) (by decide) (hts (Cond.classLink RL 17 "java/lang/IllegalStateException") (List.mem_of_getElem? (i := 3) rfl)) ((hE.2.2.1 (.castable kISE kISE) (by decide +kernel)).use rfl) hq1 hq2 hq3 ?_
      refine lv_astore (lv' := [(5, .ref (q9)), (0, .ref (yH y 0)), (1, .int (x0)), (2, .int (x1)), (3, .int (x2)), (4, .ref (ol))]) hx hb dL_begin_23 hl (by decide) rfl (fun ls hl => ?_)
      refine lv_iconst (v := nI 3) hx hb dL_begin_25 (by decide) ?_
      exact W.iret (v := nI 3) hx hb hrt (fun t ht hW => ⟨⟨_, (y, g), rfl, ⟨by rw [he9], by rw [hop9]; exact hY, rfl, fun z => absurd z (by omega)⟩, kV_eq ht (show kV G (siteW G (opBegin S x0 x1 x2).2.2 y ++ ([(ol, .inl (kcL G, 1, .inr (.inl g)))] ++ wr)) _ by rw [hop9]; exact hV)⟩, hS.F ht⟩) hS.2.2 dL_begin_26
  · obtain ⟨hp_10, hp_11, hp_12, hp_13⟩ := hp_1
    subst hp_11
    have hV : kV G (siteW G ((opBegin S x0 x1 x2).2.2) u_2 ++ ([(ol, .inl (kcL G, 1, .inr (.inl g)))] ++ wr)) _ := hV
    refine lv_i2l (v := (((opBegin S x0 x1 x2).2.1)).toInt64) hx hb dL_begin_10 rfl ?_
    have hV := kV_mid (show kV G (siteW G (opBegin S x0 x1 x2).2.2 u_2 ++ ([(ol, .inl (kcL G, 1, .inr (.inl g)))] ++ wr)) _ from hV)
    refine va_last hx hb hK hV.1 hV.2 hS 0 3 rfl rfl (by decide) dL_begin_11 (fun H locs hP hD hS => ?_)
    have hV : kV G (siteW G (opBegin S x0 x1 x2).2.2 u_2 ++ ([(ol, .inl (kcL G, 1, .inr (.inl (vp_updL g 0 (((opBegin S x0 x1 x2).2.1)).toInt64))))] ++ wr)) _ := kV_mid (show kV G ([(ol, .inl (kcL G, 1, .inr (.inl (vp_updL g 0 (((opBegin S x0 x1 x2).2.1)).toInt64))))] ++ (siteW G (opBegin S x0 x1 x2).2.2 u_2 ++ wr)) _ from ⟨hP, hD⟩)
    refine lv_goto (tgt := 27) hx hb dL_begin_12 (by decide) ?_
    refine lv_iconst (v := nI 0) hx hb dL_begin_27 (by decide) ?_
    exact W.iret (v := nI 0) hx hb hrt (fun t ht hW => ⟨⟨_, (u_2, vp_updL g 0 (((opBegin S x0 x1 x2).2.1)).toInt64), rfl, ⟨by rw [hp_10], hp_12, hp_13, fun _ => rfl⟩, kV_eq ht hV⟩, hS.F ht⟩) hS.2.2 dL_begin_28
set_option maxHeartbeats 4000000 in
set_option maxRecDepth 100000 in
theorem c_L_rows (l : Launch) (G : kG) (S : kS) (y : kY) (ol : Nat) (g : Nat → Int64) (wr : va_W) (x0 : Int32) (hI : kInv S) (hY : yI G S y) : Met l yL_rows wsL_rows ({ frames := 8, cells := 1, slots := 6, locals := 132 } : Room) (kPc G [.ref (yH y 0), .int (x0), .ref (ol)] (siteW G S y ++ ([(ol, .inl (kcL G, 1, .inr (.inl g)))] ++ wr))) (kQi G (S := kY × (Nat → Int64)) (fun z u => z = nI (opRows S x0).1 ∧ yI G (opRows S x0).2.2 u.1 ∧ yH u.1 0 = yH y 0 ∧ ((opRows S x0).1 = 0 → u.2 0 = (opRows S x0).2.1.toInt64)) (fun u => siteW G (opRows S x0).2.2 u.1 ++ ([(ol, .inl (kcL G, 1, .inr (.inl u.2)))] ++ wr))) 1 6 (kA G) := by
  refine va_MetW (cc := cL_rows) (maxL := 4) (ret := (some .int)) (by decide) rfl ?_
  intro pp ee s m args below meth cc0 s₁ Bd0 hml hv
  obtain ⟨rfl, hE, hV⟩ := hv
  have hK := hE.1
  have hx := Bd0.exec
  have hb := Bd0.bytes
  have hrt := Bd0.returns
  have hts := atoms_spec (ws := wsL_rows) Bd0.pre
  have hown : s.vm.findClass RL = some m.cls := findClass_of_methodNamed Bd0.named
  have hlocks := Bd0.notSynchronized
  have htab := vx_table Bd0 (hts (Cond.codeWith yL_rows cL_rows 4 (some .int) [(0, 9, 12, 13)]) (List.mem_of_getElem? (i := 0) rfl))
  have hF : CallFix pp m cc0 cL_rows 4 s _ wsL_rows RL := ⟨hx, hb, hml, hown, hts⟩
  have hS : va_S (kA G) s.heap s.heap [] := va_S.rf
  have hB0 := hE.2.1
  have hl := lv_entry ([.ref (yH y 0), .int (x0), .ref (ol)]) (n := 4) (Nat.le_of_ble_eq_true rfl)
  rw [lg_entry_eq]
  generalize (lg_sl ([.ref (yH y 0), .int (x0), .ref (ol)]) ++ List.replicate (4 - (lg_sl ([.ref (yH y 0), .int (x0), .ref (ol)])).length) Slot.unset).toArray = ls at hl ⊢
  have hl : lv_has ls 4 [(0, .ref (yH y 0)), (1, .int (x0)), (2, .ref (ol))] := hl
  refine lv_aload_n hx hb dL_rows_0 rfl (lv_at hl 2 rfl) ?_
  refine lv_iconst (v := nI 0) hx hb dL_rows_1 (by decide) ?_
  refine lv_aload_n hx hb dL_rows_2 rfl (lv_at hl 0 rfl) ?_
  refine lv_iload_n hx hb dL_rows_3 rfl (lv_at hl 1 rfl) ?_
  refine kx_i (vx_runV (As := [.int (x0)]) (rest := [.int (nI (0)), .ref (ol)]) hF (c_X5_rows l hlt G S y ([(ol, .inl (kcL G, 1, .inr (.inl g)))] ++ wr) x0 hI hY) (cwV 1 hts gL_rows_X5_rows rfl rfl rfl (by decide +kernel) ⟨Nat.le_of_ble_eq_true rfl, Nat.le_of_ble_eq_true rfl⟩) (kPreV hE hS hV 0 rfl rfl) rfl rfl hl.1 rfl (lv_room (Nat.le_of_ble_eq_true rfl)) dL_rows_4 ⟨Nat.le_of_ble_eq_true rfl, Nat.le_of_ble_eq_true rfl⟩) hS (fun E ce q9 H locs hxc hV hS hq1 hq2 hq3 => ?_) (fun r_3 u_2 H locs hp_1 hV hS => ?_)
  · obtain ⟨rfl, he9⟩ := hxc
    have hop9 : (opRows S x0).2.2 = S := by
      have he8 : (opRows S x0).1 ≠ 0 := by omega
      revert he8
      unfold opRows kif
      (repeat' split) <;> first | exact fun _ => rfl | exact fun z => absurd rfl z
    refine vx_catch (name := "java/lang/IndexOutOfBoundsException") hown [] ⟨0, 9, 12, 13⟩ [] htab (fun z h => (List.not_mem_nil h).elim) (by decide) (by decide) (hts (Cond.classLink RL 13 "java/lang/IndexOutOfBoundsException") (List.mem_of_getElem? (i := 1) rfl)) ((hE.2.2.1 (.castable kIOB kIOB) (by decide +kernel)).use rfl) hq1 hq2 hq3 ?_
    refine lv_astore_n (lv' := [(3, .ref (q9)), (0, .ref (yH y 0)), (1, .int (x0)), (2, .ref (ol))]) hx hb dL_rows_12 rfl hl (by decide) rfl (fun ls hl => ?_)
    refine lv_iconst (v := nI 1) hx hb dL_rows_13 (by decide) ?_
    exact W.iret (v := nI 1) hx hb hrt (fun t ht hW => ⟨⟨_, (y, g), rfl, ⟨by rw [he9], by rw [hop9]; exact hY, rfl, fun z => absurd z (by omega)⟩, kV_eq ht (show kV G (siteW G (opRows S x0).2.2 y ++ ([(ol, .inl (kcL G, 1, .inr (.inl g)))] ++ wr)) _ by rw [hop9]; exact hV)⟩, hS.F ht⟩) hS.2.2 dL_rows_14
  · obtain ⟨hp_10, hp_11, hp_12, hp_13⟩ := hp_1
    subst hp_11
    have hV : kV G (siteW G ((opRows S x0).2.2) u_2 ++ ([(ol, .inl (kcL G, 1, .inr (.inl g)))] ++ wr)) _ := hV
    refine lv_i2l (v := (((opRows S x0).2.1)).toInt64) hx hb dL_rows_7 rfl ?_
    have hV := kV_mid (show kV G (siteW G (opRows S x0).2.2 u_2 ++ ([(ol, .inl (kcL G, 1, .inr (.inl g)))] ++ wr)) _ from hV)
    refine va_last hx hb hK hV.1 hV.2 hS 0 3 rfl rfl (by decide) dL_rows_8 (fun H locs hP hD hS => ?_)
    have hV : kV G (siteW G (opRows S x0).2.2 u_2 ++ ([(ol, .inl (kcL G, 1, .inr (.inl (vp_updL g 0 (((opRows S x0).2.1)).toInt64))))] ++ wr)) _ := kV_mid (show kV G ([(ol, .inl (kcL G, 1, .inr (.inl (vp_updL g 0 (((opRows S x0).2.1)).toInt64))))] ++ (siteW G (opRows S x0).2.2 u_2 ++ wr)) _ from ⟨hP, hD⟩)
    refine lv_goto (tgt := 15) hx hb dL_rows_9 (by decide) ?_
    refine lv_iconst (v := nI 0) hx hb dL_rows_15 (by decide) ?_
    exact W.iret (v := nI 0) hx hb hrt (fun t ht hW => ⟨⟨_, (u_2, vp_updL g 0 (((opRows S x0).2.1)).toInt64), rfl, ⟨by rw [hp_10], hp_12, hp_13, fun _ => rfl⟩, kV_eq ht hV⟩, hS.F ht⟩) hS.2.2 dL_rows_16
