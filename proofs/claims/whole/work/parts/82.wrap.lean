theorem kV_mid {G : kG} {a b c : va_W} {H : Heap} (h : kV G (a ++ (b ++ c)) H) : kV G (b ++ (a ++ c)) H := kV_wc h (fun e => by simp only [wc_app]; omega)
set_option maxHeartbeats 4000000 in
set_option maxRecDepth 100000 in
theorem c_L_begin (l : Launch) (G : kG) (S : kS) (y : kY) (ol : Nat) (g : Nat → Int64) (wr : va_W) (x0 : Int32) (x1 : Int32) (x2 : Int32) (hlt : l.stackTraces = false) (hI : kInv S) (hY : yI G S y) : Met l yL_begin wsL_begin ({ frames := 9, cells := 16, slots := 1760, locals := 238 } : Room) (kPc G [.ref (yH y 0), .int (x0), .int (x1), .int (x2), .ref (ol)] (siteW G S y ++ ([(ol, .inl (kcL G, 1, .inr (.inl g)))] ++ wr))) (kQi G (S := kY × (Nat → Int64)) (fun z u => z = nI (opBegin S x0 x1 x2).1 ∧ yI G (opBegin S x0 x1 x2).2.2 u.1 ∧ yH u.1 0 = yH y 0 ∧ ((opBegin S x0 x1 x2).1 = 0 → u.2 0 = (opBegin S x0 x1 x2).2.1.toInt64)) (fun u => siteW G (opBegin S x0 x1 x2).2.2 u.1 ++ ([(ol, .inl (kcL G, 1, .inr (.inl u.2)))] ++ wr))) 16 1760 (kA G) := by
  refine va_MetW (cc := cL_begin) (maxL := 6) (ret := (some .int)) (by decide) rfl ?_
  intro pp ee s m args below meth cc0 s₁ Bd0 hml hv
  obtain ⟨rfl, hE, hV⟩ := hv
  have hK := hE.1
  have hx := Bd0.exec
  have hb := Bd0.bytes
  have hrt := Bd0.returns
  have hts := atoms_spec (ws := wsL_begin) Bd0.pre
  have hown : s.vm.findClass RL = some m.cls := findClass_of_methodNamed Bd0.named
  have hlocks := Bd0.notSynchronized
  have htab := vx_table (x := yL_begin) Bd0 (hts (Cond.codeWith yL_begin cL_begin 6 (some .int) [(0, 12, 15, 13), (0, 12, 19, 15), (0, 12, 23, 17)]) (List.mem_of_getElem? (i := 0) rfl))
  have hF : CallFix pp m cc0 cL_begin 6 s _ wsL_begin RL := ⟨hx, hb, hml, hown, hts⟩
  have hS : va_S (kA G) s.heap s.heap [] := va_S.rf
  have hB0 := hE.2.1
  have hl := lv_entry ([.ref (yH y 0), .int (x0), .int (x1), .int (x2), .ref (ol)]) (n := 6) (Nat.le_of_ble_eq_true rfl)
  rw [lg_entry_eq]
  generalize (lg_sl ([.ref (yH y 0), .int (x0), .int (x1), .int (x2), .ref (ol)]) ++ List.replicate (6 - (lg_sl ([.ref (yH y 0), .int (x0), .int (x1), .int (x2), .ref (ol)])).length) Slot.unset).toArray = ls at hl ⊢
  have hl : lv_has ls 6 [(0, .ref (yH y 0)), (1, .int (x0)), (2, .int (x1)), (3, .int (x2)), (4, .ref (ol))] := hl
  refine lv_aload hx hb dL_begin_0 (lv_at hl 4 rfl) ?_
  refine lv_iconst (v := nI 0) hx hb dL_begin_2 (by decide) ?_
  refine lv_aload_n hx hb dL_begin_3 rfl (lv_at hl 0 rfl) ?_
  refine lv_iload_n hx hb dL_begin_4 rfl (lv_at hl 1 rfl) ?_
  refine lv_iload_n hx hb dL_begin_5 rfl (lv_at hl 2 rfl) ?_
  refine lv_iload_n hx hb dL_begin_6 rfl (lv_at hl 3 rfl) ?_
  refine kx_i (vx_runV (As := [.int (x0), .int (x1), .int (x2)]) (rest := [.int (nI (0)), .ref (ol)]) hF (c_X5_begin l hlt G S y ([(ol, .inl (kcL G, 1, .inr (.inl g)))] ++ wr) x0 x1 x2 hI hY) (cwV 3 hts gL_begin_X5_begin rfl rfl rfl (by decide +kernel) ⟨Nat.le_of_ble_eq_true rfl, Nat.le_of_ble_eq_true rfl⟩) (kPreV hE hS hV 0 rfl rfl) rfl rfl hl.1 rfl (lv_room (Nat.le_of_ble_eq_true rfl)) dL_begin_7 ⟨Nat.le_of_ble_eq_true rfl, Nat.le_of_ble_eq_true rfl⟩) hS (fun E ce q9 H locs hxc hV hS hq1 hq2 hq3 => ?_) (fun r_3 u_2 H locs hp_1 hV hS => ?_)
  · rcases hxc with ⟨rfl, he9⟩ | ⟨rfl, he9⟩ | ⟨rfl, he9⟩
    · have hop9 : (opBegin S x0 x1 x2).2.2 = S := by
        have he8 : (opBegin S x0 x1 x2).1 ≠ 0 := by omega
        revert he8
        unfold opBegin kif
        (repeat' split) <;> first | exact fun _ => rfl | exact fun z => absurd rfl z
      refine vx_catch (name := "java/lang/IndexOutOfBoundsException") hown [] ⟨0, 12, 15, 13⟩ [⟨0, 12, 19, 15⟩, ⟨0, 12, 23, 17⟩] htab (fun z h => (List.not_mem_nil h).elim) (by decide) (by decide) (hts (Cond.classLink RL 13 "java/lang/IndexOutOfBoundsException") (List.mem_of_getElem? (i := 1) rfl)) ((hE.2.2.1 (.castable kIOB kIOB) (by decide +kernel)).use rfl) hq1 hq2 hq3 ?_
      refine lv_astore (lv' := [(5, .ref (q9)), (0, .ref (yH y 0)), (1, .int (x0)), (2, .int (x1)), (3, .int (x2)), (4, .ref (ol))]) hx hb dL_begin_15 hl (by decide) rfl (fun ls hl => ?_)
      refine lv_iconst (v := nI 1) hx hb dL_begin_17 (by decide) ?_
      exact W.iret (v := nI 1) hx hb hrt (fun t ht hW => ⟨⟨_, (y, g), rfl, ⟨by rw [he9], by rw [hop9]; exact hY, rfl, fun z => absurd z (by omega)⟩, kV_eq ht (show kV G (siteW G (opBegin S x0 x1 x2).2.2 y ++ ([(ol, .inl (kcL G, 1, .inr (.inl g)))] ++ wr)) _ by rw [hop9]; exact hV)⟩, hS.F ht⟩) hS.2.2 dL_begin_18
    · have hop9 : (opBegin S x0 x1 x2).2.2 = S := by
        have he8 : (opBegin S x0 x1 x2).1 ≠ 0 := by omega
        revert he8
        unfold opBegin kif
        (repeat' split) <;> first | exact fun _ => rfl | exact fun z => absurd rfl z
      refine vx_catch (name := "java/lang/IllegalArgumentException") hown [⟨0, 12, 15, 13⟩] ⟨0, 12, 19, 15⟩ [⟨0, 12, 23, 17⟩] htab (fun z h => by
          rcases List.mem_cons.mp h with h | h
          · subst h; exact Or.inr ⟨by decide, _, (hts (Cond.classLink RL 13 "java/lang/IndexOutOfBoundsException") (List.mem_of_getElem? (i := 1) rfl)), hE.2.2.2.1 (kIAE, kIOB) (by decide +kernel)⟩
          · exact (List.not_mem_nil h).elim) (by decide) (by decide) (hts (Cond.classLink RL 15 "java/lang/IllegalArgumentException") (List.mem_of_getElem? (i := 2) rfl)) ((hE.2.2.1 (.castable kIAE kIAE) (by decide +kernel)).use rfl) hq1 hq2 hq3 ?_
      refine lv_astore (lv' := [(5, .ref (q9)), (0, .ref (yH y 0)), (1, .int (x0)), (2, .int (x1)), (3, .int (x2)), (4, .ref (ol))]) hx hb dL_begin_19 hl (by decide) rfl (fun ls hl => ?_)
      refine lv_iconst (v := nI 2) hx hb dL_begin_21 (by decide) ?_
      exact W.iret (v := nI 2) hx hb hrt (fun t ht hW => ⟨⟨_, (y, g), rfl, ⟨by rw [he9], by rw [hop9]; exact hY, rfl, fun z => absurd z (by omega)⟩, kV_eq ht (show kV G (siteW G (opBegin S x0 x1 x2).2.2 y ++ ([(ol, .inl (kcL G, 1, .inr (.inl g)))] ++ wr)) _ by rw [hop9]; exact hV)⟩, hS.F ht⟩) hS.2.2 dL_begin_22
    · have hop9 : (opBegin S x0 x1 x2).2.2 = S := by
        have he8 : (opBegin S x0 x1 x2).1 ≠ 0 := by omega
        revert he8
        unfold opBegin kif
        (repeat' split) <;> first | exact fun _ => rfl | exact fun z => absurd rfl z
      refine vx_catch (name := "java/lang/IllegalStateException") hown [⟨0, 12, 15, 13⟩, ⟨0, 12, 19, 15⟩] ⟨0, 12, 23, 17⟩ [] htab (fun z h => by
          rcases List.mem_cons.mp h with h | h
          · subst h; exact Or.inr ⟨by decide, _, (hts (Cond.classLink RL 13 "java/lang/IndexOutOfBoundsException") (List.mem_of_getElem? (i := 1) rfl)), hE.2.2.2.1 (kISE, kIOB) (by decide +kernel)⟩
          · rcases List.mem_cons.mp h with h | h
            · subst h; exact Or.inr ⟨by decide, _, (hts (Cond.classLink RL 15 "java/lang/IllegalArgumentException") (List.mem_of_getElem? (i := 2) rfl)), hE.2.2.2.1 (kISE, kIAE) (by decide +kernel)⟩
            · exact (List.not_mem_nil h).elim) (by decide) (by decide) (hts (Cond.classLink RL 17 "java/lang/IllegalStateException") (List.mem_of_getElem? (i := 3) rfl)) ((hE.2.2.1 (.castable kISE kISE) (by decide +kernel)).use rfl) hq1 hq2 hq3 ?_
      refine lv_astore (lv' := [(5, .ref (q9)), (0, .ref (yH y 0)), (1, .int (x0)), (2, .int (x1)), (3, .int (x2)), (4, .ref (ol))]) hx hb dL_begin_23 hl (by decide) rfl (fun ls hl => ?_)
      refine lv_iconst (v := nI 3) hx hb dL_begin_25 (by decide) ?_
      exact W.iret (v := nI 3) hx hb hrt (fun t ht hW => ⟨⟨_, (y, g), rfl, ⟨by rw [he9], by rw [hop9]; exact hY, rfl, fun z => absurd z (by omega)⟩, kV_eq ht (show kV G (siteW G (opBegin S x0 x1 x2).2.2 y ++ ([(ol, .inl (kcL G, 1, .inr (.inl g)))] ++ wr)) _ by rw [hop9]; exact hV)⟩, hS.F ht⟩) hS.2.2 dL_begin_26
  · obtain ⟨hp_10, hp_11, hp_12, hp_13⟩ := hp_1
    subst hp_11
    have hV : kV G (siteW G ((opBegin S x0 x1 x2).2.2) u_2 ++ ([(ol, .inl (kcL G, 1, .inr (.inl g)))] ++ wr)) _ := hV
    refine lv_i2l (v := (((opBegin S x0 x1 x2).2.1)).toInt64) hx hb dL_begin_10 rfl ?_
    have hV := kV_mid (show kV G (siteW G (opBegin S x0 x1 x2).2.2 u_2 ++ ([(ol, .inl (kcL G, 1, .inr (.inl g)))] ++ wr)) _ from hV)
    refine va_last hx hb hK hV.1 hV.2 hS 0 3 rfl rfl (vp_in_nI (by decide) (by decide)) dL_begin_11 (fun H locs hP hD hS => ?_)
    have hV : kV G (siteW G (opBegin S x0 x1 x2).2.2 u_2 ++ ([(ol, .inl (kcL G, 1, .inr (.inl (vp_updL g 0 (((opBegin S x0 x1 x2).2.1)).toInt64))))] ++ wr)) _ := kV_mid (show kV G ([(ol, .inl (kcL G, 1, .inr (.inl (vp_updL g 0 (((opBegin S x0 x1 x2).2.1)).toInt64))))] ++ (siteW G (opBegin S x0 x1 x2).2.2 u_2 ++ wr)) _ from ⟨hP, hD⟩)
    refine lv_goto (tgt := 27) hx hb dL_begin_12 (by decide) ?_
    refine lv_iconst (v := nI 0) hx hb dL_begin_27 (by decide) ?_
    exact W.iret (v := nI 0) hx hb hrt (fun t ht hW => ⟨⟨_, (u_2, vp_updL g 0 (((opBegin S x0 x1 x2).2.1)).toInt64), rfl, ⟨by rw [hp_10], hp_12, hp_13, fun _ => rfl⟩, kV_eq ht hV⟩, hS.F ht⟩) hS.2.2 dL_begin_28
set_option maxHeartbeats 4000000 in
set_option maxRecDepth 100000 in
theorem c_L_line (l : Launch) (G : kG) (S : kS) (y : kY) (ol : Nat) (g : Nat → Int64) (wr : va_W) (x0 : Int32) (x1 : Int32) (x2 : Int32) (x3 : Int32) (x4 : Int32) (hlt : l.stackTraces = false) (hI : kInv S) (hY : yI G S y) : Met l yL_line wsL_line ({ frames := 8, cells := 6, slots := 36, locals := 139 } : Room) (kPc G [.ref (yH y 0), .int (x0), .int (x1), .int (x2), .int (x3), .int (x4), .ref (ol)] (siteW G S y ++ ([(ol, .inl (kcL G, 1, .inr (.inl g)))] ++ wr))) (kQi G (S := kY × (Nat → Int64)) (fun z u => z = nI (opLine S x0 x1 x2 x3 x4).1 ∧ yI G (opLine S x0 x1 x2 x3 x4).2.2 u.1 ∧ yH u.1 0 = yH y 0 ∧ ((opLine S x0 x1 x2 x3 x4).1 = 0 → u.2 0 = (opLine S x0 x1 x2 x3 x4).2.1.toInt64)) (fun u => siteW G (opLine S x0 x1 x2 x3 x4).2.2 u.1 ++ ([(ol, .inl (kcL G, 1, .inr (.inl u.2)))] ++ wr))) 6 36 (kA G) := by
  refine va_MetW (cc := cL_line) (maxL := 8) (ret := (some .int)) (by decide) rfl ?_
  intro pp ee s m args below meth cc0 s₁ Bd0 hml hv
  obtain ⟨rfl, hE, hV⟩ := hv
  have hK := hE.1
  have hx := Bd0.exec
  have hb := Bd0.bytes
  have hrt := Bd0.returns
  have hts := atoms_spec (ws := wsL_line) Bd0.pre
  have hown : s.vm.findClass RL = some m.cls := findClass_of_methodNamed Bd0.named
  have hlocks := Bd0.notSynchronized
  have htab := vx_table (x := yL_line) Bd0 (hts (Cond.codeWith yL_line cL_line 8 (some .int) [(0, 16, 19, 13), (0, 16, 23, 15), (0, 16, 27, 17)]) (List.mem_of_getElem? (i := 0) rfl))
  have hF : CallFix pp m cc0 cL_line 8 s _ wsL_line RL := ⟨hx, hb, hml, hown, hts⟩
  have hS : va_S (kA G) s.heap s.heap [] := va_S.rf
  have hB0 := hE.2.1
  have hl := lv_entry ([.ref (yH y 0), .int (x0), .int (x1), .int (x2), .int (x3), .int (x4), .ref (ol)]) (n := 8) (Nat.le_of_ble_eq_true rfl)
  rw [lg_entry_eq]
  generalize (lg_sl ([.ref (yH y 0), .int (x0), .int (x1), .int (x2), .int (x3), .int (x4), .ref (ol)]) ++ List.replicate (8 - (lg_sl ([.ref (yH y 0), .int (x0), .int (x1), .int (x2), .int (x3), .int (x4), .ref (ol)])).length) Slot.unset).toArray = ls at hl ⊢
  have hl : lv_has ls 8 [(0, .ref (yH y 0)), (1, .int (x0)), (2, .int (x1)), (3, .int (x2)), (4, .int (x3)), (5, .int (x4)), (6, .ref (ol))] := hl
  refine lv_aload hx hb dL_line_0 (lv_at hl 6 rfl) ?_
  refine lv_iconst (v := nI 0) hx hb dL_line_2 (by decide) ?_
  refine lv_aload_n hx hb dL_line_3 rfl (lv_at hl 0 rfl) ?_
  refine lv_iload_n hx hb dL_line_4 rfl (lv_at hl 1 rfl) ?_
  refine lv_iload_n hx hb dL_line_5 rfl (lv_at hl 2 rfl) ?_
  refine lv_iload_n hx hb dL_line_6 rfl (lv_at hl 3 rfl) ?_
  refine lv_iload hx hb dL_line_7 (lv_at hl 4 rfl) ?_
  refine lv_iload hx hb dL_line_9 (lv_at hl 5 rfl) ?_
  refine kx_i (vx_runV (As := [.int (x0), .int (x1), .int (x2), .int (x3), .int (x4)]) (rest := [.int (nI (0)), .ref (ol)]) hF (c_X5_line l hlt G S y ([(ol, .inl (kcL G, 1, .inr (.inl g)))] ++ wr) x0 x1 x2 x3 x4 hI hY) (cwV 5 hts gL_line_X5_line rfl rfl rfl (by decide +kernel) ⟨Nat.le_of_ble_eq_true rfl, Nat.le_of_ble_eq_true rfl⟩) (kPreV hE hS hV 0 rfl rfl) rfl rfl hl.1 rfl (lv_room (Nat.le_of_ble_eq_true rfl)) dL_line_11 ⟨Nat.le_of_ble_eq_true rfl, Nat.le_of_ble_eq_true rfl⟩) hS (fun E ce q9 H locs hxc hV hS hq1 hq2 hq3 => ?_) (fun r_3 u_2 H locs hp_1 hV hS => ?_)
  · rcases hxc with ⟨rfl, he9⟩ | ⟨rfl, he9⟩ | ⟨rfl, he9⟩
    · have hop9 : (opLine S x0 x1 x2 x3 x4).2.2 = S := by
        have he8 : (opLine S x0 x1 x2 x3 x4).1 ≠ 0 := by omega
        revert he8
        unfold opLine kif
        (repeat' split) <;> first | exact fun _ => rfl | exact fun z => absurd rfl z
      refine vx_catch (name := "java/lang/IndexOutOfBoundsException") hown [] ⟨0, 16, 19, 13⟩ [⟨0, 16, 23, 15⟩, ⟨0, 16, 27, 17⟩] htab (fun z h => (List.not_mem_nil h).elim) (by decide) (by decide) (hts (Cond.classLink RL 13 "java/lang/IndexOutOfBoundsException") (List.mem_of_getElem? (i := 1) rfl)) ((hE.2.2.1 (.castable kIOB kIOB) (by decide +kernel)).use rfl) hq1 hq2 hq3 ?_
      refine lv_astore (lv' := [(7, .ref (q9)), (0, .ref (yH y 0)), (1, .int (x0)), (2, .int (x1)), (3, .int (x2)), (4, .int (x3)), (5, .int (x4)), (6, .ref (ol))]) hx hb dL_line_19 hl (by decide) rfl (fun ls hl => ?_)
      refine lv_iconst (v := nI 1) hx hb dL_line_21 (by decide) ?_
      exact W.iret (v := nI 1) hx hb hrt (fun t ht hW => ⟨⟨_, (y, g), rfl, ⟨by rw [he9], by rw [hop9]; exact hY, rfl, fun z => absurd z (by omega)⟩, kV_eq ht (show kV G (siteW G (opLine S x0 x1 x2 x3 x4).2.2 y ++ ([(ol, .inl (kcL G, 1, .inr (.inl g)))] ++ wr)) _ by rw [hop9]; exact hV)⟩, hS.F ht⟩) hS.2.2 dL_line_22
    · have hop9 : (opLine S x0 x1 x2 x3 x4).2.2 = S := by
        have he8 : (opLine S x0 x1 x2 x3 x4).1 ≠ 0 := by omega
        revert he8
        unfold opLine kif
        (repeat' split) <;> first | exact fun _ => rfl | exact fun z => absurd rfl z
      refine vx_catch (name := "java/lang/IllegalArgumentException") hown [⟨0, 16, 19, 13⟩] ⟨0, 16, 23, 15⟩ [⟨0, 16, 27, 17⟩] htab (fun z h => by
          rcases List.mem_cons.mp h with h | h
          · subst h; exact Or.inr ⟨by decide, _, (hts (Cond.classLink RL 13 "java/lang/IndexOutOfBoundsException") (List.mem_of_getElem? (i := 1) rfl)), hE.2.2.2.1 (kIAE, kIOB) (by decide +kernel)⟩
          · exact (List.not_mem_nil h).elim) (by decide) (by decide) (hts (Cond.classLink RL 15 "java/lang/IllegalArgumentException") (List.mem_of_getElem? (i := 2) rfl)) ((hE.2.2.1 (.castable kIAE kIAE) (by decide +kernel)).use rfl) hq1 hq2 hq3 ?_
      refine lv_astore (lv' := [(7, .ref (q9)), (0, .ref (yH y 0)), (1, .int (x0)), (2, .int (x1)), (3, .int (x2)), (4, .int (x3)), (5, .int (x4)), (6, .ref (ol))]) hx hb dL_line_23 hl (by decide) rfl (fun ls hl => ?_)
      refine lv_iconst (v := nI 2) hx hb dL_line_25 (by decide) ?_
      exact W.iret (v := nI 2) hx hb hrt (fun t ht hW => ⟨⟨_, (y, g), rfl, ⟨by rw [he9], by rw [hop9]; exact hY, rfl, fun z => absurd z (by omega)⟩, kV_eq ht (show kV G (siteW G (opLine S x0 x1 x2 x3 x4).2.2 y ++ ([(ol, .inl (kcL G, 1, .inr (.inl g)))] ++ wr)) _ by rw [hop9]; exact hV)⟩, hS.F ht⟩) hS.2.2 dL_line_26
    · have hop9 : (opLine S x0 x1 x2 x3 x4).2.2 = S := by
        have he8 : (opLine S x0 x1 x2 x3 x4).1 ≠ 0 := by omega
        revert he8
        unfold opLine kif
        (repeat' split) <;> first | exact fun _ => rfl | exact fun z => absurd rfl z
      refine vx_catch (name := "java/lang/IllegalStateException") hown [⟨0, 16, 19, 13⟩, ⟨0, 16, 23, 15⟩] ⟨0, 16, 27, 17⟩ [] htab (fun z h => by
          rcases List.mem_cons.mp h with h | h
          · subst h; exact Or.inr ⟨by decide, _, (hts (Cond.classLink RL 13 "java/lang/IndexOutOfBoundsException") (List.mem_of_getElem? (i := 1) rfl)), hE.2.2.2.1 (kISE, kIOB) (by decide +kernel)⟩
          · rcases List.mem_cons.mp h with h | h
            · subst h; exact Or.inr ⟨by decide, _, (hts (Cond.classLink RL 15 "java/lang/IllegalArgumentException") (List.mem_of_getElem? (i := 2) rfl)), hE.2.2.2.1 (kISE, kIAE) (by decide +kernel)⟩
            · exact (List.not_mem_nil h).elim) (by decide) (by decide) (hts (Cond.classLink RL 17 "java/lang/IllegalStateException") (List.mem_of_getElem? (i := 3) rfl)) ((hE.2.2.1 (.castable kISE kISE) (by decide +kernel)).use rfl) hq1 hq2 hq3 ?_
      refine lv_astore (lv' := [(7, .ref (q9)), (0, .ref (yH y 0)), (1, .int (x0)), (2, .int (x1)), (3, .int (x2)), (4, .int (x3)), (5, .int (x4)), (6, .ref (ol))]) hx hb dL_line_27 hl (by decide) rfl (fun ls hl => ?_)
      refine lv_iconst (v := nI 3) hx hb dL_line_29 (by decide) ?_
      exact W.iret (v := nI 3) hx hb hrt (fun t ht hW => ⟨⟨_, (y, g), rfl, ⟨by rw [he9], by rw [hop9]; exact hY, rfl, fun z => absurd z (by omega)⟩, kV_eq ht (show kV G (siteW G (opLine S x0 x1 x2 x3 x4).2.2 y ++ ([(ol, .inl (kcL G, 1, .inr (.inl g)))] ++ wr)) _ by rw [hop9]; exact hV)⟩, hS.F ht⟩) hS.2.2 dL_line_30
  · obtain ⟨hp_10, hp_11, hp_12, hp_13⟩ := hp_1
    subst hp_11
    have hV : kV G (siteW G ((opLine S x0 x1 x2 x3 x4).2.2) u_2 ++ ([(ol, .inl (kcL G, 1, .inr (.inl g)))] ++ wr)) _ := hV
    refine lv_i2l (v := (((opLine S x0 x1 x2 x3 x4).2.1)).toInt64) hx hb dL_line_14 rfl ?_
    have hV := kV_mid (show kV G (siteW G (opLine S x0 x1 x2 x3 x4).2.2 u_2 ++ ([(ol, .inl (kcL G, 1, .inr (.inl g)))] ++ wr)) _ from hV)
    refine va_last hx hb hK hV.1 hV.2 hS 0 3 rfl rfl (vp_in_nI (by decide) (by decide)) dL_line_15 (fun H locs hP hD hS => ?_)
    have hV : kV G (siteW G (opLine S x0 x1 x2 x3 x4).2.2 u_2 ++ ([(ol, .inl (kcL G, 1, .inr (.inl (vp_updL g 0 (((opLine S x0 x1 x2 x3 x4).2.1)).toInt64))))] ++ wr)) _ := kV_mid (show kV G ([(ol, .inl (kcL G, 1, .inr (.inl (vp_updL g 0 (((opLine S x0 x1 x2 x3 x4).2.1)).toInt64))))] ++ (siteW G (opLine S x0 x1 x2 x3 x4).2.2 u_2 ++ wr)) _ from ⟨hP, hD⟩)
    refine lv_goto (tgt := 31) hx hb dL_line_16 (by decide) ?_
    refine lv_iconst (v := nI 0) hx hb dL_line_31 (by decide) ?_
    exact W.iret (v := nI 0) hx hb hrt (fun t ht hW => ⟨⟨_, (u_2, vp_updL g 0 (((opLine S x0 x1 x2 x3 x4).2.1)).toInt64), rfl, ⟨by rw [hp_10], hp_12, hp_13, fun _ => rfl⟩, kV_eq ht hV⟩, hS.F ht⟩) hS.2.2 dL_line_32
set_option maxHeartbeats 4000000 in
set_option maxRecDepth 100000 in
theorem c_L_anew (l : Launch) (G : kG) (S : kS) (y : kY) (ol : Nat) (g : Nat → Int64) (wr : va_W) (x0 : Int32) (x1 : Int32) (hlt : l.stackTraces = false) (hI : kInv S) (hY : yI G S y) : Met l yL_anew wsL_anew ({ frames := 9, cells := 18, slots := 1772, locals := 240 } : Room) (kPc G [.ref (yH y 0), .int (x0), .int (x1), .ref (ol)] (siteW G S y ++ ([(ol, .inl (kcL G, 1, .inr (.inl g)))] ++ wr))) (kQi G (S := kY × (Nat → Int64)) (fun z u => z = nI (opAnew S x0 x1).1 ∧ yI G (opAnew S x0 x1).2.2 u.1 ∧ yH u.1 0 = yH y 0 ∧ ((opAnew S x0 x1).1 = 0 → u.2 0 = (opAnew S x0 x1).2.1.toInt64)) (fun u => siteW G (opAnew S x0 x1).2.2 u.1 ++ ([(ol, .inl (kcL G, 1, .inr (.inl u.2)))] ++ wr))) 18 1772 (kA G) := by
  refine va_MetW (cc := cL_anew) (maxL := 5) (ret := (some .int)) (by decide) rfl ?_
  intro pp ee s m args below meth cc0 s₁ Bd0 hml hv
  obtain ⟨rfl, hE, hV⟩ := hv
  have hK := hE.1
  have hx := Bd0.exec
  have hb := Bd0.bytes
  have hrt := Bd0.returns
  have hts := atoms_spec (ws := wsL_anew) Bd0.pre
  have hown : s.vm.findClass RL = some m.cls := findClass_of_methodNamed Bd0.named
  have hlocks := Bd0.notSynchronized
  have htab := vx_table (x := yL_anew) Bd0 (hts (Cond.codeWith yL_anew cL_anew 5 (some .int) [(0, 10, 13, 13), (0, 10, 17, 15), (0, 10, 21, 17)]) (List.mem_of_getElem? (i := 0) rfl))
  have hF : CallFix pp m cc0 cL_anew 5 s _ wsL_anew RL := ⟨hx, hb, hml, hown, hts⟩
  have hS : va_S (kA G) s.heap s.heap [] := va_S.rf
  have hB0 := hE.2.1
  have hl := lv_entry ([.ref (yH y 0), .int (x0), .int (x1), .ref (ol)]) (n := 5) (Nat.le_of_ble_eq_true rfl)
  rw [lg_entry_eq]
  generalize (lg_sl ([.ref (yH y 0), .int (x0), .int (x1), .ref (ol)]) ++ List.replicate (5 - (lg_sl ([.ref (yH y 0), .int (x0), .int (x1), .ref (ol)])).length) Slot.unset).toArray = ls at hl ⊢
  have hl : lv_has ls 5 [(0, .ref (yH y 0)), (1, .int (x0)), (2, .int (x1)), (3, .ref (ol))] := hl
  refine lv_aload_n hx hb dL_anew_0 rfl (lv_at hl 3 rfl) ?_
  refine lv_iconst (v := nI 0) hx hb dL_anew_1 (by decide) ?_
  refine lv_aload_n hx hb dL_anew_2 rfl (lv_at hl 0 rfl) ?_
  refine lv_iload_n hx hb dL_anew_3 rfl (lv_at hl 1 rfl) ?_
  refine lv_iload_n hx hb dL_anew_4 rfl (lv_at hl 2 rfl) ?_
  refine kx_i (vx_runV (As := [.int (x0), .int (x1)]) (rest := [.int (nI (0)), .ref (ol)]) hF (c_X5_anew l hlt G S y ([(ol, .inl (kcL G, 1, .inr (.inl g)))] ++ wr) x0 x1 hI hY) (cwV 2 hts gL_anew_X5_anew rfl rfl rfl (by decide +kernel) ⟨Nat.le_of_ble_eq_true rfl, Nat.le_of_ble_eq_true rfl⟩) (kPreV hE hS hV 0 rfl rfl) rfl rfl hl.1 rfl (lv_room (Nat.le_of_ble_eq_true rfl)) dL_anew_5 ⟨Nat.le_of_ble_eq_true rfl, Nat.le_of_ble_eq_true rfl⟩) hS (fun E ce q9 H locs hxc hV hS hq1 hq2 hq3 => ?_) (fun r_3 u_2 H locs hp_1 hV hS => ?_)
  · rcases hxc with ⟨rfl, he9⟩ | ⟨rfl, he9⟩ | ⟨rfl, he9⟩
    · have hop9 : (opAnew S x0 x1).2.2 = S := by
        have he8 : (opAnew S x0 x1).1 ≠ 0 := by omega
        revert he8
        unfold opAnew kif
        (repeat' split) <;> first | exact fun _ => rfl | exact fun z => absurd rfl z
      refine vx_catch (name := "java/lang/IndexOutOfBoundsException") hown [] ⟨0, 10, 13, 13⟩ [⟨0, 10, 17, 15⟩, ⟨0, 10, 21, 17⟩] htab (fun z h => (List.not_mem_nil h).elim) (by decide) (by decide) (hts (Cond.classLink RL 13 "java/lang/IndexOutOfBoundsException") (List.mem_of_getElem? (i := 1) rfl)) ((hE.2.2.1 (.castable kIOB kIOB) (by decide +kernel)).use rfl) hq1 hq2 hq3 ?_
      refine lv_astore (lv' := [(4, .ref (q9)), (0, .ref (yH y 0)), (1, .int (x0)), (2, .int (x1)), (3, .ref (ol))]) hx hb dL_anew_13 hl (by decide) rfl (fun ls hl => ?_)
      refine lv_iconst (v := nI 1) hx hb dL_anew_15 (by decide) ?_
      exact W.iret (v := nI 1) hx hb hrt (fun t ht hW => ⟨⟨_, (y, g), rfl, ⟨by rw [he9], by rw [hop9]; exact hY, rfl, fun z => absurd z (by omega)⟩, kV_eq ht (show kV G (siteW G (opAnew S x0 x1).2.2 y ++ ([(ol, .inl (kcL G, 1, .inr (.inl g)))] ++ wr)) _ by rw [hop9]; exact hV)⟩, hS.F ht⟩) hS.2.2 dL_anew_16
    · have hop9 : (opAnew S x0 x1).2.2 = S := by
        have he8 : (opAnew S x0 x1).1 ≠ 0 := by omega
        revert he8
        unfold opAnew kif
        (repeat' split) <;> first | exact fun _ => rfl | exact fun z => absurd rfl z
      refine vx_catch (name := "java/lang/IllegalArgumentException") hown [⟨0, 10, 13, 13⟩] ⟨0, 10, 17, 15⟩ [⟨0, 10, 21, 17⟩] htab (fun z h => by
          rcases List.mem_cons.mp h with h | h
          · subst h; exact Or.inr ⟨by decide, _, (hts (Cond.classLink RL 13 "java/lang/IndexOutOfBoundsException") (List.mem_of_getElem? (i := 1) rfl)), hE.2.2.2.1 (kIAE, kIOB) (by decide +kernel)⟩
          · exact (List.not_mem_nil h).elim) (by decide) (by decide) (hts (Cond.classLink RL 15 "java/lang/IllegalArgumentException") (List.mem_of_getElem? (i := 2) rfl)) ((hE.2.2.1 (.castable kIAE kIAE) (by decide +kernel)).use rfl) hq1 hq2 hq3 ?_
      refine lv_astore (lv' := [(4, .ref (q9)), (0, .ref (yH y 0)), (1, .int (x0)), (2, .int (x1)), (3, .ref (ol))]) hx hb dL_anew_17 hl (by decide) rfl (fun ls hl => ?_)
      refine lv_iconst (v := nI 2) hx hb dL_anew_19 (by decide) ?_
      exact W.iret (v := nI 2) hx hb hrt (fun t ht hW => ⟨⟨_, (y, g), rfl, ⟨by rw [he9], by rw [hop9]; exact hY, rfl, fun z => absurd z (by omega)⟩, kV_eq ht (show kV G (siteW G (opAnew S x0 x1).2.2 y ++ ([(ol, .inl (kcL G, 1, .inr (.inl g)))] ++ wr)) _ by rw [hop9]; exact hV)⟩, hS.F ht⟩) hS.2.2 dL_anew_20
    · have hop9 : (opAnew S x0 x1).2.2 = S := by
        have he8 : (opAnew S x0 x1).1 ≠ 0 := by omega
        revert he8
        unfold opAnew kif
        (repeat' split) <;> first | exact fun _ => rfl | exact fun z => absurd rfl z
      refine vx_catch (name := "java/lang/IllegalStateException") hown [⟨0, 10, 13, 13⟩, ⟨0, 10, 17, 15⟩] ⟨0, 10, 21, 17⟩ [] htab (fun z h => by
          rcases List.mem_cons.mp h with h | h
          · subst h; exact Or.inr ⟨by decide, _, (hts (Cond.classLink RL 13 "java/lang/IndexOutOfBoundsException") (List.mem_of_getElem? (i := 1) rfl)), hE.2.2.2.1 (kISE, kIOB) (by decide +kernel)⟩
          · rcases List.mem_cons.mp h with h | h
            · subst h; exact Or.inr ⟨by decide, _, (hts (Cond.classLink RL 15 "java/lang/IllegalArgumentException") (List.mem_of_getElem? (i := 2) rfl)), hE.2.2.2.1 (kISE, kIAE) (by decide +kernel)⟩
            · exact (List.not_mem_nil h).elim) (by decide) (by decide) (hts (Cond.classLink RL 17 "java/lang/IllegalStateException") (List.mem_of_getElem? (i := 3) rfl)) ((hE.2.2.1 (.castable kISE kISE) (by decide +kernel)).use rfl) hq1 hq2 hq3 ?_
      refine lv_astore (lv' := [(4, .ref (q9)), (0, .ref (yH y 0)), (1, .int (x0)), (2, .int (x1)), (3, .ref (ol))]) hx hb dL_anew_21 hl (by decide) rfl (fun ls hl => ?_)
      refine lv_iconst (v := nI 3) hx hb dL_anew_23 (by decide) ?_
      exact W.iret (v := nI 3) hx hb hrt (fun t ht hW => ⟨⟨_, (y, g), rfl, ⟨by rw [he9], by rw [hop9]; exact hY, rfl, fun z => absurd z (by omega)⟩, kV_eq ht (show kV G (siteW G (opAnew S x0 x1).2.2 y ++ ([(ol, .inl (kcL G, 1, .inr (.inl g)))] ++ wr)) _ by rw [hop9]; exact hV)⟩, hS.F ht⟩) hS.2.2 dL_anew_24
  · obtain ⟨hp_10, hp_11, hp_12, hp_13⟩ := hp_1
    subst hp_11
    have hV : kV G (siteW G ((opAnew S x0 x1).2.2) u_2 ++ ([(ol, .inl (kcL G, 1, .inr (.inl g)))] ++ wr)) _ := hV
    refine lv_i2l (v := (((opAnew S x0 x1).2.1)).toInt64) hx hb dL_anew_8 rfl ?_
    have hV := kV_mid (show kV G (siteW G (opAnew S x0 x1).2.2 u_2 ++ ([(ol, .inl (kcL G, 1, .inr (.inl g)))] ++ wr)) _ from hV)
    refine va_last hx hb hK hV.1 hV.2 hS 0 3 rfl rfl (vp_in_nI (by decide) (by decide)) dL_anew_9 (fun H locs hP hD hS => ?_)
    have hV : kV G (siteW G (opAnew S x0 x1).2.2 u_2 ++ ([(ol, .inl (kcL G, 1, .inr (.inl (vp_updL g 0 (((opAnew S x0 x1).2.1)).toInt64))))] ++ wr)) _ := kV_mid (show kV G ([(ol, .inl (kcL G, 1, .inr (.inl (vp_updL g 0 (((opAnew S x0 x1).2.1)).toInt64))))] ++ (siteW G (opAnew S x0 x1).2.2 u_2 ++ wr)) _ from ⟨hP, hD⟩)
    refine lv_goto (tgt := 25) hx hb dL_anew_10 (by decide) ?_
    refine lv_iconst (v := nI 0) hx hb dL_anew_25 (by decide) ?_
    exact W.iret (v := nI 0) hx hb hrt (fun t ht hW => ⟨⟨_, (u_2, vp_updL g 0 (((opAnew S x0 x1).2.1)).toInt64), rfl, ⟨by rw [hp_10], hp_12, hp_13, fun _ => rfl⟩, kV_eq ht hV⟩, hS.F ht⟩) hS.2.2 dL_anew_26
set_option maxHeartbeats 4000000 in
set_option maxRecDepth 100000 in
theorem c_L_publish (l : Launch) (G : kG) (S : kS) (y : kY) (ol : Nat) (g : Nat → Int64) (wr : va_W) (x0 : Int32) (hlt : l.stackTraces = false) (hI : kInv S) (hY : yI G S y) : Met l yL_publish wsL_publish ({ frames := 8, cells := 6, slots := 80, locals := 214 } : Room) (kPc G [.ref (yH y 0), .int (x0), .ref (ol)] (siteW G S y ++ ([(ol, .inl (kcL G, 1, .inr (.inl g)))] ++ wr))) (kQi G (S := kY × (Nat → Int64)) (fun z u => z = nI (opPublish S x0).1 ∧ yI G (opPublish S x0).2.2 u.1 ∧ yH u.1 0 = yH y 0 ∧ ((opPublish S x0).1 = 0 → u.2 0 = (opPublish S x0).2.1.toInt64)) (fun u => siteW G (opPublish S x0).2.2 u.1 ++ ([(ol, .inl (kcL G, 1, .inr (.inl u.2)))] ++ wr))) 6 80 (kA G) := by
  refine va_MetW (cc := cL_publish) (maxL := 4) (ret := (some .int)) (by decide) rfl ?_
  intro pp ee s m args below meth cc0 s₁ Bd0 hml hv
  obtain ⟨rfl, hE, hV⟩ := hv
  have hK := hE.1
  have hx := Bd0.exec
  have hb := Bd0.bytes
  have hrt := Bd0.returns
  have hts := atoms_spec (ws := wsL_publish) Bd0.pre
  have hown : s.vm.findClass RL = some m.cls := findClass_of_methodNamed Bd0.named
  have hlocks := Bd0.notSynchronized
  have htab := vx_table (x := yL_publish) Bd0 (hts (Cond.codeWith yL_publish cL_publish 4 (some .int) [(0, 9, 12, 13), (0, 9, 15, 17)]) (List.mem_of_getElem? (i := 0) rfl))
  have hF : CallFix pp m cc0 cL_publish 4 s _ wsL_publish RL := ⟨hx, hb, hml, hown, hts⟩
  have hS : va_S (kA G) s.heap s.heap [] := va_S.rf
  have hB0 := hE.2.1
  have hl := lv_entry ([.ref (yH y 0), .int (x0), .ref (ol)]) (n := 4) (Nat.le_of_ble_eq_true rfl)
  rw [lg_entry_eq]
  generalize (lg_sl ([.ref (yH y 0), .int (x0), .ref (ol)]) ++ List.replicate (4 - (lg_sl ([.ref (yH y 0), .int (x0), .ref (ol)])).length) Slot.unset).toArray = ls at hl ⊢
  have hl : lv_has ls 4 [(0, .ref (yH y 0)), (1, .int (x0)), (2, .ref (ol))] := hl
  refine lv_aload_n hx hb dL_publish_0 rfl (lv_at hl 2 rfl) ?_
  refine lv_iconst (v := nI 0) hx hb dL_publish_1 (by decide) ?_
  refine lv_aload_n hx hb dL_publish_2 rfl (lv_at hl 0 rfl) ?_
  refine lv_iload_n hx hb dL_publish_3 rfl (lv_at hl 1 rfl) ?_
  refine kx_i (vx_runV (As := [.int (x0)]) (rest := [.int (nI (0)), .ref (ol)]) hF (c_X5_publish l hlt G S y ([(ol, .inl (kcL G, 1, .inr (.inl g)))] ++ wr) x0 hI hY) (cwV 1 hts gL_publish_X5_publish rfl rfl rfl (by decide +kernel) ⟨Nat.le_of_ble_eq_true rfl, Nat.le_of_ble_eq_true rfl⟩) (kPreV hE hS hV 0 rfl rfl) rfl rfl hl.1 rfl (lv_room (Nat.le_of_ble_eq_true rfl)) dL_publish_4 ⟨Nat.le_of_ble_eq_true rfl, Nat.le_of_ble_eq_true rfl⟩) hS (fun E ce q9 H locs hxc hV hS hq1 hq2 hq3 => ?_) (fun r_3 u_2 H locs hp_1 hV hS => ?_)
  · rcases hxc with ⟨rfl, he9⟩ | ⟨rfl, he9⟩
    · have hop9 : (opPublish S x0).2.2 = S := by
        have he8 : (opPublish S x0).1 ≠ 0 := by omega
        revert he8
        unfold opPublish kif
        (repeat' split) <;> first | exact fun _ => rfl | exact fun z => absurd rfl z
      refine vx_catch (name := "java/lang/IndexOutOfBoundsException") hown [] ⟨0, 9, 12, 13⟩ [⟨0, 9, 15, 17⟩] htab (fun z h => (List.not_mem_nil h).elim) (by decide) (by decide) (hts (Cond.classLink RL 13 "java/lang/IndexOutOfBoundsException") (List.mem_of_getElem? (i := 1) rfl)) ((hE.2.2.1 (.castable kIOB kIOB) (by decide +kernel)).use rfl) hq1 hq2 hq3 ?_
      refine lv_astore_n (lv' := [(3, .ref (q9)), (0, .ref (yH y 0)), (1, .int (x0)), (2, .ref (ol))]) hx hb dL_publish_12 rfl hl (by decide) rfl (fun ls hl => ?_)
      refine lv_iconst (v := nI 1) hx hb dL_publish_13 (by decide) ?_
      exact W.iret (v := nI 1) hx hb hrt (fun t ht hW => ⟨⟨_, (y, g), rfl, ⟨by rw [he9], by rw [hop9]; exact hY, rfl, fun z => absurd z (by omega)⟩, kV_eq ht (show kV G (siteW G (opPublish S x0).2.2 y ++ ([(ol, .inl (kcL G, 1, .inr (.inl g)))] ++ wr)) _ by rw [hop9]; exact hV)⟩, hS.F ht⟩) hS.2.2 dL_publish_14
    · have hop9 : (opPublish S x0).2.2 = S := by
        have he8 : (opPublish S x0).1 ≠ 0 := by omega
        revert he8
        unfold opPublish kif
        (repeat' split) <;> first | exact fun _ => rfl | exact fun z => absurd rfl z
      refine vx_catch (name := "java/lang/IllegalStateException") hown [⟨0, 9, 12, 13⟩] ⟨0, 9, 15, 17⟩ [] htab (fun z h => by
          rcases List.mem_cons.mp h with h | h
          · subst h; exact Or.inr ⟨by decide, _, (hts (Cond.classLink RL 13 "java/lang/IndexOutOfBoundsException") (List.mem_of_getElem? (i := 1) rfl)), hE.2.2.2.1 (kISE, kIOB) (by decide +kernel)⟩
          · exact (List.not_mem_nil h).elim) (by decide) (by decide) (hts (Cond.classLink RL 17 "java/lang/IllegalStateException") (List.mem_of_getElem? (i := 2) rfl)) ((hE.2.2.1 (.castable kISE kISE) (by decide +kernel)).use rfl) hq1 hq2 hq3 ?_
      refine lv_astore_n (lv' := [(3, .ref (q9)), (0, .ref (yH y 0)), (1, .int (x0)), (2, .ref (ol))]) hx hb dL_publish_15 rfl hl (by decide) rfl (fun ls hl => ?_)
      refine lv_iconst (v := nI 2) hx hb dL_publish_16 (by decide) ?_
      exact W.iret (v := nI 2) hx hb hrt (fun t ht hW => ⟨⟨_, (y, g), rfl, ⟨by rw [he9], by rw [hop9]; exact hY, rfl, fun z => absurd z (by omega)⟩, kV_eq ht (show kV G (siteW G (opPublish S x0).2.2 y ++ ([(ol, .inl (kcL G, 1, .inr (.inl g)))] ++ wr)) _ by rw [hop9]; exact hV)⟩, hS.F ht⟩) hS.2.2 dL_publish_17
  · obtain ⟨hp_10, hp_11, hp_12, hp_13⟩ := hp_1
    subst hp_11
    have hV : kV G (siteW G ((opPublish S x0).2.2) u_2 ++ ([(ol, .inl (kcL G, 1, .inr (.inl g)))] ++ wr)) _ := hV
    refine lv_i2l (v := (((opPublish S x0).2.1)).toInt64) hx hb dL_publish_7 rfl ?_
    have hV := kV_mid (show kV G (siteW G (opPublish S x0).2.2 u_2 ++ ([(ol, .inl (kcL G, 1, .inr (.inl g)))] ++ wr)) _ from hV)
    refine va_last hx hb hK hV.1 hV.2 hS 0 3 rfl rfl (vp_in_nI (by decide) (by decide)) dL_publish_8 (fun H locs hP hD hS => ?_)
    have hV : kV G (siteW G (opPublish S x0).2.2 u_2 ++ ([(ol, .inl (kcL G, 1, .inr (.inl (vp_updL g 0 (((opPublish S x0).2.1)).toInt64))))] ++ wr)) _ := kV_mid (show kV G ([(ol, .inl (kcL G, 1, .inr (.inl (vp_updL g 0 (((opPublish S x0).2.1)).toInt64))))] ++ (siteW G (opPublish S x0).2.2 u_2 ++ wr)) _ from ⟨hP, hD⟩)
    refine lv_goto (tgt := 18) hx hb dL_publish_9 (by decide) ?_
    refine lv_iconst (v := nI 0) hx hb dL_publish_18 (by decide) ?_
    exact W.iret (v := nI 0) hx hb hrt (fun t ht hW => ⟨⟨_, (u_2, vp_updL g 0 (((opPublish S x0).2.1)).toInt64), rfl, ⟨by rw [hp_10], hp_12, hp_13, fun _ => rfl⟩, kV_eq ht hV⟩, hS.F ht⟩) hS.2.2 dL_publish_19
set_option maxHeartbeats 4000000 in
set_option maxRecDepth 100000 in
theorem c_L_original (l : Launch) (G : kG) (S : kS) (y : kY) (ol : Nat) (g : Nat → Int64) (wr : va_W) (x0 : Int32) (hlt : l.stackTraces = false) (hI : kInv S) (hY : yI G S y) : Met l yL_original wsL_original ({ frames := 8, cells := 1, slots := 6, locals := 133 } : Room) (kPc G [.ref (yH y 0), .int (x0), .ref (ol)] (siteW G S y ++ ([(ol, .inl (kcL G, 1, .inr (.inl g)))] ++ wr))) (kQi G (S := kY × (Nat → Int64)) (fun z u => z = nI (opOriginal S x0).1 ∧ yI G (opOriginal S x0).2.2 u.1 ∧ yH u.1 0 = yH y 0 ∧ ((opOriginal S x0).1 = 0 → u.2 0 = (opOriginal S x0).2.1.toInt64)) (fun u => siteW G (opOriginal S x0).2.2 u.1 ++ ([(ol, .inl (kcL G, 1, .inr (.inl u.2)))] ++ wr))) 1 6 (kA G) := by
  refine va_MetW (cc := cL_original) (maxL := 4) (ret := (some .int)) (by decide) rfl ?_
  intro pp ee s m args below meth cc0 s₁ Bd0 hml hv
  obtain ⟨rfl, hE, hV⟩ := hv
  have hK := hE.1
  have hx := Bd0.exec
  have hb := Bd0.bytes
  have hrt := Bd0.returns
  have hts := atoms_spec (ws := wsL_original) Bd0.pre
  have hown : s.vm.findClass RL = some m.cls := findClass_of_methodNamed Bd0.named
  have hlocks := Bd0.notSynchronized
  have htab := vx_table (x := yL_original) Bd0 (hts (Cond.codeWith yL_original cL_original 4 (some .int) [(0, 9, 12, 13)]) (List.mem_of_getElem? (i := 0) rfl))
  have hF : CallFix pp m cc0 cL_original 4 s _ wsL_original RL := ⟨hx, hb, hml, hown, hts⟩
  have hS : va_S (kA G) s.heap s.heap [] := va_S.rf
  have hB0 := hE.2.1
  have hl := lv_entry ([.ref (yH y 0), .int (x0), .ref (ol)]) (n := 4) (Nat.le_of_ble_eq_true rfl)
  rw [lg_entry_eq]
  generalize (lg_sl ([.ref (yH y 0), .int (x0), .ref (ol)]) ++ List.replicate (4 - (lg_sl ([.ref (yH y 0), .int (x0), .ref (ol)])).length) Slot.unset).toArray = ls at hl ⊢
  have hl : lv_has ls 4 [(0, .ref (yH y 0)), (1, .int (x0)), (2, .ref (ol))] := hl
  refine lv_aload_n hx hb dL_original_0 rfl (lv_at hl 2 rfl) ?_
  refine lv_iconst (v := nI 0) hx hb dL_original_1 (by decide) ?_
  refine lv_aload_n hx hb dL_original_2 rfl (lv_at hl 0 rfl) ?_
  refine lv_iload_n hx hb dL_original_3 rfl (lv_at hl 1 rfl) ?_
  refine kx_i (vx_runV (As := [.int (x0)]) (rest := [.int (nI (0)), .ref (ol)]) hF (c_X5_original l hlt G S y ([(ol, .inl (kcL G, 1, .inr (.inl g)))] ++ wr) x0 hI hY) (cwV 1 hts gL_original_X5_original rfl rfl rfl (by decide +kernel) ⟨Nat.le_of_ble_eq_true rfl, Nat.le_of_ble_eq_true rfl⟩) (kPreV hE hS hV 0 rfl rfl) rfl rfl hl.1 rfl (lv_room (Nat.le_of_ble_eq_true rfl)) dL_original_4 ⟨Nat.le_of_ble_eq_true rfl, Nat.le_of_ble_eq_true rfl⟩) hS (fun E ce q9 H locs hxc hV hS hq1 hq2 hq3 => ?_) (fun r_3 u_2 H locs hp_1 hV hS => ?_)
  · obtain ⟨rfl, he9⟩ := hxc
    have hop9 : (opOriginal S x0).2.2 = S := by
      have he8 : (opOriginal S x0).1 ≠ 0 := by omega
      revert he8
      unfold opOriginal kif
      (repeat' split) <;> first | exact fun _ => rfl | exact fun z => absurd rfl z
    refine vx_catch (name := "java/lang/IndexOutOfBoundsException") hown [] ⟨0, 9, 12, 13⟩ [] htab (fun z h => (List.not_mem_nil h).elim) (by decide) (by decide) (hts (Cond.classLink RL 13 "java/lang/IndexOutOfBoundsException") (List.mem_of_getElem? (i := 1) rfl)) ((hE.2.2.1 (.castable kIOB kIOB) (by decide +kernel)).use rfl) hq1 hq2 hq3 ?_
    refine lv_astore_n (lv' := [(3, .ref (q9)), (0, .ref (yH y 0)), (1, .int (x0)), (2, .ref (ol))]) hx hb dL_original_12 rfl hl (by decide) rfl (fun ls hl => ?_)
    refine lv_iconst (v := nI 1) hx hb dL_original_13 (by decide) ?_
    exact W.iret (v := nI 1) hx hb hrt (fun t ht hW => ⟨⟨_, (y, g), rfl, ⟨by rw [he9], by rw [hop9]; exact hY, rfl, fun z => absurd z (by omega)⟩, kV_eq ht (show kV G (siteW G (opOriginal S x0).2.2 y ++ ([(ol, .inl (kcL G, 1, .inr (.inl g)))] ++ wr)) _ by rw [hop9]; exact hV)⟩, hS.F ht⟩) hS.2.2 dL_original_14
  · obtain ⟨hp_10, hp_11, hp_12, hp_13⟩ := hp_1
    subst hp_11
    have hV : kV G (siteW G ((opOriginal S x0).2.2) u_2 ++ ([(ol, .inl (kcL G, 1, .inr (.inl g)))] ++ wr)) _ := hV
    refine lv_i2l (v := (((opOriginal S x0).2.1)).toInt64) hx hb dL_original_7 rfl ?_
    have hV := kV_mid (show kV G (siteW G (opOriginal S x0).2.2 u_2 ++ ([(ol, .inl (kcL G, 1, .inr (.inl g)))] ++ wr)) _ from hV)
    refine va_last hx hb hK hV.1 hV.2 hS 0 3 rfl rfl (vp_in_nI (by decide) (by decide)) dL_original_8 (fun H locs hP hD hS => ?_)
    have hV : kV G (siteW G (opOriginal S x0).2.2 u_2 ++ ([(ol, .inl (kcL G, 1, .inr (.inl (vp_updL g 0 (((opOriginal S x0).2.1)).toInt64))))] ++ wr)) _ := kV_mid (show kV G ([(ol, .inl (kcL G, 1, .inr (.inl (vp_updL g 0 (((opOriginal S x0).2.1)).toInt64))))] ++ (siteW G (opOriginal S x0).2.2 u_2 ++ wr)) _ from ⟨hP, hD⟩)
    refine lv_goto (tgt := 15) hx hb dL_original_9 (by decide) ?_
    refine lv_iconst (v := nI 0) hx hb dL_original_15 (by decide) ?_
    exact W.iret (v := nI 0) hx hb hrt (fun t ht hW => ⟨⟨_, (u_2, vp_updL g 0 (((opOriginal S x0).2.1)).toInt64), rfl, ⟨by rw [hp_10], hp_12, hp_13, fun _ => rfl⟩, kV_eq ht hV⟩, hS.F ht⟩) hS.2.2 dL_original_16
set_option maxHeartbeats 4000000 in
set_option maxRecDepth 100000 in
theorem c_L_rows (l : Launch) (G : kG) (S : kS) (y : kY) (ol : Nat) (g : Nat → Int64) (wr : va_W) (x0 : Int32) (hlt : l.stackTraces = false) (hI : kInv S) (hY : yI G S y) : Met l yL_rows wsL_rows ({ frames := 8, cells := 1, slots := 6, locals := 132 } : Room) (kPc G [.ref (yH y 0), .int (x0), .ref (ol)] (siteW G S y ++ ([(ol, .inl (kcL G, 1, .inr (.inl g)))] ++ wr))) (kQi G (S := kY × (Nat → Int64)) (fun z u => z = nI (opRows S x0).1 ∧ yI G (opRows S x0).2.2 u.1 ∧ yH u.1 0 = yH y 0 ∧ ((opRows S x0).1 = 0 → u.2 0 = (opRows S x0).2.1.toInt64)) (fun u => siteW G (opRows S x0).2.2 u.1 ++ ([(ol, .inl (kcL G, 1, .inr (.inl u.2)))] ++ wr))) 1 6 (kA G) := by
  refine va_MetW (cc := cL_rows) (maxL := 4) (ret := (some .int)) (by decide) rfl ?_
  intro pp ee s m args below meth cc0 s₁ Bd0 hml hv
  obtain ⟨rfl, hE, hV⟩ := hv
  have hK := hE.1
  have hx := Bd0.exec
  have hb := Bd0.bytes
  have hrt := Bd0.returns
  have hts := atoms_spec (ws := wsL_rows) Bd0.pre
  have hown : s.vm.findClass RL = some m.cls := findClass_of_methodNamed Bd0.named
  have hlocks := Bd0.notSynchronized
  have htab := vx_table (x := yL_rows) Bd0 (hts (Cond.codeWith yL_rows cL_rows 4 (some .int) [(0, 9, 12, 13)]) (List.mem_of_getElem? (i := 0) rfl))
  have hF : CallFix pp m cc0 cL_rows 4 s _ wsL_rows RL := ⟨hx, hb, hml, hown, hts⟩
  have hS : va_S (kA G) s.heap s.heap [] := va_S.rf
  have hB0 := hE.2.1
  have hl := lv_entry ([.ref (yH y 0), .int (x0), .ref (ol)]) (n := 4) (Nat.le_of_ble_eq_true rfl)
  rw [lg_entry_eq]
  generalize (lg_sl ([.ref (yH y 0), .int (x0), .ref (ol)]) ++ List.replicate (4 - (lg_sl ([.ref (yH y 0), .int (x0), .ref (ol)])).length) Slot.unset).toArray = ls at hl ⊢
  have hl : lv_has ls 4 [(0, .ref (yH y 0)), (1, .int (x0)), (2, .ref (ol))] := hl
  refine lv_aload_n hx hb dL_rows_0 rfl (lv_at hl 2 rfl) ?_
  refine lv_iconst (v := nI 0) hx hb dL_rows_1 (by decide) ?_
  refine lv_aload_n hx hb dL_rows_2 rfl (lv_at hl 0 rfl) ?_
  refine lv_iload_n hx hb dL_rows_3 rfl (lv_at hl 1 rfl) ?_
  refine kx_i (vx_runV (As := [.int (x0)]) (rest := [.int (nI (0)), .ref (ol)]) hF (c_X5_rows l hlt G S y ([(ol, .inl (kcL G, 1, .inr (.inl g)))] ++ wr) x0 hI hY) (cwV 1 hts gL_rows_X5_rows rfl rfl rfl (by decide +kernel) ⟨Nat.le_of_ble_eq_true rfl, Nat.le_of_ble_eq_true rfl⟩) (kPreV hE hS hV 0 rfl rfl) rfl rfl hl.1 rfl (lv_room (Nat.le_of_ble_eq_true rfl)) dL_rows_4 ⟨Nat.le_of_ble_eq_true rfl, Nat.le_of_ble_eq_true rfl⟩) hS (fun E ce q9 H locs hxc hV hS hq1 hq2 hq3 => ?_) (fun r_3 u_2 H locs hp_1 hV hS => ?_)
  · obtain ⟨rfl, he9⟩ := hxc
    have hop9 : (opRows S x0).2.2 = S := by
      have he8 : (opRows S x0).1 ≠ 0 := by omega
      revert he8
      unfold opRows kif
      (repeat' split) <;> first | exact fun _ => rfl | exact fun z => absurd rfl z
    refine vx_catch (name := "java/lang/IndexOutOfBoundsException") hown [] ⟨0, 9, 12, 13⟩ [] htab (fun z h => (List.not_mem_nil h).elim) (by decide) (by decide) (hts (Cond.classLink RL 13 "java/lang/IndexOutOfBoundsException") (List.mem_of_getElem? (i := 1) rfl)) ((hE.2.2.1 (.castable kIOB kIOB) (by decide +kernel)).use rfl) hq1 hq2 hq3 ?_
    refine lv_astore_n (lv' := [(3, .ref (q9)), (0, .ref (yH y 0)), (1, .int (x0)), (2, .ref (ol))]) hx hb dL_rows_12 rfl hl (by decide) rfl (fun ls hl => ?_)
    refine lv_iconst (v := nI 1) hx hb dL_rows_13 (by decide) ?_
    exact W.iret (v := nI 1) hx hb hrt (fun t ht hW => ⟨⟨_, (y, g), rfl, ⟨by rw [he9], by rw [hop9]; exact hY, rfl, fun z => absurd z (by omega)⟩, kV_eq ht (show kV G (siteW G (opRows S x0).2.2 y ++ ([(ol, .inl (kcL G, 1, .inr (.inl g)))] ++ wr)) _ by rw [hop9]; exact hV)⟩, hS.F ht⟩) hS.2.2 dL_rows_14
  · obtain ⟨hp_10, hp_11, hp_12, hp_13⟩ := hp_1
    subst hp_11
    have hV : kV G (siteW G ((opRows S x0).2.2) u_2 ++ ([(ol, .inl (kcL G, 1, .inr (.inl g)))] ++ wr)) _ := hV
    refine lv_i2l (v := (((opRows S x0).2.1)).toInt64) hx hb dL_rows_7 rfl ?_
    have hV := kV_mid (show kV G (siteW G (opRows S x0).2.2 u_2 ++ ([(ol, .inl (kcL G, 1, .inr (.inl g)))] ++ wr)) _ from hV)
    refine va_last hx hb hK hV.1 hV.2 hS 0 3 rfl rfl (vp_in_nI (by decide) (by decide)) dL_rows_8 (fun H locs hP hD hS => ?_)
    have hV : kV G (siteW G (opRows S x0).2.2 u_2 ++ ([(ol, .inl (kcL G, 1, .inr (.inl (vp_updL g 0 (((opRows S x0).2.1)).toInt64))))] ++ wr)) _ := kV_mid (show kV G ([(ol, .inl (kcL G, 1, .inr (.inl (vp_updL g 0 (((opRows S x0).2.1)).toInt64))))] ++ (siteW G (opRows S x0).2.2 u_2 ++ wr)) _ from ⟨hP, hD⟩)
    refine lv_goto (tgt := 15) hx hb dL_rows_9 (by decide) ?_
    refine lv_iconst (v := nI 0) hx hb dL_rows_15 (by decide) ?_
    exact W.iret (v := nI 0) hx hb hrt (fun t ht hW => ⟨⟨_, (u_2, vp_updL g 0 (((opRows S x0).2.1)).toInt64), rfl, ⟨by rw [hp_10], hp_12, hp_13, fun _ => rfl⟩, kV_eq ht hV⟩, hS.F ht⟩) hS.2.2 dL_rows_16
set_option maxHeartbeats 4000000 in
set_option maxRecDepth 100000 in
theorem c_L_stitch (l : Launch) (G : kG) (S : kS) (y : kY) (ol : Nat) (g : Nat → Int64) (wr : va_W) (x0 : Int32) (x1 : Int32) (x2 : Int32) (hlt : l.stackTraces = false) (hI : kInv S) (hY : yI G S y) : Met l yL_stitch wsL_stitch ({ frames := 8, cells := 2, slots := 12, locals := 136 } : Room) (kPc G [.ref (yH y 0), .int (x0), .int (x1), .int (x2), .ref (ol)] (siteW G S y ++ ([(ol, .inl (kcL G, 1, .inr (.inl g)))] ++ wr))) (kQi G (S := kY × (Nat → Int64)) (fun z u => z = nI (opStitch S x0 x1 x2).1 ∧ yI G (opStitch S x0 x1 x2).2.2 u.1 ∧ yH u.1 0 = yH y 0 ∧ ((opStitch S x0 x1 x2).1 = 0 → u.2 0 = (opStitch S x0 x1 x2).2.1.toInt64)) (fun u => siteW G (opStitch S x0 x1 x2).2.2 u.1 ++ ([(ol, .inl (kcL G, 1, .inr (.inl u.2)))] ++ wr))) 2 12 (kA G) := by
  refine va_MetW (cc := cL_stitch) (maxL := 6) (ret := (some .int)) (by decide) rfl ?_
  intro pp ee s m args below meth cc0 s₁ Bd0 hml hv
  obtain ⟨rfl, hE, hV⟩ := hv
  have hK := hE.1
  have hx := Bd0.exec
  have hb := Bd0.bytes
  have hrt := Bd0.returns
  have hts := atoms_spec (ws := wsL_stitch) Bd0.pre
  have hown : s.vm.findClass RL = some m.cls := findClass_of_methodNamed Bd0.named
  have hlocks := Bd0.notSynchronized
  have htab := vx_table (x := yL_stitch) Bd0 (hts (Cond.codeWith yL_stitch cL_stitch 6 (some .int) [(0, 12, 15, 13)]) (List.mem_of_getElem? (i := 0) rfl))
  have hF : CallFix pp m cc0 cL_stitch 6 s _ wsL_stitch RL := ⟨hx, hb, hml, hown, hts⟩
  have hS : va_S (kA G) s.heap s.heap [] := va_S.rf
  have hB0 := hE.2.1
  have hl := lv_entry ([.ref (yH y 0), .int (x0), .int (x1), .int (x2), .ref (ol)]) (n := 6) (Nat.le_of_ble_eq_true rfl)
  rw [lg_entry_eq]
  generalize (lg_sl ([.ref (yH y 0), .int (x0), .int (x1), .int (x2), .ref (ol)]) ++ List.replicate (6 - (lg_sl ([.ref (yH y 0), .int (x0), .int (x1), .int (x2), .ref (ol)])).length) Slot.unset).toArray = ls at hl ⊢
  have hl : lv_has ls 6 [(0, .ref (yH y 0)), (1, .int (x0)), (2, .int (x1)), (3, .int (x2)), (4, .ref (ol))] := hl
  refine lv_aload hx hb dL_stitch_0 (lv_at hl 4 rfl) ?_
  refine lv_iconst (v := nI 0) hx hb dL_stitch_2 (by decide) ?_
  refine lv_aload_n hx hb dL_stitch_3 rfl (lv_at hl 0 rfl) ?_
  refine lv_iload_n hx hb dL_stitch_4 rfl (lv_at hl 1 rfl) ?_
  refine lv_iload_n hx hb dL_stitch_5 rfl (lv_at hl 2 rfl) ?_
  refine lv_iload_n hx hb dL_stitch_6 rfl (lv_at hl 3 rfl) ?_
  refine kx_i (vx_runV (As := [.int (x0), .int (x1), .int (x2)]) (rest := [.int (nI (0)), .ref (ol)]) hF (c_X5_stitch l hlt G S y ([(ol, .inl (kcL G, 1, .inr (.inl g)))] ++ wr) x0 x1 x2 hI hY) (cwV 3 hts gL_stitch_X5_stitch rfl rfl rfl (by decide +kernel) ⟨Nat.le_of_ble_eq_true rfl, Nat.le_of_ble_eq_true rfl⟩) (kPreV hE hS hV 0 rfl rfl) rfl rfl hl.1 rfl (lv_room (Nat.le_of_ble_eq_true rfl)) dL_stitch_7 ⟨Nat.le_of_ble_eq_true rfl, Nat.le_of_ble_eq_true rfl⟩) hS (fun E ce q9 H locs hxc hV hS hq1 hq2 hq3 => ?_) (fun r_3 u_2 H locs hp_1 hV hS => ?_)
  · obtain ⟨rfl, he9⟩ := hxc
    have hop9 : (opStitch S x0 x1 x2).2.2 = S := by
      have he8 : (opStitch S x0 x1 x2).1 ≠ 0 := by omega
      revert he8
      unfold opStitch kif
      (repeat' split) <;> first | exact fun _ => rfl | exact fun z => absurd rfl z
    refine vx_catch (name := "java/lang/IndexOutOfBoundsException") hown [] ⟨0, 12, 15, 13⟩ [] htab (fun z h => (List.not_mem_nil h).elim) (by decide) (by decide) (hts (Cond.classLink RL 13 "java/lang/IndexOutOfBoundsException") (List.mem_of_getElem? (i := 1) rfl)) ((hE.2.2.1 (.castable kIOB kIOB) (by decide +kernel)).use rfl) hq1 hq2 hq3 ?_
    refine lv_astore (lv' := [(5, .ref (q9)), (0, .ref (yH y 0)), (1, .int (x0)), (2, .int (x1)), (3, .int (x2)), (4, .ref (ol))]) hx hb dL_stitch_15 hl (by decide) rfl (fun ls hl => ?_)
    refine lv_iconst (v := nI 1) hx hb dL_stitch_17 (by decide) ?_
    exact W.iret (v := nI 1) hx hb hrt (fun t ht hW => ⟨⟨_, (y, g), rfl, ⟨by rw [he9], by rw [hop9]; exact hY, rfl, fun z => absurd z (by omega)⟩, kV_eq ht (show kV G (siteW G (opStitch S x0 x1 x2).2.2 y ++ ([(ol, .inl (kcL G, 1, .inr (.inl g)))] ++ wr)) _ by rw [hop9]; exact hV)⟩, hS.F ht⟩) hS.2.2 dL_stitch_18
  · obtain ⟨hp_10, hp_11, hp_12, hp_13⟩ := hp_1
    subst hp_11
    have hV : kV G (siteW G ((opStitch S x0 x1 x2).2.2) u_2 ++ ([(ol, .inl (kcL G, 1, .inr (.inl g)))] ++ wr)) _ := hV
    refine lv_i2l (v := (((opStitch S x0 x1 x2).2.1)).toInt64) hx hb dL_stitch_10 rfl ?_
    have hV := kV_mid (show kV G (siteW G (opStitch S x0 x1 x2).2.2 u_2 ++ ([(ol, .inl (kcL G, 1, .inr (.inl g)))] ++ wr)) _ from hV)
    refine va_last hx hb hK hV.1 hV.2 hS 0 3 rfl rfl (vp_in_nI (by decide) (by decide)) dL_stitch_11 (fun H locs hP hD hS => ?_)
    have hV : kV G (siteW G (opStitch S x0 x1 x2).2.2 u_2 ++ ([(ol, .inl (kcL G, 1, .inr (.inl (vp_updL g 0 (((opStitch S x0 x1 x2).2.1)).toInt64))))] ++ wr)) _ := kV_mid (show kV G ([(ol, .inl (kcL G, 1, .inr (.inl (vp_updL g 0 (((opStitch S x0 x1 x2).2.1)).toInt64))))] ++ (siteW G (opStitch S x0 x1 x2).2.2 u_2 ++ wr)) _ from ⟨hP, hD⟩)
    refine lv_goto (tgt := 19) hx hb dL_stitch_12 (by decide) ?_
    refine lv_iconst (v := nI 0) hx hb dL_stitch_19 (by decide) ?_
    exact W.iret (v := nI 0) hx hb hrt (fun t ht hW => ⟨⟨_, (u_2, vp_updL g 0 (((opStitch S x0 x1 x2).2.1)).toInt64), rfl, ⟨by rw [hp_10], hp_12, hp_13, fun _ => rfl⟩, kV_eq ht hV⟩, hS.F ht⟩) hS.2.2 dL_stitch_20
set_option maxHeartbeats 4000000 in
set_option maxRecDepth 100000 in
theorem c_L_stitchByWork (l : Launch) (G : kG) (S : kS) (y : kY) (ol : Nat) (g : Nat → Int64) (wr : va_W) (x0 : Int32) (x1 : Int32) (x2 : Int32) (hlt : l.stackTraces = false) (hI : kInv S) (hY : yI G S y) : Met l yL_stitchByWork wsL_stitchByWork ({ frames := 8, cells := 2, slots := 12, locals := 136 } : Room) (kPc G [.ref (yH y 0), .int (x0), .int (x1), .int (x2), .ref (ol)] (siteW G S y ++ ([(ol, .inl (kcL G, 1, .inr (.inl g)))] ++ wr))) (kQi G (S := kY × (Nat → Int64)) (fun z u => z = nI (opStitch S x0 x1 x2).1 ∧ yI G (opStitch S x0 x1 x2).2.2 u.1 ∧ yH u.1 0 = yH y 0 ∧ ((opStitch S x0 x1 x2).1 = 0 → u.2 0 = (opStitch S x0 x1 x2).2.1.toInt64)) (fun u => siteW G (opStitch S x0 x1 x2).2.2 u.1 ++ ([(ol, .inl (kcL G, 1, .inr (.inl u.2)))] ++ wr))) 2 12 (kA G) := by
  refine va_MetW (cc := cL_stitchByWork) (maxL := 6) (ret := (some .int)) (by decide) rfl ?_
  intro pp ee s m args below meth cc0 s₁ Bd0 hml hv
  obtain ⟨rfl, hE, hV⟩ := hv
  have hK := hE.1
  have hx := Bd0.exec
  have hb := Bd0.bytes
  have hrt := Bd0.returns
  have hts := atoms_spec (ws := wsL_stitchByWork) Bd0.pre
  have hown : s.vm.findClass RL = some m.cls := findClass_of_methodNamed Bd0.named
  have hlocks := Bd0.notSynchronized
  have htab := vx_table (x := yL_stitchByWork) Bd0 (hts (Cond.codeWith yL_stitchByWork cL_stitchByWork 6 (some .int) [(0, 12, 15, 13)]) (List.mem_of_getElem? (i := 0) rfl))
  have hF : CallFix pp m cc0 cL_stitchByWork 6 s _ wsL_stitchByWork RL := ⟨hx, hb, hml, hown, hts⟩
  have hS : va_S (kA G) s.heap s.heap [] := va_S.rf
  have hB0 := hE.2.1
  have hl := lv_entry ([.ref (yH y 0), .int (x0), .int (x1), .int (x2), .ref (ol)]) (n := 6) (Nat.le_of_ble_eq_true rfl)
  rw [lg_entry_eq]
  generalize (lg_sl ([.ref (yH y 0), .int (x0), .int (x1), .int (x2), .ref (ol)]) ++ List.replicate (6 - (lg_sl ([.ref (yH y 0), .int (x0), .int (x1), .int (x2), .ref (ol)])).length) Slot.unset).toArray = ls at hl ⊢
  have hl : lv_has ls 6 [(0, .ref (yH y 0)), (1, .int (x0)), (2, .int (x1)), (3, .int (x2)), (4, .ref (ol))] := hl
  refine lv_aload hx hb dL_stitchByWork_0 (lv_at hl 4 rfl) ?_
  refine lv_iconst (v := nI 0) hx hb dL_stitchByWork_2 (by decide) ?_
  refine lv_aload_n hx hb dL_stitchByWork_3 rfl (lv_at hl 0 rfl) ?_
  refine lv_iload_n hx hb dL_stitchByWork_4 rfl (lv_at hl 1 rfl) ?_
  refine lv_iload_n hx hb dL_stitchByWork_5 rfl (lv_at hl 2 rfl) ?_
  refine lv_iload_n hx hb dL_stitchByWork_6 rfl (lv_at hl 3 rfl) ?_
  refine kx_i (vx_runV (As := [.int (x0), .int (x1), .int (x2)]) (rest := [.int (nI (0)), .ref (ol)]) hF (c_X5_stitchByWork l hlt G S y ([(ol, .inl (kcL G, 1, .inr (.inl g)))] ++ wr) x0 x1 x2 hI hY) (cwV 3 hts gL_stitchByWork_X5_stitchByWork rfl rfl rfl (by decide +kernel) ⟨Nat.le_of_ble_eq_true rfl, Nat.le_of_ble_eq_true rfl⟩) (kPreV hE hS hV 0 rfl rfl) rfl rfl hl.1 rfl (lv_room (Nat.le_of_ble_eq_true rfl)) dL_stitchByWork_7 ⟨Nat.le_of_ble_eq_true rfl, Nat.le_of_ble_eq_true rfl⟩) hS (fun E ce q9 H locs hxc hV hS hq1 hq2 hq3 => ?_) (fun r_3 u_2 H locs hp_1 hV hS => ?_)
  · obtain ⟨rfl, he9⟩ := hxc
    have hop9 : (opStitch S x0 x1 x2).2.2 = S := by
      have he8 : (opStitch S x0 x1 x2).1 ≠ 0 := by omega
      revert he8
      unfold opStitch kif
      (repeat' split) <;> first | exact fun _ => rfl | exact fun z => absurd rfl z
    refine vx_catch (name := "java/lang/IndexOutOfBoundsException") hown [] ⟨0, 12, 15, 13⟩ [] htab (fun z h => (List.not_mem_nil h).elim) (by decide) (by decide) (hts (Cond.classLink RL 13 "java/lang/IndexOutOfBoundsException") (List.mem_of_getElem? (i := 1) rfl)) ((hE.2.2.1 (.castable kIOB kIOB) (by decide +kernel)).use rfl) hq1 hq2 hq3 ?_
    refine lv_astore (lv' := [(5, .ref (q9)), (0, .ref (yH y 0)), (1, .int (x0)), (2, .int (x1)), (3, .int (x2)), (4, .ref (ol))]) hx hb dL_stitchByWork_15 hl (by decide) rfl (fun ls hl => ?_)
    refine lv_iconst (v := nI 1) hx hb dL_stitchByWork_17 (by decide) ?_
    exact W.iret (v := nI 1) hx hb hrt (fun t ht hW => ⟨⟨_, (y, g), rfl, ⟨by rw [he9], by rw [hop9]; exact hY, rfl, fun z => absurd z (by omega)⟩, kV_eq ht (show kV G (siteW G (opStitch S x0 x1 x2).2.2 y ++ ([(ol, .inl (kcL G, 1, .inr (.inl g)))] ++ wr)) _ by rw [hop9]; exact hV)⟩, hS.F ht⟩) hS.2.2 dL_stitchByWork_18
  · obtain ⟨hp_10, hp_11, hp_12, hp_13⟩ := hp_1
    subst hp_11
    have hV : kV G (siteW G ((opStitch S x0 x1 x2).2.2) u_2 ++ ([(ol, .inl (kcL G, 1, .inr (.inl g)))] ++ wr)) _ := hV
    refine lv_i2l (v := (((opStitch S x0 x1 x2).2.1)).toInt64) hx hb dL_stitchByWork_10 rfl ?_
    have hV := kV_mid (show kV G (siteW G (opStitch S x0 x1 x2).2.2 u_2 ++ ([(ol, .inl (kcL G, 1, .inr (.inl g)))] ++ wr)) _ from hV)
    refine va_last hx hb hK hV.1 hV.2 hS 0 3 rfl rfl (vp_in_nI (by decide) (by decide)) dL_stitchByWork_11 (fun H locs hP hD hS => ?_)
    have hV : kV G (siteW G (opStitch S x0 x1 x2).2.2 u_2 ++ ([(ol, .inl (kcL G, 1, .inr (.inl (vp_updL g 0 (((opStitch S x0 x1 x2).2.1)).toInt64))))] ++ wr)) _ := kV_mid (show kV G ([(ol, .inl (kcL G, 1, .inr (.inl (vp_updL g 0 (((opStitch S x0 x1 x2).2.1)).toInt64))))] ++ (siteW G (opStitch S x0 x1 x2).2.2 u_2 ++ wr)) _ from ⟨hP, hD⟩)
    refine lv_goto (tgt := 19) hx hb dL_stitchByWork_12 (by decide) ?_
    refine lv_iconst (v := nI 0) hx hb dL_stitchByWork_19 (by decide) ?_
    exact W.iret (v := nI 0) hx hb hrt (fun t ht hW => ⟨⟨_, (u_2, vp_updL g 0 (((opStitch S x0 x1 x2).2.1)).toInt64), rfl, ⟨by rw [hp_10], hp_12, hp_13, fun _ => rfl⟩, kV_eq ht hV⟩, hS.F ht⟩) hS.2.2 dL_stitchByWork_20
set_option maxHeartbeats 4000000 in
set_option maxRecDepth 100000 in
theorem c_L_need (l : Launch) (G : kG) (S : kS) (y : kY) (ol : Nat) (g : Nat → Int64) (wr : va_W) (x0 : Int32) (x1 : Int32) (hlt : l.stackTraces = false) (hI : kInv S) (hY : yI G S y) : Met l yL_need wsL_need ({ frames := 9, cells := 2, slots := 12, locals := 155 } : Room) (kPc G [.ref (yH y 0), .int (x0), .int (x1), .ref (ol)] (siteW G S y ++ ([(ol, .inl (kcL G, 1, .inr (.inl g)))] ++ wr))) (kQi G (S := kY × (Nat → Int64)) (fun z u => z = nI (opNeed S x0 x1).1 ∧ yI G (opNeed S x0 x1).2.2 u.1 ∧ yH u.1 0 = yH y 0 ∧ ((opNeed S x0 x1).1 = 0 → u.2 0 = (opNeed S x0 x1).2.1.toInt64)) (fun u => siteW G (opNeed S x0 x1).2.2 u.1 ++ ([(ol, .inl (kcL G, 1, .inr (.inl u.2)))] ++ wr))) 2 12 (kA G) := by
  refine va_MetW (cc := cL_need) (maxL := 5) (ret := (some .int)) (by decide) rfl ?_
  intro pp ee s m args below meth cc0 s₁ Bd0 hml hv
  obtain ⟨rfl, hE, hV⟩ := hv
  have hK := hE.1
  have hx := Bd0.exec
  have hb := Bd0.bytes
  have hrt := Bd0.returns
  have hts := atoms_spec (ws := wsL_need) Bd0.pre
  have hown : s.vm.findClass RL = some m.cls := findClass_of_methodNamed Bd0.named
  have hlocks := Bd0.notSynchronized
  have htab := vx_table (x := yL_need) Bd0 (hts (Cond.codeWith yL_need cL_need 5 (some .int) [(0, 10, 13, 13), (0, 10, 17, 15)]) (List.mem_of_getElem? (i := 0) rfl))
  have hF : CallFix pp m cc0 cL_need 5 s _ wsL_need RL := ⟨hx, hb, hml, hown, hts⟩
  have hS : va_S (kA G) s.heap s.heap [] := va_S.rf
  have hB0 := hE.2.1
  have hl := lv_entry ([.ref (yH y 0), .int (x0), .int (x1), .ref (ol)]) (n := 5) (Nat.le_of_ble_eq_true rfl)
  rw [lg_entry_eq]
  generalize (lg_sl ([.ref (yH y 0), .int (x0), .int (x1), .ref (ol)]) ++ List.replicate (5 - (lg_sl ([.ref (yH y 0), .int (x0), .int (x1), .ref (ol)])).length) Slot.unset).toArray = ls at hl ⊢
  have hl : lv_has ls 5 [(0, .ref (yH y 0)), (1, .int (x0)), (2, .int (x1)), (3, .ref (ol))] := hl
  refine lv_aload_n hx hb dL_need_0 rfl (lv_at hl 3 rfl) ?_
  refine lv_iconst (v := nI 0) hx hb dL_need_1 (by decide) ?_
  refine lv_aload_n hx hb dL_need_2 rfl (lv_at hl 0 rfl) ?_
  refine lv_iload_n hx hb dL_need_3 rfl (lv_at hl 1 rfl) ?_
  refine lv_iload_n hx hb dL_need_4 rfl (lv_at hl 2 rfl) ?_
  refine kx_i (vx_runV (As := [.int (x0), .int (x1)]) (rest := [.int (nI (0)), .ref (ol)]) hF (c_X5_need l hlt G S y ([(ol, .inl (kcL G, 1, .inr (.inl g)))] ++ wr) x0 x1 hI hY) (cwV 2 hts gL_need_X5_need rfl rfl rfl (by decide +kernel) ⟨Nat.le_of_ble_eq_true rfl, Nat.le_of_ble_eq_true rfl⟩) (kPreV hE hS hV 0 rfl rfl) rfl rfl hl.1 rfl (lv_room (Nat.le_of_ble_eq_true rfl)) dL_need_5 ⟨Nat.le_of_ble_eq_true rfl, Nat.le_of_ble_eq_true rfl⟩) hS (fun E ce q9 H locs hxc hV hS hq1 hq2 hq3 => ?_) (fun r_3 u_2 H locs hp_1 hV hS => ?_)
  · rcases hxc with ⟨rfl, he9⟩ | ⟨rfl, he9⟩
    · have hop9 : (opNeed S x0 x1).2.2 = S := by
        have he8 : (opNeed S x0 x1).1 ≠ 0 := by omega
        revert he8
        unfold opNeed kif
        (repeat' split) <;> first | exact fun _ => rfl | exact fun z => absurd rfl z
      refine vx_catch (name := "java/lang/IndexOutOfBoundsException") hown [] ⟨0, 10, 13, 13⟩ [⟨0, 10, 17, 15⟩] htab (fun z h => (List.not_mem_nil h).elim) (by decide) (by decide) (hts (Cond.classLink RL 13 "java/lang/IndexOutOfBoundsException") (List.mem_of_getElem? (i := 1) rfl)) ((hE.2.2.1 (.castable kIOB kIOB) (by decide +kernel)).use rfl) hq1 hq2 hq3 ?_
      refine lv_astore (lv' := [(4, .ref (q9)), (0, .ref (yH y 0)), (1, .int (x0)), (2, .int (x1)), (3, .ref (ol))]) hx hb dL_need_13 hl (by decide) rfl (fun ls hl => ?_)
      refine lv_iconst (v := nI 1) hx hb dL_need_15 (by decide) ?_
      exact W.iret (v := nI 1) hx hb hrt (fun t ht hW => ⟨⟨_, (y, g), rfl, ⟨by rw [he9], by rw [hop9]; exact hY, rfl, fun z => absurd z (by omega)⟩, kV_eq ht (show kV G (siteW G (opNeed S x0 x1).2.2 y ++ ([(ol, .inl (kcL G, 1, .inr (.inl g)))] ++ wr)) _ by rw [hop9]; exact hV)⟩, hS.F ht⟩) hS.2.2 dL_need_16
    · have hop9 : (opNeed S x0 x1).2.2 = S := by
        have he8 : (opNeed S x0 x1).1 ≠ 0 := by omega
        revert he8
        unfold opNeed kif
        (repeat' split) <;> first | exact fun _ => rfl | exact fun z => absurd rfl z
      refine vx_catch (name := "java/lang/IllegalArgumentException") hown [⟨0, 10, 13, 13⟩] ⟨0, 10, 17, 15⟩ [] htab (fun z h => by
          rcases List.mem_cons.mp h with h | h
          · subst h; exact Or.inr ⟨by decide, _, (hts (Cond.classLink RL 13 "java/lang/IndexOutOfBoundsException") (List.mem_of_getElem? (i := 1) rfl)), hE.2.2.2.1 (kIAE, kIOB) (by decide +kernel)⟩
          · exact (List.not_mem_nil h).elim) (by decide) (by decide) (hts (Cond.classLink RL 15 "java/lang/IllegalArgumentException") (List.mem_of_getElem? (i := 2) rfl)) ((hE.2.2.1 (.castable kIAE kIAE) (by decide +kernel)).use rfl) hq1 hq2 hq3 ?_
      refine lv_astore (lv' := [(4, .ref (q9)), (0, .ref (yH y 0)), (1, .int (x0)), (2, .int (x1)), (3, .ref (ol))]) hx hb dL_need_17 hl (by decide) rfl (fun ls hl => ?_)
      refine lv_iconst (v := nI 2) hx hb dL_need_19 (by decide) ?_
      exact W.iret (v := nI 2) hx hb hrt (fun t ht hW => ⟨⟨_, (y, g), rfl, ⟨by rw [he9], by rw [hop9]; exact hY, rfl, fun z => absurd z (by omega)⟩, kV_eq ht (show kV G (siteW G (opNeed S x0 x1).2.2 y ++ ([(ol, .inl (kcL G, 1, .inr (.inl g)))] ++ wr)) _ by rw [hop9]; exact hV)⟩, hS.F ht⟩) hS.2.2 dL_need_20
  · obtain ⟨hp_10, hp_11, hp_12, hp_13⟩ := hp_1
    subst hp_11
    have hV : kV G (siteW G ((opNeed S x0 x1).2.2) u_2 ++ ([(ol, .inl (kcL G, 1, .inr (.inl g)))] ++ wr)) _ := hV
    refine lv_i2l (v := (((opNeed S x0 x1).2.1)).toInt64) hx hb dL_need_8 rfl ?_
    have hV := kV_mid (show kV G (siteW G (opNeed S x0 x1).2.2 u_2 ++ ([(ol, .inl (kcL G, 1, .inr (.inl g)))] ++ wr)) _ from hV)
    refine va_last hx hb hK hV.1 hV.2 hS 0 3 rfl rfl (vp_in_nI (by decide) (by decide)) dL_need_9 (fun H locs hP hD hS => ?_)
    have hV : kV G (siteW G (opNeed S x0 x1).2.2 u_2 ++ ([(ol, .inl (kcL G, 1, .inr (.inl (vp_updL g 0 (((opNeed S x0 x1).2.1)).toInt64))))] ++ wr)) _ := kV_mid (show kV G ([(ol, .inl (kcL G, 1, .inr (.inl (vp_updL g 0 (((opNeed S x0 x1).2.1)).toInt64))))] ++ (siteW G (opNeed S x0 x1).2.2 u_2 ++ wr)) _ from ⟨hP, hD⟩)
    refine lv_goto (tgt := 21) hx hb dL_need_10 (by decide) ?_
    refine lv_iconst (v := nI 0) hx hb dL_need_21 (by decide) ?_
    exact W.iret (v := nI 0) hx hb hrt (fun t ht hW => ⟨⟨_, (u_2, vp_updL g 0 (((opNeed S x0 x1).2.1)).toInt64), rfl, ⟨by rw [hp_10], hp_12, hp_13, fun _ => rfl⟩, kV_eq ht hV⟩, hS.F ht⟩) hS.2.2 dL_need_22
set_option maxHeartbeats 4000000 in
set_option maxRecDepth 100000 in
theorem c_L_buy (l : Launch) (G : kG) (S : kS) (y : kY) (ol : Nat) (g : Nat → Int64) (wr : va_W) (x0 : Int32) (x1 : Int32) (hlt : l.stackTraces = false) (hI : kInv S) (hY : yI G S y) : Met l yL_buy wsL_buy ({ frames := 8, cells := 3, slots := 18, locals := 134 } : Room) (kPc G [.ref (yH y 0), .int (x0), .int (x1), .ref (ol)] (siteW G S y ++ ([(ol, .inl (kcL G, 1, .inr (.inl g)))] ++ wr))) (kQi G (S := kY × (Nat → Int64)) (fun z u => z = nI (opBuy S x0 x1).1 ∧ yI G (opBuy S x0 x1).2.2 u.1 ∧ yH u.1 0 = yH y 0 ∧ ((opBuy S x0 x1).1 = 0 → u.2 0 = (opBuy S x0 x1).2.1.toInt64)) (fun u => siteW G (opBuy S x0 x1).2.2 u.1 ++ ([(ol, .inl (kcL G, 1, .inr (.inl u.2)))] ++ wr))) 3 18 (kA G) := by
  refine va_MetW (cc := cL_buy) (maxL := 5) (ret := (some .int)) (by decide) rfl ?_
  intro pp ee s m args below meth cc0 s₁ Bd0 hml hv
  obtain ⟨rfl, hE, hV⟩ := hv
  have hK := hE.1
  have hx := Bd0.exec
  have hb := Bd0.bytes
  have hrt := Bd0.returns
  have hts := atoms_spec (ws := wsL_buy) Bd0.pre
  have hown : s.vm.findClass RL = some m.cls := findClass_of_methodNamed Bd0.named
  have hlocks := Bd0.notSynchronized
  have htab := vx_table (x := yL_buy) Bd0 (hts (Cond.codeWith yL_buy cL_buy 5 (some .int) [(0, 10, 13, 13), (0, 10, 17, 17)]) (List.mem_of_getElem? (i := 0) rfl))
  have hF : CallFix pp m cc0 cL_buy 5 s _ wsL_buy RL := ⟨hx, hb, hml, hown, hts⟩
  have hS : va_S (kA G) s.heap s.heap [] := va_S.rf
  have hB0 := hE.2.1
  have hl := lv_entry ([.ref (yH y 0), .int (x0), .int (x1), .ref (ol)]) (n := 5) (Nat.le_of_ble_eq_true rfl)
  rw [lg_entry_eq]
  generalize (lg_sl ([.ref (yH y 0), .int (x0), .int (x1), .ref (ol)]) ++ List.replicate (5 - (lg_sl ([.ref (yH y 0), .int (x0), .int (x1), .ref (ol)])).length) Slot.unset).toArray = ls at hl ⊢
  have hl : lv_has ls 5 [(0, .ref (yH y 0)), (1, .int (x0)), (2, .int (x1)), (3, .ref (ol))] := hl
  refine lv_aload_n hx hb dL_buy_0 rfl (lv_at hl 3 rfl) ?_
  refine lv_iconst (v := nI 0) hx hb dL_buy_1 (by decide) ?_
  refine lv_aload_n hx hb dL_buy_2 rfl (lv_at hl 0 rfl) ?_
  refine lv_iload_n hx hb dL_buy_3 rfl (lv_at hl 1 rfl) ?_
  refine lv_iload_n hx hb dL_buy_4 rfl (lv_at hl 2 rfl) ?_
  refine kx_i (vx_runV (As := [.int (x0), .int (x1)]) (rest := [.int (nI (0)), .ref (ol)]) hF (c_X5_buy l hlt G S y ([(ol, .inl (kcL G, 1, .inr (.inl g)))] ++ wr) x0 x1 hI hY) (cwV 2 hts gL_buy_X5_buy rfl rfl rfl (by decide +kernel) ⟨Nat.le_of_ble_eq_true rfl, Nat.le_of_ble_eq_true rfl⟩) (kPreV hE hS hV 0 rfl rfl) rfl rfl hl.1 rfl (lv_room (Nat.le_of_ble_eq_true rfl)) dL_buy_5 ⟨Nat.le_of_ble_eq_true rfl, Nat.le_of_ble_eq_true rfl⟩) hS (fun E ce q9 H locs hxc hV hS hq1 hq2 hq3 => ?_) (fun r_3 u_2 H locs hp_1 hV hS => ?_)
  · rcases hxc with ⟨rfl, he9⟩ | ⟨rfl, he9⟩
    · have hop9 : (opBuy S x0 x1).2.2 = S := by
        have he8 : (opBuy S x0 x1).1 ≠ 0 := by omega
        revert he8
        unfold opBuy kif
        (repeat' split) <;> first | exact fun _ => rfl | exact fun z => absurd rfl z
      refine vx_catch (name := "java/lang/IndexOutOfBoundsException") hown [] ⟨0, 10, 13, 13⟩ [⟨0, 10, 17, 17⟩] htab (fun z h => (List.not_mem_nil h).elim) (by decide) (by decide) (hts (Cond.classLink RL 13 "java/lang/IndexOutOfBoundsException") (List.mem_of_getElem? (i := 1) rfl)) ((hE.2.2.1 (.castable kIOB kIOB) (by decide +kernel)).use rfl) hq1 hq2 hq3 ?_
      refine lv_astore (lv' := [(4, .ref (q9)), (0, .ref (yH y 0)), (1, .int (x0)), (2, .int (x1)), (3, .ref (ol))]) hx hb dL_buy_13 hl (by decide) rfl (fun ls hl => ?_)
      refine lv_iconst (v := nI 1) hx hb dL_buy_15 (by decide) ?_
      exact W.iret (v := nI 1) hx hb hrt (fun t ht hW => ⟨⟨_, (y, g), rfl, ⟨by rw [he9], by rw [hop9]; exact hY, rfl, fun z => absurd z (by omega)⟩, kV_eq ht (show kV G (siteW G (opBuy S x0 x1).2.2 y ++ ([(ol, .inl (kcL G, 1, .inr (.inl g)))] ++ wr)) _ by rw [hop9]; exact hV)⟩, hS.F ht⟩) hS.2.2 dL_buy_16
    · have hop9 : (opBuy S x0 x1).2.2 = S := by
        have he8 : (opBuy S x0 x1).1 ≠ 0 := by omega
        revert he8
        unfold opBuy kif
        (repeat' split) <;> first | exact fun _ => rfl | exact fun z => absurd rfl z
      refine vx_catch (name := "java/lang/IllegalStateException") hown [⟨0, 10, 13, 13⟩] ⟨0, 10, 17, 17⟩ [] htab (fun z h => by
          rcases List.mem_cons.mp h with h | h
          · subst h; exact Or.inr ⟨by decide, _, (hts (Cond.classLink RL 13 "java/lang/IndexOutOfBoundsException") (List.mem_of_getElem? (i := 1) rfl)), hE.2.2.2.1 (kISE, kIOB) (by decide +kernel)⟩
          · exact (List.not_mem_nil h).elim) (by decide) (by decide) (hts (Cond.classLink RL 17 "java/lang/IllegalStateException") (List.mem_of_getElem? (i := 2) rfl)) ((hE.2.2.1 (.castable kISE kISE) (by decide +kernel)).use rfl) hq1 hq2 hq3 ?_
      refine lv_astore (lv' := [(4, .ref (q9)), (0, .ref (yH y 0)), (1, .int (x0)), (2, .int (x1)), (3, .ref (ol))]) hx hb dL_buy_17 hl (by decide) rfl (fun ls hl => ?_)
      refine lv_iconst (v := nI 2) hx hb dL_buy_19 (by decide) ?_
      exact W.iret (v := nI 2) hx hb hrt (fun t ht hW => ⟨⟨_, (y, g), rfl, ⟨by rw [he9], by rw [hop9]; exact hY, rfl, fun z => absurd z (by omega)⟩, kV_eq ht (show kV G (siteW G (opBuy S x0 x1).2.2 y ++ ([(ol, .inl (kcL G, 1, .inr (.inl g)))] ++ wr)) _ by rw [hop9]; exact hV)⟩, hS.F ht⟩) hS.2.2 dL_buy_20
  · obtain ⟨hp_10, hp_11, hp_12, hp_13⟩ := hp_1
    subst hp_11
    have hV : kV G (siteW G ((opBuy S x0 x1).2.2) u_2 ++ ([(ol, .inl (kcL G, 1, .inr (.inl g)))] ++ wr)) _ := hV
    refine lv_i2l (v := (((opBuy S x0 x1).2.1)).toInt64) hx hb dL_buy_8 rfl ?_
    have hV := kV_mid (show kV G (siteW G (opBuy S x0 x1).2.2 u_2 ++ ([(ol, .inl (kcL G, 1, .inr (.inl g)))] ++ wr)) _ from hV)
    refine va_last hx hb hK hV.1 hV.2 hS 0 3 rfl rfl (vp_in_nI (by decide) (by decide)) dL_buy_9 (fun H locs hP hD hS => ?_)
    have hV : kV G (siteW G (opBuy S x0 x1).2.2 u_2 ++ ([(ol, .inl (kcL G, 1, .inr (.inl (vp_updL g 0 (((opBuy S x0 x1).2.1)).toInt64))))] ++ wr)) _ := kV_mid (show kV G ([(ol, .inl (kcL G, 1, .inr (.inl (vp_updL g 0 (((opBuy S x0 x1).2.1)).toInt64))))] ++ (siteW G (opBuy S x0 x1).2.2 u_2 ++ wr)) _ from ⟨hP, hD⟩)
    refine lv_goto (tgt := 21) hx hb dL_buy_10 (by decide) ?_
    refine lv_iconst (v := nI 0) hx hb dL_buy_21 (by decide) ?_
    exact W.iret (v := nI 0) hx hb hrt (fun t ht hW => ⟨⟨_, (u_2, vp_updL g 0 (((opBuy S x0 x1).2.1)).toInt64), rfl, ⟨by rw [hp_10], hp_12, hp_13, fun _ => rfl⟩, kV_eq ht hV⟩, hS.F ht⟩) hS.2.2 dL_buy_22
set_option maxHeartbeats 4000000 in
set_option maxRecDepth 100000 in
theorem c_L_rule (l : Launch) (G : kG) (S : kS) (y : kY) (ol : Nat) (g : Nat → Int64) (wr : va_W) (x0 : Int32) (hlt : l.stackTraces = false) (hI : kInv S) (hY : yI G S y) : Met l yL_rule wsL_rule ({ frames := 8, cells := 2, slots := 12, locals := 134 } : Room) (kPc G [.ref (yH y 0), .int (x0), .ref (ol)] (siteW G S y ++ ([(ol, .inl (kcL G, 1, .inr (.inl g)))] ++ wr))) (kQi G (S := kY × (Nat → Int64)) (fun z u => z = nI (opRule S x0).1 ∧ yI G (opRule S x0).2.2 u.1 ∧ yH u.1 0 = yH y 0 ∧ ((opRule S x0).1 = 0 → u.2 0 = (opRule S x0).2.1.toInt64)) (fun u => siteW G (opRule S x0).2.2 u.1 ++ ([(ol, .inl (kcL G, 1, .inr (.inl u.2)))] ++ wr))) 2 12 (kA G) := by
  refine va_MetW (cc := cL_rule) (maxL := 4) (ret := (some .int)) (by decide) rfl ?_
  intro pp ee s m args below meth cc0 s₁ Bd0 hml hv
  obtain ⟨rfl, hE, hV⟩ := hv
  have hK := hE.1
  have hx := Bd0.exec
  have hb := Bd0.bytes
  have hrt := Bd0.returns
  have hts := atoms_spec (ws := wsL_rule) Bd0.pre
  have hown : s.vm.findClass RL = some m.cls := findClass_of_methodNamed Bd0.named
  have hlocks := Bd0.notSynchronized
  have htab := vx_table (x := yL_rule) Bd0 (hts (Cond.codeWith yL_rule cL_rule 4 (some .int) [(0, 9, 12, 13), (0, 9, 15, 17)]) (List.mem_of_getElem? (i := 0) rfl))
  have hF : CallFix pp m cc0 cL_rule 4 s _ wsL_rule RL := ⟨hx, hb, hml, hown, hts⟩
  have hS : va_S (kA G) s.heap s.heap [] := va_S.rf
  have hB0 := hE.2.1
  have hl := lv_entry ([.ref (yH y 0), .int (x0), .ref (ol)]) (n := 4) (Nat.le_of_ble_eq_true rfl)
  rw [lg_entry_eq]
  generalize (lg_sl ([.ref (yH y 0), .int (x0), .ref (ol)]) ++ List.replicate (4 - (lg_sl ([.ref (yH y 0), .int (x0), .ref (ol)])).length) Slot.unset).toArray = ls at hl ⊢
  have hl : lv_has ls 4 [(0, .ref (yH y 0)), (1, .int (x0)), (2, .ref (ol))] := hl
  refine lv_aload_n hx hb dL_rule_0 rfl (lv_at hl 2 rfl) ?_
  refine lv_iconst (v := nI 0) hx hb dL_rule_1 (by decide) ?_
  refine lv_aload_n hx hb dL_rule_2 rfl (lv_at hl 0 rfl) ?_
  refine lv_iload_n hx hb dL_rule_3 rfl (lv_at hl 1 rfl) ?_
  refine kx_i (vx_runV (As := [.int (x0)]) (rest := [.int (nI (0)), .ref (ol)]) hF (c_X5_rule l hlt G S y ([(ol, .inl (kcL G, 1, .inr (.inl g)))] ++ wr) x0 hI hY) (cwV 1 hts gL_rule_X5_rule rfl rfl rfl (by decide +kernel) ⟨Nat.le_of_ble_eq_true rfl, Nat.le_of_ble_eq_true rfl⟩) (kPreV hE hS hV 0 rfl rfl) rfl rfl hl.1 rfl (lv_room (Nat.le_of_ble_eq_true rfl)) dL_rule_4 ⟨Nat.le_of_ble_eq_true rfl, Nat.le_of_ble_eq_true rfl⟩) hS (fun E ce q9 H locs hxc hV hS hq1 hq2 hq3 => ?_) (fun r_3 u_2 H locs hp_1 hV hS => ?_)
  · rcases hxc with ⟨rfl, he9⟩ | ⟨rfl, he9⟩
    · have hop9 : (opRule S x0).2.2 = S := by
        have he8 : (opRule S x0).1 ≠ 0 := by omega
        revert he8
        unfold opRule kif
        (repeat' split) <;> first | exact fun _ => rfl | exact fun z => absurd rfl z
      refine vx_catch (name := "java/lang/IndexOutOfBoundsException") hown [] ⟨0, 9, 12, 13⟩ [⟨0, 9, 15, 17⟩] htab (fun z h => (List.not_mem_nil h).elim) (by decide) (by decide) (hts (Cond.classLink RL 13 "java/lang/IndexOutOfBoundsException") (List.mem_of_getElem? (i := 1) rfl)) ((hE.2.2.1 (.castable kIOB kIOB) (by decide +kernel)).use rfl) hq1 hq2 hq3 ?_
      refine lv_astore_n (lv' := [(3, .ref (q9)), (0, .ref (yH y 0)), (1, .int (x0)), (2, .ref (ol))]) hx hb dL_rule_12 rfl hl (by decide) rfl (fun ls hl => ?_)
      refine lv_iconst (v := nI 1) hx hb dL_rule_13 (by decide) ?_
      exact W.iret (v := nI 1) hx hb hrt (fun t ht hW => ⟨⟨_, (y, g), rfl, ⟨by rw [he9], by rw [hop9]; exact hY, rfl, fun z => absurd z (by omega)⟩, kV_eq ht (show kV G (siteW G (opRule S x0).2.2 y ++ ([(ol, .inl (kcL G, 1, .inr (.inl g)))] ++ wr)) _ by rw [hop9]; exact hV)⟩, hS.F ht⟩) hS.2.2 dL_rule_14
    · have hop9 : (opRule S x0).2.2 = S := by
        have he8 : (opRule S x0).1 ≠ 0 := by omega
        revert he8
        unfold opRule kif
        (repeat' split) <;> first | exact fun _ => rfl | exact fun z => absurd rfl z
      refine vx_catch (name := "java/lang/IllegalStateException") hown [⟨0, 9, 12, 13⟩] ⟨0, 9, 15, 17⟩ [] htab (fun z h => by
          rcases List.mem_cons.mp h with h | h
          · subst h; exact Or.inr ⟨by decide, _, (hts (Cond.classLink RL 13 "java/lang/IndexOutOfBoundsException") (List.mem_of_getElem? (i := 1) rfl)), hE.2.2.2.1 (kISE, kIOB) (by decide +kernel)⟩
          · exact (List.not_mem_nil h).elim) (by decide) (by decide) (hts (Cond.classLink RL 17 "java/lang/IllegalStateException") (List.mem_of_getElem? (i := 2) rfl)) ((hE.2.2.1 (.castable kISE kISE) (by decide +kernel)).use rfl) hq1 hq2 hq3 ?_
      refine lv_astore_n (lv' := [(3, .ref (q9)), (0, .ref (yH y 0)), (1, .int (x0)), (2, .ref (ol))]) hx hb dL_rule_15 rfl hl (by decide) rfl (fun ls hl => ?_)
      refine lv_iconst (v := nI 2) hx hb dL_rule_16 (by decide) ?_
      exact W.iret (v := nI 2) hx hb hrt (fun t ht hW => ⟨⟨_, (y, g), rfl, ⟨by rw [he9], by rw [hop9]; exact hY, rfl, fun z => absurd z (by omega)⟩, kV_eq ht (show kV G (siteW G (opRule S x0).2.2 y ++ ([(ol, .inl (kcL G, 1, .inr (.inl g)))] ++ wr)) _ by rw [hop9]; exact hV)⟩, hS.F ht⟩) hS.2.2 dL_rule_17
  · obtain ⟨hp_10, hp_11, hp_12, hp_13⟩ := hp_1
    subst hp_11
    have hV : kV G (siteW G ((opRule S x0).2.2) u_2 ++ ([(ol, .inl (kcL G, 1, .inr (.inl g)))] ++ wr)) _ := hV
    refine lv_i2l (v := (((opRule S x0).2.1)).toInt64) hx hb dL_rule_7 rfl ?_
    have hV := kV_mid (show kV G (siteW G (opRule S x0).2.2 u_2 ++ ([(ol, .inl (kcL G, 1, .inr (.inl g)))] ++ wr)) _ from hV)
    refine va_last hx hb hK hV.1 hV.2 hS 0 3 rfl rfl (vp_in_nI (by decide) (by decide)) dL_rule_8 (fun H locs hP hD hS => ?_)
    have hV : kV G (siteW G (opRule S x0).2.2 u_2 ++ ([(ol, .inl (kcL G, 1, .inr (.inl (vp_updL g 0 (((opRule S x0).2.1)).toInt64))))] ++ wr)) _ := kV_mid (show kV G ([(ol, .inl (kcL G, 1, .inr (.inl (vp_updL g 0 (((opRule S x0).2.1)).toInt64))))] ++ (siteW G (opRule S x0).2.2 u_2 ++ wr)) _ from ⟨hP, hD⟩)
    refine lv_goto (tgt := 18) hx hb dL_rule_9 (by decide) ?_
    refine lv_iconst (v := nI 0) hx hb dL_rule_18 (by decide) ?_
    exact W.iret (v := nI 0) hx hb hrt (fun t ht hW => ⟨⟨_, (u_2, vp_updL g 0 (((opRule S x0).2.1)).toInt64), rfl, ⟨by rw [hp_10], hp_12, hp_13, fun _ => rfl⟩, kV_eq ht hV⟩, hS.F ht⟩) hS.2.2 dL_rule_19
set_option maxHeartbeats 4000000 in
set_option maxRecDepth 100000 in
theorem c_L_money (l : Launch) (G : kG) (S : kS) (y : kY) (ol : Nat) (g : Nat → Int64) (wr : va_W) (x0 : Int32) (hlt : l.stackTraces = false) (hI : kInv S) (hY : yI G S y) : Met l yL_money wsL_money ({ frames := 8, cells := 1, slots := 6, locals := 131 } : Room) (kPc G [.ref (yH y 0), .int (x0), .ref (ol)] (siteW G S y ++ ([(ol, .inl (kcL G, 1, .inr (.inl g)))] ++ wr))) (kQi G (S := kY × (Nat → Int64)) (fun z u => z = nI (opMoney S x0).1 ∧ yI G (opMoney S x0).2.2 u.1 ∧ yH u.1 0 = yH y 0 ∧ ((opMoney S x0).1 = 0 → u.2 0 = (opMoney S x0).2.1.toInt64)) (fun u => siteW G (opMoney S x0).2.2 u.1 ++ ([(ol, .inl (kcL G, 1, .inr (.inl u.2)))] ++ wr))) 1 6 (kA G) := by
  refine va_MetW (cc := cL_money) (maxL := 4) (ret := (some .int)) (by decide) rfl ?_
  intro pp ee s m args below meth cc0 s₁ Bd0 hml hv
  obtain ⟨rfl, hE, hV⟩ := hv
  have hK := hE.1
  have hx := Bd0.exec
  have hb := Bd0.bytes
  have hrt := Bd0.returns
  have hts := atoms_spec (ws := wsL_money) Bd0.pre
  have hown : s.vm.findClass RL = some m.cls := findClass_of_methodNamed Bd0.named
  have hlocks := Bd0.notSynchronized
  have htab := vx_table (x := yL_money) Bd0 (hts (Cond.codeWith yL_money cL_money 4 (some .int) [(0, 9, 12, 13)]) (List.mem_of_getElem? (i := 0) rfl))
  have hF : CallFix pp m cc0 cL_money 4 s _ wsL_money RL := ⟨hx, hb, hml, hown, hts⟩
  have hS : va_S (kA G) s.heap s.heap [] := va_S.rf
  have hB0 := hE.2.1
  have hl := lv_entry ([.ref (yH y 0), .int (x0), .ref (ol)]) (n := 4) (Nat.le_of_ble_eq_true rfl)
  rw [lg_entry_eq]
  generalize (lg_sl ([.ref (yH y 0), .int (x0), .ref (ol)]) ++ List.replicate (4 - (lg_sl ([.ref (yH y 0), .int (x0), .ref (ol)])).length) Slot.unset).toArray = ls at hl ⊢
  have hl : lv_has ls 4 [(0, .ref (yH y 0)), (1, .int (x0)), (2, .ref (ol))] := hl
  refine lv_aload_n hx hb dL_money_0 rfl (lv_at hl 2 rfl) ?_
  refine lv_iconst (v := nI 0) hx hb dL_money_1 (by decide) ?_
  refine lv_aload_n hx hb dL_money_2 rfl (lv_at hl 0 rfl) ?_
  refine lv_iload_n hx hb dL_money_3 rfl (lv_at hl 1 rfl) ?_
  refine kx_i (vx_runV (As := [.int (x0)]) (rest := [.int (nI (0)), .ref (ol)]) hF (c_X5_money l hlt G S y ([(ol, .inl (kcL G, 1, .inr (.inl g)))] ++ wr) x0 hI hY) (cwV 1 hts gL_money_X5_money rfl rfl rfl (by decide +kernel) ⟨Nat.le_of_ble_eq_true rfl, Nat.le_of_ble_eq_true rfl⟩) (kPreV hE hS hV 0 rfl rfl) rfl rfl hl.1 rfl (lv_room (Nat.le_of_ble_eq_true rfl)) dL_money_4 ⟨Nat.le_of_ble_eq_true rfl, Nat.le_of_ble_eq_true rfl⟩) hS (fun E ce q9 H locs hxc hV hS hq1 hq2 hq3 => ?_) (fun r_3 u_2 H locs hp_1 hV hS => ?_)
  · obtain ⟨rfl, he9⟩ := hxc
    have hop9 : (opMoney S x0).2.2 = S := by
      have he8 : (opMoney S x0).1 ≠ 0 := by omega
      revert he8
      unfold opMoney kif
      (repeat' split) <;> first | exact fun _ => rfl | exact fun z => absurd rfl z
    refine vx_catch (name := "java/lang/IndexOutOfBoundsException") hown [] ⟨0, 9, 12, 13⟩ [] htab (fun z h => (List.not_mem_nil h).elim) (by decide) (by decide) (hts (Cond.classLink RL 13 "java/lang/IndexOutOfBoundsException") (List.mem_of_getElem? (i := 1) rfl)) ((hE.2.2.1 (.castable kIOB kIOB) (by decide +kernel)).use rfl) hq1 hq2 hq3 ?_
    refine lv_astore_n (lv' := [(3, .ref (q9)), (0, .ref (yH y 0)), (1, .int (x0)), (2, .ref (ol))]) hx hb dL_money_12 rfl hl (by decide) rfl (fun ls hl => ?_)
    refine lv_iconst (v := nI 1) hx hb dL_money_13 (by decide) ?_
    exact W.iret (v := nI 1) hx hb hrt (fun t ht hW => ⟨⟨_, (y, g), rfl, ⟨by rw [he9], by rw [hop9]; exact hY, rfl, fun z => absurd z (by omega)⟩, kV_eq ht (show kV G (siteW G (opMoney S x0).2.2 y ++ ([(ol, .inl (kcL G, 1, .inr (.inl g)))] ++ wr)) _ by rw [hop9]; exact hV)⟩, hS.F ht⟩) hS.2.2 dL_money_14
  · obtain ⟨hp_10, hp_11, hp_12, hp_13⟩ := hp_1
    subst hp_11
    have hV : kV G (siteW G ((opMoney S x0).2.2) u_2 ++ ([(ol, .inl (kcL G, 1, .inr (.inl g)))] ++ wr)) _ := hV
    refine lv_i2l (v := (((opMoney S x0).2.1)).toInt64) hx hb dL_money_7 rfl ?_
    have hV := kV_mid (show kV G (siteW G (opMoney S x0).2.2 u_2 ++ ([(ol, .inl (kcL G, 1, .inr (.inl g)))] ++ wr)) _ from hV)
    refine va_last hx hb hK hV.1 hV.2 hS 0 3 rfl rfl (vp_in_nI (by decide) (by decide)) dL_money_8 (fun H locs hP hD hS => ?_)
    have hV : kV G (siteW G (opMoney S x0).2.2 u_2 ++ ([(ol, .inl (kcL G, 1, .inr (.inl (vp_updL g 0 (((opMoney S x0).2.1)).toInt64))))] ++ wr)) _ := kV_mid (show kV G ([(ol, .inl (kcL G, 1, .inr (.inl (vp_updL g 0 (((opMoney S x0).2.1)).toInt64))))] ++ (siteW G (opMoney S x0).2.2 u_2 ++ wr)) _ from ⟨hP, hD⟩)
    refine lv_goto (tgt := 15) hx hb dL_money_9 (by decide) ?_
    refine lv_iconst (v := nI 0) hx hb dL_money_15 (by decide) ?_
    exact W.iret (v := nI 0) hx hb hrt (fun t ht hW => ⟨⟨_, (u_2, vp_updL g 0 (((opMoney S x0).2.1)).toInt64), rfl, ⟨by rw [hp_10], hp_12, hp_13, fun _ => rfl⟩, kV_eq ht hV⟩, hS.F ht⟩) hS.2.2 dL_money_16
set_option maxHeartbeats 4000000 in
set_option maxRecDepth 100000 in
theorem c_L_lot (l : Launch) (G : kG) (S : kS) (y : kY) (ol : Nat) (g : Nat → Int64) (wr : va_W) (x0 : Int32) (x1 : Int32) (x2 : Int32) (hlt : l.stackTraces = false) (hI : kInv S) (hY : yI G S y) : Met l yL_lot wsL_lot ({ frames := 9, cells := 6, slots := 80, locals := 215 } : Room) (kPc G [.ref (yH y 0), .int (x0), .int (x1), .int (x2), .ref (ol)] (siteW G S y ++ ([(ol, .inl (kcL G, 1, .inr (.inl g)))] ++ wr))) (kQi G (S := kY × (Nat → Int64)) (fun z u => z = nI (opLot S x0 x1 x2).1 ∧ yI G (opLot S x0 x1 x2).2.2 u.1 ∧ yH u.1 0 = yH y 0 ∧ ((opLot S x0 x1 x2).1 = 0 → u.2 0 = (opLot S x0 x1 x2).2.1.toInt64)) (fun u => siteW G (opLot S x0 x1 x2).2.2 u.1 ++ ([(ol, .inl (kcL G, 1, .inr (.inl u.2)))] ++ wr))) 6 80 (kA G) := by
  refine va_MetW (cc := cL_lot) (maxL := 6) (ret := (some .int)) (by decide) rfl ?_
  intro pp ee s m args below meth cc0 s₁ Bd0 hml hv
  obtain ⟨rfl, hE, hV⟩ := hv
  have hK := hE.1
  have hx := Bd0.exec
  have hb := Bd0.bytes
  have hrt := Bd0.returns
  have hts := atoms_spec (ws := wsL_lot) Bd0.pre
  have hown : s.vm.findClass RL = some m.cls := findClass_of_methodNamed Bd0.named
  have hlocks := Bd0.notSynchronized
  have htab := vx_table (x := yL_lot) Bd0 (hts (Cond.codeWith yL_lot cL_lot 6 (some .int) [(0, 12, 15, 13), (0, 12, 19, 15), (0, 12, 23, 17)]) (List.mem_of_getElem? (i := 0) rfl))
  have hF : CallFix pp m cc0 cL_lot 6 s _ wsL_lot RL := ⟨hx, hb, hml, hown, hts⟩
  have hS : va_S (kA G) s.heap s.heap [] := va_S.rf
  have hB0 := hE.2.1
  have hl := lv_entry ([.ref (yH y 0), .int (x0), .int (x1), .int (x2), .ref (ol)]) (n := 6) (Nat.le_of_ble_eq_true rfl)
  rw [lg_entry_eq]
  generalize (lg_sl ([.ref (yH y 0), .int (x0), .int (x1), .int (x2), .ref (ol)]) ++ List.replicate (6 - (lg_sl ([.ref (yH y 0), .int (x0), .int (x1), .int (x2), .ref (ol)])).length) Slot.unset).toArray = ls at hl ⊢
  have hl : lv_has ls 6 [(0, .ref (yH y 0)), (1, .int (x0)), (2, .int (x1)), (3, .int (x2)), (4, .ref (ol))] := hl
  refine lv_aload hx hb dL_lot_0 (lv_at hl 4 rfl) ?_
  refine lv_iconst (v := nI 0) hx hb dL_lot_2 (by decide) ?_
  refine lv_aload_n hx hb dL_lot_3 rfl (lv_at hl 0 rfl) ?_
  refine lv_iload_n hx hb dL_lot_4 rfl (lv_at hl 1 rfl) ?_
  refine lv_iload_n hx hb dL_lot_5 rfl (lv_at hl 2 rfl) ?_
  refine lv_iload_n hx hb dL_lot_6 rfl (lv_at hl 3 rfl) ?_
  refine kx_i (vx_runV (As := [.int (x0), .int (x1), .int (x2)]) (rest := [.int (nI (0)), .ref (ol)]) hF (c_X5_lot l hlt G S y ([(ol, .inl (kcL G, 1, .inr (.inl g)))] ++ wr) x0 x1 x2 hI hY) (cwV 3 hts gL_lot_X5_lot rfl rfl rfl (by decide +kernel) ⟨Nat.le_of_ble_eq_true rfl, Nat.le_of_ble_eq_true rfl⟩) (kPreV hE hS hV 0 rfl rfl) rfl rfl hl.1 rfl (lv_room (Nat.le_of_ble_eq_true rfl)) dL_lot_7 ⟨Nat.le_of_ble_eq_true rfl, Nat.le_of_ble_eq_true rfl⟩) hS (fun E ce q9 H locs hxc hV hS hq1 hq2 hq3 => ?_) (fun r_3 u_2 H locs hp_1 hV hS => ?_)
  · rcases hxc with ⟨rfl, he9⟩ | ⟨rfl, he9⟩ | ⟨rfl, he9⟩
    · have hop9 : (opLot S x0 x1 x2).2.2 = S := by
        have he8 : (opLot S x0 x1 x2).1 ≠ 0 := by omega
        revert he8
        unfold opLot kif
        (repeat' split) <;> first | exact fun _ => rfl | exact fun z => absurd rfl z
      refine vx_catch (name := "java/lang/IndexOutOfBoundsException") hown [] ⟨0, 12, 15, 13⟩ [⟨0, 12, 19, 15⟩, ⟨0, 12, 23, 17⟩] htab (fun z h => (List.not_mem_nil h).elim) (by decide) (by decide) (hts (Cond.classLink RL 13 "java/lang/IndexOutOfBoundsException") (List.mem_of_getElem? (i := 1) rfl)) ((hE.2.2.1 (.castable kIOB kIOB) (by decide +kernel)).use rfl) hq1 hq2 hq3 ?_
      refine lv_astore (lv' := [(5, .ref (q9)), (0, .ref (yH y 0)), (1, .int (x0)), (2, .int (x1)), (3, .int (x2)), (4, .ref (ol))]) hx hb dL_lot_15 hl (by decide) rfl (fun ls hl => ?_)
      refine lv_iconst (v := nI 1) hx hb dL_lot_17 (by decide) ?_
      exact W.iret (v := nI 1) hx hb hrt (fun t ht hW => ⟨⟨_, (y, g), rfl, ⟨by rw [he9], by rw [hop9]; exact hY, rfl, fun z => absurd z (by omega)⟩, kV_eq ht (show kV G (siteW G (opLot S x0 x1 x2).2.2 y ++ ([(ol, .inl (kcL G, 1, .inr (.inl g)))] ++ wr)) _ by rw [hop9]; exact hV)⟩, hS.F ht⟩) hS.2.2 dL_lot_18
    · have hop9 : (opLot S x0 x1 x2).2.2 = S := by
        have he8 : (opLot S x0 x1 x2).1 ≠ 0 := by omega
        revert he8
        unfold opLot kif
        (repeat' split) <;> first | exact fun _ => rfl | exact fun z => absurd rfl z
      refine vx_catch (name := "java/lang/IllegalArgumentException") hown [⟨0, 12, 15, 13⟩] ⟨0, 12, 19, 15⟩ [⟨0, 12, 23, 17⟩] htab (fun z h => by
          rcases List.mem_cons.mp h with h | h
          · subst h; exact Or.inr ⟨by decide, _, (hts (Cond.classLink RL 13 "java/lang/IndexOutOfBoundsException") (List.mem_of_getElem? (i := 1) rfl)), hE.2.2.2.1 (kIAE, kIOB) (by decide +kernel)⟩
          · exact (List.not_mem_nil h).elim) (by decide) (by decide) (hts (Cond.classLink RL 15 "java/lang/IllegalArgumentException") (List.mem_of_getElem? (i := 2) rfl)) ((hE.2.2.1 (.castable kIAE kIAE) (by decide +kernel)).use rfl) hq1 hq2 hq3 ?_
      refine lv_astore (lv' := [(5, .ref (q9)), (0, .ref (yH y 0)), (1, .int (x0)), (2, .int (x1)), (3, .int (x2)), (4, .ref (ol))]) hx hb dL_lot_19 hl (by decide) rfl (fun ls hl => ?_)
      refine lv_iconst (v := nI 2) hx hb dL_lot_21 (by decide) ?_
      exact W.iret (v := nI 2) hx hb hrt (fun t ht hW => ⟨⟨_, (y, g), rfl, ⟨by rw [he9], by rw [hop9]; exact hY, rfl, fun z => absurd z (by omega)⟩, kV_eq ht (show kV G (siteW G (opLot S x0 x1 x2).2.2 y ++ ([(ol, .inl (kcL G, 1, .inr (.inl g)))] ++ wr)) _ by rw [hop9]; exact hV)⟩, hS.F ht⟩) hS.2.2 dL_lot_22
    · have hop9 : (opLot S x0 x1 x2).2.2 = S := by
        have he8 : (opLot S x0 x1 x2).1 ≠ 0 := by omega
        revert he8
        unfold opLot kif
        (repeat' split) <;> first | exact fun _ => rfl | exact fun z => absurd rfl z
      refine vx_catch (name := "java/lang/IllegalStateException") hown [⟨0, 12, 15, 13⟩, ⟨0, 12, 19, 15⟩] ⟨0, 12, 23, 17⟩ [] htab (fun z h => by
          rcases List.mem_cons.mp h with h | h
          · subst h; exact Or.inr ⟨by decide, _, (hts (Cond.classLink RL 13 "java/lang/IndexOutOfBoundsException") (List.mem_of_getElem? (i := 1) rfl)), hE.2.2.2.1 (kISE, kIOB) (by decide +kernel)⟩
          · rcases List.mem_cons.mp h with h | h
            · subst h; exact Or.inr ⟨by decide, _, (hts (Cond.classLink RL 15 "java/lang/IllegalArgumentException") (List.mem_of_getElem? (i := 2) rfl)), hE.2.2.2.1 (kISE, kIAE) (by decide +kernel)⟩
            · exact (List.not_mem_nil h).elim) (by decide) (by decide) (hts (Cond.classLink RL 17 "java/lang/IllegalStateException") (List.mem_of_getElem? (i := 3) rfl)) ((hE.2.2.1 (.castable kISE kISE) (by decide +kernel)).use rfl) hq1 hq2 hq3 ?_
      refine lv_astore (lv' := [(5, .ref (q9)), (0, .ref (yH y 0)), (1, .int (x0)), (2, .int (x1)), (3, .int (x2)), (4, .ref (ol))]) hx hb dL_lot_23 hl (by decide) rfl (fun ls hl => ?_)
      refine lv_iconst (v := nI 3) hx hb dL_lot_25 (by decide) ?_
      exact W.iret (v := nI 3) hx hb hrt (fun t ht hW => ⟨⟨_, (y, g), rfl, ⟨by rw [he9], by rw [hop9]; exact hY, rfl, fun z => absurd z (by omega)⟩, kV_eq ht (show kV G (siteW G (opLot S x0 x1 x2).2.2 y ++ ([(ol, .inl (kcL G, 1, .inr (.inl g)))] ++ wr)) _ by rw [hop9]; exact hV)⟩, hS.F ht⟩) hS.2.2 dL_lot_26
  · obtain ⟨hp_10, hp_11, hp_12, hp_13⟩ := hp_1
    subst hp_11
    have hV : kV G (siteW G ((opLot S x0 x1 x2).2.2) u_2 ++ ([(ol, .inl (kcL G, 1, .inr (.inl g)))] ++ wr)) _ := hV
    refine lv_i2l (v := (((opLot S x0 x1 x2).2.1)).toInt64) hx hb dL_lot_10 rfl ?_
    have hV := kV_mid (show kV G (siteW G (opLot S x0 x1 x2).2.2 u_2 ++ ([(ol, .inl (kcL G, 1, .inr (.inl g)))] ++ wr)) _ from hV)
    refine va_last hx hb hK hV.1 hV.2 hS 0 3 rfl rfl (vp_in_nI (by decide) (by decide)) dL_lot_11 (fun H locs hP hD hS => ?_)
    have hV : kV G (siteW G (opLot S x0 x1 x2).2.2 u_2 ++ ([(ol, .inl (kcL G, 1, .inr (.inl (vp_updL g 0 (((opLot S x0 x1 x2).2.1)).toInt64))))] ++ wr)) _ := kV_mid (show kV G ([(ol, .inl (kcL G, 1, .inr (.inl (vp_updL g 0 (((opLot S x0 x1 x2).2.1)).toInt64))))] ++ (siteW G (opLot S x0 x1 x2).2.2 u_2 ++ wr)) _ from ⟨hP, hD⟩)
    refine lv_goto (tgt := 27) hx hb dL_lot_12 (by decide) ?_
    refine lv_iconst (v := nI 0) hx hb dL_lot_27 (by decide) ?_
    exact W.iret (v := nI 0) hx hb hrt (fun t ht hW => ⟨⟨_, (u_2, vp_updL g 0 (((opLot S x0 x1 x2).2.1)).toInt64), rfl, ⟨by rw [hp_10], hp_12, hp_13, fun _ => rfl⟩, kV_eq ht hV⟩, hS.F ht⟩) hS.2.2 dL_lot_28
set_option maxHeartbeats 4000000 in
set_option maxRecDepth 100000 in
theorem c_L_swap (l : Launch) (G : kG) (S : kS) (y : kY) (ol : Nat) (g : Nat → Int64) (wr : va_W) (x0 : Int32) (x1 : Int32) (hlt : l.stackTraces = false) (hI : kInv S) (hY : yI G S y) : Met l yL_swap wsL_swap ({ frames := 8, cells := 3, slots := 18, locals := 136 } : Room) (kPc G [.ref (yH y 0), .int (x0), .int (x1), .ref (ol)] (siteW G S y ++ ([(ol, .inl (kcL G, 1, .inr (.inl g)))] ++ wr))) (kQi G (S := kY × (Nat → Int64)) (fun z u => z = nI (opSwap S x0 x1).1 ∧ yI G (opSwap S x0 x1).2.2 u.1 ∧ yH u.1 0 = yH y 0 ∧ ((opSwap S x0 x1).1 = 0 → u.2 0 = (opSwap S x0 x1).2.1.toInt64)) (fun u => siteW G (opSwap S x0 x1).2.2 u.1 ++ ([(ol, .inl (kcL G, 1, .inr (.inl u.2)))] ++ wr))) 3 18 (kA G) := by
  refine va_MetW (cc := cL_swap) (maxL := 5) (ret := (some .int)) (by decide) rfl ?_
  intro pp ee s m args below meth cc0 s₁ Bd0 hml hv
  obtain ⟨rfl, hE, hV⟩ := hv
  have hK := hE.1
  have hx := Bd0.exec
  have hb := Bd0.bytes
  have hrt := Bd0.returns
  have hts := atoms_spec (ws := wsL_swap) Bd0.pre
  have hown : s.vm.findClass RL = some m.cls := findClass_of_methodNamed Bd0.named
  have hlocks := Bd0.notSynchronized
  have htab := vx_table (x := yL_swap) Bd0 (hts (Cond.codeWith yL_swap cL_swap 5 (some .int) [(0, 10, 13, 13), (0, 10, 17, 17)]) (List.mem_of_getElem? (i := 0) rfl))
  have hF : CallFix pp m cc0 cL_swap 5 s _ wsL_swap RL := ⟨hx, hb, hml, hown, hts⟩
  have hS : va_S (kA G) s.heap s.heap [] := va_S.rf
  have hB0 := hE.2.1
  have hl := lv_entry ([.ref (yH y 0), .int (x0), .int (x1), .ref (ol)]) (n := 5) (Nat.le_of_ble_eq_true rfl)
  rw [lg_entry_eq]
  generalize (lg_sl ([.ref (yH y 0), .int (x0), .int (x1), .ref (ol)]) ++ List.replicate (5 - (lg_sl ([.ref (yH y 0), .int (x0), .int (x1), .ref (ol)])).length) Slot.unset).toArray = ls at hl ⊢
  have hl : lv_has ls 5 [(0, .ref (yH y 0)), (1, .int (x0)), (2, .int (x1)), (3, .ref (ol))] := hl
  refine lv_aload_n hx hb dL_swap_0 rfl (lv_at hl 3 rfl) ?_
  refine lv_iconst (v := nI 0) hx hb dL_swap_1 (by decide) ?_
  refine lv_aload_n hx hb dL_swap_2 rfl (lv_at hl 0 rfl) ?_
  refine lv_iload_n hx hb dL_swap_3 rfl (lv_at hl 1 rfl) ?_
  refine lv_iload_n hx hb dL_swap_4 rfl (lv_at hl 2 rfl) ?_
  refine kx_i (vx_runV (As := [.int (x0), .int (x1)]) (rest := [.int (nI (0)), .ref (ol)]) hF (c_X5_swap l hlt G S y ([(ol, .inl (kcL G, 1, .inr (.inl g)))] ++ wr) x0 x1 hI hY) (cwV 2 hts gL_swap_X5_swap rfl rfl rfl (by decide +kernel) ⟨Nat.le_of_ble_eq_true rfl, Nat.le_of_ble_eq_true rfl⟩) (kPreV hE hS hV 0 rfl rfl) rfl rfl hl.1 rfl (lv_room (Nat.le_of_ble_eq_true rfl)) dL_swap_5 ⟨Nat.le_of_ble_eq_true rfl, Nat.le_of_ble_eq_true rfl⟩) hS (fun E ce q9 H locs hxc hV hS hq1 hq2 hq3 => ?_) (fun r_3 u_2 H locs hp_1 hV hS => ?_)
  · rcases hxc with ⟨rfl, he9⟩ | ⟨rfl, he9⟩
    · have hop9 : (opSwap S x0 x1).2.2 = S := by
        have he8 : (opSwap S x0 x1).1 ≠ 0 := by omega
        revert he8
        unfold opSwap kif
        (repeat' split) <;> first | exact fun _ => rfl | exact fun z => absurd rfl z
      refine vx_catch (name := "java/lang/IndexOutOfBoundsException") hown [] ⟨0, 10, 13, 13⟩ [⟨0, 10, 17, 17⟩] htab (fun z h => (List.not_mem_nil h).elim) (by decide) (by decide) (hts (Cond.classLink RL 13 "java/lang/IndexOutOfBoundsException") (List.mem_of_getElem? (i := 1) rfl)) ((hE.2.2.1 (.castable kIOB kIOB) (by decide +kernel)).use rfl) hq1 hq2 hq3 ?_
      refine lv_astore (lv' := [(4, .ref (q9)), (0, .ref (yH y 0)), (1, .int (x0)), (2, .int (x1)), (3, .ref (ol))]) hx hb dL_swap_13 hl (by decide) rfl (fun ls hl => ?_)
      refine lv_iconst (v := nI 1) hx hb dL_swap_15 (by decide) ?_
      exact W.iret (v := nI 1) hx hb hrt (fun t ht hW => ⟨⟨_, (y, g), rfl, ⟨by rw [he9], by rw [hop9]; exact hY, rfl, fun z => absurd z (by omega)⟩, kV_eq ht (show kV G (siteW G (opSwap S x0 x1).2.2 y ++ ([(ol, .inl (kcL G, 1, .inr (.inl g)))] ++ wr)) _ by rw [hop9]; exact hV)⟩, hS.F ht⟩) hS.2.2 dL_swap_16
    · have hop9 : (opSwap S x0 x1).2.2 = S := by
        have he8 : (opSwap S x0 x1).1 ≠ 0 := by omega
        revert he8
        unfold opSwap kif
        (repeat' split) <;> first | exact fun _ => rfl | exact fun z => absurd rfl z
      refine vx_catch (name := "java/lang/IllegalStateException") hown [⟨0, 10, 13, 13⟩] ⟨0, 10, 17, 17⟩ [] htab (fun z h => by
          rcases List.mem_cons.mp h with h | h
          · subst h; exact Or.inr ⟨by decide, _, (hts (Cond.classLink RL 13 "java/lang/IndexOutOfBoundsException") (List.mem_of_getElem? (i := 1) rfl)), hE.2.2.2.1 (kISE, kIOB) (by decide +kernel)⟩
          · exact (List.not_mem_nil h).elim) (by decide) (by decide) (hts (Cond.classLink RL 17 "java/lang/IllegalStateException") (List.mem_of_getElem? (i := 2) rfl)) ((hE.2.2.1 (.castable kISE kISE) (by decide +kernel)).use rfl) hq1 hq2 hq3 ?_
      refine lv_astore (lv' := [(4, .ref (q9)), (0, .ref (yH y 0)), (1, .int (x0)), (2, .int (x1)), (3, .ref (ol))]) hx hb dL_swap_17 hl (by decide) rfl (fun ls hl => ?_)
      refine lv_iconst (v := nI 2) hx hb dL_swap_19 (by decide) ?_
      exact W.iret (v := nI 2) hx hb hrt (fun t ht hW => ⟨⟨_, (y, g), rfl, ⟨by rw [he9], by rw [hop9]; exact hY, rfl, fun z => absurd z (by omega)⟩, kV_eq ht (show kV G (siteW G (opSwap S x0 x1).2.2 y ++ ([(ol, .inl (kcL G, 1, .inr (.inl g)))] ++ wr)) _ by rw [hop9]; exact hV)⟩, hS.F ht⟩) hS.2.2 dL_swap_20
  · obtain ⟨hp_10, hp_11, hp_12, hp_13⟩ := hp_1
    subst hp_11
    have hV : kV G (siteW G ((opSwap S x0 x1).2.2) u_2 ++ ([(ol, .inl (kcL G, 1, .inr (.inl g)))] ++ wr)) _ := hV
    refine lv_i2l (v := (((opSwap S x0 x1).2.1)).toInt64) hx hb dL_swap_8 rfl ?_
    have hV := kV_mid (show kV G (siteW G (opSwap S x0 x1).2.2 u_2 ++ ([(ol, .inl (kcL G, 1, .inr (.inl g)))] ++ wr)) _ from hV)
    refine va_last hx hb hK hV.1 hV.2 hS 0 3 rfl rfl (vp_in_nI (by decide) (by decide)) dL_swap_9 (fun H locs hP hD hS => ?_)
    have hV : kV G (siteW G (opSwap S x0 x1).2.2 u_2 ++ ([(ol, .inl (kcL G, 1, .inr (.inl (vp_updL g 0 (((opSwap S x0 x1).2.1)).toInt64))))] ++ wr)) _ := kV_mid (show kV G ([(ol, .inl (kcL G, 1, .inr (.inl (vp_updL g 0 (((opSwap S x0 x1).2.1)).toInt64))))] ++ (siteW G (opSwap S x0 x1).2.2 u_2 ++ wr)) _ from ⟨hP, hD⟩)
    refine lv_goto (tgt := 21) hx hb dL_swap_10 (by decide) ?_
    refine lv_iconst (v := nI 0) hx hb dL_swap_21 (by decide) ?_
    exact W.iret (v := nI 0) hx hb hrt (fun t ht hW => ⟨⟨_, (u_2, vp_updL g 0 (((opSwap S x0 x1).2.1)).toInt64), rfl, ⟨by rw [hp_10], hp_12, hp_13, fun _ => rfl⟩, kV_eq ht hV⟩, hS.F ht⟩) hS.2.2 dL_swap_22
set_option maxHeartbeats 4000000 in
set_option maxRecDepth 100000 in
theorem c_L_left (l : Launch) (G : kG) (S : kS) (y : kY) (ol : Nat) (g : Nat → Int64) (wr : va_W) (x0 : Int32) (hlt : l.stackTraces = false) (hI : kInv S) (hY : yI G S y) : Met l yL_left wsL_left ({ frames := 8, cells := 1, slots := 6, locals := 132 } : Room) (kPc G [.ref (yH y 0), .int (x0), .ref (ol)] (siteW G S y ++ ([(ol, .inl (kcL G, 1, .inr (.inl g)))] ++ wr))) (kQi G (S := kY × (Nat → Int64)) (fun z u => z = nI (opLeft S x0).1 ∧ yI G (opLeft S x0).2.2 u.1 ∧ yH u.1 0 = yH y 0 ∧ ((opLeft S x0).1 = 0 → u.2 0 = (opLeft S x0).2.1.toInt64)) (fun u => siteW G (opLeft S x0).2.2 u.1 ++ ([(ol, .inl (kcL G, 1, .inr (.inl u.2)))] ++ wr))) 1 6 (kA G) := by
  refine va_MetW (cc := cL_left) (maxL := 4) (ret := (some .int)) (by decide) rfl ?_
  intro pp ee s m args below meth cc0 s₁ Bd0 hml hv
  obtain ⟨rfl, hE, hV⟩ := hv
  have hK := hE.1
  have hx := Bd0.exec
  have hb := Bd0.bytes
  have hrt := Bd0.returns
  have hts := atoms_spec (ws := wsL_left) Bd0.pre
  have hown : s.vm.findClass RL = some m.cls := findClass_of_methodNamed Bd0.named
  have hlocks := Bd0.notSynchronized
  have htab := vx_table (x := yL_left) Bd0 (hts (Cond.codeWith yL_left cL_left 4 (some .int) [(0, 9, 12, 13)]) (List.mem_of_getElem? (i := 0) rfl))
  have hF : CallFix pp m cc0 cL_left 4 s _ wsL_left RL := ⟨hx, hb, hml, hown, hts⟩
  have hS : va_S (kA G) s.heap s.heap [] := va_S.rf
  have hB0 := hE.2.1
  have hl := lv_entry ([.ref (yH y 0), .int (x0), .ref (ol)]) (n := 4) (Nat.le_of_ble_eq_true rfl)
  rw [lg_entry_eq]
  generalize (lg_sl ([.ref (yH y 0), .int (x0), .ref (ol)]) ++ List.replicate (4 - (lg_sl ([.ref (yH y 0), .int (x0), .ref (ol)])).length) Slot.unset).toArray = ls at hl ⊢
  have hl : lv_has ls 4 [(0, .ref (yH y 0)), (1, .int (x0)), (2, .ref (ol))] := hl
  refine lv_aload_n hx hb dL_left_0 rfl (lv_at hl 2 rfl) ?_
  refine lv_iconst (v := nI 0) hx hb dL_left_1 (by decide) ?_
  refine lv_aload_n hx hb dL_left_2 rfl (lv_at hl 0 rfl) ?_
  refine lv_iload_n hx hb dL_left_3 rfl (lv_at hl 1 rfl) ?_
  refine kx_i (vx_runV (As := [.int (x0)]) (rest := [.int (nI (0)), .ref (ol)]) hF (c_X5_left l hlt G S y ([(ol, .inl (kcL G, 1, .inr (.inl g)))] ++ wr) x0 hI hY) (cwV 1 hts gL_left_X5_left rfl rfl rfl (by decide +kernel) ⟨Nat.le_of_ble_eq_true rfl, Nat.le_of_ble_eq_true rfl⟩) (kPreV hE hS hV 0 rfl rfl) rfl rfl hl.1 rfl (lv_room (Nat.le_of_ble_eq_true rfl)) dL_left_4 ⟨Nat.le_of_ble_eq_true rfl, Nat.le_of_ble_eq_true rfl⟩) hS (fun E ce q9 H locs hxc hV hS hq1 hq2 hq3 => ?_) (fun r_3 u_2 H locs hp_1 hV hS => ?_)
  · obtain ⟨rfl, he9⟩ := hxc
    have hop9 : (opLeft S x0).2.2 = S := by
      have he8 : (opLeft S x0).1 ≠ 0 := by omega
      revert he8
      unfold opLeft kif
      (repeat' split) <;> first | exact fun _ => rfl | exact fun z => absurd rfl z
    refine vx_catch (name := "java/lang/IndexOutOfBoundsException") hown [] ⟨0, 9, 12, 13⟩ [] htab (fun z h => (List.not_mem_nil h).elim) (by decide) (by decide) (hts (Cond.classLink RL 13 "java/lang/IndexOutOfBoundsException") (List.mem_of_getElem? (i := 1) rfl)) ((hE.2.2.1 (.castable kIOB kIOB) (by decide +kernel)).use rfl) hq1 hq2 hq3 ?_
    refine lv_astore_n (lv' := [(3, .ref (q9)), (0, .ref (yH y 0)), (1, .int (x0)), (2, .ref (ol))]) hx hb dL_left_12 rfl hl (by decide) rfl (fun ls hl => ?_)
    refine lv_iconst (v := nI 1) hx hb dL_left_13 (by decide) ?_
    exact W.iret (v := nI 1) hx hb hrt (fun t ht hW => ⟨⟨_, (y, g), rfl, ⟨by rw [he9], by rw [hop9]; exact hY, rfl, fun z => absurd z (by omega)⟩, kV_eq ht (show kV G (siteW G (opLeft S x0).2.2 y ++ ([(ol, .inl (kcL G, 1, .inr (.inl g)))] ++ wr)) _ by rw [hop9]; exact hV)⟩, hS.F ht⟩) hS.2.2 dL_left_14
  · obtain ⟨hp_10, hp_11, hp_12, hp_13⟩ := hp_1
    subst hp_11
    have hV : kV G (siteW G ((opLeft S x0).2.2) u_2 ++ ([(ol, .inl (kcL G, 1, .inr (.inl g)))] ++ wr)) _ := hV
    refine lv_i2l (v := (((opLeft S x0).2.1)).toInt64) hx hb dL_left_7 rfl ?_
    have hV := kV_mid (show kV G (siteW G (opLeft S x0).2.2 u_2 ++ ([(ol, .inl (kcL G, 1, .inr (.inl g)))] ++ wr)) _ from hV)
    refine va_last hx hb hK hV.1 hV.2 hS 0 3 rfl rfl (vp_in_nI (by decide) (by decide)) dL_left_8 (fun H locs hP hD hS => ?_)
    have hV : kV G (siteW G (opLeft S x0).2.2 u_2 ++ ([(ol, .inl (kcL G, 1, .inr (.inl (vp_updL g 0 (((opLeft S x0).2.1)).toInt64))))] ++ wr)) _ := kV_mid (show kV G ([(ol, .inl (kcL G, 1, .inr (.inl (vp_updL g 0 (((opLeft S x0).2.1)).toInt64))))] ++ (siteW G (opLeft S x0).2.2 u_2 ++ wr)) _ from ⟨hP, hD⟩)
    refine lv_goto (tgt := 15) hx hb dL_left_9 (by decide) ?_
    refine lv_iconst (v := nI 0) hx hb dL_left_15 (by decide) ?_
    exact W.iret (v := nI 0) hx hb hrt (fun t ht hW => ⟨⟨_, (u_2, vp_updL g 0 (((opLeft S x0).2.1)).toInt64), rfl, ⟨by rw [hp_10], hp_12, hp_13, fun _ => rfl⟩, kV_eq ht hV⟩, hS.F ht⟩) hS.2.2 dL_left_16
set_option maxHeartbeats 4000000 in
set_option maxRecDepth 100000 in
theorem c_L_project (l : Launch) (G : kG) (S : kS) (y : kY) (ol : Nat) (g : Nat → Int64) (wr : va_W) (x0 : Int32) (x1 : Int32) (x2 : Int32) (hlt : l.stackTraces = false) (hI : kInv S) (hY : yI G S y) : Met l yL_project wsL_project ({ frames := 8, cells := 6, slots := 80, locals := 217 } : Room) (kPc G [.ref (yH y 0), .int (x0), .int (x1), .int (x2), .ref (ol)] (siteW G S y ++ ([(ol, .inl (kcL G, 1, .inr (.inl g)))] ++ wr))) (kQi G (S := kY × (Nat → Int64)) (fun z u => z = nI (opProject S x0 x1 x2).1 ∧ yI G (opProject S x0 x1 x2).2.2 u.1 ∧ yH u.1 0 = yH y 0 ∧ ((opProject S x0 x1 x2).1 = 0 → u.2 0 = (opProject S x0 x1 x2).2.1.toInt64)) (fun u => siteW G (opProject S x0 x1 x2).2.2 u.1 ++ ([(ol, .inl (kcL G, 1, .inr (.inl u.2)))] ++ wr))) 6 80 (kA G) := by
  refine va_MetW (cc := cL_project) (maxL := 6) (ret := (some .int)) (by decide) rfl ?_
  intro pp ee s m args below meth cc0 s₁ Bd0 hml hv
  obtain ⟨rfl, hE, hV⟩ := hv
  have hK := hE.1
  have hx := Bd0.exec
  have hb := Bd0.bytes
  have hrt := Bd0.returns
  have hts := atoms_spec (ws := wsL_project) Bd0.pre
  have hown : s.vm.findClass RL = some m.cls := findClass_of_methodNamed Bd0.named
  have hlocks := Bd0.notSynchronized
  have htab := vx_table (x := yL_project) Bd0 (hts (Cond.codeWith yL_project cL_project 6 (some .int) [(0, 12, 15, 13), (0, 12, 19, 17)]) (List.mem_of_getElem? (i := 0) rfl))
  have hF : CallFix pp m cc0 cL_project 6 s _ wsL_project RL := ⟨hx, hb, hml, hown, hts⟩
  have hS : va_S (kA G) s.heap s.heap [] := va_S.rf
  have hB0 := hE.2.1
  have hl := lv_entry ([.ref (yH y 0), .int (x0), .int (x1), .int (x2), .ref (ol)]) (n := 6) (Nat.le_of_ble_eq_true rfl)
  rw [lg_entry_eq]
  generalize (lg_sl ([.ref (yH y 0), .int (x0), .int (x1), .int (x2), .ref (ol)]) ++ List.replicate (6 - (lg_sl ([.ref (yH y 0), .int (x0), .int (x1), .int (x2), .ref (ol)])).length) Slot.unset).toArray = ls at hl ⊢
  have hl : lv_has ls 6 [(0, .ref (yH y 0)), (1, .int (x0)), (2, .int (x1)), (3, .int (x2)), (4, .ref (ol))] := hl
  refine lv_aload hx hb dL_project_0 (lv_at hl 4 rfl) ?_
  refine lv_iconst (v := nI 0) hx hb dL_project_2 (by decide) ?_
  refine lv_aload_n hx hb dL_project_3 rfl (lv_at hl 0 rfl) ?_
  refine lv_iload_n hx hb dL_project_4 rfl (lv_at hl 1 rfl) ?_
  refine lv_iload_n hx hb dL_project_5 rfl (lv_at hl 2 rfl) ?_
  refine lv_iload_n hx hb dL_project_6 rfl (lv_at hl 3 rfl) ?_
  refine kx_i (vx_runV (As := [.int (x0), .int (x1), .int (x2)]) (rest := [.int (nI (0)), .ref (ol)]) hF (c_X5_project l hlt G S y ([(ol, .inl (kcL G, 1, .inr (.inl g)))] ++ wr) x0 x1 x2 hI hY) (cwV 3 hts gL_project_X5_project rfl rfl rfl (by decide +kernel) ⟨Nat.le_of_ble_eq_true rfl, Nat.le_of_ble_eq_true rfl⟩) (kPreV hE hS hV 0 rfl rfl) rfl rfl hl.1 rfl (lv_room (Nat.le_of_ble_eq_true rfl)) dL_project_7 ⟨Nat.le_of_ble_eq_true rfl, Nat.le_of_ble_eq_true rfl⟩) hS (fun E ce q9 H locs hxc hV hS hq1 hq2 hq3 => ?_) (fun r_3 u_2 H locs hp_1 hV hS => ?_)
  · rcases hxc with ⟨rfl, he9⟩ | ⟨rfl, he9⟩
    · have hop9 : (opProject S x0 x1 x2).2.2 = S := by
        have he8 : (opProject S x0 x1 x2).1 ≠ 0 := by omega
        revert he8
        unfold opProject kif
        (repeat' split) <;> first | exact fun _ => rfl | exact fun z => absurd rfl z
      refine vx_catch (name := "java/lang/IndexOutOfBoundsException") hown [] ⟨0, 12, 15, 13⟩ [⟨0, 12, 19, 17⟩] htab (fun z h => (List.not_mem_nil h).elim) (by decide) (by decide) (hts (Cond.classLink RL 13 "java/lang/IndexOutOfBoundsException") (List.mem_of_getElem? (i := 1) rfl)) ((hE.2.2.1 (.castable kIOB kIOB) (by decide +kernel)).use rfl) hq1 hq2 hq3 ?_
      refine lv_astore (lv' := [(5, .ref (q9)), (0, .ref (yH y 0)), (1, .int (x0)), (2, .int (x1)), (3, .int (x2)), (4, .ref (ol))]) hx hb dL_project_15 hl (by decide) rfl (fun ls hl => ?_)
      refine lv_iconst (v := nI 1) hx hb dL_project_17 (by decide) ?_
      exact W.iret (v := nI 1) hx hb hrt (fun t ht hW => ⟨⟨_, (y, g), rfl, ⟨by rw [he9], by rw [hop9]; exact hY, rfl, fun z => absurd z (by omega)⟩, kV_eq ht (show kV G (siteW G (opProject S x0 x1 x2).2.2 y ++ ([(ol, .inl (kcL G, 1, .inr (.inl g)))] ++ wr)) _ by rw [hop9]; exact hV)⟩, hS.F ht⟩) hS.2.2 dL_project_18
    · have hop9 : (opProject S x0 x1 x2).2.2 = S := by
        have he8 : (opProject S x0 x1 x2).1 ≠ 0 := by omega
        revert he8
        unfold opProject kif
        (repeat' split) <;> first | exact fun _ => rfl | exact fun z => absurd rfl z
      refine vx_catch (name := "java/lang/IllegalStateException") hown [⟨0, 12, 15, 13⟩] ⟨0, 12, 19, 17⟩ [] htab (fun z h => by
          rcases List.mem_cons.mp h with h | h
          · subst h; exact Or.inr ⟨by decide, _, (hts (Cond.classLink RL 13 "java/lang/IndexOutOfBoundsException") (List.mem_of_getElem? (i := 1) rfl)), hE.2.2.2.1 (kISE, kIOB) (by decide +kernel)⟩
          · exact (List.not_mem_nil h).elim) (by decide) (by decide) (hts (Cond.classLink RL 17 "java/lang/IllegalStateException") (List.mem_of_getElem? (i := 2) rfl)) ((hE.2.2.1 (.castable kISE kISE) (by decide +kernel)).use rfl) hq1 hq2 hq3 ?_
      refine lv_astore (lv' := [(5, .ref (q9)), (0, .ref (yH y 0)), (1, .int (x0)), (2, .int (x1)), (3, .int (x2)), (4, .ref (ol))]) hx hb dL_project_19 hl (by decide) rfl (fun ls hl => ?_)
      refine lv_iconst (v := nI 2) hx hb dL_project_21 (by decide) ?_
      exact W.iret (v := nI 2) hx hb hrt (fun t ht hW => ⟨⟨_, (y, g), rfl, ⟨by rw [he9], by rw [hop9]; exact hY, rfl, fun z => absurd z (by omega)⟩, kV_eq ht (show kV G (siteW G (opProject S x0 x1 x2).2.2 y ++ ([(ol, .inl (kcL G, 1, .inr (.inl g)))] ++ wr)) _ by rw [hop9]; exact hV)⟩, hS.F ht⟩) hS.2.2 dL_project_22
  · obtain ⟨hp_10, hp_11, hp_12, hp_13⟩ := hp_1
    subst hp_11
    have hV : kV G (siteW G ((opProject S x0 x1 x2).2.2) u_2 ++ ([(ol, .inl (kcL G, 1, .inr (.inl g)))] ++ wr)) _ := hV
    refine lv_i2l (v := (((opProject S x0 x1 x2).2.1)).toInt64) hx hb dL_project_10 rfl ?_
    have hV := kV_mid (show kV G (siteW G (opProject S x0 x1 x2).2.2 u_2 ++ ([(ol, .inl (kcL G, 1, .inr (.inl g)))] ++ wr)) _ from hV)
    refine va_last hx hb hK hV.1 hV.2 hS 0 3 rfl rfl (vp_in_nI (by decide) (by decide)) dL_project_11 (fun H locs hP hD hS => ?_)
    have hV : kV G (siteW G (opProject S x0 x1 x2).2.2 u_2 ++ ([(ol, .inl (kcL G, 1, .inr (.inl (vp_updL g 0 (((opProject S x0 x1 x2).2.1)).toInt64))))] ++ wr)) _ := kV_mid (show kV G ([(ol, .inl (kcL G, 1, .inr (.inl (vp_updL g 0 (((opProject S x0 x1 x2).2.1)).toInt64))))] ++ (siteW G (opProject S x0 x1 x2).2.2 u_2 ++ wr)) _ from ⟨hP, hD⟩)
    refine lv_goto (tgt := 23) hx hb dL_project_12 (by decide) ?_
    refine lv_iconst (v := nI 0) hx hb dL_project_23 (by decide) ?_
    exact W.iret (v := nI 0) hx hb hrt (fun t ht hW => ⟨⟨_, (u_2, vp_updL g 0 (((opProject S x0 x1 x2).2.1)).toInt64), rfl, ⟨by rw [hp_10], hp_12, hp_13, fun _ => rfl⟩, kV_eq ht hV⟩, hS.F ht⟩) hS.2.2 dL_project_24
set_option maxHeartbeats 4000000 in
set_option maxRecDepth 100000 in
theorem c_L_take (l : Launch) (G : kG) (S : kS) (y : kY) (ol : Nat) (g : Nat → Int64) (wr : va_W) (x0 : Int32) (x1 : Int32) (hlt : l.stackTraces = false) (hI : kInv S) (hY : yI G S y) : Met l yL_take wsL_take ({ frames := 8, cells := 3, slots := 18, locals := 136 } : Room) (kPc G [.ref (yH y 0), .int (x0), .int (x1), .ref (ol)] (siteW G S y ++ ([(ol, .inl (kcL G, 1, .inr (.inl g)))] ++ wr))) (kQi G (S := kY × (Nat → Int64)) (fun z u => z = nI (opTake S x0 x1).1 ∧ yI G (opTake S x0 x1).2.2 u.1 ∧ yH u.1 0 = yH y 0 ∧ ((opTake S x0 x1).1 = 0 → u.2 0 = (opTake S x0 x1).2.1.toInt64)) (fun u => siteW G (opTake S x0 x1).2.2 u.1 ++ ([(ol, .inl (kcL G, 1, .inr (.inl u.2)))] ++ wr))) 3 18 (kA G) := by
  refine va_MetW (cc := cL_take) (maxL := 5) (ret := (some .int)) (by decide) rfl ?_
  intro pp ee s m args below meth cc0 s₁ Bd0 hml hv
  obtain ⟨rfl, hE, hV⟩ := hv
  have hK := hE.1
  have hx := Bd0.exec
  have hb := Bd0.bytes
  have hrt := Bd0.returns
  have hts := atoms_spec (ws := wsL_take) Bd0.pre
  have hown : s.vm.findClass RL = some m.cls := findClass_of_methodNamed Bd0.named
  have hlocks := Bd0.notSynchronized
  have htab := vx_table (x := yL_take) Bd0 (hts (Cond.codeWith yL_take cL_take 5 (some .int) [(0, 10, 13, 13), (0, 10, 17, 17)]) (List.mem_of_getElem? (i := 0) rfl))
  have hF : CallFix pp m cc0 cL_take 5 s _ wsL_take RL := ⟨hx, hb, hml, hown, hts⟩
  have hS : va_S (kA G) s.heap s.heap [] := va_S.rf
  have hB0 := hE.2.1
  have hl := lv_entry ([.ref (yH y 0), .int (x0), .int (x1), .ref (ol)]) (n := 5) (Nat.le_of_ble_eq_true rfl)
  rw [lg_entry_eq]
  generalize (lg_sl ([.ref (yH y 0), .int (x0), .int (x1), .ref (ol)]) ++ List.replicate (5 - (lg_sl ([.ref (yH y 0), .int (x0), .int (x1), .ref (ol)])).length) Slot.unset).toArray = ls at hl ⊢
  have hl : lv_has ls 5 [(0, .ref (yH y 0)), (1, .int (x0)), (2, .int (x1)), (3, .ref (ol))] := hl
  refine lv_aload_n hx hb dL_take_0 rfl (lv_at hl 3 rfl) ?_
  refine lv_iconst (v := nI 0) hx hb dL_take_1 (by decide) ?_
  refine lv_aload_n hx hb dL_take_2 rfl (lv_at hl 0 rfl) ?_
  refine lv_iload_n hx hb dL_take_3 rfl (lv_at hl 1 rfl) ?_
  refine lv_iload_n hx hb dL_take_4 rfl (lv_at hl 2 rfl) ?_
  refine kx_i (vx_runV (As := [.int (x0), .int (x1)]) (rest := [.int (nI (0)), .ref (ol)]) hF (c_X5_take l hlt G S y ([(ol, .inl (kcL G, 1, .inr (.inl g)))] ++ wr) x0 x1 hI hY) (cwV 2 hts gL_take_X5_take rfl rfl rfl (by decide +kernel) ⟨Nat.le_of_ble_eq_true rfl, Nat.le_of_ble_eq_true rfl⟩) (kPreV hE hS hV 0 rfl rfl) rfl rfl hl.1 rfl (lv_room (Nat.le_of_ble_eq_true rfl)) dL_take_5 ⟨Nat.le_of_ble_eq_true rfl, Nat.le_of_ble_eq_true rfl⟩) hS (fun E ce q9 H locs hxc hV hS hq1 hq2 hq3 => ?_) (fun r_3 u_2 H locs hp_1 hV hS => ?_)
  · rcases hxc with ⟨rfl, he9⟩ | ⟨rfl, he9⟩
    · have hop9 : (opTake S x0 x1).2.2 = S := by
        have he8 : (opTake S x0 x1).1 ≠ 0 := by omega
        revert he8
        unfold opTake kif
        (repeat' split) <;> first | exact fun _ => rfl | exact fun z => absurd rfl z
      refine vx_catch (name := "java/lang/IndexOutOfBoundsException") hown [] ⟨0, 10, 13, 13⟩ [⟨0, 10, 17, 17⟩] htab (fun z h => (List.not_mem_nil h).elim) (by decide) (by decide) (hts (Cond.classLink RL 13 "java/lang/IndexOutOfBoundsException") (List.mem_of_getElem? (i := 1) rfl)) ((hE.2.2.1 (.castable kIOB kIOB) (by decide +kernel)).use rfl) hq1 hq2 hq3 ?_
      refine lv_astore (lv' := [(4, .ref (q9)), (0, .ref (yH y 0)), (1, .int (x0)), (2, .int (x1)), (3, .ref (ol))]) hx hb dL_take_13 hl (by decide) rfl (fun ls hl => ?_)
      refine lv_iconst (v := nI 1) hx hb dL_take_15 (by decide) ?_
      exact W.iret (v := nI 1) hx hb hrt (fun t ht hW => ⟨⟨_, (y, g), rfl, ⟨by rw [he9], by rw [hop9]; exact hY, rfl, fun z => absurd z (by omega)⟩, kV_eq ht (show kV G (siteW G (opTake S x0 x1).2.2 y ++ ([(ol, .inl (kcL G, 1, .inr (.inl g)))] ++ wr)) _ by rw [hop9]; exact hV)⟩, hS.F ht⟩) hS.2.2 dL_take_16
    · have hop9 : (opTake S x0 x1).2.2 = S := by
        have he8 : (opTake S x0 x1).1 ≠ 0 := by omega
        revert he8
        unfold opTake kif
        (repeat' split) <;> first | exact fun _ => rfl | exact fun z => absurd rfl z
      refine vx_catch (name := "java/lang/IllegalStateException") hown [⟨0, 10, 13, 13⟩] ⟨0, 10, 17, 17⟩ [] htab (fun z h => by
          rcases List.mem_cons.mp h with h | h
          · subst h; exact Or.inr ⟨by decide, _, (hts (Cond.classLink RL 13 "java/lang/IndexOutOfBoundsException") (List.mem_of_getElem? (i := 1) rfl)), hE.2.2.2.1 (kISE, kIOB) (by decide +kernel)⟩
          · exact (List.not_mem_nil h).elim) (by decide) (by decide) (hts (Cond.classLink RL 17 "java/lang/IllegalStateException") (List.mem_of_getElem? (i := 2) rfl)) ((hE.2.2.1 (.castable kISE kISE) (by decide +kernel)).use rfl) hq1 hq2 hq3 ?_
      refine lv_astore (lv' := [(4, .ref (q9)), (0, .ref (yH y 0)), (1, .int (x0)), (2, .int (x1)), (3, .ref (ol))]) hx hb dL_take_17 hl (by decide) rfl (fun ls hl => ?_)
      refine lv_iconst (v := nI 2) hx hb dL_take_19 (by decide) ?_
      exact W.iret (v := nI 2) hx hb hrt (fun t ht hW => ⟨⟨_, (y, g), rfl, ⟨by rw [he9], by rw [hop9]; exact hY, rfl, fun z => absurd z (by omega)⟩, kV_eq ht (show kV G (siteW G (opTake S x0 x1).2.2 y ++ ([(ol, .inl (kcL G, 1, .inr (.inl g)))] ++ wr)) _ by rw [hop9]; exact hV)⟩, hS.F ht⟩) hS.2.2 dL_take_20
  · obtain ⟨hp_10, hp_11, hp_12, hp_13⟩ := hp_1
    subst hp_11
    have hV : kV G (siteW G ((opTake S x0 x1).2.2) u_2 ++ ([(ol, .inl (kcL G, 1, .inr (.inl g)))] ++ wr)) _ := hV
    refine lv_i2l (v := (((opTake S x0 x1).2.1)).toInt64) hx hb dL_take_8 rfl ?_
    have hV := kV_mid (show kV G (siteW G (opTake S x0 x1).2.2 u_2 ++ ([(ol, .inl (kcL G, 1, .inr (.inl g)))] ++ wr)) _ from hV)
    refine va_last hx hb hK hV.1 hV.2 hS 0 3 rfl rfl (vp_in_nI (by decide) (by decide)) dL_take_9 (fun H locs hP hD hS => ?_)
    have hV : kV G (siteW G (opTake S x0 x1).2.2 u_2 ++ ([(ol, .inl (kcL G, 1, .inr (.inl (vp_updL g 0 (((opTake S x0 x1).2.1)).toInt64))))] ++ wr)) _ := kV_mid (show kV G ([(ol, .inl (kcL G, 1, .inr (.inl (vp_updL g 0 (((opTake S x0 x1).2.1)).toInt64))))] ++ (siteW G (opTake S x0 x1).2.2 u_2 ++ wr)) _ from ⟨hP, hD⟩)
    refine lv_goto (tgt := 21) hx hb dL_take_10 (by decide) ?_
    refine lv_iconst (v := nI 0) hx hb dL_take_21 (by decide) ?_
    exact W.iret (v := nI 0) hx hb hrt (fun t ht hW => ⟨⟨_, (u_2, vp_updL g 0 (((opTake S x0 x1).2.1)).toInt64), rfl, ⟨by rw [hp_10], hp_12, hp_13, fun _ => rfl⟩, kV_eq ht hV⟩, hS.F ht⟩) hS.2.2 dL_take_22
set_option maxHeartbeats 4000000 in
set_option maxRecDepth 100000 in
theorem c_L_knit (l : Launch) (G : kG) (S : kS) (y : kY) (ol : Nat) (g : Nat → Int64) (wr : va_W) (x0 : Int32) (x1 : Int32) (hlt : l.stackTraces = false) (hI : kInv S) (hY : yI G S y) : Met l yL_knit wsL_knit ({ frames := 8, cells := 2, slots := 12, locals := 135 } : Room) (kPc G [.ref (yH y 0), .int (x0), .int (x1), .ref (ol)] (siteW G S y ++ ([(ol, .inl (kcL G, 1, .inr (.inl g)))] ++ wr))) (kQi G (S := kY × (Nat → Int64)) (fun z u => z = nI (opKnit S x0 x1).1 ∧ yI G (opKnit S x0 x1).2.2 u.1 ∧ yH u.1 0 = yH y 0 ∧ ((opKnit S x0 x1).1 = 0 → u.2 0 = (opKnit S x0 x1).2.1.toInt64)) (fun u => siteW G (opKnit S x0 x1).2.2 u.1 ++ ([(ol, .inl (kcL G, 1, .inr (.inl u.2)))] ++ wr))) 2 12 (kA G) := by
  refine va_MetW (cc := cL_knit) (maxL := 5) (ret := (some .int)) (by decide) rfl ?_
  intro pp ee s m args below meth cc0 s₁ Bd0 hml hv
  obtain ⟨rfl, hE, hV⟩ := hv
  have hK := hE.1
  have hx := Bd0.exec
  have hb := Bd0.bytes
  have hrt := Bd0.returns
  have hts := atoms_spec (ws := wsL_knit) Bd0.pre
  have hown : s.vm.findClass RL = some m.cls := findClass_of_methodNamed Bd0.named
  have hlocks := Bd0.notSynchronized
  have htab := vx_table (x := yL_knit) Bd0 (hts (Cond.codeWith yL_knit cL_knit 5 (some .int) [(0, 10, 13, 13), (0, 10, 17, 15)]) (List.mem_of_getElem? (i := 0) rfl))
  have hF : CallFix pp m cc0 cL_knit 5 s _ wsL_knit RL := ⟨hx, hb, hml, hown, hts⟩
  have hS : va_S (kA G) s.heap s.heap [] := va_S.rf
  have hB0 := hE.2.1
  have hl := lv_entry ([.ref (yH y 0), .int (x0), .int (x1), .ref (ol)]) (n := 5) (Nat.le_of_ble_eq_true rfl)
  rw [lg_entry_eq]
  generalize (lg_sl ([.ref (yH y 0), .int (x0), .int (x1), .ref (ol)]) ++ List.replicate (5 - (lg_sl ([.ref (yH y 0), .int (x0), .int (x1), .ref (ol)])).length) Slot.unset).toArray = ls at hl ⊢
  have hl : lv_has ls 5 [(0, .ref (yH y 0)), (1, .int (x0)), (2, .int (x1)), (3, .ref (ol))] := hl
  refine lv_aload_n hx hb dL_knit_0 rfl (lv_at hl 3 rfl) ?_
  refine lv_iconst (v := nI 0) hx hb dL_knit_1 (by decide) ?_
  refine lv_aload_n hx hb dL_knit_2 rfl (lv_at hl 0 rfl) ?_
  refine lv_iload_n hx hb dL_knit_3 rfl (lv_at hl 1 rfl) ?_
  refine lv_iload_n hx hb dL_knit_4 rfl (lv_at hl 2 rfl) ?_
  refine kx_i (vx_runV (As := [.int (x0), .int (x1)]) (rest := [.int (nI (0)), .ref (ol)]) hF (c_X5_knit l hlt G S y ([(ol, .inl (kcL G, 1, .inr (.inl g)))] ++ wr) x0 x1 hI hY) (cwV 2 hts gL_knit_X5_knit rfl rfl rfl (by decide +kernel) ⟨Nat.le_of_ble_eq_true rfl, Nat.le_of_ble_eq_true rfl⟩) (kPreV hE hS hV 0 rfl rfl) rfl rfl hl.1 rfl (lv_room (Nat.le_of_ble_eq_true rfl)) dL_knit_5 ⟨Nat.le_of_ble_eq_true rfl, Nat.le_of_ble_eq_true rfl⟩) hS (fun E ce q9 H locs hxc hV hS hq1 hq2 hq3 => ?_) (fun r_3 u_2 H locs hp_1 hV hS => ?_)
  · rcases hxc with ⟨rfl, he9⟩ | ⟨rfl, he9⟩
    · have hop9 : (opKnit S x0 x1).2.2 = S := by
        have he8 : (opKnit S x0 x1).1 ≠ 0 := by omega
        revert he8
        unfold opKnit kif
        (repeat' split) <;> first | exact fun _ => rfl | exact fun z => absurd rfl z
      refine vx_catch (name := "java/lang/IndexOutOfBoundsException") hown [] ⟨0, 10, 13, 13⟩ [⟨0, 10, 17, 15⟩] htab (fun z h => (List.not_mem_nil h).elim) (by decide) (by decide) (hts (Cond.classLink RL 13 "java/lang/IndexOutOfBoundsException") (List.mem_of_getElem? (i := 1) rfl)) ((hE.2.2.1 (.castable kIOB kIOB) (by decide +kernel)).use rfl) hq1 hq2 hq3 ?_
      refine lv_astore (lv' := [(4, .ref (q9)), (0, .ref (yH y 0)), (1, .int (x0)), (2, .int (x1)), (3, .ref (ol))]) hx hb dL_knit_13 hl (by decide) rfl (fun ls hl => ?_)
      refine lv_iconst (v := nI 1) hx hb dL_knit_15 (by decide) ?_
      exact W.iret (v := nI 1) hx hb hrt (fun t ht hW => ⟨⟨_, (y, g), rfl, ⟨by rw [he9], by rw [hop9]; exact hY, rfl, fun z => absurd z (by omega)⟩, kV_eq ht (show kV G (siteW G (opKnit S x0 x1).2.2 y ++ ([(ol, .inl (kcL G, 1, .inr (.inl g)))] ++ wr)) _ by rw [hop9]; exact hV)⟩, hS.F ht⟩) hS.2.2 dL_knit_16
    · have hop9 : (opKnit S x0 x1).2.2 = S := by
        have he8 : (opKnit S x0 x1).1 ≠ 0 := by omega
        revert he8
        unfold opKnit kif
        (repeat' split) <;> first | exact fun _ => rfl | exact fun z => absurd rfl z
      refine vx_catch (name := "java/lang/IllegalArgumentException") hown [⟨0, 10, 13, 13⟩] ⟨0, 10, 17, 15⟩ [] htab (fun z h => by
          rcases List.mem_cons.mp h with h | h
          · subst h; exact Or.inr ⟨by decide, _, (hts (Cond.classLink RL 13 "java/lang/IndexOutOfBoundsException") (List.mem_of_getElem? (i := 1) rfl)), hE.2.2.2.1 (kIAE, kIOB) (by decide +kernel)⟩
          · exact (List.not_mem_nil h).elim) (by decide) (by decide) (hts (Cond.classLink RL 15 "java/lang/IllegalArgumentException") (List.mem_of_getElem? (i := 2) rfl)) ((hE.2.2.1 (.castable kIAE kIAE) (by decide +kernel)).use rfl) hq1 hq2 hq3 ?_
      refine lv_astore (lv' := [(4, .ref (q9)), (0, .ref (yH y 0)), (1, .int (x0)), (2, .int (x1)), (3, .ref (ol))]) hx hb dL_knit_17 hl (by decide) rfl (fun ls hl => ?_)
      refine lv_iconst (v := nI 2) hx hb dL_knit_19 (by decide) ?_
      exact W.iret (v := nI 2) hx hb hrt (fun t ht hW => ⟨⟨_, (y, g), rfl, ⟨by rw [he9], by rw [hop9]; exact hY, rfl, fun z => absurd z (by omega)⟩, kV_eq ht (show kV G (siteW G (opKnit S x0 x1).2.2 y ++ ([(ol, .inl (kcL G, 1, .inr (.inl g)))] ++ wr)) _ by rw [hop9]; exact hV)⟩, hS.F ht⟩) hS.2.2 dL_knit_20
  · obtain ⟨hp_10, hp_11, hp_12, hp_13⟩ := hp_1
    subst hp_11
    have hV : kV G (siteW G ((opKnit S x0 x1).2.2) u_2 ++ ([(ol, .inl (kcL G, 1, .inr (.inl g)))] ++ wr)) _ := hV
    refine lv_i2l (v := (((opKnit S x0 x1).2.1)).toInt64) hx hb dL_knit_8 rfl ?_
    have hV := kV_mid (show kV G (siteW G (opKnit S x0 x1).2.2 u_2 ++ ([(ol, .inl (kcL G, 1, .inr (.inl g)))] ++ wr)) _ from hV)
    refine va_last hx hb hK hV.1 hV.2 hS 0 3 rfl rfl (vp_in_nI (by decide) (by decide)) dL_knit_9 (fun H locs hP hD hS => ?_)
    have hV : kV G (siteW G (opKnit S x0 x1).2.2 u_2 ++ ([(ol, .inl (kcL G, 1, .inr (.inl (vp_updL g 0 (((opKnit S x0 x1).2.1)).toInt64))))] ++ wr)) _ := kV_mid (show kV G ([(ol, .inl (kcL G, 1, .inr (.inl (vp_updL g 0 (((opKnit S x0 x1).2.1)).toInt64))))] ++ (siteW G (opKnit S x0 x1).2.2 u_2 ++ wr)) _ from ⟨hP, hD⟩)
    refine lv_goto (tgt := 21) hx hb dL_knit_10 (by decide) ?_
    refine lv_iconst (v := nI 0) hx hb dL_knit_21 (by decide) ?_
    exact W.iret (v := nI 0) hx hb hrt (fun t ht hW => ⟨⟨_, (u_2, vp_updL g 0 (((opKnit S x0 x1).2.1)).toInt64), rfl, ⟨by rw [hp_10], hp_12, hp_13, fun _ => rfl⟩, kV_eq ht hV⟩, hS.F ht⟩) hS.2.2 dL_knit_22
set_option maxHeartbeats 4000000 in
set_option maxRecDepth 100000 in
theorem c_L_progress (l : Launch) (G : kG) (S : kS) (y : kY) (ol : Nat) (g : Nat → Int64) (wr : va_W) (x0 : Int32) (hlt : l.stackTraces = false) (hI : kInv S) (hY : yI G S y) : Met l yL_progress wsL_progress ({ frames := 8, cells := 1, slots := 6, locals := 132 } : Room) (kPc G [.ref (yH y 0), .int (x0), .ref (ol)] (siteW G S y ++ ([(ol, .inl (kcL G, 1, .inr (.inl g)))] ++ wr))) (kQi G (S := kY × (Nat → Int64)) (fun z u => z = nI (opProgress S x0).1 ∧ yI G (opProgress S x0).2.2 u.1 ∧ yH u.1 0 = yH y 0 ∧ ((opProgress S x0).1 = 0 → u.2 0 = (opProgress S x0).2.1.toInt64)) (fun u => siteW G (opProgress S x0).2.2 u.1 ++ ([(ol, .inl (kcL G, 1, .inr (.inl u.2)))] ++ wr))) 1 6 (kA G) := by
  refine va_MetW (cc := cL_progress) (maxL := 4) (ret := (some .int)) (by decide) rfl ?_
  intro pp ee s m args below meth cc0 s₁ Bd0 hml hv
  obtain ⟨rfl, hE, hV⟩ := hv
  have hK := hE.1
  have hx := Bd0.exec
  have hb := Bd0.bytes
  have hrt := Bd0.returns
  have hts := atoms_spec (ws := wsL_progress) Bd0.pre
  have hown : s.vm.findClass RL = some m.cls := findClass_of_methodNamed Bd0.named
  have hlocks := Bd0.notSynchronized
  have htab := vx_table (x := yL_progress) Bd0 (hts (Cond.codeWith yL_progress cL_progress 4 (some .int) [(0, 9, 12, 13)]) (List.mem_of_getElem? (i := 0) rfl))
  have hF : CallFix pp m cc0 cL_progress 4 s _ wsL_progress RL := ⟨hx, hb, hml, hown, hts⟩
  have hS : va_S (kA G) s.heap s.heap [] := va_S.rf
  have hB0 := hE.2.1
  have hl := lv_entry ([.ref (yH y 0), .int (x0), .ref (ol)]) (n := 4) (Nat.le_of_ble_eq_true rfl)
  rw [lg_entry_eq]
  generalize (lg_sl ([.ref (yH y 0), .int (x0), .ref (ol)]) ++ List.replicate (4 - (lg_sl ([.ref (yH y 0), .int (x0), .ref (ol)])).length) Slot.unset).toArray = ls at hl ⊢
  have hl : lv_has ls 4 [(0, .ref (yH y 0)), (1, .int (x0)), (2, .ref (ol))] := hl
  refine lv_aload_n hx hb dL_progress_0 rfl (lv_at hl 2 rfl) ?_
  refine lv_iconst (v := nI 0) hx hb dL_progress_1 (by decide) ?_
  refine lv_aload_n hx hb dL_progress_2 rfl (lv_at hl 0 rfl) ?_
  refine lv_iload_n hx hb dL_progress_3 rfl (lv_at hl 1 rfl) ?_
  refine kx_i (vx_runV (As := [.int (x0)]) (rest := [.int (nI (0)), .ref (ol)]) hF (c_X5_progress l hlt G S y ([(ol, .inl (kcL G, 1, .inr (.inl g)))] ++ wr) x0 hI hY) (cwV 1 hts gL_progress_X5_progress rfl rfl rfl (by decide +kernel) ⟨Nat.le_of_ble_eq_true rfl, Nat.le_of_ble_eq_true rfl⟩) (kPreV hE hS hV 0 rfl rfl) rfl rfl hl.1 rfl (lv_room (Nat.le_of_ble_eq_true rfl)) dL_progress_4 ⟨Nat.le_of_ble_eq_true rfl, Nat.le_of_ble_eq_true rfl⟩) hS (fun E ce q9 H locs hxc hV hS hq1 hq2 hq3 => ?_) (fun r_3 u_2 H locs hp_1 hV hS => ?_)
  · obtain ⟨rfl, he9⟩ := hxc
    have hop9 : (opProgress S x0).2.2 = S := by
      have he8 : (opProgress S x0).1 ≠ 0 := by omega
      revert he8
      unfold opProgress kif
      (repeat' split) <;> first | exact fun _ => rfl | exact fun z => absurd rfl z
    refine vx_catch (name := "java/lang/IndexOutOfBoundsException") hown [] ⟨0, 9, 12, 13⟩ [] htab (fun z h => (List.not_mem_nil h).elim) (by decide) (by decide) (hts (Cond.classLink RL 13 "java/lang/IndexOutOfBoundsException") (List.mem_of_getElem? (i := 1) rfl)) ((hE.2.2.1 (.castable kIOB kIOB) (by decide +kernel)).use rfl) hq1 hq2 hq3 ?_
    refine lv_astore_n (lv' := [(3, .ref (q9)), (0, .ref (yH y 0)), (1, .int (x0)), (2, .ref (ol))]) hx hb dL_progress_12 rfl hl (by decide) rfl (fun ls hl => ?_)
    refine lv_iconst (v := nI 1) hx hb dL_progress_13 (by decide) ?_
    exact W.iret (v := nI 1) hx hb hrt (fun t ht hW => ⟨⟨_, (y, g), rfl, ⟨by rw [he9], by rw [hop9]; exact hY, rfl, fun z => absurd z (by omega)⟩, kV_eq ht (show kV G (siteW G (opProgress S x0).2.2 y ++ ([(ol, .inl (kcL G, 1, .inr (.inl g)))] ++ wr)) _ by rw [hop9]; exact hV)⟩, hS.F ht⟩) hS.2.2 dL_progress_14
  · obtain ⟨hp_10, hp_11, hp_12, hp_13⟩ := hp_1
    subst hp_11
    have hV : kV G (siteW G ((opProgress S x0).2.2) u_2 ++ ([(ol, .inl (kcL G, 1, .inr (.inl g)))] ++ wr)) _ := hV
    refine lv_i2l (v := (((opProgress S x0).2.1)).toInt64) hx hb dL_progress_7 rfl ?_
    have hV := kV_mid (show kV G (siteW G (opProgress S x0).2.2 u_2 ++ ([(ol, .inl (kcL G, 1, .inr (.inl g)))] ++ wr)) _ from hV)
    refine va_last hx hb hK hV.1 hV.2 hS 0 3 rfl rfl (vp_in_nI (by decide) (by decide)) dL_progress_8 (fun H locs hP hD hS => ?_)
    have hV : kV G (siteW G (opProgress S x0).2.2 u_2 ++ ([(ol, .inl (kcL G, 1, .inr (.inl (vp_updL g 0 (((opProgress S x0).2.1)).toInt64))))] ++ wr)) _ := kV_mid (show kV G ([(ol, .inl (kcL G, 1, .inr (.inl (vp_updL g 0 (((opProgress S x0).2.1)).toInt64))))] ++ (siteW G (opProgress S x0).2.2 u_2 ++ wr)) _ from ⟨hP, hD⟩)
    refine lv_goto (tgt := 15) hx hb dL_progress_9 (by decide) ?_
    refine lv_iconst (v := nI 0) hx hb dL_progress_15 (by decide) ?_
    exact W.iret (v := nI 0) hx hb hrt (fun t ht hW => ⟨⟨_, (u_2, vp_updL g 0 (((opProgress S x0).2.1)).toInt64), rfl, ⟨by rw [hp_10], hp_12, hp_13, fun _ => rfl⟩, kV_eq ht hV⟩, hS.F ht⟩) hS.2.2 dL_progress_16
